set_option maxHeartbeats 2000000 in
set_option maxRecDepth 100000 in
theorem sX13_bound (l : Launch) (dC : Nat → ClassId) (dI : Nat → Nat → Nat) (sz : Nat) (ad : Nat → Nat) (ca : Nat → ClassId) (g : Nat → Int) (a : Nat → Int → Int) (p1 : Int) (p2 : Int) (hI : mI g a) (q1 : rg p1) (q2 : rg p2) : Met l yX13_bound (jk yX13_bound cX13_bound 4 (some .boolean)) ({ frames := 1, cells := 0, slots := 0, locals := 22 }) (va_Pc [.ref (ad 0), .int (iI p1), .int (iI p2)] (jw_P (dC, dI) (mG ad ca g a) (mT ca) sz)) (va_Qi (fun (r : Int32) (u : (Nat → Int) × (Nat → Int → Int)) => ∃ z : Int, r = iI z ∧ (u.1 = g) ∧ (mI u.1 u.2) ∧ (∀ j, j ∉ ([19] : List Nat) → u.2 j = a j) ∧ (0 ≤ z ∧ z ≤ 1)) (fun u t => va_P (dC, dI) vwCl (mG ad ca u.1 u.2) t.heap ∧ va_K (dC, dI) vwCl (mT ca) t ∧ va_D (va_A (mG ad ca g a) sz) (mG ad ca u.1 u.2)) (va_A (mG ad ca g a) sz)) 0 0 (va_A (mG ad ca g a) sz) := by
  refine Met.ofW (cc := cX13_bound) (maxL := 4) (ret := (some .boolean)) (by decide) rfl ?_
  intro p e s m args below meth c s₁ B hml hv
  obtain ⟨rfl, hsz, hP, hK, hD0⟩ := hv
  have hx := B.exec
  have hb := B.bytes
  have hr := B.returns
  have hts := atoms_spec (ws := (jk yX13_bound cX13_bound 4 (some .boolean))) B.pre
  have hj : ∀ w ∈ jw, w.before ([.ref (ad 0), .int (iI p1), .int (iI p2)] : List Value).toArray s = true := fun w h => hts w (jm h)
  have hown : s.vm.findClass RX13 = some m.cls := findClass_of_methodNamed B.named
  subst hsz
  have hD := hD0.self (sz := s.heap.size)
  generalize hAe : (va_A (mG ad ca g a) s.heap.size) = A at hD ⊢
  have hA : ∀ q : Nat, s.heap.size ≤ q → A q := fun q h => by rw [← hAe]; exact Or.inr h
  have hS : va_S A s.heap s.heap [] := va_S.rf
  have hP : va_P (dC, dI) vwCl (mG ad ca g a) s.heap := hP
  have haA : ∀ j, j ∉ ([19] : List Nat) → a j = a j := fun _ _ => rfl
  have hl := lv_entry ([.ref (ad 0), .int (iI p1), .int (iI p2)]) (n := 4) (Nat.le_of_ble_eq_true rfl)
  rw [lg_entry_eq]
  generalize (lg_sl ([.ref (ad 0), .int (iI p1), .int (iI p2)]) ++ List.replicate (4 - (lg_sl ([.ref (ad 0), .int (iI p1), .int (iI p2)])).length) Slot.unset).toArray = ls at hl ⊢
  have hl : lv_has ls 4 [(0, .ref (ad 0)), (1, .int (iI p1)), (2, .int (iI p2))] := hl
  generalize hQ : MQ below (va_Qi (fun (r : Int32) (u : (Nat → Int) × (Nat → Int → Int)) => ∃ z : Int, r = iI z ∧ (u.1 = g) ∧ (mI u.1 u.2) ∧ (∀ j, j ∉ ([19] : List Nat) → u.2 j = a j) ∧ (0 ≤ z ∧ z ≤ 1)) (fun u t => va_P (dC, dI) vwCl (mG ad ca u.1 u.2) t.heap ∧ va_K (dC, dI) vwCl (mT ca) t ∧ va_D A (mG ad ca u.1 u.2)) A) ([.ref (ad 0), .int (iI p1), .int (iI p2)] : List Value).toArray s 0 0 A = Q
  suffices ST : ∀ (H : Heap) (locs : List Loc), va_P (dC, dI) vwCl (mG ad ca g a) H → va_S A s.heap H locs → W p l e ({ frames := 1, cells := 0, slots := 0, locals := 22 }) s m ([.ref (ad 0), .int (iI p1), .int (iI p2)] : List Value).toArray below meth c H locs 0 0 Q (F0 m 0 ls []) from ST _ _ hP hS
  clear hP hS
  intro H locs hP hS
  refine lv_iload_n hx hb dX13_bound_0 rfl (lv_at hl 1 rfl) ?_
  refine lv_iconst (v := iI 0) hx hb dX13_bound_1 rfl ?_
  refine lv_iconst (v := iI 4) hx hb dX13_bound_2 rfl ?_
  refine jc_i (va_runS (As := [.int (iI p1), .int (iI 0), .int (iI 4)]) (rest := []) ⟨hx, hb, hml, hown, hts⟩ (sX13_in l dC dI _ p1 0 4 (by omega) (by omega) (by omega)) (va_cwS 3 hts (jgoodS m_220 m_364 m_503 m_147) rfl rfl rfl (by decide +kernel) ⟨(Nat.le_of_ble_eq_true rfl), (Nat.le_of_ble_eq_true rfl)⟩) ⟨jw_blind0, fun U hU hW => ⟨rfl, congrArg Array.size hU⟩⟩ rfl rfl hl.1 rfl (lv_room (Nat.le_of_ble_eq_true rfl)) dX13_bound_3 ⟨(Nat.le_of_ble_eq_true rfl), (Nat.le_of_ble_eq_true rfl)⟩) hP hS hA (fun r_1 H locs w_2 hP hS => ?_)
  obtain ⟨z_3, rfl, h_4, h_5⟩ := w_2
  refine xr_if_eq (tgt := 50) hx hb dX13_bound_6 (by decide) (by omega) (fun h_6 => ?_) (fun h_6 => ?_)
  · refine lv_iconst (v := iI 0) hx hb dX13_bound_50 rfl ?_
    rw [← hQ]
    exact W.zret (v := iI 0) (ty := .boolean) hx hb hr (nb_bool (by omega) (by omega)) (fun t ht hW => ⟨⟨iI 0, (g, a), rfl, ⟨0, rfl, rfl, hI, haA, by omega⟩, by rw [ht]; exact hP, va_K.moved hW.alike hK, hD⟩, hS.F ht⟩) hS.2.2 dX13_bound_51
  · refine lv_iload_n hx hb dX13_bound_9 rfl (lv_at hl 2 rfl) ?_
    refine lv_iload_n hx hb dX13_bound_10 rfl (lv_at hl 1 rfl) ?_
    have J26 : ∀ (s0_26 : Int) (H : Heap) (locs : List Loc) (ls : Array Slot), (0 ≤ s0_26 ∧ s0_26 ≤ 25) → va_P (dC, dI) vwCl (mG ad ca g a) H → va_D A (mG ad ca g a) → va_S A s.heap H locs → lv_has ls 4 [(0, .ref (ad 0)), (1, .int (iI p1)), (2, .int (iI p2))] → W p l e ({ frames := 1, cells := 0, slots := 0, locals := 22 }) s m ([.ref (ad 0), .int (iI p1), .int (iI p2)] : List Value).toArray below meth c H locs 0 0 Q (F0 m 26 ls [.int (iI s0_26), .int (iI p2)]) := by
      intro s0_26 H locs ls h_7 hP hD hS hl
      refine lv_iload_n hx hb dX13_bound_26 rfl (lv_at hl 1 rfl) ?_
      refine lv_iconst (v := iI 4) hx hb dX13_bound_27 rfl ?_
      have J44 : ∀ (s0_44 : Int) (H : Heap) (locs : List Loc) (ls : Array Slot), (0 ≤ s0_44 ∧ s0_44 ≤ 25) → va_P (dC, dI) vwCl (mG ad ca g a) H → va_D A (mG ad ca g a) → va_S A s.heap H locs → lv_has ls 4 [(0, .ref (ad 0)), (1, .int (iI p1)), (2, .int (iI p2))] → W p l e ({ frames := 1, cells := 0, slots := 0, locals := 22 }) s m ([.ref (ad 0), .int (iI p1), .int (iI p2)] : List Value).toArray below meth c H locs 0 0 Q (F0 m 44 ls [.int (iI s0_44), .int (iI s0_26), .int (iI p2)]) := by
        intro s0_44 H locs ls h_8 hP hD hS hl
        refine jc_i (va_runS (As := [.int (iI p2), .int (iI s0_26), .int (iI s0_44)]) (rest := []) ⟨hx, hb, hml, hown, hts⟩ (sX13_in l dC dI _ p2 s0_26 s0_44 (by omega) (by omega) (by omega)) (va_cwS 3 hts (jgoodS m_220 m_364 m_503 m_147) rfl rfl rfl (by decide +kernel) ⟨(Nat.le_of_ble_eq_true rfl), (Nat.le_of_ble_eq_true rfl)⟩) ⟨jw_blind0, fun U hU hW => ⟨rfl, congrArg Array.size hU⟩⟩ rfl rfl hl.1 rfl (lv_room (Nat.le_of_ble_eq_true rfl)) dX13_bound_44 ⟨(Nat.le_of_ble_eq_true rfl), (Nat.le_of_ble_eq_true rfl)⟩) hP hS hA (fun r_9 H locs w_10 hP hS => ?_)
        obtain ⟨z_11, rfl, h_12, h_13⟩ := w_10
        refine xr_if_ne (tgt := 52) hx hb dX13_bound_47 (by decide) (by omega) (fun h_14 => ?_) (fun h_14 => ?_)
        · refine lv_iconst (v := iI 0) hx hb dX13_bound_52 rfl ?_
          refine lv_istore_n (lv' := [(3, .int (iI 0)), (0, .ref (ad 0)), (1, .int (iI p1)), (2, .int (iI p2))]) hx hb dX13_bound_53 rfl hl (by decide) rfl (fun ls hl => ?_)
          have L54 : ∀ (n54 : Nat) (v3_54 : Int) (H : Heap) (locs : List Loc) (ls : Array Slot), (0 ≤ v3_54 ∧ v3_54 ≤ 2147483647) → (0 < (n54 : Int) ∧ 6 - v3_54 < (n54 : Int)) → va_P (dC, dI) vwCl (mG ad ca g a) H → va_D A (mG ad ca g a) → va_S A s.heap H locs → lv_has ls 4 [(3, .int (iI v3_54)), (0, .ref (ad 0)), (1, .int (iI p1)), (2, .int (iI p2))] → W p l e ({ frames := 1, cells := 0, slots := 0, locals := 22 }) s m ([.ref (ad 0), .int (iI p1), .int (iI p2)] : List Value).toArray below meth c H locs 0 0 Q (F0 m 54 ls []) := by
            intro n54
            induction n54 with
            | zero =>
              intro v3_54 H locs ls h_15 hm54 hP hD hS hl
              exfalso; omega
            | succ n54 ih54 =>
              intro v3_54 H locs ls h_16 hm54 hP hD hS hl
              refine lv_iload_n hx hb dX13_bound_54 rfl (lv_at hl 0 rfl) ?_
              refine lv_bipush (v := iI 6) hx hb dX13_bound_55 rfl ?_
              refine xr_icmp_ge (tgt := 77) hx hb dX13_bound_57 (by decide) (by omega) (by omega) (fun h_17 => ?_) (fun h_17 => ?_)
              · refine lv_aload_n hx hb dX13_bound_77 rfl (lv_at hl 1 rfl) ?_
                refine gf_bounds hx hb hj hown hK hP dX13_bound_78 ?_
                refine lv_iload_n hx hb dX13_bound_81 rfl (lv_at hl 2 rfl) ?_
                refine lv_iload_n hx hb dX13_bound_82 rfl (lv_at hl 3 rfl) ?_
                refine st_bounds hx hb hK hP hD hS hI (by omega) (by omega) (by omega) (by omega) dX13_bound_83 (fun a_18 H locs e_19 e_20 hI hP hD hS => ?_)
                have haA : ∀ j, j ∉ ([19] : List Nat) → a_18 j = a j := fun j h => (e_19 j (fun q => h (q ▸ (by decide : 19 ∈ ([19] : List Nat))))).trans (haA j h)
                refine lv_iconst (v := iI 1) hx hb dX13_bound_84 rfl ?_
                rw [← hQ]
                exact W.zret (v := iI 1) (ty := .boolean) hx hb hr (nb_bool (by omega) (by omega)) (fun t ht hW => ⟨⟨iI 1, (g, a_18), rfl, ⟨1, rfl, rfl, hI, haA, by omega⟩, by rw [ht]; exact hP, va_K.moved hW.alike hK, hD⟩, hS.F ht⟩) hS.2.2 dX13_bound_85
              · refine lv_aload_n hx hb dX13_bound_60 rfl (lv_at hl 1 rfl) ?_
                refine gf_isSet hx hb hj hown hK hP dX13_bound_61 ?_
                refine lv_iload_n hx hb dX13_bound_64 rfl (lv_at hl 0 rfl) ?_
                refine ld_isSet hx hb hK hP hI (by omega) (by omega) dX13_bound_65 (fun h_21 => ?_)
                refine xr_if_eq (tgt := 71) hx hb dX13_bound_66 (by decide) (by omega) (fun h_22 => ?_) (fun h_22 => ?_)
                · refine lv_iinc (v := iI (v3_54 + 1)) (lv' := [(3, .int (iI (v3_54 + 1))), (0, .ref (ad 0)), (1, .int (iI p1)), (2, .int (iI p2))]) hx hb dX13_bound_71 hl (k := 0) rfl (iI_add _ _) (by decide) rfl (fun ls hl => ?_)
                  refine lv_goto (tgt := 54) hx hb dX13_bound_74 (by decide) ?_
                  exact ih54 (v3_54 + 1) H locs ls (by omega) (by omega) hP hD hS hl
                · refine lv_iconst (v := iI 0) hx hb dX13_bound_69 rfl ?_
                  rw [← hQ]
                  exact W.zret (v := iI 0) (ty := .boolean) hx hb hr (nb_bool (by omega) (by omega)) (fun t ht hW => ⟨⟨iI 0, (g, a), rfl, ⟨0, rfl, rfl, hI, haA, by omega⟩, by rw [ht]; exact hP, va_K.moved hW.alike hK, hD⟩, hS.F ht⟩) hS.2.2 dX13_bound_70
          exact L54 (((6 - 0 : Int)).toNat + 1) 0 H locs ls (by omega) (by omega) hP hD hS hl
        · refine lv_iconst (v := iI 0) hx hb dX13_bound_50 rfl ?_
          rw [← hQ]
          exact W.zret (v := iI 0) (ty := .boolean) hx hb hr (nb_bool (by omega) (by omega)) (fun t ht hW => ⟨⟨iI 0, (g, a), rfl, ⟨0, rfl, rfl, hI, haA, by omega⟩, by rw [ht]; exact hP, va_K.moved hW.alike hK, hD⟩, hS.F ht⟩) hS.2.2 dX13_bound_51
      refine xr_icmp_ne (tgt := 36) hx hb dX13_bound_28 (by decide) (by omega) (by omega) (fun h_23 => ?_) (fun h_23 => ?_)
      · refine lv_aload_n hx hb dX13_bound_36 rfl (lv_at hl 0 rfl) ?_
        refine gf_bounds hx hb hj hown hK hP dX13_bound_37 ?_
        refine lv_iload_n hx hb dX13_bound_40 rfl (lv_at hl 1 rfl) ?_
        refine lv_iconst (v := iI 1) hx hb dX13_bound_41 rfl ?_
        refine xr_add hx hb dX13_bound_42 ?_
        refine xr_kept (fun z_24 h_25 h_26 => ?_)
        refine ld_bounds hx hb hK hP hI (by omega) (by omega) dX13_bound_43 (fun h_27 => ?_)
        exact J44 (a 19 z_24) H locs ls (by omega) hP hD hS hl
      · refine lv_bipush (v := iI 25) hx hb dX13_bound_31 rfl ?_
        refine lv_goto (tgt := 44) hx hb dX13_bound_33 (by decide) ?_
        exact J44 25 H locs ls (by omega) hP hD hS hl
    refine xr_if_ne (tgt := 18) hx hb dX13_bound_11 (by decide) (by omega) (fun h_28 => ?_) (fun h_28 => ?_)
    · refine lv_aload_n hx hb dX13_bound_18 rfl (lv_at hl 0 rfl) ?_
      refine gf_bounds hx hb hj hown hK hP dX13_bound_19 ?_
      refine lv_iload_n hx hb dX13_bound_22 rfl (lv_at hl 1 rfl) ?_
      refine lv_iconst (v := iI 1) hx hb dX13_bound_23 rfl ?_
      refine xr_sub hx hb dX13_bound_24 ?_
      refine xr_kept (fun z_29 h_30 h_31 => ?_)
      refine ld_bounds hx hb hK hP hI (by omega) (by omega) dX13_bound_25 (fun h_32 => ?_)
      exact J26 (a 19 z_29) H locs ls (by omega) hP hD hS hl
    · refine lv_iconst (v := iI 0) hx hb dX13_bound_14 rfl ?_
      refine lv_goto (tgt := 26) hx hb dX13_bound_15 (by decide) ?_
      exact J26 0 H locs ls (by omega) hP hD hS hl
set_option maxHeartbeats 2000000 in
set_option maxRecDepth 100000 in
theorem sX13_count (l : Launch) (dC : Nat → ClassId) (dI : Nat → Nat → Nat) (sz : Nat) (ad : Nat → Nat) (ca : Nat → ClassId) (g : Nat → Int) (a : Nat → Int → Int) (p1 : Int) (hI : mI g a) (q1 : rg p1) : Met l yX13_count (jk yX13_count cX13_count 4 (some .int)) ({ frames := 1, cells := 0, slots := 0, locals := 22 }) (va_Pc [.ref (ad 0), .int (iI p1)] (jw_P (dC, dI) (mG ad ca g a) (mT ca) sz)) (va_Qi (fun (r : Int32) (_ : Unit) => ∃ z : Int, r = iI z ∧ (rg z)) (fun _ _ => True) (va_A [] sz)) 0 0 (va_A [] sz) := by
  refine Met.ofW (cc := cX13_count) (maxL := 4) (ret := (some .int)) (by decide) rfl ?_
  intro p e s m args below meth c s₁ B hml hv
  obtain ⟨rfl, hsz, hP, hK, hD0⟩ := hv
  have hx := B.exec
  have hb := B.bytes
  have hr := B.returns
  have hts := atoms_spec (ws := (jk yX13_count cX13_count 4 (some .int))) B.pre
  have hj : ∀ w ∈ jw, w.before ([.ref (ad 0), .int (iI p1)] : List Value).toArray s = true := fun w h => hts w (jm h)
  have hown : s.vm.findClass RX13 = some m.cls := findClass_of_methodNamed B.named
  subst hsz
  have hD := hD0
  generalize hAe : (va_A [] s.heap.size) = A
  have hA : ∀ q : Nat, s.heap.size ≤ q → A q := fun q h => by rw [← hAe]; exact Or.inr h
  have hS : va_S A s.heap s.heap [] := va_S.rf
  have hP : va_P (dC, dI) vwCl (mG ad ca g a) s.heap := hP
  have hl := lv_entry ([.ref (ad 0), .int (iI p1)]) (n := 4) (Nat.le_of_ble_eq_true rfl)
  rw [lg_entry_eq]
  generalize (lg_sl ([.ref (ad 0), .int (iI p1)]) ++ List.replicate (4 - (lg_sl ([.ref (ad 0), .int (iI p1)])).length) Slot.unset).toArray = ls at hl ⊢
  have hl : lv_has ls 4 [(0, .ref (ad 0)), (1, .int (iI p1))] := hl
  generalize hQ : MQ below (va_Qi (fun (r : Int32) (_ : Unit) => ∃ z : Int, r = iI z ∧ (rg z)) (fun _ _ => True) A) ([.ref (ad 0), .int (iI p1)] : List Value).toArray s 0 0 A = Q
  suffices ST : ∀ (H : Heap) (locs : List Loc), va_P (dC, dI) vwCl (mG ad ca g a) H → va_S A s.heap H locs → W p l e ({ frames := 1, cells := 0, slots := 0, locals := 22 }) s m ([.ref (ad 0), .int (iI p1)] : List Value).toArray below meth c H locs 0 0 Q (F0 m 0 ls []) from ST _ _ hP hS
  clear hP hS
  intro H locs hP hS
  refine lv_iconst (v := iI 0) hx hb dX13_count_0 rfl ?_
  refine lv_istore_n (lv' := [(2, .int (iI 0)), (0, .ref (ad 0)), (1, .int (iI p1))]) hx hb dX13_count_1 rfl hl (by decide) rfl (fun ls hl => ?_)
  refine lv_iload_n hx hb dX13_count_2 rfl (lv_at hl 2 rfl) ?_
  refine lv_bipush (v := iI 10) hx hb dX13_count_3 rfl ?_
  refine lv_bipush (v := iI 9) hx hb dX13_count_5 rfl ?_
  refine lv_aload_n hx hb dX13_count_7 rfl (lv_at hl 1 rfl) ?_
  refine gf_hands hx hb hj hown hK hP hI dX13_count_8 (fun h_1 => ?_)
  refine xr_add hx hb dX13_count_11 ?_
  refine jc_i (va_runS (As := [.int (iI p1), .int (iI 10), .int (iI (9 + (g 50)))]) (rest := []) ⟨hx, hb, hml, hown, hts⟩ (sX13_in l dC dI _ p1 10 (9 + (g 50)) (by omega) (by omega) (by omega)) (va_cwS 3 hts (jgoodS m_220 m_364 m_503 m_147) rfl rfl rfl (by decide +kernel) ⟨(Nat.le_of_ble_eq_true rfl), (Nat.le_of_ble_eq_true rfl)⟩) ⟨jw_blind0, fun U hU hW => ⟨rfl, congrArg Array.size hU⟩⟩ rfl rfl hl.1 rfl (lv_room (Nat.le_of_ble_eq_true rfl)) dX13_count_12 ⟨(Nat.le_of_ble_eq_true rfl), (Nat.le_of_ble_eq_true rfl)⟩) hP hS hA (fun r_2 H locs w_3 hP hS => ?_)
  obtain ⟨z_4, rfl, h_5, h_6⟩ := w_3
  refine xr_if_eq (tgt := 62) hx hb dX13_count_15 (by decide) (by omega) (fun h_7 => ?_) (fun h_7 => ?_)
  · refine lv_iload_n hx hb dX13_count_62 rfl (lv_at hl 2 rfl) ?_
    refine lv_bipush (v := iI 30) hx hb dX13_count_63 rfl ?_
    refine lv_bipush (v := iI 29) hx hb dX13_count_65 rfl ?_
    refine lv_aload_n hx hb dX13_count_67 rfl (lv_at hl 1 rfl) ?_
    refine gf_hands hx hb hj hown hK hP hI dX13_count_68 (fun h_8 => ?_)
    refine xr_add hx hb dX13_count_71 ?_
    refine jc_i (va_runS (As := [.int (iI p1), .int (iI 30), .int (iI (29 + (g 50)))]) (rest := []) ⟨hx, hb, hml, hown, hts⟩ (sX13_in l dC dI _ p1 30 (29 + (g 50)) (by omega) (by omega) (by omega)) (va_cwS 3 hts (jgoodS m_220 m_364 m_503 m_147) rfl rfl rfl (by decide +kernel) ⟨(Nat.le_of_ble_eq_true rfl), (Nat.le_of_ble_eq_true rfl)⟩) ⟨jw_blind0, fun U hU hW => ⟨rfl, congrArg Array.size hU⟩⟩ rfl rfl hl.1 rfl (lv_room (Nat.le_of_ble_eq_true rfl)) dX13_count_72 ⟨(Nat.le_of_ble_eq_true rfl), (Nat.le_of_ble_eq_true rfl)⟩) hP hS hA (fun r_9 H locs w_10 hP hS => ?_)
    obtain ⟨z_11, rfl, h_12, h_13⟩ := w_10
    refine xr_if_eq (tgt := 96) hx hb dX13_count_75 (by decide) (by omega) (fun h_14 => ?_) (fun h_14 => ?_)
    · refine lv_iload_n hx hb dX13_count_96 rfl (lv_at hl 2 rfl) ?_
      rcases (show (p1 < 0 ∨ 8 < p1) ∨ p1 = 0 ∨ p1 = 1 ∨ p1 = 2 ∨ p1 = 3 ∨ p1 = 4 ∨ p1 = 5 ∨ p1 = 6 ∨ p1 = 7 ∨ p1 = 8 by omega) with h_15 | h_15 | h_15 | h_15 | h_15 | h_15 | h_15 | h_15 | h_15 | h_15
      · refine lv_tableOut (tgt := 245) hx hb dX13_count_97 (by rw [iI_toInt (by omega)]; omega) (by decide) ?_
        refine lv_iconst (v := iI (-1)) hx hb dX13_count_245 rfl ?_
        rw [← hQ]
        exact W.iret (v := iI (-1)) hx hb hr (fun t ht hW => ⟨⟨iI (-1), (), rfl, ⟨(-1), rfl, by omega⟩, trivial⟩, hS.F ht⟩) hS.2.2 dX13_count_246
      · refine jtab_in (v := iI 0) (off := 51) (tgt := 148) hx hb dX13_count_97 (by rw [h_15]) (by decide) (by decide) (by decide) (by decide) ?_
        refine lv_aload_n hx hb dX13_count_148 rfl (lv_at hl 1 rfl) ?_
        refine gf_now hx hb hj hown hK hP hI dX13_count_149 (fun h_16 => ?_)
        rw [← hQ]
        exact W.iret (v := iI (g 30)) hx hb hr (fun t ht hW => ⟨⟨iI (g 30), (), rfl, ⟨g 30, rfl, by omega⟩, trivial⟩, hS.F ht⟩) hS.2.2 dX13_count_152
      · refine jtab_in (v := iI 1) (off := 56) (tgt := 153) hx hb dX13_count_97 (by rw [h_15]) (by decide) (by decide) (by decide) (by decide) ?_
        refine lv_aload_n hx hb dX13_count_153 rfl (lv_at hl 1 rfl) ?_
        refine gf_entries hx hb hj hown hK hP hI dX13_count_154 (fun h_17 => ?_)
        rw [← hQ]
        exact W.iret (v := iI (g 37)) hx hb hr (fun t ht hW => ⟨⟨iI (g 37), (), rfl, ⟨g 37, rfl, by omega⟩, trivial⟩, hS.F ht⟩) hS.2.2 dX13_count_157
      · refine jtab_in (v := iI 2) (off := 61) (tgt := 158) hx hb dX13_count_97 (by rw [h_15]) (by decide) (by decide) (by decide) (by decide) ?_
        refine lv_aload_n hx hb dX13_count_158 rfl (lv_at hl 1 rfl) ?_
        refine gf_hands hx hb hj hown hK hP hI dX13_count_159 (fun h_18 => ?_)
        rw [← hQ]
        exact W.iret (v := iI (g 50)) hx hb hr (fun t ht hW => ⟨⟨iI (g 50), (), rfl, ⟨g 50, rfl, by omega⟩, trivial⟩, hS.F ht⟩) hS.2.2 dX13_count_162
      · refine jtab_in (v := iI 3) (off := 66) (tgt := 163) hx hb dX13_count_97 (by rw [h_15]) (by decide) (by decide) (by decide) (by decide) ?_
        refine lv_aload_n hx hb dX13_count_163 rfl (lv_at hl 1 rfl) ?_
        refine gf_lines hx hb hj hown hK hP hI dX13_count_164 (fun h_19 => ?_)
        rw [← hQ]
        exact W.iret (v := iI (g 56)) hx hb hr (fun t ht hW => ⟨⟨iI (g 56), (), rfl, ⟨g 56, rfl, by omega⟩, trivial⟩, hS.F ht⟩) hS.2.2 dX13_count_167
      · refine jtab_in (v := iI 4) (off := 71) (tgt := 168) hx hb dX13_count_97 (by rw [h_15]) (by decide) (by decide) (by decide) (by decide) ?_
        refine lv_aload_n hx hb dX13_count_168 rfl (lv_at hl 1 rfl) ?_
        refine gf_sheets hx hb hj hown hK hP hI dX13_count_169 (fun h_20 => ?_)
        rw [← hQ]
        exact W.iret (v := iI (g 18)) hx hb hr (fun t ht hW => ⟨⟨iI (g 18), (), rfl, ⟨g 18, rfl, by omega⟩, trivial⟩, hS.F ht⟩) hS.2.2 dX13_count_172
      · refine jtab_in (v := iI 5) (off := 76) (tgt := 173) hx hb dX13_count_97 (by rw [h_15]) (by decide) (by decide) (by decide) (by decide) ?_
        refine lv_aload_n hx hb dX13_count_173 rfl (lv_at hl 1 rfl) ?_
        refine gf_errata hx hb hj hown hK hP hI dX13_count_174 (fun h_21 => ?_)
        rw [← hQ]
        exact W.iret (v := iI (g 71)) hx hb hr (fun t ht hW => ⟨⟨iI (g 71), (), rfl, ⟨g 71, rfl, by omega⟩, trivial⟩, hS.F ht⟩) hS.2.2 dX13_count_177
      · refine jtab_in (v := iI 6) (off := 81) (tgt := 178) hx hb dX13_count_97 (by rw [h_15]) (by decide) (by decide) (by decide) (by decide) ?_
        refine lv_iconst (v := iI 0) hx hb dX13_count_178 rfl ?_
        refine lv_istore_n (lv' := [(3, .int (iI 0)), (2, .int (iI 0)), (0, .ref (ad 0)), (1, .int (iI p1))]) hx hb dX13_count_179 rfl hl (by decide) rfl (fun ls hl => ?_)
        have L180 : ∀ (n180 : Nat) (v3_180 v2_180 : Int) (H : Heap) (locs : List Loc) (ls : Array Slot), (0 ≤ v3_180 ∧ v3_180 ≤ 2147483647) → ((-2147483648) ≤ v2_180 ∧ v2_180 ≤ 2147483647) → (0 < (n180 : Int) ∧ 6 - v3_180 < (n180 : Int)) → va_P (dC, dI) vwCl (mG ad ca g a) H → va_S A s.heap H locs → lv_has ls 4 [(3, .int (iI v3_180)), (2, .int (iI v2_180)), (0, .ref (ad 0)), (1, .int (iI p1))] → W p l e ({ frames := 1, cells := 0, slots := 0, locals := 22 }) s m ([.ref (ad 0), .int (iI p1)] : List Value).toArray below meth c H locs 0 0 Q (F0 m 180 ls []) := by
          intro n180
          induction n180 with
          | zero =>
            intro v3_180 v2_180 H locs ls h_22 h_23 hm180 hP hS hl
            exfalso; omega
          | succ n180 ih180 =>
            intro v3_180 v2_180 H locs ls h_24 h_25 hm180 hP hS hl
            refine lv_iload_n hx hb dX13_count_180 rfl (lv_at hl 0 rfl) ?_
            refine lv_bipush (v := iI 6) hx hb dX13_count_181 rfl ?_
            refine xr_icmp_ge (tgt := 211) hx hb dX13_count_183 (by decide) (by omega) (by omega) (fun h_26 => ?_) (fun h_26 => ?_)
            · refine lv_iload_n hx hb dX13_count_211 rfl (lv_at hl 1 rfl) ?_
              rw [← hQ]
              exact W.iret (v := iI v2_180) hx hb hr (fun t ht hW => ⟨⟨iI v2_180, (), rfl, ⟨v2_180, rfl, by omega⟩, trivial⟩, hS.F ht⟩) hS.2.2 dX13_count_212
            · refine lv_iload_n hx hb dX13_count_186 rfl (lv_at hl 1 rfl) ?_
              refine lv_aload_n hx hb dX13_count_187 rfl (lv_at hl 2 rfl) ?_
              refine gf_isSet hx hb hj hown hK hP dX13_count_188 ?_
              refine lv_iload_n hx hb dX13_count_191 rfl (lv_at hl 0 rfl) ?_
              refine ld_isSet hx hb hK hP hI (by omega) (by omega) dX13_count_192 (fun h_27 => ?_)
              have J203 : ∀ (s0_203 : Int) (H : Heap) (locs : List Loc) (ls : Array Slot), ((-2147483648) ≤ s0_203 ∧ s0_203 ≤ 2147483647) → va_P (dC, dI) vwCl (mG ad ca g a) H → va_S A s.heap H locs → lv_has ls 4 [(3, .int (iI v3_180)), (2, .int (iI v2_180)), (0, .ref (ad 0)), (1, .int (iI p1))] → W p l e ({ frames := 1, cells := 0, slots := 0, locals := 22 }) s m ([.ref (ad 0), .int (iI p1)] : List Value).toArray below meth c H locs 0 0 Q (F0 m 203 ls [.int (iI s0_203), .int (iI v2_180)]) := by
                intro s0_203 H locs ls h_28 hP hS hl
                refine lv_ior hx hb dX13_count_203 ?_
                refine xr_any (fun z_29 h_30 => ?_)
                refine lv_istore_n (lv' := [(2, .int (iI z_29)), (3, .int (iI v3_180)), (0, .ref (ad 0)), (1, .int (iI p1))]) hx hb dX13_count_204 rfl hl (by decide) rfl (fun ls hl => ?_)
                refine lv_iinc (v := iI (v3_180 + 1)) (lv' := [(3, .int (iI (v3_180 + 1))), (2, .int (iI z_29)), (0, .ref (ad 0)), (1, .int (iI p1))]) hx hb dX13_count_205 hl (k := 1) rfl (iI_add _ _) (by decide) rfl (fun ls hl => ?_)
                refine lv_goto (tgt := 180) hx hb dX13_count_208 (by decide) ?_
                exact ih180 (v3_180 + 1) z_29 H locs ls (by omega) (by omega) (by omega) hP hS hl
              refine xr_if_eq (tgt := 202) hx hb dX13_count_193 (by decide) (by omega) (fun h_31 => ?_) (fun h_31 => ?_)
              · refine lv_iconst (v := iI 0) hx hb dX13_count_202 rfl ?_
                exact J203 0 H locs ls (by omega) hP hS hl
              · refine lv_iconst (v := iI 1) hx hb dX13_count_196 rfl ?_
                refine lv_iload_n hx hb dX13_count_197 rfl (lv_at hl 0 rfl) ?_
                refine lv_ishl hx hb dX13_count_198 ?_
                refine xr_any (fun z_32 h_33 => ?_)
                refine lv_goto (tgt := 203) hx hb dX13_count_199 (by decide) ?_
                exact J203 z_32 H locs ls (by omega) hP hS hl
        exact L180 (((6 - 0 : Int)).toNat + 1) 0 0 H locs ls (by omega) (by omega) (by omega) hP hS hl
      · refine jtab_in (v := iI 7) (off := 116) (tgt := 213) hx hb dX13_count_97 (by rw [h_15]) (by decide) (by decide) (by decide) (by decide) ?_
        refine lv_aload_n hx hb dX13_count_213 rfl (lv_at hl 1 rfl) ?_
        refine gf_size hx hb hj hown hK hP hI dX13_count_214 (fun h_34 => ?_)
        rw [← hQ]
        exact W.iret (v := iI (g 1)) hx hb hr (fun t ht hW => ⟨⟨iI (g 1), (), rfl, ⟨g 1, rfl, by omega⟩, trivial⟩, hS.F ht⟩) hS.2.2 dX13_count_217
      · refine jtab_in (v := iI 8) (off := 121) (tgt := 218) hx hb dX13_count_97 (by rw [h_15]) (by decide) (by decide) (by decide) (by decide) ?_
        refine lv_iconst (v := iI 0) hx hb dX13_count_218 rfl ?_
        refine lv_istore_n (lv' := [(3, .int (iI 0)), (2, .int (iI 0)), (0, .ref (ad 0)), (1, .int (iI p1))]) hx hb dX13_count_219 rfl hl (by decide) rfl (fun ls hl => ?_)
        have L220 : ∀ (n220 : Nat) (v3_220 v2_220 : Int) (H : Heap) (locs : List Loc) (ls : Array Slot), (0 ≤ v3_220 ∧ v3_220 ≤ 2147483647) → ((-2147483648) ≤ v2_220 ∧ v2_220 ≤ 2147483647) → (0 < (n220 : Int) ∧ (g 56) - v3_220 < (n220 : Int)) → va_P (dC, dI) vwCl (mG ad ca g a) H → va_S A s.heap H locs → lv_has ls 4 [(3, .int (iI v3_220)), (2, .int (iI v2_220)), (0, .ref (ad 0)), (1, .int (iI p1))] → W p l e ({ frames := 1, cells := 0, slots := 0, locals := 22 }) s m ([.ref (ad 0), .int (iI p1)] : List Value).toArray below meth c H locs 0 0 Q (F0 m 220 ls []) := by
          intro n220
          induction n220 with
          | zero =>
            intro v3_220 v2_220 H locs ls h_35 h_36 hm220 hP hS hl
            exfalso; omega
          | succ n220 ih220 =>
            intro v3_220 v2_220 H locs ls h_37 h_38 hm220 hP hS hl
            refine lv_iload_n hx hb dX13_count_220 rfl (lv_at hl 0 rfl) ?_
            refine lv_aload_n hx hb dX13_count_221 rfl (lv_at hl 2 rfl) ?_
            refine gf_lines hx hb hj hown hK hP hI dX13_count_222 (fun h_39 => ?_)
            refine xr_icmp_ge (tgt := 243) hx hb dX13_count_225 (by decide) (by omega) (by omega) (fun h_40 => ?_) (fun h_40 => ?_)
            · refine lv_iload_n hx hb dX13_count_243 rfl (lv_at hl 1 rfl) ?_
              rw [← hQ]
              exact W.iret (v := iI v2_220) hx hb hr (fun t ht hW => ⟨⟨iI v2_220, (), rfl, ⟨v2_220, rfl, by omega⟩, trivial⟩, hS.F ht⟩) hS.2.2 dX13_count_244
            · refine lv_iload_n hx hb dX13_count_228 rfl (lv_at hl 1 rfl) ?_
              refine lv_aload_n hx hb dX13_count_229 rfl (lv_at hl 2 rfl) ?_
              refine gf_linePay hx hb hj hown hK hP dX13_count_230 ?_
              refine lv_iload_n hx hb dX13_count_233 rfl (lv_at hl 0 rfl) ?_
              refine ld_linePay hx hb hK hP hI (by omega) (by omega) dX13_count_234 (fun h_41 => ?_)
              refine xr_add hx hb dX13_count_235 ?_
              refine xr_kept (fun z_42 h_43 h_44 => ?_)
              refine lv_istore_n (lv' := [(2, .int (iI z_42)), (3, .int (iI v3_220)), (0, .ref (ad 0)), (1, .int (iI p1))]) hx hb dX13_count_236 rfl hl (by decide) rfl (fun ls hl => ?_)
              refine lv_iinc (v := iI (v3_220 + 1)) (lv' := [(3, .int (iI (v3_220 + 1))), (2, .int (iI z_42)), (0, .ref (ad 0)), (1, .int (iI p1))]) hx hb dX13_count_237 hl (k := 1) rfl (iI_add _ _) (by decide) rfl (fun ls hl => ?_)
              refine lv_goto (tgt := 220) hx hb dX13_count_240 (by decide) ?_
              exact ih220 (v3_220 + 1) z_42 H locs ls (by omega) (by omega) (by omega) hP hS hl
        exact L220 ((((g 56) - 0 : Int)).toNat + 1) 0 0 H locs ls (by omega) (by omega) (by omega) hP hS hl
    · refine lv_aload_n hx hb dX13_count_78 rfl (lv_at hl 1 rfl) ?_
      refine gf_isDead hx hb hj hown hK hP dX13_count_79 ?_
      refine lv_iload_n hx hb dX13_count_82 rfl (lv_at hl 2 rfl) ?_
      refine lv_bipush (v := iI 30) hx hb dX13_count_83 rfl ?_
      refine xr_sub hx hb dX13_count_85 ?_
      refine xr_kept (fun z_45 h_46 h_47 => ?_)
      refine ld_isDead hx hb hK hP hI (by omega) (by omega) dX13_count_86 (fun h_48 => ?_)
      refine xr_if_eq (tgt := 94) hx hb dX13_count_87 (by decide) (by omega) (fun h_49 => ?_) (fun h_49 => ?_)
      · refine lv_iconst (v := iI 1) hx hb dX13_count_94 rfl ?_
        rw [← hQ]
        exact W.iret (v := iI 1) hx hb hr (fun t ht hW => ⟨⟨iI 1, (), rfl, ⟨1, rfl, by omega⟩, trivial⟩, hS.F ht⟩) hS.2.2 dX13_count_95
      · refine lv_iconst (v := iI 0) hx hb dX13_count_90 rfl ?_
        refine lv_goto (tgt := 95) hx hb dX13_count_91 (by decide) ?_
        rw [← hQ]
        exact W.iret (v := iI 0) hx hb hr (fun t ht hW => ⟨⟨iI 0, (), rfl, ⟨0, rfl, by omega⟩, trivial⟩, hS.F ht⟩) hS.2.2 dX13_count_95
  · refine lv_iconst (v := iI 0) hx hb dX13_count_18 rfl ?_
    refine lv_istore_n (lv' := [(3, .int (iI 0)), (2, .int (iI 0)), (0, .ref (ad 0)), (1, .int (iI p1))]) hx hb dX13_count_19 rfl hl (by decide) rfl (fun ls hl => ?_)
    have L20 : ∀ (n20 : Nat) (v3_20 v2_20 : Int) (H : Heap) (locs : List Loc) (ls : Array Slot), (0 ≤ v3_20 ∧ v3_20 ≤ 2147483647) → ((-2147483648) ≤ v2_20 ∧ v2_20 ≤ 2147483647) → (0 < (n20 : Int) ∧ (g 56) - v3_20 < (n20 : Int)) → va_P (dC, dI) vwCl (mG ad ca g a) H → va_S A s.heap H locs → lv_has ls 4 [(3, .int (iI v3_20)), (2, .int (iI v2_20)), (0, .ref (ad 0)), (1, .int (iI p1))] → W p l e ({ frames := 1, cells := 0, slots := 0, locals := 22 }) s m ([.ref (ad 0), .int (iI p1)] : List Value).toArray below meth c H locs 0 0 Q (F0 m 20 ls []) := by
      intro n20
      induction n20 with
      | zero =>
        intro v3_20 v2_20 H locs ls h_50 h_51 hm20 hP hS hl
        exfalso; omega
      | succ n20 ih20 =>
        intro v3_20 v2_20 H locs ls h_52 h_53 hm20 hP hS hl
        refine lv_iload_n hx hb dX13_count_20 rfl (lv_at hl 0 rfl) ?_
        refine lv_aload_n hx hb dX13_count_21 rfl (lv_at hl 2 rfl) ?_
        refine gf_lines hx hb hj hown hK hP hI dX13_count_22 (fun h_54 => ?_)
        refine xr_icmp_ge (tgt := 60) hx hb dX13_count_25 (by decide) (by omega) (by omega) (fun h_55 => ?_) (fun h_55 => ?_)
        · refine lv_iload_n hx hb dX13_count_60 rfl (lv_at hl 1 rfl) ?_
          rw [← hQ]
          exact W.iret (v := iI v2_20) hx hb hr (fun t ht hW => ⟨⟨iI v2_20, (), rfl, ⟨v2_20, rfl, by omega⟩, trivial⟩, hS.F ht⟩) hS.2.2 dX13_count_61
        · refine lv_iload_n hx hb dX13_count_28 rfl (lv_at hl 1 rfl) ?_
          refine lv_aload_n hx hb dX13_count_29 rfl (lv_at hl 2 rfl) ?_
          refine gf_lineHand hx hb hj hown hK hP dX13_count_30 ?_
          refine lv_iload_n hx hb dX13_count_33 rfl (lv_at hl 0 rfl) ?_
          refine ld_lineHand hx hb hK hP hI (by omega) (by omega) dX13_count_34 (fun h_56 => ?_)
          refine lv_iload_n hx hb dX13_count_35 rfl (lv_at hl 3 rfl) ?_
          refine lv_bipush (v := iI 10) hx hb dX13_count_36 rfl ?_
          refine xr_sub hx hb dX13_count_38 ?_
          refine xr_kept (fun z_57 h_58 h_59 => ?_)
          have J52 : ∀ (s0_52 : Int) (H : Heap) (locs : List Loc) (ls : Array Slot), ((-2147483648) ≤ s0_52 ∧ s0_52 ≤ 2147483647) → va_P (dC, dI) vwCl (mG ad ca g a) H → va_S A s.heap H locs → lv_has ls 4 [(3, .int (iI v3_20)), (2, .int (iI v2_20)), (0, .ref (ad 0)), (1, .int (iI p1))] → W p l e ({ frames := 1, cells := 0, slots := 0, locals := 22 }) s m ([.ref (ad 0), .int (iI p1)] : List Value).toArray below meth c H locs 0 0 Q (F0 m 52 ls [.int (iI s0_52), .int (iI v2_20)]) := by
            intro s0_52 H locs ls h_60 hP hS hl
            refine xr_add hx hb dX13_count_52 ?_
            refine xr_kept (fun z_61 h_62 h_63 => ?_)
            refine lv_istore_n (lv' := [(2, .int (iI z_61)), (3, .int (iI v3_20)), (0, .ref (ad 0)), (1, .int (iI p1))]) hx hb dX13_count_53 rfl hl (by decide) rfl (fun ls hl => ?_)
            refine lv_iinc (v := iI (v3_20 + 1)) (lv' := [(3, .int (iI (v3_20 + 1))), (2, .int (iI z_61)), (0, .ref (ad 0)), (1, .int (iI p1))]) hx hb dX13_count_54 hl (k := 1) rfl (iI_add _ _) (by decide) rfl (fun ls hl => ?_)
            refine lv_goto (tgt := 20) hx hb dX13_count_57 (by decide) ?_
            exact ih20 (v3_20 + 1) z_61 H locs ls (by omega) (by omega) (by omega) hP hS hl
          refine xr_icmp_ne (tgt := 51) hx hb dX13_count_39 (by decide) (by omega) (by omega) (fun h_64 => ?_) (fun h_64 => ?_)
          · refine lv_iconst (v := iI 0) hx hb dX13_count_51 rfl ?_
            exact J52 0 H locs ls (by omega) hP hS hl
          · refine lv_aload_n hx hb dX13_count_42 rfl (lv_at hl 2 rfl) ?_
            refine gf_linePay hx hb hj hown hK hP dX13_count_43 ?_
            refine lv_iload_n hx hb dX13_count_46 rfl (lv_at hl 0 rfl) ?_
            refine ld_linePay hx hb hK hP hI (by omega) (by omega) dX13_count_47 (fun h_65 => ?_)
            refine lv_goto (tgt := 52) hx hb dX13_count_48 (by decide) ?_
            exact J52 (a 48 v3_20) H locs ls (by omega) hP hS hl
    exact L20 ((((g 56) - 0 : Int)).toNat + 1) 0 0 H locs ls (by omega) (by omega) (by omega) hP hS hl
set_option maxHeartbeats 2000000 in
set_option maxRecDepth 100000 in
theorem sX13_mend (l : Launch) (dC : Nat → ClassId) (dI : Nat → Nat → Nat) (sz : Nat) (ad : Nat → Nat) (ca : Nat → ClassId) (g : Nat → Int) (a : Nat → Int → Int) (p1 : Int) (hI : mI g a) (q1 : rg p1) : Met l yX13_mend (jk yX13_mend cX13_mend 2 (some .int)) ({ frames := 2, cells := 0, slots := 0, locals := 46 }) (va_Pc [.ref (ad 0), .int (iI p1)] (jw_P (dC, dI) (mG ad ca g a) (mT ca) sz)) (va_Qi (fun (r : Int32) (u : (Nat → Int) × (Nat → Int → Int)) => ∃ z : Int, r = iI z ∧ (u.1 = g) ∧ (mI u.1 u.2) ∧ (∀ j, j ∉ ([46] : List Nat) → u.2 j = a j) ∧ (rg z)) (fun u t => va_P (dC, dI) vwCl (mG ad ca u.1 u.2) t.heap ∧ va_K (dC, dI) vwCl (mT ca) t ∧ va_D (va_A (mG ad ca g a) sz) (mG ad ca u.1 u.2)) (va_A (mG ad ca g a) sz)) 0 0 (va_A (mG ad ca g a) sz) := by
  refine Met.ofW (cc := cX13_mend) (maxL := 2) (ret := (some .int)) (by decide) rfl ?_
  intro p e s m args below meth c s₁ B hml hv
  obtain ⟨rfl, hsz, hP, hK, hD0⟩ := hv
  have hx := B.exec
  have hb := B.bytes
  have hr := B.returns
  have hts := atoms_spec (ws := (jk yX13_mend cX13_mend 2 (some .int))) B.pre
  have hj : ∀ w ∈ jw, w.before ([.ref (ad 0), .int (iI p1)] : List Value).toArray s = true := fun w h => hts w (jm h)
  have hown : s.vm.findClass RX13 = some m.cls := findClass_of_methodNamed B.named
  subst hsz
  have hD := hD0.self (sz := s.heap.size)
  generalize hAe : (va_A (mG ad ca g a) s.heap.size) = A at hD ⊢
  have hA : ∀ q : Nat, s.heap.size ≤ q → A q := fun q h => by rw [← hAe]; exact Or.inr h
  have hS : va_S A s.heap s.heap [] := va_S.rf
  have hP : va_P (dC, dI) vwCl (mG ad ca g a) s.heap := hP
  have haA : ∀ j, j ∉ ([46] : List Nat) → a j = a j := fun _ _ => rfl
  have hl := lv_entry ([.ref (ad 0), .int (iI p1)]) (n := 2) (Nat.le_of_ble_eq_true rfl)
  rw [lg_entry_eq]
  generalize (lg_sl ([.ref (ad 0), .int (iI p1)]) ++ List.replicate (2 - (lg_sl ([.ref (ad 0), .int (iI p1)])).length) Slot.unset).toArray = ls at hl ⊢
  have hl : lv_has ls 2 [(0, .ref (ad 0)), (1, .int (iI p1))] := hl
  generalize hQ : MQ below (va_Qi (fun (r : Int32) (u : (Nat → Int) × (Nat → Int → Int)) => ∃ z : Int, r = iI z ∧ (u.1 = g) ∧ (mI u.1 u.2) ∧ (∀ j, j ∉ ([46] : List Nat) → u.2 j = a j) ∧ (rg z)) (fun u t => va_P (dC, dI) vwCl (mG ad ca u.1 u.2) t.heap ∧ va_K (dC, dI) vwCl (mT ca) t ∧ va_D A (mG ad ca u.1 u.2)) A) ([.ref (ad 0), .int (iI p1)] : List Value).toArray s 0 0 A = Q
  suffices ST : ∀ (H : Heap) (locs : List Loc), va_P (dC, dI) vwCl (mG ad ca g a) H → va_S A s.heap H locs → W p l e ({ frames := 2, cells := 0, slots := 0, locals := 46 }) s m ([.ref (ad 0), .int (iI p1)] : List Value).toArray below meth c H locs 0 0 Q (F0 m 0 ls []) from ST _ _ hP hS
  clear hP hS
  intro H locs hP hS
  refine lv_aload_n hx hb dX13_mend_0 rfl (lv_at hl 0 rfl) ?_
  refine lv_iload_n hx hb dX13_mend_1 rfl (lv_at hl 1 rfl) ?_
  refine jc_i (va_runV (As := [.int (iI p1)]) (rest := []) ⟨hx, hb, hml, hown, hts⟩ (sX13_isLine l dC dI _ ad ca g a p1 hI (by omega)) (cwV 1 hts (jgoodV m_273 m_385 m_386 m_503 m_159) rfl rfl rfl (by decide +kernel) ⟨(Nat.le_of_ble_eq_true rfl), (Nat.le_of_ble_eq_true rfl)⟩) ⟨jw_blind, va_recv hK hP (ci := 13) (q0 := 0) rfl rfl, fun U hU hW => ⟨rfl, jw_of hU hW hP hK hD⟩⟩ rfl rfl hl.1 rfl (lv_room (Nat.le_of_ble_eq_true rfl)) dX13_mend_2 ⟨(Nat.le_of_ble_eq_true rfl), (Nat.le_of_ble_eq_true rfl)⟩) hP hS hA (fun r_1 H locs w_2 hP hS => ?_)
  obtain ⟨z_3, rfl, h_4, h_5⟩ := w_2
  have b_6 : 0 ≤ g 56 ∧ g 56 ≤ 300 := hI.1 56
  refine xr_if_eq (tgt := 26) hx hb dX13_mend_5 (by decide) (by omega) (fun h_7 => ?_) (fun h_7 => ?_)
  · refine lv_iconst (v := iI (-1)) hx hb dX13_mend_26 rfl ?_
    rw [← hQ]
    exact W.iret (v := iI (-1)) hx hb hr (fun t ht hW => ⟨⟨iI (-1), (g, a), rfl, ⟨(-1), rfl, rfl, hI, haA, by omega⟩, by rw [ht]; exact hP, va_K.moved hW.alike hK, hD⟩, hS.F ht⟩) hS.2.2 dX13_mend_27
  · refine lv_aload_n hx hb dX13_mend_8 rfl (lv_at hl 0 rfl) ?_
    refine lv_iload_n hx hb dX13_mend_9 rfl (lv_at hl 1 rfl) ?_
    refine jc_i (va_runV (As := [.int (iI p1)]) (rest := []) ⟨hx, hb, hml, hown, hts⟩ (sX13_isSetLine l dC dI _ ad ca g a p1 hI (by omega) (by omega)) (cwV 1 hts (jgoodV m_275 m_387 m_388 m_503 m_160) rfl rfl rfl (by decide +kernel) ⟨(Nat.le_of_ble_eq_true rfl), (Nat.le_of_ble_eq_true rfl)⟩) ⟨jw_blind, va_recv hK hP (ci := 13) (q0 := 0) rfl rfl, fun U hU hW => ⟨rfl, jw_of hU hW hP hK hD⟩⟩ rfl rfl hl.1 rfl (lv_room (Nat.le_of_ble_eq_true rfl)) dX13_mend_10 ⟨(Nat.le_of_ble_eq_true rfl), (Nat.le_of_ble_eq_true rfl)⟩) hP hS hA (fun r_8 H locs w_9 hP hS => ?_)
    obtain ⟨z_10, rfl, h_11⟩ := w_9
    refine xr_if_ne (tgt := 26) hx hb dX13_mend_13 (by decide) (by omega) (fun h_12 => ?_) (fun h_12 => ?_)
    · refine lv_iconst (v := iI (-1)) hx hb dX13_mend_26 rfl ?_
      rw [← hQ]
      exact W.iret (v := iI (-1)) hx hb hr (fun t ht hW => ⟨⟨iI (-1), (g, a), rfl, ⟨(-1), rfl, rfl, hI, haA, by omega⟩, by rw [ht]; exact hP, va_K.moved hW.alike hK, hD⟩, hS.F ht⟩) hS.2.2 dX13_mend_27
    · refine lv_aload_n hx hb dX13_mend_16 rfl (lv_at hl 0 rfl) ?_
      refine gf_lineFact hx hb hj hown hK hP dX13_mend_17 ?_
      refine lv_iload_n hx hb dX13_mend_20 rfl (lv_at hl 1 rfl) ?_
      refine ld_lineFact hx hb hK hP hI (by omega) (by omega) dX13_mend_21 (fun h_13 => ?_)
      refine lv_iconst (v := iI (-1)) hx hb dX13_mend_22 rfl ?_
      refine xr_icmp_ne (tgt := 28) hx hb dX13_mend_23 (by decide) (by omega) (by omega) (fun h_14 => ?_) (fun h_14 => ?_)
      · refine lv_aload_n hx hb dX13_mend_28 rfl (lv_at hl 0 rfl) ?_
        refine gf_lineKeeps hx hb hj hown hK hP dX13_mend_29 ?_
        refine lv_iload_n hx hb dX13_mend_32 rfl (lv_at hl 1 rfl) ?_
        refine lv_aload_n hx hb dX13_mend_33 rfl (lv_at hl 0 rfl) ?_
        refine lv_aload_n hx hb dX13_mend_34 rfl (lv_at hl 0 rfl) ?_
        refine gf_lineFact hx hb hj hown hK hP dX13_mend_35 ?_
        refine lv_iload_n hx hb dX13_mend_38 rfl (lv_at hl 1 rfl) ?_
        refine ld_lineFact hx hb hK hP hI (by omega) (by omega) dX13_mend_39 (fun h_15 => ?_)
        refine lv_aload_n hx hb dX13_mend_40 rfl (lv_at hl 0 rfl) ?_
        refine gf_now hx hb hj hown hK hP hI dX13_mend_41 (fun h_16 => ?_)
        refine jc_i (va_runV (As := [.int (iI (a 44 p1)), .int (iI (g 30))]) (rest := [.int (iI p1), .ref (ad 46)]) ⟨hx, hb, hml, hown, hts⟩ (sX13_valueOf l dC dI _ ad ca g a (a 44 p1) (g 30) hI (by omega) (by omega)) (cwV 2 hts (jgoodV m_270 m_490 m_491 m_503 m_213) rfl rfl rfl (by decide +kernel) ⟨(Nat.le_of_ble_eq_true rfl), (Nat.le_of_ble_eq_true rfl)⟩) ⟨jw_blind, va_recv hK hP (ci := 13) (q0 := 0) rfl rfl, fun U hU hW => ⟨rfl, jw_of hU hW hP hK hD⟩⟩ rfl rfl hl.1 rfl (lv_room (Nat.le_of_ble_eq_true rfl)) dX13_mend_44 ⟨(Nat.le_of_ble_eq_true rfl), (Nat.le_of_ble_eq_true rfl)⟩) hP hS hA (fun r_17 H locs w_18 hP hS => ?_)
        obtain ⟨z_19, rfl, h_20⟩ := w_18
        refine sa_lineKeeps hx hb hK hP hD hS hI (by omega) (by omega) dX13_mend_47 (fun a_21 z_24 H locs h_25 h_26 e_22 e_23 hI hP hD hS => ?_)
        have haA : ∀ j, j ∉ ([46] : List Nat) → a_21 j = a j := fun j h => (e_22 j (fun q => h (q ▸ (by decide : 46 ∈ ([46] : List Nat))))).trans (haA j h)
        refine lv_aload_n hx hb dX13_mend_48 rfl (lv_at hl 0 rfl) ?_
        refine gf_lineKeeps hx hb hj hown hK hP dX13_mend_49 ?_
        refine lv_iload_n hx hb dX13_mend_52 rfl (lv_at hl 1 rfl) ?_
        refine ld_lineKeeps hx hb hK hP hI (by omega) (by omega) dX13_mend_53 (fun h_27 => ?_)
        rw [← hQ]
        exact W.iret (v := iI (a_21 46 p1)) hx hb hr (fun t ht hW => ⟨⟨iI (a_21 46 p1), (g, a_21), rfl, ⟨a_21 46 p1, rfl, rfl, hI, haA, by omega⟩, by rw [ht]; exact hP, va_K.moved hW.alike hK, hD⟩, hS.F ht⟩) hS.2.2 dX13_mend_54
      · refine lv_iconst (v := iI (-1)) hx hb dX13_mend_26 rfl ?_
        rw [← hQ]
        exact W.iret (v := iI (-1)) hx hb hr (fun t ht hW => ⟨⟨iI (-1), (g, a), rfl, ⟨(-1), rfl, rfl, hI, haA, by omega⟩, by rw [ht]; exact hP, va_K.moved hW.alike hK, hD⟩, hS.F ht⟩) hS.2.2 dX13_mend_27
