set_option maxHeartbeats 2000000 in
set_option maxRecDepth 100000 in
theorem sX13_lateOf (l : Launch) (dC : Nat → ClassId) (dI : Nat → Nat → Nat) (sz : Nat) (ad : Nat → Nat) (ca : Nat → ClassId) (g : Nat → Int) (a : Nat → Int → Int) (p1 : Int) (hI : mI g a) (q1 : rg p1) : Met l yX13_lateOf (jk yX13_lateOf cX13_lateOf 4 (some .int)) ({ frames := 2, cells := 0, slots := 0, locals := 44 }) (va_Pc [.ref (ad 0), .int (iI p1)] (jw_P (dC, dI) (mG ad ca g a) (mT ca) sz)) (va_Qi (fun (r : Int32) (_ : Unit) => ∃ z : Int, r = iI z ∧ (rg z)) (fun _ _ => True) (va_A [] sz)) 0 0 (va_A [] sz) := by
  refine Met.ofW (cc := cX13_lateOf) (maxL := 4) (ret := (some .int)) (by decide) rfl ?_
  intro p e s m args below meth c s₁ B hml hv
  obtain ⟨rfl, hsz, hP, hK, hD0⟩ := hv
  have hx := B.exec
  have hb := B.bytes
  have hr := B.returns
  have hts := atoms_spec (ws := (jk yX13_lateOf cX13_lateOf 4 (some .int))) B.pre
  have hj : ∀ w ∈ jw, w.before ([.ref (ad 0), .int (iI p1)] : List Value).toArray s = true := fun w h => hts w (jm h)
  have hown : s.vm.findClass RX13 = some m.cls := findClass_of_methodNamed B.named
  subst hsz
  have hD := hD0
  generalize hAe : (va_A [] s.heap.size) = A
  have hA : ∀ q : Nat, s.heap.size ≤ q → A q := fun q h => by rw [← hAe]; exact Or.inr h
  have hS : va_S A s.heap s.heap [] := va_S.rf
  have hP : va_P (dC, dI) vwCl (mG ad ca g a) s.heap := hP
  have hl := lv_entry ([.ref (ad 0), .int (iI p1)]) (n := 4) (Nat.le_of_ble_eq_true rfl)
  rw [lg_entry_eq]
  generalize (lg_sl ([.ref (ad 0), .int (iI p1)]) ++ List.replicate (4 - (lg_sl ([.ref (ad 0), .int (iI p1)])).length) Slot.unset).toArray = ls at hl ⊢
  have hl : lv_has ls 4 [(0, .ref (ad 0)), (1, .int (iI p1))] := hl
  generalize hQ : MQ below (va_Qi (fun (r : Int32) (_ : Unit) => ∃ z : Int, r = iI z ∧ (rg z)) (fun _ _ => True) A) ([.ref (ad 0), .int (iI p1)] : List Value).toArray s 0 0 A = Q
  suffices ST : ∀ (H : Heap) (locs : List Loc), va_P (dC, dI) vwCl (mG ad ca g a) H → va_S A s.heap H locs → W p l e ({ frames := 2, cells := 0, slots := 0, locals := 44 }) s m ([.ref (ad 0), .int (iI p1)] : List Value).toArray below meth c H locs 0 0 Q (F0 m 0 ls []) from ST _ _ hP hS
  clear hP hS
  intro H locs hP hS
  refine lv_iconst (v := iI 0) hx hb dX13_lateOf_0 rfl ?_
  refine lv_istore_n (lv' := [(2, .int (iI 0)), (0, .ref (ad 0)), (1, .int (iI p1))]) hx hb dX13_lateOf_1 rfl hl (by decide) rfl (fun ls hl => ?_)
  refine lv_iconst (v := iI 0) hx hb dX13_lateOf_2 rfl ?_
  refine lv_istore_n (lv' := [(3, .int (iI 0)), (2, .int (iI 0)), (0, .ref (ad 0)), (1, .int (iI p1))]) hx hb dX13_lateOf_3 rfl hl (by decide) rfl (fun ls hl => ?_)
  have L4 : ∀ (n4 : Nat) (v3_4 v2_4 : Int) (H : Heap) (locs : List Loc) (ls : Array Slot), (0 ≤ v3_4 ∧ v3_4 ≤ 2147483647) → ((-2147483648) ≤ v2_4 ∧ v2_4 ≤ 2147483647) → (0 < (n4 : Int) ∧ (g 37) - v3_4 < (n4 : Int)) → va_P (dC, dI) vwCl (mG ad ca g a) H → va_S A s.heap H locs → lv_has ls 4 [(3, .int (iI v3_4)), (2, .int (iI v2_4)), (0, .ref (ad 0)), (1, .int (iI p1))] → W p l e ({ frames := 2, cells := 0, slots := 0, locals := 44 }) s m ([.ref (ad 0), .int (iI p1)] : List Value).toArray below meth c H locs 0 0 Q (F0 m 4 ls []) := by
    intro n4
    induction n4 with
    | zero =>
      intro v3_4 v2_4 H locs ls h_1 h_2 hm4 hP hS hl
      exfalso; omega
    | succ n4 ih4 =>
      intro v3_4 v2_4 H locs ls h_3 h_4 hm4 hP hS hl
      refine lv_iload_n hx hb dX13_lateOf_4 rfl (lv_at hl 0 rfl) ?_
      refine lv_aload_n hx hb dX13_lateOf_5 rfl (lv_at hl 2 rfl) ?_
      refine gf_entries hx hb hj hown hK hP hI dX13_lateOf_6 (fun h_5 => ?_)
      refine xr_icmp_ge (tgt := 62) hx hb dX13_lateOf_9 (by decide) (by omega) (by omega) (fun h_6 => ?_) (fun h_6 => ?_)
      · refine lv_iload_n hx hb dX13_lateOf_62 rfl (lv_at hl 1 rfl) ?_
        rw [← hQ]
        exact W.iret (v := iI v2_4) hx hb hr (fun t ht hW => ⟨⟨iI v2_4, (), rfl, ⟨v2_4, rfl, by omega⟩, trivial⟩, hS.F ht⟩) hS.2.2 dX13_lateOf_63
      · refine lv_iload_n hx hb dX13_lateOf_12 rfl (lv_at hl 1 rfl) ?_
        refine lv_aload_n hx hb dX13_lateOf_13 rfl (lv_at hl 2 rfl) ?_
        refine gf_kind hx hb hj hown hK hP dX13_lateOf_14 ?_
        refine lv_iload_n hx hb dX13_lateOf_17 rfl (lv_at hl 0 rfl) ?_
        refine ld_kind hx hb hK hP hI (by omega) (by omega) dX13_lateOf_18 (fun h_7 => ?_)
        have J54 : ∀ (s0_54 : Int) (H : Heap) (locs : List Loc) (ls : Array Slot), (0 ≤ s0_54 ∧ s0_54 ≤ 1) → va_P (dC, dI) vwCl (mG ad ca g a) H → va_S A s.heap H locs → lv_has ls 4 [(3, .int (iI v3_4)), (2, .int (iI v2_4)), (0, .ref (ad 0)), (1, .int (iI p1))] → W p l e ({ frames := 2, cells := 0, slots := 0, locals := 44 }) s m ([.ref (ad 0), .int (iI p1)] : List Value).toArray below meth c H locs 0 0 Q (F0 m 54 ls [.int (iI s0_54), .int (iI v2_4)]) := by
          intro s0_54 H locs ls h_8 hP hS hl
          refine xr_add hx hb dX13_lateOf_54 ?_
          refine xr_kept (fun z_9 h_10 h_11 => ?_)
          refine lv_istore_n (lv' := [(2, .int (iI z_9)), (3, .int (iI v3_4)), (0, .ref (ad 0)), (1, .int (iI p1))]) hx hb dX13_lateOf_55 rfl hl (by decide) rfl (fun ls hl => ?_)
          refine lv_iinc (v := iI (v3_4 + 1)) (lv' := [(3, .int (iI (v3_4 + 1))), (2, .int (iI z_9)), (0, .ref (ad 0)), (1, .int (iI p1))]) hx hb dX13_lateOf_56 hl (k := 1) rfl (iI_add _ _) (by decide) rfl (fun ls hl => ?_)
          refine lv_goto (tgt := 4) hx hb dX13_lateOf_59 (by decide) ?_
          exact ih4 (v3_4 + 1) z_9 H locs ls (by omega) (by omega) (by omega) hP hS hl
        have J53 : ∀ (H : Heap) (locs : List Loc) (ls : Array Slot), va_P (dC, dI) vwCl (mG ad ca g a) H → va_S A s.heap H locs → lv_has ls 4 [(3, .int (iI v3_4)), (2, .int (iI v2_4)), (0, .ref (ad 0)), (1, .int (iI p1))] → W p l e ({ frames := 2, cells := 0, slots := 0, locals := 44 }) s m ([.ref (ad 0), .int (iI p1)] : List Value).toArray below meth c H locs 0 0 Q (F0 m 53 ls [.int (iI v2_4)]) := by
          intro H locs ls hP hS hl
          refine lv_iconst (v := iI 0) hx hb dX13_lateOf_53 rfl ?_
          exact J54 0 H locs ls (by omega) hP hS hl
        refine xr_if_ne (tgt := 53) hx hb dX13_lateOf_19 (by decide) (by omega) (fun h_12 => ?_) (fun h_12 => ?_)
        · exact J53 H locs ls hP hS hl
        · refine lv_aload_n hx hb dX13_lateOf_22 rfl (lv_at hl 2 rfl) ?_
          refine gf_givenTo hx hb hj hown hK hP dX13_lateOf_23 ?_
          refine lv_iload_n hx hb dX13_lateOf_26 rfl (lv_at hl 0 rfl) ?_
          refine ld_givenTo hx hb hK hP hI (by omega) (by omega) dX13_lateOf_27 (fun h_13 => ?_)
          refine lv_iload_n hx hb dX13_lateOf_28 rfl (lv_at hl 3 rfl) ?_
          refine xr_icmp_ne (tgt := 53) hx hb dX13_lateOf_29 (by decide) (by omega) (by omega) (fun h_14 => ?_) (fun h_14 => ?_)
          · exact J53 H locs ls hP hS hl
          · refine lv_aload_n hx hb dX13_lateOf_32 rfl (lv_at hl 2 rfl) ?_
            refine gf_isStruck hx hb hj hown hK hP dX13_lateOf_33 ?_
            refine lv_iload_n hx hb dX13_lateOf_36 rfl (lv_at hl 0 rfl) ?_
            refine ld_isStruck hx hb hK hP hI (by omega) (by omega) dX13_lateOf_37 (fun h_15 => ?_)
            refine xr_if_ne (tgt := 53) hx hb dX13_lateOf_38 (by decide) (by omega) (fun h_16 => ?_) (fun h_16 => ?_)
            · exact J53 H locs ls hP hS hl
            · refine lv_aload_n hx hb dX13_lateOf_41 rfl (lv_at hl 2 rfl) ?_
              refine lv_iload_n hx hb dX13_lateOf_42 rfl (lv_at hl 0 rfl) ?_
              refine jc_i (va_runV (As := [.int (iI v3_4)]) (rest := [.int (iI v2_4)]) ⟨hx, hb, hml, hown, hts⟩ (sX13_isDone l dC dI _ ad ca g a v3_4 hI (by omega) (by omega)) (cwV 1 hts (jgoodV m_263 m_376 m_377 m_503 m_154) rfl rfl rfl (by decide +kernel) ⟨(Nat.le_of_ble_eq_true rfl), (Nat.le_of_ble_eq_true rfl)⟩) ⟨jw_blind, va_recv hK hP (ci := 13) (q0 := 0) rfl rfl, fun U hU hW => ⟨rfl, jw_of hU hW hP hK hD⟩⟩ rfl rfl hl.1 rfl (lv_room (Nat.le_of_ble_eq_true rfl)) dX13_lateOf_43 ⟨(Nat.le_of_ble_eq_true rfl), (Nat.le_of_ble_eq_true rfl)⟩) hP hS hA (fun r_17 H locs w_18 hP hS => ?_)
              obtain ⟨z_19, rfl, h_20⟩ := w_18
              refine xr_if_ne (tgt := 53) hx hb dX13_lateOf_46 (by decide) (by omega) (fun h_21 => ?_) (fun h_21 => ?_)
              · exact J53 H locs ls hP hS hl
              · refine lv_iconst (v := iI 1) hx hb dX13_lateOf_49 rfl ?_
                refine lv_goto (tgt := 54) hx hb dX13_lateOf_50 (by decide) ?_
                exact J54 1 H locs ls (by omega) hP hS hl
  exact L4 ((((g 37) - 0 : Int)).toNat + 1) 0 0 H locs ls (by omega) (by omega) (by omega) hP hS hl
set_option maxHeartbeats 2000000 in
set_option maxRecDepth 100000 in
theorem sX13_hangs (l : Launch) (dC : Nat → ClassId) (dI : Nat → Nat → Nat) (sz : Nat) (ad : Nat → Nat) (ca : Nat → ClassId) (g : Nat → Int) (a : Nat → Int → Int) (p1 : Int) (hI : mI g a) (q1 : rg p1) (k1 : 0 ≤ p1 ∧ p1 < 60) : Met l yX13_hangs (jk yX13_hangs cX13_hangs 2 (some .boolean)) ({ frames := 2, cells := 0, slots := 0, locals := 44 }) (va_Pc [.ref (ad 0), .int (iI p1)] (jw_P (dC, dI) (mG ad ca g a) (mT ca) sz)) (va_Qi (fun (r : Int32) (_ : Unit) => ∃ z : Int, r = iI z ∧ (0 ≤ z ∧ z ≤ 1)) (fun _ _ => True) (va_A [] sz)) 0 0 (va_A [] sz) := by
  refine Met.ofW (cc := cX13_hangs) (maxL := 2) (ret := (some .boolean)) (by decide) rfl ?_
  intro p e s m args below meth c s₁ B hml hv
  obtain ⟨rfl, hsz, hP, hK, hD0⟩ := hv
  have hx := B.exec
  have hb := B.bytes
  have hr := B.returns
  have hts := atoms_spec (ws := (jk yX13_hangs cX13_hangs 2 (some .boolean))) B.pre
  have hj : ∀ w ∈ jw, w.before ([.ref (ad 0), .int (iI p1)] : List Value).toArray s = true := fun w h => hts w (jm h)
  have hown : s.vm.findClass RX13 = some m.cls := findClass_of_methodNamed B.named
  subst hsz
  have hD := hD0
  generalize hAe : (va_A [] s.heap.size) = A
  have hA : ∀ q : Nat, s.heap.size ≤ q → A q := fun q h => by rw [← hAe]; exact Or.inr h
  have hS : va_S A s.heap s.heap [] := va_S.rf
  have hP : va_P (dC, dI) vwCl (mG ad ca g a) s.heap := hP
  have hl := lv_entry ([.ref (ad 0), .int (iI p1)]) (n := 2) (Nat.le_of_ble_eq_true rfl)
  rw [lg_entry_eq]
  generalize (lg_sl ([.ref (ad 0), .int (iI p1)]) ++ List.replicate (2 - (lg_sl ([.ref (ad 0), .int (iI p1)])).length) Slot.unset).toArray = ls at hl ⊢
  have hl : lv_has ls 2 [(0, .ref (ad 0)), (1, .int (iI p1))] := hl
  generalize hQ : MQ below (va_Qi (fun (r : Int32) (_ : Unit) => ∃ z : Int, r = iI z ∧ (0 ≤ z ∧ z ≤ 1)) (fun _ _ => True) A) ([.ref (ad 0), .int (iI p1)] : List Value).toArray s 0 0 A = Q
  suffices ST : ∀ (H : Heap) (locs : List Loc), va_P (dC, dI) vwCl (mG ad ca g a) H → va_S A s.heap H locs → W p l e ({ frames := 2, cells := 0, slots := 0, locals := 44 }) s m ([.ref (ad 0), .int (iI p1)] : List Value).toArray below meth c H locs 0 0 Q (F0 m 0 ls []) from ST _ _ hP hS
  clear hP hS
  intro H locs hP hS
  refine lv_aload_n hx hb dX13_hangs_0 rfl (lv_at hl 0 rfl) ?_
  refine gf_kind hx hb hj hown hK hP dX13_hangs_1 ?_
  refine lv_iload_n hx hb dX13_hangs_4 rfl (lv_at hl 1 rfl) ?_
  refine ld_kind hx hb hK hP hI (by omega) (by omega) dX13_hangs_5 (fun h_1 => ?_)
  refine xr_if_ne (tgt := 54) hx hb dX13_hangs_6 (by decide) (by omega) (fun h_2 => ?_) (fun h_2 => ?_)
  · refine lv_iconst (v := iI 0) hx hb dX13_hangs_54 rfl ?_
    rw [← hQ]
    exact W.zret (v := iI 0) (ty := .boolean) hx hb hr (nb_bool (by omega) (by omega)) (fun t ht hW => ⟨⟨iI 0, (), rfl, ⟨0, rfl, by omega⟩, trivial⟩, hS.F ht⟩) hS.2.2 dX13_hangs_55
  · refine lv_aload_n hx hb dX13_hangs_9 rfl (lv_at hl 0 rfl) ?_
    refine gf_givenTo hx hb hj hown hK hP dX13_hangs_10 ?_
    refine lv_iload_n hx hb dX13_hangs_13 rfl (lv_at hl 1 rfl) ?_
    refine ld_givenTo hx hb hK hP hI (by omega) (by omega) dX13_hangs_14 (fun h_3 => ?_)
    refine lv_iconst (v := iI (-1)) hx hb dX13_hangs_15 rfl ?_
    refine xr_icmp_eq (tgt := 54) hx hb dX13_hangs_16 (by decide) (by omega) (by omega) (fun h_4 => ?_) (fun h_4 => ?_)
    · refine lv_iconst (v := iI 0) hx hb dX13_hangs_54 rfl ?_
      rw [← hQ]
      exact W.zret (v := iI 0) (ty := .boolean) hx hb hr (nb_bool (by omega) (by omega)) (fun t ht hW => ⟨⟨iI 0, (), rfl, ⟨0, rfl, by omega⟩, trivial⟩, hS.F ht⟩) hS.2.2 dX13_hangs_55
    · refine lv_aload_n hx hb dX13_hangs_19 rfl (lv_at hl 0 rfl) ?_
      refine gf_isDead hx hb hj hown hK hP dX13_hangs_20 ?_
      refine lv_aload_n hx hb dX13_hangs_23 rfl (lv_at hl 0 rfl) ?_
      refine gf_givenTo hx hb hj hown hK hP dX13_hangs_24 ?_
      refine lv_iload_n hx hb dX13_hangs_27 rfl (lv_at hl 1 rfl) ?_
      refine ld_givenTo hx hb hK hP hI (by omega) (by omega) dX13_hangs_28 (fun h_5 => ?_)
      refine ld_isDead hx hb hK hP hI (by omega) (by omega) dX13_hangs_29 (fun h_6 => ?_)
      refine xr_if_eq (tgt := 54) hx hb dX13_hangs_30 (by decide) (by omega) (fun h_7 => ?_) (fun h_7 => ?_)
      · refine lv_iconst (v := iI 0) hx hb dX13_hangs_54 rfl ?_
        rw [← hQ]
        exact W.zret (v := iI 0) (ty := .boolean) hx hb hr (nb_bool (by omega) (by omega)) (fun t ht hW => ⟨⟨iI 0, (), rfl, ⟨0, rfl, by omega⟩, trivial⟩, hS.F ht⟩) hS.2.2 dX13_hangs_55
      · refine lv_aload_n hx hb dX13_hangs_33 rfl (lv_at hl 0 rfl) ?_
        refine gf_isStruck hx hb hj hown hK hP dX13_hangs_34 ?_
        refine lv_iload_n hx hb dX13_hangs_37 rfl (lv_at hl 1 rfl) ?_
        refine ld_isStruck hx hb hK hP hI (by omega) (by omega) dX13_hangs_38 (fun h_8 => ?_)
        refine xr_if_ne (tgt := 54) hx hb dX13_hangs_39 (by decide) (by omega) (fun h_9 => ?_) (fun h_9 => ?_)
        · refine lv_iconst (v := iI 0) hx hb dX13_hangs_54 rfl ?_
          rw [← hQ]
          exact W.zret (v := iI 0) (ty := .boolean) hx hb hr (nb_bool (by omega) (by omega)) (fun t ht hW => ⟨⟨iI 0, (), rfl, ⟨0, rfl, by omega⟩, trivial⟩, hS.F ht⟩) hS.2.2 dX13_hangs_55
        · refine lv_aload_n hx hb dX13_hangs_42 rfl (lv_at hl 0 rfl) ?_
          refine lv_iload_n hx hb dX13_hangs_43 rfl (lv_at hl 1 rfl) ?_
          refine jc_i (va_runV (As := [.int (iI p1)]) (rest := []) ⟨hx, hb, hml, hown, hts⟩ (sX13_isDone l dC dI _ ad ca g a p1 hI (by omega) (by omega)) (cwV 1 hts (jgoodV m_263 m_376 m_377 m_503 m_154) rfl rfl rfl (by decide +kernel) ⟨(Nat.le_of_ble_eq_true rfl), (Nat.le_of_ble_eq_true rfl)⟩) ⟨jw_blind, va_recv hK hP (ci := 13) (q0 := 0) rfl rfl, fun U hU hW => ⟨rfl, jw_of hU hW hP hK hD⟩⟩ rfl rfl hl.1 rfl (lv_room (Nat.le_of_ble_eq_true rfl)) dX13_hangs_44 ⟨(Nat.le_of_ble_eq_true rfl), (Nat.le_of_ble_eq_true rfl)⟩) hP hS hA (fun r_10 H locs w_11 hP hS => ?_)
          obtain ⟨z_12, rfl, h_13⟩ := w_11
          refine xr_if_ne (tgt := 54) hx hb dX13_hangs_47 (by decide) (by omega) (fun h_14 => ?_) (fun h_14 => ?_)
          · refine lv_iconst (v := iI 0) hx hb dX13_hangs_54 rfl ?_
            rw [← hQ]
            exact W.zret (v := iI 0) (ty := .boolean) hx hb hr (nb_bool (by omega) (by omega)) (fun t ht hW => ⟨⟨iI 0, (), rfl, ⟨0, rfl, by omega⟩, trivial⟩, hS.F ht⟩) hS.2.2 dX13_hangs_55
          · refine lv_iconst (v := iI 1) hx hb dX13_hangs_50 rfl ?_
            refine lv_goto (tgt := 55) hx hb dX13_hangs_51 (by decide) ?_
            rw [← hQ]
            exact W.zret (v := iI 1) (ty := .boolean) hx hb hr (nb_bool (by omega) (by omega)) (fun t ht hW => ⟨⟨iI 1, (), rfl, ⟨1, rfl, by omega⟩, trivial⟩, hS.F ht⟩) hS.2.2 dX13_hangs_55
set_option maxHeartbeats 2000000 in
set_option maxRecDepth 100000 in
theorem sX13_knownOf (l : Launch) (dC : Nat → ClassId) (dI : Nat → Nat → Nat) (sz : Nat) (ad : Nat → Nat) (ca : Nat → ClassId) (g : Nat → Int) (a : Nat → Int → Int) (p1 : Int) (p2 : Int) (hI : mI g a) (q1 : rg p1) (q2 : rg p2) : Met l yX13_knownOf (jk yX13_knownOf cX13_knownOf 4 (some .int)) ({ frames := 0, cells := 0, slots := 0, locals := 0 }) (va_Pc [.ref (ad 0), .int (iI p1), .int (iI p2)] (jw_P (dC, dI) (mG ad ca g a) (mT ca) sz)) (va_Qi (fun (r : Int32) (_ : Unit) => ∃ z : Int, r = iI z ∧ ((-1) ≤ z ∧ z ≤ 599) ∧ (z = knw (a 51) (a 54) p1 p2 (g 66).toNat)) (fun _ _ => True) (va_A [] sz)) 0 0 (va_A [] sz) := by
  refine Met.ofW (cc := cX13_knownOf) (maxL := 4) (ret := (some .int)) (by decide) rfl ?_
  intro p e s m args below meth c s₁ B hml hv
  obtain ⟨rfl, hsz, hP, hK, hD0⟩ := hv
  have hx := B.exec
  have hb := B.bytes
  have hr := B.returns
  have hts := atoms_spec (ws := (jk yX13_knownOf cX13_knownOf 4 (some .int))) B.pre
  have hj : ∀ w ∈ jw, w.before ([.ref (ad 0), .int (iI p1), .int (iI p2)] : List Value).toArray s = true := fun w h => hts w (jm h)
  have hown : s.vm.findClass RX13 = some m.cls := findClass_of_methodNamed B.named
  subst hsz
  have hD := hD0
  generalize hAe : (va_A [] s.heap.size) = A
  have hA : ∀ q : Nat, s.heap.size ≤ q → A q := fun q h => by rw [← hAe]; exact Or.inr h
  have hS : va_S A s.heap s.heap [] := va_S.rf
  have hP : va_P (dC, dI) vwCl (mG ad ca g a) s.heap := hP
  have hl := lv_entry ([.ref (ad 0), .int (iI p1), .int (iI p2)]) (n := 4) (Nat.le_of_ble_eq_true rfl)
  rw [lg_entry_eq]
  generalize (lg_sl ([.ref (ad 0), .int (iI p1), .int (iI p2)]) ++ List.replicate (4 - (lg_sl ([.ref (ad 0), .int (iI p1), .int (iI p2)])).length) Slot.unset).toArray = ls at hl ⊢
  have hl : lv_has ls 4 [(0, .ref (ad 0)), (1, .int (iI p1)), (2, .int (iI p2))] := hl
  generalize hQ : MQ below (va_Qi (fun (r : Int32) (_ : Unit) => ∃ z : Int, r = iI z ∧ ((-1) ≤ z ∧ z ≤ 599) ∧ (z = knw (a 51) (a 54) p1 p2 (g 66).toNat)) (fun _ _ => True) A) ([.ref (ad 0), .int (iI p1), .int (iI p2)] : List Value).toArray s 0 0 A = Q
  suffices ST : ∀ (H : Heap) (locs : List Loc), va_P (dC, dI) vwCl (mG ad ca g a) H → va_S A s.heap H locs → W p l e ({ frames := 0, cells := 0, slots := 0, locals := 0 }) s m ([.ref (ad 0), .int (iI p1), .int (iI p2)] : List Value).toArray below meth c H locs 0 0 Q (F0 m 0 ls []) from ST _ _ hP hS
  clear hP hS
  intro H locs hP hS
  have b66_0 : 0 ≤ g 66 ∧ g 66 ≤ 600 := hI.1 66
  refine lv_aload_n hx hb dX13_knownOf_0 rfl (lv_at hl 0 rfl) ?_
  refine gf_told hx hb hj hown hK hP hI dX13_knownOf_1 (fun h_1 => ?_)
  refine lv_iconst (v := iI 1) hx hb dX13_knownOf_4 rfl ?_
  refine xr_sub hx hb dX13_knownOf_5 ?_
  refine lv_istore_n (lv' := [(3, .int (iI ((g 66) - 1))), (0, .ref (ad 0)), (1, .int (iI p1)), (2, .int (iI p2))]) hx hb dX13_knownOf_6 rfl hl (by decide) rfl (fun ls hl => ?_)
  have L7 : ∀ (n7 : Nat) (v3_7 : Int) (H : Heap) (locs : List Loc) (ls : Array Slot), ((-1) ≤ v3_7 ∧ v3_7 ≤ 599) → (-1 ≤ v3_7 ∧ v3_7 ≤ 599) → (knw (a 51) (a 54) p1 p2 (v3_7 + 1).toNat = knw (a 51) (a 54) p1 p2 (g 66).toNat) → (0 < (n7 : Int) ∧ v3_7 + 1 < (n7 : Int)) → va_P (dC, dI) vwCl (mG ad ca g a) H → va_S A s.heap H locs → lv_has ls 4 [(3, .int (iI v3_7)), (0, .ref (ad 0)), (1, .int (iI p1)), (2, .int (iI p2))] → W p l e ({ frames := 0, cells := 0, slots := 0, locals := 0 }) s m ([.ref (ad 0), .int (iI p1), .int (iI p2)] : List Value).toArray below meth c H locs 0 0 Q (F0 m 7 ls []) := by
    intro n7
    induction n7 with
    | zero =>
      intro v3_7 H locs ls h_2 h_3 h_4 hm7 hP hS hl
      exfalso; omega
    | succ n7 ih7 =>
      intro v3_7 H locs ls h_5 h_6 h_7 hm7 hP hS hl
      refine lv_iload_n hx hb dX13_knownOf_7 rfl (lv_at hl 0 rfl) ?_
      refine xr_if_lt (tgt := 39) hx hb dX13_knownOf_8 (by decide) (by omega) (fun h_8 => ?_) (fun h_8 => ?_)
      · refine lv_iconst (v := iI (-1)) hx hb dX13_knownOf_39 rfl ?_
        rw [← hQ]
        exact W.iret (v := iI (-1)) hx hb hr (fun t ht hW => ⟨⟨iI (-1), (), rfl, ⟨(-1), rfl, by omega, by show (-1) = knw (a 51) (a 54) p1 p2 (g 66).toNat; first | exact knw_hit (by assumption) (by omega) (by omega) (by omega) | exact knw_out (by assumption) (by omega) (by omega)⟩, trivial⟩, hS.F ht⟩) hS.2.2 dX13_knownOf_40
      · refine lv_aload_n hx hb dX13_knownOf_11 rfl (lv_at hl 1 rfl) ?_
        refine gf_toldFact hx hb hj hown hK hP dX13_knownOf_12 ?_
        refine lv_iload_n hx hb dX13_knownOf_15 rfl (lv_at hl 0 rfl) ?_
        refine ld_toldFact hx hb hK hP hI (by omega) (by omega) dX13_knownOf_16 (fun h_9 => ?_)
        refine lv_iload_n hx hb dX13_knownOf_17 rfl (lv_at hl 2 rfl) ?_
        have J33 : ∀ (H : Heap) (locs : List Loc) (ls : Array Slot), (¬ (a 51 v3_7 = p1 ∧ a 54 v3_7 ≤ p2)) → va_P (dC, dI) vwCl (mG ad ca g a) H → va_S A s.heap H locs → lv_has ls 4 [(3, .int (iI v3_7)), (0, .ref (ad 0)), (1, .int (iI p1)), (2, .int (iI p2))] → W p l e ({ frames := 0, cells := 0, slots := 0, locals := 0 }) s m ([.ref (ad 0), .int (iI p1), .int (iI p2)] : List Value).toArray below meth c H locs 0 0 Q (F0 m 33 ls []) := by
          intro H locs ls h_10 hP hS hl
          refine lv_iinc (v := iI (v3_7 + (-1))) (lv' := [(3, .int (iI (v3_7 + (-1)))), (0, .ref (ad 0)), (1, .int (iI p1)), (2, .int (iI p2))]) hx hb dX13_knownOf_33 hl (k := 0) rfl (iI_add _ _) (by decide) rfl (fun ls hl => ?_)
          refine lv_goto (tgt := 7) hx hb dX13_knownOf_36 (by decide) ?_
          exact ih7 (v3_7 + (-1)) H locs ls (by omega) (by omega) (by first | exact knw_0 | exact knw_s (by assumption) (by omega) (by omega)) (by omega) hP hS hl
        refine xr_icmp_ne (tgt := 33) hx hb dX13_knownOf_18 (by decide) (by omega) (by omega) (fun h_11 => ?_) (fun h_11 => ?_)
        · exact J33 H locs ls (by omega) hP hS hl
        · refine lv_aload_n hx hb dX13_knownOf_21 rfl (lv_at hl 1 rfl) ?_
          refine gf_toldIn hx hb hj hown hK hP dX13_knownOf_22 ?_
          refine lv_iload_n hx hb dX13_knownOf_25 rfl (lv_at hl 0 rfl) ?_
          refine ld_toldIn hx hb hK hP hI (by omega) (by omega) dX13_knownOf_26 (fun h_12 => ?_)
          refine lv_iload_n hx hb dX13_knownOf_27 rfl (lv_at hl 3 rfl) ?_
          refine xr_icmp_gt (tgt := 33) hx hb dX13_knownOf_28 (by decide) (by omega) (by omega) (fun h_13 => ?_) (fun h_13 => ?_)
          · exact J33 H locs ls (by omega) hP hS hl
          · refine lv_iload_n hx hb dX13_knownOf_31 rfl (lv_at hl 0 rfl) ?_
            rw [← hQ]
            exact W.iret (v := iI v3_7) hx hb hr (fun t ht hW => ⟨⟨iI v3_7, (), rfl, ⟨v3_7, rfl, by omega, by show v3_7 = knw (a 51) (a 54) p1 p2 (g 66).toNat; first | exact knw_hit (by assumption) (by omega) (by omega) (by omega) | exact knw_out (by assumption) (by omega) (by omega)⟩, trivial⟩, hS.F ht⟩) hS.2.2 dX13_knownOf_32
  exact L7 (((((g 66) - 1) + 1 : Int)).toNat + 1) ((g 66) - 1) H locs ls (by omega) (by omega) (by first | exact knw_0 | exact knw_s (by assumption) (by omega) (by omega)) (by omega) hP hS hl
set_option maxHeartbeats 2000000 in
set_option maxRecDepth 100000 in
theorem sX13_valueOf (l : Launch) (dC : Nat → ClassId) (dI : Nat → Nat → Nat) (sz : Nat) (ad : Nat → Nat) (ca : Nat → ClassId) (g : Nat → Int) (a : Nat → Int → Int) (p1 : Int) (p2 : Int) (hI : mI g a) (q1 : rg p1) (q2 : rg p2) : Met l yX13_valueOf (jk yX13_valueOf cX13_valueOf 4 (some .int)) ({ frames := 1, cells := 0, slots := 0, locals := 23 }) (va_Pc [.ref (ad 0), .int (iI p1), .int (iI p2)] (jw_P (dC, dI) (mG ad ca g a) (mT ca) sz)) (va_Qi (fun (r : Int32) (_ : Unit) => ∃ z : Int, r = iI z ∧ (rg z)) (fun _ _ => True) (va_A [] sz)) 0 0 (va_A [] sz) := by
  refine Met.ofW (cc := cX13_valueOf) (maxL := 4) (ret := (some .int)) (by decide) rfl ?_
  intro p e s m args below meth c s₁ B hml hv
  obtain ⟨rfl, hsz, hP, hK, hD0⟩ := hv
  have hx := B.exec
  have hb := B.bytes
  have hr := B.returns
  have hts := atoms_spec (ws := (jk yX13_valueOf cX13_valueOf 4 (some .int))) B.pre
  have hj : ∀ w ∈ jw, w.before ([.ref (ad 0), .int (iI p1), .int (iI p2)] : List Value).toArray s = true := fun w h => hts w (jm h)
  have hown : s.vm.findClass RX13 = some m.cls := findClass_of_methodNamed B.named
  subst hsz
  have hD := hD0
  generalize hAe : (va_A [] s.heap.size) = A
  have hA : ∀ q : Nat, s.heap.size ≤ q → A q := fun q h => by rw [← hAe]; exact Or.inr h
  have hS : va_S A s.heap s.heap [] := va_S.rf
  have hP : va_P (dC, dI) vwCl (mG ad ca g a) s.heap := hP
  have hl := lv_entry ([.ref (ad 0), .int (iI p1), .int (iI p2)]) (n := 4) (Nat.le_of_ble_eq_true rfl)
  rw [lg_entry_eq]
  generalize (lg_sl ([.ref (ad 0), .int (iI p1), .int (iI p2)]) ++ List.replicate (4 - (lg_sl ([.ref (ad 0), .int (iI p1), .int (iI p2)])).length) Slot.unset).toArray = ls at hl ⊢
  have hl : lv_has ls 4 [(0, .ref (ad 0)), (1, .int (iI p1)), (2, .int (iI p2))] := hl
  generalize hQ : MQ below (va_Qi (fun (r : Int32) (_ : Unit) => ∃ z : Int, r = iI z ∧ (rg z)) (fun _ _ => True) A) ([.ref (ad 0), .int (iI p1), .int (iI p2)] : List Value).toArray s 0 0 A = Q
  suffices ST : ∀ (H : Heap) (locs : List Loc), va_P (dC, dI) vwCl (mG ad ca g a) H → va_S A s.heap H locs → W p l e ({ frames := 1, cells := 0, slots := 0, locals := 23 }) s m ([.ref (ad 0), .int (iI p1), .int (iI p2)] : List Value).toArray below meth c H locs 0 0 Q (F0 m 0 ls []) from ST _ _ hP hS
  clear hP hS
  intro H locs hP hS
  refine lv_aload_n hx hb dX13_valueOf_0 rfl (lv_at hl 0 rfl) ?_
  refine lv_iload_n hx hb dX13_valueOf_1 rfl (lv_at hl 1 rfl) ?_
  refine lv_iload_n hx hb dX13_valueOf_2 rfl (lv_at hl 2 rfl) ?_
  refine jc_i (va_runV (As := [.int (iI p1), .int (iI p2)]) (rest := []) ⟨hx, hb, hml, hown, hts⟩ (sX13_knownOf l dC dI _ ad ca g a p1 p2 hI (by omega) (by omega)) (cwV 2 hts (jgoodV m_269 m_404 m_405 m_503 m_169) rfl rfl rfl (by decide +kernel) ⟨(Nat.le_of_ble_eq_true rfl), (Nat.le_of_ble_eq_true rfl)⟩) ⟨jw_blind, va_recv hK hP (ci := 13) (q0 := 0) rfl rfl, fun U hU hW => ⟨rfl, jw_of hU hW hP hK hD⟩⟩ rfl rfl hl.1 rfl (lv_room (Nat.le_of_ble_eq_true rfl)) dX13_valueOf_3 ⟨(Nat.le_of_ble_eq_true rfl), (Nat.le_of_ble_eq_true rfl)⟩) hP hS hA (fun r_1 H locs w_2 hP hS => ?_)
  obtain ⟨z_3, rfl, h_4, h_5⟩ := w_2
  have b_6 : 0 ≤ g 66 ∧ g 66 ≤ 600 := hI.1 66
  refine lv_istore_n (lv' := [(3, .int (iI z_3)), (0, .ref (ad 0)), (1, .int (iI p1)), (2, .int (iI p2))]) hx hb dX13_valueOf_6 rfl hl (by decide) rfl (fun ls hl => ?_)
  refine lv_iload_n hx hb dX13_valueOf_7 rfl (lv_at hl 0 rfl) ?_
  refine lv_iconst (v := iI (-1)) hx hb dX13_valueOf_8 rfl ?_
  refine xr_icmp_ne (tgt := 16) hx hb dX13_valueOf_9 (by decide) (by omega) (by omega) (fun h_7 => ?_) (fun h_7 => ?_)
  · refine lv_aload_n hx hb dX13_valueOf_16 rfl (lv_at hl 1 rfl) ?_
    refine gf_toldValue hx hb hj hown hK hP dX13_valueOf_17 ?_
    refine lv_iload_n hx hb dX13_valueOf_20 rfl (lv_at hl 0 rfl) ?_
    refine ld_toldValue hx hb hK hP hI (by omega) (by omega) dX13_valueOf_21 (fun h_8 => ?_)
    rw [← hQ]
    exact W.iret (v := iI (a 52 z_3)) hx hb hr (fun t ht hW => ⟨⟨iI (a 52 z_3), (), rfl, ⟨a 52 z_3, rfl, by omega⟩, trivial⟩, hS.F ht⟩) hS.2.2 dX13_valueOf_22
  · refine lv_iconst (v := iI (-1)) hx hb dX13_valueOf_12 rfl ?_
    refine lv_goto (tgt := 22) hx hb dX13_valueOf_13 (by decide) ?_
    rw [← hQ]
    exact W.iret (v := iI (-1)) hx hb hr (fun t ht hW => ⟨⟨iI (-1), (), rfl, ⟨(-1), rfl, by omega⟩, trivial⟩, hS.F ht⟩) hS.2.2 dX13_valueOf_22
set_option maxHeartbeats 2000000 in
set_option maxRecDepth 100000 in
theorem sX13_inForce (l : Launch) (dC : Nat → ClassId) (dI : Nat → Nat → Nat) (sz : Nat) (ad : Nat → Nat) (ca : Nat → ClassId) (g : Nat → Int) (a : Nat → Int → Int) (p1 : Int) (p2 : Int) (p3 : Int) (hI : mI g a) (q1 : rg p1) (q2 : rg p2) (q3 : rg p3) (k1 : 0 ≤ p1 ∧ p1 ≤ 13) (hrSh : rSh g a) : Met l yX13_inForce (jk yX13_inForce cX13_inForce 5 (some .int)) ({ frames := 0, cells := 0, slots := 0, locals := 0 }) (va_Pc [.ref (ad 0), .int (iI p1), .int (iI p2), .int (iI p3)] (jw_P (dC, dI) (mG ad ca g a) (mT ca) sz)) (va_Qi (fun (r : Int32) (_ : Unit) => ∃ z : Int, r = iI z ∧ ((-1) ≤ z ∧ z ≤ 11) ∧ (z < g 18)) (fun _ _ => True) (va_A [] sz)) 0 0 (va_A [] sz) := by
  refine Met.ofW (cc := cX13_inForce) (maxL := 5) (ret := (some .int)) (by decide) rfl ?_
  intro p e s m args below meth c s₁ B hml hv
  obtain ⟨rfl, hsz, hP, hK, hD0⟩ := hv
  have hx := B.exec
  have hb := B.bytes
  have hr := B.returns
  have hts := atoms_spec (ws := (jk yX13_inForce cX13_inForce 5 (some .int))) B.pre
  have hj : ∀ w ∈ jw, w.before ([.ref (ad 0), .int (iI p1), .int (iI p2), .int (iI p3)] : List Value).toArray s = true := fun w h => hts w (jm h)
  have hown : s.vm.findClass RX13 = some m.cls := findClass_of_methodNamed B.named
  subst hsz
  have hD := hD0
  generalize hAe : (va_A [] s.heap.size) = A
  have hA : ∀ q : Nat, s.heap.size ≤ q → A q := fun q h => by rw [← hAe]; exact Or.inr h
  have hS : va_S A s.heap s.heap [] := va_S.rf
  have hP : va_P (dC, dI) vwCl (mG ad ca g a) s.heap := hP
  have hl := lv_entry ([.ref (ad 0), .int (iI p1), .int (iI p2), .int (iI p3)]) (n := 5) (Nat.le_of_ble_eq_true rfl)
  rw [lg_entry_eq]
  generalize (lg_sl ([.ref (ad 0), .int (iI p1), .int (iI p2), .int (iI p3)]) ++ List.replicate (5 - (lg_sl ([.ref (ad 0), .int (iI p1), .int (iI p2), .int (iI p3)])).length) Slot.unset).toArray = ls at hl ⊢
  have hl : lv_has ls 5 [(0, .ref (ad 0)), (1, .int (iI p1)), (2, .int (iI p2)), (3, .int (iI p3))] := hl
  generalize hQ : MQ below (va_Qi (fun (r : Int32) (_ : Unit) => ∃ z : Int, r = iI z ∧ ((-1) ≤ z ∧ z ≤ 11) ∧ (z < g 18)) (fun _ _ => True) A) ([.ref (ad 0), .int (iI p1), .int (iI p2), .int (iI p3)] : List Value).toArray s 0 0 A = Q
  suffices ST : ∀ (H : Heap) (locs : List Loc), va_P (dC, dI) vwCl (mG ad ca g a) H → va_S A s.heap H locs → W p l e ({ frames := 0, cells := 0, slots := 0, locals := 0 }) s m ([.ref (ad 0), .int (iI p1), .int (iI p2), .int (iI p3)] : List Value).toArray below meth c H locs 0 0 Q (F0 m 0 ls []) from ST _ _ hP hS
  clear hP hS
  intro H locs hP hS
  have b18_0 : 0 ≤ g 18 ∧ g 18 ≤ 12 := hI.1 18
  have b26_0 : 0 ≤ g 26 ∧ g 26 ≤ 20 := hI.1 26
  refine lv_aload_n hx hb dX13_inForce_0 rfl (lv_at hl 0 rfl) ?_
  refine gf_forced hx hb hj hown hK hP hI dX13_inForce_1 (fun h_1 => ?_)
  refine lv_iconst (v := iI 1) hx hb dX13_inForce_4 rfl ?_
  refine xr_sub hx hb dX13_inForce_5 ?_
  refine lv_istore (lv' := [(4, .int (iI ((g 26) - 1))), (0, .ref (ad 0)), (1, .int (iI p1)), (2, .int (iI p2)), (3, .int (iI p3))]) hx hb dX13_inForce_6 hl (by decide) rfl (fun ls hl => ?_)
  have L8 : ∀ (n8 : Nat) (v4_8 : Int) (H : Heap) (locs : List Loc) (ls : Array Slot), ((-1) ≤ v4_8 ∧ v4_8 ≤ 19) → (v4_8 < g 26) → (0 < (n8 : Int) ∧ v4_8 + 1 < (n8 : Int)) → va_P (dC, dI) vwCl (mG ad ca g a) H → va_S A s.heap H locs → lv_has ls 5 [(4, .int (iI v4_8)), (0, .ref (ad 0)), (1, .int (iI p1)), (2, .int (iI p2)), (3, .int (iI p3))] → W p l e ({ frames := 0, cells := 0, slots := 0, locals := 0 }) s m ([.ref (ad 0), .int (iI p1), .int (iI p2), .int (iI p3)] : List Value).toArray below meth c H locs 0 0 Q (F0 m 8 ls []) := by
    intro n8
    induction n8 with
    | zero =>
      intro v4_8 H locs ls h_2 h_3 hm8 hP hS hl
      exfalso; omega
    | succ n8 ih8 =>
      intro v4_8 H locs ls h_4 h_5 hm8 hP hS hl
      refine lv_iload hx hb dX13_inForce_8 (lv_at hl 0 rfl) ?_
      refine xr_if_lt (tgt := 84) hx hb dX13_inForce_10 (by decide) (by omega) (fun h_6 => ?_) (fun h_6 => ?_)
      · refine lv_iconst (v := iI (-1)) hx hb dX13_inForce_84 rfl ?_
        rw [← hQ]
        exact W.iret (v := iI (-1)) hx hb hr (fun t ht hW => ⟨⟨iI (-1), (), rfl, ⟨(-1), rfl, by omega, by omega⟩, trivial⟩, hS.F ht⟩) hS.2.2 dX13_inForce_85
      · refine lv_aload_n hx hb dX13_inForce_13 rfl (lv_at hl 1 rfl) ?_
        refine gf_forcedIn hx hb hj hown hK hP dX13_inForce_14 ?_
        refine lv_iload hx hb dX13_inForce_17 (lv_at hl 0 rfl) ?_
        refine ld_forcedIn hx hb hK hP hI (by omega) (by omega) dX13_inForce_19 (fun h_7 => ?_)
        refine lv_iload_n hx hb dX13_inForce_20 rfl (lv_at hl 4 rfl) ?_
        have J78 : ∀ (H : Heap) (locs : List Loc) (ls : Array Slot), va_P (dC, dI) vwCl (mG ad ca g a) H → va_S A s.heap H locs → lv_has ls 5 [(4, .int (iI v4_8)), (0, .ref (ad 0)), (1, .int (iI p1)), (2, .int (iI p2)), (3, .int (iI p3))] → W p l e ({ frames := 0, cells := 0, slots := 0, locals := 0 }) s m ([.ref (ad 0), .int (iI p1), .int (iI p2), .int (iI p3)] : List Value).toArray below meth c H locs 0 0 Q (F0 m 78 ls []) := by
          intro H locs ls hP hS hl
          refine lv_iinc (v := iI (v4_8 + (-1))) (lv' := [(4, .int (iI (v4_8 + (-1)))), (0, .ref (ad 0)), (1, .int (iI p1)), (2, .int (iI p2)), (3, .int (iI p3))]) hx hb dX13_inForce_78 hl (k := 0) rfl (iI_add _ _) (by decide) rfl (fun ls hl => ?_)
          refine lv_goto (tgt := 8) hx hb dX13_inForce_81 (by decide) ?_
          exact ih8 (v4_8 + (-1)) H locs ls (by omega) (by omega) (by omega) hP hS hl
        refine xr_icmp_gt (tgt := 78) hx hb dX13_inForce_21 (by decide) (by omega) (by omega) (fun h_8 => ?_) (fun h_8 => ?_)
        · exact J78 H locs ls hP hS hl
        · refine lv_aload_n hx hb dX13_inForce_24 rfl (lv_at hl 1 rfl) ?_
          refine gf_forcedFor hx hb hj hown hK hP dX13_inForce_25 ?_
          refine lv_iload hx hb dX13_inForce_28 (lv_at hl 0 rfl) ?_
          refine ld_forcedFor hx hb hK hP hI (by omega) (by omega) dX13_inForce_30 (fun h_9 => ?_)
          refine lv_iconst (v := iI (-1)) hx hb dX13_inForce_31 rfl ?_
          have J49 : ∀ (H : Heap) (locs : List Loc) (ls : Array Slot), va_P (dC, dI) vwCl (mG ad ca g a) H → va_S A s.heap H locs → lv_has ls 5 [(4, .int (iI v4_8)), (0, .ref (ad 0)), (1, .int (iI p1)), (2, .int (iI p2)), (3, .int (iI p3))] → W p l e ({ frames := 0, cells := 0, slots := 0, locals := 0 }) s m ([.ref (ad 0), .int (iI p1), .int (iI p2), .int (iI p3)] : List Value).toArray below meth c H locs 0 0 Q (F0 m 49 ls []) := by
            intro H locs ls hP hS hl
            refine lv_aload_n hx hb dX13_inForce_49 rfl (lv_at hl 1 rfl) ?_
            refine gf_sheetBegin hx hb hj hown hK hP dX13_inForce_50 ?_
            refine lv_bipush (v := iI 14) hx hb dX13_inForce_53 rfl ?_
            refine lv_aload_n hx hb dX13_inForce_55 rfl (lv_at hl 1 rfl) ?_
            refine gf_forcedSheet hx hb hj hown hK hP dX13_inForce_56 ?_
            refine lv_iload hx hb dX13_inForce_59 (lv_at hl 0 rfl) ?_
            have c16 := hrSh.1 (v4_8) (by omega) (by omega)
            refine ld_forcedSheet hx hb hK hP hI (by omega) (by omega) dX13_inForce_61 (fun h_10 => ?_)
            refine xr_mul hx hb dX13_inForce_62 ?_
            refine lv_iload_n hx hb dX13_inForce_63 rfl (lv_at hl 2 rfl) ?_
            refine xr_add hx hb dX13_inForce_64 ?_
            refine ld_sheetBegin hx hb hK hP hI (by omega) (by omega) dX13_inForce_65 (fun h_11 => ?_)
            refine lv_iconst (v := iI (-1)) hx hb dX13_inForce_66 rfl ?_
            refine xr_icmp_eq (tgt := 78) hx hb dX13_inForce_67 (by decide) (by omega) (by omega) (fun h_12 => ?_) (fun h_12 => ?_)
            · exact J78 H locs ls hP hS hl
            · refine lv_aload_n hx hb dX13_inForce_70 rfl (lv_at hl 1 rfl) ?_
              refine gf_forcedSheet hx hb hj hown hK hP dX13_inForce_71 ?_
              refine lv_iload hx hb dX13_inForce_74 (lv_at hl 0 rfl) ?_
              have d16 := hrSh.1 (v4_8) (by omega) (by omega)
              refine ld_forcedSheet hx hb hK hP hI (by omega) (by omega) dX13_inForce_76 (fun h_13 => ?_)
              rw [← hQ]
              exact W.iret (v := iI (a 16 v4_8)) hx hb hr (fun t ht hW => ⟨⟨iI (a 16 v4_8), (), rfl, ⟨a 16 v4_8, rfl, by omega, by omega⟩, trivial⟩, hS.F ht⟩) hS.2.2 dX13_inForce_77
          refine xr_icmp_eq (tgt := 49) hx hb dX13_inForce_32 (by decide) (by omega) (by omega) (fun h_14 => ?_) (fun h_14 => ?_)
          · exact J49 H locs ls hP hS hl
          · refine lv_aload_n hx hb dX13_inForce_35 rfl (lv_at hl 1 rfl) ?_
            refine gf_forcedFor hx hb hj hown hK hP dX13_inForce_36 ?_
            refine lv_iload hx hb dX13_inForce_39 (lv_at hl 0 rfl) ?_
            refine ld_forcedFor hx hb hK hP hI (by omega) (by omega) dX13_inForce_41 (fun h_15 => ?_)
            refine lv_iload_n hx hb dX13_inForce_42 rfl (lv_at hl 3 rfl) ?_
            refine xr_icmp_eq (tgt := 49) hx hb dX13_inForce_43 (by decide) (by omega) (by omega) (fun h_16 => ?_) (fun h_16 => ?_)
            · exact J49 H locs ls hP hS hl
            · refine lv_goto (tgt := 78) hx hb dX13_inForce_46 (by decide) ?_
              exact J78 H locs ls hP hS hl
  exact L8 (((((g 26) - 1) + 1 : Int)).toNat + 1) ((g 26) - 1) H locs ls (by omega) (by omega) (by omega) hP hS hl
set_option maxHeartbeats 2000000 in
set_option maxRecDepth 100000 in
theorem sX13_go (l : Launch) (dC : Nat → ClassId) (dI : Nat → Nat → Nat) (sz : Nat) (ad : Nat → Nat) (ca : Nat → ClassId) (g : Nat → Int) (a : Nat → Int → Int) (p1 : Int) (hI : mI g a) (q1 : rg p1) : Met l yX13_go (jk yX13_go cX13_go 2 (some .int)) ({ frames := 1, cells := 0, slots := 0, locals := 22 }) (va_Pc [.ref (ad 0), .int (iI p1)] (jw_P (dC, dI) (mG ad ca g a) (mT ca) sz)) (va_Qi (fun (r : Int32) (u : (Nat → Int) × (Nat → Int → Int)) => ∃ z : Int, r = iI z ∧ (mI u.1 u.2) ∧ (∀ j, j ∉ ([30] : List Nat) → u.1 j = g j) ∧ (∀ j, j ∉ ([] : List Nat) → u.2 j = a j) ∧ (rg z) ∧ ((z = -1 ∧ (p1 < 0 ∨ 300 < p1) ∧ u.1 30 = g 30) ∨ (z = u.1 30 ∧ 0 ≤ p1 ∧ p1 ≤ 300 ∧ ((2000 < g 30 + p1 ∧ u.1 30 = 2000) ∨ (g 30 + p1 ≤ 2000 ∧ u.1 30 = g 30 + p1))))) (fun u t => va_P (dC, dI) vwCl (mG ad ca u.1 u.2) t.heap ∧ va_K (dC, dI) vwCl (mT ca) t ∧ va_D (va_A (mG ad ca g a) sz) (mG ad ca u.1 u.2)) (va_A (mG ad ca g a) sz)) 0 0 (va_A (mG ad ca g a) sz) := by
  refine Met.ofW (cc := cX13_go) (maxL := 2) (ret := (some .int)) (by decide) rfl ?_
  intro p e s m args below meth c s₁ B hml hv
  obtain ⟨rfl, hsz, hP, hK, hD0⟩ := hv
  have hx := B.exec
  have hb := B.bytes
  have hr := B.returns
  have hts := atoms_spec (ws := (jk yX13_go cX13_go 2 (some .int))) B.pre
  have hj : ∀ w ∈ jw, w.before ([.ref (ad 0), .int (iI p1)] : List Value).toArray s = true := fun w h => hts w (jm h)
  have hown : s.vm.findClass RX13 = some m.cls := findClass_of_methodNamed B.named
  subst hsz
  have hD := hD0.self (sz := s.heap.size)
  generalize hAe : (va_A (mG ad ca g a) s.heap.size) = A at hD ⊢
  have hA : ∀ q : Nat, s.heap.size ≤ q → A q := fun q h => by rw [← hAe]; exact Or.inr h
  have hS : va_S A s.heap s.heap [] := va_S.rf
  have hP : va_P (dC, dI) vwCl (mG ad ca g a) s.heap := hP
  have hfA : ∀ j, j ∉ ([30] : List Nat) → g j = g j := fun _ _ => rfl
  have haA : ∀ j, j ∉ ([] : List Nat) → a j = a j := fun _ _ => rfl
  have hl := lv_entry ([.ref (ad 0), .int (iI p1)]) (n := 2) (Nat.le_of_ble_eq_true rfl)
  rw [lg_entry_eq]
  generalize (lg_sl ([.ref (ad 0), .int (iI p1)]) ++ List.replicate (2 - (lg_sl ([.ref (ad 0), .int (iI p1)])).length) Slot.unset).toArray = ls at hl ⊢
  have hl : lv_has ls 2 [(0, .ref (ad 0)), (1, .int (iI p1))] := hl
  generalize hQ : MQ below (va_Qi (fun (r : Int32) (u : (Nat → Int) × (Nat → Int → Int)) => ∃ z : Int, r = iI z ∧ (mI u.1 u.2) ∧ (∀ j, j ∉ ([30] : List Nat) → u.1 j = g j) ∧ (∀ j, j ∉ ([] : List Nat) → u.2 j = a j) ∧ (rg z) ∧ ((z = -1 ∧ (p1 < 0 ∨ 300 < p1) ∧ u.1 30 = g 30) ∨ (z = u.1 30 ∧ 0 ≤ p1 ∧ p1 ≤ 300 ∧ ((2000 < g 30 + p1 ∧ u.1 30 = 2000) ∨ (g 30 + p1 ≤ 2000 ∧ u.1 30 = g 30 + p1))))) (fun u t => va_P (dC, dI) vwCl (mG ad ca u.1 u.2) t.heap ∧ va_K (dC, dI) vwCl (mT ca) t ∧ va_D A (mG ad ca u.1 u.2)) A) ([.ref (ad 0), .int (iI p1)] : List Value).toArray s 0 0 A = Q
  suffices ST : ∀ (H : Heap) (locs : List Loc), va_P (dC, dI) vwCl (mG ad ca g a) H → va_S A s.heap H locs → W p l e ({ frames := 1, cells := 0, slots := 0, locals := 22 }) s m ([.ref (ad 0), .int (iI p1)] : List Value).toArray below meth c H locs 0 0 Q (F0 m 0 ls []) from ST _ _ hP hS
  clear hP hS
  intro H locs hP hS
  have b30_0 : 0 ≤ g 30 ∧ g 30 ≤ 2000 := hI.1 30
  refine lv_iload_n hx hb dX13_go_0 rfl (lv_at hl 1 rfl) ?_
  refine lv_iconst (v := iI 0) hx hb dX13_go_1 rfl ?_
  refine lv_sipush (v := iI 300) hx hb dX13_go_2 rfl ?_
  refine jc_i (va_runS (As := [.int (iI p1), .int (iI 0), .int (iI 300)]) (rest := []) ⟨hx, hb, hml, hown, hts⟩ (sX13_in l dC dI _ p1 0 300 (by omega) (by omega) (by omega)) (va_cwS 3 hts (jgoodS m_220 m_364 m_503 m_147) rfl rfl rfl (by decide +kernel) ⟨(Nat.le_of_ble_eq_true rfl), (Nat.le_of_ble_eq_true rfl)⟩) ⟨jw_blind0, fun U hU hW => ⟨rfl, congrArg Array.size hU⟩⟩ rfl rfl hl.1 rfl (lv_room (Nat.le_of_ble_eq_true rfl)) dX13_go_5 ⟨(Nat.le_of_ble_eq_true rfl), (Nat.le_of_ble_eq_true rfl)⟩) hP hS hA (fun r_1 H locs w_2 hP hS => ?_)
  obtain ⟨z_3, rfl, h_4, h_5⟩ := w_2
  refine xr_if_ne (tgt := 13) hx hb dX13_go_8 (by decide) (by omega) (fun h_6 => ?_) (fun h_6 => ?_)
  · refine lv_aload_n hx hb dX13_go_13 rfl (lv_at hl 0 rfl) ?_
    refine lv_aload_n hx hb dX13_go_14 rfl (lv_at hl 0 rfl) ?_
    refine gf_now hx hb hj hown hK hP hI dX13_go_15 (fun h_7 => ?_)
    refine lv_iload_n hx hb dX13_go_18 rfl (lv_at hl 1 rfl) ?_
    refine xr_add hx hb dX13_go_19 ?_
    refine xr_kept (fun z_8 h_9 h_10 => ?_)
    refine lv_sipush (v := iI 2000) hx hb dX13_go_20 rfl ?_
    refine xr_icmp_le (tgt := 32) hx hb dX13_go_23 (by decide) (by omega) (by omega) (fun h_11 => ?_) (fun h_11 => ?_)
    · refine lv_aload_n hx hb dX13_go_32 rfl (lv_at hl 0 rfl) ?_
      refine gf_now hx hb hj hown hK hP hI dX13_go_33 (fun h_12 => ?_)
      refine lv_iload_n hx hb dX13_go_36 rfl (lv_at hl 1 rfl) ?_
      refine xr_add hx hb dX13_go_37 ?_
      refine xr_kept (fun z_13 h_14 h_15 => ?_)
      refine pf_now hx hb hj hown hK hP hD hS hI (by omega) (by omega) dX13_go_38 (fun g_16 H locs e_17 e_18 hI hP hD hS => ?_)
      have hfA : ∀ j, j ∉ ([30] : List Nat) → g_16 j = g j := fun j h => (e_17 j (fun q => h (q ▸ (by decide : 30 ∈ ([30] : List Nat))))).trans (hfA j h)
      refine lv_aload_n hx hb dX13_go_41 rfl (lv_at hl 0 rfl) ?_
      refine gf_now hx hb hj hown hK hP hI dX13_go_42 (fun h_19 => ?_)
      rw [← hQ]
      exact W.iret (v := iI (g_16 30)) hx hb hr (fun t ht hW => ⟨⟨iI (g_16 30), (g_16, a), rfl, ⟨g_16 30, rfl, hI, hfA, haA, by omega, by show ((g_16 30) = -1 ∧ (p1 < 0 ∨ 300 < p1) ∧ g_16 30 = g 30) ∨ ((g_16 30) = g_16 30 ∧ 0 ≤ p1 ∧ p1 ≤ 300 ∧ ((2000 < g 30 + p1 ∧ g_16 30 = 2000) ∨ (g 30 + p1 ≤ 2000 ∧ g_16 30 = g 30 + p1))); omega⟩, by rw [ht]; exact hP, va_K.moved hW.alike hK, hD⟩, hS.F ht⟩) hS.2.2 dX13_go_45
    · refine lv_sipush (v := iI 2000) hx hb dX13_go_26 rfl ?_
      refine lv_goto (tgt := 38) hx hb dX13_go_29 (by decide) ?_
      refine pf_now hx hb hj hown hK hP hD hS hI (by omega) (by omega) dX13_go_38 (fun g_20 H locs e_21 e_22 hI hP hD hS => ?_)
      have hfA : ∀ j, j ∉ ([30] : List Nat) → g_20 j = g j := fun j h => (e_21 j (fun q => h (q ▸ (by decide : 30 ∈ ([30] : List Nat))))).trans (hfA j h)
      refine lv_aload_n hx hb dX13_go_41 rfl (lv_at hl 0 rfl) ?_
      refine gf_now hx hb hj hown hK hP hI dX13_go_42 (fun h_23 => ?_)
      rw [← hQ]
      exact W.iret (v := iI (g_20 30)) hx hb hr (fun t ht hW => ⟨⟨iI (g_20 30), (g_20, a), rfl, ⟨g_20 30, rfl, hI, hfA, haA, by omega, by show ((g_20 30) = -1 ∧ (p1 < 0 ∨ 300 < p1) ∧ g_20 30 = g 30) ∨ ((g_20 30) = g_20 30 ∧ 0 ≤ p1 ∧ p1 ≤ 300 ∧ ((2000 < g 30 + p1 ∧ g_20 30 = 2000) ∨ (g 30 + p1 ≤ 2000 ∧ g_20 30 = g 30 + p1))); omega⟩, by rw [ht]; exact hP, va_K.moved hW.alike hK, hD⟩, hS.F ht⟩) hS.2.2 dX13_go_45
  · refine lv_iconst (v := iI (-1)) hx hb dX13_go_11 rfl ?_
    rw [← hQ]
    exact W.iret (v := iI (-1)) hx hb hr (fun t ht hW => ⟨⟨iI (-1), (g, a), rfl, ⟨(-1), rfl, hI, hfA, haA, by omega, by show ((-1) = -1 ∧ (p1 < 0 ∨ 300 < p1) ∧ g 30 = g 30) ∨ ((-1) = g 30 ∧ 0 ≤ p1 ∧ p1 ≤ 300 ∧ ((2000 < g 30 + p1 ∧ g 30 = 2000) ∨ (g 30 + p1 ≤ 2000 ∧ g 30 = g 30 + p1))); omega⟩, by rw [ht]; exact hP, va_K.moved hW.alike hK, hD⟩, hS.F ht⟩) hS.2.2 dX13_go_12
