set_option maxHeartbeats 500000 in
set_option maxRecDepth 100000 in
theorem kX8_put_3 (l : Launch) (dC : Nat → ClassId) (dI : Nat → Nat → Nat) (sz : Nat) (ad : Nat → Nat) (ca : Nat → ClassId) (p1 : Int32) (p2 : Int32) : Met l yX8_put (jk yX8_put cX8_put 4 (some .int)) ({ frames := 0, cells := 0, slots := 0, locals := 0 }) (va_Pc [.ref (ad 11), .int p1, .int p2, .int 0] (jw_P (dC, dI) (xW ad ca) (xT ca) sz)) (va_Qi (fun (r : Int32) (_ : Unit) => (r = (-1))) (fun _ _ => True) (va_A [] sz)) 0 0 (va_A [] sz) := by
  refine Met.ofW (cc := cX8_put) (maxL := 4) (ret := (some .int)) (by decide) rfl ?_
  intro p e s m args below meth c s₁ B hml hv
  obtain ⟨rfl, hsz, hP, hK, hD0⟩ := hv
  have hx := B.exec
  have hb := B.bytes
  have hr := B.returns
  have hts := atoms_spec (ws := (jk yX8_put cX8_put 4 (some .int))) B.pre
  have hown : s.vm.findClass RX8 = some m.cls := findClass_of_methodNamed B.named
  have hlocks := B.notSynchronized
  subst hsz
  have hD := hD0
  generalize hAe : (va_A [] s.heap.size) = A
  have hA : ∀ q : Nat, s.heap.size ≤ q → A q := fun q h => by rw [← hAe]; exact Or.inr h
  have hS : va_S A s.heap s.heap [] := va_S.rf
  have hP : va_P (dC, dI) vwCl (xW ad ca) s.heap := hP
  have hl := lv_entry ([.ref (ad 11), .int p1, .int p2, .int 0]) (n := 4) (Nat.le_of_ble_eq_true rfl)
  rw [lg_entry_eq]
  generalize (lg_sl ([.ref (ad 11), .int p1, .int p2, .int 0]) ++ List.replicate (4 - (lg_sl ([.ref (ad 11), .int p1, .int p2, .int 0])).length) Slot.unset).toArray = ls at hl ⊢
  have hl : lv_has ls 4 [(0, .ref (ad 11)), (1, .int p1), (2, .int p2), (3, .int 0)] := hl
  refine lv_iload_n hx hb dX8_put_0 rfl (lv_at hl 1 rfl) ?_
  refine lv_if_lt (tgt := 28) hx hb dX8_put_1 (by decide) (fun c_1 => ?_) (fun c_1 => ?_)
  · refine lv_iconst (v := (-1)) hx hb dX8_put_28 (by decide) ?_
    exact W.iret (v := (-1)) hx hb hr (fun t ht hW => ⟨⟨(-1), (), rfl, rfl, trivial⟩, hS.F ht⟩) hS.2.2 dX8_put_29
  · refine lv_iload_n hx hb dX8_put_4 rfl (lv_at hl 1 rfl) ?_
    refine lv_aload_n hx hb dX8_put_5 rfl (lv_at hl 0 rfl) ?_
    refine va_get (D := (dC, dI)) (ci := 8) (v := .int 0) (C := RX8) (T := TX8) (N := 8) hx hb hts (jh hin_RX8) hown hK hP 11 rfl rfl 1 (by decide) (hts (.fieldLink RX8 33 "BookOfAll$Rules" "sheetCount" "I") (jm m_153)) (fun _ h9 => h9) rfl dX8_put_6 ?_
    refine lv_icmp_ge (tgt := 28) hx hb dX8_put_9 (by decide) (fun _ => ?_) (fun z => absurd (jb_ge (jl_nlt c_1) (by decide)) z)
    refine lv_iconst (v := (-1)) hx hb dX8_put_28 (by decide) ?_
    exact W.iret (v := (-1)) hx hb hr (fun t ht hW => ⟨⟨(-1), (), rfl, rfl, trivial⟩, hS.F ht⟩) hS.2.2 dX8_put_29
set_option maxHeartbeats 500000 in
set_option maxRecDepth 100000 in
theorem tX12_force (l : Launch) (dC : Nat → ClassId) (dI : Nat → Nat → Nat) (sz : Nat) (ad : Nat → Nat) (ca : Nat → ClassId) (p1 : Int32) (p2 : Int32) : Met l yX12_force (jk yX12_force cX12_force 5 (some .int)) ({ frames := 1, cells := 0, slots := 0, locals := 23 }) (va_Pc [.ref (ad 0), .int p1, .int p2] (jw_P (dC, dI) (xW ad ca) (xT ca) sz)) (va_Qi (fun (r : Int32) (_ : Unit) => (r = (-1))) (fun _ _ => True) (va_A [] sz)) 0 0 (va_A [] sz) := by
  refine Met.ofW (cc := cX12_force) (maxL := 5) (ret := (some .int)) (by decide) rfl ?_
  intro p e s m args below meth c s₁ B hml hv
  obtain ⟨rfl, hsz, hP, hK, hD0⟩ := hv
  have hx := B.exec
  have hb := B.bytes
  have hr := B.returns
  have hts := atoms_spec (ws := (jk yX12_force cX12_force 5 (some .int))) B.pre
  have hown : s.vm.findClass RX12 = some m.cls := findClass_of_methodNamed B.named
  have hlocks := B.notSynchronized
  subst hsz
  have hD := hD0
  generalize hAe : (va_A [] s.heap.size) = A
  have hA : ∀ q : Nat, s.heap.size ≤ q → A q := fun q h => by rw [← hAe]; exact Or.inr h
  have hS : va_S A s.heap s.heap [] := va_S.rf
  have hP : va_P (dC, dI) vwCl (xW ad ca) s.heap := hP
  have hl := lv_entry ([.ref (ad 0), .int p1, .int p2]) (n := 5) (Nat.le_of_ble_eq_true rfl)
  rw [lg_entry_eq]
  generalize (lg_sl ([.ref (ad 0), .int p1, .int p2]) ++ List.replicate (5 - (lg_sl ([.ref (ad 0), .int p1, .int p2])).length) Slot.unset).toArray = ls at hl ⊢
  have hl : lv_has ls 5 [(0, .ref (ad 0)), (1, .int p1), (2, .int p2)] := hl
  refine lv_iload_n hx hb dX12_force_0 rfl (lv_at hl 2 rfl) ?_
  refine lv_iconst (v := (-1)) hx hb dX12_force_1 (by decide) ?_
  refine lv_icmp_ne (tgt := 9) hx hb dX12_force_2 (by decide) (fun c_1 => ?_) (fun c_1 => ?_)
  · refine lv_iconst (v := 0) hx hb dX12_force_9 (by decide) ?_
    refine lv_istore_n (lv' := [(3, .int 0), (0, .ref (ad 0)), (1, .int p1), (2, .int p2)]) hx hb dX12_force_10 rfl hl (by decide) rfl (fun ls hl => ?_)
    refine lv_iload_n hx hb dX12_force_11 rfl (lv_at hl 0 rfl) ?_
    refine lv_if_ne (tgt := 33) hx hb dX12_force_12 (by decide) (fun z => absurd (by decide) z) (fun _ => ?_)
    refine lv_aload_n hx hb dX12_force_15 rfl (lv_at hl 1 rfl) ?_
    refine lv_iload_n hx hb dX12_force_16 rfl (lv_at hl 3 rfl) ?_
    refine jc_i (va_runV (As := [.int p2]) (rest := []) ⟨hx, hb, hml, hown, hts⟩ (kX12_isVolume_1 l dC dI _ (ad 0) p2) (cwV 1 hts (jgoodV m_207 m_208 m_209 m_210 m_211) rfl rfl rfl (by decide +kernel) ⟨Nat.le_of_ble_eq_true rfl, Nat.le_of_ble_eq_true rfl⟩) ⟨jw_blind0, va_recv hK hP (ci := 12) (q0 := 0) rfl rfl, fun U hU hW => ⟨rfl, congrArg Array.size hU⟩⟩ rfl rfl hl.1 rfl (lv_room (Nat.le_of_ble_eq_true rfl)) dX12_force_17 ⟨Nat.le_of_ble_eq_true rfl, Nat.le_of_ble_eq_true rfl⟩) hP hS hA (fun r_2 H locs hw_2 hP hS => ?_)
    rcases (show (p2 < 0 ∧ r_2 = 0) ∨ (¬ (p2 < 0) ∧ 6 ≤ p2 ∧ r_2 = 0) ∨ (¬ (p2 < 0) ∧ ¬ (6 ≤ p2) ∧ r_2 = 1) from hw_2) with ⟨c_3, e_3_0⟩ | ⟨c_4, c_5, e_5_1⟩ | ⟨c_6, c_7, e_7_2⟩
    · have e_3_0 := e_3_0.symm
      subst e_3_0
      refine lv_if_eq (tgt := 31) hx hb dX12_force_20 (by decide) (fun _ => ?_) (fun z => absurd (by decide) z)
      refine lv_iconst (v := (-1)) hx hb dX12_force_31 (by decide) ?_
      exact W.iret (v := (-1)) hx hb hr (fun t ht hW => ⟨⟨(-1), (), rfl, rfl, trivial⟩, hS.F ht⟩) hS.2.2 dX12_force_32
    · have e_5_1 := e_5_1.symm
      subst e_5_1
      refine lv_if_eq (tgt := 31) hx hb dX12_force_20 (by decide) (fun _ => ?_) (fun z => absurd (by decide) z)
      refine lv_iconst (v := (-1)) hx hb dX12_force_31 (by decide) ?_
      exact W.iret (v := (-1)) hx hb hr (fun t ht hW => ⟨⟨(-1), (), rfl, rfl, trivial⟩, hS.F ht⟩) hS.2.2 dX12_force_32
    · have e_7_2 := e_7_2.symm
      subst e_7_2
      refine lv_if_eq (tgt := 31) hx hb dX12_force_20 (by decide) (fun z => absurd z (by decide)) (fun _ => ?_)
      refine lv_aload_n hx hb dX12_force_23 rfl (lv_at hl 1 rfl) ?_
      refine lv_iload_n hx hb dX12_force_24 rfl (lv_at hl 3 rfl) ?_
      refine jc_i (va_runV (As := [.int p2]) (rest := []) ⟨hx, hb, hml, hown, hts⟩ (kX12_isSet_3 l dC dI _ ad ca p2) (cwV 1 hts (jgoodV m_213 m_214 m_215 m_210 m_216) rfl rfl rfl (by decide +kernel) ⟨Nat.le_of_ble_eq_true rfl, Nat.le_of_ble_eq_true rfl⟩) ⟨jw_blind, va_recv hK hP (ci := 12) (q0 := 0) rfl rfl, fun U hU hW => ⟨rfl, jw_of hU hW hP hK hD⟩⟩ rfl rfl hl.1 rfl (lv_room (Nat.le_of_ble_eq_true rfl)) dX12_force_25 ⟨Nat.le_of_ble_eq_true rfl, Nat.le_of_ble_eq_true rfl⟩) hP hS hA (fun r_8 H locs hw_8 hP hS => ?_)
      rcases (show (r_8 = 0) ∨ (¬ (p2 < 0) ∧ ¬ (((0 >>> (p2 &&& 31)) &&& 1) = 0) ∧ r_8 = 1) from hw_8) with e_8_0 | ⟨c_9, c_10, e_10_1⟩
      · have e_8_0 := e_8_0.symm
        subst e_8_0
        refine lv_if_eq (tgt := 33) hx hb dX12_force_28 (by decide) (fun _ => ?_) (fun z => absurd (by decide) z)
        refine lv_aload_n hx hb dX12_force_33 rfl (lv_at hl 1 rfl) ?_
        refine va_get (D := (dC, dI)) (ci := 12) (v := .ref (ad 11)) (C := RX12) (T := TX12) (N := 20) hx hb hts (jh hin_RX12) hown hK hP 0 rfl rfl 3 (by decide) (hts (.fieldLink RX12 19 "BookOfAll" "rules" "LBookOfAll$Rules;") (jm m_152)) (fun _ h9 => h9) rfl dX12_force_34 ?_
        refine lv_iload_n hx hb dX12_force_37 rfl (lv_at hl 2 rfl) ?_
        refine lv_iload_n hx hb dX12_force_38 rfl (lv_at hl 3 rfl) ?_
        refine lv_aload_n hx hb dX12_force_39 rfl (lv_at hl 1 rfl) ?_
        refine va_get (D := (dC, dI)) (ci := 12) (v := .int 0) (C := RX12) (T := TX12) (N := 20) hx hb hts (jh hin_RX12) hown hK hP 0 rfl rfl 0 (by decide) (hts (.fieldLink RX12 133 "BookOfAll" "now" "I") (jm m_217)) (fun _ h9 => h9) rfl dX12_force_40 ?_
        refine jc_i (va_runV (As := [.int p1, .int p2, .int 0]) (rest := []) ⟨hx, hb, hml, hown, hts⟩ (kX8_put_3 l dC dI _ ad ca p1 p2) (cwV 3 hts (jgoodV m_218 m_219 m_220 m_157 m_221) rfl rfl rfl (by decide +kernel) ⟨Nat.le_of_ble_eq_true rfl, Nat.le_of_ble_eq_true rfl⟩) ⟨jw_blind, va_recv hK hP (ci := 8) (q0 := 11) rfl rfl, fun U hU hW => ⟨rfl, jw_of hU hW hP hK hD⟩⟩ rfl rfl hl.1 rfl (lv_room (Nat.le_of_ble_eq_true rfl)) dX12_force_43 ⟨Nat.le_of_ble_eq_true rfl, Nat.le_of_ble_eq_true rfl⟩) hP hS hA (fun r_11 H locs hw_11 hP hS => ?_)
        have hw_11 : (-1) = r_11 := Eq.symm hw_11
        subst hw_11
        refine lv_istore (lv' := [(4, .int (-1)), (3, .int 0), (0, .ref (ad 0)), (1, .int p1), (2, .int p2)]) hx hb dX12_force_46 hl (by decide) rfl (fun ls hl => ?_)
        refine lv_iload hx hb dX12_force_48 (lv_at hl 0 rfl) ?_
        refine lv_iconst (v := (-1)) hx hb dX12_force_50 (by decide) ?_
        refine lv_icmp_eq (tgt := 62) hx hb dX12_force_51 (by decide) (fun _ => ?_) (fun z => absurd (by decide) z)
        refine lv_iload hx hb dX12_force_62 (lv_at hl 0 rfl) ?_
        exact W.iret (v := (-1)) hx hb hr (fun t ht hW => ⟨⟨(-1), (), rfl, rfl, trivial⟩, hS.F ht⟩) hS.2.2 dX12_force_64
      · have e_10_1 := e_10_1.symm
        subst e_10_1
        refine lv_if_eq (tgt := 33) hx hb dX12_force_28 (by decide) (fun z => absurd z (by decide)) (fun _ => ?_)
        refine lv_iconst (v := (-1)) hx hb dX12_force_31 (by decide) ?_
        exact W.iret (v := (-1)) hx hb hr (fun t ht hW => ⟨⟨(-1), (), rfl, rfl, trivial⟩, hS.F ht⟩) hS.2.2 dX12_force_32
  · refine lv_iconst (v := 1) hx hb dX12_force_5 (by decide) ?_
    refine lv_goto (tgt := 10) hx hb dX12_force_6 (by decide) ?_
    refine lv_istore_n (lv' := [(3, .int 1), (0, .ref (ad 0)), (1, .int p1), (2, .int p2)]) hx hb dX12_force_10 rfl hl (by decide) rfl (fun ls hl => ?_)
    refine lv_iload_n hx hb dX12_force_11 rfl (lv_at hl 0 rfl) ?_
    refine lv_if_ne (tgt := 33) hx hb dX12_force_12 (by decide) (fun _ => ?_) (fun z => absurd z (by decide))
    refine lv_aload_n hx hb dX12_force_33 rfl (lv_at hl 1 rfl) ?_
    refine va_get (D := (dC, dI)) (ci := 12) (v := .ref (ad 11)) (C := RX12) (T := TX12) (N := 20) hx hb hts (jh hin_RX12) hown hK hP 0 rfl rfl 3 (by decide) (hts (.fieldLink RX12 19 "BookOfAll" "rules" "LBookOfAll$Rules;") (jm m_152)) (fun _ h9 => h9) rfl dX12_force_34 ?_
    refine lv_iload_n hx hb dX12_force_37 rfl (lv_at hl 2 rfl) ?_
    refine lv_iload_n hx hb dX12_force_38 rfl (lv_at hl 3 rfl) ?_
    refine lv_aload_n hx hb dX12_force_39 rfl (lv_at hl 1 rfl) ?_
    refine va_get (D := (dC, dI)) (ci := 12) (v := .int 0) (C := RX12) (T := TX12) (N := 20) hx hb hts (jh hin_RX12) hown hK hP 0 rfl rfl 0 (by decide) (hts (.fieldLink RX12 133 "BookOfAll" "now" "I") (jm m_217)) (fun _ h9 => h9) rfl dX12_force_40 ?_
    refine jc_i (va_runV (As := [.int p1, .int p2, .int 0]) (rest := []) ⟨hx, hb, hml, hown, hts⟩ (kX8_put_3 l dC dI _ ad ca p1 p2) (cwV 3 hts (jgoodV m_218 m_219 m_220 m_157 m_221) rfl rfl rfl (by decide +kernel) ⟨Nat.le_of_ble_eq_true rfl, Nat.le_of_ble_eq_true rfl⟩) ⟨jw_blind, va_recv hK hP (ci := 8) (q0 := 11) rfl rfl, fun U hU hW => ⟨rfl, jw_of hU hW hP hK hD⟩⟩ rfl rfl hl.1 rfl (lv_room (Nat.le_of_ble_eq_true rfl)) dX12_force_43 ⟨Nat.le_of_ble_eq_true rfl, Nat.le_of_ble_eq_true rfl⟩) hP hS hA (fun r_12 H locs hw_12 hP hS => ?_)
    have hw_12 : (-1) = r_12 := Eq.symm hw_12
    subst hw_12
    refine lv_istore (lv' := [(4, .int (-1)), (3, .int 1), (0, .ref (ad 0)), (1, .int p1), (2, .int p2)]) hx hb dX12_force_46 hl (by decide) rfl (fun ls hl => ?_)
    refine lv_iload hx hb dX12_force_48 (lv_at hl 0 rfl) ?_
    refine lv_iconst (v := (-1)) hx hb dX12_force_50 (by decide) ?_
    refine lv_icmp_eq (tgt := 62) hx hb dX12_force_51 (by decide) (fun _ => ?_) (fun z => absurd (by decide) z)
    refine lv_iload hx hb dX12_force_62 (lv_at hl 0 rfl) ?_
    exact W.iret (v := (-1)) hx hb hr (fun t ht hW => ⟨⟨(-1), (), rfl, rfl, trivial⟩, hS.F ht⟩) hS.2.2 dX12_force_64
set_option maxHeartbeats 500000 in
set_option maxRecDepth 100000 in
theorem kX9_sortOf_1 (l : Launch) (dC : Nat → ClassId) (dI : Nat → Nat → Nat) (sz : Nat) (p0 : Int32) : Met l yX9_sortOf (jk yX9_sortOf cX9_sortOf 3 (some .int)) ({ frames := 0, cells := 0, slots := 0, locals := 0 }) (va_Pc [.int p0] (fun U => U.heap.size = sz)) (va_Qi (fun (r : Int32) (_ : Unit) => (r = (-1)) ∨ (¬ (p0 < 0) ∧ 4 < p0 ∧ ¬ (p0 < 10) ∧ ¬ (3 < (p0 / 10)) ∧ ¬ (2 < (p0 - p0 / 10 * 10)) ∧ r = ((5 + (3 * ((p0 / 10) - 1))) + (p0 - p0 / 10 * 10))) ∨ (¬ (p0 < 0) ∧ ¬ (4 < p0) ∧ r = p0)) (fun _ _ => True) (va_A [] sz)) 0 0 (va_A [] sz) := by
  refine Met.ofW (cc := cX9_sortOf) (maxL := 3) (ret := (some .int)) (by decide) rfl ?_
  intro p e s m args below meth c s₁ B hml hv
  obtain ⟨rfl, hsz⟩ := hv
  have hx := B.exec
  have hb := B.bytes
  have hr := B.returns
  have hts := atoms_spec (ws := (jk yX9_sortOf cX9_sortOf 3 (some .int))) B.pre
  have hown : s.vm.findClass RX9 = some m.cls := findClass_of_methodNamed B.named
  have hlocks := B.notSynchronized
  subst hsz
  have hP : va_P (dC, dI) vwCl [] s.heap := fun k q h => by simp at h
  generalize hAe : (va_A [] s.heap.size) = A
  have hA : ∀ q : Nat, s.heap.size ≤ q → A q := fun q h => by rw [← hAe]; exact Or.inr h
  have hS : va_S A s.heap s.heap [] := va_S.rf
  have hl := lv_entry ([.int p0]) (n := 3) (Nat.le_of_ble_eq_true rfl)
  rw [lg_entry_eq]
  generalize (lg_sl ([.int p0]) ++ List.replicate (3 - (lg_sl ([.int p0])).length) Slot.unset).toArray = ls at hl ⊢
  have hl : lv_has ls 3 [(0, .int p0)] := hl
  refine lv_iload_n hx hb dX9_sortOf_0 rfl (lv_at hl 0 rfl) ?_
  refine lv_if_lt (tgt := 11) hx hb dX9_sortOf_1 (by decide) (fun c_1 => ?_) (fun c_1 => ?_)
  · refine lv_iload_n hx hb dX9_sortOf_11 rfl (lv_at hl 0 rfl) ?_
    refine lv_bipush (v := 10) hx hb dX9_sortOf_12 (by decide) ?_
    refine lv_idiv hx hb dX9_sortOf_14 (by decide) ?_
    refine lv_istore_n (lv' := [(1, .int (p0 / 10)), (0, .int p0)]) hx hb dX9_sortOf_15 rfl hl (by decide) rfl (fun ls hl => ?_)
    refine lv_iload_n hx hb dX9_sortOf_16 rfl (lv_at hl 1 rfl) ?_
    refine lv_bipush (v := 10) hx hb dX9_sortOf_17 (by decide) ?_
    refine lv_irem hx hb dX9_sortOf_19 (by decide) ?_
    refine lv_istore_n (lv' := [(2, .int (p0 - p0 / 10 * 10)), (1, .int (p0 / 10)), (0, .int p0)]) hx hb dX9_sortOf_20 rfl hl (by decide) rfl (fun ls hl => ?_)
    refine lv_iload_n hx hb dX9_sortOf_21 rfl (lv_at hl 2 rfl) ?_
    refine lv_bipush (v := 10) hx hb dX9_sortOf_22 (by decide) ?_
    refine lv_icmp_lt (tgt := 49) hx hb dX9_sortOf_24 (by decide) (fun _ => ?_) (fun z => absurd (jb_lt (jl_lt (d := (-1)) c_1 (by decide)) (by decide)) z)
    refine lv_iconst (v := (-1)) hx hb dX9_sortOf_49 (by decide) ?_
    exact W.iret (v := (-1)) hx hb hr (fun t ht hW => ⟨⟨(-1), (), rfl, (Or.inl rfl), trivial⟩, hS.F ht⟩) hS.2.2 dX9_sortOf_50
  · refine lv_iload_n hx hb dX9_sortOf_4 rfl (lv_at hl 0 rfl) ?_
    refine lv_iconst (v := 4) hx hb dX9_sortOf_5 (by decide) ?_
    refine lv_icmp_gt (tgt := 11) hx hb dX9_sortOf_6 (by decide) (fun c_2 => ?_) (fun c_2 => ?_)
    · refine lv_iload_n hx hb dX9_sortOf_11 rfl (lv_at hl 0 rfl) ?_
      refine lv_bipush (v := 10) hx hb dX9_sortOf_12 (by decide) ?_
      refine lv_idiv hx hb dX9_sortOf_14 (by decide) ?_
      refine lv_istore_n (lv' := [(1, .int (p0 / 10)), (0, .int p0)]) hx hb dX9_sortOf_15 rfl hl (by decide) rfl (fun ls hl => ?_)
      refine lv_iload_n hx hb dX9_sortOf_16 rfl (lv_at hl 1 rfl) ?_
      refine lv_bipush (v := 10) hx hb dX9_sortOf_17 (by decide) ?_
      refine lv_irem hx hb dX9_sortOf_19 (by decide) ?_
      refine lv_istore_n (lv' := [(2, .int (p0 - p0 / 10 * 10)), (1, .int (p0 / 10)), (0, .int p0)]) hx hb dX9_sortOf_20 rfl hl (by decide) rfl (fun ls hl => ?_)
      refine lv_iload_n hx hb dX9_sortOf_21 rfl (lv_at hl 2 rfl) ?_
      refine lv_bipush (v := 10) hx hb dX9_sortOf_22 (by decide) ?_
      refine lv_icmp_lt (tgt := 49) hx hb dX9_sortOf_24 (by decide) (fun c_3 => ?_) (fun c_3 => ?_)
      · refine lv_iconst (v := (-1)) hx hb dX9_sortOf_49 (by decide) ?_
        exact W.iret (v := (-1)) hx hb hr (fun t ht hW => ⟨⟨(-1), (), rfl, (Or.inl rfl), trivial⟩, hS.F ht⟩) hS.2.2 dX9_sortOf_50
      · refine lv_iload_n hx hb dX9_sortOf_27 rfl (lv_at hl 1 rfl) ?_
        refine lv_iconst (v := 3) hx hb dX9_sortOf_28 (by decide) ?_
        refine lv_icmp_gt (tgt := 49) hx hb dX9_sortOf_29 (by decide) (fun c_4 => ?_) (fun c_4 => ?_)
        · refine lv_iconst (v := (-1)) hx hb dX9_sortOf_49 (by decide) ?_
          exact W.iret (v := (-1)) hx hb hr (fun t ht hW => ⟨⟨(-1), (), rfl, (Or.inl rfl), trivial⟩, hS.F ht⟩) hS.2.2 dX9_sortOf_50
        · refine lv_iload_n hx hb dX9_sortOf_32 rfl (lv_at hl 0 rfl) ?_
          refine lv_iconst (v := 2) hx hb dX9_sortOf_33 (by decide) ?_
          refine lv_icmp_gt (tgt := 49) hx hb dX9_sortOf_34 (by decide) (fun c_5 => ?_) (fun c_5 => ?_)
          · refine lv_iconst (v := (-1)) hx hb dX9_sortOf_49 (by decide) ?_
            exact W.iret (v := (-1)) hx hb hr (fun t ht hW => ⟨⟨(-1), (), rfl, (Or.inl rfl), trivial⟩, hS.F ht⟩) hS.2.2 dX9_sortOf_50
          · refine lv_iconst (v := 5) hx hb dX9_sortOf_37 (by decide) ?_
            refine lv_iconst (v := 3) hx hb dX9_sortOf_38 (by decide) ?_
            refine lv_iload_n hx hb dX9_sortOf_39 rfl (lv_at hl 1 rfl) ?_
            refine lv_iconst (v := 1) hx hb dX9_sortOf_40 (by decide) ?_
            refine lv_isub hx hb dX9_sortOf_41 ?_
            refine lv_imul hx hb dX9_sortOf_42 ?_
            refine lv_iadd hx hb dX9_sortOf_43 ?_
            refine lv_iload_n hx hb dX9_sortOf_44 rfl (lv_at hl 0 rfl) ?_
            refine lv_iadd hx hb dX9_sortOf_45 ?_
            refine lv_goto (tgt := 50) hx hb dX9_sortOf_46 (by decide) ?_
            exact W.iret (v := ((5 + (3 * ((p0 / 10) - 1))) + (p0 - p0 / 10 * 10))) hx hb hr (fun t ht hW => ⟨⟨((5 + (3 * ((p0 / 10) - 1))) + (p0 - p0 / 10 * 10)), (), rfl, (Or.inr (Or.inl ⟨c_1, c_2, c_3, c_4, c_5, rfl⟩)), trivial⟩, hS.F ht⟩) hS.2.2 dX9_sortOf_50
    · refine lv_iload_n hx hb dX9_sortOf_9 rfl (lv_at hl 0 rfl) ?_
      exact W.iret (v := p0) hx hb hr (fun t ht hW => ⟨⟨p0, (), rfl, (Or.inr (Or.inr ⟨c_1, c_2, rfl⟩)), trivial⟩, hS.F ht⟩) hS.2.2 dX9_sortOf_10
set_option maxHeartbeats 500000 in
set_option maxRecDepth 100000 in
theorem kX8_inForce_3 (l : Launch) (dC : Nat → ClassId) (dI : Nat → Nat → Nat) (sz : Nat) (ad : Nat → Nat) (ca : Nat → ClassId) (p1 : Int32) (p2 : Int32) (p3 : Int32) : Met l yX8_inForce (jk yX8_inForce cX8_inForce 6 (some .int)) ({ frames := 0, cells := 0, slots := 0, locals := 0 }) (va_Pc [.ref (ad 11), .int p1, .int p2, .int p3] (jw_P (dC, dI) (xW ad ca) (xT ca) sz)) (va_Qi (fun (r : Int32) (_ : Unit) => (r = (-1))) (fun _ _ => True) (va_A [] sz)) 0 0 (va_A [] sz) := by
  refine Met.ofW (cc := cX8_inForce) (maxL := 6) (ret := (some .int)) (by decide) rfl ?_
  intro p e s m args below meth c s₁ B hml hv
  obtain ⟨rfl, hsz, hP, hK, hD0⟩ := hv
  have hx := B.exec
  have hb := B.bytes
  have hr := B.returns
  have hts := atoms_spec (ws := (jk yX8_inForce cX8_inForce 6 (some .int))) B.pre
  have hown : s.vm.findClass RX8 = some m.cls := findClass_of_methodNamed B.named
  have hlocks := B.notSynchronized
  subst hsz
  have hD := hD0
  generalize hAe : (va_A [] s.heap.size) = A
  have hA : ∀ q : Nat, s.heap.size ≤ q → A q := fun q h => by rw [← hAe]; exact Or.inr h
  have hS : va_S A s.heap s.heap [] := va_S.rf
  have hP : va_P (dC, dI) vwCl (xW ad ca) s.heap := hP
  have hl := lv_entry ([.ref (ad 11), .int p1, .int p2, .int p3]) (n := 6) (Nat.le_of_ble_eq_true rfl)
  rw [lg_entry_eq]
  generalize (lg_sl ([.ref (ad 11), .int p1, .int p2, .int p3]) ++ List.replicate (6 - (lg_sl ([.ref (ad 11), .int p1, .int p2, .int p3])).length) Slot.unset).toArray = ls at hl ⊢
  have hl : lv_has ls 6 [(0, .ref (ad 11)), (1, .int p1), (2, .int p2), (3, .int p3)] := hl
  refine lv_aload_n hx hb dX8_inForce_0 rfl (lv_at hl 0 rfl) ?_
  refine va_get (D := (dC, dI)) (ci := 8) (v := .int 0) (C := RX8) (T := TX8) (N := 8) hx hb hts (jh hin_RX8) hown hK hP 11 rfl rfl 5 (by decide) (hts (.fieldLink RX8 37 "BookOfAll$Rules" "puts" "I") (jm m_225)) (fun _ h9 => h9) rfl dX8_inForce_1 ?_
  refine lv_iconst (v := 1) hx hb dX8_inForce_4 (by decide) ?_
  refine lv_isub hx hb dX8_inForce_5 ?_
  refine jt_i (-1) (by decide) ?_
  refine lv_istore (lv' := [(4, .int (-1)), (0, .ref (ad 11)), (1, .int p1), (2, .int p2), (3, .int p3)]) hx hb dX8_inForce_6 hl (by decide) rfl (fun ls hl => ?_)
  refine lv_iload hx hb dX8_inForce_8 (lv_at hl 0 rfl) ?_
  refine lv_if_lt (tgt := 51) hx hb dX8_inForce_10 (by decide) (fun _ => ?_) (fun z => absurd (by decide) z)
  refine lv_iconst (v := (-1)) hx hb dX8_inForce_51 (by decide) ?_
  exact W.iret (v := (-1)) hx hb hr (fun t ht hW => ⟨⟨(-1), (), rfl, rfl, trivial⟩, hS.F ht⟩) hS.2.2 dX8_inForce_52
set_option maxHeartbeats 500000 in
set_option maxRecDepth 100000 in
theorem tX12_rule (l : Launch) (dC : Nat → ClassId) (dI : Nat → Nat → Nat) (sz : Nat) (ad : Nat → Nat) (ca : Nat → ClassId) (p1 : Int32) (p2 : Int32) (p3 : Int32) : Met l yX12_rule (jk yX12_rule cX12_rule 5 (some .int)) ({ frames := 1, cells := 0, slots := 0, locals := 25 }) (va_Pc [.ref (ad 0), .int p1, .int p2, .int p3] (jw_P (dC, dI) (xW ad ca) (xT ca) sz)) (va_Qi (fun (r : Int32) (_ : Unit) => (r = (-1))) (fun _ _ => True) (va_A [] sz)) 0 0 (va_A [] sz) := by
  refine Met.ofW (cc := cX12_rule) (maxL := 5) (ret := (some .int)) (by decide) rfl ?_
  intro p e s m args below meth c s₁ B hml hv
  obtain ⟨rfl, hsz, hP, hK, hD0⟩ := hv
  have hx := B.exec
  have hb := B.bytes
  have hr := B.returns
  have hts := atoms_spec (ws := (jk yX12_rule cX12_rule 5 (some .int))) B.pre
  have hown : s.vm.findClass RX12 = some m.cls := findClass_of_methodNamed B.named
  have hlocks := B.notSynchronized
  subst hsz
  have hD := hD0
  generalize hAe : (va_A [] s.heap.size) = A
  have hA : ∀ q : Nat, s.heap.size ≤ q → A q := fun q h => by rw [← hAe]; exact Or.inr h
  have hS : va_S A s.heap s.heap [] := va_S.rf
  have hP : va_P (dC, dI) vwCl (xW ad ca) s.heap := hP
  have hl := lv_entry ([.ref (ad 0), .int p1, .int p2, .int p3]) (n := 5) (Nat.le_of_ble_eq_true rfl)
  rw [lg_entry_eq]
  generalize (lg_sl ([.ref (ad 0), .int p1, .int p2, .int p3]) ++ List.replicate (5 - (lg_sl ([.ref (ad 0), .int p1, .int p2, .int p3])).length) Slot.unset).toArray = ls at hl ⊢
  have hl : lv_has ls 5 [(0, .ref (ad 0)), (1, .int p1), (2, .int p2), (3, .int p3)] := hl
  refine lv_iload_n hx hb dX12_rule_0 rfl (lv_at hl 1 rfl) ?_
  refine jc_i (va_runS (As := [.int p1]) (rest := []) ⟨hx, hb, hml, hown, hts⟩ (kX9_sortOf_1 l dC dI _ p1) (va_cwS 1 hts (jgoodS m_222 m_223 m_161 m_224) rfl rfl rfl (by decide +kernel) ⟨Nat.le_of_ble_eq_true rfl, Nat.le_of_ble_eq_true rfl⟩) ⟨jw_blind0, fun U hU hW => ⟨rfl, congrArg Array.size hU⟩⟩ rfl rfl hl.1 rfl (lv_room (Nat.le_of_ble_eq_true rfl)) dX12_rule_1 ⟨Nat.le_of_ble_eq_true rfl, Nat.le_of_ble_eq_true rfl⟩) hP hS hA (fun r_1 H locs hw_1 hP hS => ?_)
  rcases (show (r_1 = (-1)) ∨ (¬ (p1 < 0) ∧ 4 < p1 ∧ ¬ (p1 < 10) ∧ ¬ (3 < (p1 / 10)) ∧ ¬ (2 < (p1 - p1 / 10 * 10)) ∧ r_1 = ((5 + (3 * ((p1 / 10) - 1))) + (p1 - p1 / 10 * 10))) ∨ (¬ (p1 < 0) ∧ ¬ (4 < p1) ∧ r_1 = p1) from hw_1) with e_1_0 | ⟨c_2, c_3, c_4, c_5, c_6, e_6_1⟩ | ⟨c_7, c_8, e_8_2⟩
  · have e_1_0 := e_1_0.symm
    subst e_1_0
    refine lv_istore (lv' := [(4, .int (-1)), (0, .ref (ad 0)), (1, .int p1), (2, .int p2), (3, .int p3)]) hx hb dX12_rule_4 hl (by decide) rfl (fun ls hl => ?_)
    refine lv_iload hx hb dX12_rule_6 (lv_at hl 0 rfl) ?_
    refine lv_iconst (v := (-1)) hx hb dX12_rule_8 (by decide) ?_
    refine lv_icmp_eq (tgt := 32) hx hb dX12_rule_9 (by decide) (fun _ => ?_) (fun z => absurd (by decide) z)
    refine lv_iconst (v := (-1)) hx hb dX12_rule_32 (by decide) ?_
    exact W.iret (v := (-1)) hx hb hr (fun t ht hW => ⟨⟨(-1), (), rfl, rfl, trivial⟩, hS.F ht⟩) hS.2.2 dX12_rule_33
  · have e_6_1 := e_6_1.symm
    subst e_6_1
    refine lv_istore (lv' := [(4, .int ((5 + (3 * ((p1 / 10) - 1))) + (p1 - p1 / 10 * 10))), (0, .ref (ad 0)), (1, .int p1), (2, .int p2), (3, .int p3)]) hx hb dX12_rule_4 hl (by decide) rfl (fun ls hl => ?_)
    refine lv_iload hx hb dX12_rule_6 (lv_at hl 0 rfl) ?_
    refine lv_iconst (v := (-1)) hx hb dX12_rule_8 (by decide) ?_
    refine lv_icmp_eq (tgt := 32) hx hb dX12_rule_9 (by decide) (fun c_9 => ?_) (fun c_9 => ?_)
    · refine lv_iconst (v := (-1)) hx hb dX12_rule_32 (by decide) ?_
      exact W.iret (v := (-1)) hx hb hr (fun t ht hW => ⟨⟨(-1), (), rfl, rfl, trivial⟩, hS.F ht⟩) hS.2.2 dX12_rule_33
    · refine lv_aload_n hx hb dX12_rule_12 rfl (lv_at hl 1 rfl) ?_
      refine lv_iload_n hx hb dX12_rule_13 rfl (lv_at hl 3 rfl) ?_
      refine jc_i (va_runV (As := [.int p2]) (rest := []) ⟨hx, hb, hml, hown, hts⟩ (kX12_isVolume_1 l dC dI _ (ad 0) p2) (cwV 1 hts (jgoodV m_207 m_208 m_209 m_210 m_211) rfl rfl rfl (by decide +kernel) ⟨Nat.le_of_ble_eq_true rfl, Nat.le_of_ble_eq_true rfl⟩) ⟨jw_blind0, va_recv hK hP (ci := 12) (q0 := 0) rfl rfl, fun U hU hW => ⟨rfl, congrArg Array.size hU⟩⟩ rfl rfl hl.1 rfl (lv_room (Nat.le_of_ble_eq_true rfl)) dX12_rule_14 ⟨Nat.le_of_ble_eq_true rfl, Nat.le_of_ble_eq_true rfl⟩) hP hS hA (fun r_10 H locs hw_10 hP hS => ?_)
      rcases (show (p2 < 0 ∧ r_10 = 0) ∨ (¬ (p2 < 0) ∧ 6 ≤ p2 ∧ r_10 = 0) ∨ (¬ (p2 < 0) ∧ ¬ (6 ≤ p2) ∧ r_10 = 1) from hw_10) with ⟨c_11, e_11_0⟩ | ⟨c_12, c_13, e_13_1⟩ | ⟨c_14, c_15, e_15_2⟩
      · have e_11_0 := e_11_0.symm
        subst e_11_0
        refine lv_if_eq (tgt := 32) hx hb dX12_rule_17 (by decide) (fun _ => ?_) (fun z => absurd (by decide) z)
        refine lv_iconst (v := (-1)) hx hb dX12_rule_32 (by decide) ?_
        exact W.iret (v := (-1)) hx hb hr (fun t ht hW => ⟨⟨(-1), (), rfl, rfl, trivial⟩, hS.F ht⟩) hS.2.2 dX12_rule_33
      · have e_13_1 := e_13_1.symm
        subst e_13_1
        refine lv_if_eq (tgt := 32) hx hb dX12_rule_17 (by decide) (fun _ => ?_) (fun z => absurd (by decide) z)
        refine lv_iconst (v := (-1)) hx hb dX12_rule_32 (by decide) ?_
        exact W.iret (v := (-1)) hx hb hr (fun t ht hW => ⟨⟨(-1), (), rfl, rfl, trivial⟩, hS.F ht⟩) hS.2.2 dX12_rule_33
      · have e_15_2 := e_15_2.symm
        subst e_15_2
        refine lv_if_eq (tgt := 32) hx hb dX12_rule_17 (by decide) (fun z => absurd z (by decide)) (fun _ => ?_)
        refine lv_iload_n hx hb dX12_rule_20 rfl (lv_at hl 4 rfl) ?_
        refine lv_if_lt (tgt := 32) hx hb dX12_rule_21 (by decide) (fun c_16 => ?_) (fun c_16 => ?_)
        · refine lv_iconst (v := (-1)) hx hb dX12_rule_32 (by decide) ?_
          exact W.iret (v := (-1)) hx hb hr (fun t ht hW => ⟨⟨(-1), (), rfl, rfl, trivial⟩, hS.F ht⟩) hS.2.2 dX12_rule_33
        · refine lv_iload_n hx hb dX12_rule_24 rfl (lv_at hl 4 rfl) ?_
          refine lv_aload_n hx hb dX12_rule_25 rfl (lv_at hl 1 rfl) ?_
          refine va_get (D := (dC, dI)) (ci := 12) (v := .int 0) (C := RX12) (T := TX12) (N := 20) hx hb hts (jh hin_RX12) hown hK hP 0 rfl rfl 0 (by decide) (hts (.fieldLink RX12 133 "BookOfAll" "now" "I") (jm m_217)) (fun _ h9 => h9) rfl dX12_rule_26 ?_
          refine lv_icmp_le (tgt := 34) hx hb dX12_rule_29 (by decide) (fun c_17 => ?_) (fun c_17 => ?_)
          · refine lv_aload_n hx hb dX12_rule_34 rfl (lv_at hl 1 rfl) ?_
            refine va_get (D := (dC, dI)) (ci := 12) (v := .ref (ad 11)) (C := RX12) (T := TX12) (N := 20) hx hb hts (jh hin_RX12) hown hK hP 0 rfl rfl 3 (by decide) (hts (.fieldLink RX12 19 "BookOfAll" "rules" "LBookOfAll$Rules;") (jm m_152)) (fun _ h9 => h9) rfl dX12_rule_35 ?_
            refine lv_iload hx hb dX12_rule_38 (lv_at hl 0 rfl) ?_
            refine lv_iload_n hx hb dX12_rule_40 rfl (lv_at hl 3 rfl) ?_
            refine lv_iload_n hx hb dX12_rule_41 rfl (lv_at hl 4 rfl) ?_
            refine jc_i (va_runV (As := [.int ((5 + (3 * ((p1 / 10) - 1))) + (p1 - p1 / 10 * 10)), .int p2, .int p3]) (rest := []) ⟨hx, hb, hml, hown, hts⟩ (kX8_inForce_3 l dC dI _ ad ca ((5 + (3 * ((p1 / 10) - 1))) + (p1 - p1 / 10 * 10)) p2 p3) (cwV 3 hts (jgoodV m_226 m_227 m_228 m_157 m_229) rfl rfl rfl (by decide +kernel) ⟨Nat.le_of_ble_eq_true rfl, Nat.le_of_ble_eq_true rfl⟩) ⟨jw_blind, va_recv hK hP (ci := 8) (q0 := 11) rfl rfl, fun U hU hW => ⟨rfl, jw_of hU hW hP hK hD⟩⟩ rfl rfl hl.1 rfl (lv_room (Nat.le_of_ble_eq_true rfl)) dX12_rule_42 ⟨Nat.le_of_ble_eq_true rfl, Nat.le_of_ble_eq_true rfl⟩) hP hS hA (fun r_18 H locs hw_18 hP hS => ?_)
            have hw_18 : (-1) = r_18 := Eq.symm hw_18
            subst hw_18
            exact W.iret (v := (-1)) hx hb hr (fun t ht hW => ⟨⟨(-1), (), rfl, rfl, trivial⟩, hS.F ht⟩) hS.2.2 dX12_rule_45
          · refine lv_iconst (v := (-1)) hx hb dX12_rule_32 (by decide) ?_
            exact W.iret (v := (-1)) hx hb hr (fun t ht hW => ⟨⟨(-1), (), rfl, rfl, trivial⟩, hS.F ht⟩) hS.2.2 dX12_rule_33
  · have e_8_2 := e_8_2.symm
    subst e_8_2
    refine lv_istore (lv' := [(4, .int p1), (0, .ref (ad 0)), (1, .int p1), (2, .int p2), (3, .int p3)]) hx hb dX12_rule_4 hl (by decide) rfl (fun ls hl => ?_)
    refine lv_iload hx hb dX12_rule_6 (lv_at hl 0 rfl) ?_
    refine lv_iconst (v := (-1)) hx hb dX12_rule_8 (by decide) ?_
    refine lv_icmp_eq (tgt := 32) hx hb dX12_rule_9 (by decide) (fun z => absurd z (jb_ne2 (jl_nlt c_7) (by decide))) (fun _ => ?_)
    refine lv_aload_n hx hb dX12_rule_12 rfl (lv_at hl 1 rfl) ?_
    refine lv_iload_n hx hb dX12_rule_13 rfl (lv_at hl 3 rfl) ?_
    refine jc_i (va_runV (As := [.int p2]) (rest := []) ⟨hx, hb, hml, hown, hts⟩ (kX12_isVolume_1 l dC dI _ (ad 0) p2) (cwV 1 hts (jgoodV m_207 m_208 m_209 m_210 m_211) rfl rfl rfl (by decide +kernel) ⟨Nat.le_of_ble_eq_true rfl, Nat.le_of_ble_eq_true rfl⟩) ⟨jw_blind0, va_recv hK hP (ci := 12) (q0 := 0) rfl rfl, fun U hU hW => ⟨rfl, congrArg Array.size hU⟩⟩ rfl rfl hl.1 rfl (lv_room (Nat.le_of_ble_eq_true rfl)) dX12_rule_14 ⟨Nat.le_of_ble_eq_true rfl, Nat.le_of_ble_eq_true rfl⟩) hP hS hA (fun r_19 H locs hw_19 hP hS => ?_)
    rcases (show (p2 < 0 ∧ r_19 = 0) ∨ (¬ (p2 < 0) ∧ 6 ≤ p2 ∧ r_19 = 0) ∨ (¬ (p2 < 0) ∧ ¬ (6 ≤ p2) ∧ r_19 = 1) from hw_19) with ⟨c_20, e_20_0⟩ | ⟨c_21, c_22, e_22_1⟩ | ⟨c_23, c_24, e_24_2⟩
    · have e_20_0 := e_20_0.symm
      subst e_20_0
      refine lv_if_eq (tgt := 32) hx hb dX12_rule_17 (by decide) (fun _ => ?_) (fun z => absurd (by decide) z)
      refine lv_iconst (v := (-1)) hx hb dX12_rule_32 (by decide) ?_
      exact W.iret (v := (-1)) hx hb hr (fun t ht hW => ⟨⟨(-1), (), rfl, rfl, trivial⟩, hS.F ht⟩) hS.2.2 dX12_rule_33
    · have e_22_1 := e_22_1.symm
      subst e_22_1
      refine lv_if_eq (tgt := 32) hx hb dX12_rule_17 (by decide) (fun _ => ?_) (fun z => absurd (by decide) z)
      refine lv_iconst (v := (-1)) hx hb dX12_rule_32 (by decide) ?_
      exact W.iret (v := (-1)) hx hb hr (fun t ht hW => ⟨⟨(-1), (), rfl, rfl, trivial⟩, hS.F ht⟩) hS.2.2 dX12_rule_33
    · have e_24_2 := e_24_2.symm
      subst e_24_2
      refine lv_if_eq (tgt := 32) hx hb dX12_rule_17 (by decide) (fun z => absurd z (by decide)) (fun _ => ?_)
      refine lv_iload_n hx hb dX12_rule_20 rfl (lv_at hl 4 rfl) ?_
      refine lv_if_lt (tgt := 32) hx hb dX12_rule_21 (by decide) (fun c_25 => ?_) (fun c_25 => ?_)
      · refine lv_iconst (v := (-1)) hx hb dX12_rule_32 (by decide) ?_
        exact W.iret (v := (-1)) hx hb hr (fun t ht hW => ⟨⟨(-1), (), rfl, rfl, trivial⟩, hS.F ht⟩) hS.2.2 dX12_rule_33
      · refine lv_iload_n hx hb dX12_rule_24 rfl (lv_at hl 4 rfl) ?_
        refine lv_aload_n hx hb dX12_rule_25 rfl (lv_at hl 1 rfl) ?_
        refine va_get (D := (dC, dI)) (ci := 12) (v := .int 0) (C := RX12) (T := TX12) (N := 20) hx hb hts (jh hin_RX12) hown hK hP 0 rfl rfl 0 (by decide) (hts (.fieldLink RX12 133 "BookOfAll" "now" "I") (jm m_217)) (fun _ h9 => h9) rfl dX12_rule_26 ?_
        refine lv_icmp_le (tgt := 34) hx hb dX12_rule_29 (by decide) (fun c_26 => ?_) (fun c_26 => ?_)
        · refine lv_aload_n hx hb dX12_rule_34 rfl (lv_at hl 1 rfl) ?_
          refine va_get (D := (dC, dI)) (ci := 12) (v := .ref (ad 11)) (C := RX12) (T := TX12) (N := 20) hx hb hts (jh hin_RX12) hown hK hP 0 rfl rfl 3 (by decide) (hts (.fieldLink RX12 19 "BookOfAll" "rules" "LBookOfAll$Rules;") (jm m_152)) (fun _ h9 => h9) rfl dX12_rule_35 ?_
          refine lv_iload hx hb dX12_rule_38 (lv_at hl 0 rfl) ?_
          refine lv_iload_n hx hb dX12_rule_40 rfl (lv_at hl 3 rfl) ?_
          refine lv_iload_n hx hb dX12_rule_41 rfl (lv_at hl 4 rfl) ?_
          refine jc_i (va_runV (As := [.int p1, .int p2, .int p3]) (rest := []) ⟨hx, hb, hml, hown, hts⟩ (kX8_inForce_3 l dC dI _ ad ca p1 p2 p3) (cwV 3 hts (jgoodV m_226 m_227 m_228 m_157 m_229) rfl rfl rfl (by decide +kernel) ⟨Nat.le_of_ble_eq_true rfl, Nat.le_of_ble_eq_true rfl⟩) ⟨jw_blind, va_recv hK hP (ci := 8) (q0 := 11) rfl rfl, fun U hU hW => ⟨rfl, jw_of hU hW hP hK hD⟩⟩ rfl rfl hl.1 rfl (lv_room (Nat.le_of_ble_eq_true rfl)) dX12_rule_42 ⟨Nat.le_of_ble_eq_true rfl, Nat.le_of_ble_eq_true rfl⟩) hP hS hA (fun r_27 H locs hw_27 hP hS => ?_)
          have hw_27 : (-1) = r_27 := Eq.symm hw_27
          subst hw_27
          exact W.iret (v := (-1)) hx hb hr (fun t ht hW => ⟨⟨(-1), (), rfl, rfl, trivial⟩, hS.F ht⟩) hS.2.2 dX12_rule_45
        · refine lv_iconst (v := (-1)) hx hb dX12_rule_32 (by decide) ?_
          exact W.iret (v := (-1)) hx hb hr (fun t ht hW => ⟨⟨(-1), (), rfl, rfl, trivial⟩, hS.F ht⟩) hS.2.2 dX12_rule_33
theorem s_tX12_go_0 {p1 : Int32} (c_1 : p1 < 0) : (-1) = sp_go p1 := by
  unfold sp_go
  have g0 : p1.toInt < 0 := ji_lt.mp c_1
  split <;> first | rfl | (exfalso; omega)
theorem s_tX12_go_1 {p1 : Int32} (c_1 : ¬ (p1 < 0)) (c_2 : p1 ≤ 300) : p1 = sp_go p1 := by
  unfold sp_go
  have g0 : ¬ (p1.toInt < 0) := fun z => c_1 (ji_lt.mpr z)
  have g1 : p1.toInt ≤ 300 := ji_le.mp c_2
  split <;> first | rfl | (exfalso; omega)
theorem s_tX12_go_2 {p1 : Int32} (c_1 : ¬ (p1 < 0)) (c_2 : ¬ (p1 ≤ 300)) : (-1) = sp_go p1 := by
  unfold sp_go
  have g0 : ¬ (p1.toInt < 0) := fun z => c_1 (ji_lt.mpr z)
  have g1 : ¬ (p1.toInt ≤ 300) := fun z => c_2 (ji_le.mpr z)
  split <;> first | rfl | (exfalso; omega)
set_option maxHeartbeats 500000 in
set_option maxRecDepth 100000 in
theorem tX12_go (l : Launch) (dC : Nat → ClassId) (dI : Nat → Nat → Nat) (sz : Nat) (ad : Nat → Nat) (ca : Nat → ClassId) (p1 : Int32) : Met l yX12_go (jk yX12_go cX12_go 2 (some .int)) ({ frames := 1, cells := 0, slots := 0, locals := 40 }) (va_Pc [.ref (ad 0), .int p1] (jw_P (dC, dI) (xW ad ca) (xT ca) sz)) (va_Qi (fun (r : Int32) (_ : Unit) => r = sp_go p1) (fun _ _ => True) (va_A (xW ad ca) sz)) 0 0 (va_A (xW ad ca) sz) := by
  refine Met.ofW (cc := cX12_go) (maxL := 2) (ret := (some .int)) (by decide) rfl ?_
  intro p e s m args below meth c s₁ B hml hv
  obtain ⟨rfl, hsz, hP, hK, hD0⟩ := hv
  have hx := B.exec
  have hb := B.bytes
  have hr := B.returns
  have hts := atoms_spec (ws := (jk yX12_go cX12_go 2 (some .int))) B.pre
  have hown : s.vm.findClass RX12 = some m.cls := findClass_of_methodNamed B.named
  have hlocks := B.notSynchronized
  subst hsz
  have hD := hD0.self (sz := s.heap.size)
  generalize hAe : (va_A (xW ad ca) s.heap.size) = A at hD ⊢
  have hA : ∀ q : Nat, s.heap.size ≤ q → A q := fun q h => by rw [← hAe]; exact Or.inr h
  have hS : va_S A s.heap s.heap [] := va_S.rf
  have hP : va_P (dC, dI) vwCl (xW ad ca) s.heap := hP
  have hl := lv_entry ([.ref (ad 0), .int p1]) (n := 2) (Nat.le_of_ble_eq_true rfl)
  rw [lg_entry_eq]
  generalize (lg_sl ([.ref (ad 0), .int p1]) ++ List.replicate (2 - (lg_sl ([.ref (ad 0), .int p1])).length) Slot.unset).toArray = ls at hl ⊢
  have hl : lv_has ls 2 [(0, .ref (ad 0)), (1, .int p1)] := hl
  refine lv_iload_n hx hb dX12_go_0 rfl (lv_at hl 1 rfl) ?_
  refine lv_if_lt (tgt := 11) hx hb dX12_go_1 (by decide) (fun c_1 => ?_) (fun c_1 => ?_)
  · refine lv_iconst (v := (-1)) hx hb dX12_go_11 (by decide) ?_
    exact W.iret (v := (-1)) hx hb hr (fun t ht hW => ⟨⟨(-1), (), rfl, (s_tX12_go_0 (p1 := p1) c_1), trivial⟩, hS.F ht⟩) hS.2.2 dX12_go_12
  · refine lv_iload_n hx hb dX12_go_4 rfl (lv_at hl 1 rfl) ?_
    refine lv_sipush (v := 300) hx hb dX12_go_5 (by decide) ?_
    refine lv_icmp_le (tgt := 13) hx hb dX12_go_8 (by decide) (fun c_2 => ?_) (fun c_2 => ?_)
    · refine lv_aload_n hx hb dX12_go_13 rfl (lv_at hl 0 rfl) ?_
      refine lv_sipush (v := 2000) hx hb dX12_go_14 (by decide) ?_
      refine lv_aload_n hx hb dX12_go_17 rfl (lv_at hl 0 rfl) ?_
      refine va_get (D := (dC, dI)) (ci := 12) (v := .int 0) (C := RX12) (T := TX12) (N := 20) hx hb hts (jh hin_RX12) hown hK hP 0 rfl rfl 0 (by decide) (hts (.fieldLink RX12 133 "BookOfAll" "now" "I") (jm m_217)) (fun _ h9 => h9) rfl dX12_go_18 ?_
      refine lv_iload_n hx hb dX12_go_21 rfl (lv_at hl 1 rfl) ?_
      refine lv_iadd hx hb dX12_go_22 ?_
      refine jt_i p1 (Int32.zero_add _) ?_
      refine va_mmin hx hb (by rw [hml]; exact hl.1.symm) hown (hts (.methodLink RX12 152 Lib.Math.min.name) (jm m_230)) (hts (.static Lib.Math.min.name) (jm m_173)) (hts (.initialized "java/lang/Math") (jm m_170)) (hts (.code Lib.Math.min.name Lib.Math.min.code 2 (some .int)) (jm m_174)) (Nat.le_of_ble_eq_true rfl) (Nat.le_of_ble_eq_true rfl) (Nat.le_of_ble_eq_true rfl) (Nat.le_of_ble_eq_true rfl) dX12_go_23 ?_
      refine jt_i p1 (if_pos (jb_lt c_2 (by decide))) ?_
      refine va_put (D := (dC, dI)) (ci := 12) (v := .int p1) (ty := .int) (C := RX12) (T := TX12) (N := 20) hx hb hts (jh hin_RX12) tyX12 tyX12_ok nmX12 hown hK hP hD hS 0 rfl rfl 0 (by decide) (hts (.fieldLink RX12 133 "BookOfAll" "now" "I") (jm m_217)) (fun _ h9 => h9) rfl (by decide +kernel) rfl rfl (Nat.le_of_ble_eq_true rfl) dX12_go_26 (fun H locs hP hD hS => ?_)
      refine lv_aload_n hx hb dX12_go_29 rfl (lv_at hl 0 rfl) ?_
      refine va_get (D := (dC, dI)) (ci := 12) (v := .int p1) (C := RX12) (T := TX12) (N := 20) hx hb hts (jh hin_RX12) hown hK hP 0 rfl rfl 0 (by decide) (hts (.fieldLink RX12 133 "BookOfAll" "now" "I") (jm m_217)) (fun _ h9 => h9) rfl dX12_go_30 ?_
      exact W.iret (v := p1) hx hb hr (fun t ht hW => ⟨⟨p1, (), rfl, (s_tX12_go_1 (p1 := p1) c_1 c_2), trivial⟩, hS.F ht⟩) hS.2.2 dX12_go_33
    · refine lv_iconst (v := (-1)) hx hb dX12_go_11 (by decide) ?_
      exact W.iret (v := (-1)) hx hb hr (fun t ht hW => ⟨⟨(-1), (), rfl, (s_tX12_go_2 (p1 := p1) c_1 c_2), trivial⟩, hS.F ht⟩) hS.2.2 dX12_go_12
