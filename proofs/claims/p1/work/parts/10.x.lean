set_option maxHeartbeats 4000000 in
set_option maxRecDepth 100000 in
theorem kX12_entryAt_2 (l : Launch) (dC : Nat → ClassId) (dI : Nat → Nat → Nat) (sz : Nat) (ad : Nat → Nat) (ca : Nat → ClassId) (p1 : Int32) : Met l yX12_entryAt wsX12_entryAt ({ frames := 0, cells := 0, slots := 0, locals := 0 }) (va_Pc [.ref (ad 0), .int p1] (jw_P (dC, dI) (xW ad ca) (xT ca) sz)) (va_Qq (fun (r : Option Nat) (_ : Unit) => (r = none)) (fun _ _ => True) (va_A [] sz)) 0 0 (va_A [] sz) := by
  refine Met.ofW (cc := cX12_entryAt) (maxL := 2) (ret := (some (.object "BookOfAll$Entry"))) (by decide) rfl ?_
  intro p e s m args below meth c s₁ B hml hv
  obtain ⟨rfl, hsz, hP, hK, hD0⟩ := hv
  have hx := B.exec
  have hb := B.bytes
  have hr := B.returns
  have hts := atoms_spec (ws := wsX12_entryAt) B.pre
  have hown : s.vm.findClass RX12 = some m.cls := findClass_of_methodNamed B.named
  have hlocks := B.notSynchronized
  subst hsz
  have hD := hD0
  generalize hAe : (va_A [] s.heap.size) = A
  have hA : ∀ q : Nat, s.heap.size ≤ q → A q := fun q h => by rw [← hAe]; exact Or.inr h
  have hS : va_S A s.heap s.heap [] := va_S.rf
  have hP : va_P (dC, dI) vwCl (xW ad ca) s.heap := hP
  have hl := lv_entry ([.ref (ad 0), .int p1]) (n := 2) (Nat.le_of_ble_eq_true rfl)
  rw [lg_entry_eq]
  generalize (lg_sl ([.ref (ad 0), .int p1]) ++ List.replicate (2 - (lg_sl ([.ref (ad 0), .int p1])).length) Slot.unset).toArray = ls at hl ⊢
  have hl : lv_has ls 2 [(0, .ref (ad 0)), (1, .int p1)] := hl
  refine lv_iload_n hx hb dX12_entryAt_0 rfl (lv_at hl 1 rfl) ?_
  refine lv_if_lt (tgt := 27) hx hb dX12_entryAt_1 (by decide) (fun c_1 => ?_) (fun c_1 => ?_)
  · refine lv_null hx hb dX12_entryAt_27 ?_
    exact W.aret (v := .null) hx hb hr (Or.inl ⟨_, rfl⟩) (Or.inl rfl) (fun t ht hW => ⟨⟨none, (), rfl, rfl, trivial⟩, hS.F ht⟩) hS.2.2 dX12_entryAt_28
  · refine lv_iload_n hx hb dX12_entryAt_4 rfl (lv_at hl 1 rfl) ?_
    refine lv_aload_n hx hb dX12_entryAt_5 rfl (lv_at hl 0 rfl) ?_
    refine va_get (D := (dC, dI)) (ci := 12) (v := .int 0) (C := RX12) (T := TX12) (N := 20) hx hb hts hin_X12_entryAt_RX12 hown hK hP 0 rfl rfl 7 (by decide) (hts (.fieldLink RX12 203 "BookOfAll" "entryCount" "I") (by decide +kernel)) (fun _ h9 => h9) rfl dX12_entryAt_6 ?_
    refine lv_icmp_ge (tgt := 27) hx hb dX12_entryAt_9 (by decide) (fun _ => ?_) (fun z => absurd (jb_ge (jl_nlt c_1) (by decide)) z)
    refine lv_null hx hb dX12_entryAt_27 ?_
    exact W.aret (v := .null) hx hb hr (Or.inl ⟨_, rfl⟩) (Or.inl rfl) (fun t ht hW => ⟨⟨none, (), rfl, rfl, trivial⟩, hS.F ht⟩) hS.2.2 dX12_entryAt_28
set_option maxHeartbeats 4000000 in
set_option maxRecDepth 100000 in
theorem tX12_pointer (l : Launch) (dC : Nat → ClassId) (dI : Nat → Nat → Nat) (sz : Nat) (ad : Nat → Nat) (ca : Nat → ClassId) (p1 : Int32) (p2 : Int32) (p3 : Int32) (p4 : Int32) : Met l yX12_pointer wsX12_pointer ({ frames := 1, cells := 0, slots := 0, locals := 21 }) (va_Pc [.ref (ad 0), .int p1, .int p2, .int p3, .int p4] (jw_P (dC, dI) (xW ad ca) (xT ca) sz)) (va_Qi (fun (r : Int32) (_ : Unit) => (r = (-1))) (fun _ _ => True) (va_A [] sz)) 0 0 (va_A [] sz) := by
  refine Met.ofW (cc := cX12_pointer) (maxL := 6) (ret := (some .int)) (by decide) rfl ?_
  intro p e s m args below meth c s₁ B hml hv
  obtain ⟨rfl, hsz, hP, hK, hD0⟩ := hv
  have hx := B.exec
  have hb := B.bytes
  have hr := B.returns
  have hts := atoms_spec (ws := wsX12_pointer) B.pre
  have hown : s.vm.findClass RX12 = some m.cls := findClass_of_methodNamed B.named
  have hlocks := B.notSynchronized
  subst hsz
  have hD := hD0
  generalize hAe : (va_A [] s.heap.size) = A
  have hA : ∀ q : Nat, s.heap.size ≤ q → A q := fun q h => by rw [← hAe]; exact Or.inr h
  have hS : va_S A s.heap s.heap [] := va_S.rf
  have hP : va_P (dC, dI) vwCl (xW ad ca) s.heap := hP
  have hl := lv_entry ([.ref (ad 0), .int p1, .int p2, .int p3, .int p4]) (n := 6) (Nat.le_of_ble_eq_true rfl)
  rw [lg_entry_eq]
  generalize (lg_sl ([.ref (ad 0), .int p1, .int p2, .int p3, .int p4]) ++ List.replicate (6 - (lg_sl ([.ref (ad 0), .int p1, .int p2, .int p3, .int p4])).length) Slot.unset).toArray = ls at hl ⊢
  have hl : lv_has ls 6 [(0, .ref (ad 0)), (1, .int p1), (2, .int p2), (3, .int p3), (4, .int p4)] := hl
  refine lv_aload_n hx hb dX12_pointer_0 rfl (lv_at hl 0 rfl) ?_
  refine lv_iload hx hb dX12_pointer_1 (lv_at hl 4 rfl) ?_
  refine jc_q (va_runV (As := [.int p4]) (rest := []) ⟨hx, hb, hml, hown, hts⟩ (kX12_entryAt_2 l dC dI _ ad ca p4) (cwV 1 hts gX12_pointer_X12_entryAt rfl rfl rfl (by decide +kernel) ⟨Nat.le_of_ble_eq_true rfl, Nat.le_of_ble_eq_true rfl⟩) ⟨jw_blind, va_recv hK hP (ci := 12) (q0 := 0) rfl rfl, fun U hU hW => ⟨rfl, jw_of hU hW hP hK hD⟩⟩ rfl rfl hl.1 rfl (lv_room (Nat.le_of_ble_eq_true rfl)) dX12_pointer_3 ⟨Nat.le_of_ble_eq_true rfl, Nat.le_of_ble_eq_true rfl⟩) hP hS hA (fun r_1 H locs hw_1 hP hS => ?_)
  have hw_1 : r_1 = none := hw_1
  subst hw_1
  refine jt_q Value.null rfl ?_
  refine lv_ifnonnullN hx hb dX12_pointer_6 ?_
  refine lv_iconst (v := (-1)) hx hb dX12_pointer_9 (by decide) ?_
  exact W.iret (v := (-1)) hx hb hr (fun t ht hW => ⟨⟨(-1), (), rfl, rfl, trivial⟩, hS.F ht⟩) hS.2.2 dX12_pointer_10
set_option maxHeartbeats 4000000 in
set_option maxRecDepth 100000 in
theorem kX12_isVolume_1 (l : Launch) (dC : Nat → ClassId) (dI : Nat → Nat → Nat) (sz : Nat) (h0 : Nat) (p1 : Int32) : Met l yX12_isVolume wsX12_isVolume ({ frames := 0, cells := 0, slots := 0, locals := 0 }) (va_Pc [.ref h0, .int p1] (fun U => U.heap.size = sz)) (va_Qi (fun (r : Int32) (_ : Unit) => (p1 < 0 ∧ r = 0) ∨ (¬ (p1 < 0) ∧ 6 ≤ p1 ∧ r = 0) ∨ (¬ (p1 < 0) ∧ ¬ (6 ≤ p1) ∧ r = 1)) (fun _ _ => True) (va_A [] sz)) 0 0 (va_A [] sz) := by
  refine Met.ofW (cc := cX12_isVolume) (maxL := 2) (ret := (some .boolean)) (by decide) rfl ?_
  intro p e s m args below meth c s₁ B hml hv
  obtain ⟨rfl, hsz⟩ := hv
  have hx := B.exec
  have hb := B.bytes
  have hr := B.returns
  have hts := atoms_spec (ws := wsX12_isVolume) B.pre
  have hown : s.vm.findClass RX12 = some m.cls := findClass_of_methodNamed B.named
  have hlocks := B.notSynchronized
  subst hsz
  have hP : va_P (dC, dI) vwCl [] s.heap := fun k q h => by simp at h
  generalize hAe : (va_A [] s.heap.size) = A
  have hA : ∀ q : Nat, s.heap.size ≤ q → A q := fun q h => by rw [← hAe]; exact Or.inr h
  have hS : va_S A s.heap s.heap [] := va_S.rf
  have hl := lv_entry ([.ref h0, .int p1]) (n := 2) (Nat.le_of_ble_eq_true rfl)
  rw [lg_entry_eq]
  generalize (lg_sl ([.ref h0, .int p1]) ++ List.replicate (2 - (lg_sl ([.ref h0, .int p1])).length) Slot.unset).toArray = ls at hl ⊢
  have hl : lv_has ls 2 [(0, .ref h0), (1, .int p1)] := hl
  refine lv_iload_n hx hb dX12_isVolume_0 rfl (lv_at hl 1 rfl) ?_
  refine lv_if_lt (tgt := 14) hx hb dX12_isVolume_1 (by decide) (fun c_1 => ?_) (fun c_1 => ?_)
  · refine lv_iconst (v := 0) hx hb dX12_isVolume_14 (by decide) ?_
    exact W.zret (v := 0) (ty := .boolean) hx hb hr rfl (fun t ht hW => ⟨⟨0, (), rfl, (Or.inl ⟨c_1, rfl⟩), trivial⟩, hS.F ht⟩) hS.2.2 dX12_isVolume_15
  · refine lv_iload_n hx hb dX12_isVolume_4 rfl (lv_at hl 1 rfl) ?_
    refine lv_bipush (v := 6) hx hb dX12_isVolume_5 (by decide) ?_
    refine lv_icmp_ge (tgt := 14) hx hb dX12_isVolume_7 (by decide) (fun c_2 => ?_) (fun c_2 => ?_)
    · refine lv_iconst (v := 0) hx hb dX12_isVolume_14 (by decide) ?_
      exact W.zret (v := 0) (ty := .boolean) hx hb hr rfl (fun t ht hW => ⟨⟨0, (), rfl, (Or.inr (Or.inl ⟨c_1, c_2, rfl⟩)), trivial⟩, hS.F ht⟩) hS.2.2 dX12_isVolume_15
    · refine lv_iconst (v := 1) hx hb dX12_isVolume_10 (by decide) ?_
      refine lv_goto (tgt := 15) hx hb dX12_isVolume_11 (by decide) ?_
      exact W.zret (v := 1) (ty := .boolean) hx hb hr rfl (fun t ht hW => ⟨⟨1, (), rfl, (Or.inr (Or.inr ⟨c_1, c_2, rfl⟩)), trivial⟩, hS.F ht⟩) hS.2.2 dX12_isVolume_15
set_option maxHeartbeats 4000000 in
set_option maxRecDepth 100000 in
theorem kX12_isSet_3 (l : Launch) (dC : Nat → ClassId) (dI : Nat → Nat → Nat) (sz : Nat) (ad : Nat → Nat) (ca : Nat → ClassId) (p1 : Int32) : Met l yX12_isSet wsX12_isSet ({ frames := 0, cells := 0, slots := 0, locals := 0 }) (va_Pc [.ref (ad 0), .int p1] (jw_P (dC, dI) (xW ad ca) (xT ca) sz)) (va_Qi (fun (r : Int32) (_ : Unit) => (r = 0) ∨ (¬ (p1 < 0) ∧ ¬ (((0 >>> (p1 &&& 31)) &&& 1) = 0) ∧ r = 1)) (fun _ _ => True) (va_A [] sz)) 0 0 (va_A [] sz) := by
  refine Met.ofW (cc := cX12_isSet) (maxL := 2) (ret := (some .boolean)) (by decide) rfl ?_
  intro p e s m args below meth c s₁ B hml hv
  obtain ⟨rfl, hsz, hP, hK, hD0⟩ := hv
  have hx := B.exec
  have hb := B.bytes
  have hr := B.returns
  have hts := atoms_spec (ws := wsX12_isSet) B.pre
  have hown : s.vm.findClass RX12 = some m.cls := findClass_of_methodNamed B.named
  have hlocks := B.notSynchronized
  subst hsz
  have hD := hD0
  generalize hAe : (va_A [] s.heap.size) = A
  have hA : ∀ q : Nat, s.heap.size ≤ q → A q := fun q h => by rw [← hAe]; exact Or.inr h
  have hS : va_S A s.heap s.heap [] := va_S.rf
  have hP : va_P (dC, dI) vwCl (xW ad ca) s.heap := hP
  have hl := lv_entry ([.ref (ad 0), .int p1]) (n := 2) (Nat.le_of_ble_eq_true rfl)
  rw [lg_entry_eq]
  generalize (lg_sl ([.ref (ad 0), .int p1]) ++ List.replicate (2 - (lg_sl ([.ref (ad 0), .int p1])).length) Slot.unset).toArray = ls at hl ⊢
  have hl : lv_has ls 2 [(0, .ref (ad 0)), (1, .int p1)] := hl
  refine lv_iload_n hx hb dX12_isSet_0 rfl (lv_at hl 1 rfl) ?_
  refine lv_if_lt (tgt := 19) hx hb dX12_isSet_1 (by decide) (fun c_1 => ?_) (fun c_1 => ?_)
  · refine lv_iconst (v := 0) hx hb dX12_isSet_19 (by decide) ?_
    exact W.zret (v := 0) (ty := .boolean) hx hb hr rfl (fun t ht hW => ⟨⟨0, (), rfl, (Or.inl rfl), trivial⟩, hS.F ht⟩) hS.2.2 dX12_isSet_20
  · refine lv_aload_n hx hb dX12_isSet_4 rfl (lv_at hl 0 rfl) ?_
    refine va_get (D := (dC, dI)) (ci := 12) (v := .int 0) (C := RX12) (T := TX12) (N := 20) hx hb hts hin_X12_isSet_RX12 hown hK hP 0 rfl rfl 1 (by decide) (hts (.fieldLink RX12 158 "BookOfAll" "setBits" "I") (by decide +kernel)) (fun _ h9 => h9) rfl dX12_isSet_5 ?_
    refine lv_iload_n hx hb dX12_isSet_8 rfl (lv_at hl 1 rfl) ?_
    refine lv_ishr hx hb dX12_isSet_9 ?_
    refine lv_iconst (v := 1) hx hb dX12_isSet_10 (by decide) ?_
    refine lv_iand hx hb dX12_isSet_11 ?_
    refine lv_if_eq (tgt := 19) hx hb dX12_isSet_12 (by decide) (fun c_2 => ?_) (fun c_2 => ?_)
    · refine lv_iconst (v := 0) hx hb dX12_isSet_19 (by decide) ?_
      exact W.zret (v := 0) (ty := .boolean) hx hb hr rfl (fun t ht hW => ⟨⟨0, (), rfl, (Or.inl rfl), trivial⟩, hS.F ht⟩) hS.2.2 dX12_isSet_20
    · refine lv_iconst (v := 1) hx hb dX12_isSet_15 (by decide) ?_
      refine lv_goto (tgt := 20) hx hb dX12_isSet_16 (by decide) ?_
      exact W.zret (v := 1) (ty := .boolean) hx hb hr rfl (fun t ht hW => ⟨⟨1, (), rfl, (Or.inr ⟨c_1, c_2, rfl⟩), trivial⟩, hS.F ht⟩) hS.2.2 dX12_isSet_20
set_option maxHeartbeats 4000000 in
set_option maxRecDepth 100000 in
theorem kX8_put_3 (l : Launch) (dC : Nat → ClassId) (dI : Nat → Nat → Nat) (sz : Nat) (ad : Nat → Nat) (ca : Nat → ClassId) (p1 : Int32) (p2 : Int32) : Met l yX8_put wsX8_put ({ frames := 0, cells := 0, slots := 0, locals := 0 }) (va_Pc [.ref (ad 11), .int p1, .int p2, .int 0] (jw_P (dC, dI) (xW ad ca) (xT ca) sz)) (va_Qi (fun (r : Int32) (_ : Unit) => (r = (-1))) (fun _ _ => True) (va_A [] sz)) 0 0 (va_A [] sz) := by
  refine Met.ofW (cc := cX8_put) (maxL := 4) (ret := (some .int)) (by decide) rfl ?_
  intro p e s m args below meth c s₁ B hml hv
  obtain ⟨rfl, hsz, hP, hK, hD0⟩ := hv
  have hx := B.exec
  have hb := B.bytes
  have hr := B.returns
  have hts := atoms_spec (ws := wsX8_put) B.pre
  have hown : s.vm.findClass RX8 = some m.cls := findClass_of_methodNamed B.named
  have hlocks := B.notSynchronized
  subst hsz
  have hD := hD0
  generalize hAe : (va_A [] s.heap.size) = A
  have hA : ∀ q : Nat, s.heap.size ≤ q → A q := fun q h => by rw [← hAe]; exact Or.inr h
  have hS : va_S A s.heap s.heap [] := va_S.rf
  have hP : va_P (dC, dI) vwCl (xW ad ca) s.heap := hP
  have hl := lv_entry ([.ref (ad 11), .int p1, .int p2, .int 0]) (n := 4) (Nat.le_of_ble_eq_true rfl)
  rw [lg_entry_eq]
  generalize (lg_sl ([.ref (ad 11), .int p1, .int p2, .int 0]) ++ List.replicate (4 - (lg_sl ([.ref (ad 11), .int p1, .int p2, .int 0])).length) Slot.unset).toArray = ls at hl ⊢
  have hl : lv_has ls 4 [(0, .ref (ad 11)), (1, .int p1), (2, .int p2), (3, .int 0)] := hl
  refine lv_iload_n hx hb dX8_put_0 rfl (lv_at hl 1 rfl) ?_
  refine lv_if_lt (tgt := 28) hx hb dX8_put_1 (by decide) (fun c_1 => ?_) (fun c_1 => ?_)
  · refine lv_iconst (v := (-1)) hx hb dX8_put_28 (by decide) ?_
    exact W.iret (v := (-1)) hx hb hr (fun t ht hW => ⟨⟨(-1), (), rfl, rfl, trivial⟩, hS.F ht⟩) hS.2.2 dX8_put_29
  · refine lv_iload_n hx hb dX8_put_4 rfl (lv_at hl 1 rfl) ?_
    refine lv_aload_n hx hb dX8_put_5 rfl (lv_at hl 0 rfl) ?_
    refine va_get (D := (dC, dI)) (ci := 8) (v := .int 0) (C := RX8) (T := TX8) (N := 8) hx hb hts hin_X8_put_RX8 hown hK hP 11 rfl rfl 1 (by decide) (hts (.fieldLink RX8 33 "BookOfAll$Rules" "sheetCount" "I") (by decide +kernel)) (fun _ h9 => h9) rfl dX8_put_6 ?_
    refine lv_icmp_ge (tgt := 28) hx hb dX8_put_9 (by decide) (fun _ => ?_) (fun z => absurd (jb_ge (jl_nlt c_1) (by decide)) z)
    refine lv_iconst (v := (-1)) hx hb dX8_put_28 (by decide) ?_
    exact W.iret (v := (-1)) hx hb hr (fun t ht hW => ⟨⟨(-1), (), rfl, rfl, trivial⟩, hS.F ht⟩) hS.2.2 dX8_put_29
set_option maxHeartbeats 4000000 in
set_option maxRecDepth 100000 in
theorem tX12_force (l : Launch) (dC : Nat → ClassId) (dI : Nat → Nat → Nat) (sz : Nat) (ad : Nat → Nat) (ca : Nat → ClassId) (p1 : Int32) (p2 : Int32) : Met l yX12_force wsX12_force ({ frames := 1, cells := 0, slots := 0, locals := 23 }) (va_Pc [.ref (ad 0), .int p1, .int p2] (jw_P (dC, dI) (xW ad ca) (xT ca) sz)) (va_Qi (fun (r : Int32) (_ : Unit) => (r = (-1))) (fun _ _ => True) (va_A [] sz)) 0 0 (va_A [] sz) := by
  refine Met.ofW (cc := cX12_force) (maxL := 5) (ret := (some .int)) (by decide) rfl ?_
  intro p e s m args below meth c s₁ B hml hv
  obtain ⟨rfl, hsz, hP, hK, hD0⟩ := hv
  have hx := B.exec
  have hb := B.bytes
  have hr := B.returns
  have hts := atoms_spec (ws := wsX12_force) B.pre
  have hown : s.vm.findClass RX12 = some m.cls := findClass_of_methodNamed B.named
  have hlocks := B.notSynchronized
  subst hsz
  have hD := hD0
  generalize hAe : (va_A [] s.heap.size) = A
  have hA : ∀ q : Nat, s.heap.size ≤ q → A q := fun q h => by rw [← hAe]; exact Or.inr h
  have hS : va_S A s.heap s.heap [] := va_S.rf
  have hP : va_P (dC, dI) vwCl (xW ad ca) s.heap := hP
  have hl := lv_entry ([.ref (ad 0), .int p1, .int p2]) (n := 5) (Nat.le_of_ble_eq_true rfl)
  rw [lg_entry_eq]
  generalize (lg_sl ([.ref (ad 0), .int p1, .int p2]) ++ List.replicate (5 - (lg_sl ([.ref (ad 0), .int p1, .int p2])).length) Slot.unset).toArray = ls at hl ⊢
  have hl : lv_has ls 5 [(0, .ref (ad 0)), (1, .int p1), (2, .int p2)] := hl
  refine lv_iload_n hx hb dX12_force_0 rfl (lv_at hl 2 rfl) ?_
  refine lv_iconst (v := (-1)) hx hb dX12_force_1 (by decide) ?_
  refine lv_icmp_ne (tgt := 9) hx hb dX12_force_2 (by decide) (fun c_1 => ?_) (fun c_1 => ?_)
  · refine lv_iconst (v := 0) hx hb dX12_force_9 (by decide) ?_
    refine lv_istore_n (lv' := [(3, .int 0), (0, .ref (ad 0)), (1, .int p1), (2, .int p2)]) hx hb dX12_force_10 rfl hl (by decide) rfl (fun ls hl => ?_)
    refine lv_iload_n hx hb dX12_force_11 rfl (lv_at hl 0 rfl) ?_
    refine lv_if_ne (tgt := 33) hx hb dX12_force_12 (by decide) (fun z => absurd (by decide) z) (fun _ => ?_)
    refine lv_aload_n hx hb dX12_force_15 rfl (lv_at hl 1 rfl) ?_
    refine lv_iload_n hx hb dX12_force_16 rfl (lv_at hl 3 rfl) ?_
    refine jc_i (va_runV (As := [.int p2]) (rest := []) ⟨hx, hb, hml, hown, hts⟩ (kX12_isVolume_1 l dC dI _ (ad 0) p2) (cwV 1 hts gX12_force_X12_isVolume rfl rfl rfl (by decide +kernel) ⟨Nat.le_of_ble_eq_true rfl, Nat.le_of_ble_eq_true rfl⟩) ⟨jw_blind0, va_recv hK hP (ci := 12) (q0 := 0) rfl rfl, fun U hU hW => ⟨rfl, by rw [hU]⟩⟩ rfl rfl hl.1 rfl (lv_room (Nat.le_of_ble_eq_true rfl)) dX12_force_17 ⟨Nat.le_of_ble_eq_true rfl, Nat.le_of_ble_eq_true rfl⟩) hP hS hA (fun r_2 H locs hw_2 hP hS => ?_)
    rcases (show (p2 < 0 ∧ r_2 = 0) ∨ (¬ (p2 < 0) ∧ 6 ≤ p2 ∧ r_2 = 0) ∨ (¬ (p2 < 0) ∧ ¬ (6 ≤ p2) ∧ r_2 = 1) from hw_2) with ⟨c_3, rfl⟩ | ⟨c_4, c_5, rfl⟩ | ⟨c_6, c_7, rfl⟩
    · refine lv_if_eq (tgt := 31) hx hb dX12_force_20 (by decide) (fun _ => ?_) (fun z => absurd (by decide) z)
      refine lv_iconst (v := (-1)) hx hb dX12_force_31 (by decide) ?_
      exact W.iret (v := (-1)) hx hb hr (fun t ht hW => ⟨⟨(-1), (), rfl, rfl, trivial⟩, hS.F ht⟩) hS.2.2 dX12_force_32
    · refine lv_if_eq (tgt := 31) hx hb dX12_force_20 (by decide) (fun _ => ?_) (fun z => absurd (by decide) z)
      refine lv_iconst (v := (-1)) hx hb dX12_force_31 (by decide) ?_
      exact W.iret (v := (-1)) hx hb hr (fun t ht hW => ⟨⟨(-1), (), rfl, rfl, trivial⟩, hS.F ht⟩) hS.2.2 dX12_force_32
    · refine lv_if_eq (tgt := 31) hx hb dX12_force_20 (by decide) (fun z => absurd z (by decide)) (fun _ => ?_)
      refine lv_aload_n hx hb dX12_force_23 rfl (lv_at hl 1 rfl) ?_
      refine lv_iload_n hx hb dX12_force_24 rfl (lv_at hl 3 rfl) ?_
      refine jc_i (va_runV (As := [.int p2]) (rest := []) ⟨hx, hb, hml, hown, hts⟩ (kX12_isSet_3 l dC dI _ ad ca p2) (cwV 1 hts gX12_force_X12_isSet rfl rfl rfl (by decide +kernel) ⟨Nat.le_of_ble_eq_true rfl, Nat.le_of_ble_eq_true rfl⟩) ⟨jw_blind, va_recv hK hP (ci := 12) (q0 := 0) rfl rfl, fun U hU hW => ⟨rfl, jw_of hU hW hP hK hD⟩⟩ rfl rfl hl.1 rfl (lv_room (Nat.le_of_ble_eq_true rfl)) dX12_force_25 ⟨Nat.le_of_ble_eq_true rfl, Nat.le_of_ble_eq_true rfl⟩) hP hS hA (fun r_8 H locs hw_8 hP hS => ?_)
      rcases (show (r_8 = 0) ∨ (¬ (p2 < 0) ∧ ¬ (((0 >>> (p2 &&& 31)) &&& 1) = 0) ∧ r_8 = 1) from hw_8) with rfl | ⟨c_9, c_10, rfl⟩
      · refine lv_if_eq (tgt := 33) hx hb dX12_force_28 (by decide) (fun _ => ?_) (fun z => absurd (by decide) z)
        refine lv_aload_n hx hb dX12_force_33 rfl (lv_at hl 1 rfl) ?_
        refine va_get (D := (dC, dI)) (ci := 12) (v := .ref (ad 11)) (C := RX12) (T := TX12) (N := 20) hx hb hts hin_X12_force_RX12 hown hK hP 0 rfl rfl 3 (by decide) (hts (.fieldLink RX12 19 "BookOfAll" "rules" "LBookOfAll$Rules;") (by decide +kernel)) (fun _ h9 => h9) rfl dX12_force_34 ?_
        refine lv_iload_n hx hb dX12_force_37 rfl (lv_at hl 2 rfl) ?_
        refine lv_iload_n hx hb dX12_force_38 rfl (lv_at hl 3 rfl) ?_
        refine lv_aload_n hx hb dX12_force_39 rfl (lv_at hl 1 rfl) ?_
        refine va_get (D := (dC, dI)) (ci := 12) (v := .int 0) (C := RX12) (T := TX12) (N := 20) hx hb hts hin_X12_force_RX12 hown hK hP 0 rfl rfl 0 (by decide) (hts (.fieldLink RX12 133 "BookOfAll" "now" "I") (by decide +kernel)) (fun _ h9 => h9) rfl dX12_force_40 ?_
        refine jc_i (va_runV (As := [.int p1, .int p2, .int 0]) (rest := []) ⟨hx, hb, hml, hown, hts⟩ (kX8_put_3 l dC dI _ ad ca p1 p2) (cwV 3 hts gX12_force_X8_put rfl rfl rfl (by decide +kernel) ⟨Nat.le_of_ble_eq_true rfl, Nat.le_of_ble_eq_true rfl⟩) ⟨jw_blind, va_recv hK hP (ci := 8) (q0 := 11) rfl rfl, fun U hU hW => ⟨rfl, jw_of hU hW hP hK hD⟩⟩ rfl rfl hl.1 rfl (lv_room (Nat.le_of_ble_eq_true rfl)) dX12_force_43 ⟨Nat.le_of_ble_eq_true rfl, Nat.le_of_ble_eq_true rfl⟩) hP hS hA (fun r_11 H locs hw_11 hP hS => ?_)
        have hw_11 : r_11 = (-1) := hw_11
        subst hw_11
        refine lv_istore (lv' := [(4, .int (-1)), (3, .int 0), (0, .ref (ad 0)), (1, .int p1), (2, .int p2)]) hx hb dX12_force_46 hl (by decide) rfl (fun ls hl => ?_)
        refine lv_iload hx hb dX12_force_48 (lv_at hl 0 rfl) ?_
        refine lv_iconst (v := (-1)) hx hb dX12_force_50 (by decide) ?_
        refine lv_icmp_eq (tgt := 62) hx hb dX12_force_51 (by decide) (fun _ => ?_) (fun z => absurd (by decide) z)
        refine lv_iload hx hb dX12_force_62 (lv_at hl 0 rfl) ?_
        exact W.iret (v := (-1)) hx hb hr (fun t ht hW => ⟨⟨(-1), (), rfl, rfl, trivial⟩, hS.F ht⟩) hS.2.2 dX12_force_64
      · refine lv_if_eq (tgt := 33) hx hb dX12_force_28 (by decide) (fun z => absurd z (by decide)) (fun _ => ?_)
        refine lv_iconst (v := (-1)) hx hb dX12_force_31 (by decide) ?_
        exact W.iret (v := (-1)) hx hb hr (fun t ht hW => ⟨⟨(-1), (), rfl, rfl, trivial⟩, hS.F ht⟩) hS.2.2 dX12_force_32
  · refine lv_iconst (v := 1) hx hb dX12_force_5 (by decide) ?_
    refine lv_goto (tgt := 10) hx hb dX12_force_6 (by decide) ?_
    refine lv_istore_n (lv' := [(3, .int 1), (0, .ref (ad 0)), (1, .int p1), (2, .int p2)]) hx hb dX12_force_10 rfl hl (by decide) rfl (fun ls hl => ?_)
    refine lv_iload_n hx hb dX12_force_11 rfl (lv_at hl 0 rfl) ?_
    refine lv_if_ne (tgt := 33) hx hb dX12_force_12 (by decide) (fun _ => ?_) (fun z => absurd z (by decide))
    refine lv_aload_n hx hb dX12_force_33 rfl (lv_at hl 1 rfl) ?_
    refine va_get (D := (dC, dI)) (ci := 12) (v := .ref (ad 11)) (C := RX12) (T := TX12) (N := 20) hx hb hts hin_X12_force_RX12 hown hK hP 0 rfl rfl 3 (by decide) (hts (.fieldLink RX12 19 "BookOfAll" "rules" "LBookOfAll$Rules;") (by decide +kernel)) (fun _ h9 => h9) rfl dX12_force_34 ?_
    refine lv_iload_n hx hb dX12_force_37 rfl (lv_at hl 2 rfl) ?_
    refine lv_iload_n hx hb dX12_force_38 rfl (lv_at hl 3 rfl) ?_
    refine lv_aload_n hx hb dX12_force_39 rfl (lv_at hl 1 rfl) ?_
    refine va_get (D := (dC, dI)) (ci := 12) (v := .int 0) (C := RX12) (T := TX12) (N := 20) hx hb hts hin_X12_force_RX12 hown hK hP 0 rfl rfl 0 (by decide) (hts (.fieldLink RX12 133 "BookOfAll" "now" "I") (by decide +kernel)) (fun _ h9 => h9) rfl dX12_force_40 ?_
    refine jc_i (va_runV (As := [.int p1, .int p2, .int 0]) (rest := []) ⟨hx, hb, hml, hown, hts⟩ (kX8_put_3 l dC dI _ ad ca p1 p2) (cwV 3 hts gX12_force_X8_put rfl rfl rfl (by decide +kernel) ⟨Nat.le_of_ble_eq_true rfl, Nat.le_of_ble_eq_true rfl⟩) ⟨jw_blind, va_recv hK hP (ci := 8) (q0 := 11) rfl rfl, fun U hU hW => ⟨rfl, jw_of hU hW hP hK hD⟩⟩ rfl rfl hl.1 rfl (lv_room (Nat.le_of_ble_eq_true rfl)) dX12_force_43 ⟨Nat.le_of_ble_eq_true rfl, Nat.le_of_ble_eq_true rfl⟩) hP hS hA (fun r_12 H locs hw_12 hP hS => ?_)
    have hw_12 : r_12 = (-1) := hw_12
    subst hw_12
    refine lv_istore (lv' := [(4, .int (-1)), (3, .int 1), (0, .ref (ad 0)), (1, .int p1), (2, .int p2)]) hx hb dX12_force_46 hl (by decide) rfl (fun ls hl => ?_)
    refine lv_iload hx hb dX12_force_48 (lv_at hl 0 rfl) ?_
    refine lv_iconst (v := (-1)) hx hb dX12_force_50 (by decide) ?_
    refine lv_icmp_eq (tgt := 62) hx hb dX12_force_51 (by decide) (fun _ => ?_) (fun z => absurd (by decide) z)
    refine lv_iload hx hb dX12_force_62 (lv_at hl 0 rfl) ?_
    exact W.iret (v := (-1)) hx hb hr (fun t ht hW => ⟨⟨(-1), (), rfl, rfl, trivial⟩, hS.F ht⟩) hS.2.2 dX12_force_64
set_option maxHeartbeats 4000000 in
set_option maxRecDepth 100000 in
theorem kX9_sortOf_1 (l : Launch) (dC : Nat → ClassId) (dI : Nat → Nat → Nat) (sz : Nat) (p0 : Int32) : Met l yX9_sortOf wsX9_sortOf ({ frames := 0, cells := 0, slots := 0, locals := 0 }) (va_Pc [.int p0] (fun U => U.heap.size = sz)) (va_Qi (fun (r : Int32) (_ : Unit) => (r = (-1)) ∨ (¬ (p0 < 0) ∧ 4 < p0 ∧ ¬ (p0 < 10) ∧ ¬ (3 < (p0 / 10)) ∧ ¬ (2 < (p0 - p0 / 10 * 10)) ∧ r = ((5 + (3 * ((p0 / 10) - 1))) + (p0 - p0 / 10 * 10))) ∨ (¬ (p0 < 0) ∧ ¬ (4 < p0) ∧ r = p0)) (fun _ _ => True) (va_A [] sz)) 0 0 (va_A [] sz) := by
  refine Met.ofW (cc := cX9_sortOf) (maxL := 3) (ret := (some .int)) (by decide) rfl ?_
  intro p e s m args below meth c s₁ B hml hv
  obtain ⟨rfl, hsz⟩ := hv
  have hx := B.exec
  have hb := B.bytes
  have hr := B.returns
  have hts := atoms_spec (ws := wsX9_sortOf) B.pre
  have hown : s.vm.findClass RX9 = some m.cls := findClass_of_methodNamed B.named
  have hlocks := B.notSynchronized
  subst hsz
  have hP : va_P (dC, dI) vwCl [] s.heap := fun k q h => by simp at h
  generalize hAe : (va_A [] s.heap.size) = A
  have hA : ∀ q : Nat, s.heap.size ≤ q → A q := fun q h => by rw [← hAe]; exact Or.inr h
  have hS : va_S A s.heap s.heap [] := va_S.rf
  have hl := lv_entry ([.int p0]) (n := 3) (Nat.le_of_ble_eq_true rfl)
  rw [lg_entry_eq]
  generalize (lg_sl ([.int p0]) ++ List.replicate (3 - (lg_sl ([.int p0])).length) Slot.unset).toArray = ls at hl ⊢
  have hl : lv_has ls 3 [(0, .int p0)] := hl
  refine lv_iload_n hx hb dX9_sortOf_0 rfl (lv_at hl 0 rfl) ?_
  refine lv_if_lt (tgt := 11) hx hb dX9_sortOf_1 (by decide) (fun c_1 => ?_) (fun c_1 => ?_)
  · refine lv_iload_n hx hb dX9_sortOf_11 rfl (lv_at hl 0 rfl) ?_
    refine lv_bipush (v := 10) hx hb dX9_sortOf_12 (by decide) ?_
    refine lv_idiv hx hb dX9_sortOf_14 (by decide) ?_
    refine lv_istore_n (lv' := [(1, .int (p0 / 10)), (0, .int p0)]) hx hb dX9_sortOf_15 rfl hl (by decide) rfl (fun ls hl => ?_)
    refine lv_iload_n hx hb dX9_sortOf_16 rfl (lv_at hl 1 rfl) ?_
    refine lv_bipush (v := 10) hx hb dX9_sortOf_17 (by decide) ?_
    refine lv_irem hx hb dX9_sortOf_19 (by decide) ?_
    refine lv_istore_n (lv' := [(2, .int (p0 - p0 / 10 * 10)), (1, .int (p0 / 10)), (0, .int p0)]) hx hb dX9_sortOf_20 rfl hl (by decide) rfl (fun ls hl => ?_)
    refine lv_iload_n hx hb dX9_sortOf_21 rfl (lv_at hl 2 rfl) ?_
    refine lv_bipush (v := 10) hx hb dX9_sortOf_22 (by decide) ?_
    refine lv_icmp_lt (tgt := 49) hx hb dX9_sortOf_24 (by decide) (fun _ => ?_) (fun z => absurd (jb_lt (jl_lt (d := (-1)) c_1 (by decide)) (by decide)) z)
    refine lv_iconst (v := (-1)) hx hb dX9_sortOf_49 (by decide) ?_
    exact W.iret (v := (-1)) hx hb hr (fun t ht hW => ⟨⟨(-1), (), rfl, (Or.inl rfl), trivial⟩, hS.F ht⟩) hS.2.2 dX9_sortOf_50
  · refine lv_iload_n hx hb dX9_sortOf_4 rfl (lv_at hl 0 rfl) ?_
    refine lv_iconst (v := 4) hx hb dX9_sortOf_5 (by decide) ?_
    refine lv_icmp_gt (tgt := 11) hx hb dX9_sortOf_6 (by decide) (fun c_2 => ?_) (fun c_2 => ?_)
    · refine lv_iload_n hx hb dX9_sortOf_11 rfl (lv_at hl 0 rfl) ?_
      refine lv_bipush (v := 10) hx hb dX9_sortOf_12 (by decide) ?_
      refine lv_idiv hx hb dX9_sortOf_14 (by decide) ?_
      refine lv_istore_n (lv' := [(1, .int (p0 / 10)), (0, .int p0)]) hx hb dX9_sortOf_15 rfl hl (by decide) rfl (fun ls hl => ?_)
      refine lv_iload_n hx hb dX9_sortOf_16 rfl (lv_at hl 1 rfl) ?_
      refine lv_bipush (v := 10) hx hb dX9_sortOf_17 (by decide) ?_
      refine lv_irem hx hb dX9_sortOf_19 (by decide) ?_
      refine lv_istore_n (lv' := [(2, .int (p0 - p0 / 10 * 10)), (1, .int (p0 / 10)), (0, .int p0)]) hx hb dX9_sortOf_20 rfl hl (by decide) rfl (fun ls hl => ?_)
      refine lv_iload_n hx hb dX9_sortOf_21 rfl (lv_at hl 2 rfl) ?_
      refine lv_bipush (v := 10) hx hb dX9_sortOf_22 (by decide) ?_
      refine lv_icmp_lt (tgt := 49) hx hb dX9_sortOf_24 (by decide) (fun c_3 => ?_) (fun c_3 => ?_)
      · refine lv_iconst (v := (-1)) hx hb dX9_sortOf_49 (by decide) ?_
        exact W.iret (v := (-1)) hx hb hr (fun t ht hW => ⟨⟨(-1), (), rfl, (Or.inl rfl), trivial⟩, hS.F ht⟩) hS.2.2 dX9_sortOf_50
      · refine lv_iload_n hx hb dX9_sortOf_27 rfl (lv_at hl 1 rfl) ?_
        refine lv_iconst (v := 3) hx hb dX9_sortOf_28 (by decide) ?_
        refine lv_icmp_gt (tgt := 49) hx hb dX9_sortOf_29 (by decide) (fun c_4 => ?_) (fun c_4 => ?_)
        · refine lv_iconst (v := (-1)) hx hb dX9_sortOf_49 (by decide) ?_
          exact W.iret (v := (-1)) hx hb hr (fun t ht hW => ⟨⟨(-1), (), rfl, (Or.inl rfl), trivial⟩, hS.F ht⟩) hS.2.2 dX9_sortOf_50
        · refine lv_iload_n hx hb dX9_sortOf_32 rfl (lv_at hl 0 rfl) ?_
          refine lv_iconst (v := 2) hx hb dX9_sortOf_33 (by decide) ?_
          refine lv_icmp_gt (tgt := 49) hx hb dX9_sortOf_34 (by decide) (fun c_5 => ?_) (fun c_5 => ?_)
          · refine lv_iconst (v := (-1)) hx hb dX9_sortOf_49 (by decide) ?_
            exact W.iret (v := (-1)) hx hb hr (fun t ht hW => ⟨⟨(-1), (), rfl, (Or.inl rfl), trivial⟩, hS.F ht⟩) hS.2.2 dX9_sortOf_50
          · refine lv_iconst (v := 5) hx hb dX9_sortOf_37 (by decide) ?_
            refine lv_iconst (v := 3) hx hb dX9_sortOf_38 (by decide) ?_
            refine lv_iload_n hx hb dX9_sortOf_39 rfl (lv_at hl 1 rfl) ?_
            refine lv_iconst (v := 1) hx hb dX9_sortOf_40 (by decide) ?_
            refine lv_isub hx hb dX9_sortOf_41 ?_
            refine lv_imul hx hb dX9_sortOf_42 ?_
            refine lv_iadd hx hb dX9_sortOf_43 ?_
            refine lv_iload_n hx hb dX9_sortOf_44 rfl (lv_at hl 0 rfl) ?_
            refine lv_iadd hx hb dX9_sortOf_45 ?_
            refine lv_goto (tgt := 50) hx hb dX9_sortOf_46 (by decide) ?_
            exact W.iret (v := ((5 + (3 * ((p0 / 10) - 1))) + (p0 - p0 / 10 * 10))) hx hb hr (fun t ht hW => ⟨⟨((5 + (3 * ((p0 / 10) - 1))) + (p0 - p0 / 10 * 10)), (), rfl, (Or.inr (Or.inl ⟨c_1, c_2, c_3, c_4, c_5, rfl⟩)), trivial⟩, hS.F ht⟩) hS.2.2 dX9_sortOf_50
    · refine lv_iload_n hx hb dX9_sortOf_9 rfl (lv_at hl 0 rfl) ?_
      exact W.iret (v := p0) hx hb hr (fun t ht hW => ⟨⟨p0, (), rfl, (Or.inr (Or.inr ⟨c_1, c_2, rfl⟩)), trivial⟩, hS.F ht⟩) hS.2.2 dX9_sortOf_10
set_option maxHeartbeats 4000000 in
set_option maxRecDepth 100000 in
theorem kX8_inForce_3 (l : Launch) (dC : Nat → ClassId) (dI : Nat → Nat → Nat) (sz : Nat) (ad : Nat → Nat) (ca : Nat → ClassId) (p1 : Int32) (p2 : Int32) (p3 : Int32) : Met l yX8_inForce wsX8_inForce ({ frames := 0, cells := 0, slots := 0, locals := 0 }) (va_Pc [.ref (ad 11), .int p1, .int p2, .int p3] (jw_P (dC, dI) (xW ad ca) (xT ca) sz)) (va_Qi (fun (r : Int32) (_ : Unit) => (r = (-1))) (fun _ _ => True) (va_A [] sz)) 0 0 (va_A [] sz) := by
  refine Met.ofW (cc := cX8_inForce) (maxL := 6) (ret := (some .int)) (by decide) rfl ?_
  intro p e s m args below meth c s₁ B hml hv
  obtain ⟨rfl, hsz, hP, hK, hD0⟩ := hv
  have hx := B.exec
  have hb := B.bytes
  have hr := B.returns
  have hts := atoms_spec (ws := wsX8_inForce) B.pre
  have hown : s.vm.findClass RX8 = some m.cls := findClass_of_methodNamed B.named
  have hlocks := B.notSynchronized
  subst hsz
  have hD := hD0
  generalize hAe : (va_A [] s.heap.size) = A
  have hA : ∀ q : Nat, s.heap.size ≤ q → A q := fun q h => by rw [← hAe]; exact Or.inr h
  have hS : va_S A s.heap s.heap [] := va_S.rf
  have hP : va_P (dC, dI) vwCl (xW ad ca) s.heap := hP
  have hl := lv_entry ([.ref (ad 11), .int p1, .int p2, .int p3]) (n := 6) (Nat.le_of_ble_eq_true rfl)
  rw [lg_entry_eq]
  generalize (lg_sl ([.ref (ad 11), .int p1, .int p2, .int p3]) ++ List.replicate (6 - (lg_sl ([.ref (ad 11), .int p1, .int p2, .int p3])).length) Slot.unset).toArray = ls at hl ⊢
  have hl : lv_has ls 6 [(0, .ref (ad 11)), (1, .int p1), (2, .int p2), (3, .int p3)] := hl
  refine lv_aload_n hx hb dX8_inForce_0 rfl (lv_at hl 0 rfl) ?_
  refine va_get (D := (dC, dI)) (ci := 8) (v := .int 0) (C := RX8) (T := TX8) (N := 8) hx hb hts hin_X8_inForce_RX8 hown hK hP 11 rfl rfl 5 (by decide) (hts (.fieldLink RX8 37 "BookOfAll$Rules" "puts" "I") (by decide +kernel)) (fun _ h9 => h9) rfl dX8_inForce_1 ?_
  refine lv_iconst (v := 1) hx hb dX8_inForce_4 (by decide) ?_
  refine lv_isub hx hb dX8_inForce_5 ?_
  refine jt_i (-1) (by decide) ?_
  refine lv_istore (lv' := [(4, .int (-1)), (0, .ref (ad 11)), (1, .int p1), (2, .int p2), (3, .int p3)]) hx hb dX8_inForce_6 hl (by decide) rfl (fun ls hl => ?_)
  refine lv_iload hx hb dX8_inForce_8 (lv_at hl 0 rfl) ?_
  refine lv_if_lt (tgt := 51) hx hb dX8_inForce_10 (by decide) (fun _ => ?_) (fun z => absurd (by decide) z)
  refine lv_iconst (v := (-1)) hx hb dX8_inForce_51 (by decide) ?_
  exact W.iret (v := (-1)) hx hb hr (fun t ht hW => ⟨⟨(-1), (), rfl, rfl, trivial⟩, hS.F ht⟩) hS.2.2 dX8_inForce_52
set_option maxHeartbeats 4000000 in
set_option maxRecDepth 100000 in
theorem tX12_rule (l : Launch) (dC : Nat → ClassId) (dI : Nat → Nat → Nat) (sz : Nat) (ad : Nat → Nat) (ca : Nat → ClassId) (p1 : Int32) (p2 : Int32) (p3 : Int32) : Met l yX12_rule wsX12_rule ({ frames := 1, cells := 0, slots := 0, locals := 25 }) (va_Pc [.ref (ad 0), .int p1, .int p2, .int p3] (jw_P (dC, dI) (xW ad ca) (xT ca) sz)) (va_Qi (fun (r : Int32) (_ : Unit) => (r = (-1))) (fun _ _ => True) (va_A [] sz)) 0 0 (va_A [] sz) := by
  refine Met.ofW (cc := cX12_rule) (maxL := 5) (ret := (some .int)) (by decide) rfl ?_
  intro p e s m args below meth c s₁ B hml hv
  obtain ⟨rfl, hsz, hP, hK, hD0⟩ := hv
  have hx := B.exec
  have hb := B.bytes
  have hr := B.returns
  have hts := atoms_spec (ws := wsX12_rule) B.pre
  have hown : s.vm.findClass RX12 = some m.cls := findClass_of_methodNamed B.named
  have hlocks := B.notSynchronized
  subst hsz
  have hD := hD0
  generalize hAe : (va_A [] s.heap.size) = A
  have hA : ∀ q : Nat, s.heap.size ≤ q → A q := fun q h => by rw [← hAe]; exact Or.inr h
  have hS : va_S A s.heap s.heap [] := va_S.rf
  have hP : va_P (dC, dI) vwCl (xW ad ca) s.heap := hP
  have hl := lv_entry ([.ref (ad 0), .int p1, .int p2, .int p3]) (n := 5) (Nat.le_of_ble_eq_true rfl)
  rw [lg_entry_eq]
  generalize (lg_sl ([.ref (ad 0), .int p1, .int p2, .int p3]) ++ List.replicate (5 - (lg_sl ([.ref (ad 0), .int p1, .int p2, .int p3])).length) Slot.unset).toArray = ls at hl ⊢
  have hl : lv_has ls 5 [(0, .ref (ad 0)), (1, .int p1), (2, .int p2), (3, .int p3)] := hl
  refine lv_iload_n hx hb dX12_rule_0 rfl (lv_at hl 1 rfl) ?_
  refine jc_i (va_runS (As := [.int p1]) (rest := []) ⟨hx, hb, hml, hown, hts⟩ (kX9_sortOf_1 l dC dI _ p1) (va_cwS 1 hts gX12_rule_X9_sortOf rfl rfl rfl (by decide +kernel) ⟨Nat.le_of_ble_eq_true rfl, Nat.le_of_ble_eq_true rfl⟩) ⟨jw_blind0, fun U hU hW => ⟨rfl, by rw [hU]⟩⟩ rfl rfl hl.1 rfl (lv_room (Nat.le_of_ble_eq_true rfl)) dX12_rule_1 ⟨Nat.le_of_ble_eq_true rfl, Nat.le_of_ble_eq_true rfl⟩) hP hS hA (fun r_1 H locs hw_1 hP hS => ?_)
  rcases (show (r_1 = (-1)) ∨ (¬ (p1 < 0) ∧ 4 < p1 ∧ ¬ (p1 < 10) ∧ ¬ (3 < (p1 / 10)) ∧ ¬ (2 < (p1 - p1 / 10 * 10)) ∧ r_1 = ((5 + (3 * ((p1 / 10) - 1))) + (p1 - p1 / 10 * 10))) ∨ (¬ (p1 < 0) ∧ ¬ (4 < p1) ∧ r_1 = p1) from hw_1) with rfl | ⟨c_2, c_3, c_4, c_5, c_6, rfl⟩ | ⟨c_7, c_8, rfl⟩
  · refine lv_istore (lv' := [(4, .int (-1)), (0, .ref (ad 0)), (1, .int p1), (2, .int p2), (3, .int p3)]) hx hb dX12_rule_4 hl (by decide) rfl (fun ls hl => ?_)
    refine lv_iload hx hb dX12_rule_6 (lv_at hl 0 rfl) ?_
    refine lv_iconst (v := (-1)) hx hb dX12_rule_8 (by decide) ?_
    refine lv_icmp_eq (tgt := 32) hx hb dX12_rule_9 (by decide) (fun _ => ?_) (fun z => absurd (by decide) z)
    refine lv_iconst (v := (-1)) hx hb dX12_rule_32 (by decide) ?_
    exact W.iret (v := (-1)) hx hb hr (fun t ht hW => ⟨⟨(-1), (), rfl, rfl, trivial⟩, hS.F ht⟩) hS.2.2 dX12_rule_33
  · refine lv_istore (lv' := [(4, .int ((5 + (3 * ((p1 / 10) - 1))) + (p1 - p1 / 10 * 10))), (0, .ref (ad 0)), (1, .int p1), (2, .int p2), (3, .int p3)]) hx hb dX12_rule_4 hl (by decide) rfl (fun ls hl => ?_)
    refine lv_iload hx hb dX12_rule_6 (lv_at hl 0 rfl) ?_
    refine lv_iconst (v := (-1)) hx hb dX12_rule_8 (by decide) ?_
    refine lv_icmp_eq (tgt := 32) hx hb dX12_rule_9 (by decide) (fun c_9 => ?_) (fun c_9 => ?_)
    · refine lv_iconst (v := (-1)) hx hb dX12_rule_32 (by decide) ?_
      exact W.iret (v := (-1)) hx hb hr (fun t ht hW => ⟨⟨(-1), (), rfl, rfl, trivial⟩, hS.F ht⟩) hS.2.2 dX12_rule_33
    · refine lv_aload_n hx hb dX12_rule_12 rfl (lv_at hl 1 rfl) ?_
      refine lv_iload_n hx hb dX12_rule_13 rfl (lv_at hl 3 rfl) ?_
      refine jc_i (va_runV (As := [.int p2]) (rest := []) ⟨hx, hb, hml, hown, hts⟩ (kX12_isVolume_1 l dC dI _ (ad 0) p2) (cwV 1 hts gX12_rule_X12_isVolume rfl rfl rfl (by decide +kernel) ⟨Nat.le_of_ble_eq_true rfl, Nat.le_of_ble_eq_true rfl⟩) ⟨jw_blind0, va_recv hK hP (ci := 12) (q0 := 0) rfl rfl, fun U hU hW => ⟨rfl, by rw [hU]⟩⟩ rfl rfl hl.1 rfl (lv_room (Nat.le_of_ble_eq_true rfl)) dX12_rule_14 ⟨Nat.le_of_ble_eq_true rfl, Nat.le_of_ble_eq_true rfl⟩) hP hS hA (fun r_10 H locs hw_10 hP hS => ?_)
      rcases (show (p2 < 0 ∧ r_10 = 0) ∨ (¬ (p2 < 0) ∧ 6 ≤ p2 ∧ r_10 = 0) ∨ (¬ (p2 < 0) ∧ ¬ (6 ≤ p2) ∧ r_10 = 1) from hw_10) with ⟨c_11, rfl⟩ | ⟨c_12, c_13, rfl⟩ | ⟨c_14, c_15, rfl⟩
      · refine lv_if_eq (tgt := 32) hx hb dX12_rule_17 (by decide) (fun _ => ?_) (fun z => absurd (by decide) z)
        refine lv_iconst (v := (-1)) hx hb dX12_rule_32 (by decide) ?_
        exact W.iret (v := (-1)) hx hb hr (fun t ht hW => ⟨⟨(-1), (), rfl, rfl, trivial⟩, hS.F ht⟩) hS.2.2 dX12_rule_33
      · refine lv_if_eq (tgt := 32) hx hb dX12_rule_17 (by decide) (fun _ => ?_) (fun z => absurd (by decide) z)
        refine lv_iconst (v := (-1)) hx hb dX12_rule_32 (by decide) ?_
        exact W.iret (v := (-1)) hx hb hr (fun t ht hW => ⟨⟨(-1), (), rfl, rfl, trivial⟩, hS.F ht⟩) hS.2.2 dX12_rule_33
      · refine lv_if_eq (tgt := 32) hx hb dX12_rule_17 (by decide) (fun z => absurd z (by decide)) (fun _ => ?_)
        refine lv_iload_n hx hb dX12_rule_20 rfl (lv_at hl 4 rfl) ?_
        refine lv_if_lt (tgt := 32) hx hb dX12_rule_21 (by decide) (fun c_16 => ?_) (fun c_16 => ?_)
        · refine lv_iconst (v := (-1)) hx hb dX12_rule_32 (by decide) ?_
          exact W.iret (v := (-1)) hx hb hr (fun t ht hW => ⟨⟨(-1), (), rfl, rfl, trivial⟩, hS.F ht⟩) hS.2.2 dX12_rule_33
        · refine lv_iload_n hx hb dX12_rule_24 rfl (lv_at hl 4 rfl) ?_
          refine lv_aload_n hx hb dX12_rule_25 rfl (lv_at hl 1 rfl) ?_
          refine va_get (D := (dC, dI)) (ci := 12) (v := .int 0) (C := RX12) (T := TX12) (N := 20) hx hb hts hin_X12_rule_RX12 hown hK hP 0 rfl rfl 0 (by decide) (hts (.fieldLink RX12 133 "BookOfAll" "now" "I") (by decide +kernel)) (fun _ h9 => h9) rfl dX12_rule_26 ?_
          refine lv_icmp_le (tgt := 34) hx hb dX12_rule_29 (by decide) (fun c_17 => ?_) (fun c_17 => ?_)
          · refine lv_aload_n hx hb dX12_rule_34 rfl (lv_at hl 1 rfl) ?_
            refine va_get (D := (dC, dI)) (ci := 12) (v := .ref (ad 11)) (C := RX12) (T := TX12) (N := 20) hx hb hts hin_X12_rule_RX12 hown hK hP 0 rfl rfl 3 (by decide) (hts (.fieldLink RX12 19 "BookOfAll" "rules" "LBookOfAll$Rules;") (by decide +kernel)) (fun _ h9 => h9) rfl dX12_rule_35 ?_
            refine lv_iload hx hb dX12_rule_38 (lv_at hl 0 rfl) ?_
            refine lv_iload_n hx hb dX12_rule_40 rfl (lv_at hl 3 rfl) ?_
            refine lv_iload_n hx hb dX12_rule_41 rfl (lv_at hl 4 rfl) ?_
            refine jc_i (va_runV (As := [.int ((5 + (3 * ((p1 / 10) - 1))) + (p1 - p1 / 10 * 10)), .int p2, .int p3]) (rest := []) ⟨hx, hb, hml, hown, hts⟩ (kX8_inForce_3 l dC dI _ ad ca ((5 + (3 * ((p1 / 10) - 1))) + (p1 - p1 / 10 * 10)) p2 p3) (cwV 3 hts gX12_rule_X8_inForce rfl rfl rfl (by decide +kernel) ⟨Nat.le_of_ble_eq_true rfl, Nat.le_of_ble_eq_true rfl⟩) ⟨jw_blind, va_recv hK hP (ci := 8) (q0 := 11) rfl rfl, fun U hU hW => ⟨rfl, jw_of hU hW hP hK hD⟩⟩ rfl rfl hl.1 rfl (lv_room (Nat.le_of_ble_eq_true rfl)) dX12_rule_42 ⟨Nat.le_of_ble_eq_true rfl, Nat.le_of_ble_eq_true rfl⟩) hP hS hA (fun r_18 H locs hw_18 hP hS => ?_)
            have hw_18 : r_18 = (-1) := hw_18
            subst hw_18
            exact W.iret (v := (-1)) hx hb hr (fun t ht hW => ⟨⟨(-1), (), rfl, rfl, trivial⟩, hS.F ht⟩) hS.2.2 dX12_rule_45
          · refine lv_iconst (v := (-1)) hx hb dX12_rule_32 (by decide) ?_
            exact W.iret (v := (-1)) hx hb hr (fun t ht hW => ⟨⟨(-1), (), rfl, rfl, trivial⟩, hS.F ht⟩) hS.2.2 dX12_rule_33
  · refine lv_istore (lv' := [(4, .int p1), (0, .ref (ad 0)), (1, .int p1), (2, .int p2), (3, .int p3)]) hx hb dX12_rule_4 hl (by decide) rfl (fun ls hl => ?_)
    refine lv_iload hx hb dX12_rule_6 (lv_at hl 0 rfl) ?_
    refine lv_iconst (v := (-1)) hx hb dX12_rule_8 (by decide) ?_
    refine lv_icmp_eq (tgt := 32) hx hb dX12_rule_9 (by decide) (fun z => absurd z (jb_ne2 (jl_nlt c_7) (by decide))) (fun _ => ?_)
    refine lv_aload_n hx hb dX12_rule_12 rfl (lv_at hl 1 rfl) ?_
    refine lv_iload_n hx hb dX12_rule_13 rfl (lv_at hl 3 rfl) ?_
    refine jc_i (va_runV (As := [.int p2]) (rest := []) ⟨hx, hb, hml, hown, hts⟩ (kX12_isVolume_1 l dC dI _ (ad 0) p2) (cwV 1 hts gX12_rule_X12_isVolume rfl rfl rfl (by decide +kernel) ⟨Nat.le_of_ble_eq_true rfl, Nat.le_of_ble_eq_true rfl⟩) ⟨jw_blind0, va_recv hK hP (ci := 12) (q0 := 0) rfl rfl, fun U hU hW => ⟨rfl, by rw [hU]⟩⟩ rfl rfl hl.1 rfl (lv_room (Nat.le_of_ble_eq_true rfl)) dX12_rule_14 ⟨Nat.le_of_ble_eq_true rfl, Nat.le_of_ble_eq_true rfl⟩) hP hS hA (fun r_19 H locs hw_19 hP hS => ?_)
    rcases (show (p2 < 0 ∧ r_19 = 0) ∨ (¬ (p2 < 0) ∧ 6 ≤ p2 ∧ r_19 = 0) ∨ (¬ (p2 < 0) ∧ ¬ (6 ≤ p2) ∧ r_19 = 1) from hw_19) with ⟨c_20, rfl⟩ | ⟨c_21, c_22, rfl⟩ | ⟨c_23, c_24, rfl⟩
    · refine lv_if_eq (tgt := 32) hx hb dX12_rule_17 (by decide) (fun _ => ?_) (fun z => absurd (by decide) z)
      refine lv_iconst (v := (-1)) hx hb dX12_rule_32 (by decide) ?_
      exact W.iret (v := (-1)) hx hb hr (fun t ht hW => ⟨⟨(-1), (), rfl, rfl, trivial⟩, hS.F ht⟩) hS.2.2 dX12_rule_33
    · refine lv_if_eq (tgt := 32) hx hb dX12_rule_17 (by decide) (fun _ => ?_) (fun z => absurd (by decide) z)
      refine lv_iconst (v := (-1)) hx hb dX12_rule_32 (by decide) ?_
      exact W.iret (v := (-1)) hx hb hr (fun t ht hW => ⟨⟨(-1), (), rfl, rfl, trivial⟩, hS.F ht⟩) hS.2.2 dX12_rule_33
    · refine lv_if_eq (tgt := 32) hx hb dX12_rule_17 (by decide) (fun z => absurd z (by decide)) (fun _ => ?_)
      refine lv_iload_n hx hb dX12_rule_20 rfl (lv_at hl 4 rfl) ?_
      refine lv_if_lt (tgt := 32) hx hb dX12_rule_21 (by decide) (fun c_25 => ?_) (fun c_25 => ?_)
      · refine lv_iconst (v := (-1)) hx hb dX12_rule_32 (by decide) ?_
        exact W.iret (v := (-1)) hx hb hr (fun t ht hW => ⟨⟨(-1), (), rfl, rfl, trivial⟩, hS.F ht⟩) hS.2.2 dX12_rule_33
      · refine lv_iload_n hx hb dX12_rule_24 rfl (lv_at hl 4 rfl) ?_
        refine lv_aload_n hx hb dX12_rule_25 rfl (lv_at hl 1 rfl) ?_
        refine va_get (D := (dC, dI)) (ci := 12) (v := .int 0) (C := RX12) (T := TX12) (N := 20) hx hb hts hin_X12_rule_RX12 hown hK hP 0 rfl rfl 0 (by decide) (hts (.fieldLink RX12 133 "BookOfAll" "now" "I") (by decide +kernel)) (fun _ h9 => h9) rfl dX12_rule_26 ?_
        refine lv_icmp_le (tgt := 34) hx hb dX12_rule_29 (by decide) (fun c_26 => ?_) (fun c_26 => ?_)
        · refine lv_aload_n hx hb dX12_rule_34 rfl (lv_at hl 1 rfl) ?_
          refine va_get (D := (dC, dI)) (ci := 12) (v := .ref (ad 11)) (C := RX12) (T := TX12) (N := 20) hx hb hts hin_X12_rule_RX12 hown hK hP 0 rfl rfl 3 (by decide) (hts (.fieldLink RX12 19 "BookOfAll" "rules" "LBookOfAll$Rules;") (by decide +kernel)) (fun _ h9 => h9) rfl dX12_rule_35 ?_
          refine lv_iload hx hb dX12_rule_38 (lv_at hl 0 rfl) ?_
          refine lv_iload_n hx hb dX12_rule_40 rfl (lv_at hl 3 rfl) ?_
          refine lv_iload_n hx hb dX12_rule_41 rfl (lv_at hl 4 rfl) ?_
          refine jc_i (va_runV (As := [.int p1, .int p2, .int p3]) (rest := []) ⟨hx, hb, hml, hown, hts⟩ (kX8_inForce_3 l dC dI _ ad ca p1 p2 p3) (cwV 3 hts gX12_rule_X8_inForce rfl rfl rfl (by decide +kernel) ⟨Nat.le_of_ble_eq_true rfl, Nat.le_of_ble_eq_true rfl⟩) ⟨jw_blind, va_recv hK hP (ci := 8) (q0 := 11) rfl rfl, fun U hU hW => ⟨rfl, jw_of hU hW hP hK hD⟩⟩ rfl rfl hl.1 rfl (lv_room (Nat.le_of_ble_eq_true rfl)) dX12_rule_42 ⟨Nat.le_of_ble_eq_true rfl, Nat.le_of_ble_eq_true rfl⟩) hP hS hA (fun r_27 H locs hw_27 hP hS => ?_)
          have hw_27 : r_27 = (-1) := hw_27
          subst hw_27
          exact W.iret (v := (-1)) hx hb hr (fun t ht hW => ⟨⟨(-1), (), rfl, rfl, trivial⟩, hS.F ht⟩) hS.2.2 dX12_rule_45
        · refine lv_iconst (v := (-1)) hx hb dX12_rule_32 (by decide) ?_
          exact W.iret (v := (-1)) hx hb hr (fun t ht hW => ⟨⟨(-1), (), rfl, rfl, trivial⟩, hS.F ht⟩) hS.2.2 dX12_rule_33
set_option maxHeartbeats 4000000 in
set_option maxRecDepth 100000 in
theorem kX5_tellOn_3 (l : Launch) (dC : Nat → ClassId) (dI : Nat → Nat → Nat) (sz : Nat) (ad : Nat → Nat) (ca : Nat → ClassId) (p1 : Int32) (p2 : Int32) : Met l yX5_tellOn wsX5_tellOn ({ frames := 0, cells := 0, slots := 0, locals := 0 }) (va_Pc [.ref (ad 42), .int p1, .int p2] (jw_P (dC, dI) (xW ad ca) (xT ca) sz)) (va_Qi (fun (r : Int32) (_ : Unit) => (r = (-1))) (fun _ _ => True) (va_A [] sz)) 0 0 (va_A [] sz) := by
  refine Met.ofW (cc := cX5_tellOn) (maxL := 5) (ret := (some .int)) (by decide) rfl ?_
  intro p e s m args below meth c s₁ B hml hv
  obtain ⟨rfl, hsz, hP, hK, hD0⟩ := hv
  have hx := B.exec
  have hb := B.bytes
  have hr := B.returns
  have hts := atoms_spec (ws := wsX5_tellOn) B.pre
  have hown : s.vm.findClass RX5 = some m.cls := findClass_of_methodNamed B.named
  have hlocks := B.notSynchronized
  subst hsz
  have hD := hD0
  generalize hAe : (va_A [] s.heap.size) = A
  have hA : ∀ q : Nat, s.heap.size ≤ q → A q := fun q h => by rw [← hAe]; exact Or.inr h
  have hS : va_S A s.heap s.heap [] := va_S.rf
  have hP : va_P (dC, dI) vwCl (xW ad ca) s.heap := hP
  have hl := lv_entry ([.ref (ad 42), .int p1, .int p2]) (n := 5) (Nat.le_of_ble_eq_true rfl)
  rw [lg_entry_eq]
  generalize (lg_sl ([.ref (ad 42), .int p1, .int p2]) ++ List.replicate (5 - (lg_sl ([.ref (ad 42), .int p1, .int p2])).length) Slot.unset).toArray = ls at hl ⊢
  have hl : lv_has ls 5 [(0, .ref (ad 42)), (1, .int p1), (2, .int p2)] := hl
  refine lv_iload_n hx hb dX5_tellOn_0 rfl (lv_at hl 1 rfl) ?_
  refine lv_if_lt (tgt := 19) hx hb dX5_tellOn_1 (by decide) (fun c_1 => ?_) (fun c_1 => ?_)
  · refine lv_iconst (v := (-1)) hx hb dX5_tellOn_19 (by decide) ?_
    refine lv_istore_n (lv' := [(3, .int (-1)), (0, .ref (ad 42)), (1, .int p1), (2, .int p2)]) hx hb dX5_tellOn_20 rfl hl (by decide) rfl (fun ls hl => ?_)
    refine lv_iconst (v := 0) hx hb dX5_tellOn_21 (by decide) ?_
    refine lv_istore (lv' := [(4, .int 0), (3, .int (-1)), (0, .ref (ad 42)), (1, .int p1), (2, .int p2)]) hx hb dX5_tellOn_22 hl (by decide) rfl (fun ls hl => ?_)
    refine lv_iload hx hb dX5_tellOn_24 (lv_at hl 0 rfl) ?_
    refine lv_sipush (v := 600) hx hb dX5_tellOn_26 (by decide) ?_
    refine lv_icmp_ge (tgt := 68) hx hb dX5_tellOn_29 (by decide) (fun z => absurd z (by decide)) (fun _ => ?_)
    refine lv_iload_n hx hb dX5_tellOn_32 rfl (lv_at hl 1 rfl) ?_
    refine lv_if_lt (tgt := 68) hx hb dX5_tellOn_33 (by decide) (fun _ => ?_) (fun z => absurd (by decide) z)
    refine lv_iconst (v := (-1)) hx hb dX5_tellOn_68 (by decide) ?_
    exact W.iret (v := (-1)) hx hb hr (fun t ht hW => ⟨⟨(-1), (), rfl, rfl, trivial⟩, hS.F ht⟩) hS.2.2 dX5_tellOn_69
  · refine lv_iload_n hx hb dX5_tellOn_4 rfl (lv_at hl 1 rfl) ?_
    refine lv_bipush (v := 40) hx hb dX5_tellOn_5 (by decide) ?_
    refine lv_icmp_ge (tgt := 19) hx hb dX5_tellOn_7 (by decide) (fun c_2 => ?_) (fun c_2 => ?_)
    · refine lv_iconst (v := (-1)) hx hb dX5_tellOn_19 (by decide) ?_
      refine lv_istore_n (lv' := [(3, .int (-1)), (0, .ref (ad 42)), (1, .int p1), (2, .int p2)]) hx hb dX5_tellOn_20 rfl hl (by decide) rfl (fun ls hl => ?_)
      refine lv_iconst (v := 0) hx hb dX5_tellOn_21 (by decide) ?_
      refine lv_istore (lv' := [(4, .int 0), (3, .int (-1)), (0, .ref (ad 42)), (1, .int p1), (2, .int p2)]) hx hb dX5_tellOn_22 hl (by decide) rfl (fun ls hl => ?_)
      refine lv_iload hx hb dX5_tellOn_24 (lv_at hl 0 rfl) ?_
      refine lv_sipush (v := 600) hx hb dX5_tellOn_26 (by decide) ?_
      refine lv_icmp_ge (tgt := 68) hx hb dX5_tellOn_29 (by decide) (fun z => absurd z (by decide)) (fun _ => ?_)
      refine lv_iload_n hx hb dX5_tellOn_32 rfl (lv_at hl 1 rfl) ?_
      refine lv_if_lt (tgt := 68) hx hb dX5_tellOn_33 (by decide) (fun _ => ?_) (fun z => absurd (by decide) z)
      refine lv_iconst (v := (-1)) hx hb dX5_tellOn_68 (by decide) ?_
      exact W.iret (v := (-1)) hx hb hr (fun t ht hW => ⟨⟨(-1), (), rfl, rfl, trivial⟩, hS.F ht⟩) hS.2.2 dX5_tellOn_69
    · refine lv_aload_n hx hb dX5_tellOn_10 rfl (lv_at hl 0 rfl) ?_
      refine va_get (D := (dC, dI)) (ci := 5) (v := .ref (ad 43)) (C := RX5) (T := TX5) (N := 12) hx hb hts hin_X5_tellOn_RX5 hown hK hP 42 rfl rfl 0 (by decide) (hts (.fieldLink RX5 11 "BookOfAll$News" "latest" "[I") (by decide +kernel)) (fun _ h9 => h9) rfl dX5_tellOn_11 ?_
      refine lv_iload_n hx hb dX5_tellOn_14 rfl (lv_at hl 1 rfl) ?_
      refine va_iald hx hb hK hP 43 32 rfl rfl (jb_in (jl_nlt c_1) (jl_nge (d := 39) c_2 (by decide)) (by decide) (by decide)) dX5_tellOn_15 ?_
      refine jt_i (-1) (jfill_at (jl_nlt c_1) (jl_nge (d := 39) c_2 (by decide)) (by decide) (by decide)) ?_
      refine lv_goto (tgt := 20) hx hb dX5_tellOn_16 (by decide) ?_
      refine lv_istore_n (lv' := [(3, .int (-1)), (0, .ref (ad 42)), (1, .int p1), (2, .int p2)]) hx hb dX5_tellOn_20 rfl hl (by decide) rfl (fun ls hl => ?_)
      refine lv_iconst (v := 0) hx hb dX5_tellOn_21 (by decide) ?_
      refine lv_istore (lv' := [(4, .int 0), (3, .int (-1)), (0, .ref (ad 42)), (1, .int p1), (2, .int p2)]) hx hb dX5_tellOn_22 hl (by decide) rfl (fun ls hl => ?_)
      refine lv_iload hx hb dX5_tellOn_24 (lv_at hl 0 rfl) ?_
      refine lv_sipush (v := 600) hx hb dX5_tellOn_26 (by decide) ?_
      refine lv_icmp_ge (tgt := 68) hx hb dX5_tellOn_29 (by decide) (fun z => absurd z (by decide)) (fun _ => ?_)
      refine lv_iload_n hx hb dX5_tellOn_32 rfl (lv_at hl 1 rfl) ?_
      refine lv_if_lt (tgt := 68) hx hb dX5_tellOn_33 (by decide) (fun _ => ?_) (fun z => absurd (by decide) z)
      refine lv_iconst (v := (-1)) hx hb dX5_tellOn_68 (by decide) ?_
      exact W.iret (v := (-1)) hx hb hr (fun t ht hW => ⟨⟨(-1), (), rfl, rfl, trivial⟩, hS.F ht⟩) hS.2.2 dX5_tellOn_69
set_option maxHeartbeats 4000000 in
set_option maxRecDepth 100000 in
theorem kX5_sourceOn_3 (l : Launch) (dC : Nat → ClassId) (dI : Nat → Nat → Nat) (sz : Nat) (ad : Nat → Nat) (ca : Nat → ClassId) (p1 : Int32) (p2 : Int32) : Met l yX5_sourceOn wsX5_sourceOn ({ frames := 1, cells := 0, slots := 0, locals := 24 }) (va_Pc [.ref (ad 42), .int p1, .int p2] (jw_P (dC, dI) (xW ad ca) (xT ca) sz)) (va_Qi (fun (r : Int32) (_ : Unit) => (r = (-1))) (fun _ _ => True) (va_A [] sz)) 0 0 (va_A [] sz) := by
  refine Met.ofW (cc := cX5_sourceOn) (maxL := 4) (ret := (some .int)) (by decide) rfl ?_
  intro p e s m args below meth c s₁ B hml hv
  obtain ⟨rfl, hsz, hP, hK, hD0⟩ := hv
  have hx := B.exec
  have hb := B.bytes
  have hr := B.returns
  have hts := atoms_spec (ws := wsX5_sourceOn) B.pre
  have hown : s.vm.findClass RX5 = some m.cls := findClass_of_methodNamed B.named
  have hlocks := B.notSynchronized
  subst hsz
  have hD := hD0
  generalize hAe : (va_A [] s.heap.size) = A
  have hA : ∀ q : Nat, s.heap.size ≤ q → A q := fun q h => by rw [← hAe]; exact Or.inr h
  have hS : va_S A s.heap s.heap [] := va_S.rf
  have hP : va_P (dC, dI) vwCl (xW ad ca) s.heap := hP
  have hl := lv_entry ([.ref (ad 42), .int p1, .int p2]) (n := 4) (Nat.le_of_ble_eq_true rfl)
  rw [lg_entry_eq]
  generalize (lg_sl ([.ref (ad 42), .int p1, .int p2]) ++ List.replicate (4 - (lg_sl ([.ref (ad 42), .int p1, .int p2])).length) Slot.unset).toArray = ls at hl ⊢
  have hl : lv_has ls 4 [(0, .ref (ad 42)), (1, .int p1), (2, .int p2)] := hl
  refine lv_aload_n hx hb dX5_sourceOn_0 rfl (lv_at hl 0 rfl) ?_
  refine lv_iload_n hx hb dX5_sourceOn_1 rfl (lv_at hl 1 rfl) ?_
  refine lv_iload_n hx hb dX5_sourceOn_2 rfl (lv_at hl 2 rfl) ?_
  refine jc_i (va_runV (As := [.int p1, .int p2]) (rest := []) ⟨hx, hb, hml, hown, hts⟩ (kX5_tellOn_3 l dC dI _ ad ca p1 p2) (cwV 2 hts gX5_sourceOn_X5_tellOn rfl rfl rfl (by decide +kernel) ⟨Nat.le_of_ble_eq_true rfl, Nat.le_of_ble_eq_true rfl⟩) ⟨jw_blind, va_recv hK hP (ci := 5) (q0 := 42) rfl rfl, fun U hU hW => ⟨rfl, jw_of hU hW hP hK hD⟩⟩ rfl rfl hl.1 rfl (lv_room (Nat.le_of_ble_eq_true rfl)) dX5_sourceOn_3 ⟨Nat.le_of_ble_eq_true rfl, Nat.le_of_ble_eq_true rfl⟩) hP hS hA (fun r_1 H locs hw_1 hP hS => ?_)
  have hw_1 : r_1 = (-1) := hw_1
  subst hw_1
  refine lv_istore_n (lv' := [(3, .int (-1)), (0, .ref (ad 42)), (1, .int p1), (2, .int p2)]) hx hb dX5_sourceOn_6 rfl hl (by decide) rfl (fun ls hl => ?_)
  refine lv_iload_n hx hb dX5_sourceOn_7 rfl (lv_at hl 0 rfl) ?_
  refine lv_if_lt (tgt := 27) hx hb dX5_sourceOn_8 (by decide) (fun _ => ?_) (fun z => absurd (by decide) z)
  refine lv_iconst (v := (-1)) hx hb dX5_sourceOn_27 (by decide) ?_
  exact W.iret (v := (-1)) hx hb hr (fun t ht hW => ⟨⟨(-1), (), rfl, rfl, trivial⟩, hS.F ht⟩) hS.2.2 dX5_sourceOn_28
set_option maxHeartbeats 4000000 in
set_option maxRecDepth 100000 in
theorem kX5_valueOn_3 (l : Launch) (dC : Nat → ClassId) (dI : Nat → Nat → Nat) (sz : Nat) (ad : Nat → Nat) (ca : Nat → ClassId) (p1 : Int32) (p2 : Int32) : Met l yX5_valueOn wsX5_valueOn ({ frames := 1, cells := 0, slots := 0, locals := 24 }) (va_Pc [.ref (ad 42), .int p1, .int p2] (jw_P (dC, dI) (xW ad ca) (xT ca) sz)) (va_Qi (fun (r : Int32) (_ : Unit) => (r = (-1))) (fun _ _ => True) (va_A [] sz)) 0 0 (va_A [] sz) := by
  refine Met.ofW (cc := cX5_valueOn) (maxL := 4) (ret := (some .int)) (by decide) rfl ?_
  intro p e s m args below meth c s₁ B hml hv
  obtain ⟨rfl, hsz, hP, hK, hD0⟩ := hv
  have hx := B.exec
  have hb := B.bytes
  have hr := B.returns
  have hts := atoms_spec (ws := wsX5_valueOn) B.pre
  have hown : s.vm.findClass RX5 = some m.cls := findClass_of_methodNamed B.named
  have hlocks := B.notSynchronized
  subst hsz
  have hD := hD0
  generalize hAe : (va_A [] s.heap.size) = A
  have hA : ∀ q : Nat, s.heap.size ≤ q → A q := fun q h => by rw [← hAe]; exact Or.inr h
  have hS : va_S A s.heap s.heap [] := va_S.rf
  have hP : va_P (dC, dI) vwCl (xW ad ca) s.heap := hP
  have hl := lv_entry ([.ref (ad 42), .int p1, .int p2]) (n := 4) (Nat.le_of_ble_eq_true rfl)
  rw [lg_entry_eq]
  generalize (lg_sl ([.ref (ad 42), .int p1, .int p2]) ++ List.replicate (4 - (lg_sl ([.ref (ad 42), .int p1, .int p2])).length) Slot.unset).toArray = ls at hl ⊢
  have hl : lv_has ls 4 [(0, .ref (ad 42)), (1, .int p1), (2, .int p2)] := hl
  refine lv_aload_n hx hb dX5_valueOn_0 rfl (lv_at hl 0 rfl) ?_
  refine lv_iload_n hx hb dX5_valueOn_1 rfl (lv_at hl 1 rfl) ?_
  refine lv_iload_n hx hb dX5_valueOn_2 rfl (lv_at hl 2 rfl) ?_
  refine jc_i (va_runV (As := [.int p1, .int p2]) (rest := []) ⟨hx, hb, hml, hown, hts⟩ (kX5_tellOn_3 l dC dI _ ad ca p1 p2) (cwV 2 hts gX5_valueOn_X5_tellOn rfl rfl rfl (by decide +kernel) ⟨Nat.le_of_ble_eq_true rfl, Nat.le_of_ble_eq_true rfl⟩) ⟨jw_blind, va_recv hK hP (ci := 5) (q0 := 42) rfl rfl, fun U hU hW => ⟨rfl, jw_of hU hW hP hK hD⟩⟩ rfl rfl hl.1 rfl (lv_room (Nat.le_of_ble_eq_true rfl)) dX5_valueOn_3 ⟨Nat.le_of_ble_eq_true rfl, Nat.le_of_ble_eq_true rfl⟩) hP hS hA (fun r_1 H locs hw_1 hP hS => ?_)
  have hw_1 : r_1 = (-1) := hw_1
  subst hw_1
  refine lv_istore_n (lv' := [(3, .int (-1)), (0, .ref (ad 42)), (1, .int p1), (2, .int p2)]) hx hb dX5_valueOn_6 rfl hl (by decide) rfl (fun ls hl => ?_)
  refine lv_iload_n hx hb dX5_valueOn_7 rfl (lv_at hl 0 rfl) ?_
  refine lv_if_lt (tgt := 27) hx hb dX5_valueOn_8 (by decide) (fun _ => ?_) (fun z => absurd (by decide) z)
  refine lv_iconst (v := (-1)) hx hb dX5_valueOn_27 (by decide) ?_
  exact W.iret (v := (-1)) hx hb hr (fun t ht hW => ⟨⟨(-1), (), rfl, rfl, trivial⟩, hS.F ht⟩) hS.2.2 dX5_valueOn_28
set_option maxHeartbeats 4000000 in
set_option maxRecDepth 100000 in
theorem tX12_known (l : Launch) (dC : Nat → ClassId) (dI : Nat → Nat → Nat) (sz : Nat) (ad : Nat → Nat) (ca : Nat → ClassId) (p1 : Int32) (p2 : Int32) (p3 : Int32) : Met l yX12_known wsX12_known ({ frames := 2, cells := 0, slots := 0, locals := 47 }) (va_Pc [.ref (ad 0), .int p1, .int p2, .int p3] (jw_P (dC, dI) (xW ad ca) (xT ca) sz)) (va_Qi (fun (r : Int32) (_ : Unit) => (r = (-1))) (fun _ _ => True) (va_A [] sz)) 0 0 (va_A [] sz) := by
  refine Met.ofW (cc := cX12_known) (maxL := 4) (ret := (some .int)) (by decide) rfl ?_
  intro p e s m args below meth c s₁ B hml hv
  obtain ⟨rfl, hsz, hP, hK, hD0⟩ := hv
  have hx := B.exec
  have hb := B.bytes
  have hr := B.returns
  have hts := atoms_spec (ws := wsX12_known) B.pre
  have hown : s.vm.findClass RX12 = some m.cls := findClass_of_methodNamed B.named
  have hlocks := B.notSynchronized
  subst hsz
  have hD := hD0
  generalize hAe : (va_A [] s.heap.size) = A
  have hA : ∀ q : Nat, s.heap.size ≤ q → A q := fun q h => by rw [← hAe]; exact Or.inr h
  have hS : va_S A s.heap s.heap [] := va_S.rf
  have hP : va_P (dC, dI) vwCl (xW ad ca) s.heap := hP
  have hl := lv_entry ([.ref (ad 0), .int p1, .int p2, .int p3]) (n := 4) (Nat.le_of_ble_eq_true rfl)
  rw [lg_entry_eq]
  generalize (lg_sl ([.ref (ad 0), .int p1, .int p2, .int p3]) ++ List.replicate (4 - (lg_sl ([.ref (ad 0), .int p1, .int p2, .int p3])).length) Slot.unset).toArray = ls at hl ⊢
  have hl : lv_has ls 4 [(0, .ref (ad 0)), (1, .int p1), (2, .int p2), (3, .int p3)] := hl
  refine lv_iload_n hx hb dX12_known_0 rfl (lv_at hl 2 rfl) ?_
  refine lv_if_lt (tgt := 11) hx hb dX12_known_1 (by decide) (fun c_1 => ?_) (fun c_1 => ?_)
  · refine lv_iconst (v := (-1)) hx hb dX12_known_11 (by decide) ?_
    exact W.iret (v := (-1)) hx hb hr (fun t ht hW => ⟨⟨(-1), (), rfl, rfl, trivial⟩, hS.F ht⟩) hS.2.2 dX12_known_12
  · refine lv_iload_n hx hb dX12_known_4 rfl (lv_at hl 2 rfl) ?_
    refine lv_sipush (v := 2000) hx hb dX12_known_5 (by decide) ?_
    refine lv_icmp_le (tgt := 13) hx hb dX12_known_8 (by decide) (fun c_2 => ?_) (fun c_2 => ?_)
    · refine lv_iload_n hx hb dX12_known_13 rfl (lv_at hl 3 rfl) ?_
      refine lv_if_ne (tgt := 27) hx hb dX12_known_14 (by decide) (fun c_3 => ?_) (fun c_3 => ?_)
      · refine lv_iload_n hx hb dX12_known_27 rfl (lv_at hl 3 rfl) ?_
        refine lv_iconst (v := 1) hx hb dX12_known_28 (by decide) ?_
        refine lv_icmp_ne (tgt := 44) hx hb dX12_known_29 (by decide) (fun c_4 => ?_) (fun c_4 => ?_)
        · refine lv_iconst (v := (-1)) hx hb dX12_known_44 (by decide) ?_
          exact W.iret (v := (-1)) hx hb hr (fun t ht hW => ⟨⟨(-1), (), rfl, rfl, trivial⟩, hS.F ht⟩) hS.2.2 dX12_known_45
        · refine lv_aload_n hx hb dX12_known_32 rfl (lv_at hl 0 rfl) ?_
          refine va_get (D := (dC, dI)) (ci := 12) (v := .ref (ad 42)) (C := RX12) (T := TX12) (N := 20) hx hb hts hin_X12_known_RX12 hown hK hP 0 rfl rfl 14 (by decide) (hts (.fieldLink RX12 66 "BookOfAll" "news" "LBookOfAll$News;") (by decide +kernel)) (fun _ h9 => h9) rfl dX12_known_33 ?_
          refine lv_iload_n hx hb dX12_known_36 rfl (lv_at hl 1 rfl) ?_
          refine lv_iload_n hx hb dX12_known_37 rfl (lv_at hl 2 rfl) ?_
          refine jc_i (va_runV (As := [.int p1, .int p2]) (rest := []) ⟨hx, hb, hml, hown, hts⟩ (kX5_sourceOn_3 l dC dI _ ad ca p1 p2) (cwV 2 hts gX12_known_X5_sourceOn rfl rfl rfl (by decide +kernel) ⟨Nat.le_of_ble_eq_true rfl, Nat.le_of_ble_eq_true rfl⟩) ⟨jw_blind, va_recv hK hP (ci := 5) (q0 := 42) rfl rfl, fun U hU hW => ⟨rfl, jw_of hU hW hP hK hD⟩⟩ rfl rfl hl.1 rfl (lv_room (Nat.le_of_ble_eq_true rfl)) dX12_known_38 ⟨Nat.le_of_ble_eq_true rfl, Nat.le_of_ble_eq_true rfl⟩) hP hS hA (fun r_5 H locs hw_5 hP hS => ?_)
          have hw_5 : r_5 = (-1) := hw_5
          subst hw_5
          refine lv_goto (tgt := 45) hx hb dX12_known_41 (by decide) ?_
          exact W.iret (v := (-1)) hx hb hr (fun t ht hW => ⟨⟨(-1), (), rfl, rfl, trivial⟩, hS.F ht⟩) hS.2.2 dX12_known_45
      · refine lv_aload_n hx hb dX12_known_17 rfl (lv_at hl 0 rfl) ?_
        refine va_get (D := (dC, dI)) (ci := 12) (v := .ref (ad 42)) (C := RX12) (T := TX12) (N := 20) hx hb hts hin_X12_known_RX12 hown hK hP 0 rfl rfl 14 (by decide) (hts (.fieldLink RX12 66 "BookOfAll" "news" "LBookOfAll$News;") (by decide +kernel)) (fun _ h9 => h9) rfl dX12_known_18 ?_
        refine lv_iload_n hx hb dX12_known_21 rfl (lv_at hl 1 rfl) ?_
        refine lv_iload_n hx hb dX12_known_22 rfl (lv_at hl 2 rfl) ?_
        refine jc_i (va_runV (As := [.int p1, .int p2]) (rest := []) ⟨hx, hb, hml, hown, hts⟩ (kX5_valueOn_3 l dC dI _ ad ca p1 p2) (cwV 2 hts gX12_known_X5_valueOn rfl rfl rfl (by decide +kernel) ⟨Nat.le_of_ble_eq_true rfl, Nat.le_of_ble_eq_true rfl⟩) ⟨jw_blind, va_recv hK hP (ci := 5) (q0 := 42) rfl rfl, fun U hU hW => ⟨rfl, jw_of hU hW hP hK hD⟩⟩ rfl rfl hl.1 rfl (lv_room (Nat.le_of_ble_eq_true rfl)) dX12_known_23 ⟨Nat.le_of_ble_eq_true rfl, Nat.le_of_ble_eq_true rfl⟩) hP hS hA (fun r_6 H locs hw_6 hP hS => ?_)
        have hw_6 : r_6 = (-1) := hw_6
        subst hw_6
        exact W.iret (v := (-1)) hx hb hr (fun t ht hW => ⟨⟨(-1), (), rfl, rfl, trivial⟩, hS.F ht⟩) hS.2.2 dX12_known_26
    · refine lv_iconst (v := (-1)) hx hb dX12_known_11 (by decide) ?_
      exact W.iret (v := (-1)) hx hb hr (fun t ht hW => ⟨⟨(-1), (), rfl, rfl, trivial⟩, hS.F ht⟩) hS.2.2 dX12_known_12
set_option maxHeartbeats 4000000 in
set_option maxRecDepth 100000 in
theorem kX12_handAt_2 (l : Launch) (dC : Nat → ClassId) (dI : Nat → Nat → Nat) (sz : Nat) (ad : Nat → Nat) (ca : Nat → ClassId) (p1 : Int32) : Met l yX12_handAt wsX12_handAt ({ frames := 0, cells := 0, slots := 0, locals := 0 }) (va_Pc [.ref (ad 0), .int p1] (jw_P (dC, dI) (xW ad ca) (xT ca) sz)) (va_Qq (fun (r : Option Nat) (_ : Unit) => (r = none)) (fun _ _ => True) (va_A [] sz)) 0 0 (va_A [] sz) := by
  refine Met.ofW (cc := cX12_handAt) (maxL := 2) (ret := (some (.object "BookOfAll$Hand"))) (by decide) rfl ?_
  intro p e s m args below meth c s₁ B hml hv
  obtain ⟨rfl, hsz, hP, hK, hD0⟩ := hv
  have hx := B.exec
  have hb := B.bytes
  have hr := B.returns
  have hts := atoms_spec (ws := wsX12_handAt) B.pre
  have hown : s.vm.findClass RX12 = some m.cls := findClass_of_methodNamed B.named
  have hlocks := B.notSynchronized
  subst hsz
  have hD := hD0
  generalize hAe : (va_A [] s.heap.size) = A
  have hA : ∀ q : Nat, s.heap.size ≤ q → A q := fun q h => by rw [← hAe]; exact Or.inr h
  have hS : va_S A s.heap s.heap [] := va_S.rf
  have hP : va_P (dC, dI) vwCl (xW ad ca) s.heap := hP
  have hl := lv_entry ([.ref (ad 0), .int p1]) (n := 2) (Nat.le_of_ble_eq_true rfl)
  rw [lg_entry_eq]
  generalize (lg_sl ([.ref (ad 0), .int p1]) ++ List.replicate (2 - (lg_sl ([.ref (ad 0), .int p1])).length) Slot.unset).toArray = ls at hl ⊢
  have hl : lv_has ls 2 [(0, .ref (ad 0)), (1, .int p1)] := hl
  refine lv_iload_n hx hb dX12_handAt_0 rfl (lv_at hl 1 rfl) ?_
  refine lv_if_lt (tgt := 27) hx hb dX12_handAt_1 (by decide) (fun c_1 => ?_) (fun c_1 => ?_)
  · refine lv_null hx hb dX12_handAt_27 ?_
    exact W.aret (v := .null) hx hb hr (Or.inl ⟨_, rfl⟩) (Or.inl rfl) (fun t ht hW => ⟨⟨none, (), rfl, rfl, trivial⟩, hS.F ht⟩) hS.2.2 dX12_handAt_28
  · refine lv_iload_n hx hb dX12_handAt_4 rfl (lv_at hl 1 rfl) ?_
    refine lv_aload_n hx hb dX12_handAt_5 rfl (lv_at hl 0 rfl) ?_
    refine va_get (D := (dC, dI)) (ci := 12) (v := .int 0) (C := RX12) (T := TX12) (N := 20) hx hb hts hin_X12_handAt_RX12 hown hK hP 0 rfl rfl 11 (by decide) (hts (.fieldLink RX12 292 "BookOfAll" "handCount" "I") (by decide +kernel)) (fun _ h9 => h9) rfl dX12_handAt_6 ?_
    refine lv_icmp_ge (tgt := 27) hx hb dX12_handAt_9 (by decide) (fun _ => ?_) (fun z => absurd (jb_ge (jl_nlt c_1) (by decide)) z)
    refine lv_null hx hb dX12_handAt_27 ?_
    exact W.aret (v := .null) hx hb hr (Or.inl ⟨_, rfl⟩) (Or.inl rfl) (fun t ht hW => ⟨⟨none, (), rfl, rfl, trivial⟩, hS.F ht⟩) hS.2.2 dX12_handAt_28
set_option maxHeartbeats 4000000 in
set_option maxRecDepth 100000 in
theorem kX12_countOfHand_2 (l : Launch) (dC : Nat → ClassId) (dI : Nat → Nat → Nat) (sz : Nat) (ad : Nat → Nat) (ca : Nat → ClassId) (p1 : Int32) : Met l yX12_countOfHand wsX12_countOfHand ({ frames := 1, cells := 0, slots := 0, locals := 21 }) (va_Pc [.ref (ad 0), .int p1] (jw_P (dC, dI) (xW ad ca) (xT ca) sz)) (va_Qi (fun (r : Int32) (_ : Unit) => (p1 < 10 ∧ r = (-1)) ∨ (¬ (p1 < 10) ∧ 22 ≤ p1 ∧ p1 < 30 ∧ r = (-1)) ∨ (¬ (p1 < 10) ∧ 22 ≤ p1 ∧ ¬ (p1 < 30) ∧ 42 ≤ p1 ∧ r = (-1)) ∨ (¬ (p1 < 10) ∧ 22 ≤ p1 ∧ ¬ (p1 < 30) ∧ ¬ (42 ≤ p1) ∧ r = (-1)) ∨ (¬ (p1 < 10) ∧ ¬ (22 ≤ p1) ∧ r = (-1))) (fun _ _ => True) (va_A [] sz)) 0 0 (va_A [] sz) := by
  refine Met.ofW (cc := cX12_countOfHand) (maxL := 5) (ret := (some .int)) (by decide) rfl ?_
  intro p e s m args below meth c s₁ B hml hv
  obtain ⟨rfl, hsz, hP, hK, hD0⟩ := hv
  have hx := B.exec
  have hb := B.bytes
  have hr := B.returns
  have hts := atoms_spec (ws := wsX12_countOfHand) B.pre
  have hown : s.vm.findClass RX12 = some m.cls := findClass_of_methodNamed B.named
  have hlocks := B.notSynchronized
  subst hsz
  have hD := hD0
  generalize hAe : (va_A [] s.heap.size) = A
  have hA : ∀ q : Nat, s.heap.size ≤ q → A q := fun q h => by rw [← hAe]; exact Or.inr h
  have hS : va_S A s.heap s.heap [] := va_S.rf
  have hP : va_P (dC, dI) vwCl (xW ad ca) s.heap := hP
  have hl := lv_entry ([.ref (ad 0), .int p1]) (n := 5) (Nat.le_of_ble_eq_true rfl)
  rw [lg_entry_eq]
  generalize (lg_sl ([.ref (ad 0), .int p1]) ++ List.replicate (5 - (lg_sl ([.ref (ad 0), .int p1])).length) Slot.unset).toArray = ls at hl ⊢
  have hl : lv_has ls 5 [(0, .ref (ad 0)), (1, .int p1)] := hl
  refine lv_iload_n hx hb dX12_countOfHand_0 rfl (lv_at hl 1 rfl) ?_
  refine lv_bipush (v := 10) hx hb dX12_countOfHand_1 (by decide) ?_
  refine lv_icmp_lt (tgt := 16) hx hb dX12_countOfHand_3 (by decide) (fun c_1 => ?_) (fun c_1 => ?_)
  · refine lv_iconst (v := 0) hx hb dX12_countOfHand_16 (by decide) ?_
    refine lv_istore_n (lv' := [(2, .int 0), (0, .ref (ad 0)), (1, .int p1)]) hx hb dX12_countOfHand_17 rfl hl (by decide) rfl (fun ls hl => ?_)
    refine lv_iload_n hx hb dX12_countOfHand_18 rfl (lv_at hl 2 rfl) ?_
    refine lv_bipush (v := 30) hx hb dX12_countOfHand_19 (by decide) ?_
    refine lv_icmp_lt (tgt := 34) hx hb dX12_countOfHand_21 (by decide) (fun _ => ?_) (fun z => absurd (jb_lt (jl_lt (d := 9) c_1 (by decide)) (by decide)) z)
    refine lv_iconst (v := 0) hx hb dX12_countOfHand_34 (by decide) ?_
    refine lv_istore_n (lv' := [(3, .int 0), (2, .int 0), (0, .ref (ad 0)), (1, .int p1)]) hx hb dX12_countOfHand_35 rfl hl (by decide) rfl (fun ls hl => ?_)
    refine lv_iload_n hx hb dX12_countOfHand_36 rfl (lv_at hl 1 rfl) ?_
    refine lv_if_ne (tgt := 46) hx hb dX12_countOfHand_37 (by decide) (fun z => absurd (by decide) z) (fun _ => ?_)
    refine lv_iload_n hx hb dX12_countOfHand_40 rfl (lv_at hl 0 rfl) ?_
    refine lv_if_ne (tgt := 46) hx hb dX12_countOfHand_41 (by decide) (fun z => absurd (by decide) z) (fun _ => ?_)
    refine lv_iconst (v := (-1)) hx hb dX12_countOfHand_44 (by decide) ?_
    exact W.iret (v := (-1)) hx hb hr (fun t ht hW => ⟨⟨(-1), (), rfl, (Or.inl ⟨c_1, rfl⟩), trivial⟩, hS.F ht⟩) hS.2.2 dX12_countOfHand_45
  · refine lv_iload_n hx hb dX12_countOfHand_6 rfl (lv_at hl 1 rfl) ?_
    refine lv_bipush (v := 22) hx hb dX12_countOfHand_7 (by decide) ?_
    refine lv_icmp_ge (tgt := 16) hx hb dX12_countOfHand_9 (by decide) (fun c_2 => ?_) (fun c_2 => ?_)
    · refine lv_iconst (v := 0) hx hb dX12_countOfHand_16 (by decide) ?_
      refine lv_istore_n (lv' := [(2, .int 0), (0, .ref (ad 0)), (1, .int p1)]) hx hb dX12_countOfHand_17 rfl hl (by decide) rfl (fun ls hl => ?_)
      refine lv_iload_n hx hb dX12_countOfHand_18 rfl (lv_at hl 2 rfl) ?_
      refine lv_bipush (v := 30) hx hb dX12_countOfHand_19 (by decide) ?_
      refine lv_icmp_lt (tgt := 34) hx hb dX12_countOfHand_21 (by decide) (fun c_3 => ?_) (fun c_3 => ?_)
      · refine lv_iconst (v := 0) hx hb dX12_countOfHand_34 (by decide) ?_
        refine lv_istore_n (lv' := [(3, .int 0), (2, .int 0), (0, .ref (ad 0)), (1, .int p1)]) hx hb dX12_countOfHand_35 rfl hl (by decide) rfl (fun ls hl => ?_)
        refine lv_iload_n hx hb dX12_countOfHand_36 rfl (lv_at hl 1 rfl) ?_
        refine lv_if_ne (tgt := 46) hx hb dX12_countOfHand_37 (by decide) (fun z => absurd (by decide) z) (fun _ => ?_)
        refine lv_iload_n hx hb dX12_countOfHand_40 rfl (lv_at hl 0 rfl) ?_
        refine lv_if_ne (tgt := 46) hx hb dX12_countOfHand_41 (by decide) (fun z => absurd (by decide) z) (fun _ => ?_)
        refine lv_iconst (v := (-1)) hx hb dX12_countOfHand_44 (by decide) ?_
        exact W.iret (v := (-1)) hx hb hr (fun t ht hW => ⟨⟨(-1), (), rfl, (Or.inr (Or.inl ⟨c_1, c_2, c_3, rfl⟩)), trivial⟩, hS.F ht⟩) hS.2.2 dX12_countOfHand_45
      · refine lv_iload_n hx hb dX12_countOfHand_24 rfl (lv_at hl 2 rfl) ?_
        refine lv_bipush (v := 42) hx hb dX12_countOfHand_25 (by decide) ?_
        refine lv_icmp_ge (tgt := 34) hx hb dX12_countOfHand_27 (by decide) (fun c_4 => ?_) (fun c_4 => ?_)
        · refine lv_iconst (v := 0) hx hb dX12_countOfHand_34 (by decide) ?_
          refine lv_istore_n (lv' := [(3, .int 0), (2, .int 0), (0, .ref (ad 0)), (1, .int p1)]) hx hb dX12_countOfHand_35 rfl hl (by decide) rfl (fun ls hl => ?_)
          refine lv_iload_n hx hb dX12_countOfHand_36 rfl (lv_at hl 1 rfl) ?_
          refine lv_if_ne (tgt := 46) hx hb dX12_countOfHand_37 (by decide) (fun z => absurd (by decide) z) (fun _ => ?_)
          refine lv_iload_n hx hb dX12_countOfHand_40 rfl (lv_at hl 0 rfl) ?_
          refine lv_if_ne (tgt := 46) hx hb dX12_countOfHand_41 (by decide) (fun z => absurd (by decide) z) (fun _ => ?_)
          refine lv_iconst (v := (-1)) hx hb dX12_countOfHand_44 (by decide) ?_
          exact W.iret (v := (-1)) hx hb hr (fun t ht hW => ⟨⟨(-1), (), rfl, (Or.inr (Or.inr (Or.inl ⟨c_1, c_2, c_3, c_4, rfl⟩))), trivial⟩, hS.F ht⟩) hS.2.2 dX12_countOfHand_45
        · refine lv_iconst (v := 1) hx hb dX12_countOfHand_30 (by decide) ?_
          refine lv_goto (tgt := 35) hx hb dX12_countOfHand_31 (by decide) ?_
          refine lv_istore_n (lv' := [(3, .int 1), (2, .int 0), (0, .ref (ad 0)), (1, .int p1)]) hx hb dX12_countOfHand_35 rfl hl (by decide) rfl (fun ls hl => ?_)
          refine lv_iload_n hx hb dX12_countOfHand_36 rfl (lv_at hl 1 rfl) ?_
          refine lv_if_ne (tgt := 46) hx hb dX12_countOfHand_37 (by decide) (fun z => absurd (by decide) z) (fun _ => ?_)
          refine lv_iload_n hx hb dX12_countOfHand_40 rfl (lv_at hl 0 rfl) ?_
          refine lv_if_ne (tgt := 46) hx hb dX12_countOfHand_41 (by decide) (fun _ => ?_) (fun z => absurd z (by decide))
          refine lv_aload_n hx hb dX12_countOfHand_46 rfl (lv_at hl 2 rfl) ?_
          refine lv_iload_n hx hb dX12_countOfHand_47 rfl (lv_at hl 1 rfl) ?_
          refine lv_if_eq (tgt := 58) hx hb dX12_countOfHand_48 (by decide) (fun _ => ?_) (fun z => absurd (by decide) z)
          refine lv_iload_n hx hb dX12_countOfHand_58 rfl (lv_at hl 3 rfl) ?_
          refine lv_bipush (v := 30) hx hb dX12_countOfHand_59 (by decide) ?_
          refine lv_isub hx hb dX12_countOfHand_61 ?_
          refine jc_q (va_runV (As := [.int (p1 - 30)]) (rest := []) ⟨hx, hb, hml, hown, hts⟩ (kX12_handAt_2 l dC dI _ ad ca (p1 - 30)) (cwV 1 hts gX12_countOfHand_X12_handAt rfl rfl rfl (by decide +kernel) ⟨Nat.le_of_ble_eq_true rfl, Nat.le_of_ble_eq_true rfl⟩) ⟨jw_blind, va_recv hK hP (ci := 12) (q0 := 0) rfl rfl, fun U hU hW => ⟨rfl, jw_of hU hW hP hK hD⟩⟩ rfl rfl hl.1 rfl (lv_room (Nat.le_of_ble_eq_true rfl)) dX12_countOfHand_62 ⟨Nat.le_of_ble_eq_true rfl, Nat.le_of_ble_eq_true rfl⟩) hP hS hA (fun r_5 H locs hw_5 hP hS => ?_)
          have hw_5 : r_5 = none := hw_5
          subst hw_5
          refine jt_q Value.null rfl ?_
          refine lv_astoreN (lv' := [(4, .null), (3, .int 1), (2, .int 0), (0, .ref (ad 0)), (1, .int p1)]) hx hb dX12_countOfHand_65 hl (by decide) rfl (fun ls hl => ?_)
          refine lv_aloadN hx hb dX12_countOfHand_67 (lv_at hl 0 rfl) ?_
          refine lv_ifnonnullN hx hb dX12_countOfHand_69 ?_
          refine lv_iconst (v := (-1)) hx hb dX12_countOfHand_72 (by decide) ?_
          exact W.iret (v := (-1)) hx hb hr (fun t ht hW => ⟨⟨(-1), (), rfl, (Or.inr (Or.inr (Or.inr (Or.inl ⟨c_1, c_2, c_3, c_4, rfl⟩)))), trivial⟩, hS.F ht⟩) hS.2.2 dX12_countOfHand_73
    · refine lv_iconst (v := 1) hx hb dX12_countOfHand_12 (by decide) ?_
      refine lv_goto (tgt := 17) hx hb dX12_countOfHand_13 (by decide) ?_
      refine lv_istore_n (lv' := [(2, .int 1), (0, .ref (ad 0)), (1, .int p1)]) hx hb dX12_countOfHand_17 rfl hl (by decide) rfl (fun ls hl => ?_)
      refine lv_iload_n hx hb dX12_countOfHand_18 rfl (lv_at hl 2 rfl) ?_
      refine lv_bipush (v := 30) hx hb dX12_countOfHand_19 (by decide) ?_
      refine lv_icmp_lt (tgt := 34) hx hb dX12_countOfHand_21 (by decide) (fun _ => ?_) (fun z => absurd (jb_lt (jl_nge (d := 21) c_2 (by decide)) (by decide)) z)
      refine lv_iconst (v := 0) hx hb dX12_countOfHand_34 (by decide) ?_
      refine lv_istore_n (lv' := [(3, .int 0), (2, .int 1), (0, .ref (ad 0)), (1, .int p1)]) hx hb dX12_countOfHand_35 rfl hl (by decide) rfl (fun ls hl => ?_)
      refine lv_iload_n hx hb dX12_countOfHand_36 rfl (lv_at hl 1 rfl) ?_
      refine lv_if_ne (tgt := 46) hx hb dX12_countOfHand_37 (by decide) (fun _ => ?_) (fun z => absurd z (by decide))
      refine lv_aload_n hx hb dX12_countOfHand_46 rfl (lv_at hl 2 rfl) ?_
      refine lv_iload_n hx hb dX12_countOfHand_47 rfl (lv_at hl 1 rfl) ?_
      refine lv_if_eq (tgt := 58) hx hb dX12_countOfHand_48 (by decide) (fun z => absurd z (by decide)) (fun _ => ?_)
      refine lv_iload_n hx hb dX12_countOfHand_51 rfl (lv_at hl 3 rfl) ?_
      refine lv_bipush (v := 10) hx hb dX12_countOfHand_52 (by decide) ?_
      refine lv_isub hx hb dX12_countOfHand_54 ?_
      refine lv_goto (tgt := 62) hx hb dX12_countOfHand_55 (by decide) ?_
      refine jc_q (va_runV (As := [.int (p1 - 10)]) (rest := []) ⟨hx, hb, hml, hown, hts⟩ (kX12_handAt_2 l dC dI _ ad ca (p1 - 10)) (cwV 1 hts gX12_countOfHand_X12_handAt rfl rfl rfl (by decide +kernel) ⟨Nat.le_of_ble_eq_true rfl, Nat.le_of_ble_eq_true rfl⟩) ⟨jw_blind, va_recv hK hP (ci := 12) (q0 := 0) rfl rfl, fun U hU hW => ⟨rfl, jw_of hU hW hP hK hD⟩⟩ rfl rfl hl.1 rfl (lv_room (Nat.le_of_ble_eq_true rfl)) dX12_countOfHand_62 ⟨Nat.le_of_ble_eq_true rfl, Nat.le_of_ble_eq_true rfl⟩) hP hS hA (fun r_6 H locs hw_6 hP hS => ?_)
      have hw_6 : r_6 = none := hw_6
      subst hw_6
      refine jt_q Value.null rfl ?_
      refine lv_astoreN (lv' := [(4, .null), (3, .int 0), (2, .int 1), (0, .ref (ad 0)), (1, .int p1)]) hx hb dX12_countOfHand_65 hl (by decide) rfl (fun ls hl => ?_)
      refine lv_aloadN hx hb dX12_countOfHand_67 (lv_at hl 0 rfl) ?_
      refine lv_ifnonnullN hx hb dX12_countOfHand_69 ?_
      refine lv_iconst (v := (-1)) hx hb dX12_countOfHand_72 (by decide) ?_
      exact W.iret (v := (-1)) hx hb hr (fun t ht hW => ⟨⟨(-1), (), rfl, (Or.inr (Or.inr (Or.inr (Or.inr ⟨c_1, c_2, rfl⟩)))), trivial⟩, hS.F ht⟩) hS.2.2 dX12_countOfHand_73
set_option maxHeartbeats 4000000 in
set_option maxRecDepth 100000 in
theorem kX12_payOfAll_2 (l : Launch) (dC : Nat → ClassId) (dI : Nat → Nat → Nat) (sz : Nat) (ad : Nat → Nat) (ca : Nat → ClassId) : Met l yX12_payOfAll wsX12_payOfAll ({ frames := 0, cells := 0, slots := 0, locals := 0 }) (va_Pc [.ref (ad 0)] (jw_P (dC, dI) (xW ad ca) (xT ca) sz)) (va_Qi (fun (r : Int32) (_ : Unit) => (r = 0)) (fun _ _ => True) (va_A [] sz)) 0 0 (va_A [] sz) := by
  refine Met.ofW (cc := cX12_payOfAll) (maxL := 4) (ret := (some .int)) (by decide) rfl ?_
  intro p e s m args below meth c s₁ B hml hv
  obtain ⟨rfl, hsz, hP, hK, hD0⟩ := hv
  have hx := B.exec
  have hb := B.bytes
  have hr := B.returns
  have hts := atoms_spec (ws := wsX12_payOfAll) B.pre
  have hown : s.vm.findClass RX12 = some m.cls := findClass_of_methodNamed B.named
  have hlocks := B.notSynchronized
  subst hsz
  have hD := hD0
  generalize hAe : (va_A [] s.heap.size) = A
  have hA : ∀ q : Nat, s.heap.size ≤ q → A q := fun q h => by rw [← hAe]; exact Or.inr h
  have hS : va_S A s.heap s.heap [] := va_S.rf
  have hP : va_P (dC, dI) vwCl (xW ad ca) s.heap := hP
  have hl := lv_entry ([.ref (ad 0)]) (n := 4) (Nat.le_of_ble_eq_true rfl)
  rw [lg_entry_eq]
  generalize (lg_sl ([.ref (ad 0)]) ++ List.replicate (4 - (lg_sl ([.ref (ad 0)])).length) Slot.unset).toArray = ls at hl ⊢
  have hl : lv_has ls 4 [(0, .ref (ad 0))] := hl
  refine lv_iconst (v := 0) hx hb dX12_payOfAll_0 (by decide) ?_
  refine lv_istore_n (lv' := [(1, .int 0), (0, .ref (ad 0))]) hx hb dX12_payOfAll_1 rfl hl (by decide) rfl (fun ls hl => ?_)
  refine lv_iconst (v := 0) hx hb dX12_payOfAll_2 (by decide) ?_
  refine lv_istore_n (lv' := [(2, .int 0), (1, .int 0), (0, .ref (ad 0))]) hx hb dX12_payOfAll_3 rfl hl (by decide) rfl (fun ls hl => ?_)
  refine lv_iload_n hx hb dX12_payOfAll_4 rfl (lv_at hl 0 rfl) ?_
  refine lv_aload_n hx hb dX12_payOfAll_5 rfl (lv_at hl 2 rfl) ?_
  refine va_get (D := (dC, dI)) (ci := 12) (v := .int 0) (C := RX12) (T := TX12) (N := 20) hx hb hts hin_X12_payOfAll_RX12 hown hK hP 0 rfl rfl 11 (by decide) (hts (.fieldLink RX12 292 "BookOfAll" "handCount" "I") (by decide +kernel)) (fun _ h9 => h9) rfl dX12_payOfAll_6 ?_
  refine lv_icmp_ge (tgt := 39) hx hb dX12_payOfAll_9 (by decide) (fun _ => ?_) (fun z => absurd (by decide) z)
  refine lv_iload_n hx hb dX12_payOfAll_39 rfl (lv_at hl 1 rfl) ?_
  exact W.iret (v := 0) hx hb hr (fun t ht hW => ⟨⟨0, (), rfl, rfl, trivial⟩, hS.F ht⟩) hS.2.2 dX12_payOfAll_40
theorem s_tX12_count_0 {p1 : Int32} (c_1 : (p1.toInt < 0 ∨ 8 < p1.toInt)) (c_3 : p1 < 10) : (-1) = sp_count p1 := by
  unfold sp_count
  have g0 := c_1
  have g1 : p1.toInt < 10 := ji_lt.mp c_3
  split <;> first | rfl | (exfalso; omega)
theorem s_tX12_count_1 {p1 : Int32} (c_1 : (p1.toInt < 0 ∨ 8 < p1.toInt)) (c_4 : ¬ (p1 < 10)) (c_5 : 22 ≤ p1) (c_6 : p1 < 30) : (-1) = sp_count p1 := by
  unfold sp_count
  have g0 := c_1
  have g1 : ¬ (p1.toInt < 10) := fun z => c_4 (ji_lt.mpr z)
  have g2 : 22 ≤ p1.toInt := ji_le.mp c_5
  have g3 : p1.toInt < 30 := ji_lt.mp c_6
  split <;> first | rfl | (exfalso; omega)
theorem s_tX12_count_2 {p1 : Int32} (c_1 : (p1.toInt < 0 ∨ 8 < p1.toInt)) (c_7 : ¬ (p1 < 10)) (c_8 : 22 ≤ p1) (c_9 : ¬ (p1 < 30)) (c_10 : 42 ≤ p1) : (-1) = sp_count p1 := by
  unfold sp_count
  have g0 := c_1
  have g1 : ¬ (p1.toInt < 10) := fun z => c_7 (ji_lt.mpr z)
  have g2 : 22 ≤ p1.toInt := ji_le.mp c_8
  have g3 : ¬ (p1.toInt < 30) := fun z => c_9 (ji_lt.mpr z)
  have g4 : 42 ≤ p1.toInt := ji_le.mp c_10
  split <;> first | rfl | (exfalso; omega)
theorem s_tX12_count_3 {p1 : Int32} (c_1 : (p1.toInt < 0 ∨ 8 < p1.toInt)) (c_11 : ¬ (p1 < 10)) (c_12 : 22 ≤ p1) (c_13 : ¬ (p1 < 30)) (c_14 : ¬ (42 ≤ p1)) : (-1) = sp_count p1 := by
  unfold sp_count
  have g0 := c_1
  have g1 : ¬ (p1.toInt < 10) := fun z => c_11 (ji_lt.mpr z)
  have g2 : 22 ≤ p1.toInt := ji_le.mp c_12
  have g3 : ¬ (p1.toInt < 30) := fun z => c_13 (ji_lt.mpr z)
  have g4 : ¬ (42 ≤ p1.toInt) := fun z => c_14 (ji_le.mpr z)
  split <;> first | rfl | (exfalso; omega)
theorem s_tX12_count_4 {p1 : Int32} (c_1 : (p1.toInt < 0 ∨ 8 < p1.toInt)) (c_15 : ¬ (p1 < 10)) (c_16 : ¬ (22 ≤ p1)) : (-1) = sp_count p1 := by
  unfold sp_count
  have g0 := c_1
  have g1 : ¬ (p1.toInt < 10) := fun z => c_15 (ji_lt.mpr z)
  have g2 : ¬ (22 ≤ p1.toInt) := fun z => c_16 (ji_le.mpr z)
  split <;> first | rfl | (exfalso; omega)
theorem s_tX12_count_5 {p1 : Int32} (c_1 : p1 = 0) : 0 = sp_count p1 := by
  unfold sp_count
  have g0 : p1.toInt = 0 := ji_eq.mp c_1
  split <;> first | rfl | (exfalso; omega)
theorem s_tX12_count_6 {p1 : Int32} (c_1 : p1 = 1) : 0 = sp_count p1 := by
  unfold sp_count
  have g0 : p1.toInt = 1 := ji_eq.mp c_1
  split <;> first | rfl | (exfalso; omega)
theorem s_tX12_count_7 {p1 : Int32} (c_1 : p1 = 2) : 0 = sp_count p1 := by
  unfold sp_count
  have g0 : p1.toInt = 2 := ji_eq.mp c_1
  split <;> first | rfl | (exfalso; omega)
theorem s_tX12_count_8 {p1 : Int32} (c_1 : p1 = 3) : 0 = sp_count p1 := by
  unfold sp_count
  have g0 : p1.toInt = 3 := ji_eq.mp c_1
  split <;> first | rfl | (exfalso; omega)
theorem s_tX12_count_9 {p1 : Int32} (c_1 : p1 = 4) : 0 = sp_count p1 := by
  unfold sp_count
  have g0 : p1.toInt = 4 := ji_eq.mp c_1
  split <;> first | rfl | (exfalso; omega)
theorem s_tX12_count_10 {p1 : Int32} (c_1 : p1 = 5) : 0 = sp_count p1 := by
  unfold sp_count
  have g0 : p1.toInt = 5 := ji_eq.mp c_1
  split <;> first | rfl | (exfalso; omega)
theorem s_tX12_count_11 {p1 : Int32} (c_1 : p1 = 6) : 0 = sp_count p1 := by
  unfold sp_count
  have g0 : p1.toInt = 6 := ji_eq.mp c_1
  split <;> first | rfl | (exfalso; omega)
theorem s_tX12_count_12 {p1 : Int32} (c_1 : p1 = 7) : 0 = sp_count p1 := by
  unfold sp_count
  have g0 : p1.toInt = 7 := ji_eq.mp c_1
  split <;> first | rfl | (exfalso; omega)
theorem s_tX12_count_13 {p1 : Int32} (c_1 : p1 = 8) : 0 = sp_count p1 := by
  unfold sp_count
  have g0 : p1.toInt = 8 := ji_eq.mp c_1
  split <;> first | rfl | (exfalso; omega)
set_option maxHeartbeats 4000000 in
set_option maxRecDepth 100000 in
theorem tX12_count (l : Launch) (dC : Nat → ClassId) (dI : Nat → Nat → Nat) (sz : Nat) (ad : Nat → Nat) (ca : Nat → ClassId) (p1 : Int32) : Met l yX12_count wsX12_count ({ frames := 2, cells := 0, slots := 0, locals := 45 }) (va_Pc [.ref (ad 0), .int p1] (jw_P (dC, dI) (xW ad ca) (xT ca) sz)) (va_Qi (fun (r : Int32) (_ : Unit) => r = sp_count p1) (fun _ _ => True) (va_A [] sz)) 0 0 (va_A [] sz) := by
  refine Met.ofW (cc := cX12_count) (maxL := 2) (ret := (some .int)) (by decide) rfl ?_
  intro p e s m args below meth c s₁ B hml hv
  obtain ⟨rfl, hsz, hP, hK, hD0⟩ := hv
  have hx := B.exec
  have hb := B.bytes
  have hr := B.returns
  have hts := atoms_spec (ws := wsX12_count) B.pre
  have hown : s.vm.findClass RX12 = some m.cls := findClass_of_methodNamed B.named
  have hlocks := B.notSynchronized
  subst hsz
  have hD := hD0
  generalize hAe : (va_A [] s.heap.size) = A
  have hA : ∀ q : Nat, s.heap.size ≤ q → A q := fun q h => by rw [← hAe]; exact Or.inr h
  have hS : va_S A s.heap s.heap [] := va_S.rf
  have hP : va_P (dC, dI) vwCl (xW ad ca) s.heap := hP
  have hl := lv_entry ([.ref (ad 0), .int p1]) (n := 2) (Nat.le_of_ble_eq_true rfl)
  rw [lg_entry_eq]
  generalize (lg_sl ([.ref (ad 0), .int p1]) ++ List.replicate (2 - (lg_sl ([.ref (ad 0), .int p1])).length) Slot.unset).toArray = ls at hl ⊢
  have hl : lv_has ls 2 [(0, .ref (ad 0)), (1, .int p1)] := hl
  refine lv_iload_n hx hb dX12_count_0 rfl (lv_at hl 1 rfl) ?_
  rcases jsw_0_8 p1 with c_1 | c_1 | c_1 | c_1 | c_1 | c_1 | c_1 | c_1 | c_1 | c_1
  · refine lv_tableOut (tgt := 106) hx hb dX12_count_1 c_1 (by decide) ?_
    refine lv_aload_n hx hb dX12_count_106 rfl (lv_at hl 0 rfl) ?_
    refine lv_iload_n hx hb dX12_count_107 rfl (lv_at hl 1 rfl) ?_
    refine jc_i (va_runV (As := [.int p1]) (rest := []) ⟨hx, hb, hml, hown, hts⟩ (kX12_countOfHand_2 l dC dI _ ad ca p1) (cwV 1 hts gX12_count_X12_countOfHand rfl rfl rfl (by decide +kernel) ⟨Nat.le_of_ble_eq_true rfl, Nat.le_of_ble_eq_true rfl⟩) ⟨jw_blind, va_recv hK hP (ci := 12) (q0 := 0) rfl rfl, fun U hU hW => ⟨rfl, jw_of hU hW hP hK hD⟩⟩ rfl rfl hl.1 rfl (lv_room (Nat.le_of_ble_eq_true rfl)) dX12_count_108 ⟨Nat.le_of_ble_eq_true rfl, Nat.le_of_ble_eq_true rfl⟩) hP hS hA (fun r_2 H locs hw_2 hP hS => ?_)
    rcases (show (p1 < 10 ∧ r_2 = (-1)) ∨ (¬ (p1 < 10) ∧ 22 ≤ p1 ∧ p1 < 30 ∧ r_2 = (-1)) ∨ (¬ (p1 < 10) ∧ 22 ≤ p1 ∧ ¬ (p1 < 30) ∧ 42 ≤ p1 ∧ r_2 = (-1)) ∨ (¬ (p1 < 10) ∧ 22 ≤ p1 ∧ ¬ (p1 < 30) ∧ ¬ (42 ≤ p1) ∧ r_2 = (-1)) ∨ (¬ (p1 < 10) ∧ ¬ (22 ≤ p1) ∧ r_2 = (-1)) from hw_2) with ⟨c_3, rfl⟩ | ⟨c_4, c_5, c_6, rfl⟩ | ⟨c_7, c_8, c_9, c_10, rfl⟩ | ⟨c_11, c_12, c_13, c_14, rfl⟩ | ⟨c_15, c_16, rfl⟩
    · exact W.iret (v := (-1)) hx hb hr (fun t ht hW => ⟨⟨(-1), (), rfl, (s_tX12_count_0 (p1 := p1) c_1 c_3), trivial⟩, hS.F ht⟩) hS.2.2 dX12_count_111
    · exact W.iret (v := (-1)) hx hb hr (fun t ht hW => ⟨⟨(-1), (), rfl, (s_tX12_count_1 (p1 := p1) c_1 c_4 c_5 c_6), trivial⟩, hS.F ht⟩) hS.2.2 dX12_count_111
    · exact W.iret (v := (-1)) hx hb hr (fun t ht hW => ⟨⟨(-1), (), rfl, (s_tX12_count_2 (p1 := p1) c_1 c_7 c_8 c_9 c_10), trivial⟩, hS.F ht⟩) hS.2.2 dX12_count_111
    · exact W.iret (v := (-1)) hx hb hr (fun t ht hW => ⟨⟨(-1), (), rfl, (s_tX12_count_3 (p1 := p1) c_1 c_11 c_12 c_13 c_14), trivial⟩, hS.F ht⟩) hS.2.2 dX12_count_111
    · exact W.iret (v := (-1)) hx hb hr (fun t ht hW => ⟨⟨(-1), (), rfl, (s_tX12_count_4 (p1 := p1) c_1 c_15 c_16), trivial⟩, hS.F ht⟩) hS.2.2 dX12_count_111
  · refine jtab_in (v := 0) (off := 51) (tgt := 52) hx hb dX12_count_1 c_1 (by decide) (by decide) (by decide) (by decide) ?_
    refine lv_aload_n hx hb dX12_count_52 rfl (lv_at hl 0 rfl) ?_
    refine va_get (D := (dC, dI)) (ci := 12) (v := .int 0) (C := RX12) (T := TX12) (N := 20) hx hb hts hin_X12_count_RX12 hown hK hP 0 rfl rfl 0 (by decide) (hts (.fieldLink RX12 133 "BookOfAll" "now" "I") (by decide +kernel)) (fun _ h9 => h9) rfl dX12_count_53 ?_
    exact W.iret (v := 0) hx hb hr (fun t ht hW => ⟨⟨0, (), rfl, (s_tX12_count_5 (p1 := p1) c_1), trivial⟩, hS.F ht⟩) hS.2.2 dX12_count_56
  · refine jtab_in (v := 1) (off := 56) (tgt := 57) hx hb dX12_count_1 c_1 (by decide) (by decide) (by decide) (by decide) ?_
    refine lv_aload_n hx hb dX12_count_57 rfl (lv_at hl 0 rfl) ?_
    refine va_get (D := (dC, dI)) (ci := 12) (v := .int 0) (C := RX12) (T := TX12) (N := 20) hx hb hts hin_X12_count_RX12 hown hK hP 0 rfl rfl 7 (by decide) (hts (.fieldLink RX12 203 "BookOfAll" "entryCount" "I") (by decide +kernel)) (fun _ h9 => h9) rfl dX12_count_58 ?_
    exact W.iret (v := 0) hx hb hr (fun t ht hW => ⟨⟨0, (), rfl, (s_tX12_count_6 (p1 := p1) c_1), trivial⟩, hS.F ht⟩) hS.2.2 dX12_count_61
  · refine jtab_in (v := 2) (off := 61) (tgt := 62) hx hb dX12_count_1 c_1 (by decide) (by decide) (by decide) (by decide) ?_
    refine lv_aload_n hx hb dX12_count_62 rfl (lv_at hl 0 rfl) ?_
    refine va_get (D := (dC, dI)) (ci := 12) (v := .int 0) (C := RX12) (T := TX12) (N := 20) hx hb hts hin_X12_count_RX12 hown hK hP 0 rfl rfl 11 (by decide) (hts (.fieldLink RX12 292 "BookOfAll" "handCount" "I") (by decide +kernel)) (fun _ h9 => h9) rfl dX12_count_63 ?_
    exact W.iret (v := 0) hx hb hr (fun t ht hW => ⟨⟨0, (), rfl, (s_tX12_count_7 (p1 := p1) c_1), trivial⟩, hS.F ht⟩) hS.2.2 dX12_count_66
  · refine jtab_in (v := 3) (off := 66) (tgt := 67) hx hb dX12_count_1 c_1 (by decide) (by decide) (by decide) (by decide) ?_
    refine lv_aload_n hx hb dX12_count_67 rfl (lv_at hl 0 rfl) ?_
    refine va_get (D := (dC, dI)) (ci := 12) (v := .int 0) (C := RX12) (T := TX12) (N := 20) hx hb hts hin_X12_count_RX12 hown hK hP 0 rfl rfl 13 (by decide) (hts (.fieldLink RX12 370 "BookOfAll" "lineCount" "I") (by decide +kernel)) (fun _ h9 => h9) rfl dX12_count_68 ?_
    exact W.iret (v := 0) hx hb hr (fun t ht hW => ⟨⟨0, (), rfl, (s_tX12_count_8 (p1 := p1) c_1), trivial⟩, hS.F ht⟩) hS.2.2 dX12_count_71
  · refine jtab_in (v := 4) (off := 71) (tgt := 72) hx hb dX12_count_1 c_1 (by decide) (by decide) (by decide) (by decide) ?_
    refine lv_aload_n hx hb dX12_count_72 rfl (lv_at hl 0 rfl) ?_
    refine va_get (D := (dC, dI)) (ci := 12) (v := .ref (ad 11)) (C := RX12) (T := TX12) (N := 20) hx hb hts hin_X12_count_RX12 hown hK hP 0 rfl rfl 3 (by decide) (hts (.fieldLink RX12 19 "BookOfAll" "rules" "LBookOfAll$Rules;") (by decide +kernel)) (fun _ h9 => h9) rfl dX12_count_73 ?_
    refine va_get (D := (dC, dI)) (ci := 8) (v := .int 0) (C := RX8) (T := TX8) (N := 8) hx hb hts hin_X12_count_RX8 hown hK hP 11 rfl rfl 1 (by decide) (hts (.fieldLink RX12 590 "BookOfAll$Rules" "sheetCount" "I") (by decide +kernel)) (fun _ h9 => h9) rfl dX12_count_76 ?_
    exact W.iret (v := 0) hx hb hr (fun t ht hW => ⟨⟨0, (), rfl, (s_tX12_count_9 (p1 := p1) c_1), trivial⟩, hS.F ht⟩) hS.2.2 dX12_count_79
  · refine jtab_in (v := 5) (off := 79) (tgt := 80) hx hb dX12_count_1 c_1 (by decide) (by decide) (by decide) (by decide) ?_
    refine lv_aload_n hx hb dX12_count_80 rfl (lv_at hl 0 rfl) ?_
    refine va_get (D := (dC, dI)) (ci := 12) (v := .ref (ad 42)) (C := RX12) (T := TX12) (N := 20) hx hb hts hin_X12_count_RX12 hown hK hP 0 rfl rfl 14 (by decide) (hts (.fieldLink RX12 66 "BookOfAll" "news" "LBookOfAll$News;") (by decide +kernel)) (fun _ h9 => h9) rfl dX12_count_81 ?_
    refine va_get (D := (dC, dI)) (ci := 5) (v := .int 0) (C := RX5) (T := TX5) (N := 12) hx hb hts hin_X12_count_RX5 hown hK hP 42 rfl rfl 11 (by decide) (hts (.fieldLink RX12 593 "BookOfAll$News" "errata" "I") (by decide +kernel)) (fun _ h9 => h9) rfl dX12_count_84 ?_
    exact W.iret (v := 0) hx hb hr (fun t ht hW => ⟨⟨0, (), rfl, (s_tX12_count_10 (p1 := p1) c_1), trivial⟩, hS.F ht⟩) hS.2.2 dX12_count_87
  · refine jtab_in (v := 6) (off := 87) (tgt := 88) hx hb dX12_count_1 c_1 (by decide) (by decide) (by decide) (by decide) ?_
    refine lv_aload_n hx hb dX12_count_88 rfl (lv_at hl 0 rfl) ?_
    refine va_get (D := (dC, dI)) (ci := 12) (v := .int 0) (C := RX12) (T := TX12) (N := 20) hx hb hts hin_X12_count_RX12 hown hK hP 0 rfl rfl 1 (by decide) (hts (.fieldLink RX12 158 "BookOfAll" "setBits" "I") (by decide +kernel)) (fun _ h9 => h9) rfl dX12_count_89 ?_
    exact W.iret (v := 0) hx hb hr (fun t ht hW => ⟨⟨0, (), rfl, (s_tX12_count_11 (p1 := p1) c_1), trivial⟩, hS.F ht⟩) hS.2.2 dX12_count_92
  · refine jtab_in (v := 7) (off := 92) (tgt := 93) hx hb dX12_count_1 c_1 (by decide) (by decide) (by decide) (by decide) ?_
    refine lv_aload_n hx hb dX12_count_93 rfl (lv_at hl 0 rfl) ?_
    refine va_get (D := (dC, dI)) (ci := 12) (v := .ref (ad 1)) (C := RX12) (T := TX12) (N := 20) hx hb hts hin_X12_count_RX12 hown hK hP 0 rfl rfl 2 (by decide) (hts (.fieldLink RX12 10 "BookOfAll" "reader" "LBookOfAll$Reader;") (by decide +kernel)) (fun _ h9 => h9) rfl dX12_count_94 ?_
    refine va_get (D := (dC, dI)) (ci := 7) (v := .int 0) (C := RX7) (T := TX7) (N := 15) hx hb hts hin_X12_count_RX7 hown hK hP 1 rfl rfl 1 (by decide) (hts (.fieldLink RX12 103 "BookOfAll$Reader" "size" "I") (by decide +kernel)) (fun _ h9 => h9) rfl dX12_count_97 ?_
    exact W.iret (v := 0) hx hb hr (fun t ht hW => ⟨⟨0, (), rfl, (s_tX12_count_12 (p1 := p1) c_1), trivial⟩, hS.F ht⟩) hS.2.2 dX12_count_100
  · refine jtab_in (v := 8) (off := 100) (tgt := 101) hx hb dX12_count_1 c_1 (by decide) (by decide) (by decide) (by decide) ?_
    refine lv_aload_n hx hb dX12_count_101 rfl (lv_at hl 0 rfl) ?_
    refine jc_i (va_runV (As := []) (rest := []) ⟨hx, hb, hml, hown, hts⟩ (kX12_payOfAll_2 l dC dI _ ad ca) (cwV 0 hts gX12_count_X12_payOfAll rfl rfl rfl (by decide +kernel) ⟨Nat.le_of_ble_eq_true rfl, Nat.le_of_ble_eq_true rfl⟩) ⟨jw_blind, va_recv hK hP (ci := 12) (q0 := 0) rfl rfl, fun U hU hW => ⟨rfl, jw_of hU hW hP hK hD⟩⟩ rfl rfl hl.1 rfl (lv_room (Nat.le_of_ble_eq_true rfl)) dX12_count_102 ⟨Nat.le_of_ble_eq_true rfl, Nat.le_of_ble_eq_true rfl⟩) hP hS hA (fun r_17 H locs hw_17 hP hS => ?_)
    have hw_17 : r_17 = 0 := hw_17
    subst hw_17
    exact W.iret (v := 0) hx hb hr (fun t ht hW => ⟨⟨0, (), rfl, (s_tX12_count_13 (p1 := p1) c_1), trivial⟩, hS.F ht⟩) hS.2.2 dX12_count_105
set_option maxHeartbeats 4000000 in
set_option maxRecDepth 100000 in
theorem kX7_byteAt_2 (l : Launch) (dC : Nat → ClassId) (dI : Nat → Nat → Nat) (sz : Nat) (ad : Nat → Nat) (ca : Nat → ClassId) : Met l yX7_byteAt wsX7_byteAt ({ frames := 0, cells := 0, slots := 0, locals := 0 }) (va_Pc [.ref (ad 1), .int 0] (jw_P (dC, dI) (xW ad ca) (xT ca) sz)) (va_Qi (fun (r : Int32) (_ : Unit) => (r = 0)) (fun _ _ => True) (va_A [] sz)) 0 0 (va_A [] sz) := by
  refine Met.ofW (cc := cX7_byteAt) (maxL := 2) (ret := (some .int)) (by decide) rfl ?_
  intro p e s m args below meth c s₁ B hml hv
  obtain ⟨rfl, hsz, hP, hK, hD0⟩ := hv
  have hx := B.exec
  have hb := B.bytes
  have hr := B.returns
  have hts := atoms_spec (ws := wsX7_byteAt) B.pre
  have hown : s.vm.findClass RX7 = some m.cls := findClass_of_methodNamed B.named
  have hlocks := B.notSynchronized
  subst hsz
  have hD := hD0
  generalize hAe : (va_A [] s.heap.size) = A
  have hA : ∀ q : Nat, s.heap.size ≤ q → A q := fun q h => by rw [← hAe]; exact Or.inr h
  have hS : va_S A s.heap s.heap [] := va_S.rf
  have hP : va_P (dC, dI) vwCl (xW ad ca) s.heap := hP
  have hl := lv_entry ([.ref (ad 1), .int 0]) (n := 2) (Nat.le_of_ble_eq_true rfl)
  rw [lg_entry_eq]
  generalize (lg_sl ([.ref (ad 1), .int 0]) ++ List.replicate (2 - (lg_sl ([.ref (ad 1), .int 0])).length) Slot.unset).toArray = ls at hl ⊢
  have hl : lv_has ls 2 [(0, .ref (ad 1)), (1, .int 0)] := hl
  refine lv_iload_n hx hb dX7_byteAt_0 rfl (lv_at hl 1 rfl) ?_
  refine lv_if_lt (tgt := 32) hx hb dX7_byteAt_1 (by decide) (fun z => absurd z (by decide)) (fun _ => ?_)
  refine lv_iload_n hx hb dX7_byteAt_4 rfl (lv_at hl 1 rfl) ?_
  refine lv_aload_n hx hb dX7_byteAt_5 rfl (lv_at hl 0 rfl) ?_
  refine va_get (D := (dC, dI)) (ci := 7) (v := .int 0) (C := RX7) (T := TX7) (N := 15) hx hb hts hin_X7_byteAt_RX7 hown hK hP 1 rfl rfl 1 (by decide) (hts (.fieldLink RX7 43 "BookOfAll$Reader" "size" "I") (by decide +kernel)) (fun _ h9 => h9) rfl dX7_byteAt_6 ?_
  refine lv_icmp_ge (tgt := 32) hx hb dX7_byteAt_9 (by decide) (fun _ => ?_) (fun z => absurd (by decide) z)
  refine lv_iconst (v := 0) hx hb dX7_byteAt_32 (by decide) ?_
  exact W.iret (v := 0) hx hb hr (fun t ht hW => ⟨⟨0, (), rfl, rfl, trivial⟩, hS.F ht⟩) hS.2.2 dX7_byteAt_33
set_option maxHeartbeats 4000000 in
set_option maxRecDepth 100000 in
theorem kX7_kindAt_2 (l : Launch) (dC : Nat → ClassId) (dI : Nat → Nat → Nat) (sz : Nat) (ad : Nat → Nat) (ca : Nat → ClassId) : Met l yX7_kindAt wsX7_kindAt ({ frames := 1, cells := 0, slots := 0, locals := 21 }) (va_Pc [.ref (ad 1), .int 0] (jw_P (dC, dI) (xW ad ca) (xT ca) sz)) (va_Qi (fun (r : Int32) (_ : Unit) => (r = 0)) (fun _ _ => True) (va_A [] sz)) 0 0 (va_A [] sz) := by
  refine Met.ofW (cc := cX7_kindAt) (maxL := 3) (ret := (some .int)) (by decide) rfl ?_
  intro p e s m args below meth c s₁ B hml hv
  obtain ⟨rfl, hsz, hP, hK, hD0⟩ := hv
  have hx := B.exec
  have hb := B.bytes
  have hr := B.returns
  have hts := atoms_spec (ws := wsX7_kindAt) B.pre
  have hown : s.vm.findClass RX7 = some m.cls := findClass_of_methodNamed B.named
  have hlocks := B.notSynchronized
  subst hsz
  have hD := hD0
  generalize hAe : (va_A [] s.heap.size) = A
  have hA : ∀ q : Nat, s.heap.size ≤ q → A q := fun q h => by rw [← hAe]; exact Or.inr h
  have hS : va_S A s.heap s.heap [] := va_S.rf
  have hP : va_P (dC, dI) vwCl (xW ad ca) s.heap := hP
  have hl := lv_entry ([.ref (ad 1), .int 0]) (n := 3) (Nat.le_of_ble_eq_true rfl)
  rw [lg_entry_eq]
  generalize (lg_sl ([.ref (ad 1), .int 0]) ++ List.replicate (3 - (lg_sl ([.ref (ad 1), .int 0])).length) Slot.unset).toArray = ls at hl ⊢
  have hl : lv_has ls 3 [(0, .ref (ad 1)), (1, .int 0)] := hl
  refine lv_aload_n hx hb dX7_kindAt_0 rfl (lv_at hl 0 rfl) ?_
  refine lv_iload_n hx hb dX7_kindAt_1 rfl (lv_at hl 1 rfl) ?_
  refine jc_i (va_runV (As := [.int 0]) (rest := []) ⟨hx, hb, hml, hown, hts⟩ (kX7_byteAt_2 l dC dI _ ad ca) (cwV 1 hts gX7_kindAt_X7_byteAt rfl rfl rfl (by decide +kernel) ⟨Nat.le_of_ble_eq_true rfl, Nat.le_of_ble_eq_true rfl⟩) ⟨jw_blind, va_recv hK hP (ci := 7) (q0 := 1) rfl rfl, fun U hU hW => ⟨rfl, jw_of hU hW hP hK hD⟩⟩ rfl rfl hl.1 rfl (lv_room (Nat.le_of_ble_eq_true rfl)) dX7_kindAt_2 ⟨Nat.le_of_ble_eq_true rfl, Nat.le_of_ble_eq_true rfl⟩) hP hS hA (fun r_1 H locs hw_1 hP hS => ?_)
  have hw_1 : r_1 = 0 := hw_1
  subst hw_1
  refine lv_istore_n (lv' := [(2, .int 0), (0, .ref (ad 1)), (1, .int 0)]) hx hb dX7_kindAt_5 rfl hl (by decide) rfl (fun ls hl => ?_)
  refine lv_iload_n hx hb dX7_kindAt_6 rfl (lv_at hl 2 rfl) ?_
  refine lv_aload_n hx hb dX7_kindAt_7 rfl (lv_at hl 1 rfl) ?_
  refine va_get (D := (dC, dI)) (ci := 7) (v := .int 0) (C := RX7) (T := TX7) (N := 15) hx hb hts hin_X7_kindAt_RX7 hown hK hP 1 rfl rfl 1 (by decide) (hts (.fieldLink RX7 43 "BookOfAll$Reader" "size" "I") (by decide +kernel)) (fun _ h9 => h9) rfl dX7_kindAt_8 ?_
  refine lv_icmp_lt (tgt := 16) hx hb dX7_kindAt_11 (by decide) (fun z => absurd z (by decide)) (fun _ => ?_)
  refine lv_iconst (v := 0) hx hb dX7_kindAt_14 (by decide) ?_
  exact W.iret (v := 0) hx hb hr (fun t ht hW => ⟨⟨0, (), rfl, rfl, trivial⟩, hS.F ht⟩) hS.2.2 dX7_kindAt_15
set_option maxHeartbeats 4000000 in
set_option maxRecDepth 100000 in
theorem kX7_stopAt_2 (l : Launch) (dC : Nat → ClassId) (dI : Nat → Nat → Nat) (sz : Nat) (ad : Nat → Nat) (ca : Nat → ClassId) : Met l yX7_stopAt wsX7_stopAt ({ frames := 0, cells := 0, slots := 0, locals := 0 }) (va_Pc [.ref (ad 1), .int 0, .int 0] (jw_P (dC, dI) (xW ad ca) (xT ca) sz)) (va_Qi (fun (r : Int32) (_ : Unit) => (r = 1)) (fun _ _ => True) (va_A [] sz)) 0 0 (va_A [] sz) := by
  refine Met.ofW (cc := cX7_stopAt) (maxL := 4) (ret := (some .int)) (by decide) rfl ?_
  intro p e s m args below meth c s₁ B hml hv
  obtain ⟨rfl, hsz, hP, hK, hD0⟩ := hv
  have hx := B.exec
  have hb := B.bytes
  have hr := B.returns
  have hts := atoms_spec (ws := wsX7_stopAt) B.pre
  have hown : s.vm.findClass RX7 = some m.cls := findClass_of_methodNamed B.named
  have hlocks := B.notSynchronized
  subst hsz
  have hD := hD0
  generalize hAe : (va_A [] s.heap.size) = A
  have hA : ∀ q : Nat, s.heap.size ≤ q → A q := fun q h => by rw [← hAe]; exact Or.inr h
  have hS : va_S A s.heap s.heap [] := va_S.rf
  have hP : va_P (dC, dI) vwCl (xW ad ca) s.heap := hP
  have hl := lv_entry ([.ref (ad 1), .int 0, .int 0]) (n := 4) (Nat.le_of_ble_eq_true rfl)
  rw [lg_entry_eq]
  generalize (lg_sl ([.ref (ad 1), .int 0, .int 0]) ++ List.replicate (4 - (lg_sl ([.ref (ad 1), .int 0, .int 0])).length) Slot.unset).toArray = ls at hl ⊢
  have hl : lv_has ls 4 [(0, .ref (ad 1)), (1, .int 0), (2, .int 0)] := hl
  refine lv_iload_n hx hb dX7_stopAt_0 rfl (lv_at hl 1 rfl) ?_
  refine lv_iconst (v := 1) hx hb dX7_stopAt_1 (by decide) ?_
  refine lv_iadd hx hb dX7_stopAt_2 ?_
  refine jt_i 1 (by decide) ?_
  refine lv_istore_n (lv' := [(3, .int 1), (0, .ref (ad 1)), (1, .int 0), (2, .int 0)]) hx hb dX7_stopAt_3 rfl hl (by decide) rfl (fun ls hl => ?_)
  refine lv_iload_n hx hb dX7_stopAt_4 rfl (lv_at hl 0 rfl) ?_
  refine lv_aload_n hx hb dX7_stopAt_5 rfl (lv_at hl 1 rfl) ?_
  refine va_get (D := (dC, dI)) (ci := 7) (v := .int 0) (C := RX7) (T := TX7) (N := 15) hx hb hts hin_X7_stopAt_RX7 hown hK hP 1 rfl rfl 1 (by decide) (hts (.fieldLink RX7 43 "BookOfAll$Reader" "size" "I") (by decide +kernel)) (fun _ h9 => h9) rfl dX7_stopAt_6 ?_
  refine lv_icmp_ge (tgt := 34) hx hb dX7_stopAt_9 (by decide) (fun _ => ?_) (fun z => absurd (by decide) z)
  refine lv_iload_n hx hb dX7_stopAt_34 rfl (lv_at hl 0 rfl) ?_
  refine lv_aload_n hx hb dX7_stopAt_35 rfl (lv_at hl 1 rfl) ?_
  refine va_get (D := (dC, dI)) (ci := 7) (v := .int 0) (C := RX7) (T := TX7) (N := 15) hx hb hts hin_X7_stopAt_RX7 hown hK hP 1 rfl rfl 1 (by decide) (hts (.fieldLink RX7 43 "BookOfAll$Reader" "size" "I") (by decide +kernel)) (fun _ h9 => h9) rfl dX7_stopAt_36 ?_
  refine lv_icmp_ge (tgt := 64) hx hb dX7_stopAt_39 (by decide) (fun _ => ?_) (fun z => absurd (by decide) z)
  refine lv_iload_n hx hb dX7_stopAt_64 rfl (lv_at hl 0 rfl) ?_
  exact W.iret (v := 1) hx hb hr (fun t ht hW => ⟨⟨1, (), rfl, rfl, trivial⟩, hS.F ht⟩) hS.2.2 dX7_stopAt_65
set_option maxHeartbeats 4000000 in
set_option maxRecDepth 100000 in
theorem kX7_addToken_2 (l : Launch) (dC : Nat → ClassId) (dI : Nat → Nat → Nat) (sz : Nat) (ad : Nat → Nat) (ca : Nat → ClassId) : Met l yX7_addToken wsX7_addToken ({ frames := 0, cells := 0, slots := 0, locals := 0 }) (va_Pc [.ref (ad 1), .int 0, .int 0, .int 1] (jw_P (dC, dI) (xW ad ca) (xT ca) sz)) (va_Qv (fun (_ : Unit) => True) (fun _ t => va_P (dC, dI) vwCl (((((((((((xW ad ca).set 1 (ad 1, .inr (7, [.ref (ad 2), .int 0, .ref (ad 3), .ref (ad 4), .ref (ad 5), .ref (ad 6), .int 1, .int 0, .int 0, .ref (ad 7), .int 0, .ref (ad 8), .ref (ad 9), .ref (ad 10), .int 0])))).set 3 (ad 3, .inl ((ca 3), 601, .inl (upd (fun _ => 0) 0 0))))).set 4 (ad 4, .inl ((ca 4), 601, .inl (upd (fun _ => 0) 0 0))))).set 5 (ad 5, .inl ((ca 5), 601, .inl (upd (fun _ => 0) 0 1))))).set 6 (ad 6, .inl ((ca 6), 601, .inl (upd (fun _ => 0) 0 (-1)))))) t.heap ∧ va_K (dC, dI) vwCl (xT ca) t ∧ va_D (va_A (xW ad ca) sz) (((((((((((xW ad ca).set 1 (ad 1, .inr (7, [.ref (ad 2), .int 0, .ref (ad 3), .ref (ad 4), .ref (ad 5), .ref (ad 6), .int 1, .int 0, .int 0, .ref (ad 7), .int 0, .ref (ad 8), .ref (ad 9), .ref (ad 10), .int 0])))).set 3 (ad 3, .inl ((ca 3), 601, .inl (upd (fun _ => 0) 0 0))))).set 4 (ad 4, .inl ((ca 4), 601, .inl (upd (fun _ => 0) 0 0))))).set 5 (ad 5, .inl ((ca 5), 601, .inl (upd (fun _ => 0) 0 1))))).set 6 (ad 6, .inl ((ca 6), 601, .inl (upd (fun _ => 0) 0 (-1))))))) (va_A (xW ad ca) sz)) 0 0 (va_A (xW ad ca) sz) := by
  refine Met.ofW (cc := cX7_addToken) (maxL := 4) (ret := none) (by decide) rfl ?_
  intro p e s m args below meth c s₁ B hml hv
  obtain ⟨rfl, hsz, hP, hK, hD0⟩ := hv
  have hx := B.exec
  have hb := B.bytes
  have hr := B.returns
  have hts := atoms_spec (ws := wsX7_addToken) B.pre
  have hown : s.vm.findClass RX7 = some m.cls := findClass_of_methodNamed B.named
  have hlocks := B.notSynchronized
  subst hsz
  have hD := hD0.self (sz := s.heap.size)
  generalize hAe : (va_A (xW ad ca) s.heap.size) = A at hD ⊢
  have hA : ∀ q : Nat, s.heap.size ≤ q → A q := fun q h => by rw [← hAe]; exact Or.inr h
  have hS : va_S A s.heap s.heap [] := va_S.rf
  have hP : va_P (dC, dI) vwCl (xW ad ca) s.heap := hP
  have hl := lv_entry ([.ref (ad 1), .int 0, .int 0, .int 1]) (n := 4) (Nat.le_of_ble_eq_true rfl)
  rw [lg_entry_eq]
  generalize (lg_sl ([.ref (ad 1), .int 0, .int 0, .int 1]) ++ List.replicate (4 - (lg_sl ([.ref (ad 1), .int 0, .int 0, .int 1])).length) Slot.unset).toArray = ls at hl ⊢
  have hl : lv_has ls 4 [(0, .ref (ad 1)), (1, .int 0), (2, .int 0), (3, .int 1)] := hl
  refine lv_aload_n hx hb dX7_addToken_0 rfl (lv_at hl 0 rfl) ?_
  refine va_get (D := (dC, dI)) (ci := 7) (v := .int 0) (C := RX7) (T := TX7) (N := 15) hx hb hts hin_X7_addToken_RX7 hown hK hP 1 rfl rfl 6 (by decide) (hts (.fieldLink RX7 106 "BookOfAll$Reader" "tokens" "I") (by decide +kernel)) (fun _ h9 => h9) rfl dX7_addToken_1 ?_
  refine lv_if_lt (tgt := 97) hx hb dX7_addToken_4 (by decide) (fun z => absurd z (by decide)) (fun _ => ?_)
  refine lv_aload_n hx hb dX7_addToken_7 rfl (lv_at hl 0 rfl) ?_
  refine va_get (D := (dC, dI)) (ci := 7) (v := .int 0) (C := RX7) (T := TX7) (N := 15) hx hb hts hin_X7_addToken_RX7 hown hK hP 1 rfl rfl 6 (by decide) (hts (.fieldLink RX7 106 "BookOfAll$Reader" "tokens" "I") (by decide +kernel)) (fun _ h9 => h9) rfl dX7_addToken_8 ?_
  refine lv_aload_n hx hb dX7_addToken_11 rfl (lv_at hl 0 rfl) ?_
  refine va_get (D := (dC, dI)) (ci := 7) (v := .ref (ad 3)) (C := RX7) (T := TX7) (N := 15) hx hb hts hin_X7_addToken_RX7 hown hK hP 1 rfl rfl 2 (by decide) (hts (.fieldLink RX7 15 "BookOfAll$Reader" "kinds" "[I") (by decide +kernel)) (fun _ h9 => h9) rfl dX7_addToken_12 ?_
  refine va_alen (v := 601) hx hb hK hP 3 1 rfl rfl (by decide) dX7_addToken_15 ?_
  refine lv_icmp_ge (tgt := 97) hx hb dX7_addToken_16 (by decide) (fun z => absurd z (by decide)) (fun _ => ?_)
  refine lv_aload_n hx hb dX7_addToken_19 rfl (lv_at hl 0 rfl) ?_
  refine va_get (D := (dC, dI)) (ci := 7) (v := .ref (ad 3)) (C := RX7) (T := TX7) (N := 15) hx hb hts hin_X7_addToken_RX7 hown hK hP 1 rfl rfl 2 (by decide) (hts (.fieldLink RX7 15 "BookOfAll$Reader" "kinds" "[I") (by decide +kernel)) (fun _ h9 => h9) rfl dX7_addToken_20 ?_
  refine lv_aload_n hx hb dX7_addToken_23 rfl (lv_at hl 0 rfl) ?_
  refine va_get (D := (dC, dI)) (ci := 7) (v := .int 0) (C := RX7) (T := TX7) (N := 15) hx hb hts hin_X7_addToken_RX7 hown hK hP 1 rfl rfl 6 (by decide) (hts (.fieldLink RX7 106 "BookOfAll$Reader" "tokens" "I") (by decide +kernel)) (fun _ h9 => h9) rfl dX7_addToken_24 ?_
  refine lv_iload_n hx hb dX7_addToken_27 rfl (lv_at hl 1 rfl) ?_
  refine va_iast hx hb hK hP hD hS 3 1 rfl rfl (vp_in_nI (n := 0) (by decide) (by decide)) dX7_addToken_28 (fun H locs hP hD hS => ?_)
  refine lv_aload_n hx hb dX7_addToken_29 rfl (lv_at hl 0 rfl) ?_
  refine va_get (D := (dC, dI)) (ci := 7) (v := .ref (ad 4)) (C := RX7) (T := TX7) (N := 15) hx hb hts hin_X7_addToken_RX7 hown hK hP 1 rfl rfl 3 (by decide) (hts (.fieldLink RX7 19 "BookOfAll$Reader" "starts" "[I") (by decide +kernel)) (fun _ h9 => h9) rfl dX7_addToken_30 ?_
  refine lv_aload_n hx hb dX7_addToken_33 rfl (lv_at hl 0 rfl) ?_
  refine va_get (D := (dC, dI)) (ci := 7) (v := .int 0) (C := RX7) (T := TX7) (N := 15) hx hb hts hin_X7_addToken_RX7 hown hK hP 1 rfl rfl 6 (by decide) (hts (.fieldLink RX7 106 "BookOfAll$Reader" "tokens" "I") (by decide +kernel)) (fun _ h9 => h9) rfl dX7_addToken_34 ?_
  refine lv_iload_n hx hb dX7_addToken_37 rfl (lv_at hl 2 rfl) ?_
  refine va_iast hx hb hK hP hD hS 4 2 rfl rfl (vp_in_nI (n := 0) (by decide) (by decide)) dX7_addToken_38 (fun H locs hP hD hS => ?_)
  refine lv_aload_n hx hb dX7_addToken_39 rfl (lv_at hl 0 rfl) ?_
  refine va_get (D := (dC, dI)) (ci := 7) (v := .ref (ad 5)) (C := RX7) (T := TX7) (N := 15) hx hb hts hin_X7_addToken_RX7 hown hK hP 1 rfl rfl 4 (by decide) (hts (.fieldLink RX7 22 "BookOfAll$Reader" "stops" "[I") (by decide +kernel)) (fun _ h9 => h9) rfl dX7_addToken_40 ?_
  refine lv_aload_n hx hb dX7_addToken_43 rfl (lv_at hl 0 rfl) ?_
  refine va_get (D := (dC, dI)) (ci := 7) (v := .int 0) (C := RX7) (T := TX7) (N := 15) hx hb hts hin_X7_addToken_RX7 hown hK hP 1 rfl rfl 6 (by decide) (hts (.fieldLink RX7 106 "BookOfAll$Reader" "tokens" "I") (by decide +kernel)) (fun _ h9 => h9) rfl dX7_addToken_44 ?_
  refine lv_iload_n hx hb dX7_addToken_47 rfl (lv_at hl 3 rfl) ?_
  refine va_iast hx hb hK hP hD hS 5 3 rfl rfl (vp_in_nI (n := 0) (by decide) (by decide)) dX7_addToken_48 (fun H locs hP hD hS => ?_)
  refine lv_aload_n hx hb dX7_addToken_49 rfl (lv_at hl 0 rfl) ?_
  refine va_get (D := (dC, dI)) (ci := 7) (v := .ref (ad 6)) (C := RX7) (T := TX7) (N := 15) hx hb hts hin_X7_addToken_RX7 hown hK hP 1 rfl rfl 5 (by decide) (hts (.fieldLink RX7 25 "BookOfAll$Reader" "values" "[I") (by decide +kernel)) (fun _ h9 => h9) rfl dX7_addToken_50 ?_
  refine lv_aload_n hx hb dX7_addToken_53 rfl (lv_at hl 0 rfl) ?_
  refine va_get (D := (dC, dI)) (ci := 7) (v := .int 0) (C := RX7) (T := TX7) (N := 15) hx hb hts hin_X7_addToken_RX7 hown hK hP 1 rfl rfl 6 (by decide) (hts (.fieldLink RX7 106 "BookOfAll$Reader" "tokens" "I") (by decide +kernel)) (fun _ h9 => h9) rfl dX7_addToken_54 ?_
  refine lv_iload_n hx hb dX7_addToken_57 rfl (lv_at hl 1 rfl) ?_
  refine lv_iconst (v := 1) hx hb dX7_addToken_58 (by decide) ?_
  refine lv_icmp_ne (tgt := 71) hx hb dX7_addToken_59 (by decide) (fun _ => ?_) (fun z => absurd z (by decide))
  refine lv_iload_n hx hb dX7_addToken_71 rfl (lv_at hl 1 rfl) ?_
  refine lv_iconst (v := 2) hx hb dX7_addToken_72 (by decide) ?_
  refine lv_icmp_ne (tgt := 85) hx hb dX7_addToken_73 (by decide) (fun _ => ?_) (fun z => absurd z (by decide))
  refine lv_iconst (v := (-1)) hx hb dX7_addToken_85 (by decide) ?_
  refine va_iast hx hb hK hP hD hS 6 4 rfl rfl (vp_in_nI (n := 0) (by decide) (by decide)) dX7_addToken_86 (fun H locs hP hD hS => ?_)
  refine lv_aload_n hx hb dX7_addToken_87 rfl (lv_at hl 0 rfl) ?_
  refine lv_dup hx hb dX7_addToken_88 rfl ?_
  refine va_get (D := (dC, dI)) (ci := 7) (v := .int 0) (C := RX7) (T := TX7) (N := 15) hx hb hts hin_X7_addToken_RX7 hown hK hP 1 rfl rfl 6 (by decide) (hts (.fieldLink RX7 106 "BookOfAll$Reader" "tokens" "I") (by decide +kernel)) (fun _ h9 => h9) rfl dX7_addToken_89 ?_
  refine lv_iconst (v := 1) hx hb dX7_addToken_92 (by decide) ?_
  refine lv_iadd hx hb dX7_addToken_93 ?_
  refine jt_i 1 (by decide) ?_
  refine va_put (D := (dC, dI)) (ci := 7) (v := .int 1) (ty := .int) (C := RX7) (T := TX7) (N := 15) hx hb hts hin_X7_addToken_RX7 tyX7 tyX7_ok nmX7 hown hK hP hD hS 1 rfl rfl 6 (by decide) (hts (.fieldLink RX7 106 "BookOfAll$Reader" "tokens" "I") (by decide +kernel)) (fun _ h9 => h9) rfl (by decide +kernel) rfl rfl (Nat.le_of_ble_eq_true rfl) dX7_addToken_94 (fun H locs hP hD hS => ?_)
  exact W.vret hx hb hr (fun t ht hW => ⟨⟨(), rfl, trivial, by rw [ht]; exact hP, va_K.moved hW.alike hK, hD⟩, hS.F ht⟩) hS.2.2 dX7_addToken_97
set_option maxHeartbeats 4000000 in
set_option maxRecDepth 100000 in
theorem kX7_scan_2 (l : Launch) (dC : Nat → ClassId) (dI : Nat → Nat → Nat) (sz : Nat) (ad : Nat → Nat) (ca : Nat → ClassId) : Met l yX7_scan wsX7_scan ({ frames := 2, cells := 0, slots := 0, locals := 43 }) (va_Pc [.ref (ad 1)] (jw_P (dC, dI) (xW ad ca) (xT ca) sz)) (va_Qv (fun (_ : Unit) => True) (fun _ t => va_P (dC, dI) vwCl (((((((((((xW ad ca).set 1 (ad 1, .inr (7, [.ref (ad 2), .int 0, .ref (ad 3), .ref (ad 4), .ref (ad 5), .ref (ad 6), .int 1, .int 0, .int 0, .ref (ad 7), .int 0, .ref (ad 8), .ref (ad 9), .ref (ad 10), .int 0])))).set 3 (ad 3, .inl ((ca 3), 601, .inl (upd (fun _ => 0) 0 0))))).set 4 (ad 4, .inl ((ca 4), 601, .inl (upd (fun _ => 0) 0 0))))).set 5 (ad 5, .inl ((ca 5), 601, .inl (upd (fun _ => 0) 0 1))))).set 6 (ad 6, .inl ((ca 6), 601, .inl (upd (fun _ => 0) 0 (-1)))))) t.heap ∧ va_K (dC, dI) vwCl (xT ca) t ∧ va_D (va_A (xW ad ca) sz) (((((((((((xW ad ca).set 1 (ad 1, .inr (7, [.ref (ad 2), .int 0, .ref (ad 3), .ref (ad 4), .ref (ad 5), .ref (ad 6), .int 1, .int 0, .int 0, .ref (ad 7), .int 0, .ref (ad 8), .ref (ad 9), .ref (ad 10), .int 0])))).set 3 (ad 3, .inl ((ca 3), 601, .inl (upd (fun _ => 0) 0 0))))).set 4 (ad 4, .inl ((ca 4), 601, .inl (upd (fun _ => 0) 0 0))))).set 5 (ad 5, .inl ((ca 5), 601, .inl (upd (fun _ => 0) 0 1))))).set 6 (ad 6, .inl ((ca 6), 601, .inl (upd (fun _ => 0) 0 (-1))))))) (va_A (xW ad ca) sz)) 0 0 (va_A (xW ad ca) sz) := by
  refine Met.ofW (cc := cX7_scan) (maxL := 5) (ret := none) (by decide) rfl ?_
  intro p e s m args below meth c s₁ B hml hv
  obtain ⟨rfl, hsz, hP, hK, hD0⟩ := hv
  have hx := B.exec
  have hb := B.bytes
  have hr := B.returns
  have hts := atoms_spec (ws := wsX7_scan) B.pre
  have hown : s.vm.findClass RX7 = some m.cls := findClass_of_methodNamed B.named
  have hlocks := B.notSynchronized
  subst hsz
  have hD := hD0.self (sz := s.heap.size)
  generalize hAe : (va_A (xW ad ca) s.heap.size) = A at hD ⊢
  have hA : ∀ q : Nat, s.heap.size ≤ q → A q := fun q h => by rw [← hAe]; exact Or.inr h
  have hS : va_S A s.heap s.heap [] := va_S.rf
  have hP : va_P (dC, dI) vwCl (xW ad ca) s.heap := hP
  have hl := lv_entry ([.ref (ad 1)]) (n := 5) (Nat.le_of_ble_eq_true rfl)
  rw [lg_entry_eq]
  generalize (lg_sl ([.ref (ad 1)]) ++ List.replicate (5 - (lg_sl ([.ref (ad 1)])).length) Slot.unset).toArray = ls at hl ⊢
  have hl : lv_has ls 5 [(0, .ref (ad 1))] := hl
  refine lv_aload_n hx hb dX7_scan_0 rfl (lv_at hl 0 rfl) ?_
  refine lv_iconst (v := 0) hx hb dX7_scan_1 (by decide) ?_
  refine va_put (D := (dC, dI)) (ci := 7) (v := .int 0) (ty := .int) (C := RX7) (T := TX7) (N := 15) hx hb hts hin_X7_scan_RX7 tyX7 tyX7_ok nmX7 hown hK hP hD hS 1 rfl rfl 6 (by decide) (hts (.fieldLink RX7 106 "BookOfAll$Reader" "tokens" "I") (by decide +kernel)) (fun _ h9 => h9) rfl (by decide +kernel) rfl rfl (Nat.le_of_ble_eq_true rfl) dX7_scan_2 (fun H locs hP hD hS => ?_)
  refine lv_iconst (v := 0) hx hb dX7_scan_5 (by decide) ?_
  refine lv_istore_n (lv' := [(1, .int 0), (0, .ref (ad 1))]) hx hb dX7_scan_6 rfl hl (by decide) rfl (fun ls hl => ?_)
  refine lv_iconst (v := 1) hx hb dX7_scan_7 (by decide) ?_
  refine lv_istore_n (lv' := [(2, .int 1), (1, .int 0), (0, .ref (ad 1))]) hx hb dX7_scan_8 rfl hl (by decide) rfl (fun ls hl => ?_)
  refine lv_iconst (v := 0) hx hb dX7_scan_9 (by decide) ?_
  refine lv_istore_n (lv' := [(3, .int 0), (2, .int 1), (1, .int 0), (0, .ref (ad 1))]) hx hb dX7_scan_10 rfl hl (by decide) rfl (fun ls hl => ?_)
  refine lv_iload_n hx hb dX7_scan_11 rfl (lv_at hl 0 rfl) ?_
  refine lv_aload_n hx hb dX7_scan_12 rfl (lv_at hl 3 rfl) ?_
  refine va_get (D := (dC, dI)) (ci := 7) (v := .int 0) (C := RX7) (T := TX7) (N := 15) hx hb hts hin_X7_scan_RX7 hown hK hP 1 rfl rfl 1 (by decide) (hts (.fieldLink RX7 43 "BookOfAll$Reader" "size" "I") (by decide +kernel)) (fun _ h9 => h9) rfl dX7_scan_13 ?_
  refine lv_icmp_gt (tgt := 93) hx hb dX7_scan_16 (by decide) (fun z => absurd z (by decide)) (fun _ => ?_)
  refine lv_iload_n hx hb dX7_scan_19 rfl (lv_at hl 1 rfl) ?_
  refine lv_if_eq (tgt := 93) hx hb dX7_scan_20 (by decide) (fun z => absurd z (by decide)) (fun _ => ?_)
  refine lv_iload_n hx hb dX7_scan_23 rfl (lv_at hl 1 rfl) ?_
  refine lv_iconst (v := 3) hx hb dX7_scan_24 (by decide) ?_
  refine lv_icmp_eq (tgt := 93) hx hb dX7_scan_25 (by decide) (fun z => absurd z (by decide)) (fun _ => ?_)
  refine lv_iload_n hx hb dX7_scan_28 rfl (lv_at hl 2 rfl) ?_
  refine lv_aload_n hx hb dX7_scan_29 rfl (lv_at hl 3 rfl) ?_
  refine va_get (D := (dC, dI)) (ci := 7) (v := .int 0) (C := RX7) (T := TX7) (N := 15) hx hb hts hin_X7_scan_RX7 hown hK hP 1 rfl rfl 1 (by decide) (hts (.fieldLink RX7 43 "BookOfAll$Reader" "size" "I") (by decide +kernel)) (fun _ h9 => h9) rfl dX7_scan_30 ?_
  refine lv_icmp_ge (tgt := 62) hx hb dX7_scan_33 (by decide) (fun _ => ?_) (fun z => absurd (by decide) z)
  refine lv_aload_n hx hb dX7_scan_62 rfl (lv_at hl 3 rfl) ?_
  refine lv_iload_n hx hb dX7_scan_63 rfl (lv_at hl 2 rfl) ?_
  refine jc_i (va_runV (As := [.int 0]) (rest := []) ⟨hx, hb, hml, hown, hts⟩ (kX7_kindAt_2 l dC dI _ ad ca) (cwV 1 hts gX7_scan_X7_kindAt rfl rfl rfl (by decide +kernel) ⟨Nat.le_of_ble_eq_true rfl, Nat.le_of_ble_eq_true rfl⟩) ⟨jw_blind, va_recv hK hP (ci := 7) (q0 := 1) rfl rfl, fun U hU hW => ⟨rfl, jw_of hU hW hP hK hD⟩⟩ rfl rfl hl.1 rfl (lv_room (Nat.le_of_ble_eq_true rfl)) dX7_scan_64 ⟨Nat.le_of_ble_eq_true rfl, Nat.le_of_ble_eq_true rfl⟩) hP hS hA (fun r_1 H locs hw_1 hP hS => ?_)
  have hw_1 : r_1 = 0 := hw_1
  subst hw_1
  refine lv_istore_n (lv' := [(2, .int 0), (3, .int 0), (1, .int 0), (0, .ref (ad 1))]) hx hb dX7_scan_67 rfl hl (by decide) rfl (fun ls hl => ?_)
  refine lv_aload_n hx hb dX7_scan_68 rfl (lv_at hl 3 rfl) ?_
  refine lv_iload_n hx hb dX7_scan_69 rfl (lv_at hl 2 rfl) ?_
  refine lv_iload_n hx hb dX7_scan_70 rfl (lv_at hl 0 rfl) ?_
  refine jc_i (va_runV (As := [.int 0, .int 0]) (rest := []) ⟨hx, hb, hml, hown, hts⟩ (kX7_stopAt_2 l dC dI _ ad ca) (cwV 2 hts gX7_scan_X7_stopAt rfl rfl rfl (by decide +kernel) ⟨Nat.le_of_ble_eq_true rfl, Nat.le_of_ble_eq_true rfl⟩) ⟨jw_blind, va_recv hK hP (ci := 7) (q0 := 1) rfl rfl, fun U hU hW => ⟨rfl, jw_of hU hW hP hK hD⟩⟩ rfl rfl hl.1 rfl (lv_room (Nat.le_of_ble_eq_true rfl)) dX7_scan_71 ⟨Nat.le_of_ble_eq_true rfl, Nat.le_of_ble_eq_true rfl⟩) hP hS hA (fun r_2 H locs hw_2 hP hS => ?_)
  have hw_2 : r_2 = 1 := hw_2
  subst hw_2
  refine lv_istore (lv' := [(4, .int 1), (2, .int 0), (3, .int 0), (1, .int 0), (0, .ref (ad 1))]) hx hb dX7_scan_74 hl (by decide) rfl (fun ls hl => ?_)
  refine lv_aload_n hx hb dX7_scan_76 rfl (lv_at hl 4 rfl) ?_
  refine lv_iload_n hx hb dX7_scan_77 rfl (lv_at hl 1 rfl) ?_
  refine lv_iload_n hx hb dX7_scan_78 rfl (lv_at hl 3 rfl) ?_
  refine lv_iload hx hb dX7_scan_79 (lv_at hl 0 rfl) ?_
  refine jcw_v (va_runV (As := [.int 0, .int 0, .int 1]) (rest := []) ⟨hx, hb, hml, hown, hts⟩ (kX7_addToken_2 l dC dI _ ad ca) (cwV 3 hts gX7_scan_X7_addToken rfl rfl rfl (by decide +kernel) ⟨Nat.le_of_ble_eq_true rfl, Nat.le_of_ble_eq_true rfl⟩) ⟨jw_blind, va_recv hK hP (ci := 7) (q0 := 1) rfl rfl, fun U hU hW => ⟨rfl, jw_of hU hW hP hK hD⟩⟩ rfl rfl hl.1 rfl (lv_room (Nat.le_of_ble_eq_true rfl)) dX7_scan_81 ⟨Nat.le_of_ble_eq_true rfl, Nat.le_of_ble_eq_true rfl⟩) hD hS hA (fun H locs hw_3 hP hK hD hS => ?_)
  refine lv_iload hx hb dX7_scan_84 (lv_at hl 0 rfl) ?_
  refine lv_istore_n (lv' := [(1, .int 1), (4, .int 1), (2, .int 0), (3, .int 0), (0, .ref (ad 1))]) hx hb dX7_scan_86 rfl hl (by decide) rfl (fun ls hl => ?_)
  refine lv_iinc (v := 1) (lv' := [(3, .int 1), (1, .int 1), (4, .int 1), (2, .int 0), (0, .ref (ad 1))]) hx hb dX7_scan_87 hl (k := 3) rfl (by decide) (by decide) rfl (fun ls hl => ?_)
  refine lv_goto (tgt := 11) hx hb dX7_scan_90 (by decide) ?_
  refine lv_iload_n hx hb dX7_scan_11 rfl (lv_at hl 0 rfl) ?_
  refine lv_aload_n hx hb dX7_scan_12 rfl (lv_at hl 4 rfl) ?_
  refine va_get (D := (dC, dI)) (ci := 7) (v := .int 0) (C := RX7) (T := TX7) (N := 15) hx hb hts hin_X7_scan_RX7 hown hK hP 1 rfl rfl 1 (by decide) (hts (.fieldLink RX7 43 "BookOfAll$Reader" "size" "I") (by decide +kernel)) (fun _ h9 => h9) rfl dX7_scan_13 ?_
  refine lv_icmp_gt (tgt := 93) hx hb dX7_scan_16 (by decide) (fun _ => ?_) (fun z => absurd (by decide) z)
  exact W.vret hx hb hr (fun t ht hW => ⟨⟨(), rfl, trivial, by rw [ht]; exact hP, va_K.moved hW.alike hK, hD⟩, hS.F ht⟩) hS.2.2 dX7_scan_93
set_option maxHeartbeats 4000000 in
set_option maxRecDepth 100000 in
theorem kX7_kind_2 (l : Launch) (dC : Nat → ClassId) (dI : Nat → Nat → Nat) (sz : Nat) (ad : Nat → Nat) (ca : Nat → ClassId) : Met l yX7_kind wsX7_kind ({ frames := 0, cells := 0, slots := 0, locals := 0 }) (va_Pc [.ref (ad 1)] (jw_P (dC, dI) (((((((((((((xW ad ca).set 1 (ad 1, .inr (7, [.ref (ad 2), .int 0, .ref (ad 3), .ref (ad 4), .ref (ad 5), .ref (ad 6), .int 1, .int 0, .int (-1), .ref (ad 7), .int 0, .ref (ad 8), .ref (ad 9), .ref (ad 10), .int 0])))).set 3 (ad 3, .inl ((ca 3), 601, .inl (upd (fun _ => 0) 0 0))))).set 4 (ad 4, .inl ((ca 4), 601, .inl (upd (fun _ => 0) 0 0))))).set 5 (ad 5, .inl ((ca 5), 601, .inl (upd (fun _ => 0) 0 1))))).set 6 (ad 6, .inl ((ca 6), 601, .inl (upd (fun _ => 0) 0 (-1)))))).set 8 (ad 8, .inl ((ca 8), 14, .inl (jfill (fun _ => 0) 14 (-1)))))) (xT ca) sz)) (va_Qi (fun (r : Int32) (_ : Unit) => (r = 0)) (fun _ _ => True) (va_A [] sz)) 0 0 (va_A [] sz) := by
  refine Met.ofW (cc := cX7_kind) (maxL := 1) (ret := (some .int)) (by decide) rfl ?_
  intro p e s m args below meth c s₁ B hml hv
  obtain ⟨rfl, hsz, hP, hK, hD0⟩ := hv
  have hx := B.exec
  have hb := B.bytes
  have hr := B.returns
  have hts := atoms_spec (ws := wsX7_kind) B.pre
  have hown : s.vm.findClass RX7 = some m.cls := findClass_of_methodNamed B.named
  have hlocks := B.notSynchronized
  subst hsz
  have hD := hD0
  generalize hAe : (va_A [] s.heap.size) = A
  have hA : ∀ q : Nat, s.heap.size ≤ q → A q := fun q h => by rw [← hAe]; exact Or.inr h
  have hS : va_S A s.heap s.heap [] := va_S.rf
  have hP : va_P (dC, dI) vwCl (((((((((((((xW ad ca).set 1 (ad 1, .inr (7, [.ref (ad 2), .int 0, .ref (ad 3), .ref (ad 4), .ref (ad 5), .ref (ad 6), .int 1, .int 0, .int (-1), .ref (ad 7), .int 0, .ref (ad 8), .ref (ad 9), .ref (ad 10), .int 0])))).set 3 (ad 3, .inl ((ca 3), 601, .inl (upd (fun _ => 0) 0 0))))).set 4 (ad 4, .inl ((ca 4), 601, .inl (upd (fun _ => 0) 0 0))))).set 5 (ad 5, .inl ((ca 5), 601, .inl (upd (fun _ => 0) 0 1))))).set 6 (ad 6, .inl ((ca 6), 601, .inl (upd (fun _ => 0) 0 (-1)))))).set 8 (ad 8, .inl ((ca 8), 14, .inl (jfill (fun _ => 0) 14 (-1)))))) s.heap := hP
  have hl := lv_entry ([.ref (ad 1)]) (n := 1) (Nat.le_of_ble_eq_true rfl)
  rw [lg_entry_eq]
  generalize (lg_sl ([.ref (ad 1)]) ++ List.replicate (1 - (lg_sl ([.ref (ad 1)])).length) Slot.unset).toArray = ls at hl ⊢
  have hl : lv_has ls 1 [(0, .ref (ad 1))] := hl
  refine lv_aload_n hx hb dX7_kind_0 rfl (lv_at hl 0 rfl) ?_
  refine va_get (D := (dC, dI)) (ci := 7) (v := .int 0) (C := RX7) (T := TX7) (N := 15) hx hb hts hin_X7_kind_RX7 hown hK hP 1 rfl rfl 7 (by decide) (hts (.fieldLink RX7 53 "BookOfAll$Reader" "next" "I") (by decide +kernel)) (fun _ h9 => h9) rfl dX7_kind_1 ?_
  refine lv_if_lt (tgt := 42) hx hb dX7_kind_4 (by decide) (fun z => absurd z (by decide)) (fun _ => ?_)
  refine lv_aload_n hx hb dX7_kind_7 rfl (lv_at hl 0 rfl) ?_
  refine va_get (D := (dC, dI)) (ci := 7) (v := .int 0) (C := RX7) (T := TX7) (N := 15) hx hb hts hin_X7_kind_RX7 hown hK hP 1 rfl rfl 7 (by decide) (hts (.fieldLink RX7 53 "BookOfAll$Reader" "next" "I") (by decide +kernel)) (fun _ h9 => h9) rfl dX7_kind_8 ?_
  refine lv_aload_n hx hb dX7_kind_11 rfl (lv_at hl 0 rfl) ?_
  refine va_get (D := (dC, dI)) (ci := 7) (v := .int 1) (C := RX7) (T := TX7) (N := 15) hx hb hts hin_X7_kind_RX7 hown hK hP 1 rfl rfl 6 (by decide) (hts (.fieldLink RX7 106 "BookOfAll$Reader" "tokens" "I") (by decide +kernel)) (fun _ h9 => h9) rfl dX7_kind_12 ?_
  refine lv_icmp_ge (tgt := 42) hx hb dX7_kind_15 (by decide) (fun z => absurd z (by decide)) (fun _ => ?_)
  refine lv_aload_n hx hb dX7_kind_18 rfl (lv_at hl 0 rfl) ?_
  refine va_get (D := (dC, dI)) (ci := 7) (v := .int 0) (C := RX7) (T := TX7) (N := 15) hx hb hts hin_X7_kind_RX7 hown hK hP 1 rfl rfl 7 (by decide) (hts (.fieldLink RX7 53 "BookOfAll$Reader" "next" "I") (by decide +kernel)) (fun _ h9 => h9) rfl dX7_kind_19 ?_
  refine lv_aload_n hx hb dX7_kind_22 rfl (lv_at hl 0 rfl) ?_
  refine va_get (D := (dC, dI)) (ci := 7) (v := .ref (ad 3)) (C := RX7) (T := TX7) (N := 15) hx hb hts hin_X7_kind_RX7 hown hK hP 1 rfl rfl 2 (by decide) (hts (.fieldLink RX7 15 "BookOfAll$Reader" "kinds" "[I") (by decide +kernel)) (fun _ h9 => h9) rfl dX7_kind_23 ?_
  refine va_alen (v := 601) hx hb hK hP 3 1 rfl rfl (by decide) dX7_kind_26 ?_
  refine lv_icmp_ge (tgt := 42) hx hb dX7_kind_27 (by decide) (fun z => absurd z (by decide)) (fun _ => ?_)
  refine lv_aload_n hx hb dX7_kind_30 rfl (lv_at hl 0 rfl) ?_
  refine va_get (D := (dC, dI)) (ci := 7) (v := .ref (ad 3)) (C := RX7) (T := TX7) (N := 15) hx hb hts hin_X7_kind_RX7 hown hK hP 1 rfl rfl 2 (by decide) (hts (.fieldLink RX7 15 "BookOfAll$Reader" "kinds" "[I") (by decide +kernel)) (fun _ h9 => h9) rfl dX7_kind_31 ?_
  refine lv_aload_n hx hb dX7_kind_34 rfl (lv_at hl 0 rfl) ?_
  refine va_get (D := (dC, dI)) (ci := 7) (v := .int 0) (C := RX7) (T := TX7) (N := 15) hx hb hts hin_X7_kind_RX7 hown hK hP 1 rfl rfl 7 (by decide) (hts (.fieldLink RX7 53 "BookOfAll$Reader" "next" "I") (by decide +kernel)) (fun _ h9 => h9) rfl dX7_kind_35 ?_
  refine va_iald hx hb hK hP 3 1 rfl rfl (vp_in_nI (n := 0) (by decide) (by decide)) dX7_kind_38 ?_
  refine jt_i 0 (by decide) ?_
  refine lv_goto (tgt := 43) hx hb dX7_kind_39 (by decide) ?_
  exact W.iret (v := 0) hx hb hr (fun t ht hW => ⟨⟨0, (), rfl, rfl, trivial⟩, hS.F ht⟩) hS.2.2 dX7_kind_43
set_option maxHeartbeats 4000000 in
set_option maxRecDepth 100000 in
theorem kX7_parse_2 (l : Launch) (dC : Nat → ClassId) (dI : Nat → Nat → Nat) (sz : Nat) (ad : Nat → Nat) (ca : Nat → ClassId) : Met l yX7_parse wsX7_parse ({ frames := 3, cells := 0, slots := 0, locals := 67 }) (va_Pc [.ref (ad 1)] (jw_P (dC, dI) (xW ad ca) (xT ca) sz)) (va_Qi (fun (r : Int32) (_ : Unit) => (r = (-1))) (fun _ t => va_P (dC, dI) vwCl (((((((((((((xW ad ca).set 1 (ad 1, .inr (7, [.ref (ad 2), .int 0, .ref (ad 3), .ref (ad 4), .ref (ad 5), .ref (ad 6), .int 1, .int 0, .int (-1), .ref (ad 7), .int 0, .ref (ad 8), .ref (ad 9), .ref (ad 10), .int 0])))).set 3 (ad 3, .inl ((ca 3), 601, .inl (upd (fun _ => 0) 0 0))))).set 4 (ad 4, .inl ((ca 4), 601, .inl (upd (fun _ => 0) 0 0))))).set 5 (ad 5, .inl ((ca 5), 601, .inl (upd (fun _ => 0) 0 1))))).set 6 (ad 6, .inl ((ca 6), 601, .inl (upd (fun _ => 0) 0 (-1)))))).set 8 (ad 8, .inl ((ca 8), 14, .inl (jfill (fun _ => 0) 14 (-1)))))) t.heap ∧ va_K (dC, dI) vwCl (xT ca) t ∧ va_D (va_A (xW ad ca) sz) (((((((((((((xW ad ca).set 1 (ad 1, .inr (7, [.ref (ad 2), .int 0, .ref (ad 3), .ref (ad 4), .ref (ad 5), .ref (ad 6), .int 1, .int 0, .int (-1), .ref (ad 7), .int 0, .ref (ad 8), .ref (ad 9), .ref (ad 10), .int 0])))).set 3 (ad 3, .inl ((ca 3), 601, .inl (upd (fun _ => 0) 0 0))))).set 4 (ad 4, .inl ((ca 4), 601, .inl (upd (fun _ => 0) 0 0))))).set 5 (ad 5, .inl ((ca 5), 601, .inl (upd (fun _ => 0) 0 1))))).set 6 (ad 6, .inl ((ca 6), 601, .inl (upd (fun _ => 0) 0 (-1)))))).set 8 (ad 8, .inl ((ca 8), 14, .inl (jfill (fun _ => 0) 14 (-1))))))) (va_A (xW ad ca) sz)) 0 0 (va_A (xW ad ca) sz) := by
  refine Met.ofW (cc := cX7_parse) (maxL := 2) (ret := (some .int)) (by decide) rfl ?_
  intro p e s m args below meth c s₁ B hml hv
  obtain ⟨rfl, hsz, hP, hK, hD0⟩ := hv
  have hx := B.exec
  have hb := B.bytes
  have hr := B.returns
  have hts := atoms_spec (ws := wsX7_parse) B.pre
  have hown : s.vm.findClass RX7 = some m.cls := findClass_of_methodNamed B.named
  have hlocks := B.notSynchronized
  subst hsz
  have hD := hD0.self (sz := s.heap.size)
  generalize hAe : (va_A (xW ad ca) s.heap.size) = A at hD ⊢
  have hA : ∀ q : Nat, s.heap.size ≤ q → A q := fun q h => by rw [← hAe]; exact Or.inr h
  have hS : va_S A s.heap s.heap [] := va_S.rf
  have hP : va_P (dC, dI) vwCl (xW ad ca) s.heap := hP
  have hl := lv_entry ([.ref (ad 1)]) (n := 2) (Nat.le_of_ble_eq_true rfl)
  rw [lg_entry_eq]
  generalize (lg_sl ([.ref (ad 1)]) ++ List.replicate (2 - (lg_sl ([.ref (ad 1)])).length) Slot.unset).toArray = ls at hl ⊢
  have hl : lv_has ls 2 [(0, .ref (ad 1))] := hl
  refine lv_aload_n hx hb dX7_parse_0 rfl (lv_at hl 0 rfl) ?_
  refine jcw_v (va_runV (As := []) (rest := []) ⟨hx, hb, hml, hown, hts⟩ (kX7_scan_2 l dC dI _ ad ca) (cwV 0 hts gX7_parse_X7_scan rfl rfl rfl (by decide +kernel) ⟨Nat.le_of_ble_eq_true rfl, Nat.le_of_ble_eq_true rfl⟩) ⟨jw_blind, va_recv hK hP (ci := 7) (q0 := 1) rfl rfl, fun U hU hW => ⟨rfl, jw_of hU hW hP hK hD⟩⟩ rfl rfl hl.1 rfl (lv_room (Nat.le_of_ble_eq_true rfl)) dX7_parse_1 ⟨Nat.le_of_ble_eq_true rfl, Nat.le_of_ble_eq_true rfl⟩) hD hS hA (fun H locs hw_1 hP hK hD hS => ?_)
  refine lv_aload_n hx hb dX7_parse_4 rfl (lv_at hl 0 rfl) ?_
  refine lv_iconst (v := (-1)) hx hb dX7_parse_5 (by decide) ?_
  refine va_put (D := (dC, dI)) (ci := 7) (v := .int (-1)) (ty := .int) (C := RX7) (T := TX7) (N := 15) hx hb hts hin_X7_parse_RX7 tyX7 tyX7_ok nmX7 hown hK hP hD hS 1 rfl rfl 8 (by decide) (hts (.fieldLink RX7 50 "BookOfAll$Reader" "fault" "I") (by decide +kernel)) (fun _ h9 => h9) rfl (by decide +kernel) rfl rfl (Nat.le_of_ble_eq_true rfl) dX7_parse_6 (fun H locs hP hD hS => ?_)
  refine lv_aload_n hx hb dX7_parse_9 rfl (lv_at hl 0 rfl) ?_
  refine lv_iconst (v := 0) hx hb dX7_parse_10 (by decide) ?_
  refine va_put (D := (dC, dI)) (ci := 7) (v := .int 0) (ty := .int) (C := RX7) (T := TX7) (N := 15) hx hb hts hin_X7_parse_RX7 tyX7 tyX7_ok nmX7 hown hK hP hD hS 1 rfl rfl 7 (by decide) (hts (.fieldLink RX7 53 "BookOfAll$Reader" "next" "I") (by decide +kernel)) (fun _ h9 => h9) rfl (by decide +kernel) rfl rfl (Nat.le_of_ble_eq_true rfl) dX7_parse_11 (fun H locs hP hD hS => ?_)
  refine lv_aload_n hx hb dX7_parse_14 rfl (lv_at hl 0 rfl) ?_
  refine lv_iconst (v := 0) hx hb dX7_parse_15 (by decide) ?_
  refine va_put (D := (dC, dI)) (ci := 7) (v := .int 0) (ty := .int) (C := RX7) (T := TX7) (N := 15) hx hb hts hin_X7_parse_RX7 tyX7 tyX7_ok nmX7 hown hK hP hD hS 1 rfl rfl 10 (by decide) (hts (.fieldLink RX7 56 "BookOfAll$Reader" "codeSize" "I") (by decide +kernel)) (fun _ h9 => h9) rfl (by decide +kernel) rfl rfl (Nat.le_of_ble_eq_true rfl) dX7_parse_16 (fun H locs hP hD hS => ?_)
  refine lv_aload_n hx hb dX7_parse_19 rfl (lv_at hl 0 rfl) ?_
  refine lv_iconst (v := 0) hx hb dX7_parse_20 (by decide) ?_
  refine va_put (D := (dC, dI)) (ci := 7) (v := .int 0) (ty := .int) (C := RX7) (T := TX7) (N := 15) hx hb hts hin_X7_parse_RX7 tyX7 tyX7_ok nmX7 hown hK hP hD hS 1 rfl rfl 14 (by decide) (hts (.fieldLink RX7 59 "BookOfAll$Reader" "wordCount" "I") (by decide +kernel)) (fun _ h9 => h9) rfl (by decide +kernel) rfl rfl (Nat.le_of_ble_eq_true rfl) dX7_parse_21 (fun H locs hP hD hS => ?_)
  refine lv_aload_n hx hb dX7_parse_24 rfl (lv_at hl 0 rfl) ?_
  refine va_get (D := (dC, dI)) (ci := 7) (v := .ref (ad 8)) (C := RX7) (T := TX7) (N := 15) hx hb hts hin_X7_parse_RX7 hown hK hP 1 rfl rfl 11 (by decide) (hts (.fieldLink RX7 33 "BookOfAll$Reader" "from" "[I") (by decide +kernel)) (fun _ h9 => h9) rfl dX7_parse_25 ?_
  refine lv_iconst (v := (-1)) hx hb dX7_parse_28 (by decide) ?_
  refine jc1_v (k := 8) (va_runS (As := [.ref (ad 8), .int (-1)]) (rest := []) ⟨hx, hb, hml, hown, hts⟩ (kfill l dC dI _ (ad 8) 14 (ca 8) (fun _ => 0) (-1) (by decide)) (va_cwS 2 hts gX7_parse_J7_fill_53178 rfl rfl rfl (by decide +kernel) ⟨(Nat.le_of_ble_eq_true rfl), (Nat.le_of_ble_eq_true rfl)⟩) ⟨jw_blind, fun U hU hW => ⟨rfl, jw_of hU hW (jp_at hP 8 rfl) (hK.sub [6] rfl) (jd_at hD 8 rfl)⟩⟩ rfl rfl hl.1 rfl (lv_room (Nat.le_of_ble_eq_true rfl)) dX7_parse_29 ⟨(Nat.le_of_ble_eq_true rfl), (Nat.le_of_ble_eq_true rfl)⟩) hP hD rfl hS hA (fun H locs hP hD hS => ?_)
  refine lv_iconst (v := 0) hx hb dX7_parse_32 (by decide) ?_
  refine lv_istore_n (lv' := [(1, .int 0), (0, .ref (ad 1))]) hx hb dX7_parse_33 rfl hl (by decide) rfl (fun ls hl => ?_)
  refine lv_iload_n hx hb dX7_parse_34 rfl (lv_at hl 0 rfl) ?_
  refine lv_aload_n hx hb dX7_parse_35 rfl (lv_at hl 1 rfl) ?_
  refine va_get (D := (dC, dI)) (ci := 7) (v := .int 0) (C := RX7) (T := TX7) (N := 15) hx hb hts hin_X7_parse_RX7 hown hK hP 1 rfl rfl 1 (by decide) (hts (.fieldLink RX7 43 "BookOfAll$Reader" "size" "I") (by decide +kernel)) (fun _ h9 => h9) rfl dX7_parse_36 ?_
  refine lv_icmp_gt (tgt := 67) hx hb dX7_parse_39 (by decide) (fun z => absurd z (by decide)) (fun _ => ?_)
  refine lv_aload_n hx hb dX7_parse_42 rfl (lv_at hl 1 rfl) ?_
  refine va_get (D := (dC, dI)) (ci := 7) (v := .int (-1)) (C := RX7) (T := TX7) (N := 15) hx hb hts hin_X7_parse_RX7 hown hK hP 1 rfl rfl 8 (by decide) (hts (.fieldLink RX7 50 "BookOfAll$Reader" "fault" "I") (by decide +kernel)) (fun _ h9 => h9) rfl dX7_parse_43 ?_
  refine lv_iconst (v := (-1)) hx hb dX7_parse_46 (by decide) ?_
  refine lv_icmp_ne (tgt := 67) hx hb dX7_parse_47 (by decide) (fun z => absurd (by decide) z) (fun _ => ?_)
  refine lv_aload_n hx hb dX7_parse_50 rfl (lv_at hl 1 rfl) ?_
  refine jc_i (va_runV (As := []) (rest := []) ⟨hx, hb, hml, hown, hts⟩ (kX7_kind_2 l dC dI _ ad ca) (cwV 0 hts gX7_parse_X7_kind rfl rfl rfl (by decide +kernel) ⟨Nat.le_of_ble_eq_true rfl, Nat.le_of_ble_eq_true rfl⟩) ⟨jw_blind, va_recv hK hP (ci := 7) (q0 := 1) rfl rfl, fun U hU hW => ⟨rfl, jw_of hU hW hP hK hD⟩⟩ rfl rfl hl.1 rfl (lv_room (Nat.le_of_ble_eq_true rfl)) dX7_parse_51 ⟨Nat.le_of_ble_eq_true rfl, Nat.le_of_ble_eq_true rfl⟩) hP hS hA (fun r_2 H locs hw_2 hP hS => ?_)
  have hw_2 : r_2 = 0 := hw_2
  subst hw_2
  refine lv_if_eq (tgt := 67) hx hb dX7_parse_54 (by decide) (fun _ => ?_) (fun z => absurd (by decide) z)
  refine lv_aload_n hx hb dX7_parse_67 rfl (lv_at hl 1 rfl) ?_
  refine va_get (D := (dC, dI)) (ci := 7) (v := .int (-1)) (C := RX7) (T := TX7) (N := 15) hx hb hts hin_X7_parse_RX7 hown hK hP 1 rfl rfl 8 (by decide) (hts (.fieldLink RX7 50 "BookOfAll$Reader" "fault" "I") (by decide +kernel)) (fun _ h9 => h9) rfl dX7_parse_68 ?_
  exact W.iret (v := (-1)) hx hb hr (fun t ht hW => ⟨⟨(-1), (), rfl, rfl, by rw [ht]; exact hP, va_K.moved hW.alike hK, hD⟩, hS.F ht⟩) hS.2.2 dX7_parse_71
set_option maxHeartbeats 4000000 in
set_option maxRecDepth 100000 in
theorem tX12_fault (l : Launch) (dC : Nat → ClassId) (dI : Nat → Nat → Nat) (sz : Nat) (ad : Nat → Nat) (ca : Nat → ClassId) : Met l yX12_fault wsX12_fault ({ frames := 4, cells := 0, slots := 0, locals := 88 }) (va_Pc [.ref (ad 0)] (jw_P (dC, dI) (xW ad ca) (xT ca) sz)) (va_Qi (fun (r : Int32) (_ : Unit) => (r = (-1))) (fun _ t => va_P (dC, dI) vwCl (((((((((((((xW ad ca).set 1 (ad 1, .inr (7, [.ref (ad 2), .int 0, .ref (ad 3), .ref (ad 4), .ref (ad 5), .ref (ad 6), .int 1, .int 0, .int (-1), .ref (ad 7), .int 0, .ref (ad 8), .ref (ad 9), .ref (ad 10), .int 0])))).set 3 (ad 3, .inl ((ca 3), 601, .inl (upd (fun _ => 0) 0 0))))).set 4 (ad 4, .inl ((ca 4), 601, .inl (upd (fun _ => 0) 0 0))))).set 5 (ad 5, .inl ((ca 5), 601, .inl (upd (fun _ => 0) 0 1))))).set 6 (ad 6, .inl ((ca 6), 601, .inl (upd (fun _ => 0) 0 (-1)))))).set 8 (ad 8, .inl ((ca 8), 14, .inl (jfill (fun _ => 0) 14 (-1)))))) t.heap ∧ va_K (dC, dI) vwCl (xT ca) t ∧ va_D (va_A (xW ad ca) sz) (((((((((((((xW ad ca).set 1 (ad 1, .inr (7, [.ref (ad 2), .int 0, .ref (ad 3), .ref (ad 4), .ref (ad 5), .ref (ad 6), .int 1, .int 0, .int (-1), .ref (ad 7), .int 0, .ref (ad 8), .ref (ad 9), .ref (ad 10), .int 0])))).set 3 (ad 3, .inl ((ca 3), 601, .inl (upd (fun _ => 0) 0 0))))).set 4 (ad 4, .inl ((ca 4), 601, .inl (upd (fun _ => 0) 0 0))))).set 5 (ad 5, .inl ((ca 5), 601, .inl (upd (fun _ => 0) 0 1))))).set 6 (ad 6, .inl ((ca 6), 601, .inl (upd (fun _ => 0) 0 (-1)))))).set 8 (ad 8, .inl ((ca 8), 14, .inl (jfill (fun _ => 0) 14 (-1))))))) (va_A (xW ad ca) sz)) 0 0 (va_A (xW ad ca) sz) := by
  refine Met.ofW (cc := cX12_fault) (maxL := 1) (ret := (some .int)) (by decide) rfl ?_
  intro p e s m args below meth c s₁ B hml hv
  obtain ⟨rfl, hsz, hP, hK, hD0⟩ := hv
  have hx := B.exec
  have hb := B.bytes
  have hr := B.returns
  have hts := atoms_spec (ws := wsX12_fault) B.pre
  have hown : s.vm.findClass RX12 = some m.cls := findClass_of_methodNamed B.named
  have hlocks := B.notSynchronized
  subst hsz
  have hD := hD0.self (sz := s.heap.size)
  generalize hAe : (va_A (xW ad ca) s.heap.size) = A at hD ⊢
  have hA : ∀ q : Nat, s.heap.size ≤ q → A q := fun q h => by rw [← hAe]; exact Or.inr h
  have hS : va_S A s.heap s.heap [] := va_S.rf
  have hP : va_P (dC, dI) vwCl (xW ad ca) s.heap := hP
  have hl := lv_entry ([.ref (ad 0)]) (n := 1) (Nat.le_of_ble_eq_true rfl)
  rw [lg_entry_eq]
  generalize (lg_sl ([.ref (ad 0)]) ++ List.replicate (1 - (lg_sl ([.ref (ad 0)])).length) Slot.unset).toArray = ls at hl ⊢
  have hl : lv_has ls 1 [(0, .ref (ad 0))] := hl
  refine lv_aload_n hx hb dX12_fault_0 rfl (lv_at hl 0 rfl) ?_
  refine va_get (D := (dC, dI)) (ci := 12) (v := .ref (ad 1)) (C := RX12) (T := TX12) (N := 20) hx hb hts hin_X12_fault_RX12 hown hK hP 0 rfl rfl 2 (by decide) (hts (.fieldLink RX12 10 "BookOfAll" "reader" "LBookOfAll$Reader;") (by decide +kernel)) (fun _ h9 => h9) rfl dX12_fault_1 ?_
  refine jcw_i (va_runV (As := []) (rest := []) ⟨hx, hb, hml, hown, hts⟩ (kX7_parse_2 l dC dI _ ad ca) (cwV 0 hts gX12_fault_X7_parse rfl rfl rfl (by decide +kernel) ⟨Nat.le_of_ble_eq_true rfl, Nat.le_of_ble_eq_true rfl⟩) ⟨jw_blind, va_recv hK hP (ci := 7) (q0 := 1) rfl rfl, fun U hU hW => ⟨rfl, jw_of hU hW hP hK hD⟩⟩ rfl rfl hl.1 rfl (lv_room (Nat.le_of_ble_eq_true rfl)) dX12_fault_4 ⟨Nat.le_of_ble_eq_true rfl, Nat.le_of_ble_eq_true rfl⟩) hD hS hA (fun r_1 H locs hw_1 hP hK hD hS => ?_)
  have hw_1 : r_1 = (-1) := hw_1
  subst hw_1
  exact W.iret (v := (-1)) hx hb hr (fun t ht hW => ⟨⟨(-1), (), rfl, rfl, by rw [ht]; exact hP, va_K.moved hW.alike hK, hD⟩, hS.F ht⟩) hS.2.2 dX12_fault_7
set_option maxHeartbeats 4000000 in
set_option maxRecDepth 100000 in
theorem tX12_forget (l : Launch) (dC : Nat → ClassId) (dI : Nat → Nat → Nat) (sz : Nat) (ad : Nat → Nat) (ca : Nat → ClassId) : Met l yX12_forget wsX12_forget ({ frames := 0, cells := 0, slots := 0, locals := 0 }) (va_Pc [.ref (ad 0)] (jw_P (dC, dI) (xW ad ca) (xT ca) sz)) (va_Qi (fun (r : Int32) (_ : Unit) => (r = 0)) (fun _ _ => True) (va_A [] sz)) 0 0 (va_A [] sz) := by
  refine Met.ofW (cc := cX12_forget) (maxL := 2) (ret := (some .int)) (by decide) rfl ?_
  intro p e s m args below meth c s₁ B hml hv
  obtain ⟨rfl, hsz, hP, hK, hD0⟩ := hv
  have hx := B.exec
  have hb := B.bytes
  have hr := B.returns
  have hts := atoms_spec (ws := wsX12_forget) B.pre
  have hown : s.vm.findClass RX12 = some m.cls := findClass_of_methodNamed B.named
  have hlocks := B.notSynchronized
  subst hsz
  have hD := hD0
  generalize hAe : (va_A [] s.heap.size) = A
  have hA : ∀ q : Nat, s.heap.size ≤ q → A q := fun q h => by rw [← hAe]; exact Or.inr h
  have hS : va_S A s.heap s.heap [] := va_S.rf
  have hP : va_P (dC, dI) vwCl (xW ad ca) s.heap := hP
  have hl := lv_entry ([.ref (ad 0)]) (n := 2) (Nat.le_of_ble_eq_true rfl)
  rw [lg_entry_eq]
  generalize (lg_sl ([.ref (ad 0)]) ++ List.replicate (2 - (lg_sl ([.ref (ad 0)])).length) Slot.unset).toArray = ls at hl ⊢
  have hl : lv_has ls 2 [(0, .ref (ad 0))] := hl
  refine lv_aload_n hx hb dX12_forget_0 rfl (lv_at hl 0 rfl) ?_
  refine va_get (D := (dC, dI)) (ci := 12) (v := .ref (ad 70)) (C := RX12) (T := TX12) (N := 20) hx hb hts hin_X12_forget_RX12 hown hK hP 0 rfl rfl 19 (by decide) (hts (.fieldLink RX12 99 "BookOfAll" "robber" "LBookOfAll$Thief;") (by decide +kernel)) (fun _ h9 => h9) rfl dX12_forget_1 ?_
  refine va_get (D := (dC, dI)) (ci := 10) (v := .int 0) (C := RX10) (T := TX10) (N := 3) hx hb hts hin_X12_forget_RX10 hown hK hP 70 rfl rfl 1 (by decide) (hts (.fieldLink RX12 574 "BookOfAll$Thief" "size" "I") (by decide +kernel)) (fun _ h9 => h9) rfl dX12_forget_4 ?_
  refine lv_istore_n (lv' := [(1, .int 0), (0, .ref (ad 0))]) hx hb dX12_forget_7 rfl hl (by decide) rfl (fun ls hl => ?_)
  refine lv_aload_n hx hb dX12_forget_8 rfl (lv_at hl 1 rfl) ?_
  refine va_get (D := (dC, dI)) (ci := 12) (v := .ref (ad 70)) (C := RX12) (T := TX12) (N := 20) hx hb hts hin_X12_forget_RX12 hown hK hP 0 rfl rfl 19 (by decide) (hts (.fieldLink RX12 99 "BookOfAll" "robber" "LBookOfAll$Thief;") (by decide +kernel)) (fun _ h9 => h9) rfl dX12_forget_9 ?_
  refine lv_iconst (v := 0) hx hb dX12_forget_12 (by decide) ?_
  refine va_put (D := (dC, dI)) (ci := 10) (v := .int 0) (ty := .int) (C := RX10) (T := TX10) (N := 3) hx hb hts hin_X12_forget_RX10 tyX10 tyX10_ok nmX10 hown hK hP hD hS 70 rfl rfl 1 (by decide) (hts (.fieldLink RX12 574 "BookOfAll$Thief" "size" "I") (by decide +kernel)) (fun _ h9 => h9) rfl (by decide +kernel) rfl rfl (Nat.le_of_ble_eq_true rfl) dX12_forget_13 (fun H locs hP hD hS => ?_)
  refine lv_iload_n hx hb dX12_forget_16 rfl (lv_at hl 0 rfl) ?_
  exact W.iret (v := 0) hx hb hr (fun t ht hW => ⟨⟨0, (), rfl, rfl, trivial⟩, hS.F ht⟩) hS.2.2 dX12_forget_17
set_option maxHeartbeats 4000000 in
set_option maxRecDepth 100000 in
theorem iX2_init_1 (l : Launch) (dC : Nat → ClassId) (dI : Nat → Nat → Nat) (sz h0 : Nat) (p0 : Int32) (p1 : Int32) (p2 : Int32) : Met l yX2_init wsX2_init ({ frames := 1, cells := 0, slots := 0, locals := 40 }) (va_Pc [.ref h0, .int p0, .int p1, .int p2] (jw_P (dC, dI) [(h0, .inr (2, [.int 0, .int 0, .int 0, .int 0, .int 0, .int 0]))] [] sz)) (va_Qv (fun (_ : ((Nat → Nat) × (Nat → ClassId))) => True) (fun u t => va_P (dC, dI) vwCl [(h0, .inr (2, [.int p0, .int p1, .int p2, .int 1, .int 0, .int 0]))] t.heap ∧ va_K (dC, dI) vwCl [] t ∧ va_D (va_A [(h0, .inr (2, [.int 0, .int 0, .int 0, .int 0, .int 0, .int 0]))] sz) [(h0, .inr (2, [.int p0, .int p1, .int p2, .int 1, .int 0, .int 0]))]) (va_A [(h0, .inr (2, [.int 0, .int 0, .int 0, .int 0, .int 0, .int 0]))] sz)) 0 0 (va_A [(h0, .inr (2, [.int 0, .int 0, .int 0, .int 0, .int 0, .int 0]))] sz) := by
  refine Met.ofW (cc := cX2_init) (maxL := 4) (ret := none) (by decide) rfl ?_
  intro p e s m args below meth c s₁ B hml hv
  obtain ⟨rfl, hsz, hP, hK, hD0⟩ := hv
  have hx := B.exec
  have hb := B.bytes
  have hr := B.returns
  have hts := atoms_spec (ws := wsX2_init) B.pre
  have hown : s.vm.findClass RX2 = some m.cls := findClass_of_methodNamed B.named
  have hlocks := B.notSynchronized
  have hin : meth.name = "<init>" := (name_of_methodNamed B.named B.method).1
  subst hsz
  have hD := hD0.self (sz := s.heap.size)
  generalize hAe : (va_A [(h0, .inr (2, [.int 0, .int 0, .int 0, .int 0, .int 0, .int 0]))] s.heap.size) = A at hD ⊢
  have hA : ∀ q : Nat, s.heap.size ≤ q → A q := fun q h => by rw [← hAe]; exact Or.inr h
  have hS : va_S A s.heap s.heap [] := va_S.rf
  have hP : va_P (dC, dI) vwCl [(h0, .inr (2, [.int 0, .int 0, .int 0, .int 0, .int 0, .int 0]))] s.heap := hP
  have hl := lv_entry ([.ref h0, .int p0, .int p1, .int p2]) (n := 4) (Nat.le_of_ble_eq_true rfl)
  rw [lg_entry_eq]
  generalize (lg_sl ([.ref h0, .int p0, .int p1, .int p2]) ++ List.replicate (4 - (lg_sl ([.ref h0, .int p0, .int p1, .int p2])).length) Slot.unset).toArray = ls at hl ⊢
  have hl : lv_has ls 4 [(0, .ref h0), (1, .int p0), (2, .int p1), (3, .int p2)] := hl
  refine lv_aload_n hx hb dX2_init_0 rfl (lv_at hl 0 rfl) ?_
  refine W.objInit hx hb hown (hts (.methodLink RX2 1 objectInit) (by decide +kernel)) (hts (.instanceMethod objectInit) (by decide +kernel)) (hts (.code objectInit ⟨#[0xb1]⟩ 1 none) (by decide +kernel)) rfl (by rw [hml]; exact hl.1) rfl dX2_init_1 (Nat.le_of_ble_eq_true rfl) (Nat.le_of_ble_eq_true rfl) ?_
  refine W.eq (g2 := F0 m 4 ls []) rfl ?_
  refine lv_aload_n hx hb dX2_init_4 rfl (lv_at hl 0 rfl) ?_
  refine lv_iconst (v := 1) hx hb dX2_init_5 (by decide) ?_
  refine va_put (D := (dC, dI)) (ci := 2) (v := .int 1) (ty := .boolean) (C := RX2) (T := TX2) (N := 6) hx hb hts hin_X2_init_RX2 tyX2 tyX2_ok nmX2 hown hK hP hD hS 0 rfl rfl 3 (by decide) (hts (.fieldLink RX2 7 "BookOfAll$Hand" "lives" "Z") (by decide +kernel)) (fun _ h9 => h9) rfl (by decide +kernel) rfl rfl (Nat.le_of_ble_eq_true rfl) dX2_init_6 (fun H locs hP hD hS => ?_)
  refine lv_aload_n hx hb dX2_init_9 rfl (lv_at hl 0 rfl) ?_
  refine lv_iload_n hx hb dX2_init_10 rfl (lv_at hl 1 rfl) ?_
  refine va_putF (D := (dC, dI)) (ci := 2) (v := .int p0) (ty := .int) (C := RX2) (T := TX2) (N := 6) hx hb hts hin_X2_init_RX2 tyX2 tyX2_ok nmX2 hown hK hP hD hS 0 rfl rfl 0 (by decide) (hts (.fieldLink RX2 13 "BookOfAll$Hand" "fields" "I") (by decide +kernel)) (fun _ h9 => h9) rfl hin rfl (by decide +kernel) rfl rfl (Nat.le_of_ble_eq_true rfl) dX2_init_11 (fun H locs hP hD hS => ?_)
  refine lv_aload_n hx hb dX2_init_14 rfl (lv_at hl 0 rfl) ?_
  refine lv_iload_n hx hb dX2_init_15 rfl (lv_at hl 2 rfl) ?_
  refine va_putF (D := (dC, dI)) (ci := 2) (v := .int p1) (ty := .int) (C := RX2) (T := TX2) (N := 6) hx hb hts hin_X2_init_RX2 tyX2 tyX2_ok nmX2 hown hK hP hD hS 0 rfl rfl 1 (by decide) (hts (.fieldLink RX2 17 "BookOfAll$Hand" "skill" "I") (by decide +kernel)) (fun _ h9 => h9) rfl hin rfl (by decide +kernel) rfl rfl (Nat.le_of_ble_eq_true rfl) dX2_init_16 (fun H locs hP hD hS => ?_)
  refine lv_aload_n hx hb dX2_init_19 rfl (lv_at hl 0 rfl) ?_
  refine lv_iload_n hx hb dX2_init_20 rfl (lv_at hl 3 rfl) ?_
  refine va_putF (D := (dC, dI)) (ci := 2) (v := .int p2) (ty := .int) (C := RX2) (T := TX2) (N := 6) hx hb hts hin_X2_init_RX2 tyX2 tyX2_ok nmX2 hown hK hP hD hS 0 rfl rfl 2 (by decide) (hts (.fieldLink RX2 20 "BookOfAll$Hand" "born" "I") (by decide +kernel)) (fun _ h9 => h9) rfl hin rfl (by decide +kernel) rfl rfl (Nat.le_of_ble_eq_true rfl) dX2_init_21 (fun H locs hP hD hS => ?_)
  exact W.vret hx hb hr (fun t ht hW => ⟨⟨(fun k => [0].getD k 0, fun k => [dC 0].getD k (dC 0)), rfl, trivial, by rw [ht]; exact hP, va_K.moved hW.alike hK, hD⟩, hS.F ht⟩) hS.2.2 dX2_init_24
theorem s_tX12_hand_0 {p1 p2 p3 : Int32} (c_1 : p1 < 1) : (-1) = sp_hand p1 p2 p3 := by
  unfold sp_hand
  have g0 : p1.toInt < 1 := ji_lt.mp c_1
  split <;> first | rfl | (exfalso; omega)
theorem s_tX12_hand_1 {p1 p2 p3 : Int32} (c_1 : ¬ (p1 < 1)) (c_2 : 255 < p1) : (-1) = sp_hand p1 p2 p3 := by
  unfold sp_hand
  have g0 : ¬ (p1.toInt < 1) := fun z => c_1 (ji_lt.mpr z)
  have g1 : 255 < p1.toInt := ji_lt.mp c_2
  split <;> first | rfl | (exfalso; omega)
theorem s_tX12_hand_2 {p1 p2 p3 : Int32} (c_1 : ¬ (p1 < 1)) (c_2 : ¬ (255 < p1)) (c_3 : p2 < 1) : (-1) = sp_hand p1 p2 p3 := by
  unfold sp_hand
  have g0 : ¬ (p1.toInt < 1) := fun z => c_1 (ji_lt.mpr z)
  have g1 : ¬ (255 < p1.toInt) := fun z => c_2 (ji_lt.mpr z)
  have g2 : p2.toInt < 1 := ji_lt.mp c_3
  split <;> first | rfl | (exfalso; omega)
theorem s_tX12_hand_3 {p1 p2 p3 : Int32} (c_1 : ¬ (p1 < 1)) (c_2 : ¬ (255 < p1)) (c_3 : ¬ (p2 < 1)) (c_4 : 20 < p2) : (-1) = sp_hand p1 p2 p3 := by
  unfold sp_hand
  have g0 : ¬ (p1.toInt < 1) := fun z => c_1 (ji_lt.mpr z)
  have g1 : ¬ (255 < p1.toInt) := fun z => c_2 (ji_lt.mpr z)
  have g2 : ¬ (p2.toInt < 1) := fun z => c_3 (ji_lt.mpr z)
  have g3 : 20 < p2.toInt := ji_lt.mp c_4
  split <;> first | rfl | (exfalso; omega)
theorem s_tX12_hand_4 {p1 p2 p3 : Int32} (c_1 : ¬ (p1 < 1)) (c_2 : ¬ (255 < p1)) (c_3 : ¬ (p2 < 1)) (c_4 : ¬ (20 < p2)) (c_5 : p3 < (-40000)) : (-1) = sp_hand p1 p2 p3 := by
  unfold sp_hand
  have g0 : ¬ (p1.toInt < 1) := fun z => c_1 (ji_lt.mpr z)
  have g1 : ¬ (255 < p1.toInt) := fun z => c_2 (ji_lt.mpr z)
  have g2 : ¬ (p2.toInt < 1) := fun z => c_3 (ji_lt.mpr z)
  have g3 : ¬ (20 < p2.toInt) := fun z => c_4 (ji_lt.mpr z)
  have g4 : p3.toInt < (-40000) := ji_lt.mp c_5
  split <;> first | rfl | (exfalso; omega)
theorem s_tX12_hand_5 {p1 p2 p3 : Int32} (c_1 : ¬ (p1 < 1)) (c_2 : ¬ (255 < p1)) (c_3 : ¬ (p2 < 1)) (c_4 : ¬ (20 < p2)) (c_5 : ¬ (p3 < (-40000))) (c_6 : 0 < p3) : (-1) = sp_hand p1 p2 p3 := by
  unfold sp_hand
  have g0 : ¬ (p1.toInt < 1) := fun z => c_1 (ji_lt.mpr z)
  have g1 : ¬ (255 < p1.toInt) := fun z => c_2 (ji_lt.mpr z)
  have g2 : ¬ (p2.toInt < 1) := fun z => c_3 (ji_lt.mpr z)
  have g3 : ¬ (20 < p2.toInt) := fun z => c_4 (ji_lt.mpr z)
  have g4 : ¬ (p3.toInt < (-40000)) := fun z => c_5 (ji_lt.mpr z)
  have g5 : 0 < p3.toInt := ji_lt.mp c_6
  split <;> first | rfl | (exfalso; omega)
theorem s_tX12_hand_6 {p1 p2 p3 : Int32} (c_1 : ¬ (p1 < 1)) (c_2 : ¬ (255 < p1)) (c_3 : ¬ (p2 < 1)) (c_4 : ¬ (20 < p2)) (c_5 : ¬ (p3 < (-40000))) (c_6 : ¬ (0 < p3)) : 0 = sp_hand p1 p2 p3 := by
  unfold sp_hand
  have g0 : ¬ (p1.toInt < 1) := fun z => c_1 (ji_lt.mpr z)
  have g1 : ¬ (255 < p1.toInt) := fun z => c_2 (ji_lt.mpr z)
  have g2 : ¬ (p2.toInt < 1) := fun z => c_3 (ji_lt.mpr z)
  have g3 : ¬ (20 < p2.toInt) := fun z => c_4 (ji_lt.mpr z)
  have g4 : ¬ (p3.toInt < (-40000)) := fun z => c_5 (ji_lt.mpr z)
  have g5 : ¬ (0 < p3.toInt) := fun z => c_6 (ji_lt.mpr z)
  split <;> first | rfl | (exfalso; omega)
set_option maxHeartbeats 4000000 in
set_option maxRecDepth 100000 in
theorem tX12_hand (l : Launch) (dC : Nat → ClassId) (dI : Nat → Nat → Nat) (sz : Nat) (ad : Nat → Nat) (ca : Nat → ClassId) (p1 : Int32) (p2 : Int32) (p3 : Int32) : Met l yX12_hand wsX12_hand ({ frames := 2, cells := 1, slots := 6, locals := 63 }) (va_Pc [.ref (ad 0), .int p1, .int p2, .int p3] (jw_P (dC, dI) (xW ad ca) (xT ca) sz)) (va_Qi (fun (r : Int32) (_ : Unit) => r = sp_hand p1 p2 p3) (fun _ _ => True) (va_A (xW ad ca) sz)) 1 6 (va_A (xW ad ca) sz) := by
  refine Met.ofW (cc := cX12_hand) (maxL := 5) (ret := (some .int)) (by decide) rfl ?_
  intro p e s m args below meth c s₁ B hml hv
  obtain ⟨rfl, hsz, hP, hK, hD0⟩ := hv
  have hx := B.exec
  have hb := B.bytes
  have hr := B.returns
  have hts := atoms_spec (ws := wsX12_hand) B.pre
  have hown : s.vm.findClass RX12 = some m.cls := findClass_of_methodNamed B.named
  have hlocks := B.notSynchronized
  subst hsz
  have hD := hD0.self (sz := s.heap.size)
  generalize hAe : (va_A (xW ad ca) s.heap.size) = A at hD ⊢
  have hA : ∀ q : Nat, s.heap.size ≤ q → A q := fun q h => by rw [← hAe]; exact Or.inr h
  have hS : va_S A s.heap s.heap [] := va_S.rf
  have hP : va_P (dC, dI) vwCl (xW ad ca) s.heap := hP
  have hl := lv_entry ([.ref (ad 0), .int p1, .int p2, .int p3]) (n := 5) (Nat.le_of_ble_eq_true rfl)
  rw [lg_entry_eq]
  generalize (lg_sl ([.ref (ad 0), .int p1, .int p2, .int p3]) ++ List.replicate (5 - (lg_sl ([.ref (ad 0), .int p1, .int p2, .int p3])).length) Slot.unset).toArray = ls at hl ⊢
  have hl : lv_has ls 5 [(0, .ref (ad 0)), (1, .int p1), (2, .int p2), (3, .int p3)] := hl
  refine lv_iload_n hx hb dX12_hand_0 rfl (lv_at hl 1 rfl) ?_
  refine lv_iconst (v := 1) hx hb dX12_hand_1 (by decide) ?_
  refine lv_icmp_lt (tgt := 38) hx hb dX12_hand_2 (by decide) (fun c_1 => ?_) (fun c_1 => ?_)
  · refine lv_iconst (v := 0) hx hb dX12_hand_38 (by decide) ?_
    refine lv_istore (lv' := [(4, .int 0), (0, .ref (ad 0)), (1, .int p1), (2, .int p2), (3, .int p3)]) hx hb dX12_hand_39 hl (by decide) rfl (fun ls hl => ?_)
    refine lv_iload hx hb dX12_hand_41 (lv_at hl 0 rfl) ?_
    refine lv_if_eq (tgt := 55) hx hb dX12_hand_43 (by decide) (fun _ => ?_) (fun z => absurd (by decide) z)
    refine lv_iconst (v := (-1)) hx hb dX12_hand_55 (by decide) ?_
    refine W.widen (k := 1) (n := 6) (Nat.le_of_ble_eq_true rfl) (Nat.le_of_ble_eq_true rfl) ?_
    exact W.iret (v := (-1)) hx hb hr (fun t ht hW => ⟨⟨(-1), (), rfl, (s_tX12_hand_0 (p1 := p1) (p2 := p2) (p3 := p3) c_1), trivial⟩, hS.F ht⟩) hS.2.2 dX12_hand_56
  · refine lv_iload_n hx hb dX12_hand_5 rfl (lv_at hl 1 rfl) ?_
    refine lv_sipush (v := 255) hx hb dX12_hand_6 (by decide) ?_
    refine lv_icmp_gt (tgt := 38) hx hb dX12_hand_9 (by decide) (fun c_2 => ?_) (fun c_2 => ?_)
    · refine lv_iconst (v := 0) hx hb dX12_hand_38 (by decide) ?_
      refine lv_istore (lv' := [(4, .int 0), (0, .ref (ad 0)), (1, .int p1), (2, .int p2), (3, .int p3)]) hx hb dX12_hand_39 hl (by decide) rfl (fun ls hl => ?_)
      refine lv_iload hx hb dX12_hand_41 (lv_at hl 0 rfl) ?_
      refine lv_if_eq (tgt := 55) hx hb dX12_hand_43 (by decide) (fun _ => ?_) (fun z => absurd (by decide) z)
      refine lv_iconst (v := (-1)) hx hb dX12_hand_55 (by decide) ?_
      refine W.widen (k := 1) (n := 6) (Nat.le_of_ble_eq_true rfl) (Nat.le_of_ble_eq_true rfl) ?_
      exact W.iret (v := (-1)) hx hb hr (fun t ht hW => ⟨⟨(-1), (), rfl, (s_tX12_hand_1 (p1 := p1) (p2 := p2) (p3 := p3) c_1 c_2), trivial⟩, hS.F ht⟩) hS.2.2 dX12_hand_56
    · refine lv_iload_n hx hb dX12_hand_12 rfl (lv_at hl 2 rfl) ?_
      refine lv_iconst (v := 1) hx hb dX12_hand_13 (by decide) ?_
      refine lv_icmp_lt (tgt := 38) hx hb dX12_hand_14 (by decide) (fun c_3 => ?_) (fun c_3 => ?_)
      · refine lv_iconst (v := 0) hx hb dX12_hand_38 (by decide) ?_
        refine lv_istore (lv' := [(4, .int 0), (0, .ref (ad 0)), (1, .int p1), (2, .int p2), (3, .int p3)]) hx hb dX12_hand_39 hl (by decide) rfl (fun ls hl => ?_)
        refine lv_iload hx hb dX12_hand_41 (lv_at hl 0 rfl) ?_
        refine lv_if_eq (tgt := 55) hx hb dX12_hand_43 (by decide) (fun _ => ?_) (fun z => absurd (by decide) z)
        refine lv_iconst (v := (-1)) hx hb dX12_hand_55 (by decide) ?_
        refine W.widen (k := 1) (n := 6) (Nat.le_of_ble_eq_true rfl) (Nat.le_of_ble_eq_true rfl) ?_
        exact W.iret (v := (-1)) hx hb hr (fun t ht hW => ⟨⟨(-1), (), rfl, (s_tX12_hand_2 (p1 := p1) (p2 := p2) (p3 := p3) c_1 c_2 c_3), trivial⟩, hS.F ht⟩) hS.2.2 dX12_hand_56
      · refine lv_iload_n hx hb dX12_hand_17 rfl (lv_at hl 2 rfl) ?_
        refine lv_bipush (v := 20) hx hb dX12_hand_18 (by decide) ?_
        refine lv_icmp_gt (tgt := 38) hx hb dX12_hand_20 (by decide) (fun c_4 => ?_) (fun c_4 => ?_)
        · refine lv_iconst (v := 0) hx hb dX12_hand_38 (by decide) ?_
          refine lv_istore (lv' := [(4, .int 0), (0, .ref (ad 0)), (1, .int p1), (2, .int p2), (3, .int p3)]) hx hb dX12_hand_39 hl (by decide) rfl (fun ls hl => ?_)
          refine lv_iload hx hb dX12_hand_41 (lv_at hl 0 rfl) ?_
          refine lv_if_eq (tgt := 55) hx hb dX12_hand_43 (by decide) (fun _ => ?_) (fun z => absurd (by decide) z)
          refine lv_iconst (v := (-1)) hx hb dX12_hand_55 (by decide) ?_
          refine W.widen (k := 1) (n := 6) (Nat.le_of_ble_eq_true rfl) (Nat.le_of_ble_eq_true rfl) ?_
          exact W.iret (v := (-1)) hx hb hr (fun t ht hW => ⟨⟨(-1), (), rfl, (s_tX12_hand_3 (p1 := p1) (p2 := p2) (p3 := p3) c_1 c_2 c_3 c_4), trivial⟩, hS.F ht⟩) hS.2.2 dX12_hand_56
        · refine lv_iload_n hx hb dX12_hand_23 rfl (lv_at hl 3 rfl) ?_
          refine lv_ldcw hx hb hown (hts (.constant RX12 291 (-40000)) (by decide +kernel)) dX12_hand_24 ?_
          refine lv_icmp_lt (tgt := 38) hx hb dX12_hand_27 (by decide) (fun c_5 => ?_) (fun c_5 => ?_)
          · refine lv_iconst (v := 0) hx hb dX12_hand_38 (by decide) ?_
            refine lv_istore (lv' := [(4, .int 0), (0, .ref (ad 0)), (1, .int p1), (2, .int p2), (3, .int p3)]) hx hb dX12_hand_39 hl (by decide) rfl (fun ls hl => ?_)
            refine lv_iload hx hb dX12_hand_41 (lv_at hl 0 rfl) ?_
            refine lv_if_eq (tgt := 55) hx hb dX12_hand_43 (by decide) (fun _ => ?_) (fun z => absurd (by decide) z)
            refine lv_iconst (v := (-1)) hx hb dX12_hand_55 (by decide) ?_
            refine W.widen (k := 1) (n := 6) (Nat.le_of_ble_eq_true rfl) (Nat.le_of_ble_eq_true rfl) ?_
            exact W.iret (v := (-1)) hx hb hr (fun t ht hW => ⟨⟨(-1), (), rfl, (s_tX12_hand_4 (p1 := p1) (p2 := p2) (p3 := p3) c_1 c_2 c_3 c_4 c_5), trivial⟩, hS.F ht⟩) hS.2.2 dX12_hand_56
          · refine lv_iload_n hx hb dX12_hand_30 rfl (lv_at hl 3 rfl) ?_
            refine lv_if_gt (tgt := 38) hx hb dX12_hand_31 (by decide) (fun c_6 => ?_) (fun c_6 => ?_)
            · refine lv_iconst (v := 0) hx hb dX12_hand_38 (by decide) ?_
              refine lv_istore (lv' := [(4, .int 0), (0, .ref (ad 0)), (1, .int p1), (2, .int p2), (3, .int p3)]) hx hb dX12_hand_39 hl (by decide) rfl (fun ls hl => ?_)
              refine lv_iload hx hb dX12_hand_41 (lv_at hl 0 rfl) ?_
              refine lv_if_eq (tgt := 55) hx hb dX12_hand_43 (by decide) (fun _ => ?_) (fun z => absurd (by decide) z)
              refine lv_iconst (v := (-1)) hx hb dX12_hand_55 (by decide) ?_
              refine W.widen (k := 1) (n := 6) (Nat.le_of_ble_eq_true rfl) (Nat.le_of_ble_eq_true rfl) ?_
              exact W.iret (v := (-1)) hx hb hr (fun t ht hW => ⟨⟨(-1), (), rfl, (s_tX12_hand_5 (p1 := p1) (p2 := p2) (p3 := p3) c_1 c_2 c_3 c_4 c_5 c_6), trivial⟩, hS.F ht⟩) hS.2.2 dX12_hand_56
            · refine lv_iconst (v := 1) hx hb dX12_hand_34 (by decide) ?_
              refine lv_goto (tgt := 39) hx hb dX12_hand_35 (by decide) ?_
              refine lv_istore (lv' := [(4, .int 1), (0, .ref (ad 0)), (1, .int p1), (2, .int p2), (3, .int p3)]) hx hb dX12_hand_39 hl (by decide) rfl (fun ls hl => ?_)
              refine lv_iload hx hb dX12_hand_41 (lv_at hl 0 rfl) ?_
              refine lv_if_eq (tgt := 55) hx hb dX12_hand_43 (by decide) (fun z => absurd z (by decide)) (fun _ => ?_)
              refine lv_aload_n hx hb dX12_hand_46 rfl (lv_at hl 1 rfl) ?_
              refine va_get (D := (dC, dI)) (ci := 12) (v := .int 0) (C := RX12) (T := TX12) (N := 20) hx hb hts hin_X12_hand_RX12 hown hK hP 0 rfl rfl 11 (by decide) (hts (.fieldLink RX12 292 "BookOfAll" "handCount" "I") (by decide +kernel)) (fun _ h9 => h9) rfl dX12_hand_47 ?_
              refine lv_bipush (v := 12) hx hb dX12_hand_50 (by decide) ?_
              refine lv_icmp_lt (tgt := 57) hx hb dX12_hand_52 (by decide) (fun _ => ?_) (fun z => absurd (by decide) z)
              refine lv_aload_n hx hb dX12_hand_57 rfl (lv_at hl 1 rfl) ?_
              refine va_get (D := (dC, dI)) (ci := 12) (v := .ref (ad 40)) (C := RX12) (T := TX12) (N := 20) hx hb hts hin_X12_hand_RX12 hown hK hP 0 rfl rfl 10 (by decide) (hts (.fieldLink RX12 53 "BookOfAll" "hands" "[LBookOfAll$Hand;") (by decide +kernel)) (fun _ h9 => h9) rfl dX12_hand_58 ?_
              refine lv_aload_n hx hb dX12_hand_61 rfl (lv_at hl 1 rfl) ?_
              refine va_get (D := (dC, dI)) (ci := 12) (v := .int 0) (C := RX12) (T := TX12) (N := 20) hx hb hts hin_X12_hand_RX12 hown hK hP 0 rfl rfl 11 (by decide) (hts (.fieldLink RX12 292 "BookOfAll" "handCount" "I") (by decide +kernel)) (fun _ h9 => h9) rfl dX12_hand_62 ?_
              refine va_new (ci := 2) (fs := [.int 0, .int 0, .int 0, .int 0, .int 0, .int 0]) (C := RX2) (T := TX2) (N := 6) hx hb hts hin_X12_hand_RX2 tyX2 tyX2_ok hown (hts (.classLink RX12 51 RX2) (by decide +kernel)) (hts (.instantiable RX2 6) (by decide +kernel)) (hts (.initialized RX2) (by decide +kernel)) hK hP hD hS hA rfl (jd_RX2) (Nat.le_of_ble_eq_true rfl) (Nat.le_of_ble_eq_true rfl) dX12_hand_65 (fun q1 H hP hD hS => ?_)
              refine W.widen (k := 1) (n := 6) (Nat.le_of_ble_eq_true rfl) (Nat.le_of_ble_eq_true rfl) ?_
              refine lv_dup hx hb dX12_hand_68 rfl ?_
              refine lv_iload_n hx hb dX12_hand_69 rfl (lv_at hl 2 rfl) ?_
              refine lv_iload_n hx hb dX12_hand_70 rfl (lv_at hl 3 rfl) ?_
              refine lv_iload_n hx hb dX12_hand_71 rfl (lv_at hl 4 rfl) ?_
              refine jci_v (va_runI (As := [.int p1, .int p2, .int p3]) (rest := [.ref q1, .int 0, .ref (ad 40)]) ⟨hx, hb, hml, hown, hts⟩ (iX2_init_1 l dC dI _ (q1) p1 p2 p3) (cwI 3 hts gX12_hand_X2_init rfl rfl rfl (hts (.initialized RX2) (by decide +kernel)) (hts (.methodLink RX12 295 yX2_init) (by decide +kernel)) (hts (.instanceMethod yX2_init) (by decide +kernel)) rfl (by decide +kernel) ⟨(Nat.le_of_ble_eq_true rfl), (Nat.le_of_ble_eq_true rfl)⟩) ⟨jw_blind, fun U hU hW => ⟨rfl, jw_of hU hW (jp_last hP) (hK.sub [] rfl) (jd_last hD)⟩⟩ rfl rfl hl.1 rfl (lv_room (Nat.le_of_ble_eq_true rfl)) dX12_hand_72 ⟨(Nat.le_of_ble_eq_true rfl), (Nat.le_of_ble_eq_true rfl)⟩) hP hD hS hA (fun u_7 H locs hP hK2 hD hS => ?_)
              have hK := hK.app hK2
              refine W.widen (k := 1) (n := 6) (Nat.le_of_ble_eq_true rfl) (Nat.le_of_ble_eq_true rfl) ?_
              refine va_astq hx hb hK hP hD hS 40 30 73 2 rfl rfl rfl rfl (vp_in_nI (n := 0) (by decide) (by decide)) dX12_hand_75 (fun H locs hP hD hS => ?_)
              refine lv_aload_n hx hb dX12_hand_76 rfl (lv_at hl 1 rfl) ?_
              refine lv_dup hx hb dX12_hand_77 rfl ?_
              refine va_get (D := (dC, dI)) (ci := 12) (v := .int 0) (C := RX12) (T := TX12) (N := 20) hx hb hts hin_X12_hand_RX12 hown hK hP 0 rfl rfl 11 (by decide) (hts (.fieldLink RX12 292 "BookOfAll" "handCount" "I") (by decide +kernel)) (fun _ h9 => h9) rfl dX12_hand_78 ?_
              refine lv_iconst (v := 1) hx hb dX12_hand_81 (by decide) ?_
              refine lv_iadd hx hb dX12_hand_82 ?_
              refine jt_i 1 (by decide) ?_
              refine va_put (D := (dC, dI)) (ci := 12) (v := .int 1) (ty := .int) (C := RX12) (T := TX12) (N := 20) hx hb hts hin_X12_hand_RX12 tyX12 tyX12_ok nmX12 hown hK hP hD hS 0 rfl rfl 11 (by decide) (hts (.fieldLink RX12 292 "BookOfAll" "handCount" "I") (by decide +kernel)) (fun _ h9 => h9) rfl (by decide +kernel) rfl rfl (Nat.le_of_ble_eq_true rfl) dX12_hand_83 (fun H locs hP hD hS => ?_)
              refine lv_aload_n hx hb dX12_hand_86 rfl (lv_at hl 1 rfl) ?_
              refine va_get (D := (dC, dI)) (ci := 12) (v := .int 1) (C := RX12) (T := TX12) (N := 20) hx hb hts hin_X12_hand_RX12 hown hK hP 0 rfl rfl 11 (by decide) (hts (.fieldLink RX12 292 "BookOfAll" "handCount" "I") (by decide +kernel)) (fun _ h9 => h9) rfl dX12_hand_87 ?_
              refine lv_iconst (v := 1) hx hb dX12_hand_90 (by decide) ?_
              refine lv_isub hx hb dX12_hand_91 ?_
              refine jt_i 0 (by decide) ?_
              refine W.widen (k := 1) (n := 6) (Nat.le_of_ble_eq_true rfl) (Nat.le_of_ble_eq_true rfl) ?_
              exact W.iret (v := 0) hx hb hr (fun t ht hW => ⟨⟨0, (), rfl, (s_tX12_hand_6 (p1 := p1) (p2 := p2) (p3 := p3) c_1 c_2 c_3 c_4 c_5 c_6), trivial⟩, hS.F ht⟩) hS.2.2 dX12_hand_92
set_option maxHeartbeats 4000000 in
set_option maxRecDepth 100000 in
theorem kX5_addFact_4 (l : Launch) (dC : Nat → ClassId) (dI : Nat → Nat → Nat) (sz : Nat) (ad : Nat → Nat) (ca : Nat → ClassId) (p1 : Int32) (p2 : Int32) (p3 : Int32) (fl1 : 0 ≤ p1) (fh1 : p1 ≤ 39) (fl2 : 0 ≤ p2) (fh2 : p2 ≤ 999) (fl3 : 0 ≤ p3) : Met l yX5_addFact wsX5_addFact ({ frames := 0, cells := 0, slots := 0, locals := 0 }) (va_Pc [.ref (ad 42), .int p1, .int p2, .int p3, .int 0] (jw_P (dC, dI) (xW ad ca) (xT ca) sz)) (va_Qi (fun (r : Int32) (_ : Unit) => (r = 1)) (fun _ t => va_P (dC, dI) vwCl (((((((((((((xW ad ca).set 42 (ad 42, .inr (5, [.ref (ad 43), .ref (ad 44), .ref (ad 45), .ref (ad 46), .ref (ad 47), .int 1, .ref (ad 48), .ref (ad 49), .ref (ad 50), .ref (ad 51), .ref (ad 52), .int 0])))).set 43 (ad 43, .inl ((ca 43), 40, .inl (upd (jfill (fun _ => 0) 40 (-1)) (Int32.toNatClampNeg p1) 0))))).set 44 (ad 44, .inl ((ca 44), 600, .inl (upd (fun _ => 0) 0 p2))))).set 45 (ad 45, .inl ((ca 45), 600, .inl (upd (fun _ => 0) 0 p3))))).set 46 (ad 46, .inl ((ca 46), 600, .inl (upd (fun _ => 0) 0 0))))).set 47 (ad 47, .inl ((ca 47), 600, .inl (upd (fun _ => 0) 0 (-1)))))) t.heap ∧ va_K (dC, dI) vwCl (xT ca) t ∧ va_D (va_A (xW ad ca) sz) (((((((((((((xW ad ca).set 42 (ad 42, .inr (5, [.ref (ad 43), .ref (ad 44), .ref (ad 45), .ref (ad 46), .ref (ad 47), .int 1, .ref (ad 48), .ref (ad 49), .ref (ad 50), .ref (ad 51), .ref (ad 52), .int 0])))).set 43 (ad 43, .inl ((ca 43), 40, .inl (upd (jfill (fun _ => 0) 40 (-1)) (Int32.toNatClampNeg p1) 0))))).set 44 (ad 44, .inl ((ca 44), 600, .inl (upd (fun _ => 0) 0 p2))))).set 45 (ad 45, .inl ((ca 45), 600, .inl (upd (fun _ => 0) 0 p3))))).set 46 (ad 46, .inl ((ca 46), 600, .inl (upd (fun _ => 0) 0 0))))).set 47 (ad 47, .inl ((ca 47), 600, .inl (upd (fun _ => 0) 0 (-1))))))) (va_A (xW ad ca) sz)) 0 0 (va_A (xW ad ca) sz) := by
  refine Met.ofW (cc := cX5_addFact) (maxL := 5) (ret := (some .boolean)) (by decide) rfl ?_
  intro p e s m args below meth c s₁ B hml hv
  obtain ⟨rfl, hsz, hP, hK, hD0⟩ := hv
  have hx := B.exec
  have hb := B.bytes
  have hr := B.returns
  have hts := atoms_spec (ws := wsX5_addFact) B.pre
  have hown : s.vm.findClass RX5 = some m.cls := findClass_of_methodNamed B.named
  have hlocks := B.notSynchronized
  subst hsz
  have hD := hD0.self (sz := s.heap.size)
  generalize hAe : (va_A (xW ad ca) s.heap.size) = A at hD ⊢
  have hA : ∀ q : Nat, s.heap.size ≤ q → A q := fun q h => by rw [← hAe]; exact Or.inr h
  have hS : va_S A s.heap s.heap [] := va_S.rf
  have hP : va_P (dC, dI) vwCl (xW ad ca) s.heap := hP
  have hl := lv_entry ([.ref (ad 42), .int p1, .int p2, .int p3, .int 0]) (n := 5) (Nat.le_of_ble_eq_true rfl)
  rw [lg_entry_eq]
  generalize (lg_sl ([.ref (ad 42), .int p1, .int p2, .int p3, .int 0]) ++ List.replicate (5 - (lg_sl ([.ref (ad 42), .int p1, .int p2, .int p3, .int 0])).length) Slot.unset).toArray = ls at hl ⊢
  have hl : lv_has ls 5 [(0, .ref (ad 42)), (1, .int p1), (2, .int p2), (3, .int p3), (4, .int 0)] := hl
  refine lv_iload_n hx hb dX5_addFact_0 rfl (lv_at hl 1 rfl) ?_
  refine lv_if_lt (tgt := 27) hx hb dX5_addFact_1 (by decide) (fun z => absurd z (jb_nlt fl1 (by decide))) (fun _ => ?_)
  refine lv_iload_n hx hb dX5_addFact_4 rfl (lv_at hl 1 rfl) ?_
  refine lv_bipush (v := 40) hx hb dX5_addFact_5 (by decide) ?_
  refine lv_icmp_ge (tgt := 27) hx hb dX5_addFact_7 (by decide) (fun z => absurd z (jb_nge fh1 (by decide))) (fun _ => ?_)
  refine lv_aload_n hx hb dX5_addFact_10 rfl (lv_at hl 0 rfl) ?_
  refine va_get (D := (dC, dI)) (ci := 5) (v := .int 0) (C := RX5) (T := TX5) (N := 12) hx hb hts hin_X5_addFact_RX5 hown hK hP 42 rfl rfl 5 (by decide) (hts (.fieldLink RX5 49 "BookOfAll$News" "tells" "I") (by decide +kernel)) (fun _ h9 => h9) rfl dX5_addFact_11 ?_
  refine lv_if_lt (tgt := 27) hx hb dX5_addFact_14 (by decide) (fun z => absurd z (by decide)) (fun _ => ?_)
  refine lv_aload_n hx hb dX5_addFact_17 rfl (lv_at hl 0 rfl) ?_
  refine va_get (D := (dC, dI)) (ci := 5) (v := .int 0) (C := RX5) (T := TX5) (N := 12) hx hb hts hin_X5_addFact_RX5 hown hK hP 42 rfl rfl 5 (by decide) (hts (.fieldLink RX5 49 "BookOfAll$News" "tells" "I") (by decide +kernel)) (fun _ h9 => h9) rfl dX5_addFact_18 ?_
  refine lv_sipush (v := 600) hx hb dX5_addFact_21 (by decide) ?_
  refine lv_icmp_lt (tgt := 29) hx hb dX5_addFact_24 (by decide) (fun _ => ?_) (fun z => absurd (by decide) z)
  refine lv_aload_n hx hb dX5_addFact_29 rfl (lv_at hl 0 rfl) ?_
  refine va_get (D := (dC, dI)) (ci := 5) (v := .ref (ad 44)) (C := RX5) (T := TX5) (N := 12) hx hb hts hin_X5_addFact_RX5 hown hK hP 42 rfl rfl 1 (by decide) (hts (.fieldLink RX5 15 "BookOfAll$News" "value" "[I") (by decide +kernel)) (fun _ h9 => h9) rfl dX5_addFact_30 ?_
  refine lv_aload_n hx hb dX5_addFact_33 rfl (lv_at hl 0 rfl) ?_
  refine va_get (D := (dC, dI)) (ci := 5) (v := .int 0) (C := RX5) (T := TX5) (N := 12) hx hb hts hin_X5_addFact_RX5 hown hK hP 42 rfl rfl 5 (by decide) (hts (.fieldLink RX5 49 "BookOfAll$News" "tells" "I") (by decide +kernel)) (fun _ h9 => h9) rfl dX5_addFact_34 ?_
  refine lv_iload_n hx hb dX5_addFact_37 rfl (lv_at hl 2 rfl) ?_
  refine va_iast hx hb hK hP hD hS 44 33 rfl rfl (vp_in_nI (n := 0) (by decide) (by decide)) dX5_addFact_38 (fun H locs hP hD hS => ?_)
  refine lv_aload_n hx hb dX5_addFact_39 rfl (lv_at hl 0 rfl) ?_
  refine va_get (D := (dC, dI)) (ci := 5) (v := .ref (ad 45)) (C := RX5) (T := TX5) (N := 12) hx hb hts hin_X5_addFact_RX5 hown hK hP 42 rfl rfl 2 (by decide) (hts (.fieldLink RX5 18 "BookOfAll$News" "source" "[I") (by decide +kernel)) (fun _ h9 => h9) rfl dX5_addFact_40 ?_
  refine lv_aload_n hx hb dX5_addFact_43 rfl (lv_at hl 0 rfl) ?_
  refine va_get (D := (dC, dI)) (ci := 5) (v := .int 0) (C := RX5) (T := TX5) (N := 12) hx hb hts hin_X5_addFact_RX5 hown hK hP 42 rfl rfl 5 (by decide) (hts (.fieldLink RX5 49 "BookOfAll$News" "tells" "I") (by decide +kernel)) (fun _ h9 => h9) rfl dX5_addFact_44 ?_
  refine lv_iload_n hx hb dX5_addFact_47 rfl (lv_at hl 3 rfl) ?_
  refine va_iast hx hb hK hP hD hS 45 34 rfl rfl (vp_in_nI (n := 0) (by decide) (by decide)) dX5_addFact_48 (fun H locs hP hD hS => ?_)
  refine lv_aload_n hx hb dX5_addFact_49 rfl (lv_at hl 0 rfl) ?_
  refine va_get (D := (dC, dI)) (ci := 5) (v := .ref (ad 46)) (C := RX5) (T := TX5) (N := 12) hx hb hts hin_X5_addFact_RX5 hown hK hP 42 rfl rfl 3 (by decide) (hts (.fieldLink RX5 21 "BookOfAll$News" "day" "[I") (by decide +kernel)) (fun _ h9 => h9) rfl dX5_addFact_50 ?_
  refine lv_aload_n hx hb dX5_addFact_53 rfl (lv_at hl 0 rfl) ?_
  refine va_get (D := (dC, dI)) (ci := 5) (v := .int 0) (C := RX5) (T := TX5) (N := 12) hx hb hts hin_X5_addFact_RX5 hown hK hP 42 rfl rfl 5 (by decide) (hts (.fieldLink RX5 49 "BookOfAll$News" "tells" "I") (by decide +kernel)) (fun _ h9 => h9) rfl dX5_addFact_54 ?_
  refine lv_iload hx hb dX5_addFact_57 (lv_at hl 4 rfl) ?_
  refine va_iast hx hb hK hP hD hS 46 35 rfl rfl (vp_in_nI (n := 0) (by decide) (by decide)) dX5_addFact_59 (fun H locs hP hD hS => ?_)
  refine lv_aload_n hx hb dX5_addFact_60 rfl (lv_at hl 0 rfl) ?_
  refine va_get (D := (dC, dI)) (ci := 5) (v := .ref (ad 47)) (C := RX5) (T := TX5) (N := 12) hx hb hts hin_X5_addFact_RX5 hown hK hP 42 rfl rfl 4 (by decide) (hts (.fieldLink RX5 24 "BookOfAll$News" "earlier" "[I") (by decide +kernel)) (fun _ h9 => h9) rfl dX5_addFact_61 ?_
  refine lv_aload_n hx hb dX5_addFact_64 rfl (lv_at hl 0 rfl) ?_
  refine va_get (D := (dC, dI)) (ci := 5) (v := .int 0) (C := RX5) (T := TX5) (N := 12) hx hb hts hin_X5_addFact_RX5 hown hK hP 42 rfl rfl 5 (by decide) (hts (.fieldLink RX5 49 "BookOfAll$News" "tells" "I") (by decide +kernel)) (fun _ h9 => h9) rfl dX5_addFact_65 ?_
  refine lv_aload_n hx hb dX5_addFact_68 rfl (lv_at hl 0 rfl) ?_
  refine va_get (D := (dC, dI)) (ci := 5) (v := .ref (ad 43)) (C := RX5) (T := TX5) (N := 12) hx hb hts hin_X5_addFact_RX5 hown hK hP 42 rfl rfl 0 (by decide) (hts (.fieldLink RX5 11 "BookOfAll$News" "latest" "[I") (by decide +kernel)) (fun _ h9 => h9) rfl dX5_addFact_69 ?_
  refine lv_iload_n hx hb dX5_addFact_72 rfl (lv_at hl 1 rfl) ?_
  refine va_iald hx hb hK hP 43 32 rfl rfl (jb_in fl1 fh1 (by decide) (by decide)) dX5_addFact_73 ?_
  refine jt_i (-1) (jfill_at fl1 fh1 (by decide) (by decide)) ?_
  refine va_iast hx hb hK hP hD hS 47 36 rfl rfl (vp_in_nI (n := 0) (by decide) (by decide)) dX5_addFact_74 (fun H locs hP hD hS => ?_)
  refine lv_aload_n hx hb dX5_addFact_75 rfl (lv_at hl 0 rfl) ?_
  refine va_get (D := (dC, dI)) (ci := 5) (v := .ref (ad 43)) (C := RX5) (T := TX5) (N := 12) hx hb hts hin_X5_addFact_RX5 hown hK hP 42 rfl rfl 0 (by decide) (hts (.fieldLink RX5 11 "BookOfAll$News" "latest" "[I") (by decide +kernel)) (fun _ h9 => h9) rfl dX5_addFact_76 ?_
  refine lv_iload_n hx hb dX5_addFact_79 rfl (lv_at hl 1 rfl) ?_
  refine lv_aload_n hx hb dX5_addFact_80 rfl (lv_at hl 0 rfl) ?_
  refine va_get (D := (dC, dI)) (ci := 5) (v := .int 0) (C := RX5) (T := TX5) (N := 12) hx hb hts hin_X5_addFact_RX5 hown hK hP 42 rfl rfl 5 (by decide) (hts (.fieldLink RX5 49 "BookOfAll$News" "tells" "I") (by decide +kernel)) (fun _ h9 => h9) rfl dX5_addFact_81 ?_
  refine va_iast hx hb hK hP hD hS 43 32 rfl rfl (jb_in fl1 fh1 (by decide) (by decide)) dX5_addFact_84 (fun H locs hP hD hS => ?_)
  refine lv_aload_n hx hb dX5_addFact_85 rfl (lv_at hl 0 rfl) ?_
  refine lv_dup hx hb dX5_addFact_86 rfl ?_
  refine va_get (D := (dC, dI)) (ci := 5) (v := .int 0) (C := RX5) (T := TX5) (N := 12) hx hb hts hin_X5_addFact_RX5 hown hK hP 42 rfl rfl 5 (by decide) (hts (.fieldLink RX5 49 "BookOfAll$News" "tells" "I") (by decide +kernel)) (fun _ h9 => h9) rfl dX5_addFact_87 ?_
  refine lv_iconst (v := 1) hx hb dX5_addFact_90 (by decide) ?_
  refine lv_iadd hx hb dX5_addFact_91 ?_
  refine jt_i 1 (by decide) ?_
  refine va_put (D := (dC, dI)) (ci := 5) (v := .int 1) (ty := .int) (C := RX5) (T := TX5) (N := 12) hx hb hts hin_X5_addFact_RX5 tyX5 tyX5_ok nmX5 hown hK hP hD hS 42 rfl rfl 5 (by decide) (hts (.fieldLink RX5 49 "BookOfAll$News" "tells" "I") (by decide +kernel)) (fun _ h9 => h9) rfl (by decide +kernel) rfl rfl (Nat.le_of_ble_eq_true rfl) dX5_addFact_92 (fun H locs hP hD hS => ?_)
  refine lv_iconst (v := 1) hx hb dX5_addFact_95 (by decide) ?_
  exact W.zret (v := 1) (ty := .boolean) hx hb hr rfl (fun t ht hW => ⟨⟨1, (), rfl, rfl, by rw [ht]; exact hP, va_K.moved hW.alike hK, hD⟩, hS.F ht⟩) hS.2.2 dX5_addFact_96
theorem s_tX12_tell_0 {p1 p2 p3 : Int32} (c_1 : p1 < 0) : 0 = sp_tell p1 p2 p3 := by
  unfold sp_tell
  have g0 : p1.toInt < 0 := ji_lt.mp c_1
  split <;> first | rfl | (exfalso; omega)
theorem s_tX12_tell_1 {p1 p2 p3 : Int32} (c_1 : ¬ (p1 < 0)) (c_2 : 40 ≤ p1) : 0 = sp_tell p1 p2 p3 := by
  unfold sp_tell
  have g0 : ¬ (p1.toInt < 0) := fun z => c_1 (ji_lt.mpr z)
  have g1 : 40 ≤ p1.toInt := ji_le.mp c_2
  split <;> first | rfl | (exfalso; omega)
theorem s_tX12_tell_2 {p1 p2 p3 : Int32} (c_1 : ¬ (p1 < 0)) (c_2 : ¬ (40 ≤ p1)) (c_3 : p2 < 0) : 0 = sp_tell p1 p2 p3 := by
  unfold sp_tell
  have g0 : ¬ (p1.toInt < 0) := fun z => c_1 (ji_lt.mpr z)
  have g1 : ¬ (40 ≤ p1.toInt) := fun z => c_2 (ji_le.mpr z)
  have g2 : p2.toInt < 0 := ji_lt.mp c_3
  split <;> first | rfl | (exfalso; omega)
theorem s_tX12_tell_3 {p1 p2 p3 : Int32} (c_1 : ¬ (p1 < 0)) (c_2 : ¬ (40 ≤ p1)) (c_3 : ¬ (p2 < 0)) (c_4 : 999 < p2) : 0 = sp_tell p1 p2 p3 := by
  unfold sp_tell
  have g0 : ¬ (p1.toInt < 0) := fun z => c_1 (ji_lt.mpr z)
  have g1 : ¬ (40 ≤ p1.toInt) := fun z => c_2 (ji_le.mpr z)
  have g2 : ¬ (p2.toInt < 0) := fun z => c_3 (ji_lt.mpr z)
  have g3 : 999 < p2.toInt := ji_lt.mp c_4
  split <;> first | rfl | (exfalso; omega)
theorem s_tX12_tell_4 {p1 p2 p3 : Int32} (c_1 : ¬ (p1 < 0)) (c_2 : ¬ (40 ≤ p1)) (c_3 : ¬ (p2 < 0)) (c_4 : ¬ (999 < p2)) (c_5 : p3 < 0) : 0 = sp_tell p1 p2 p3 := by
  unfold sp_tell
  have g0 : ¬ (p1.toInt < 0) := fun z => c_1 (ji_lt.mpr z)
  have g1 : ¬ (40 ≤ p1.toInt) := fun z => c_2 (ji_le.mpr z)
  have g2 : ¬ (p2.toInt < 0) := fun z => c_3 (ji_lt.mpr z)
  have g3 : ¬ (999 < p2.toInt) := fun z => c_4 (ji_lt.mpr z)
  have g4 : p3.toInt < 0 := ji_lt.mp c_5
  split <;> first | rfl | (exfalso; omega)
theorem s_tX12_tell_5 {p1 p2 p3 : Int32} (c_1 : ¬ (p1 < 0)) (c_2 : ¬ (40 ≤ p1)) (c_3 : ¬ (p2 < 0)) (c_4 : ¬ (999 < p2)) (c_5 : ¬ (p3 < 0)) : 1 = sp_tell p1 p2 p3 := by
  unfold sp_tell
  have g0 : ¬ (p1.toInt < 0) := fun z => c_1 (ji_lt.mpr z)
  have g1 : ¬ (40 ≤ p1.toInt) := fun z => c_2 (ji_le.mpr z)
  have g2 : ¬ (p2.toInt < 0) := fun z => c_3 (ji_lt.mpr z)
  have g3 : ¬ (999 < p2.toInt) := fun z => c_4 (ji_lt.mpr z)
  have g4 : ¬ (p3.toInt < 0) := fun z => c_5 (ji_lt.mpr z)
  split <;> first | rfl | (exfalso; omega)
set_option maxHeartbeats 4000000 in
set_option maxRecDepth 100000 in
theorem tX12_tell (l : Launch) (dC : Nat → ClassId) (dI : Nat → Nat → Nat) (sz : Nat) (ad : Nat → Nat) (ca : Nat → ClassId) (p1 : Int32) (p2 : Int32) (p3 : Int32) : Met l yX12_tell wsX12_tell ({ frames := 1, cells := 0, slots := 0, locals := 24 }) (va_Pc [.ref (ad 0), .int p1, .int p2, .int p3] (jw_P (dC, dI) (xW ad ca) (xT ca) sz)) (va_Qi (fun (r : Int32) (_ : Unit) => r = sp_tell p1 p2 p3) (fun _ _ => True) (va_A (xW ad ca) sz)) 0 0 (va_A (xW ad ca) sz) := by
  refine Met.ofW (cc := cX12_tell) (maxL := 5) (ret := (some .boolean)) (by decide) rfl ?_
  intro p e s m args below meth c s₁ B hml hv
  obtain ⟨rfl, hsz, hP, hK, hD0⟩ := hv
  have hx := B.exec
  have hb := B.bytes
  have hr := B.returns
  have hts := atoms_spec (ws := wsX12_tell) B.pre
  have hown : s.vm.findClass RX12 = some m.cls := findClass_of_methodNamed B.named
  have hlocks := B.notSynchronized
  subst hsz
  have hD := hD0.self (sz := s.heap.size)
  generalize hAe : (va_A (xW ad ca) s.heap.size) = A at hD ⊢
  have hA : ∀ q : Nat, s.heap.size ≤ q → A q := fun q h => by rw [← hAe]; exact Or.inr h
  have hS : va_S A s.heap s.heap [] := va_S.rf
  have hP : va_P (dC, dI) vwCl (xW ad ca) s.heap := hP
  have hl := lv_entry ([.ref (ad 0), .int p1, .int p2, .int p3]) (n := 5) (Nat.le_of_ble_eq_true rfl)
  rw [lg_entry_eq]
  generalize (lg_sl ([.ref (ad 0), .int p1, .int p2, .int p3]) ++ List.replicate (5 - (lg_sl ([.ref (ad 0), .int p1, .int p2, .int p3])).length) Slot.unset).toArray = ls at hl ⊢
  have hl : lv_has ls 5 [(0, .ref (ad 0)), (1, .int p1), (2, .int p2), (3, .int p3)] := hl
  refine lv_iload_n hx hb dX12_tell_0 rfl (lv_at hl 1 rfl) ?_
  refine lv_if_lt (tgt := 29) hx hb dX12_tell_1 (by decide) (fun c_1 => ?_) (fun c_1 => ?_)
  · refine lv_iconst (v := 0) hx hb dX12_tell_29 (by decide) ?_
    refine lv_istore (lv' := [(4, .int 0), (0, .ref (ad 0)), (1, .int p1), (2, .int p2), (3, .int p3)]) hx hb dX12_tell_30 hl (by decide) rfl (fun ls hl => ?_)
    refine lv_iload hx hb dX12_tell_32 (lv_at hl 0 rfl) ?_
    refine lv_if_eq (tgt := 58) hx hb dX12_tell_34 (by decide) (fun _ => ?_) (fun z => absurd (by decide) z)
    refine lv_iconst (v := 0) hx hb dX12_tell_58 (by decide) ?_
    exact W.zret (v := 0) (ty := .boolean) hx hb hr rfl (fun t ht hW => ⟨⟨0, (), rfl, (s_tX12_tell_0 (p1 := p1) (p2 := p2) (p3 := p3) c_1), trivial⟩, hS.F ht⟩) hS.2.2 dX12_tell_59
  · refine lv_iload_n hx hb dX12_tell_4 rfl (lv_at hl 1 rfl) ?_
    refine lv_bipush (v := 40) hx hb dX12_tell_5 (by decide) ?_
    refine lv_icmp_ge (tgt := 29) hx hb dX12_tell_7 (by decide) (fun c_2 => ?_) (fun c_2 => ?_)
    · refine lv_iconst (v := 0) hx hb dX12_tell_29 (by decide) ?_
      refine lv_istore (lv' := [(4, .int 0), (0, .ref (ad 0)), (1, .int p1), (2, .int p2), (3, .int p3)]) hx hb dX12_tell_30 hl (by decide) rfl (fun ls hl => ?_)
      refine lv_iload hx hb dX12_tell_32 (lv_at hl 0 rfl) ?_
      refine lv_if_eq (tgt := 58) hx hb dX12_tell_34 (by decide) (fun _ => ?_) (fun z => absurd (by decide) z)
      refine lv_iconst (v := 0) hx hb dX12_tell_58 (by decide) ?_
      exact W.zret (v := 0) (ty := .boolean) hx hb hr rfl (fun t ht hW => ⟨⟨0, (), rfl, (s_tX12_tell_1 (p1 := p1) (p2 := p2) (p3 := p3) c_1 c_2), trivial⟩, hS.F ht⟩) hS.2.2 dX12_tell_59
    · refine lv_iload_n hx hb dX12_tell_10 rfl (lv_at hl 2 rfl) ?_
      refine lv_if_lt (tgt := 29) hx hb dX12_tell_11 (by decide) (fun c_3 => ?_) (fun c_3 => ?_)
      · refine lv_iconst (v := 0) hx hb dX12_tell_29 (by decide) ?_
        refine lv_istore (lv' := [(4, .int 0), (0, .ref (ad 0)), (1, .int p1), (2, .int p2), (3, .int p3)]) hx hb dX12_tell_30 hl (by decide) rfl (fun ls hl => ?_)
        refine lv_iload hx hb dX12_tell_32 (lv_at hl 0 rfl) ?_
        refine lv_if_eq (tgt := 58) hx hb dX12_tell_34 (by decide) (fun _ => ?_) (fun z => absurd (by decide) z)
        refine lv_iconst (v := 0) hx hb dX12_tell_58 (by decide) ?_
        exact W.zret (v := 0) (ty := .boolean) hx hb hr rfl (fun t ht hW => ⟨⟨0, (), rfl, (s_tX12_tell_2 (p1 := p1) (p2 := p2) (p3 := p3) c_1 c_2 c_3), trivial⟩, hS.F ht⟩) hS.2.2 dX12_tell_59
      · refine lv_iload_n hx hb dX12_tell_14 rfl (lv_at hl 2 rfl) ?_
        refine lv_sipush (v := 999) hx hb dX12_tell_15 (by decide) ?_
        refine lv_icmp_gt (tgt := 29) hx hb dX12_tell_18 (by decide) (fun c_4 => ?_) (fun c_4 => ?_)
        · refine lv_iconst (v := 0) hx hb dX12_tell_29 (by decide) ?_
          refine lv_istore (lv' := [(4, .int 0), (0, .ref (ad 0)), (1, .int p1), (2, .int p2), (3, .int p3)]) hx hb dX12_tell_30 hl (by decide) rfl (fun ls hl => ?_)
          refine lv_iload hx hb dX12_tell_32 (lv_at hl 0 rfl) ?_
          refine lv_if_eq (tgt := 58) hx hb dX12_tell_34 (by decide) (fun _ => ?_) (fun z => absurd (by decide) z)
          refine lv_iconst (v := 0) hx hb dX12_tell_58 (by decide) ?_
          exact W.zret (v := 0) (ty := .boolean) hx hb hr rfl (fun t ht hW => ⟨⟨0, (), rfl, (s_tX12_tell_3 (p1 := p1) (p2 := p2) (p3 := p3) c_1 c_2 c_3 c_4), trivial⟩, hS.F ht⟩) hS.2.2 dX12_tell_59
        · refine lv_iload_n hx hb dX12_tell_21 rfl (lv_at hl 3 rfl) ?_
          refine lv_if_lt (tgt := 29) hx hb dX12_tell_22 (by decide) (fun c_5 => ?_) (fun c_5 => ?_)
          · refine lv_iconst (v := 0) hx hb dX12_tell_29 (by decide) ?_
            refine lv_istore (lv' := [(4, .int 0), (0, .ref (ad 0)), (1, .int p1), (2, .int p2), (3, .int p3)]) hx hb dX12_tell_30 hl (by decide) rfl (fun ls hl => ?_)
            refine lv_iload hx hb dX12_tell_32 (lv_at hl 0 rfl) ?_
            refine lv_if_eq (tgt := 58) hx hb dX12_tell_34 (by decide) (fun _ => ?_) (fun z => absurd (by decide) z)
            refine lv_iconst (v := 0) hx hb dX12_tell_58 (by decide) ?_
            exact W.zret (v := 0) (ty := .boolean) hx hb hr rfl (fun t ht hW => ⟨⟨0, (), rfl, (s_tX12_tell_4 (p1 := p1) (p2 := p2) (p3 := p3) c_1 c_2 c_3 c_4 c_5), trivial⟩, hS.F ht⟩) hS.2.2 dX12_tell_59
          · refine lv_iconst (v := 1) hx hb dX12_tell_25 (by decide) ?_
            refine lv_goto (tgt := 30) hx hb dX12_tell_26 (by decide) ?_
            refine lv_istore (lv' := [(4, .int 1), (0, .ref (ad 0)), (1, .int p1), (2, .int p2), (3, .int p3)]) hx hb dX12_tell_30 hl (by decide) rfl (fun ls hl => ?_)
            refine lv_iload hx hb dX12_tell_32 (lv_at hl 0 rfl) ?_
            refine lv_if_eq (tgt := 58) hx hb dX12_tell_34 (by decide) (fun z => absurd z (by decide)) (fun _ => ?_)
            refine lv_aload_n hx hb dX12_tell_37 rfl (lv_at hl 1 rfl) ?_
            refine va_get (D := (dC, dI)) (ci := 12) (v := .ref (ad 42)) (C := RX12) (T := TX12) (N := 20) hx hb hts hin_X12_tell_RX12 hown hK hP 0 rfl rfl 14 (by decide) (hts (.fieldLink RX12 66 "BookOfAll" "news" "LBookOfAll$News;") (by decide +kernel)) (fun _ h9 => h9) rfl dX12_tell_38 ?_
            refine lv_iload_n hx hb dX12_tell_41 rfl (lv_at hl 2 rfl) ?_
            refine lv_iload_n hx hb dX12_tell_42 rfl (lv_at hl 3 rfl) ?_
            refine lv_iload_n hx hb dX12_tell_43 rfl (lv_at hl 4 rfl) ?_
            refine lv_aload_n hx hb dX12_tell_44 rfl (lv_at hl 1 rfl) ?_
            refine va_get (D := (dC, dI)) (ci := 12) (v := .int 0) (C := RX12) (T := TX12) (N := 20) hx hb hts hin_X12_tell_RX12 hown hK hP 0 rfl rfl 0 (by decide) (hts (.fieldLink RX12 133 "BookOfAll" "now" "I") (by decide +kernel)) (fun _ h9 => h9) rfl dX12_tell_45 ?_
            refine jcw_i (va_runV (As := [.int p1, .int p2, .int p3, .int 0]) (rest := []) ⟨hx, hb, hml, hown, hts⟩ (kX5_addFact_4 l dC dI _ ad ca p1 p2 p3 (jl_nlt c_1) (jl_nge (d := 39) c_2 (by decide)) (jl_nlt c_3) (jl_ngt c_4) (jl_nlt c_5)) (cwV 4 hts gX12_tell_X5_addFact rfl rfl rfl (by decide +kernel) ⟨Nat.le_of_ble_eq_true rfl, Nat.le_of_ble_eq_true rfl⟩) ⟨jw_blind, va_recv hK hP (ci := 5) (q0 := 42) rfl rfl, fun U hU hW => ⟨rfl, jw_of hU hW hP hK hD⟩⟩ rfl rfl hl.1 rfl (lv_room (Nat.le_of_ble_eq_true rfl)) dX12_tell_48 ⟨Nat.le_of_ble_eq_true rfl, Nat.le_of_ble_eq_true rfl⟩) hD hS hA (fun r_6 H locs hw_6 hP hK hD hS => ?_)
            have hw_6 : r_6 = 1 := hw_6
            subst hw_6
            refine lv_if_eq (tgt := 58) hx hb dX12_tell_51 (by decide) (fun z => absurd z (by decide)) (fun _ => ?_)
            refine lv_iconst (v := 1) hx hb dX12_tell_54 (by decide) ?_
            refine lv_goto (tgt := 59) hx hb dX12_tell_55 (by decide) ?_
            exact W.zret (v := 1) (ty := .boolean) hx hb hr rfl (fun t ht hW => ⟨⟨1, (), rfl, (s_tX12_tell_5 (p1 := p1) (p2 := p2) (p3 := p3) c_1 c_2 c_3 c_4 c_5), trivial⟩, hS.F ht⟩) hS.2.2 dX12_tell_59
