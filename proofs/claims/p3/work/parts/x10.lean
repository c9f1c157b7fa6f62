set_option maxHeartbeats 2000000 in
set_option maxRecDepth 100000 in
theorem sX0_byteOf (l : Launch) (dC : Nat → ClassId) (dI : Nat → Nat → Nat) (sz : Nat) (p1 : Int) (p2 : Int) (p3 : Int) (p4 : Int) (q1 : rg p1) (q2 : rg p2) (q3 : rg p3) (q4 : rg p4) : Met l yX0_byteOf (jk yX0_byteOf cX0_byteOf 5 (some .int)) ({ frames := 0, cells := 0, slots := 0, locals := 0 }) (va_Pc [.int (iI p1), .int (iI p2), .int (iI p3), .int (iI p4)] (fun U => U.heap.size = sz)) (va_Qi (fun (r : Int32) (_ : Unit) => ∃ z : Int, r = iI z ∧ (rg z)) (fun _ _ => True) (va_A [] sz)) 0 0 (va_A [] sz) := by
  refine Met.ofW (cc := cX0_byteOf) (maxL := 5) (ret := (some .int)) (by decide) rfl ?_
  intro p e s m args below meth c s₁ B hml hv
  obtain ⟨rfl, hsz⟩ := hv
  have hx := B.exec
  have hb := B.bytes
  have hr := B.returns
  have hts := atoms_spec (ws := (jk yX0_byteOf cX0_byteOf 5 (some .int))) B.pre
  have hj : ∀ w ∈ jw, w.before ([.int (iI p1), .int (iI p2), .int (iI p3), .int (iI p4)] : List Value).toArray s = true := fun w h => hts w (jm h)
  have hown : s.vm.findClass RX0 = some m.cls := findClass_of_methodNamed B.named
  subst hsz
  have hP : va_P (dC, dI) vwCl [] s.heap := fun k q h => by simp at h
  generalize hAe : (va_A [] s.heap.size) = A
  have hA : ∀ q : Nat, s.heap.size ≤ q → A q := fun q h => by rw [← hAe]; exact Or.inr h
  have hS : va_S A s.heap s.heap [] := va_S.rf
  have hl := lv_entry ([.int (iI p1), .int (iI p2), .int (iI p3), .int (iI p4)]) (n := 5) (Nat.le_of_ble_eq_true rfl)
  rw [lg_entry_eq]
  generalize (lg_sl ([.int (iI p1), .int (iI p2), .int (iI p3), .int (iI p4)]) ++ List.replicate (5 - (lg_sl ([.int (iI p1), .int (iI p2), .int (iI p3), .int (iI p4)])).length) Slot.unset).toArray = ls at hl ⊢
  have hl : lv_has ls 5 [(0, .int (iI p1)), (1, .int (iI p2)), (2, .int (iI p3)), (3, .int (iI p4))] := hl
  generalize hQ : MQ below (va_Qi (fun (r : Int32) (_ : Unit) => ∃ z : Int, r = iI z ∧ (rg z)) (fun _ _ => True) A) ([.int (iI p1), .int (iI p2), .int (iI p3), .int (iI p4)] : List Value).toArray s 0 0 A = Q
  suffices ST : ∀ (H : Heap) (locs : List Loc), va_P (dC, dI) vwCl [] H → va_S A s.heap H locs → W p l e ({ frames := 0, cells := 0, slots := 0, locals := 0 }) s m ([.int (iI p1), .int (iI p2), .int (iI p3), .int (iI p4)] : List Value).toArray below meth c H locs 0 0 Q (F0 m 0 ls []) from ST _ _ hP hS
  clear hP hS
  intro H locs hP hS
  refine lv_iload_n hx hb dX0_byteOf_0 rfl (lv_at hl 3 rfl) ?_
  refine lv_iconst (v := iI 4) hx hb dX0_byteOf_1 rfl ?_
  have J20 : ∀ (s0_20 : Int) (H : Heap) (locs : List Loc) (ls : Array Slot), ((-2147483648) ≤ s0_20 ∧ s0_20 ≤ 2147483647) → va_P (dC, dI) vwCl [] H → va_S A s.heap H locs → lv_has ls 5 [(0, .int (iI p1)), (1, .int (iI p2)), (2, .int (iI p3)), (3, .int (iI p4))] → W p l e ({ frames := 0, cells := 0, slots := 0, locals := 0 }) s m ([.int (iI p1), .int (iI p2), .int (iI p3), .int (iI p4)] : List Value).toArray below meth c H locs 0 0 Q (F0 m 20 ls [.int (iI s0_20)]) := by
    intro s0_20 H locs ls h_1 hP hS hl
    refine lv_istore (i := 4) (lv' := [(4, .int (iI s0_20)), (0, .int (iI p1)), (1, .int (iI p2)), (2, .int (iI p3)), (3, .int (iI p4))]) hx hb dX0_byteOf_20 hl (by decide) rfl (fun ls hl => ?_)
    refine lv_iload hx hb dX0_byteOf_22 (lv_at hl 0 rfl) ?_
    refine lv_bipush (v := iI 24) hx hb dX0_byteOf_24 rfl ?_
    refine lv_bipush (v := iI 8) hx hb dX0_byteOf_26 rfl ?_
    refine lv_iload_n hx hb dX0_byteOf_28 rfl (lv_at hl 4 rfl) ?_
    refine lv_iconst (v := iI 3) hx hb dX0_byteOf_29 rfl ?_
    refine xr_andR hx hb (by omega) (by omega) dX0_byteOf_30 (fun z_2 h_3 => ?_)
    refine xr_mul hx hb dX0_byteOf_31 ?_
    refine xr_sub hx hb dX0_byteOf_32 ?_
    refine lv_iushr hx hb dX0_byteOf_33 rfl ?_
    refine xr_any (fun z_4 h_5 => ?_)
    refine lv_sipush (v := iI 255) hx hb dX0_byteOf_34 rfl ?_
    refine xr_andR hx hb (by omega) (by omega) dX0_byteOf_37 (fun z_6 h_7 => ?_)
    rw [← hQ]
    exact W.iret (v := iI z_6) hx hb hr (fun t ht hW => ⟨⟨iI z_6, (), rfl, ⟨z_6, rfl, by omega⟩, trivial⟩, hS.F ht⟩) hS.2.2 dX0_byteOf_38
  refine xr_icmp_ge (tgt := 9) hx hb dX0_byteOf_2 (by decide) (by omega) (by omega) (fun h_8 => ?_) (fun h_8 => ?_)
  · refine lv_iload_n hx hb dX0_byteOf_9 rfl (lv_at hl 3 rfl) ?_
    refine lv_bipush (v := iI 8) hx hb dX0_byteOf_10 rfl ?_
    refine xr_icmp_ge (tgt := 19) hx hb dX0_byteOf_12 (by decide) (by omega) (by omega) (fun h_9 => ?_) (fun h_9 => ?_)
    · refine lv_iload_n hx hb dX0_byteOf_19 rfl (lv_at hl 2 rfl) ?_
      exact J20 p3 H locs ls (by omega) hP hS hl
    · refine lv_iload_n hx hb dX0_byteOf_15 rfl (lv_at hl 1 rfl) ?_
      refine lv_goto (tgt := 20) hx hb dX0_byteOf_16 (by decide) ?_
      exact J20 p2 H locs ls (by omega) hP hS hl
  · refine lv_iload_n hx hb dX0_byteOf_5 rfl (lv_at hl 0 rfl) ?_
    refine lv_goto (tgt := 20) hx hb dX0_byteOf_6 (by decide) ?_
    exact J20 p1 H locs ls (by omega) hP hS hl
set_option maxHeartbeats 2000000 in
set_option maxRecDepth 100000 in
theorem sX0_isDigit (l : Launch) (dC : Nat → ClassId) (dI : Nat → Nat → Nat) (sz : Nat) (p1 : Int) (q1 : rg p1) : Met l yX0_isDigit (jk yX0_isDigit cX0_isDigit 1 (some .boolean)) ({ frames := 0, cells := 0, slots := 0, locals := 0 }) (va_Pc [.int (iI p1)] (fun U => U.heap.size = sz)) (va_Qi (fun (r : Int32) (_ : Unit) => ∃ z : Int, r = iI z ∧ (0 ≤ z ∧ z ≤ 1) ∧ ((z = 1 ∧ 48 ≤ p1 ∧ p1 ≤ 57) ∨ (z = 0 ∧ (p1 < 48 ∨ 57 < p1)))) (fun _ _ => True) (va_A [] sz)) 0 0 (va_A [] sz) := by
  refine Met.ofW (cc := cX0_isDigit) (maxL := 1) (ret := (some .boolean)) (by decide) rfl ?_
  intro p e s m args below meth c s₁ B hml hv
  obtain ⟨rfl, hsz⟩ := hv
  have hx := B.exec
  have hb := B.bytes
  have hr := B.returns
  have hts := atoms_spec (ws := (jk yX0_isDigit cX0_isDigit 1 (some .boolean))) B.pre
  have hj : ∀ w ∈ jw, w.before ([.int (iI p1)] : List Value).toArray s = true := fun w h => hts w (jm h)
  have hown : s.vm.findClass RX0 = some m.cls := findClass_of_methodNamed B.named
  subst hsz
  have hP : va_P (dC, dI) vwCl [] s.heap := fun k q h => by simp at h
  generalize hAe : (va_A [] s.heap.size) = A
  have hA : ∀ q : Nat, s.heap.size ≤ q → A q := fun q h => by rw [← hAe]; exact Or.inr h
  have hS : va_S A s.heap s.heap [] := va_S.rf
  have hl := lv_entry ([.int (iI p1)]) (n := 1) (Nat.le_of_ble_eq_true rfl)
  rw [lg_entry_eq]
  generalize (lg_sl ([.int (iI p1)]) ++ List.replicate (1 - (lg_sl ([.int (iI p1)])).length) Slot.unset).toArray = ls at hl ⊢
  have hl : lv_has ls 1 [(0, .int (iI p1))] := hl
  generalize hQ : MQ below (va_Qi (fun (r : Int32) (_ : Unit) => ∃ z : Int, r = iI z ∧ (0 ≤ z ∧ z ≤ 1) ∧ ((z = 1 ∧ 48 ≤ p1 ∧ p1 ≤ 57) ∨ (z = 0 ∧ (p1 < 48 ∨ 57 < p1)))) (fun _ _ => True) A) ([.int (iI p1)] : List Value).toArray s 0 0 A = Q
  suffices ST : ∀ (H : Heap) (locs : List Loc), va_P (dC, dI) vwCl [] H → va_S A s.heap H locs → W p l e ({ frames := 0, cells := 0, slots := 0, locals := 0 }) s m ([.int (iI p1)] : List Value).toArray below meth c H locs 0 0 Q (F0 m 0 ls []) from ST _ _ hP hS
  clear hP hS
  intro H locs hP hS
  refine lv_iload_n hx hb dX0_isDigit_0 rfl (lv_at hl 0 rfl) ?_
  refine lv_bipush (v := iI 48) hx hb dX0_isDigit_1 rfl ?_
  refine xr_icmp_lt (tgt := 16) hx hb dX0_isDigit_3 (by decide) (by omega) (by omega) (fun h_1 => ?_) (fun h_1 => ?_)
  · refine lv_iconst (v := iI 0) hx hb dX0_isDigit_16 rfl ?_
    rw [← hQ]
    exact W.zret (v := iI 0) (ty := .boolean) hx hb hr (nb_bool (by omega) (by omega)) (fun t ht hW => ⟨⟨iI 0, (), rfl, ⟨0, rfl, by omega, by omega⟩, trivial⟩, hS.F ht⟩) hS.2.2 dX0_isDigit_17
  · refine lv_iload_n hx hb dX0_isDigit_6 rfl (lv_at hl 0 rfl) ?_
    refine lv_bipush (v := iI 57) hx hb dX0_isDigit_7 rfl ?_
    refine xr_icmp_gt (tgt := 16) hx hb dX0_isDigit_9 (by decide) (by omega) (by omega) (fun h_2 => ?_) (fun h_2 => ?_)
    · refine lv_iconst (v := iI 0) hx hb dX0_isDigit_16 rfl ?_
      rw [← hQ]
      exact W.zret (v := iI 0) (ty := .boolean) hx hb hr (nb_bool (by omega) (by omega)) (fun t ht hW => ⟨⟨iI 0, (), rfl, ⟨0, rfl, by omega, by omega⟩, trivial⟩, hS.F ht⟩) hS.2.2 dX0_isDigit_17
    · refine lv_iconst (v := iI 1) hx hb dX0_isDigit_12 rfl ?_
      refine lv_goto (tgt := 17) hx hb dX0_isDigit_13 (by decide) ?_
      rw [← hQ]
      exact W.zret (v := iI 1) (ty := .boolean) hx hb hr (nb_bool (by omega) (by omega)) (fun t ht hW => ⟨⟨iI 1, (), rfl, ⟨1, rfl, by omega, by omega⟩, trivial⟩, hS.F ht⟩) hS.2.2 dX0_isDigit_17
set_option maxHeartbeats 2000000 in
set_option maxRecDepth 100000 in
theorem sX0_isMark (l : Launch) (dC : Nat → ClassId) (dI : Nat → Nat → Nat) (sz : Nat) (p1 : Int) (q1 : rg p1) : Met l yX0_isMark (jk yX0_isMark cX0_isMark 1 (some .boolean)) ({ frames := 1, cells := 0, slots := 0, locals := 20 }) (va_Pc [.int (iI p1)] (fun U => U.heap.size = sz)) (va_Qi (fun (r : Int32) (_ : Unit) => ∃ z : Int, r = iI z ∧ (0 ≤ z ∧ z ≤ 1)) (fun _ _ => True) (va_A [] sz)) 0 0 (va_A [] sz) := by
  refine Met.ofW (cc := cX0_isMark) (maxL := 1) (ret := (some .boolean)) (by decide) rfl ?_
  intro p e s m args below meth c s₁ B hml hv
  obtain ⟨rfl, hsz⟩ := hv
  have hx := B.exec
  have hb := B.bytes
  have hr := B.returns
  have hts := atoms_spec (ws := (jk yX0_isMark cX0_isMark 1 (some .boolean))) B.pre
  have hj : ∀ w ∈ jw, w.before ([.int (iI p1)] : List Value).toArray s = true := fun w h => hts w (jm h)
  have hown : s.vm.findClass RX0 = some m.cls := findClass_of_methodNamed B.named
  subst hsz
  have hP : va_P (dC, dI) vwCl [] s.heap := fun k q h => by simp at h
  generalize hAe : (va_A [] s.heap.size) = A
  have hA : ∀ q : Nat, s.heap.size ≤ q → A q := fun q h => by rw [← hAe]; exact Or.inr h
  have hS : va_S A s.heap s.heap [] := va_S.rf
  have hl := lv_entry ([.int (iI p1)]) (n := 1) (Nat.le_of_ble_eq_true rfl)
  rw [lg_entry_eq]
  generalize (lg_sl ([.int (iI p1)]) ++ List.replicate (1 - (lg_sl ([.int (iI p1)])).length) Slot.unset).toArray = ls at hl ⊢
  have hl : lv_has ls 1 [(0, .int (iI p1))] := hl
  generalize hQ : MQ below (va_Qi (fun (r : Int32) (_ : Unit) => ∃ z : Int, r = iI z ∧ (0 ≤ z ∧ z ≤ 1)) (fun _ _ => True) A) ([.int (iI p1)] : List Value).toArray s 0 0 A = Q
  suffices ST : ∀ (H : Heap) (locs : List Loc), va_P (dC, dI) vwCl [] H → va_S A s.heap H locs → W p l e ({ frames := 1, cells := 0, slots := 0, locals := 20 }) s m ([.int (iI p1)] : List Value).toArray below meth c H locs 0 0 Q (F0 m 0 ls []) from ST _ _ hP hS
  clear hP hS
  intro H locs hP hS
  refine lv_iload_n hx hb dX0_isMark_0 rfl (lv_at hl 0 rfl) ?_
  refine lv_bipush (v := iI 97) hx hb dX0_isMark_1 rfl ?_
  have J12 : ∀ (H : Heap) (locs : List Loc) (ls : Array Slot), va_P (dC, dI) vwCl [] H → va_S A s.heap H locs → lv_has ls 1 [(0, .int (iI p1))] → W p l e ({ frames := 1, cells := 0, slots := 0, locals := 20 }) s m ([.int (iI p1)] : List Value).toArray below meth c H locs 0 0 Q (F0 m 12 ls []) := by
    intro H locs ls hP hS hl
    refine lv_iload_n hx hb dX0_isMark_12 rfl (lv_at hl 0 rfl) ?_
    refine jc_i (va_runS (As := [.int (iI p1)]) (rest := []) ⟨hx, hb, hml, hown, hts⟩ (sX0_isDigit l dC dI _ p1 (by omega)) (va_cwS 1 hts (jgoodS m_664 m_665 m_666 m_667) rfl rfl rfl (by decide +kernel) ⟨(Nat.le_of_ble_eq_true rfl), (Nat.le_of_ble_eq_true rfl)⟩) ⟨jw_blind0, fun U hU hW => ⟨rfl, congrArg Array.size hU⟩⟩ rfl rfl hl.1 rfl (lv_room (Nat.le_of_ble_eq_true rfl)) dX0_isMark_13 ⟨(Nat.le_of_ble_eq_true rfl), (Nat.le_of_ble_eq_true rfl)⟩) hP hS hA (fun r_1 H locs w_2 hP hS => ?_)
    obtain ⟨z_3, rfl, h_4, h_5⟩ := w_2
    refine xr_if_eq (tgt := 23) hx hb dX0_isMark_16 (by decide) (by omega) (fun h_6 => ?_) (fun h_6 => ?_)
    · refine lv_iconst (v := iI 0) hx hb dX0_isMark_23 rfl ?_
      rw [← hQ]
      exact W.zret (v := iI 0) (ty := .boolean) hx hb hr (nb_bool (by omega) (by omega)) (fun t ht hW => ⟨⟨iI 0, (), rfl, ⟨0, rfl, by omega⟩, trivial⟩, hS.F ht⟩) hS.2.2 dX0_isMark_24
    · refine lv_iconst (v := iI 1) hx hb dX0_isMark_19 rfl ?_
      refine lv_goto (tgt := 24) hx hb dX0_isMark_20 (by decide) ?_
      rw [← hQ]
      exact W.zret (v := iI 1) (ty := .boolean) hx hb hr (nb_bool (by omega) (by omega)) (fun t ht hW => ⟨⟨iI 1, (), rfl, ⟨1, rfl, by omega⟩, trivial⟩, hS.F ht⟩) hS.2.2 dX0_isMark_24
  refine xr_icmp_lt (tgt := 12) hx hb dX0_isMark_3 (by decide) (by omega) (by omega) (fun h_7 => ?_) (fun h_7 => ?_)
  · exact J12 H locs ls hP hS hl
  · refine lv_iload_n hx hb dX0_isMark_6 rfl (lv_at hl 0 rfl) ?_
    refine lv_bipush (v := iI 122) hx hb dX0_isMark_7 rfl ?_
    refine xr_icmp_le (tgt := 19) hx hb dX0_isMark_9 (by decide) (by omega) (by omega) (fun h_8 => ?_) (fun h_8 => ?_)
    · refine lv_iconst (v := iI 1) hx hb dX0_isMark_19 rfl ?_
      refine lv_goto (tgt := 24) hx hb dX0_isMark_20 (by decide) ?_
      rw [← hQ]
      exact W.zret (v := iI 1) (ty := .boolean) hx hb hr (nb_bool (by omega) (by omega)) (fun t ht hW => ⟨⟨iI 1, (), rfl, ⟨1, rfl, by omega⟩, trivial⟩, hS.F ht⟩) hS.2.2 dX0_isMark_24
    · exact J12 H locs ls hP hS hl
set_option maxHeartbeats 2000000 in
set_option maxRecDepth 100000 in
theorem sX0_headingSize (l : Launch) (dC : Nat → ClassId) (dI : Nat → Nat → Nat) (sz : Nat) (p1 : Int) (p2 : Int) (p3 : Int) (q1 : rg p1) (q2 : rg p2) (q3 : rg p3) : Met l yX0_headingSize (jk yX0_headingSize cX0_headingSize 8 (some .int)) ({ frames := 2, cells := 0, slots := 0, locals := 40 }) (va_Pc [.int (iI p1), .int (iI p2), .int (iI p3)] (fun U => U.heap.size = sz)) (va_Qi (fun (r : Int32) (_ : Unit) => ∃ z : Int, r = iI z ∧ ((-1) ≤ z ∧ z ≤ 12) ∧ (z = -1 ∨ 1 ≤ z)) (fun _ _ => True) (va_A [] sz)) 0 0 (va_A [] sz) := by
  refine Met.ofW (cc := cX0_headingSize) (maxL := 8) (ret := (some .int)) (by decide) rfl ?_
  intro p e s m args below meth c s₁ B hml hv
  obtain ⟨rfl, hsz⟩ := hv
  have hx := B.exec
  have hb := B.bytes
  have hr := B.returns
  have hts := atoms_spec (ws := (jk yX0_headingSize cX0_headingSize 8 (some .int))) B.pre
  have hj : ∀ w ∈ jw, w.before ([.int (iI p1), .int (iI p2), .int (iI p3)] : List Value).toArray s = true := fun w h => hts w (jm h)
  have hown : s.vm.findClass RX0 = some m.cls := findClass_of_methodNamed B.named
  subst hsz
  have hP : va_P (dC, dI) vwCl [] s.heap := fun k q h => by simp at h
  generalize hAe : (va_A [] s.heap.size) = A
  have hA : ∀ q : Nat, s.heap.size ≤ q → A q := fun q h => by rw [← hAe]; exact Or.inr h
  have hS : va_S A s.heap s.heap [] := va_S.rf
  have hl := lv_entry ([.int (iI p1), .int (iI p2), .int (iI p3)]) (n := 8) (Nat.le_of_ble_eq_true rfl)
  rw [lg_entry_eq]
  generalize (lg_sl ([.int (iI p1), .int (iI p2), .int (iI p3)]) ++ List.replicate (8 - (lg_sl ([.int (iI p1), .int (iI p2), .int (iI p3)])).length) Slot.unset).toArray = ls at hl ⊢
  have hl : lv_has ls 8 [(0, .int (iI p1)), (1, .int (iI p2)), (2, .int (iI p3))] := hl
  generalize hQ : MQ below (va_Qi (fun (r : Int32) (_ : Unit) => ∃ z : Int, r = iI z ∧ ((-1) ≤ z ∧ z ≤ 12) ∧ (z = -1 ∨ 1 ≤ z)) (fun _ _ => True) A) ([.int (iI p1), .int (iI p2), .int (iI p3)] : List Value).toArray s 0 0 A = Q
  suffices ST : ∀ (H : Heap) (locs : List Loc), va_P (dC, dI) vwCl [] H → va_S A s.heap H locs → W p l e ({ frames := 2, cells := 0, slots := 0, locals := 40 }) s m ([.int (iI p1), .int (iI p2), .int (iI p3)] : List Value).toArray below meth c H locs 0 0 Q (F0 m 0 ls []) from ST _ _ hP hS
  clear hP hS
  intro H locs hP hS
  refine lv_iconst (v := iI 0) hx hb dX0_headingSize_0 rfl ?_
  refine lv_istore_n (i := 3) (lv' := [(3, .int (iI 0)), (0, .int (iI p1)), (1, .int (iI p2)), (2, .int (iI p3))]) hx hb dX0_headingSize_1 rfl hl (by decide) rfl (fun ls hl => ?_)
  refine lv_bipush (v := iI 32) hx hb dX0_headingSize_2 rfl ?_
  refine lv_istore (i := 4) (lv' := [(4, .int (iI 32)), (3, .int (iI 0)), (0, .int (iI p1)), (1, .int (iI p2)), (2, .int (iI p3))]) hx hb dX0_headingSize_4 hl (by decide) rfl (fun ls hl => ?_)
  refine lv_iconst (v := iI 0) hx hb dX0_headingSize_6 rfl ?_
  refine lv_istore (i := 5) (lv' := [(5, .int (iI 0)), (4, .int (iI 32)), (3, .int (iI 0)), (0, .int (iI p1)), (1, .int (iI p2)), (2, .int (iI p3))]) hx hb dX0_headingSize_7 hl (by decide) rfl (fun ls hl => ?_)
  have L9 : ∀ (n9 : Nat) (a5_9 a4_9 a3_9 : Int) (H : Heap) (locs : List Loc) (ls : Array Slot), (0 ≤ a5_9 ∧ a5_9 ≤ 2147483647) → ((-2147483648) ≤ a4_9 ∧ a4_9 ≤ 2147483647) → ((-2147483648) ≤ a3_9 ∧ a3_9 ≤ 2147483647) → (0 ≤ a3_9 ∧ a3_9 ≤ a5_9 ∧ a3_9 ≤ 12) → (1 ≤ a3_9 ∨ a4_9 = 32) → (0 < (n9 : Int) ∧ 12 - a5_9 < (n9 : Int)) → va_P (dC, dI) vwCl [] H → va_S A s.heap H locs → lv_has ls 8 [(5, .int (iI a5_9)), (4, .int (iI a4_9)), (3, .int (iI a3_9)), (0, .int (iI p1)), (1, .int (iI p2)), (2, .int (iI p3))] → W p l e ({ frames := 2, cells := 0, slots := 0, locals := 40 }) s m ([.int (iI p1), .int (iI p2), .int (iI p3)] : List Value).toArray below meth c H locs 0 0 Q (F0 m 9 ls []) := by
    intro n9
    induction n9 with
    | zero =>
      intro a5_9 a4_9 a3_9 H locs ls h_1 h_2 h_3 h_4 h_5 hm9 hP hS hl
      exfalso; omega
    | succ n9 ih9 =>
      intro a5_9 a4_9 a3_9 H locs ls h_6 h_7 h_8 h_9 h_10 hm9 hP hS hl
      refine lv_iload hx hb dX0_headingSize_9 (lv_at hl 0 rfl) ?_
      refine lv_bipush (v := iI 12) hx hb dX0_headingSize_11 rfl ?_
      refine xr_icmp_ge (tgt := 89) hx hb dX0_headingSize_13 (by decide) (by omega) (by omega) (fun h_11 => ?_) (fun h_11 => ?_)
      · refine lv_iload hx hb dX0_headingSize_89 (lv_at hl 1 rfl) ?_
        refine lv_bipush (v := iI 32) hx hb dX0_headingSize_91 rfl ?_
        refine xr_icmp_ne (tgt := 100) hx hb dX0_headingSize_93 (by decide) (by omega) (by omega) (fun h_12 => ?_) (fun h_12 => ?_)
        · refine lv_iload_n hx hb dX0_headingSize_100 rfl (lv_at hl 2 rfl) ?_
          rw [← hQ]
          exact W.iret (v := iI a3_9) hx hb hr (fun t ht hW => ⟨⟨iI a3_9, (), rfl, ⟨a3_9, rfl, by omega, by omega⟩, trivial⟩, hS.F ht⟩) hS.2.2 dX0_headingSize_101
        · refine lv_iconst (v := iI (-1)) hx hb dX0_headingSize_96 rfl ?_
          refine lv_goto (tgt := 101) hx hb dX0_headingSize_97 (by decide) ?_
          rw [← hQ]
          exact W.iret (v := iI (-1)) hx hb hr (fun t ht hW => ⟨⟨iI (-1), (), rfl, ⟨(-1), rfl, by omega, by omega⟩, trivial⟩, hS.F ht⟩) hS.2.2 dX0_headingSize_101
      · refine lv_iload_n hx hb dX0_headingSize_16 rfl (lv_at hl 3 rfl) ?_
        refine lv_iload_n hx hb dX0_headingSize_17 rfl (lv_at hl 4 rfl) ?_
        refine lv_iload_n hx hb dX0_headingSize_18 rfl (lv_at hl 5 rfl) ?_
        refine lv_iload hx hb dX0_headingSize_19 (lv_at hl 0 rfl) ?_
        refine jc_i (va_runS (As := [.int (iI p1), .int (iI p2), .int (iI p3), .int (iI a5_9)]) (rest := []) ⟨hx, hb, hml, hown, hts⟩ (sX0_byteOf l dC dI _ p1 p2 p3 a5_9 (by omega) (by omega) (by omega) (by omega)) (va_cwS 4 hts (jgoodS m_668 m_669 m_666 m_670) rfl rfl rfl (by decide +kernel) ⟨(Nat.le_of_ble_eq_true rfl), (Nat.le_of_ble_eq_true rfl)⟩) ⟨jw_blind0, fun U hU hW => ⟨rfl, congrArg Array.size hU⟩⟩ rfl rfl hl.1 rfl (lv_room (Nat.le_of_ble_eq_true rfl)) dX0_headingSize_21 ⟨(Nat.le_of_ble_eq_true rfl), (Nat.le_of_ble_eq_true rfl)⟩) hP hS hA (fun r_13 H locs w_14 hP hS => ?_)
        obtain ⟨z_15, rfl, h_16⟩ := w_14
        refine lv_istore (i := 6) (lv' := [(6, .int (iI z_15)), (5, .int (iI a5_9)), (4, .int (iI a4_9)), (3, .int (iI a3_9)), (0, .int (iI p1)), (1, .int (iI p2)), (2, .int (iI p3))]) hx hb dX0_headingSize_24 hl (by decide) rfl (fun ls hl => ?_)
        refine lv_iload hx hb dX0_headingSize_26 (lv_at hl 0 rfl) ?_
        have J83 : ∀ (a4_83 a3_83 : Int) (H : Heap) (locs : List Loc) (ls : Array Slot), ((-2147483648) ≤ a4_83 ∧ a4_83 ≤ 2147483647) → ((-2147483648) ≤ a3_83 ∧ a3_83 ≤ 2147483647) → (0 ≤ a3_83 ∧ a3_83 ≤ a5_9 + 1 ∧ a3_83 ≤ 12) → (1 ≤ a3_83 ∨ a4_83 = 32) → va_P (dC, dI) vwCl [] H → va_S A s.heap H locs → lv_has ls 8 [(6, .int (iI z_15)), (5, .int (iI a5_9)), (4, .int (iI a4_83)), (3, .int (iI a3_83)), (0, .int (iI p1)), (1, .int (iI p2)), (2, .int (iI p3))] → W p l e ({ frames := 2, cells := 0, slots := 0, locals := 40 }) s m ([.int (iI p1), .int (iI p2), .int (iI p3)] : List Value).toArray below meth c H locs 0 0 Q (F0 m 83 ls []) := by
          intro a4_83 a3_83 H locs ls h_17 h_18 h_19 h_20 hP hS hl
          refine lv_iinc (v := iI (a5_9 + 1)) (lv' := [(5, .int (iI (a5_9 + 1))), (6, .int (iI z_15)), (4, .int (iI a4_83)), (3, .int (iI a3_83)), (0, .int (iI p1)), (1, .int (iI p2)), (2, .int (iI p3))]) hx hb dX0_headingSize_83 hl (k := 1) rfl (iI_add _ _) (by decide) rfl (fun ls hl => ?_)
          refine lv_goto (tgt := 9) hx hb dX0_headingSize_86 (by decide) ?_
          exact ih9 (a5_9 + 1) a4_83 a3_83 H locs ls (by omega) (by omega) (by omega) (by omega) (by omega) (by omega) hP hS (lv_sub hl [0, 2, 3, 4, 5, 6] rfl)
        refine xr_if_ne (tgt := 34) hx hb dX0_headingSize_28 (by decide) (by omega) (fun h_21 => ?_) (fun h_21 => ?_)
        · refine lv_iload hx hb dX0_headingSize_34 (lv_at hl 0 rfl) ?_
          refine jc_i (va_runS (As := [.int (iI z_15)]) (rest := []) ⟨hx, hb, hml, hown, hts⟩ (sX0_isMark l dC dI _ z_15 (by omega)) (va_cwS 1 hts (jgoodS m_671 m_672 m_666 m_673) rfl rfl rfl (by decide +kernel) ⟨(Nat.le_of_ble_eq_true rfl), (Nat.le_of_ble_eq_true rfl)⟩) ⟨jw_blind0, fun U hU hW => ⟨rfl, congrArg Array.size hU⟩⟩ rfl rfl hl.1 rfl (lv_room (Nat.le_of_ble_eq_true rfl)) dX0_headingSize_36 ⟨(Nat.le_of_ble_eq_true rfl), (Nat.le_of_ble_eq_true rfl)⟩) hP hS hA (fun r_22 H locs w_23 hP hS => ?_)
          obtain ⟨z_24, rfl, h_25⟩ := w_23
          have J61 : ∀ (s0_61 : Int) (H : Heap) (locs : List Loc) (ls : Array Slot), (0 ≤ s0_61 ∧ s0_61 ≤ 1) → va_P (dC, dI) vwCl [] H → va_S A s.heap H locs → lv_has ls 8 [(6, .int (iI z_15)), (5, .int (iI a5_9)), (4, .int (iI a4_9)), (3, .int (iI a3_9)), (0, .int (iI p1)), (1, .int (iI p2)), (2, .int (iI p3))] → W p l e ({ frames := 2, cells := 0, slots := 0, locals := 40 }) s m ([.int (iI p1), .int (iI p2), .int (iI p3)] : List Value).toArray below meth c H locs 0 0 Q (F0 m 61 ls [.int (iI s0_61)]) := by
            intro s0_61 H locs ls h_26 hP hS hl
            refine lv_istore (i := 7) (lv' := [(7, .int (iI s0_61)), (6, .int (iI z_15)), (5, .int (iI a5_9)), (4, .int (iI a4_9)), (3, .int (iI a3_9)), (0, .int (iI p1)), (1, .int (iI p2)), (2, .int (iI p3))]) hx hb dX0_headingSize_61 hl (by decide) rfl (fun ls hl => ?_)
            refine lv_iload hx hb dX0_headingSize_63 (lv_at hl 0 rfl) ?_
            refine xr_if_eq (tgt := 74) hx hb dX0_headingSize_65 (by decide) (by omega) (fun h_27 => ?_) (fun h_27 => ?_)
            · refine lv_iconst (v := iI (-1)) hx hb dX0_headingSize_74 rfl ?_
              rw [← hQ]
              exact W.iret (v := iI (-1)) hx hb hr (fun t ht hW => ⟨⟨iI (-1), (), rfl, ⟨(-1), rfl, by omega, by omega⟩, trivial⟩, hS.F ht⟩) hS.2.2 dX0_headingSize_75
            · refine lv_iload_n hx hb dX0_headingSize_68 rfl (lv_at hl 4 rfl) ?_
              refine lv_iload hx hb dX0_headingSize_69 (lv_at hl 2 rfl) ?_
              refine xr_icmp_ge (tgt := 76) hx hb dX0_headingSize_71 (by decide) (by omega) (by omega) (fun h_28 => ?_) (fun h_28 => ?_)
              · refine lv_iload hx hb dX0_headingSize_76 (lv_at hl 1 rfl) ?_
                refine lv_istore (i := 4) (lv' := [(4, .int (iI z_15)), (7, .int (iI s0_61)), (6, .int (iI z_15)), (5, .int (iI a5_9)), (3, .int (iI a3_9)), (0, .int (iI p1)), (1, .int (iI p2)), (2, .int (iI p3))]) hx hb dX0_headingSize_78 hl (by decide) rfl (fun ls hl => ?_)
                refine lv_iinc (v := iI (a3_9 + 1)) (lv' := [(3, .int (iI (a3_9 + 1))), (4, .int (iI z_15)), (7, .int (iI s0_61)), (6, .int (iI z_15)), (5, .int (iI a5_9)), (0, .int (iI p1)), (1, .int (iI p2)), (2, .int (iI p3))]) hx hb dX0_headingSize_80 hl (k := 4) rfl (iI_add _ _) (by decide) rfl (fun ls hl => ?_)
                obtain ⟨z_29, h_30, h_31, e9⟩ := xr_keep (a3_9 + 1)
                rw [e9] at hl
                exact J83 z_15 z_29 H locs ls (by omega) (by omega) (by omega) (by omega) hP hS (lv_sub hl [3, 4, 1, 0, 5, 6, 7] rfl)
              · refine lv_iconst (v := iI (-1)) hx hb dX0_headingSize_74 rfl ?_
                rw [← hQ]
                exact W.iret (v := iI (-1)) hx hb hr (fun t ht hW => ⟨⟨iI (-1), (), rfl, ⟨(-1), rfl, by omega, by omega⟩, trivial⟩, hS.F ht⟩) hS.2.2 dX0_headingSize_75
          have J56 : ∀ (H : Heap) (locs : List Loc) (ls : Array Slot), va_P (dC, dI) vwCl [] H → va_S A s.heap H locs → lv_has ls 8 [(6, .int (iI z_15)), (5, .int (iI a5_9)), (4, .int (iI a4_9)), (3, .int (iI a3_9)), (0, .int (iI p1)), (1, .int (iI p2)), (2, .int (iI p3))] → W p l e ({ frames := 2, cells := 0, slots := 0, locals := 40 }) s m ([.int (iI p1), .int (iI p2), .int (iI p3)] : List Value).toArray below meth c H locs 0 0 Q (F0 m 56 ls []) := by
            intro H locs ls hP hS hl
            refine lv_iconst (v := iI 1) hx hb dX0_headingSize_56 rfl ?_
            refine lv_goto (tgt := 61) hx hb dX0_headingSize_57 (by decide) ?_
            exact J61 1 H locs ls (by omega) hP hS hl
          refine xr_if_ne (tgt := 56) hx hb dX0_headingSize_39 (by decide) (by omega) (fun h_32 => ?_) (fun h_32 => ?_)
          · exact J56 H locs ls hP hS hl
          · refine lv_iload hx hb dX0_headingSize_42 (lv_at hl 0 rfl) ?_
            refine lv_bipush (v := iI 32) hx hb dX0_headingSize_44 rfl ?_
            have J60 : ∀ (H : Heap) (locs : List Loc) (ls : Array Slot), va_P (dC, dI) vwCl [] H → va_S A s.heap H locs → lv_has ls 8 [(6, .int (iI z_15)), (5, .int (iI a5_9)), (4, .int (iI a4_9)), (3, .int (iI a3_9)), (0, .int (iI p1)), (1, .int (iI p2)), (2, .int (iI p3))] → W p l e ({ frames := 2, cells := 0, slots := 0, locals := 40 }) s m ([.int (iI p1), .int (iI p2), .int (iI p3)] : List Value).toArray below meth c H locs 0 0 Q (F0 m 60 ls []) := by
              intro H locs ls hP hS hl
              refine lv_iconst (v := iI 0) hx hb dX0_headingSize_60 rfl ?_
              exact J61 0 H locs ls (by omega) hP hS hl
            refine xr_icmp_ne (tgt := 60) hx hb dX0_headingSize_46 (by decide) (by omega) (by omega) (fun h_33 => ?_) (fun h_33 => ?_)
            · exact J60 H locs ls hP hS hl
            · refine lv_iload hx hb dX0_headingSize_49 (lv_at hl 2 rfl) ?_
              refine lv_bipush (v := iI 32) hx hb dX0_headingSize_51 rfl ?_
              refine xr_icmp_eq (tgt := 60) hx hb dX0_headingSize_53 (by decide) (by omega) (by omega) (fun h_34 => ?_) (fun h_34 => ?_)
              · exact J60 H locs ls hP hS hl
              · exact J56 H locs ls hP hS hl
        · refine lv_goto (tgt := 83) hx hb dX0_headingSize_31 (by decide) ?_
          exact J83 a4_9 a3_9 H locs ls (by omega) (by omega) (by omega) (by omega) hP hS hl
  exact L9 (((12 - 0 : Int)).toNat + 1) 0 32 0 H locs ls (by omega) (by omega) (by omega) (by omega) (by omega) (by omega) hP hS hl
set_option maxHeartbeats 2000000 in
set_option maxRecDepth 100000 in
theorem sX0_readHeading (l : Launch) (dC : Nat → ClassId) (dI : Nat → Nat → Nat) (sz : Nat) (L : List Nat) (cid : Nat → ClassId) (K : Int → Nat) (N : Int → Int) (tW : Nat) (sK sV : Nat → Nat) (v : Int → Int → Int) (p0 : Int) (p1 : Int) (p2 : Int) (p3 : Int) (hI : xI L K N v) (q0 : ok L K p0 0) (q1 : rg p1) (q2 : rg p2) (q3 : rg p3) : Met l yX0_readHeading (jk yX0_readHeading cX0_readHeading 5 none) ({ frames := 1, cells := 0, slots := 0, locals := 24 }) (va_Pc [.ref p0.toNat, .int (iI p1), .int (iI p2), .int (iI p3)] (xP (dC, dI) (xG L cid K N v) (xT cid) tW sK sV sz)) (va_Qv (fun (u : (Int → Int → Int)) => (xI L K N u) ∧ (fr K [(0, 3), (0, 4), (65, (-1))] u v)) (fun u t => va_P (dC, dI) vwCl (xG L cid K N u) t.heap ∧ va_K (dC, dI) vwCl (xT cid) t ∧ va_D (va_A (xG L cid K N v) sz) (xG L cid K N u)) (va_A (xG L cid K N v) sz)) 0 0 (va_A (xG L cid K N v) sz) := by
  refine Met.ofW (cc := cX0_readHeading) (maxL := 5) (ret := none) (by decide) rfl ?_
  intro p e s m args below meth c s₁ B hml hv
  obtain ⟨rfl, ⟨hsz, hP, hK, hD0⟩, hX⟩ := hv
  have hx := B.exec
  have hb := B.bytes
  have hr := B.returns
  have hts := atoms_spec (ws := (jk yX0_readHeading cX0_readHeading 5 none)) B.pre
  have hj : ∀ w ∈ jw, w.before ([.ref p0.toNat, .int (iI p1), .int (iI p2), .int (iI p3)] : List Value).toArray s = true := fun w h => hts w (jm h)
  have hown : s.vm.findClass RX0 = some m.cls := findClass_of_methodNamed B.named
  subst hsz
  have hD := hD0.self (sz := s.heap.size)
  generalize hAe : (va_A (xG L cid K N v) s.heap.size) = A at hD hX ⊢
  have hA : ∀ q : Nat, s.heap.size ≤ q → A q := fun q h => by rw [← hAe]; exact Or.inr h
  have hS : va_S A s.heap s.heap [] := va_S.rf
  have hXa := hX
  have hP : va_P (dC, dI) vwCl (xG L cid K N v) s.heap := hP
  have hl := lv_entry ([.ref p0.toNat, .int (iI p1), .int (iI p2), .int (iI p3)]) (n := 5) (Nat.le_of_ble_eq_true rfl)
  rw [lg_entry_eq]
  generalize (lg_sl ([.ref p0.toNat, .int (iI p1), .int (iI p2), .int (iI p3)]) ++ List.replicate (5 - (lg_sl ([.ref p0.toNat, .int (iI p1), .int (iI p2), .int (iI p3)])).length) Slot.unset).toArray = ls at hl ⊢
  have hl : lv_has ls 5 [(0, .ref p0.toNat), (1, .int (iI p1)), (2, .int (iI p2)), (3, .int (iI p3))] := hl
  generalize hQ : MQ below (va_Qv (fun (u : (Int → Int → Int)) => (xI L K N u) ∧ (fr K [(0, 3), (0, 4), (65, (-1))] u v)) (fun u t => va_P (dC, dI) vwCl (xG L cid K N u) t.heap ∧ va_K (dC, dI) vwCl (xT cid) t ∧ va_D A (xG L cid K N u)) A) ([.ref p0.toNat, .int (iI p1), .int (iI p2), .int (iI p3)] : List Value).toArray s 0 0 A = Q
  suffices ST : ∀ (H : Heap) (locs : List Loc), va_P (dC, dI) vwCl (xG L cid K N v) H → va_S A s.heap H locs → W p l e ({ frames := 1, cells := 0, slots := 0, locals := 24 }) s m ([.ref p0.toNat, .int (iI p1), .int (iI p2), .int (iI p3)] : List Value).toArray below meth c H locs 0 0 Q (F0 m 0 ls []) from ST _ _ hP hS
  clear hP hS
  intro H locs hP hS
  refine lv_iconst (v := iI 0) hx hb dX0_readHeading_0 rfl ?_
  refine lv_istore (i := 4) (lv' := [(4, .int (iI 0)), (0, .ref p0.toNat), (1, .int (iI p1)), (2, .int (iI p2)), (3, .int (iI p3))]) hx hb dX0_readHeading_1 hl (by decide) rfl (fun ls hl => ?_)
  have L3 : ∀ (n3 : Nat) (a4_3 : Int) (vc3 : Int → Int → Int) (H : Heap) (locs : List Loc) (ls : Array Slot), (0 ≤ a4_3 ∧ a4_3 ≤ 2147483647) → (0 < (n3 : Int) ∧ (N (v p0 2)) - a4_3 < (n3 : Int)) → fr K [(65, (-1))] vc3 v → xI L K N vc3 → va_P (dC, dI) vwCl (xG L cid K N vc3) H → va_D A (xG L cid K N vc3) → va_S A s.heap H locs → lv_has ls 5 [(4, .int (iI a4_3)), (0, .ref p0.toNat), (1, .int (iI p1)), (2, .int (iI p2)), (3, .int (iI p3))] → W p l e ({ frames := 1, cells := 0, slots := 0, locals := 24 }) s m ([.ref p0.toNat, .int (iI p1), .int (iI p2), .int (iI p3)] : List Value).toArray below meth c H locs 0 0 Q (F0 m 3 ls []) := by
    intro n3
    induction n3 with
    | zero =>
      intro a4_3 vc3 H locs ls h_1 hm3 f_2 I_3 hP hD hS hl
      exfalso; omega
    | succ n3 ih3 =>
      intro a4_3 vc3 H locs ls h_4 hm3 f_5 I_6 hP hD hS hl
      refine lv_iload hx hb dX0_readHeading_3 (lv_at hl 0 rfl) ?_
      refine lv_aload_n hx hb dX0_readHeading_5 rfl (lv_at hl 1 rfl) ?_
      have h_7 : ok L K (v p0 2) 65 := xf_0_2 hI q0
      have h_8 : 0 ≤ N (v p0 2) ∧ N (v p0 2) ≤ 12 := xn_65 hI h_7
      refine gx_RX0_36 (y := v p0 2) hx hb hj hown hK hP q0 ((xf_0_2 I_6 q0).1) (fr_use q0 f_5 rfl) dX0_readHeading_6 ?_
      refine lx_65 (y := N (v p0 2)) hx hb hK hP h_7 rfl (by omega) dX0_readHeading_9 ?_
      refine xr_icmp_ge (tgt := 35) hx hb dX0_readHeading_10 (by decide) (by omega) (by omega) (fun h_9 => ?_) (fun h_9 => ?_)
      · refine lv_iconst (v := iI 0) hx hb dX0_readHeading_35 rfl ?_
        refine lv_istore (i := 4) (lv' := [(4, .int (iI 0)), (0, .ref p0.toNat), (1, .int (iI p1)), (2, .int (iI p2)), (3, .int (iI p3))]) hx hb dX0_readHeading_36 hl (by decide) rfl (fun ls hl => ?_)
        have L38 : ∀ (n38 : Nat) (a4_38 : Int) (vc38 : Int → Int → Int) (H : Heap) (locs : List Loc) (ls : Array Slot), (0 ≤ a4_38 ∧ a4_38 ≤ 2147483647) → (0 < (n38 : Int) ∧ (N (v p0 2)) - a4_38 < (n38 : Int)) → fr K [(0, 3), (0, 4)] vc38 vc3 → xI L K N vc38 → va_P (dC, dI) vwCl (xG L cid K N vc38) H → va_D A (xG L cid K N vc38) → va_S A s.heap H locs → lv_has ls 5 [(4, .int (iI a4_38)), (0, .ref p0.toNat), (1, .int (iI p1)), (2, .int (iI p2)), (3, .int (iI p3))] → W p l e ({ frames := 1, cells := 0, slots := 0, locals := 24 }) s m ([.ref p0.toNat, .int (iI p1), .int (iI p2), .int (iI p3)] : List Value).toArray below meth c H locs 0 0 Q (F0 m 38 ls []) := by
          intro n38
          induction n38 with
          | zero =>
            intro a4_38 vc38 H locs ls h_10 hm38 f_11 I_12 hP hD hS hl
            exfalso; omega
          | succ n38 ih38 =>
            intro a4_38 vc38 H locs ls h_13 hm38 f_14 I_15 hP hD hS hl
            refine lv_iload hx hb dX0_readHeading_38 (lv_at hl 0 rfl) ?_
            refine lv_aload_n hx hb dX0_readHeading_40 rfl (lv_at hl 1 rfl) ?_
            refine gx_RX0_36 (y := v p0 2) hx hb hj hown hK hP q0 ((xf_0_2 I_15 q0).1) (((fr_use q0 f_14 rfl)).trans (fr_use q0 f_5 rfl)) dX0_readHeading_41 ?_
            refine lx_65 (y := N (v p0 2)) hx hb hK hP h_7 rfl (by omega) dX0_readHeading_44 ?_
            have J94 : ∀ (H : Heap) (locs : List Loc) (ls : Array Slot), va_P (dC, dI) vwCl (xG L cid K N vc38) H → va_D A (xG L cid K N vc38) → va_S A s.heap H locs → lv_has ls 5 [(4, .int (iI a4_38)), (0, .ref p0.toNat), (1, .int (iI p1)), (2, .int (iI p2)), (3, .int (iI p3))] → W p l e ({ frames := 1, cells := 0, slots := 0, locals := 24 }) s m ([.ref p0.toNat, .int (iI p1), .int (iI p2), .int (iI p3)] : List Value).toArray below meth c H locs 0 0 Q (F0 m 94 ls []) := by
              intro H locs ls hP hD hS hl
              refine lv_aload_n hx hb dX0_readHeading_94 rfl (lv_at hl 1 rfl) ?_
              have h_16 : (-2147483648) ≤ vc38 p0 4 ∧ vc38 p0 4 ≤ 2147483647 := xf_0_4 I_15 q0
              refine gx_RX0_55 (y := vc38 p0 4) hx hb hj hown hK hP q0 rfl dX0_readHeading_95 ?_
              refine lv_aload_n hx hb dX0_readHeading_98 rfl (lv_at hl 1 rfl) ?_
              refine gx_RX0_36 (y := v p0 2) hx hb hj hown hK hP q0 ((xf_0_2 I_15 q0).1) (((fr_use q0 f_14 rfl)).trans (fr_use q0 f_5 rfl)) dX0_readHeading_99 ?_
              refine lx_65 (y := N (v p0 2)) hx hb hK hP h_7 rfl (by omega) dX0_readHeading_102 ?_
              refine xr_icmp_gt (tgt := 115) hx hb dX0_readHeading_103 (by decide) (by omega) (by omega) (fun h_17 => ?_) (fun h_17 => ?_)
              · refine lv_aload_n hx hb dX0_readHeading_115 rfl (lv_at hl 1 rfl) ?_
                refine lv_iconst (v := iI 0) hx hb dX0_readHeading_116 rfl ?_
                refine px_RX0_55 (y := 0) hx hb hj hown hK hP hD hS I_15 q0 ⟨by omega, by omega⟩ dX0_readHeading_117 (fun v_18 H locs f_19 e_20 o_21 I_22 hP hD hS => ?_)
                rw [← hQ]
                exact W.vret hx hb hr (fun t ht hW => ⟨⟨v_18, rfl, ⟨I_22, (fr_tr f_19 rfl (fr_tr f_14 rfl (fr_tr f_5 rfl fr_rf)))⟩, by rw [ht]; exact hP, va_K.moved hW.alike hK, hD⟩, hS.F ht⟩) hS.2.2 dX0_readHeading_120
              · refine lv_aload_n hx hb dX0_readHeading_106 rfl (lv_at hl 1 rfl) ?_
                refine gx_RX0_55 (y := vc38 p0 4) hx hb hj hown hK hP q0 rfl dX0_readHeading_107 ?_
                refine lv_bipush (v := iI 9) hx hb dX0_readHeading_110 rfl ?_
                refine xr_icmp_le (tgt := 120) hx hb dX0_readHeading_112 (by decide) (by omega) (by omega) (fun h_23 => ?_) (fun h_23 => ?_)
                · rw [← hQ]
                  exact W.vret hx hb hr (fun t ht hW => ⟨⟨vc38, rfl, ⟨I_15, (fr_tr f_14 rfl (fr_tr f_5 rfl fr_rf))⟩, by rw [ht]; exact hP, va_K.moved hW.alike hK, hD⟩, hS.F ht⟩) hS.2.2 dX0_readHeading_120
                · refine lv_aload_n hx hb dX0_readHeading_115 rfl (lv_at hl 1 rfl) ?_
                  refine lv_iconst (v := iI 0) hx hb dX0_readHeading_116 rfl ?_
                  refine px_RX0_55 (y := 0) hx hb hj hown hK hP hD hS I_15 q0 ⟨by omega, by omega⟩ dX0_readHeading_117 (fun v_24 H locs f_25 e_26 o_27 I_28 hP hD hS => ?_)
                  rw [← hQ]
                  exact W.vret hx hb hr (fun t ht hW => ⟨⟨v_24, rfl, ⟨I_28, (fr_tr f_25 rfl (fr_tr f_14 rfl (fr_tr f_5 rfl fr_rf)))⟩, by rw [ht]; exact hP, va_K.moved hW.alike hK, hD⟩, hS.F ht⟩) hS.2.2 dX0_readHeading_120
            refine xr_icmp_ge (tgt := 94) hx hb dX0_readHeading_45 (by decide) (by omega) (by omega) (fun h_29 => ?_) (fun h_29 => ?_)
            · exact J94 H locs ls hP hD hS hl
            · refine lv_aload_n hx hb dX0_readHeading_48 rfl (lv_at hl 1 rfl) ?_
              refine gx_RX0_36 (y := v p0 2) hx hb hj hown hK hP q0 ((xf_0_2 I_15 q0).1) (((fr_use q0 f_14 rfl)).trans (fr_use q0 f_5 rfl)) dX0_readHeading_49 ?_
              refine lv_iload hx hb dX0_readHeading_52 (lv_at hl 0 rfl) ?_
              have h_30 : (-128) ≤ vc3 (v p0 2) a4_38 ∧ vc3 (v p0 2) a4_38 ≤ 127 := xe_65 I_6 h_7 (by omega)
              refine ax_65 (y := vc3 (v p0 2) a4_38) hx hb hK hP h_7 (by omega) (by omega) (by omega) (fr_use h_7 f_14 rfl) dX0_readHeading_54 ?_
              refine lv_bipush (v := iI 32) hx hb dX0_readHeading_55 rfl ?_
              refine xr_icmp_eq (tgt := 94) hx hb dX0_readHeading_57 (by decide) (by omega) (by omega) (fun h_31 => ?_) (fun h_31 => ?_)
              · exact J94 H locs ls hP hD hS hl
              · refine lv_aload_n hx hb dX0_readHeading_60 rfl (lv_at hl 1 rfl) ?_
                refine lv_aload_n hx hb dX0_readHeading_61 rfl (lv_at hl 1 rfl) ?_
                refine gx_RX0_51 (y := vc38 p0 3) hx hb hj hown hK hP q0 rfl dX0_readHeading_62 ?_
                refine lv_bipush (v := iI 8) hx hb dX0_readHeading_65 rfl ?_
                refine lv_lshl hx hb dX0_readHeading_67 rfl ?_
                refine xl_any (fun u_32 => ?_)
                refine lv_aload_n hx hb dX0_readHeading_68 rfl (lv_at hl 1 rfl) ?_
                refine gx_RX0_36 (y := v p0 2) hx hb hj hown hK hP q0 ((xf_0_2 I_15 q0).1) (((fr_use q0 f_14 rfl)).trans (fr_use q0 f_5 rfl)) dX0_readHeading_69 ?_
                refine lv_iload hx hb dX0_readHeading_72 (lv_at hl 0 rfl) ?_
                refine ax_65 (y := vc3 (v p0 2) a4_38) hx hb hK hP h_7 (by omega) (by omega) (by omega) (fr_use h_7 f_14 rfl) dX0_readHeading_74 ?_
                refine lv_i2l (v := (iI (vc3 (v p0 2) a4_38)).toInt64) hx hb dX0_readHeading_75 rfl ?_
                refine xl_any (fun u_33 => ?_)
                refine lv_lor hx hb dX0_readHeading_76 ?_
                refine xl_any (fun u_34 => ?_)
                refine px_RX0_51 (y := u_34) hx hb hj hown hK hP hD hS I_15 q0 trivial dX0_readHeading_77 (fun v_35 H locs f_36 e_37 o_38 I_39 hP hD hS => ?_)
                refine lv_aload_n hx hb dX0_readHeading_80 rfl (lv_at hl 1 rfl) ?_
                refine lv_iload hx hb dX0_readHeading_81 (lv_at hl 0 rfl) ?_
                refine lv_iconst (v := iI 2) hx hb dX0_readHeading_83 rfl ?_
                refine xr_add hx hb dX0_readHeading_84 ?_
                refine px_RX0_55 (y := a4_38 + 2) hx hb hj hown hK hP hD hS I_39 q0 ⟨by omega, by omega⟩ dX0_readHeading_85 (fun v_40 H locs f_41 e_42 o_43 I_44 hP hD hS => ?_)
                refine lv_iinc (v := iI (a4_38 + 1)) (lv' := [(4, .int (iI (a4_38 + 1))), (0, .ref p0.toNat), (1, .int (iI p1)), (2, .int (iI p2)), (3, .int (iI p3))]) hx hb dX0_readHeading_88 hl (k := 0) rfl (iI_add _ _) (by decide) rfl (fun ls hl => ?_)
                refine lv_goto (tgt := 38) hx hb dX0_readHeading_91 (by decide) ?_
                exact ih38 (a4_38 + 1) v_40 H locs ls (by omega) (by omega) (fr_tr f_41 rfl (fr_tr f_36 rfl (fr_tr f_14 rfl fr_rf))) I_44 hP hD hS hl
        exact L38 ((((N (v p0 2)) - 0 : Int)).toNat + 1) 0 vc3 H locs ls (by omega) (by omega) fr_rf I_6 hP hD hS hl
      · refine lv_aload_n hx hb dX0_readHeading_13 rfl (lv_at hl 1 rfl) ?_
        refine gx_RX0_36 (y := v p0 2) hx hb hj hown hK hP q0 ((xf_0_2 I_6 q0).1) (fr_use q0 f_5 rfl) dX0_readHeading_14 ?_
        refine lv_iload hx hb dX0_readHeading_17 (lv_at hl 0 rfl) ?_
        refine lv_iload_n hx hb dX0_readHeading_19 rfl (lv_at hl 2 rfl) ?_
        refine lv_iload_n hx hb dX0_readHeading_20 rfl (lv_at hl 3 rfl) ?_
        refine lv_iload_n hx hb dX0_readHeading_21 rfl (lv_at hl 4 rfl) ?_
        refine lv_iload hx hb dX0_readHeading_22 (lv_at hl 0 rfl) ?_
        refine jc_i (va_runS (As := [.int (iI p1), .int (iI p2), .int (iI p3), .int (iI a4_3)]) (rest := [.int (iI a4_3), .ref (v p0 2).toNat]) ⟨hx, hb, hml, hown, hts⟩ (sX0_byteOf l dC dI _ p1 p2 p3 a4_3 (by omega) (by omega) (by omega) (by omega)) (va_cwS 4 hts (jgoodS m_668 m_669 m_666 m_670) rfl rfl rfl (by decide +kernel) ⟨(Nat.le_of_ble_eq_true rfl), (Nat.le_of_ble_eq_true rfl)⟩) ⟨jw_blind0, fun U hU hW => ⟨rfl, congrArg Array.size hU⟩⟩ rfl rfl hl.1 rfl (lv_room (Nat.le_of_ble_eq_true rfl)) dX0_readHeading_24 ⟨(Nat.le_of_ble_eq_true rfl), (Nat.le_of_ble_eq_true rfl)⟩) hP hS hA (fun r_45 H locs w_46 hP hS => ?_)
        obtain ⟨z_47, rfl, h_48⟩ := w_46
        refine xr_i2b hx hb dX0_readHeading_27 (fun z_49 h_50 => ?_)
        refine sx_65 hx hb hK hP hD hS I_6 h_7 (by omega) (by omega) (by omega) dX0_readHeading_28 (fun v_51 H locs f_52 o_54 I_55 hP hD hS => ?_)
        refine lv_iinc (v := iI (a4_3 + 1)) (lv' := [(4, .int (iI (a4_3 + 1))), (0, .ref p0.toNat), (1, .int (iI p1)), (2, .int (iI p2)), (3, .int (iI p3))]) hx hb dX0_readHeading_29 hl (k := 0) rfl (iI_add _ _) (by decide) rfl (fun ls hl => ?_)
        refine lv_goto (tgt := 3) hx hb dX0_readHeading_32 (by decide) ?_
        exact ih3 (a4_3 + 1) v_51 H locs ls (by omega) (by omega) (fr_tr f_52 rfl (fr_tr f_5 rfl fr_rf)) I_55 hP hD hS hl
  exact L3 ((((N (v p0 2)) - 0 : Int)).toNat + 1) 0 v H locs ls (by omega) (by omega) fr_rf hI hP hD hS hl
