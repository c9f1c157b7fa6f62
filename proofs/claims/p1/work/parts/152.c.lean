set_option maxHeartbeats 500000 in
set_option maxRecDepth 100000 in
theorem kX13_canBeSet_1 (l : Launch) (dC : Nat → ClassId) (dI : Nat → Nat → Nat) (sz : Nat) (h0 : Nat) (p1 : Int32) : Met l yX13_canBeSet (jk yX13_canBeSet cX13_canBeSet 5 (some .boolean)) ({ frames := 0, cells := 0, slots := 0, locals := 0 }) (va_Pc [.ref h0, .int p1, .int 0] (fun U => U.heap.size = sz)) (va_Qi (fun (r : Int32) (_ : Unit) => (r = 1)) (fun _ _ => True) (va_A [] sz)) 0 0 (va_A [] sz) := by
  refine Met.ofW (cc := cX13_canBeSet) (maxL := 5) (ret := (some .boolean)) (by decide) rfl ?_
  intro p e s m args below meth c s₁ B hml hv
  obtain ⟨rfl, hsz⟩ := hv
  have hx := B.exec
  have hb := B.bytes
  have hr := B.returns
  have hts := atoms_spec (ws := (jk yX13_canBeSet cX13_canBeSet 5 (some .boolean))) B.pre
  have hown : s.vm.findClass RX13 = some m.cls := findClass_of_methodNamed B.named
  have hlocks := B.notSynchronized
  subst hsz
  have hP : va_P (dC, dI) vwCl [] s.heap := fun k q h => by simp at h
  generalize hAe : (va_A [] s.heap.size) = A
  have hA : ∀ q : Nat, s.heap.size ≤ q → A q := fun q h => by rw [← hAe]; exact Or.inr h
  have hS : va_S A s.heap s.heap [] := va_S.rf
  have hl := lv_entry ([.ref h0, .int p1, .int 0]) (n := 5) (Nat.le_of_ble_eq_true rfl)
  rw [lg_entry_eq]
  generalize (lg_sl ([.ref h0, .int p1, .int 0]) ++ List.replicate (5 - (lg_sl ([.ref h0, .int p1, .int 0])).length) Slot.unset).toArray = ls at hl ⊢
  have hl : lv_has ls 5 [(0, .ref h0), (1, .int p1), (2, .int 0)] := hl
  refine lv_iconst (v := 0) hx hb dX13_canBeSet_0 (by decide) ?_
  refine lv_istore_n (lv' := [(3, .int 0), (0, .ref h0), (1, .int p1), (2, .int 0)]) hx hb dX13_canBeSet_1 rfl hl (by decide) rfl (fun ls hl => ?_)
  refine lv_iload_n hx hb dX13_canBeSet_2 rfl (lv_at hl 0 rfl) ?_
  refine lv_iload_n hx hb dX13_canBeSet_3 rfl (lv_at hl 3 rfl) ?_
  refine lv_icmp_ge (tgt := 83) hx hb dX13_canBeSet_4 (by decide) (fun _ => ?_) (fun z => absurd (by decide) z)
  refine lv_iconst (v := 1) hx hb dX13_canBeSet_83 (by decide) ?_
  exact W.zret (v := 1) (ty := .boolean) hx hb hr rfl (fun t ht hW => ⟨⟨1, (), rfl, rfl, trivial⟩, hS.F ht⟩) hS.2.2 dX13_canBeSet_84
theorem s_tX13_set_0 {p1 : Int32} (c_2 : p1 < 0) : (-1) = sp_set p1 := by
  unfold sp_set
  have g0 : p1.toInt < 0 := ji_lt.mp c_2
  split <;> first | rfl | (exfalso; omega)
theorem s_tX13_set_1 {p1 : Int32} (c_3 : ¬ (p1 < 0)) (c_4 : 5 < p1) : (-1) = sp_set p1 := by
  unfold sp_set
  have g0 : ¬ (p1.toInt < 0) := fun z => c_3 (ji_lt.mpr z)
  have g1 : 5 < p1.toInt := ji_lt.mp c_4
  split <;> first | rfl | (exfalso; omega)
theorem s_tX13_set_2 {p1 : Int32} (c_5 : ¬ (p1 < 0)) (c_6 : ¬ (5 < p1)) : 0 = sp_set p1 := by
  unfold sp_set
  have g0 : ¬ (p1.toInt < 0) := fun z => c_5 (ji_lt.mpr z)
  have g1 : ¬ (5 < p1.toInt) := fun z => c_6 (ji_lt.mpr z)
  split <;> first | rfl | (exfalso; omega)
set_option maxHeartbeats 500000 in
set_option maxRecDepth 100000 in
theorem tX13_set (l : Launch) (dC : Nat → ClassId) (dI : Nat → Nat → Nat) (sz : Nat) (ad : Nat → Nat) (ca : Nat → ClassId) (p1 : Int32) : Met l yX13_set (jk yX13_set cX13_set 8 (some .int)) ({ frames := 2, cells := 0, slots := 0, locals := 42 }) (va_Pc [.ref (ad 0), .int p1] (jw_P (dC, dI) (mW ad ca) (mT ca) sz)) (va_Qi (fun (r : Int32) (_ : Unit) => r = sp_set p1) (fun _ _ => True) (va_A (mW ad ca) sz)) 0 0 (va_A (mW ad ca) sz) := by
  refine Met.ofW (cc := cX13_set) (maxL := 8) (ret := (some .int)) (by decide) rfl ?_
  intro p e s m args below meth c s₁ B hml hv
  obtain ⟨rfl, hsz, hP, hK, hD0⟩ := hv
  have hx := B.exec
  have hb := B.bytes
  have hr := B.returns
  have hts := atoms_spec (ws := (jk yX13_set cX13_set 8 (some .int))) B.pre
  have hown : s.vm.findClass RX13 = some m.cls := findClass_of_methodNamed B.named
  have hlocks := B.notSynchronized
  subst hsz
  have hD := hD0.self (sz := s.heap.size)
  generalize hAe : (va_A (mW ad ca) s.heap.size) = A at hD ⊢
  have hA : ∀ q : Nat, s.heap.size ≤ q → A q := fun q h => by rw [← hAe]; exact Or.inr h
  have hS : va_S A s.heap s.heap [] := va_S.rf
  have hP : va_P (dC, dI) vwCl (mW ad ca) s.heap := hP
  have hl := lv_entry ([.ref (ad 0), .int p1]) (n := 8) (Nat.le_of_ble_eq_true rfl)
  rw [lg_entry_eq]
  generalize (lg_sl ([.ref (ad 0), .int p1]) ++ List.replicate (8 - (lg_sl ([.ref (ad 0), .int p1])).length) Slot.unset).toArray = ls at hl ⊢
  have hl : lv_has ls 8 [(0, .ref (ad 0)), (1, .int p1)] := hl
  refine lv_iload_n hx hb dX13_set_0 rfl (lv_at hl 1 rfl) ?_
  refine jc_i (va_runS (As := [.int p1]) (rest := []) ⟨hx, hb, hml, hown, hts⟩ (kX13_isVolume_1 l dC dI _ p1) (va_cwS 1 hts (jgoodS m_548 m_549 m_96 m_550) rfl rfl rfl (by decide +kernel) ⟨Nat.le_of_ble_eq_true rfl, Nat.le_of_ble_eq_true rfl⟩) ⟨jw_blind0, fun U hU hW => ⟨rfl, congrArg Array.size hU⟩⟩ rfl rfl hl.1 rfl (lv_room (Nat.le_of_ble_eq_true rfl)) dX13_set_1 ⟨Nat.le_of_ble_eq_true rfl, Nat.le_of_ble_eq_true rfl⟩) hP hS hA (fun r_1 H locs hw_1 hP hS => ?_)
  rcases (show (p1 < 0 ∧ r_1 = 0) ∨ (¬ (p1 < 0) ∧ 5 < p1 ∧ r_1 = 0) ∨ (¬ (p1 < 0) ∧ ¬ (5 < p1) ∧ r_1 = 1) from hw_1) with ⟨c_2, e_2_0⟩ | ⟨c_3, c_4, e_4_1⟩ | ⟨c_5, c_6, e_6_2⟩
  · have e_2_0 := e_2_0.symm
    subst e_2_0
    refine lv_if_eq (tgt := 16) hx hb dX13_set_4 (by decide) (fun _ => ?_) (fun z => absurd (by decide) z)
    refine lv_iconst (v := (-1)) hx hb dX13_set_16 (by decide) ?_
    exact W.iret (v := (-1)) hx hb hr (fun t ht hW => ⟨⟨(-1), (), rfl, (s_tX13_set_0 (p1 := p1) c_2), trivial⟩, hS.F ht⟩) hS.2.2 dX13_set_17
  · have e_4_1 := e_4_1.symm
    subst e_4_1
    refine lv_if_eq (tgt := 16) hx hb dX13_set_4 (by decide) (fun _ => ?_) (fun z => absurd (by decide) z)
    refine lv_iconst (v := (-1)) hx hb dX13_set_16 (by decide) ?_
    exact W.iret (v := (-1)) hx hb hr (fun t ht hW => ⟨⟨(-1), (), rfl, (s_tX13_set_1 (p1 := p1) c_3 c_4), trivial⟩, hS.F ht⟩) hS.2.2 dX13_set_17
  · have e_6_2 := e_6_2.symm
    subst e_6_2
    refine lv_if_eq (tgt := 16) hx hb dX13_set_4 (by decide) (fun z => absurd z (by decide)) (fun _ => ?_)
    refine lv_aload_n hx hb dX13_set_7 rfl (lv_at hl 0 rfl) ?_
    refine va_get (D := (dC, dI)) (ci := 13) (v := .ref (ad 20)) (C := RX13) (T := TX13) (N := 104) hx hb hts (jh hin_RX13) hown hK hP 0 rfl rfl 32 (by decide) (hts (.fieldLink RX13 68 "BookOfAllModel" "isSet" "[Z") (jm m_22)) (fun _ h9 => h9) rfl dX13_set_8 ?_
    refine lv_iload_n hx hb dX13_set_11 rfl (lv_at hl 1 rfl) ?_
    refine va_zald hx hb hK hP 20 19 rfl rfl (jb_in (jl_nlt c_5) (jl_ngt c_6) (by decide) (by decide)) dX13_set_12 ?_
    refine jt_i 0 rfl ?_
    refine lv_if_eq (tgt := 18) hx hb dX13_set_13 (by decide) (fun _ => ?_) (fun z => absurd (by decide) z)
    refine lv_aload_n hx hb dX13_set_18 rfl (lv_at hl 0 rfl) ?_
    refine lv_iload_n hx hb dX13_set_19 rfl (lv_at hl 1 rfl) ?_
    refine jc_i (va_runV (As := [.int p1]) (rest := []) ⟨hx, hb, hml, hown, hts⟩ (kX13_orders_4 l dC dI _ ad ca p1 (jl_nlt c_5) (jl_ngt c_6)) (cwV 1 hts (jgoodV m_551 m_552 m_553 m_96 m_554) rfl rfl rfl (by decide +kernel) ⟨Nat.le_of_ble_eq_true rfl, Nat.le_of_ble_eq_true rfl⟩) ⟨jw_blind, va_recv hK hP (ci := 13) (q0 := 0) rfl rfl, fun U hU hW => ⟨rfl, jw_of hU hW hP hK hD⟩⟩ rfl rfl hl.1 rfl (lv_room (Nat.le_of_ble_eq_true rfl)) dX13_set_20 ⟨Nat.le_of_ble_eq_true rfl, Nat.le_of_ble_eq_true rfl⟩) hP hS hA (fun r_7 H locs hw_7 hP hS => ?_)
    have hw_7 : 0 = r_7 := Eq.symm hw_7
    subst hw_7
    refine lv_istore_n (lv' := [(2, .int 0), (0, .ref (ad 0)), (1, .int p1)]) hx hb dX13_set_23 rfl hl (by decide) rfl (fun ls hl => ?_)
    refine lv_aload_n hx hb dX13_set_24 rfl (lv_at hl 1 rfl) ?_
    refine lv_iload_n hx hb dX13_set_25 rfl (lv_at hl 2 rfl) ?_
    refine lv_iload_n hx hb dX13_set_26 rfl (lv_at hl 0 rfl) ?_
    refine jc_i (va_runV (As := [.int p1, .int 0]) (rest := []) ⟨hx, hb, hml, hown, hts⟩ (kX13_canBeSet_1 l dC dI _ (ad 0) p1) (cwV 2 hts (jgoodV m_580 m_581 m_582 m_96 m_583) rfl rfl rfl (by decide +kernel) ⟨Nat.le_of_ble_eq_true rfl, Nat.le_of_ble_eq_true rfl⟩) ⟨jw_blind0, va_recv hK hP (ci := 13) (q0 := 0) rfl rfl, fun U hU hW => ⟨rfl, congrArg Array.size hU⟩⟩ rfl rfl hl.1 rfl (lv_room (Nat.le_of_ble_eq_true rfl)) dX13_set_27 ⟨Nat.le_of_ble_eq_true rfl, Nat.le_of_ble_eq_true rfl⟩) hP hS hA (fun r_8 H locs hw_8 hP hS => ?_)
    have hw_8 : 1 = r_8 := Eq.symm hw_8
    subst hw_8
    refine lv_if_ne (tgt := 35) hx hb dX13_set_30 (by decide) (fun _ => ?_) (fun z => absurd z (by decide))
    refine lv_iconst (v := 0) hx hb dX13_set_35 (by decide) ?_
    refine lv_istore_n (lv' := [(3, .int 0), (2, .int 0), (0, .ref (ad 0)), (1, .int p1)]) hx hb dX13_set_36 rfl hl (by decide) rfl (fun ls hl => ?_)
    refine lv_iconst (v := 0) hx hb dX13_set_37 (by decide) ?_
    refine lv_istore (lv' := [(4, .int 0), (3, .int 0), (2, .int 0), (0, .ref (ad 0)), (1, .int p1)]) hx hb dX13_set_38 hl (by decide) rfl (fun ls hl => ?_)
    refine lv_iconst (v := 0) hx hb dX13_set_40 (by decide) ?_
    refine lv_istore (lv' := [(5, .int 0), (4, .int 0), (3, .int 0), (2, .int 0), (0, .ref (ad 0)), (1, .int p1)]) hx hb dX13_set_41 hl (by decide) rfl (fun ls hl => ?_)
    refine lv_iload hx hb dX13_set_43 (lv_at hl 0 rfl) ?_
    refine lv_iload_n hx hb dX13_set_45 rfl (lv_at hl 3 rfl) ?_
    refine lv_icmp_ge (tgt := 206) hx hb dX13_set_46 (by decide) (fun _ => ?_) (fun z => absurd (by decide) z)
    refine lv_aload_n hx hb dX13_set_206 rfl (lv_at hl 4 rfl) ?_
    refine va_get (D := (dC, dI)) (ci := 13) (v := .ref (ad 20)) (C := RX13) (T := TX13) (N := 104) hx hb hts (jh hin_RX13) hown hK hP 0 rfl rfl 32 (by decide) (hts (.fieldLink RX13 68 "BookOfAllModel" "isSet" "[Z") (jm m_22)) (fun _ h9 => h9) rfl dX13_set_207 ?_
    refine lv_iload_n hx hb dX13_set_210 rfl (lv_at hl 5 rfl) ?_
    refine lv_iconst (v := 1) hx hb dX13_set_211 (by decide) ?_
    refine va_zast hx hb hK hP hD hS 20 19 rfl rfl (jb_in (jl_nlt c_5) (jl_ngt c_6) (by decide) (by decide)) dX13_set_212 (fun H locs hP hD hS => ?_)
    refine lv_aload_n hx hb dX13_set_213 rfl (lv_at hl 4 rfl) ?_
    refine va_get (D := (dC, dI)) (ci := 13) (v := .ref (ad 21)) (C := RX13) (T := TX13) (N := 104) hx hb hts (jh hin_RX13) hown hK hP 0 rfl rfl 33 (by decide) (hts (.fieldLink RX13 72 "BookOfAllModel" "setIn" "[I") (jm m_23)) (fun _ h9 => h9) rfl dX13_set_214 ?_
    refine lv_iload_n hx hb dX13_set_217 rfl (lv_at hl 5 rfl) ?_
    refine lv_aload_n hx hb dX13_set_218 rfl (lv_at hl 4 rfl) ?_
    refine va_get (D := (dC, dI)) (ci := 13) (v := .int 0) (C := RX13) (T := TX13) (N := 104) hx hb hts (jh hin_RX13) hown hK hP 0 rfl rfl 30 (by decide) (hts (.fieldLink RX13 383 "BookOfAllModel" "now" "I") (jm m_525)) (fun _ h9 => h9) rfl dX13_set_219 ?_
    refine va_iast hx hb hK hP hD hS 21 20 rfl rfl (jb_in (jl_nlt c_5) (jl_ngt c_6) (by decide) (by decide)) dX13_set_222 (fun H locs hP hD hS => ?_)
    refine lv_aload_n hx hb dX13_set_223 rfl (lv_at hl 4 rfl) ?_
    refine va_get (D := (dC, dI)) (ci := 13) (v := .ref (ad 22)) (C := RX13) (T := TX13) (N := 104) hx hb hts (jh hin_RX13) hown hK hP 0 rfl rfl 34 (by decide) (hts (.fieldLink RX13 75 "BookOfAllModel" "setMany" "[I") (jm m_24)) (fun _ h9 => h9) rfl dX13_set_224 ?_
    refine lv_iload_n hx hb dX13_set_227 rfl (lv_at hl 5 rfl) ?_
    refine lv_iload_n hx hb dX13_set_228 rfl (lv_at hl 3 rfl) ?_
    refine va_iast hx hb hK hP hD hS 22 21 rfl rfl (jb_in (jl_nlt c_5) (jl_ngt c_6) (by decide) (by decide)) dX13_set_229 (fun H locs hP hD hS => ?_)
    refine lv_aload_n hx hb dX13_set_230 rfl (lv_at hl 4 rfl) ?_
    refine va_get (D := (dC, dI)) (ci := 13) (v := .ref (ad 24)) (C := RX13) (T := TX13) (N := 104) hx hb hts (jh hin_RX13) hown hK hP 0 rfl rfl 36 (by decide) (hts (.fieldLink RX13 81 "BookOfAllModel" "setLines" "[I") (jm m_26)) (fun _ h9 => h9) rfl dX13_set_231 ?_
    refine lv_iload_n hx hb dX13_set_234 rfl (lv_at hl 5 rfl) ?_
    refine lv_iload_n hx hb dX13_set_235 rfl (lv_at hl 2 rfl) ?_
    refine va_iast hx hb hK hP hD hS 24 23 rfl rfl (jb_in (jl_nlt c_5) (jl_ngt c_6) (by decide) (by decide)) dX13_set_236 (fun H locs hP hD hS => ?_)
    refine lv_iload_n hx hb dX13_set_237 rfl (lv_at hl 2 rfl) ?_
    refine lv_bipush (v := 40) hx hb dX13_set_238 (by decide) ?_
    refine lv_iadd hx hb dX13_set_240 ?_
    refine jt_i 40 (by decide) ?_
    refine lv_iconst (v := 1) hx hb dX13_set_241 (by decide) ?_
    refine lv_isub hx hb dX13_set_242 ?_
    refine jt_i 39 (by decide) ?_
    refine lv_bipush (v := 40) hx hb dX13_set_243 (by decide) ?_
    refine lv_idiv hx hb dX13_set_245 (by decide) ?_
    refine jt_i 0 (by decide) ?_
    exact W.iret (v := 0) hx hb hr (fun t ht hW => ⟨⟨0, (), rfl, (s_tX13_set_2 (p1 := p1) c_5 c_6), trivial⟩, hS.F ht⟩) hS.2.2 dX13_set_246
set_option maxHeartbeats 500000 in
set_option maxRecDepth 100000 in
theorem tX13_page (l : Launch) (dC : Nat → ClassId) (dI : Nat → Nat → Nat) (sz : Nat) (ad : Nat → Nat) (ca : Nat → ClassId) (p1 : Int32) : Met l yX13_page (jk yX13_page cX13_page 2 (some .int)) ({ frames := 2, cells := 0, slots := 0, locals := 43 }) (va_Pc [.ref (ad 0), .int p1] (jw_P (dC, dI) (mW ad ca) (mT ca) sz)) (va_Qi (fun (r : Int32) (_ : Unit) => (r = (-1))) (fun _ _ => True) (va_A [] sz)) 0 0 (va_A [] sz) := by
  refine Met.ofW (cc := cX13_page) (maxL := 2) (ret := (some .int)) (by decide) rfl ?_
  intro p e s m args below meth c s₁ B hml hv
  obtain ⟨rfl, hsz, hP, hK, hD0⟩ := hv
  have hx := B.exec
  have hb := B.bytes
  have hr := B.returns
  have hts := atoms_spec (ws := (jk yX13_page cX13_page 2 (some .int))) B.pre
  have hown : s.vm.findClass RX13 = some m.cls := findClass_of_methodNamed B.named
  have hlocks := B.notSynchronized
  subst hsz
  have hD := hD0
  generalize hAe : (va_A [] s.heap.size) = A
  have hA : ∀ q : Nat, s.heap.size ≤ q → A q := fun q h => by rw [← hAe]; exact Or.inr h
  have hS : va_S A s.heap s.heap [] := va_S.rf
  have hP : va_P (dC, dI) vwCl (mW ad ca) s.heap := hP
  have hl := lv_entry ([.ref (ad 0), .int p1]) (n := 2) (Nat.le_of_ble_eq_true rfl)
  rw [lg_entry_eq]
  generalize (lg_sl ([.ref (ad 0), .int p1]) ++ List.replicate (2 - (lg_sl ([.ref (ad 0), .int p1])).length) Slot.unset).toArray = ls at hl ⊢
  have hl : lv_has ls 2 [(0, .ref (ad 0)), (1, .int p1)] := hl
  refine lv_aload_n hx hb dX13_page_0 rfl (lv_at hl 0 rfl) ?_
  refine lv_iload_n hx hb dX13_page_1 rfl (lv_at hl 1 rfl) ?_
  refine jc_i (va_runV (As := [.int p1]) (rest := []) ⟨hx, hb, hml, hown, hts⟩ (kX13_isEntry_3 l dC dI _ ad ca p1) (cwV 1 hts (jgoodV m_540 m_541 m_542 m_96 m_543) rfl rfl rfl (by decide +kernel) ⟨Nat.le_of_ble_eq_true rfl, Nat.le_of_ble_eq_true rfl⟩) ⟨jw_blind, va_recv hK hP (ci := 13) (q0 := 0) rfl rfl, fun U hU hW => ⟨rfl, jw_of hU hW hP hK hD⟩⟩ rfl rfl hl.1 rfl (lv_room (Nat.le_of_ble_eq_true rfl)) dX13_page_2 ⟨Nat.le_of_ble_eq_true rfl, Nat.le_of_ble_eq_true rfl⟩) hP hS hA (fun r_1 H locs hw_1 hP hS => ?_)
  have hw_1 : 0 = r_1 := Eq.symm hw_1
  subst hw_1
  refine lv_if_eq (tgt := 17) hx hb dX13_page_5 (by decide) (fun _ => ?_) (fun z => absurd (by decide) z)
  refine lv_iconst (v := (-1)) hx hb dX13_page_17 (by decide) ?_
  exact W.iret (v := (-1)) hx hb hr (fun t ht hW => ⟨⟨(-1), (), rfl, rfl, trivial⟩, hS.F ht⟩) hS.2.2 dX13_page_18
set_option maxHeartbeats 500000 in
set_option maxRecDepth 100000 in
theorem tX13_ends (l : Launch) (dC : Nat → ClassId) (dI : Nat → Nat → Nat) (sz : Nat) (ad : Nat → Nat) (ca : Nat → ClassId) (p1 : Int32) : Met l yX13_ends (jk yX13_ends cX13_ends 2 (some .int)) ({ frames := 2, cells := 0, slots := 0, locals := 43 }) (va_Pc [.ref (ad 0), .int p1] (jw_P (dC, dI) (mW ad ca) (mT ca) sz)) (va_Qi (fun (r : Int32) (_ : Unit) => (r = (-1))) (fun _ _ => True) (va_A [] sz)) 0 0 (va_A [] sz) := by
  refine Met.ofW (cc := cX13_ends) (maxL := 2) (ret := (some .int)) (by decide) rfl ?_
  intro p e s m args below meth c s₁ B hml hv
  obtain ⟨rfl, hsz, hP, hK, hD0⟩ := hv
  have hx := B.exec
  have hb := B.bytes
  have hr := B.returns
  have hts := atoms_spec (ws := (jk yX13_ends cX13_ends 2 (some .int))) B.pre
  have hown : s.vm.findClass RX13 = some m.cls := findClass_of_methodNamed B.named
  have hlocks := B.notSynchronized
  subst hsz
  have hD := hD0
  generalize hAe : (va_A [] s.heap.size) = A
  have hA : ∀ q : Nat, s.heap.size ≤ q → A q := fun q h => by rw [← hAe]; exact Or.inr h
  have hS : va_S A s.heap s.heap [] := va_S.rf
  have hP : va_P (dC, dI) vwCl (mW ad ca) s.heap := hP
  have hl := lv_entry ([.ref (ad 0), .int p1]) (n := 2) (Nat.le_of_ble_eq_true rfl)
  rw [lg_entry_eq]
  generalize (lg_sl ([.ref (ad 0), .int p1]) ++ List.replicate (2 - (lg_sl ([.ref (ad 0), .int p1])).length) Slot.unset).toArray = ls at hl ⊢
  have hl : lv_has ls 2 [(0, .ref (ad 0)), (1, .int p1)] := hl
  refine lv_aload_n hx hb dX13_ends_0 rfl (lv_at hl 0 rfl) ?_
  refine lv_iload_n hx hb dX13_ends_1 rfl (lv_at hl 1 rfl) ?_
  refine jc_i (va_runV (As := [.int p1]) (rest := []) ⟨hx, hb, hml, hown, hts⟩ (kX13_isEntry_3 l dC dI _ ad ca p1) (cwV 1 hts (jgoodV m_540 m_541 m_542 m_96 m_543) rfl rfl rfl (by decide +kernel) ⟨Nat.le_of_ble_eq_true rfl, Nat.le_of_ble_eq_true rfl⟩) ⟨jw_blind, va_recv hK hP (ci := 13) (q0 := 0) rfl rfl, fun U hU hW => ⟨rfl, jw_of hU hW hP hK hD⟩⟩ rfl rfl hl.1 rfl (lv_room (Nat.le_of_ble_eq_true rfl)) dX13_ends_2 ⟨Nat.le_of_ble_eq_true rfl, Nat.le_of_ble_eq_true rfl⟩) hP hS hA (fun r_1 H locs hw_1 hP hS => ?_)
  have hw_1 : 0 = r_1 := Eq.symm hw_1
  subst hw_1
  refine lv_if_eq (tgt := 26) hx hb dX13_ends_5 (by decide) (fun _ => ?_) (fun z => absurd (by decide) z)
  refine lv_iconst (v := (-1)) hx hb dX13_ends_26 (by decide) ?_
  exact W.iret (v := (-1)) hx hb hr (fun t ht hW => ⟨⟨(-1), (), rfl, rfl, trivial⟩, hS.F ht⟩) hS.2.2 dX13_ends_27
set_option maxHeartbeats 500000 in
set_option maxRecDepth 100000 in
theorem tX13_promise (l : Launch) (dC : Nat → ClassId) (dI : Nat → Nat → Nat) (sz : Nat) (ad : Nat → Nat) (ca : Nat → ClassId) (p1 : Int32) : Met l yX13_promise (jk yX13_promise cX13_promise 4 (some .int)) ({ frames := 2, cells := 0, slots := 0, locals := 43 }) (va_Pc [.ref (ad 0), .int p1] (jw_P (dC, dI) (mW ad ca) (mT ca) sz)) (va_Qi (fun (r : Int32) (_ : Unit) => (r = (-1))) (fun _ _ => True) (va_A [] sz)) 0 0 (va_A [] sz) := by
  refine Met.ofW (cc := cX13_promise) (maxL := 4) (ret := (some .int)) (by decide) rfl ?_
  intro p e s m args below meth c s₁ B hml hv
  obtain ⟨rfl, hsz, hP, hK, hD0⟩ := hv
  have hx := B.exec
  have hb := B.bytes
  have hr := B.returns
  have hts := atoms_spec (ws := (jk yX13_promise cX13_promise 4 (some .int))) B.pre
  have hown : s.vm.findClass RX13 = some m.cls := findClass_of_methodNamed B.named
  have hlocks := B.notSynchronized
  subst hsz
  have hD := hD0
  generalize hAe : (va_A [] s.heap.size) = A
  have hA : ∀ q : Nat, s.heap.size ≤ q → A q := fun q h => by rw [← hAe]; exact Or.inr h
  have hS : va_S A s.heap s.heap [] := va_S.rf
  have hP : va_P (dC, dI) vwCl (mW ad ca) s.heap := hP
  have hl := lv_entry ([.ref (ad 0), .int p1]) (n := 4) (Nat.le_of_ble_eq_true rfl)
  rw [lg_entry_eq]
  generalize (lg_sl ([.ref (ad 0), .int p1]) ++ List.replicate (4 - (lg_sl ([.ref (ad 0), .int p1])).length) Slot.unset).toArray = ls at hl ⊢
  have hl : lv_has ls 4 [(0, .ref (ad 0)), (1, .int p1)] := hl
  refine lv_aload_n hx hb dX13_promise_0 rfl (lv_at hl 0 rfl) ?_
  refine lv_iload_n hx hb dX13_promise_1 rfl (lv_at hl 1 rfl) ?_
  refine jc_i (va_runV (As := [.int p1]) (rest := []) ⟨hx, hb, hml, hown, hts⟩ (kX13_isEntry_3 l dC dI _ ad ca p1) (cwV 1 hts (jgoodV m_540 m_541 m_542 m_96 m_543) rfl rfl rfl (by decide +kernel) ⟨Nat.le_of_ble_eq_true rfl, Nat.le_of_ble_eq_true rfl⟩) ⟨jw_blind, va_recv hK hP (ci := 13) (q0 := 0) rfl rfl, fun U hU hW => ⟨rfl, jw_of hU hW hP hK hD⟩⟩ rfl rfl hl.1 rfl (lv_room (Nat.le_of_ble_eq_true rfl)) dX13_promise_2 ⟨Nat.le_of_ble_eq_true rfl, Nat.le_of_ble_eq_true rfl⟩) hP hS hA (fun r_1 H locs hw_1 hP hS => ?_)
  have hw_1 : 0 = r_1 := Eq.symm hw_1
  subst hw_1
  refine lv_if_eq (tgt := 26) hx hb dX13_promise_5 (by decide) (fun _ => ?_) (fun z => absurd (by decide) z)
  refine lv_iconst (v := (-1)) hx hb dX13_promise_26 (by decide) ?_
  exact W.iret (v := (-1)) hx hb hr (fun t ht hW => ⟨⟨(-1), (), rfl, rfl, trivial⟩, hS.F ht⟩) hS.2.2 dX13_promise_27
set_option maxHeartbeats 500000 in
set_option maxRecDepth 100000 in
theorem tX13_promised (l : Launch) (dC : Nat → ClassId) (dI : Nat → Nat → Nat) (sz : Nat) (ad : Nat → Nat) (ca : Nat → ClassId) (p1 : Int32) : Met l yX13_promised (jk yX13_promised cX13_promised 5 (some .int)) ({ frames := 2, cells := 0, slots := 0, locals := 43 }) (va_Pc [.ref (ad 0), .int p1] (jw_P (dC, dI) (mW ad ca) (mT ca) sz)) (va_Qi (fun (r : Int32) (_ : Unit) => (r = (-1))) (fun _ _ => True) (va_A [] sz)) 0 0 (va_A [] sz) := by
  refine Met.ofW (cc := cX13_promised) (maxL := 5) (ret := (some .int)) (by decide) rfl ?_
  intro p e s m args below meth c s₁ B hml hv
  obtain ⟨rfl, hsz, hP, hK, hD0⟩ := hv
  have hx := B.exec
  have hb := B.bytes
  have hr := B.returns
  have hts := atoms_spec (ws := (jk yX13_promised cX13_promised 5 (some .int))) B.pre
  have hown : s.vm.findClass RX13 = some m.cls := findClass_of_methodNamed B.named
  have hlocks := B.notSynchronized
  subst hsz
  have hD := hD0
  generalize hAe : (va_A [] s.heap.size) = A
  have hA : ∀ q : Nat, s.heap.size ≤ q → A q := fun q h => by rw [← hAe]; exact Or.inr h
  have hS : va_S A s.heap s.heap [] := va_S.rf
  have hP : va_P (dC, dI) vwCl (mW ad ca) s.heap := hP
  have hl := lv_entry ([.ref (ad 0), .int p1]) (n := 5) (Nat.le_of_ble_eq_true rfl)
  rw [lg_entry_eq]
  generalize (lg_sl ([.ref (ad 0), .int p1]) ++ List.replicate (5 - (lg_sl ([.ref (ad 0), .int p1])).length) Slot.unset).toArray = ls at hl ⊢
  have hl : lv_has ls 5 [(0, .ref (ad 0)), (1, .int p1)] := hl
  refine lv_aload_n hx hb dX13_promised_0 rfl (lv_at hl 0 rfl) ?_
  refine lv_iload_n hx hb dX13_promised_1 rfl (lv_at hl 1 rfl) ?_
  refine jc_i (va_runV (As := [.int p1]) (rest := []) ⟨hx, hb, hml, hown, hts⟩ (kX13_isHand_2 l dC dI _ ad ca p1) (cwV 1 hts (jgoodV m_557 m_558 m_559 m_96 m_560) rfl rfl rfl (by decide +kernel) ⟨Nat.le_of_ble_eq_true rfl, Nat.le_of_ble_eq_true rfl⟩) ⟨jw_blind, va_recv hK hP (ci := 13) (q0 := 0) rfl rfl, fun U hU hW => ⟨rfl, jw_of hU hW hP hK hD⟩⟩ rfl rfl hl.1 rfl (lv_room (Nat.le_of_ble_eq_true rfl)) dX13_promised_2 ⟨Nat.le_of_ble_eq_true rfl, Nat.le_of_ble_eq_true rfl⟩) hP hS hA (fun r_1 H locs hw_1 hP hS => ?_)
  have hw_1 : 0 = r_1 := Eq.symm hw_1
  subst hw_1
  refine lv_if_ne (tgt := 10) hx hb dX13_promised_5 (by decide) (fun z => absurd (by decide) z) (fun _ => ?_)
  refine lv_iconst (v := (-1)) hx hb dX13_promised_8 (by decide) ?_
  exact W.iret (v := (-1)) hx hb hr (fun t ht hW => ⟨⟨(-1), (), rfl, rfl, trivial⟩, hS.F ht⟩) hS.2.2 dX13_promised_9
set_option maxHeartbeats 500000 in
set_option maxRecDepth 100000 in
theorem kX13_in_27 (l : Launch) (dC : Nat → ClassId) (dI : Nat → Nat → Nat) (sz : Nat) (p0 : Int32) : Met l yX13_in (jk yX13_in cX13_in 3 (some .boolean)) ({ frames := 0, cells := 0, slots := 0, locals := 0 }) (va_Pc [.int p0, .int 1, .int 999] (fun U => U.heap.size = sz)) (va_Qi (fun (r : Int32) (_ : Unit) => (p0 < 1 ∧ r = 0) ∨ (¬ (p0 < 1) ∧ 999 < p0 ∧ r = 0) ∨ (¬ (p0 < 1) ∧ ¬ (999 < p0) ∧ r = 1)) (fun _ _ => True) (va_A [] sz)) 0 0 (va_A [] sz) := by
  refine Met.ofW (cc := cX13_in) (maxL := 3) (ret := (some .boolean)) (by decide) rfl ?_
  intro p e s m args below meth c s₁ B hml hv
  obtain ⟨rfl, hsz⟩ := hv
  have hx := B.exec
  have hb := B.bytes
  have hr := B.returns
  have hts := atoms_spec (ws := (jk yX13_in cX13_in 3 (some .boolean))) B.pre
  have hown : s.vm.findClass RX13 = some m.cls := findClass_of_methodNamed B.named
  have hlocks := B.notSynchronized
  subst hsz
  have hP : va_P (dC, dI) vwCl [] s.heap := fun k q h => by simp at h
  generalize hAe : (va_A [] s.heap.size) = A
  have hA : ∀ q : Nat, s.heap.size ≤ q → A q := fun q h => by rw [← hAe]; exact Or.inr h
  have hS : va_S A s.heap s.heap [] := va_S.rf
  have hl := lv_entry ([.int p0, .int 1, .int 999]) (n := 3) (Nat.le_of_ble_eq_true rfl)
  rw [lg_entry_eq]
  generalize (lg_sl ([.int p0, .int 1, .int 999]) ++ List.replicate (3 - (lg_sl ([.int p0, .int 1, .int 999])).length) Slot.unset).toArray = ls at hl ⊢
  have hl : lv_has ls 3 [(0, .int p0), (1, .int 1), (2, .int 999)] := hl
  refine lv_iload_n hx hb dX13_in_0 rfl (lv_at hl 0 rfl) ?_
  refine lv_iload_n hx hb dX13_in_1 rfl (lv_at hl 1 rfl) ?_
  refine lv_icmp_lt (tgt := 14) hx hb dX13_in_2 (by decide) (fun c_1 => ?_) (fun c_1 => ?_)
  · refine lv_iconst (v := 0) hx hb dX13_in_14 (by decide) ?_
    exact W.zret (v := 0) (ty := .boolean) hx hb hr rfl (fun t ht hW => ⟨⟨0, (), rfl, (Or.inl ⟨c_1, rfl⟩), trivial⟩, hS.F ht⟩) hS.2.2 dX13_in_15
  · refine lv_iload_n hx hb dX13_in_5 rfl (lv_at hl 0 rfl) ?_
    refine lv_iload_n hx hb dX13_in_6 rfl (lv_at hl 2 rfl) ?_
    refine lv_icmp_gt (tgt := 14) hx hb dX13_in_7 (by decide) (fun c_2 => ?_) (fun c_2 => ?_)
    · refine lv_iconst (v := 0) hx hb dX13_in_14 (by decide) ?_
      exact W.zret (v := 0) (ty := .boolean) hx hb hr rfl (fun t ht hW => ⟨⟨0, (), rfl, (Or.inr (Or.inl ⟨c_1, c_2, rfl⟩)), trivial⟩, hS.F ht⟩) hS.2.2 dX13_in_15
    · refine lv_iconst (v := 1) hx hb dX13_in_10 (by decide) ?_
      refine lv_goto (tgt := 15) hx hb dX13_in_11 (by decide) ?_
      exact W.zret (v := 1) (ty := .boolean) hx hb hr rfl (fun t ht hW => ⟨⟨1, (), rfl, (Or.inr (Or.inr ⟨c_1, c_2, rfl⟩)), trivial⟩, hS.F ht⟩) hS.2.2 dX13_in_15
theorem s_tX13_subscribe_0 {p1 p2 p3 : Int32} (c_2 : p1 < 0) : 0 = sp_subscribe p1 p2 p3 := by
  unfold sp_subscribe
  have g0 : p1.toInt < 0 := ji_lt.mp c_2
  split <;> first | rfl | (exfalso; omega)
theorem s_tX13_subscribe_1 {p1 p2 p3 : Int32} (c_3 : ¬ (p1 < 0)) (c_4 : 9 < p1) : 0 = sp_subscribe p1 p2 p3 := by
  unfold sp_subscribe
  have g0 : ¬ (p1.toInt < 0) := fun z => c_3 (ji_lt.mpr z)
  have g1 : 9 < p1.toInt := ji_lt.mp c_4
  split <;> first | rfl | (exfalso; omega)
theorem s_tX13_subscribe_2 {p1 p2 p3 : Int32} (c_5 : ¬ (p1 < 0)) (c_6 : ¬ (9 < p1)) (c_8 : p2 < 0) : 0 = sp_subscribe p1 p2 p3 := by
  unfold sp_subscribe
  have g0 : ¬ (p1.toInt < 0) := fun z => c_5 (ji_lt.mpr z)
  have g1 : ¬ (9 < p1.toInt) := fun z => c_6 (ji_lt.mpr z)
  have g2 : p2.toInt < 0 := ji_lt.mp c_8
  split <;> first | rfl | (exfalso; omega)
theorem s_tX13_subscribe_3 {p1 p2 p3 : Int32} (c_5 : ¬ (p1 < 0)) (c_6 : ¬ (9 < p1)) (c_9 : ¬ (p2 < 0)) (c_10 : 5 < p2) : 0 = sp_subscribe p1 p2 p3 := by
  unfold sp_subscribe
  have g0 : ¬ (p1.toInt < 0) := fun z => c_5 (ji_lt.mpr z)
  have g1 : ¬ (9 < p1.toInt) := fun z => c_6 (ji_lt.mpr z)
  have g2 : ¬ (p2.toInt < 0) := fun z => c_9 (ji_lt.mpr z)
  have g3 : 5 < p2.toInt := ji_lt.mp c_10
  split <;> first | rfl | (exfalso; omega)
theorem s_tX13_subscribe_4 {p1 p2 p3 : Int32} (c_5 : ¬ (p1 < 0)) (c_6 : ¬ (9 < p1)) (c_11 : ¬ (p2 < 0)) (c_12 : ¬ (5 < p2)) (c_14 : p3 < 1) : 0 = sp_subscribe p1 p2 p3 := by
  unfold sp_subscribe
  have g0 : ¬ (p1.toInt < 0) := fun z => c_5 (ji_lt.mpr z)
  have g1 : ¬ (9 < p1.toInt) := fun z => c_6 (ji_lt.mpr z)
  have g2 : ¬ (p2.toInt < 0) := fun z => c_11 (ji_lt.mpr z)
  have g3 : ¬ (5 < p2.toInt) := fun z => c_12 (ji_lt.mpr z)
  have g4 : p3.toInt < 1 := ji_lt.mp c_14
  split <;> first | rfl | (exfalso; omega)
theorem s_tX13_subscribe_5 {p1 p2 p3 : Int32} (c_5 : ¬ (p1 < 0)) (c_6 : ¬ (9 < p1)) (c_11 : ¬ (p2 < 0)) (c_12 : ¬ (5 < p2)) (c_15 : ¬ (p3 < 1)) (c_16 : 999 < p3) : 0 = sp_subscribe p1 p2 p3 := by
  unfold sp_subscribe
  have g0 : ¬ (p1.toInt < 0) := fun z => c_5 (ji_lt.mpr z)
  have g1 : ¬ (9 < p1.toInt) := fun z => c_6 (ji_lt.mpr z)
  have g2 : ¬ (p2.toInt < 0) := fun z => c_11 (ji_lt.mpr z)
  have g3 : ¬ (5 < p2.toInt) := fun z => c_12 (ji_lt.mpr z)
  have g4 : ¬ (p3.toInt < 1) := fun z => c_15 (ji_lt.mpr z)
  have g5 : 999 < p3.toInt := ji_lt.mp c_16
  split <;> first | rfl | (exfalso; omega)
theorem s_tX13_subscribe_6 {p1 p2 p3 : Int32} (c_5 : ¬ (p1 < 0)) (c_6 : ¬ (9 < p1)) (c_11 : ¬ (p2 < 0)) (c_12 : ¬ (5 < p2)) (c_17 : ¬ (p3 < 1)) (c_18 : ¬ (999 < p3)) : 1 = sp_subscribe p1 p2 p3 := by
  unfold sp_subscribe
  have g0 : ¬ (p1.toInt < 0) := fun z => c_5 (ji_lt.mpr z)
  have g1 : ¬ (9 < p1.toInt) := fun z => c_6 (ji_lt.mpr z)
  have g2 : ¬ (p2.toInt < 0) := fun z => c_11 (ji_lt.mpr z)
  have g3 : ¬ (5 < p2.toInt) := fun z => c_12 (ji_lt.mpr z)
  have g4 : ¬ (p3.toInt < 1) := fun z => c_17 (ji_lt.mpr z)
  have g5 : ¬ (999 < p3.toInt) := fun z => c_18 (ji_lt.mpr z)
  split <;> first | rfl | (exfalso; omega)
set_option maxHeartbeats 500000 in
set_option maxRecDepth 100000 in
theorem tX13_subscribe (l : Launch) (dC : Nat → ClassId) (dI : Nat → Nat → Nat) (sz : Nat) (ad : Nat → Nat) (ca : Nat → ClassId) (p1 : Int32) (p2 : Int32) (p3 : Int32) : Met l yX13_subscribe (jk yX13_subscribe cX13_subscribe 4 (some .boolean)) ({ frames := 2, cells := 0, slots := 0, locals := 42 }) (va_Pc [.ref (ad 0), .int p1, .int p2, .int p3] (jw_P (dC, dI) (mW ad ca) (mT ca) sz)) (va_Qi (fun (r : Int32) (_ : Unit) => r = sp_subscribe p1 p2 p3) (fun _ _ => True) (va_A (mW ad ca) sz)) 0 0 (va_A (mW ad ca) sz) := by
  refine Met.ofW (cc := cX13_subscribe) (maxL := 4) (ret := (some .boolean)) (by decide) rfl ?_
  intro p e s m args below meth c s₁ B hml hv
  obtain ⟨rfl, hsz, hP, hK, hD0⟩ := hv
  have hx := B.exec
  have hb := B.bytes
  have hr := B.returns
  have hts := atoms_spec (ws := (jk yX13_subscribe cX13_subscribe 4 (some .boolean))) B.pre
  have hown : s.vm.findClass RX13 = some m.cls := findClass_of_methodNamed B.named
  have hlocks := B.notSynchronized
  subst hsz
  have hD := hD0.self (sz := s.heap.size)
  generalize hAe : (va_A (mW ad ca) s.heap.size) = A at hD ⊢
  have hA : ∀ q : Nat, s.heap.size ≤ q → A q := fun q h => by rw [← hAe]; exact Or.inr h
  have hS : va_S A s.heap s.heap [] := va_S.rf
  have hP : va_P (dC, dI) vwCl (mW ad ca) s.heap := hP
  have hl := lv_entry ([.ref (ad 0), .int p1, .int p2, .int p3]) (n := 4) (Nat.le_of_ble_eq_true rfl)
  rw [lg_entry_eq]
  generalize (lg_sl ([.ref (ad 0), .int p1, .int p2, .int p3]) ++ List.replicate (4 - (lg_sl ([.ref (ad 0), .int p1, .int p2, .int p3])).length) Slot.unset).toArray = ls at hl ⊢
  have hl : lv_has ls 4 [(0, .ref (ad 0)), (1, .int p1), (2, .int p2), (3, .int p3)] := hl
  refine lv_iload_n hx hb dX13_subscribe_0 rfl (lv_at hl 1 rfl) ?_
  refine lv_iconst (v := 0) hx hb dX13_subscribe_1 (by decide) ?_
  refine lv_bipush (v := 9) hx hb dX13_subscribe_2 (by decide) ?_
  refine jc_i (va_runS (As := [.int p1, .int 0, .int 9]) (rest := []) ⟨hx, hb, hml, hown, hts⟩ (kX13_in_7 l dC dI _ p1) (va_cwS 3 hts (jgoodS m_493 m_494 m_96 m_495) rfl rfl rfl (by decide +kernel) ⟨Nat.le_of_ble_eq_true rfl, Nat.le_of_ble_eq_true rfl⟩) ⟨jw_blind0, fun U hU hW => ⟨rfl, congrArg Array.size hU⟩⟩ rfl rfl hl.1 rfl (lv_room (Nat.le_of_ble_eq_true rfl)) dX13_subscribe_4 ⟨Nat.le_of_ble_eq_true rfl, Nat.le_of_ble_eq_true rfl⟩) hP hS hA (fun r_1 H locs hw_1 hP hS => ?_)
  rcases (show (p1 < 0 ∧ r_1 = 0) ∨ (¬ (p1 < 0) ∧ 9 < p1 ∧ r_1 = 0) ∨ (¬ (p1 < 0) ∧ ¬ (9 < p1) ∧ r_1 = 1) from hw_1) with ⟨c_2, e_2_0⟩ | ⟨c_3, c_4, e_4_1⟩ | ⟨c_5, c_6, e_6_2⟩
  · have e_2_0 := e_2_0.symm
    subst e_2_0
    refine lv_if_eq (tgt := 37) hx hb dX13_subscribe_7 (by decide) (fun _ => ?_) (fun z => absurd (by decide) z)
    refine lv_iconst (v := 0) hx hb dX13_subscribe_37 (by decide) ?_
    exact W.zret (v := 0) (ty := .boolean) hx hb hr rfl (fun t ht hW => ⟨⟨0, (), rfl, (s_tX13_subscribe_0 (p1 := p1) (p2 := p2) (p3 := p3) c_2), trivial⟩, hS.F ht⟩) hS.2.2 dX13_subscribe_38
  · have e_4_1 := e_4_1.symm
    subst e_4_1
    refine lv_if_eq (tgt := 37) hx hb dX13_subscribe_7 (by decide) (fun _ => ?_) (fun z => absurd (by decide) z)
    refine lv_iconst (v := 0) hx hb dX13_subscribe_37 (by decide) ?_
    exact W.zret (v := 0) (ty := .boolean) hx hb hr rfl (fun t ht hW => ⟨⟨0, (), rfl, (s_tX13_subscribe_1 (p1 := p1) (p2 := p2) (p3 := p3) c_3 c_4), trivial⟩, hS.F ht⟩) hS.2.2 dX13_subscribe_38
  · have e_6_2 := e_6_2.symm
    subst e_6_2
    refine lv_if_eq (tgt := 37) hx hb dX13_subscribe_7 (by decide) (fun z => absurd z (by decide)) (fun _ => ?_)
    refine lv_iload_n hx hb dX13_subscribe_10 rfl (lv_at hl 2 rfl) ?_
    refine jc_i (va_runS (As := [.int p2]) (rest := []) ⟨hx, hb, hml, hown, hts⟩ (kX13_isVolume_1 l dC dI _ p2) (va_cwS 1 hts (jgoodS m_548 m_549 m_96 m_550) rfl rfl rfl (by decide +kernel) ⟨Nat.le_of_ble_eq_true rfl, Nat.le_of_ble_eq_true rfl⟩) ⟨jw_blind0, fun U hU hW => ⟨rfl, congrArg Array.size hU⟩⟩ rfl rfl hl.1 rfl (lv_room (Nat.le_of_ble_eq_true rfl)) dX13_subscribe_11 ⟨Nat.le_of_ble_eq_true rfl, Nat.le_of_ble_eq_true rfl⟩) hP hS hA (fun r_7 H locs hw_7 hP hS => ?_)
    rcases (show (p2 < 0 ∧ r_7 = 0) ∨ (¬ (p2 < 0) ∧ 5 < p2 ∧ r_7 = 0) ∨ (¬ (p2 < 0) ∧ ¬ (5 < p2) ∧ r_7 = 1) from hw_7) with ⟨c_8, e_8_0⟩ | ⟨c_9, c_10, e_10_1⟩ | ⟨c_11, c_12, e_12_2⟩
    · have e_8_0 := e_8_0.symm
      subst e_8_0
      refine lv_if_eq (tgt := 37) hx hb dX13_subscribe_14 (by decide) (fun _ => ?_) (fun z => absurd (by decide) z)
      refine lv_iconst (v := 0) hx hb dX13_subscribe_37 (by decide) ?_
      exact W.zret (v := 0) (ty := .boolean) hx hb hr rfl (fun t ht hW => ⟨⟨0, (), rfl, (s_tX13_subscribe_2 (p1 := p1) (p2 := p2) (p3 := p3) c_5 c_6 c_8), trivial⟩, hS.F ht⟩) hS.2.2 dX13_subscribe_38
    · have e_10_1 := e_10_1.symm
      subst e_10_1
      refine lv_if_eq (tgt := 37) hx hb dX13_subscribe_14 (by decide) (fun _ => ?_) (fun z => absurd (by decide) z)
      refine lv_iconst (v := 0) hx hb dX13_subscribe_37 (by decide) ?_
      exact W.zret (v := 0) (ty := .boolean) hx hb hr rfl (fun t ht hW => ⟨⟨0, (), rfl, (s_tX13_subscribe_3 (p1 := p1) (p2 := p2) (p3 := p3) c_5 c_6 c_9 c_10), trivial⟩, hS.F ht⟩) hS.2.2 dX13_subscribe_38
    · have e_12_2 := e_12_2.symm
      subst e_12_2
      refine lv_if_eq (tgt := 37) hx hb dX13_subscribe_14 (by decide) (fun z => absurd z (by decide)) (fun _ => ?_)
      refine lv_iload_n hx hb dX13_subscribe_17 rfl (lv_at hl 3 rfl) ?_
      refine lv_iconst (v := 1) hx hb dX13_subscribe_18 (by decide) ?_
      refine lv_sipush (v := 999) hx hb dX13_subscribe_19 (by decide) ?_
      refine jc_i (va_runS (As := [.int p3, .int 1, .int 999]) (rest := []) ⟨hx, hb, hml, hown, hts⟩ (kX13_in_27 l dC dI _ p3) (va_cwS 3 hts (jgoodS m_493 m_494 m_96 m_495) rfl rfl rfl (by decide +kernel) ⟨Nat.le_of_ble_eq_true rfl, Nat.le_of_ble_eq_true rfl⟩) ⟨jw_blind0, fun U hU hW => ⟨rfl, congrArg Array.size hU⟩⟩ rfl rfl hl.1 rfl (lv_room (Nat.le_of_ble_eq_true rfl)) dX13_subscribe_22 ⟨Nat.le_of_ble_eq_true rfl, Nat.le_of_ble_eq_true rfl⟩) hP hS hA (fun r_13 H locs hw_13 hP hS => ?_)
      rcases (show (p3 < 1 ∧ r_13 = 0) ∨ (¬ (p3 < 1) ∧ 999 < p3 ∧ r_13 = 0) ∨ (¬ (p3 < 1) ∧ ¬ (999 < p3) ∧ r_13 = 1) from hw_13) with ⟨c_14, e_14_0⟩ | ⟨c_15, c_16, e_16_1⟩ | ⟨c_17, c_18, e_18_2⟩
      · have e_14_0 := e_14_0.symm
        subst e_14_0
        refine lv_if_eq (tgt := 37) hx hb dX13_subscribe_25 (by decide) (fun _ => ?_) (fun z => absurd (by decide) z)
        refine lv_iconst (v := 0) hx hb dX13_subscribe_37 (by decide) ?_
        exact W.zret (v := 0) (ty := .boolean) hx hb hr rfl (fun t ht hW => ⟨⟨0, (), rfl, (s_tX13_subscribe_4 (p1 := p1) (p2 := p2) (p3 := p3) c_5 c_6 c_11 c_12 c_14), trivial⟩, hS.F ht⟩) hS.2.2 dX13_subscribe_38
      · have e_16_1 := e_16_1.symm
        subst e_16_1
        refine lv_if_eq (tgt := 37) hx hb dX13_subscribe_25 (by decide) (fun _ => ?_) (fun z => absurd (by decide) z)
        refine lv_iconst (v := 0) hx hb dX13_subscribe_37 (by decide) ?_
        exact W.zret (v := 0) (ty := .boolean) hx hb hr rfl (fun t ht hW => ⟨⟨0, (), rfl, (s_tX13_subscribe_5 (p1 := p1) (p2 := p2) (p3 := p3) c_5 c_6 c_11 c_12 c_15 c_16), trivial⟩, hS.F ht⟩) hS.2.2 dX13_subscribe_38
      · have e_18_2 := e_18_2.symm
        subst e_18_2
        refine lv_if_eq (tgt := 37) hx hb dX13_subscribe_25 (by decide) (fun z => absurd z (by decide)) (fun _ => ?_)
        refine lv_aload_n hx hb dX13_subscribe_28 rfl (lv_at hl 0 rfl) ?_
        refine va_get (D := (dC, dI)) (ci := 13) (v := .ref (ad 60)) (C := RX13) (T := TX13) (N := 104) hx hb hts (jh hin_RX13) hown hK hP 0 rfl rfl 77 (by decide) (hts (.fieldLink RX13 189 "BookOfAllModel" "subscribedFor" "[I") (jm m_62)) (fun _ h9 => h9) rfl dX13_subscribe_29 ?_
        refine lv_iload_n hx hb dX13_subscribe_32 rfl (lv_at hl 1 rfl) ?_
        refine va_iald hx hb hK hP 60 59 rfl rfl (jb_in (jl_nlt c_5) (jl_ngt c_6) (by decide) (by decide)) dX13_subscribe_33 ?_
        refine jt_i 0 rfl ?_
        refine lv_if_le (tgt := 39) hx hb dX13_subscribe_34 (by decide) (fun _ => ?_) (fun z => absurd (by decide) z)
        refine lv_aload_n hx hb dX13_subscribe_39 rfl (lv_at hl 0 rfl) ?_
        refine va_get (D := (dC, dI)) (ci := 13) (v := .ref (ad 59)) (C := RX13) (T := TX13) (N := 104) hx hb hts (jh hin_RX13) hown hK hP 0 rfl rfl 76 (by decide) (hts (.fieldLink RX13 186 "BookOfAllModel" "subscribedFrom" "[I") (jm m_61)) (fun _ h9 => h9) rfl dX13_subscribe_40 ?_
        refine lv_iload_n hx hb dX13_subscribe_43 rfl (lv_at hl 1 rfl) ?_
        refine lv_iload_n hx hb dX13_subscribe_44 rfl (lv_at hl 2 rfl) ?_
        refine va_iast hx hb hK hP hD hS 59 58 rfl rfl (jb_in (jl_nlt c_5) (jl_ngt c_6) (by decide) (by decide)) dX13_subscribe_45 (fun H locs hP hD hS => ?_)
        refine lv_aload_n hx hb dX13_subscribe_46 rfl (lv_at hl 0 rfl) ?_
        refine va_get (D := (dC, dI)) (ci := 13) (v := .ref (ad 60)) (C := RX13) (T := TX13) (N := 104) hx hb hts (jh hin_RX13) hown hK hP 0 rfl rfl 77 (by decide) (hts (.fieldLink RX13 189 "BookOfAllModel" "subscribedFor" "[I") (jm m_62)) (fun _ h9 => h9) rfl dX13_subscribe_47 ?_
        refine lv_iload_n hx hb dX13_subscribe_50 rfl (lv_at hl 1 rfl) ?_
        refine lv_iload_n hx hb dX13_subscribe_51 rfl (lv_at hl 3 rfl) ?_
        refine va_iast hx hb hK hP hD hS 60 59 rfl rfl (jb_in (jl_nlt c_5) (jl_ngt c_6) (by decide) (by decide)) dX13_subscribe_52 (fun H locs hP hD hS => ?_)
        refine lv_iconst (v := 1) hx hb dX13_subscribe_53 (by decide) ?_
        exact W.zret (v := 1) (ty := .boolean) hx hb hr rfl (fun t ht hW => ⟨⟨1, (), rfl, (s_tX13_subscribe_6 (p1 := p1) (p2 := p2) (p3 := p3) c_5 c_6 c_11 c_12 c_17 c_18), trivial⟩, hS.F ht⟩) hS.2.2 dX13_subscribe_54
