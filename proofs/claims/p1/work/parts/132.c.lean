set_option maxHeartbeats 500000 in
set_option maxRecDepth 100000 in
theorem kX3_differences_6 (l : Launch) (dC : Nat → ClassId) (dI : Nat → Nat → Nat) (sz : Nat) (ad : Nat → Nat) (ca : Nat → ClassId) : Met l yX3_differences (jk yX3_differences cX3_differences 3 (some .int)) ({ frames := 0, cells := 0, slots := 0, locals := 0 }) (va_Pc [.ref (ad 55)] (jw_P (dC, dI) ((jS (xW ad ca) 18 (ad 18, .inr (6, [.ref (ad 11), .int 4, .int 0, .int 1, .int 1, .int 1])))) (xT ca) sz)) (va_Qi (fun (r : Int32) (_ : Unit) => (r = 0)) (fun _ _ => True) (va_A [] sz)) 0 0 (va_A [] sz) := by
  refine Met.ofW (cc := cX3_differences) (maxL := 3) (ret := (some .int)) (by decide) rfl ?_
  intro p e s m args below meth c s₁ B hml hv
  obtain ⟨rfl, hsz, hP, hK, hD0⟩ := hv
  have hx := B.exec
  have hb := B.bytes
  have hr := B.returns
  have hts := atoms_spec (ws := (jk yX3_differences cX3_differences 3 (some .int))) B.pre
  have hown : s.vm.findClass RX3 = some m.cls := findClass_of_methodNamed B.named
  have hlocks := B.notSynchronized
  subst hsz
  have hD := hD0
  generalize hAe : (va_A [] s.heap.size) = A
  have hA : ∀ q : Nat, s.heap.size ≤ q → A q := fun q h => by rw [← hAe]; exact Or.inr h
  have hS : va_S A s.heap s.heap [] := va_S.rf
  have hP : va_P (dC, dI) vwCl ((jS (xW ad ca) 18 (ad 18, .inr (6, [.ref (ad 11), .int 4, .int 0, .int 1, .int 1, .int 1])))) s.heap := hP
  have hl := lv_entry ([.ref (ad 55)]) (n := 3) (Nat.le_of_ble_eq_true rfl)
  rw [lg_entry_eq]
  generalize (lg_sl ([.ref (ad 55)]) ++ List.replicate (3 - (lg_sl ([.ref (ad 55)])).length) Slot.unset).toArray = ls at hl ⊢
  have hl : lv_has ls 3 [(0, .ref (ad 55))] := hl
  refine lv_iconst (v := 0) hx hb dX3_differences_0 (by decide) ?_
  refine lv_istore_n (lv' := [(1, .int 0), (0, .ref (ad 55))]) hx hb dX3_differences_1 rfl hl (by decide) rfl (fun ls hl => ?_)
  refine lv_iconst (v := 0) hx hb dX3_differences_2 (by decide) ?_
  refine lv_istore_n (lv' := [(2, .int 0), (1, .int 0), (0, .ref (ad 55))]) hx hb dX3_differences_3 rfl hl (by decide) rfl (fun ls hl => ?_)
  refine lv_iload_n hx hb dX3_differences_4 rfl (lv_at hl 0 rfl) ?_
  refine lv_aload_n hx hb dX3_differences_5 rfl (lv_at hl 2 rfl) ?_
  refine va_get (D := (dC, dI)) (ci := 3) (v := .int 0) (C := RX3) (T := TX3) (N := 7) hx hb hts (jh hin_RX3) hown hK hP 55 rfl rfl 5 (by decide) (hts (.fieldLink RX3 27 "BookOfAll$Lengths" "size" "I") (jm m_423)) (fun _ h9 => h9) rfl dX3_differences_6 ?_
  refine lv_icmp_ge (tgt := 43) hx hb dX3_differences_9 (by decide) (fun _ => ?_) (fun z => absurd (by decide) z)
  refine lv_iload_n hx hb dX3_differences_43 rfl (lv_at hl 1 rfl) ?_
  exact W.iret (v := 0) hx hb hr (fun t ht hW => ⟨⟨0, (), rfl, rfl, trivial⟩, hS.F ht⟩) hS.2.2 dX3_differences_44
theorem s_tX12_lengths_v4_0 {p2 : Int32} (c_2 : p2 < 1) : (-1) = sp_lengths 4 p2 := by
  unfold sp_lengths
  have g0 : p2.toInt < 1 := ji_lt.mp c_2
  rw [show (4 : Int32).toInt = 4 from rfl]
  split <;> first | rfl | (exfalso; omega)
theorem s_tX12_lengths_v4_1 {p2 : Int32} (c_3 : ¬ (p2 < 1)) (c_4 : p2 ≤ 400) : 0 = sp_lengths 4 p2 := by
  unfold sp_lengths
  have g0 : ¬ (p2.toInt < 1) := fun z => c_3 (ji_lt.mpr z)
  have g1 : p2.toInt ≤ 400 := ji_le.mp c_4
  rw [show (4 : Int32).toInt = 4 from rfl]
  split <;> first | rfl | (exfalso; omega)
theorem s_tX12_lengths_v4_2 {p2 : Int32} (c_5 : ¬ (p2 < 1)) (c_6 : ¬ (p2 ≤ 400)) : (-1) = sp_lengths 4 p2 := by
  unfold sp_lengths
  have g0 : ¬ (p2.toInt < 1) := fun z => c_5 (ji_lt.mpr z)
  have g1 : ¬ (p2.toInt ≤ 400) := fun z => c_6 (ji_le.mpr z)
  rw [show (4 : Int32).toInt = 4 from rfl]
  split <;> first | rfl | (exfalso; omega)
set_option maxHeartbeats 500000 in
set_option maxRecDepth 100000 in
theorem tX12_lengths_v4 (l : Launch) (dC : Nat → ClassId) (dI : Nat → Nat → Nat) (sz : Nat) (ad : Nat → Nat) (ca : Nat → ClassId) (p2 : Int32) (tW : Nat) : Met l yX12_lengths (jk yX12_lengths cX12_lengths 3 (some .int)) ({ frames := 5, cells := 0, slots := 0, locals := 119 }) (va_Pc [.ref (ad 0), .int 4, .int p2] (jw_PZ (dC, dI) (xW ad ca) (xT ca) sz tW)) (va_Qi (fun (r : Int32) (_ : Unit) => r = sp_lengths 4 p2) (fun _ _ => True) (va_A (xW ad ca) sz)) 0 0 (va_A (xW ad ca) sz) := by
  refine Met.ofW (cc := cX12_lengths) (maxL := 3) (ret := (some .int)) (by decide) rfl ?_
  intro p e s m args below meth c s₁ B hml hv
  obtain ⟨rfl, ⟨hsz, hP, hK, hD0⟩, hZ, hT⟩ := hv
  have hx := B.exec
  have hb := B.bytes
  have hr := B.returns
  have hts := atoms_spec (ws := (jk yX12_lengths cX12_lengths 3 (some .int))) B.pre
  have hown : s.vm.findClass RX12 = some m.cls := findClass_of_methodNamed B.named
  have hlocks := B.notSynchronized
  subst hsz
  have hD := hD0.self (sz := s.heap.size)
  generalize hAe : (va_A (xW ad ca) s.heap.size) = A at hD hZ hT ⊢
  have hA : ∀ q : Nat, s.heap.size ≤ q → A q := fun q h => by rw [← hAe]; exact Or.inr h
  have hS : va_S A s.heap s.heap [] := va_S.rf
  have hP : va_P (dC, dI) vwCl (xW ad ca) s.heap := hP
  have hl := lv_entry ([.ref (ad 0), .int 4, .int p2]) (n := 3) (Nat.le_of_ble_eq_true rfl)
  rw [lg_entry_eq]
  generalize (lg_sl ([.ref (ad 0), .int 4, .int p2]) ++ List.replicate (3 - (lg_sl ([.ref (ad 0), .int 4, .int p2])).length) Slot.unset).toArray = ls at hl ⊢
  have hl : lv_has ls 3 [(0, .ref (ad 0)), (1, .int 4), (2, .int p2)] := hl
  refine lv_aload_n hx hb dX12_lengths_0 rfl (lv_at hl 0 rfl) ?_
  refine lv_iload_n hx hb dX12_lengths_1 rfl (lv_at hl 1 rfl) ?_
  refine lv_iload_n hx hb dX12_lengths_2 rfl (lv_at hl 2 rfl) ?_
  refine jcg_i (va_runV (As := [.int 4, .int p2]) (rest := []) ⟨hx, hb, hml, hown, hts⟩ (kX12_fit_10 l dC dI _ ad ca p2 tW) (cwV 2 hts (jgoodV m_441 m_442 m_443 m_210 m_444) rfl rfl rfl (by decide +kernel) ⟨Nat.le_of_ble_eq_true rfl, Nat.le_of_ble_eq_true rfl⟩) ⟨jw_blindZ, va_recv hK hP (ci := 12) (q0 := 0) rfl rfl, fun U hU hW => ⟨rfl, jw_of hU hW hP hK hD, jz_of hU hW hD hS hA hZ hT⟩⟩ rfl rfl hl.1 rfl (lv_room (Nat.le_of_ble_eq_true rfl)) dX12_lengths_3 ⟨Nat.le_of_ble_eq_true rfl, Nat.le_of_ble_eq_true rfl⟩) hD hS hA (fun r_1 u_1 H locs hw_1 hP hK hD hS => ?_)
  obtain ⟨w_1, a_1, y_1⟩ := u_1
  rcases (show (w_1 = 0 ∧ p2 < 1 ∧ r_1 = 0) ∨ (w_1 = 1 ∧ ¬ (p2 < 1) ∧ p2 ≤ 400 ∧ r_1 = 1) ∨ (w_1 = 0 ∧ ¬ (p2 < 1) ∧ ¬ (p2 ≤ 400) ∧ r_1 = 0) from hw_1) with ⟨rfl, c_2, e_2_0⟩ | ⟨rfl, c_3, c_4, e_4_1⟩ | ⟨rfl, c_5, c_6, e_6_2⟩
  · have e_2_0 := e_2_0.symm
    subst e_2_0
    have hP : va_P (dC, dI) vwCl (xW ad ca) H := hP
    have hK : va_K (dC, dI) vwCl (xT ca) s := hK
    have hD : va_D A (xW ad ca) := hD
    refine lv_if_eq (tgt := 19) hx hb dX12_lengths_6 (by decide) (fun _ => ?_) (fun z => absurd (by decide) z)
    refine lv_iconst (v := (-1)) hx hb dX12_lengths_19 (by decide) ?_
    exact W.iret (v := (-1)) hx hb hr (fun t ht hW => ⟨⟨(-1), (), rfl, (s_tX12_lengths_v4_0 (p2 := p2) c_2), trivial⟩, hS.F ht⟩) hS.2.2 dX12_lengths_20
  · have e_4_1 := e_4_1.symm
    subst e_4_1
    have hP : va_P (dC, dI) vwCl ((jS (xW ad ca) 18 (ad 18, .inr (6, [.ref (ad 11), .int 4, .int 0, .int 1, .int 1, .int 1])))) H := hP
    have hK : va_K (dC, dI) vwCl (xT ca) s := hK
    have hD : va_D A ((jS (xW ad ca) 18 (ad 18, .inr (6, [.ref (ad 11), .int 4, .int 0, .int 1, .int 1, .int 1])))) := hD
    refine lv_if_eq (tgt := 19) hx hb dX12_lengths_6 (by decide) (fun z => absurd z (by decide)) (fun _ => ?_)
    refine lv_aload_n hx hb dX12_lengths_9 rfl (lv_at hl 0 rfl) ?_
    refine va_get (D := (dC, dI)) (ci := 12) (v := .ref (ad 55)) (C := RX12) (T := TX12) (N := 20) hx hb hts (jh hin_RX12) hown hK hP 0 rfl rfl 17 (by decide) (hts (.fieldLink RX12 85 "BookOfAll" "fitting" "LBookOfAll$Lengths;") (jm m_422)) (fun _ h9 => h9) rfl dX12_lengths_10 ?_
    refine jc_i (va_runV (As := []) (rest := []) ⟨hx, hb, hml, hown, hts⟩ (kX3_differences_6 l dC dI _ ad ca) (cwV 0 hts (jgoodV m_445 m_446 m_447 m_428 m_448) rfl rfl rfl (by decide +kernel) ⟨Nat.le_of_ble_eq_true rfl, Nat.le_of_ble_eq_true rfl⟩) ⟨jw_blind, va_recv hK hP (ci := 3) (q0 := 55) rfl rfl, fun U hU hW => ⟨rfl, jw_of hU hW hP hK hD⟩⟩ rfl rfl hl.1 rfl (lv_room (Nat.le_of_ble_eq_true rfl)) dX12_lengths_13 ⟨Nat.le_of_ble_eq_true rfl, Nat.le_of_ble_eq_true rfl⟩) hP hS hA (fun r_7 H locs hw_7 hP hS => ?_)
    have hw_7 : 0 = r_7 := Eq.symm hw_7
    subst hw_7
    refine lv_goto (tgt := 20) hx hb dX12_lengths_16 (by decide) ?_
    exact W.iret (v := 0) hx hb hr (fun t ht hW => ⟨⟨0, (), rfl, (s_tX12_lengths_v4_1 (p2 := p2) c_3 c_4), trivial⟩, hS.F ht⟩) hS.2.2 dX12_lengths_20
  · have e_6_2 := e_6_2.symm
    subst e_6_2
    have hP : va_P (dC, dI) vwCl (xW ad ca) H := hP
    have hK : va_K (dC, dI) vwCl (xT ca) s := hK
    have hD : va_D A (xW ad ca) := hD
    refine lv_if_eq (tgt := 19) hx hb dX12_lengths_6 (by decide) (fun _ => ?_) (fun z => absurd (by decide) z)
    refine lv_iconst (v := (-1)) hx hb dX12_lengths_19 (by decide) ?_
    exact W.iret (v := (-1)) hx hb hr (fun t ht hW => ⟨⟨(-1), (), rfl, (s_tX12_lengths_v4_2 (p2 := p2) c_5 c_6), trivial⟩, hS.F ht⟩) hS.2.2 dX12_lengths_20
set_option maxHeartbeats 500000 in
set_option maxRecDepth 100000 in
theorem kX12_isSet_15 (l : Launch) (dC : Nat → ClassId) (dI : Nat → Nat → Nat) (sz : Nat) (ad : Nat → Nat) (ca : Nat → ClassId) : Met l yX12_isSet (jk yX12_isSet cX12_isSet 2 (some .boolean)) ({ frames := 0, cells := 0, slots := 0, locals := 0 }) (va_Pc [.ref (ad 0), .int 5] (jw_P (dC, dI) (xW ad ca) (xT ca) sz)) (va_Qi (fun (r : Int32) (_ : Unit) => (r = 0)) (fun _ _ => True) (va_A [] sz)) 0 0 (va_A [] sz) := by
  refine Met.ofW (cc := cX12_isSet) (maxL := 2) (ret := (some .boolean)) (by decide) rfl ?_
  intro p e s m args below meth c s₁ B hml hv
  obtain ⟨rfl, hsz, hP, hK, hD0⟩ := hv
  have hx := B.exec
  have hb := B.bytes
  have hr := B.returns
  have hts := atoms_spec (ws := (jk yX12_isSet cX12_isSet 2 (some .boolean))) B.pre
  have hown : s.vm.findClass RX12 = some m.cls := findClass_of_methodNamed B.named
  have hlocks := B.notSynchronized
  subst hsz
  have hD := hD0
  generalize hAe : (va_A [] s.heap.size) = A
  have hA : ∀ q : Nat, s.heap.size ≤ q → A q := fun q h => by rw [← hAe]; exact Or.inr h
  have hS : va_S A s.heap s.heap [] := va_S.rf
  have hP : va_P (dC, dI) vwCl (xW ad ca) s.heap := hP
  have hl := lv_entry ([.ref (ad 0), .int 5]) (n := 2) (Nat.le_of_ble_eq_true rfl)
  rw [lg_entry_eq]
  generalize (lg_sl ([.ref (ad 0), .int 5]) ++ List.replicate (2 - (lg_sl ([.ref (ad 0), .int 5])).length) Slot.unset).toArray = ls at hl ⊢
  have hl : lv_has ls 2 [(0, .ref (ad 0)), (1, .int 5)] := hl
  refine lv_iload_n hx hb dX12_isSet_0 rfl (lv_at hl 1 rfl) ?_
  refine lv_if_lt (tgt := 19) hx hb dX12_isSet_1 (by decide) (fun z => absurd z (by decide)) (fun _ => ?_)
  refine lv_aload_n hx hb dX12_isSet_4 rfl (lv_at hl 0 rfl) ?_
  refine va_get (D := (dC, dI)) (ci := 12) (v := .int 0) (C := RX12) (T := TX12) (N := 20) hx hb hts (jh hin_RX12) hown hK hP 0 rfl rfl 1 (by decide) (hts (.fieldLink RX12 158 "BookOfAll" "setBits" "I") (jm m_212)) (fun _ h9 => h9) rfl dX12_isSet_5 ?_
  refine lv_iload_n hx hb dX12_isSet_8 rfl (lv_at hl 1 rfl) ?_
  refine lv_ishr hx hb dX12_isSet_9 ?_
  refine jt_i 0 (by decide) ?_
  refine lv_iconst (v := 1) hx hb dX12_isSet_10 (by decide) ?_
  refine lv_iand hx hb dX12_isSet_11 ?_
  refine jt_i 0 (by decide) ?_
  refine lv_if_eq (tgt := 19) hx hb dX12_isSet_12 (by decide) (fun _ => ?_) (fun z => absurd (by decide) z)
  refine lv_iconst (v := 0) hx hb dX12_isSet_19 (by decide) ?_
  exact W.zret (v := 0) (ty := .boolean) hx hb hr rfl (fun t ht hW => ⟨⟨0, (), rfl, rfl, trivial⟩, hS.F ht⟩) hS.2.2 dX12_isSet_20
set_option maxHeartbeats 500000 in
set_option maxRecDepth 100000 in
theorem kX3_begin_7 (l : Launch) (dC : Nat → ClassId) (dI : Nat → Nat → Nat) (sz : Nat) (ad : Nat → Nat) (ca : Nat → ClassId) : Met l yX3_begin (jk yX3_begin cX3_begin 1 none) ({ frames := 0, cells := 0, slots := 0, locals := 0 }) (va_Pc [.ref (ad 55)] (jw_P (dC, dI) ((jS (xW ad ca) 18 (ad 18, .inr (6, [.ref (ad 11), .int 5, .int 0, .int 1, .int 1, .int 1])))) (xT ca) sz)) (va_Qv (fun (_ : Unit) => True) (fun _ t => va_P (dC, dI) vwCl ((jS (xW ad ca) 18 (ad 18, .inr (6, [.ref (ad 11), .int 5, .int 0, .int 1, .int 1, .int 1])))) t.heap ∧ va_K (dC, dI) vwCl (xT ca) t ∧ va_D (va_A ((jS (xW ad ca) 18 (ad 18, .inr (6, [.ref (ad 11), .int 5, .int 0, .int 1, .int 1, .int 1])))) sz) ((jS (xW ad ca) 18 (ad 18, .inr (6, [.ref (ad 11), .int 5, .int 0, .int 1, .int 1, .int 1]))))) (va_A ((jS (xW ad ca) 18 (ad 18, .inr (6, [.ref (ad 11), .int 5, .int 0, .int 1, .int 1, .int 1])))) sz)) 0 0 (va_A ((jS (xW ad ca) 18 (ad 18, .inr (6, [.ref (ad 11), .int 5, .int 0, .int 1, .int 1, .int 1])))) sz) := by
  refine Met.ofW (cc := cX3_begin) (maxL := 1) (ret := none) (by decide) rfl ?_
  intro p e s m args below meth c s₁ B hml hv
  obtain ⟨rfl, hsz, hP, hK, hD0⟩ := hv
  have hx := B.exec
  have hb := B.bytes
  have hr := B.returns
  have hts := atoms_spec (ws := (jk yX3_begin cX3_begin 1 none)) B.pre
  have hown : s.vm.findClass RX3 = some m.cls := findClass_of_methodNamed B.named
  have hlocks := B.notSynchronized
  subst hsz
  have hD := hD0.self (sz := s.heap.size)
  generalize hAe : (va_A ((jS (xW ad ca) 18 (ad 18, .inr (6, [.ref (ad 11), .int 5, .int 0, .int 1, .int 1, .int 1])))) s.heap.size) = A at hD ⊢
  have hA : ∀ q : Nat, s.heap.size ≤ q → A q := fun q h => by rw [← hAe]; exact Or.inr h
  have hS : va_S A s.heap s.heap [] := va_S.rf
  have hP : va_P (dC, dI) vwCl ((jS (xW ad ca) 18 (ad 18, .inr (6, [.ref (ad 11), .int 5, .int 0, .int 1, .int 1, .int 1])))) s.heap := hP
  have hl := lv_entry ([.ref (ad 55)]) (n := 1) (Nat.le_of_ble_eq_true rfl)
  rw [lg_entry_eq]
  generalize (lg_sl ([.ref (ad 55)]) ++ List.replicate (1 - (lg_sl ([.ref (ad 55)])).length) Slot.unset).toArray = ls at hl ⊢
  have hl : lv_has ls 1 [(0, .ref (ad 55))] := hl
  refine lv_aload_n hx hb dX3_begin_0 rfl (lv_at hl 0 rfl) ?_
  refine lv_iconst (v := 0) hx hb dX3_begin_1 (by decide) ?_
  refine va_put (D := (dC, dI)) (ci := 3) (v := .int 0) (ty := .int) (C := RX3) (T := TX3) (N := 7) hx hb hts (jh hin_RX3) tyX3 tyX3_ok nmX3 hown hK hP hD hS 55 rfl rfl 5 (by decide) (hts (.fieldLink RX3 27 "BookOfAll$Lengths" "size" "I") (jm m_423)) (fun _ h9 => h9) rfl (by decide +kernel) rfl rfl (Nat.le_of_ble_eq_true rfl) dX3_begin_2 (fun H locs hP hD hS => ?_)
  refine lv_aload_n hx hb dX3_begin_5 rfl (lv_at hl 0 rfl) ?_
  refine lv_iconst (v := 0) hx hb dX3_begin_6 (by decide) ?_
  refine va_put (D := (dC, dI)) (ci := 3) (v := .int 0) (ty := .int) (C := RX3) (T := TX3) (N := 7) hx hb hts (jh hin_RX3) tyX3 tyX3_ok nmX3 hown hK hP hD hS 55 rfl rfl 6 (by decide) (hts (.fieldLink RX3 31 "BookOfAll$Lengths" "fixed" "I") (jm m_424)) (fun _ h9 => h9) rfl (by decide +kernel) rfl rfl (Nat.le_of_ble_eq_true rfl) dX3_begin_7 (fun H locs hP hD hS => ?_)
  exact W.vret hx hb hr (fun t ht hW => ⟨⟨(), rfl, trivial, by rw [ht]; exact hP, va_K.moved hW.alike hK, hD⟩, hS.F ht⟩) hS.2.2 dX3_begin_10
set_option maxHeartbeats 500000 in
set_option maxRecDepth 100000 in
theorem kX3_sumOf_17 (l : Launch) (dC : Nat → ClassId) (dI : Nat → Nat → Nat) (sz : Nat) (ad : Nat → Nat) (ca : Nat → ClassId) : Met l yX3_sumOf (jk yX3_sumOf cX3_sumOf 4 (some .int)) ({ frames := 0, cells := 0, slots := 0, locals := 0 }) (va_Pc [.ref (ad 55), .ref (ad 58)] (jw_P (dC, dI) ((jS (xW ad ca) 18 (ad 18, .inr (6, [.ref (ad 11), .int 5, .int 0, .int 1, .int 1, .int 1])))) (xT ca) sz)) (va_Qi (fun (r : Int32) (_ : Unit) => (r = 0)) (fun _ _ => True) (va_A [] sz)) 0 0 (va_A [] sz) := by
  refine Met.ofW (cc := cX3_sumOf) (maxL := 4) (ret := (some .int)) (by decide) rfl ?_
  intro p e s m args below meth c s₁ B hml hv
  obtain ⟨rfl, hsz, hP, hK, hD0⟩ := hv
  have hx := B.exec
  have hb := B.bytes
  have hr := B.returns
  have hts := atoms_spec (ws := (jk yX3_sumOf cX3_sumOf 4 (some .int))) B.pre
  have hown : s.vm.findClass RX3 = some m.cls := findClass_of_methodNamed B.named
  have hlocks := B.notSynchronized
  subst hsz
  have hD := hD0
  generalize hAe : (va_A [] s.heap.size) = A
  have hA : ∀ q : Nat, s.heap.size ≤ q → A q := fun q h => by rw [← hAe]; exact Or.inr h
  have hS : va_S A s.heap s.heap [] := va_S.rf
  have hP : va_P (dC, dI) vwCl ((jS (xW ad ca) 18 (ad 18, .inr (6, [.ref (ad 11), .int 5, .int 0, .int 1, .int 1, .int 1])))) s.heap := hP
  have hl := lv_entry ([.ref (ad 55), .ref (ad 58)]) (n := 4) (Nat.le_of_ble_eq_true rfl)
  rw [lg_entry_eq]
  generalize (lg_sl ([.ref (ad 55), .ref (ad 58)]) ++ List.replicate (4 - (lg_sl ([.ref (ad 55), .ref (ad 58)])).length) Slot.unset).toArray = ls at hl ⊢
  have hl : lv_has ls 4 [(0, .ref (ad 55)), (1, .ref (ad 58))] := hl
  refine lv_iconst (v := 0) hx hb dX3_sumOf_0 (by decide) ?_
  refine lv_istore_n (lv' := [(2, .int 0), (0, .ref (ad 55)), (1, .ref (ad 58))]) hx hb dX3_sumOf_1 rfl hl (by decide) rfl (fun ls hl => ?_)
  refine lv_iconst (v := 0) hx hb dX3_sumOf_2 (by decide) ?_
  refine lv_istore_n (lv' := [(3, .int 0), (2, .int 0), (0, .ref (ad 55)), (1, .ref (ad 58))]) hx hb dX3_sumOf_3 rfl hl (by decide) rfl (fun ls hl => ?_)
  refine lv_iload_n hx hb dX3_sumOf_4 rfl (lv_at hl 0 rfl) ?_
  refine lv_aload_n hx hb dX3_sumOf_5 rfl (lv_at hl 2 rfl) ?_
  refine va_get (D := (dC, dI)) (ci := 3) (v := .int 0) (C := RX3) (T := TX3) (N := 7) hx hb hts (jh hin_RX3) hown hK hP 55 rfl rfl 5 (by decide) (hts (.fieldLink RX3 27 "BookOfAll$Lengths" "size" "I") (jm m_423)) (fun _ h9 => h9) rfl dX3_sumOf_6 ?_
  refine lv_icmp_ge (tgt := 30) hx hb dX3_sumOf_9 (by decide) (fun _ => ?_) (fun z => absurd (by decide) z)
  refine lv_iload_n hx hb dX3_sumOf_30 rfl (lv_at hl 1 rfl) ?_
  exact W.iret (v := 0) hx hb hr (fun t ht hW => ⟨⟨0, (), rfl, rfl, trivial⟩, hS.F ht⟩) hS.2.2 dX3_sumOf_31
set_option maxHeartbeats 500000 in
set_option maxRecDepth 100000 in
theorem kX3_sumOf_18 (l : Launch) (dC : Nat → ClassId) (dI : Nat → Nat → Nat) (sz : Nat) (ad : Nat → Nat) (ca : Nat → ClassId) : Met l yX3_sumOf (jk yX3_sumOf cX3_sumOf 4 (some .int)) ({ frames := 0, cells := 0, slots := 0, locals := 0 }) (va_Pc [.ref (ad 55), .ref (ad 59)] (jw_P (dC, dI) ((jS (xW ad ca) 18 (ad 18, .inr (6, [.ref (ad 11), .int 5, .int 0, .int 1, .int 1, .int 1])))) (xT ca) sz)) (va_Qi (fun (r : Int32) (_ : Unit) => (r = 0)) (fun _ _ => True) (va_A [] sz)) 0 0 (va_A [] sz) := by
  refine Met.ofW (cc := cX3_sumOf) (maxL := 4) (ret := (some .int)) (by decide) rfl ?_
  intro p e s m args below meth c s₁ B hml hv
  obtain ⟨rfl, hsz, hP, hK, hD0⟩ := hv
  have hx := B.exec
  have hb := B.bytes
  have hr := B.returns
  have hts := atoms_spec (ws := (jk yX3_sumOf cX3_sumOf 4 (some .int))) B.pre
  have hown : s.vm.findClass RX3 = some m.cls := findClass_of_methodNamed B.named
  have hlocks := B.notSynchronized
  subst hsz
  have hD := hD0
  generalize hAe : (va_A [] s.heap.size) = A
  have hA : ∀ q : Nat, s.heap.size ≤ q → A q := fun q h => by rw [← hAe]; exact Or.inr h
  have hS : va_S A s.heap s.heap [] := va_S.rf
  have hP : va_P (dC, dI) vwCl ((jS (xW ad ca) 18 (ad 18, .inr (6, [.ref (ad 11), .int 5, .int 0, .int 1, .int 1, .int 1])))) s.heap := hP
  have hl := lv_entry ([.ref (ad 55), .ref (ad 59)]) (n := 4) (Nat.le_of_ble_eq_true rfl)
  rw [lg_entry_eq]
  generalize (lg_sl ([.ref (ad 55), .ref (ad 59)]) ++ List.replicate (4 - (lg_sl ([.ref (ad 55), .ref (ad 59)])).length) Slot.unset).toArray = ls at hl ⊢
  have hl : lv_has ls 4 [(0, .ref (ad 55)), (1, .ref (ad 59))] := hl
  refine lv_iconst (v := 0) hx hb dX3_sumOf_0 (by decide) ?_
  refine lv_istore_n (lv' := [(2, .int 0), (0, .ref (ad 55)), (1, .ref (ad 59))]) hx hb dX3_sumOf_1 rfl hl (by decide) rfl (fun ls hl => ?_)
  refine lv_iconst (v := 0) hx hb dX3_sumOf_2 (by decide) ?_
  refine lv_istore_n (lv' := [(3, .int 0), (2, .int 0), (0, .ref (ad 55)), (1, .ref (ad 59))]) hx hb dX3_sumOf_3 rfl hl (by decide) rfl (fun ls hl => ?_)
  refine lv_iload_n hx hb dX3_sumOf_4 rfl (lv_at hl 0 rfl) ?_
  refine lv_aload_n hx hb dX3_sumOf_5 rfl (lv_at hl 2 rfl) ?_
  refine va_get (D := (dC, dI)) (ci := 3) (v := .int 0) (C := RX3) (T := TX3) (N := 7) hx hb hts (jh hin_RX3) hown hK hP 55 rfl rfl 5 (by decide) (hts (.fieldLink RX3 27 "BookOfAll$Lengths" "size" "I") (jm m_423)) (fun _ h9 => h9) rfl dX3_sumOf_6 ?_
  refine lv_icmp_ge (tgt := 30) hx hb dX3_sumOf_9 (by decide) (fun _ => ?_) (fun z => absurd (by decide) z)
  refine lv_iload_n hx hb dX3_sumOf_30 rfl (lv_at hl 1 rfl) ?_
  exact W.iret (v := 0) hx hb hr (fun t ht hW => ⟨⟨0, (), rfl, rfl, trivial⟩, hS.F ht⟩) hS.2.2 dX3_sumOf_31
set_option maxHeartbeats 500000 in
set_option maxRecDepth 100000 in
theorem kX3_sumOf_19 (l : Launch) (dC : Nat → ClassId) (dI : Nat → Nat → Nat) (sz : Nat) (ad : Nat → Nat) (ca : Nat → ClassId) : Met l yX3_sumOf (jk yX3_sumOf cX3_sumOf 4 (some .int)) ({ frames := 0, cells := 0, slots := 0, locals := 0 }) (va_Pc [.ref (ad 55), .ref (ad 60)] (jw_P (dC, dI) ((jS (xW ad ca) 18 (ad 18, .inr (6, [.ref (ad 11), .int 5, .int 0, .int 1, .int 1, .int 1])))) (xT ca) sz)) (va_Qi (fun (r : Int32) (_ : Unit) => (r = 0)) (fun _ _ => True) (va_A [] sz)) 0 0 (va_A [] sz) := by
  refine Met.ofW (cc := cX3_sumOf) (maxL := 4) (ret := (some .int)) (by decide) rfl ?_
  intro p e s m args below meth c s₁ B hml hv
  obtain ⟨rfl, hsz, hP, hK, hD0⟩ := hv
  have hx := B.exec
  have hb := B.bytes
  have hr := B.returns
  have hts := atoms_spec (ws := (jk yX3_sumOf cX3_sumOf 4 (some .int))) B.pre
  have hown : s.vm.findClass RX3 = some m.cls := findClass_of_methodNamed B.named
  have hlocks := B.notSynchronized
  subst hsz
  have hD := hD0
  generalize hAe : (va_A [] s.heap.size) = A
  have hA : ∀ q : Nat, s.heap.size ≤ q → A q := fun q h => by rw [← hAe]; exact Or.inr h
  have hS : va_S A s.heap s.heap [] := va_S.rf
  have hP : va_P (dC, dI) vwCl ((jS (xW ad ca) 18 (ad 18, .inr (6, [.ref (ad 11), .int 5, .int 0, .int 1, .int 1, .int 1])))) s.heap := hP
  have hl := lv_entry ([.ref (ad 55), .ref (ad 60)]) (n := 4) (Nat.le_of_ble_eq_true rfl)
  rw [lg_entry_eq]
  generalize (lg_sl ([.ref (ad 55), .ref (ad 60)]) ++ List.replicate (4 - (lg_sl ([.ref (ad 55), .ref (ad 60)])).length) Slot.unset).toArray = ls at hl ⊢
  have hl : lv_has ls 4 [(0, .ref (ad 55)), (1, .ref (ad 60))] := hl
  refine lv_iconst (v := 0) hx hb dX3_sumOf_0 (by decide) ?_
  refine lv_istore_n (lv' := [(2, .int 0), (0, .ref (ad 55)), (1, .ref (ad 60))]) hx hb dX3_sumOf_1 rfl hl (by decide) rfl (fun ls hl => ?_)
  refine lv_iconst (v := 0) hx hb dX3_sumOf_2 (by decide) ?_
  refine lv_istore_n (lv' := [(3, .int 0), (2, .int 0), (0, .ref (ad 55)), (1, .ref (ad 60))]) hx hb dX3_sumOf_3 rfl hl (by decide) rfl (fun ls hl => ?_)
  refine lv_iload_n hx hb dX3_sumOf_4 rfl (lv_at hl 0 rfl) ?_
  refine lv_aload_n hx hb dX3_sumOf_5 rfl (lv_at hl 2 rfl) ?_
  refine va_get (D := (dC, dI)) (ci := 3) (v := .int 0) (C := RX3) (T := TX3) (N := 7) hx hb hts (jh hin_RX3) hown hK hP 55 rfl rfl 5 (by decide) (hts (.fieldLink RX3 27 "BookOfAll$Lengths" "size" "I") (jm m_423)) (fun _ h9 => h9) rfl dX3_sumOf_6 ?_
  refine lv_icmp_ge (tgt := 30) hx hb dX3_sumOf_9 (by decide) (fun _ => ?_) (fun z => absurd (by decide) z)
  refine lv_iload_n hx hb dX3_sumOf_30 rfl (lv_at hl 1 rfl) ?_
  exact W.iret (v := 0) hx hb hr (fun t ht hW => ⟨⟨0, (), rfl, rfl, trivial⟩, hS.F ht⟩) hS.2.2 dX3_sumOf_31
set_option maxHeartbeats 500000 in
set_option maxRecDepth 100000 in
theorem kX3_fitTo_8 (l : Launch) (dC : Nat → ClassId) (dI : Nat → Nat → Nat) (sz : Nat) (ad : Nat → Nat) (ca : Nat → ClassId) (p1 : Int32) : Met l yX3_fitTo (jk yX3_fitTo cX3_fitTo 9 (some .boolean)) ({ frames := 1, cells := 0, slots := 0, locals := 23 }) (va_Pc [.ref (ad 55), .int p1] (jw_P (dC, dI) ((jS (xW ad ca) 18 (ad 18, .inr (6, [.ref (ad 11), .int 5, .int 0, .int 1, .int 1, .int 1])))) (xT ca) sz)) (va_Qi (fun (r : Int32) (_ : Unit) => (r = 1)) (fun _ _ => True) (va_A [] sz)) 0 0 (va_A [] sz) := by
  refine Met.ofW (cc := cX3_fitTo) (maxL := 9) (ret := (some .boolean)) (by decide) rfl ?_
  intro p e s m args below meth c s₁ B hml hv
  obtain ⟨rfl, hsz, hP, hK, hD0⟩ := hv
  have hx := B.exec
  have hb := B.bytes
  have hr := B.returns
  have hts := atoms_spec (ws := (jk yX3_fitTo cX3_fitTo 9 (some .boolean))) B.pre
  have hown : s.vm.findClass RX3 = some m.cls := findClass_of_methodNamed B.named
  have hlocks := B.notSynchronized
  subst hsz
  have hD := hD0
  generalize hAe : (va_A [] s.heap.size) = A
  have hA : ∀ q : Nat, s.heap.size ≤ q → A q := fun q h => by rw [← hAe]; exact Or.inr h
  have hS : va_S A s.heap s.heap [] := va_S.rf
  have hP : va_P (dC, dI) vwCl ((jS (xW ad ca) 18 (ad 18, .inr (6, [.ref (ad 11), .int 5, .int 0, .int 1, .int 1, .int 1])))) s.heap := hP
  have hl := lv_entry ([.ref (ad 55), .int p1]) (n := 9) (Nat.le_of_ble_eq_true rfl)
  rw [lg_entry_eq]
  generalize (lg_sl ([.ref (ad 55), .int p1]) ++ List.replicate (9 - (lg_sl ([.ref (ad 55), .int p1])).length) Slot.unset).toArray = ls at hl ⊢
  have hl : lv_has ls 9 [(0, .ref (ad 55)), (1, .int p1)] := hl
  refine lv_aload_n hx hb dX3_fitTo_0 rfl (lv_at hl 0 rfl) ?_
  refine va_get (D := (dC, dI)) (ci := 3) (v := .int 0) (C := RX3) (T := TX3) (N := 7) hx hb hts (jh hin_RX3) hown hK hP 55 rfl rfl 6 (by decide) (hts (.fieldLink RX3 31 "BookOfAll$Lengths" "fixed" "I") (jm m_424)) (fun _ h9 => h9) rfl dX3_fitTo_1 ?_
  refine lv_aload_n hx hb dX3_fitTo_4 rfl (lv_at hl 0 rfl) ?_
  refine lv_aload_n hx hb dX3_fitTo_5 rfl (lv_at hl 0 rfl) ?_
  refine va_get (D := (dC, dI)) (ci := 3) (v := .ref (ad 58)) (C := RX3) (T := TX3) (N := 7) hx hb hts (jh hin_RX3) hown hK hP 55 rfl rfl 2 (by decide) (hts (.fieldLink RX3 18 "BookOfAll$Lengths" "least" "[I") (jm m_430)) (fun _ h9 => h9) rfl dX3_fitTo_6 ?_
  refine jc_i (va_runV (As := [.ref (ad 58)]) (rest := [.int 0]) ⟨hx, hb, hml, hown, hts⟩ (kX3_sumOf_17 l dC dI _ ad ca) (cwV 1 hts (jgoodV m_431 m_432 m_433 m_428 m_434) rfl rfl rfl (by decide +kernel) ⟨Nat.le_of_ble_eq_true rfl, Nat.le_of_ble_eq_true rfl⟩) ⟨jw_blind, va_recv hK hP (ci := 3) (q0 := 55) rfl rfl, fun U hU hW => ⟨rfl, jw_of hU hW hP hK hD⟩⟩ rfl rfl hl.1 rfl (lv_room (Nat.le_of_ble_eq_true rfl)) dX3_fitTo_9 ⟨Nat.le_of_ble_eq_true rfl, Nat.le_of_ble_eq_true rfl⟩) hP hS hA (fun r_1 H locs hw_1 hP hS => ?_)
  have hw_1 : 0 = r_1 := Eq.symm hw_1
  subst hw_1
  refine lv_iadd hx hb dX3_fitTo_12 ?_
  refine jt_i 0 (by decide) ?_
  refine lv_istore_n (lv' := [(2, .int 0), (0, .ref (ad 55)), (1, .int p1)]) hx hb dX3_fitTo_13 rfl hl (by decide) rfl (fun ls hl => ?_)
  refine lv_aload_n hx hb dX3_fitTo_14 rfl (lv_at hl 1 rfl) ?_
  refine va_get (D := (dC, dI)) (ci := 3) (v := .int 0) (C := RX3) (T := TX3) (N := 7) hx hb hts (jh hin_RX3) hown hK hP 55 rfl rfl 6 (by decide) (hts (.fieldLink RX3 31 "BookOfAll$Lengths" "fixed" "I") (jm m_424)) (fun _ h9 => h9) rfl dX3_fitTo_15 ?_
  refine lv_aload_n hx hb dX3_fitTo_18 rfl (lv_at hl 1 rfl) ?_
  refine lv_aload_n hx hb dX3_fitTo_19 rfl (lv_at hl 1 rfl) ?_
  refine va_get (D := (dC, dI)) (ci := 3) (v := .ref (ad 59)) (C := RX3) (T := TX3) (N := 7) hx hb hts (jh hin_RX3) hown hK hP 55 rfl rfl 3 (by decide) (hts (.fieldLink RX3 21 "BookOfAll$Lengths" "most" "[I") (jm m_435)) (fun _ h9 => h9) rfl dX3_fitTo_20 ?_
  refine jc_i (va_runV (As := [.ref (ad 59)]) (rest := [.int 0]) ⟨hx, hb, hml, hown, hts⟩ (kX3_sumOf_18 l dC dI _ ad ca) (cwV 1 hts (jgoodV m_431 m_432 m_433 m_428 m_434) rfl rfl rfl (by decide +kernel) ⟨Nat.le_of_ble_eq_true rfl, Nat.le_of_ble_eq_true rfl⟩) ⟨jw_blind, va_recv hK hP (ci := 3) (q0 := 55) rfl rfl, fun U hU hW => ⟨rfl, jw_of hU hW hP hK hD⟩⟩ rfl rfl hl.1 rfl (lv_room (Nat.le_of_ble_eq_true rfl)) dX3_fitTo_23 ⟨Nat.le_of_ble_eq_true rfl, Nat.le_of_ble_eq_true rfl⟩) hP hS hA (fun r_2 H locs hw_2 hP hS => ?_)
  have hw_2 : 0 = r_2 := Eq.symm hw_2
  subst hw_2
  refine lv_iadd hx hb dX3_fitTo_26 ?_
  refine jt_i 0 (by decide) ?_
  refine lv_istore_n (lv' := [(3, .int 0), (2, .int 0), (0, .ref (ad 55)), (1, .int p1)]) hx hb dX3_fitTo_27 rfl hl (by decide) rfl (fun ls hl => ?_)
  refine lv_aload_n hx hb dX3_fitTo_28 rfl (lv_at hl 2 rfl) ?_
  refine va_get (D := (dC, dI)) (ci := 3) (v := .int 0) (C := RX3) (T := TX3) (N := 7) hx hb hts (jh hin_RX3) hown hK hP 55 rfl rfl 6 (by decide) (hts (.fieldLink RX3 31 "BookOfAll$Lengths" "fixed" "I") (jm m_424)) (fun _ h9 => h9) rfl dX3_fitTo_29 ?_
  refine lv_aload_n hx hb dX3_fitTo_32 rfl (lv_at hl 2 rfl) ?_
  refine lv_aload_n hx hb dX3_fitTo_33 rfl (lv_at hl 2 rfl) ?_
  refine va_get (D := (dC, dI)) (ci := 3) (v := .ref (ad 60)) (C := RX3) (T := TX3) (N := 7) hx hb hts (jh hin_RX3) hown hK hP 55 rfl rfl 4 (by decide) (hts (.fieldLink RX3 24 "BookOfAll$Lengths" "fitted" "[I") (jm m_436)) (fun _ h9 => h9) rfl dX3_fitTo_34 ?_
  refine jc_i (va_runV (As := [.ref (ad 60)]) (rest := [.int 0]) ⟨hx, hb, hml, hown, hts⟩ (kX3_sumOf_19 l dC dI _ ad ca) (cwV 1 hts (jgoodV m_431 m_432 m_433 m_428 m_434) rfl rfl rfl (by decide +kernel) ⟨Nat.le_of_ble_eq_true rfl, Nat.le_of_ble_eq_true rfl⟩) ⟨jw_blind, va_recv hK hP (ci := 3) (q0 := 55) rfl rfl, fun U hU hW => ⟨rfl, jw_of hU hW hP hK hD⟩⟩ rfl rfl hl.1 rfl (lv_room (Nat.le_of_ble_eq_true rfl)) dX3_fitTo_37 ⟨Nat.le_of_ble_eq_true rfl, Nat.le_of_ble_eq_true rfl⟩) hP hS hA (fun r_3 H locs hw_3 hP hS => ?_)
  have hw_3 : 0 = r_3 := Eq.symm hw_3
  subst hw_3
  refine lv_iadd hx hb dX3_fitTo_40 ?_
  refine jt_i 0 (by decide) ?_
  refine lv_istore (lv' := [(4, .int 0), (3, .int 0), (2, .int 0), (0, .ref (ad 55)), (1, .int p1)]) hx hb dX3_fitTo_41 hl (by decide) rfl (fun ls hl => ?_)
  refine lv_iload_n hx hb dX3_fitTo_43 rfl (lv_at hl 4 rfl) ?_
  refine lv_if_le (tgt := 54) hx hb dX3_fitTo_44 (by decide) (fun c_4 => ?_) (fun c_4 => ?_)
  · refine lv_iconst (v := 0) hx hb dX3_fitTo_54 (by decide) ?_
    refine lv_istore (lv' := [(5, .int 0), (4, .int 0), (3, .int 0), (2, .int 0), (0, .ref (ad 55)), (1, .int p1)]) hx hb dX3_fitTo_55 hl (by decide) rfl (fun ls hl => ?_)
    refine lv_iload hx hb dX3_fitTo_57 (lv_at hl 0 rfl) ?_
    refine lv_if_ne (tgt := 64) hx hb dX3_fitTo_59 (by decide) (fun z => absurd (by decide) z) (fun _ => ?_)
    refine lv_iconst (v := 1) hx hb dX3_fitTo_62 (by decide) ?_
    exact W.zret (v := 1) (ty := .boolean) hx hb hr rfl (fun t ht hW => ⟨⟨1, (), rfl, rfl, trivial⟩, hS.F ht⟩) hS.2.2 dX3_fitTo_63
  · refine lv_iload hx hb dX3_fitTo_47 (lv_at hl 0 rfl) ?_
    refine lv_iload_n hx hb dX3_fitTo_49 rfl (lv_at hl 4 rfl) ?_
    refine lv_irem hx hb dX3_fitTo_50 (jb_ne2 (jl_nle (d := 1) c_4 (by decide)) (by decide)) ?_
    refine jt_i 0 (j0_rem _) ?_
    refine lv_goto (tgt := 55) hx hb dX3_fitTo_51 (by decide) ?_
    refine lv_istore (lv' := [(5, .int 0), (4, .int 0), (3, .int 0), (2, .int 0), (0, .ref (ad 55)), (1, .int p1)]) hx hb dX3_fitTo_55 hl (by decide) rfl (fun ls hl => ?_)
    refine lv_iload hx hb dX3_fitTo_57 (lv_at hl 0 rfl) ?_
    refine lv_if_ne (tgt := 64) hx hb dX3_fitTo_59 (by decide) (fun z => absurd (by decide) z) (fun _ => ?_)
    refine lv_iconst (v := 1) hx hb dX3_fitTo_62 (by decide) ?_
    exact W.zret (v := 1) (ty := .boolean) hx hb hr rfl (fun t ht hW => ⟨⟨1, (), rfl, rfl, trivial⟩, hS.F ht⟩) hS.2.2 dX3_fitTo_63
set_option maxHeartbeats 500000 in
set_option maxRecDepth 100000 in
theorem kX12_fit_12 (l : Launch) (dC : Nat → ClassId) (dI : Nat → Nat → Nat) (sz : Nat) (ad : Nat → Nat) (ca : Nat → ClassId) (p2 : Int32) (tW : Nat) : Met l yX12_fit (jk yX12_fit cX12_fit 5 (some .boolean)) ({ frames := 4, cells := 0, slots := 0, locals := 95 }) (va_Pc [.ref (ad 0), .int 5, .int p2] (jw_PZ (dC, dI) (xW ad ca) (xT ca) sz tW)) (va_Qi (fun (r : Int32) (u : Nat × (Nat → Nat) × (Nat → ClassId)) => (u.1 = 0 ∧ p2 < 1 ∧ r = 0) ∨ (u.1 = 1 ∧ ¬ (p2 < 1) ∧ p2 ≤ 400 ∧ r = 1) ∨ (u.1 = 0 ∧ ¬ (p2 < 1) ∧ ¬ (p2 ≤ 400) ∧ r = 0)) (fun u t => va_P (dC, dI) vwCl ((fun (u : Nat × (Nat → Nat) × (Nat → ClassId)) => match u.1 with | 0 => xW ad ca | _ => (jS (xW ad ca) 18 (ad 18, .inr (6, [.ref (ad 11), .int 5, .int 0, .int 1, .int 1, .int 1])))) u) t.heap ∧ va_K (dC, dI) vwCl ((fun (u : Nat × (Nat → Nat) × (Nat → ClassId)) => match u.1 with | 0 => xT ca | _ => xT ca) u) t ∧ va_D (va_A (xW ad ca) sz) ((fun (u : Nat × (Nat → Nat) × (Nat → ClassId)) => match u.1 with | 0 => xW ad ca | _ => (jS (xW ad ca) 18 (ad 18, .inr (6, [.ref (ad 11), .int 5, .int 0, .int 1, .int 1, .int 1])))) u)) (va_A (xW ad ca) sz)) 0 0 (va_A (xW ad ca) sz) := by
  refine Met.ofW (cc := cX12_fit) (maxL := 5) (ret := (some .boolean)) (by decide) rfl ?_
  intro p e s m args below meth c s₁ B hml hv
  obtain ⟨rfl, ⟨hsz, hP, hK, hD0⟩, hZ, hT⟩ := hv
  have hx := B.exec
  have hb := B.bytes
  have hr := B.returns
  have hts := atoms_spec (ws := (jk yX12_fit cX12_fit 5 (some .boolean))) B.pre
  have hown : s.vm.findClass RX12 = some m.cls := findClass_of_methodNamed B.named
  have hlocks := B.notSynchronized
  subst hsz
  have hD := hD0.self (sz := s.heap.size)
  generalize hAe : (va_A (xW ad ca) s.heap.size) = A at hD hZ hT ⊢
  have hA : ∀ q : Nat, s.heap.size ≤ q → A q := fun q h => by rw [← hAe]; exact Or.inr h
  have hS : va_S A s.heap s.heap [] := va_S.rf
  have hP : va_P (dC, dI) vwCl (xW ad ca) s.heap := hP
  have hl := lv_entry ([.ref (ad 0), .int 5, .int p2]) (n := 5) (Nat.le_of_ble_eq_true rfl)
  rw [lg_entry_eq]
  generalize (lg_sl ([.ref (ad 0), .int 5, .int p2]) ++ List.replicate (5 - (lg_sl ([.ref (ad 0), .int 5, .int p2])).length) Slot.unset).toArray = ls at hl ⊢
  have hl : lv_has ls 5 [(0, .ref (ad 0)), (1, .int 5), (2, .int p2)] := hl
  refine lv_aload_n hx hb dX12_fit_0 rfl (lv_at hl 0 rfl) ?_
  refine lv_iload_n hx hb dX12_fit_1 rfl (lv_at hl 1 rfl) ?_
  refine jc_i (va_runV (As := [.int 5]) (rest := []) ⟨hx, hb, hml, hown, hts⟩ (kX12_isVolume_8 l dC dI _ (ad 0)) (cwV 1 hts (jgoodV m_207 m_208 m_209 m_210 m_211) rfl rfl rfl (by decide +kernel) ⟨Nat.le_of_ble_eq_true rfl, Nat.le_of_ble_eq_true rfl⟩) ⟨jw_blind0, va_recv hK hP (ci := 12) (q0 := 0) rfl rfl, fun U hU hW => ⟨rfl, congrArg Array.size hU⟩⟩ rfl rfl hl.1 rfl (lv_room (Nat.le_of_ble_eq_true rfl)) dX12_fit_2 ⟨Nat.le_of_ble_eq_true rfl, Nat.le_of_ble_eq_true rfl⟩) hP hS hA (fun r_1 H locs hw_1 hP hS => ?_)
  have hw_1 : 1 = r_1 := Eq.symm hw_1
  subst hw_1
  refine lv_if_eq (tgt := 28) hx hb dX12_fit_5 (by decide) (fun z => absurd z (by decide)) (fun _ => ?_)
  refine lv_aload_n hx hb dX12_fit_8 rfl (lv_at hl 0 rfl) ?_
  refine lv_iload_n hx hb dX12_fit_9 rfl (lv_at hl 1 rfl) ?_
  refine jc_i (va_runV (As := [.int 5]) (rest := []) ⟨hx, hb, hml, hown, hts⟩ (kX12_isSet_15 l dC dI _ ad ca) (cwV 1 hts (jgoodV m_213 m_214 m_215 m_210 m_216) rfl rfl rfl (by decide +kernel) ⟨Nat.le_of_ble_eq_true rfl, Nat.le_of_ble_eq_true rfl⟩) ⟨jw_blind, va_recv hK hP (ci := 12) (q0 := 0) rfl rfl, fun U hU hW => ⟨rfl, jw_of hU hW hP hK hD⟩⟩ rfl rfl hl.1 rfl (lv_room (Nat.le_of_ble_eq_true rfl)) dX12_fit_10 ⟨Nat.le_of_ble_eq_true rfl, Nat.le_of_ble_eq_true rfl⟩) hP hS hA (fun r_2 H locs hw_2 hP hS => ?_)
  have hw_2 : 0 = r_2 := Eq.symm hw_2
  subst hw_2
  refine lv_if_ne (tgt := 28) hx hb dX12_fit_13 (by decide) (fun z => absurd (by decide) z) (fun _ => ?_)
  refine lv_iload_n hx hb dX12_fit_16 rfl (lv_at hl 2 rfl) ?_
  refine lv_iconst (v := 1) hx hb dX12_fit_17 (by decide) ?_
  refine lv_icmp_lt (tgt := 28) hx hb dX12_fit_18 (by decide) (fun c_3 => ?_) (fun c_3 => ?_)
  · refine lv_iconst (v := 0) hx hb dX12_fit_28 (by decide) ?_
    exact W.zret (v := 0) (ty := .boolean) hx hb hr rfl (fun t ht hW => ⟨⟨0, (0, fun k => [].getD k 0, fun k => [].getD k (dC 0)), rfl, (Or.inl ⟨rfl, c_3, rfl⟩), by rw [ht]; exact hP, va_K.moved hW.alike hK, hD⟩, hS.F ht⟩) hS.2.2 dX12_fit_29
  · refine lv_iload_n hx hb dX12_fit_21 rfl (lv_at hl 2 rfl) ?_
    refine lv_sipush (v := 400) hx hb dX12_fit_22 (by decide) ?_
    refine lv_icmp_le (tgt := 30) hx hb dX12_fit_25 (by decide) (fun c_4 => ?_) (fun c_4 => ?_)
    · refine lv_aload_n hx hb dX12_fit_30 rfl (lv_at hl 0 rfl) ?_
      refine lv_iload_n hx hb dX12_fit_31 rfl (lv_at hl 1 rfl) ?_
      refine jcw_v (va_runV (As := [.int 5]) (rest := []) ⟨hx, hb, hml, hown, hts⟩ (kX12_arrange_12 l dC dI _ ad ca tW) (cwV 1 hts (jgoodV m_334 m_335 m_336 m_210 m_337) rfl rfl rfl (by decide +kernel) ⟨Nat.le_of_ble_eq_true rfl, Nat.le_of_ble_eq_true rfl⟩) ⟨jw_blindZ, va_recv hK hP (ci := 12) (q0 := 0) rfl rfl, fun U hU hW => ⟨rfl, jw_of hU hW hP hK hD, jz_of hU hW hD hS hA hZ hT⟩⟩ rfl rfl hl.1 rfl (lv_room (Nat.le_of_ble_eq_true rfl)) dX12_fit_32 ⟨Nat.le_of_ble_eq_true rfl, Nat.le_of_ble_eq_true rfl⟩) hD hS hA (fun H locs hw_5 hP hK hD hS => ?_)
      refine lv_aload_n hx hb dX12_fit_35 rfl (lv_at hl 0 rfl) ?_
      refine va_get (D := (dC, dI)) (ci := 12) (v := .ref (ad 55)) (C := RX12) (T := TX12) (N := 20) hx hb hts (jh hin_RX12) hown hK hP 0 rfl rfl 17 (by decide) (hts (.fieldLink RX12 85 "BookOfAll" "fitting" "LBookOfAll$Lengths;") (jm m_422)) (fun _ h9 => h9) rfl dX12_fit_36 ?_
      refine jcw_v (va_runV (As := []) (rest := []) ⟨hx, hb, hml, hown, hts⟩ (kX3_begin_7 l dC dI _ ad ca) (cwV 0 hts (jgoodV m_425 m_426 m_427 m_428 m_429) rfl rfl rfl (by decide +kernel) ⟨Nat.le_of_ble_eq_true rfl, Nat.le_of_ble_eq_true rfl⟩) ⟨jw_blind, va_recv hK hP (ci := 3) (q0 := 55) rfl rfl, fun U hU hW => ⟨rfl, jw_of hU hW hP hK hD⟩⟩ rfl rfl hl.1 rfl (lv_room (Nat.le_of_ble_eq_true rfl)) dX12_fit_39 ⟨Nat.le_of_ble_eq_true rfl, Nat.le_of_ble_eq_true rfl⟩) hD hS hA (fun H locs hw_6 hP hK hD hS => ?_)
      refine lv_iconst (v := 0) hx hb dX12_fit_42 (by decide) ?_
      refine lv_istore_n (lv' := [(3, .int 0), (0, .ref (ad 0)), (1, .int 5), (2, .int p2)]) hx hb dX12_fit_43 rfl hl (by decide) rfl (fun ls hl => ?_)
      refine lv_iload_n hx hb dX12_fit_44 rfl (lv_at hl 0 rfl) ?_
      refine lv_aload_n hx hb dX12_fit_45 rfl (lv_at hl 1 rfl) ?_
      refine va_get (D := (dC, dI)) (ci := 12) (v := .int 0) (C := RX12) (T := TX12) (N := 20) hx hb hts (jh hin_RX12) hown hK hP 0 rfl rfl 9 (by decide) (hts (.fieldLink RX12 268 "BookOfAll" "rowSize" "I") (jm m_333)) (fun _ h9 => h9) rfl dX12_fit_46 ?_
      refine lv_icmp_ge (tgt := 85) hx hb dX12_fit_49 (by decide) (fun _ => ?_) (fun z => absurd (by decide) z)
      refine lv_aload_n hx hb dX12_fit_85 rfl (lv_at hl 1 rfl) ?_
      refine va_get (D := (dC, dI)) (ci := 12) (v := .ref (ad 55)) (C := RX12) (T := TX12) (N := 20) hx hb hts (jh hin_RX12) hown hK hP 0 rfl rfl 17 (by decide) (hts (.fieldLink RX12 85 "BookOfAll" "fitting" "LBookOfAll$Lengths;") (jm m_422)) (fun _ h9 => h9) rfl dX12_fit_86 ?_
      refine lv_iload_n hx hb dX12_fit_89 rfl (lv_at hl 3 rfl) ?_
      refine jc_i (va_runV (As := [.int p2]) (rest := []) ⟨hx, hb, hml, hown, hts⟩ (kX3_fitTo_8 l dC dI _ ad ca p2) (cwV 1 hts (jgoodV m_437 m_438 m_439 m_428 m_440) rfl rfl rfl (by decide +kernel) ⟨Nat.le_of_ble_eq_true rfl, Nat.le_of_ble_eq_true rfl⟩) ⟨jw_blind, va_recv hK hP (ci := 3) (q0 := 55) rfl rfl, fun U hU hW => ⟨rfl, jw_of hU hW hP hK hD⟩⟩ rfl rfl hl.1 rfl (lv_room (Nat.le_of_ble_eq_true rfl)) dX12_fit_90 ⟨Nat.le_of_ble_eq_true rfl, Nat.le_of_ble_eq_true rfl⟩) hP hS hA (fun r_7 H locs hw_7 hP hS => ?_)
      have hw_7 : 1 = r_7 := Eq.symm hw_7
      subst hw_7
      exact W.zret (v := 1) (ty := .boolean) hx hb hr rfl (fun t ht hW => ⟨⟨1, (1, fun k => [].getD k 0, fun k => [].getD k (dC 0)), rfl, (Or.inr (Or.inl ⟨rfl, c_3, c_4, rfl⟩)), by rw [ht]; exact hP, va_K.moved hW.alike hK, hD⟩, hS.F ht⟩) hS.2.2 dX12_fit_93
    · refine lv_iconst (v := 0) hx hb dX12_fit_28 (by decide) ?_
      exact W.zret (v := 0) (ty := .boolean) hx hb hr rfl (fun t ht hW => ⟨⟨0, (0, fun k => [].getD k 0, fun k => [].getD k (dC 0)), rfl, (Or.inr (Or.inr ⟨rfl, c_3, c_4, rfl⟩)), by rw [ht]; exact hP, va_K.moved hW.alike hK, hD⟩, hS.F ht⟩) hS.2.2 dX12_fit_29
