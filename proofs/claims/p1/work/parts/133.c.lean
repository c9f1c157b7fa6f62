set_option maxHeartbeats 500000 in
set_option maxRecDepth 100000 in
theorem kX3_differences_7 (l : Launch) (dC : Nat → ClassId) (dI : Nat → Nat → Nat) (sz : Nat) (ad : Nat → Nat) (ca : Nat → ClassId) : Met l yX3_differences (jk yX3_differences cX3_differences 3 (some .int)) ({ frames := 0, cells := 0, slots := 0, locals := 0 }) (va_Pc [.ref (ad 55)] (jw_P (dC, dI) ((jS (xW ad ca) 18 (ad 18, .inr (6, [.ref (ad 11), .int 5, .int 0, .int 1, .int 1, .int 1])))) (xT ca) sz)) (va_Qi (fun (r : Int32) (_ : Unit) => (r = 0)) (fun _ _ => True) (va_A [] sz)) 0 0 (va_A [] sz) := by
  refine Met.ofW (cc := cX3_differences) (maxL := 3) (ret := (some .int)) (by decide) rfl ?_
  intro p e s m args below meth c s₁ B hml hv
  obtain ⟨rfl, hsz, hP, hK, hD0⟩ := hv
  have hx := B.exec
  have hb := B.bytes
  have hr := B.returns
  have hts := atoms_spec (ws := (jk yX3_differences cX3_differences 3 (some .int))) B.pre
  have hown : s.vm.findClass RX3 = some m.cls := findClass_of_methodNamed B.named
  have hlocks := B.notSynchronized
  subst hsz
  have hD := hD0
  generalize hAe : (va_A [] s.heap.size) = A
  have hA : ∀ q : Nat, s.heap.size ≤ q → A q := fun q h => by rw [← hAe]; exact Or.inr h
  have hS : va_S A s.heap s.heap [] := va_S.rf
  have hP : va_P (dC, dI) vwCl ((jS (xW ad ca) 18 (ad 18, .inr (6, [.ref (ad 11), .int 5, .int 0, .int 1, .int 1, .int 1])))) s.heap := hP
  have hl := lv_entry ([.ref (ad 55)]) (n := 3) (Nat.le_of_ble_eq_true rfl)
  rw [lg_entry_eq]
  generalize (lg_sl ([.ref (ad 55)]) ++ List.replicate (3 - (lg_sl ([.ref (ad 55)])).length) Slot.unset).toArray = ls at hl ⊢
  have hl : lv_has ls 3 [(0, .ref (ad 55))] := hl
  refine lv_iconst (v := 0) hx hb dX3_differences_0 (by decide) ?_
  refine lv_istore_n (lv' := [(1, .int 0), (0, .ref (ad 55))]) hx hb dX3_differences_1 rfl hl (by decide) rfl (fun ls hl => ?_)
  refine lv_iconst (v := 0) hx hb dX3_differences_2 (by decide) ?_
  refine lv_istore_n (lv' := [(2, .int 0), (1, .int 0), (0, .ref (ad 55))]) hx hb dX3_differences_3 rfl hl (by decide) rfl (fun ls hl => ?_)
  refine lv_iload_n hx hb dX3_differences_4 rfl (lv_at hl 0 rfl) ?_
  refine lv_aload_n hx hb dX3_differences_5 rfl (lv_at hl 2 rfl) ?_
  refine va_get (D := (dC, dI)) (ci := 3) (v := .int 0) (C := RX3) (T := TX3) (N := 7) hx hb hts (jh hin_RX3) hown hK hP 55 rfl rfl 5 (by decide) (hts (.fieldLink RX3 27 "BookOfAll$Lengths" "size" "I") (jm m_423)) (fun _ h9 => h9) rfl dX3_differences_6 ?_
  refine lv_icmp_ge (tgt := 43) hx hb dX3_differences_9 (by decide) (fun _ => ?_) (fun z => absurd (by decide) z)
  refine lv_iload_n hx hb dX3_differences_43 rfl (lv_at hl 1 rfl) ?_
  exact W.iret (v := 0) hx hb hr (fun t ht hW => ⟨⟨0, (), rfl, rfl, trivial⟩, hS.F ht⟩) hS.2.2 dX3_differences_44
theorem s_tX12_lengths_v5_0 {p2 : Int32} (c_2 : p2 < 1) : (-1) = sp_lengths 5 p2 := by
  unfold sp_lengths
  have g0 : p2.toInt < 1 := ji_lt.mp c_2
  rw [show (5 : Int32).toInt = 5 from rfl]
  split <;> first | rfl | (exfalso; omega)
theorem s_tX12_lengths_v5_1 {p2 : Int32} (c_3 : ¬ (p2 < 1)) (c_4 : p2 ≤ 400) : 0 = sp_lengths 5 p2 := by
  unfold sp_lengths
  have g0 : ¬ (p2.toInt < 1) := fun z => c_3 (ji_lt.mpr z)
  have g1 : p2.toInt ≤ 400 := ji_le.mp c_4
  rw [show (5 : Int32).toInt = 5 from rfl]
  split <;> first | rfl | (exfalso; omega)
theorem s_tX12_lengths_v5_2 {p2 : Int32} (c_5 : ¬ (p2 < 1)) (c_6 : ¬ (p2 ≤ 400)) : (-1) = sp_lengths 5 p2 := by
  unfold sp_lengths
  have g0 : ¬ (p2.toInt < 1) := fun z => c_5 (ji_lt.mpr z)
  have g1 : ¬ (p2.toInt ≤ 400) := fun z => c_6 (ji_le.mpr z)
  rw [show (5 : Int32).toInt = 5 from rfl]
  split <;> first | rfl | (exfalso; omega)
set_option maxHeartbeats 500000 in
set_option maxRecDepth 100000 in
theorem tX12_lengths_v5 (l : Launch) (dC : Nat → ClassId) (dI : Nat → Nat → Nat) (sz : Nat) (ad : Nat → Nat) (ca : Nat → ClassId) (p2 : Int32) (tW : Nat) : Met l yX12_lengths (jk yX12_lengths cX12_lengths 3 (some .int)) ({ frames := 5, cells := 0, slots := 0, locals := 119 }) (va_Pc [.ref (ad 0), .int 5, .int p2] (jw_PZ (dC, dI) (xW ad ca) (xT ca) sz tW)) (va_Qi (fun (r : Int32) (_ : Unit) => r = sp_lengths 5 p2) (fun _ _ => True) (va_A (xW ad ca) sz)) 0 0 (va_A (xW ad ca) sz) := by
  refine Met.ofW (cc := cX12_lengths) (maxL := 3) (ret := (some .int)) (by decide) rfl ?_
  intro p e s m args below meth c s₁ B hml hv
  obtain ⟨rfl, ⟨hsz, hP, hK, hD0⟩, hZ, hT⟩ := hv
  have hx := B.exec
  have hb := B.bytes
  have hr := B.returns
  have hts := atoms_spec (ws := (jk yX12_lengths cX12_lengths 3 (some .int))) B.pre
  have hown : s.vm.findClass RX12 = some m.cls := findClass_of_methodNamed B.named
  have hlocks := B.notSynchronized
  subst hsz
  have hD := hD0.self (sz := s.heap.size)
  generalize hAe : (va_A (xW ad ca) s.heap.size) = A at hD hZ hT ⊢
  have hA : ∀ q : Nat, s.heap.size ≤ q → A q := fun q h => by rw [← hAe]; exact Or.inr h
  have hS : va_S A s.heap s.heap [] := va_S.rf
  have hP : va_P (dC, dI) vwCl (xW ad ca) s.heap := hP
  have hl := lv_entry ([.ref (ad 0), .int 5, .int p2]) (n := 3) (Nat.le_of_ble_eq_true rfl)
  rw [lg_entry_eq]
  generalize (lg_sl ([.ref (ad 0), .int 5, .int p2]) ++ List.replicate (3 - (lg_sl ([.ref (ad 0), .int 5, .int p2])).length) Slot.unset).toArray = ls at hl ⊢
  have hl : lv_has ls 3 [(0, .ref (ad 0)), (1, .int 5), (2, .int p2)] := hl
  refine lv_aload_n hx hb dX12_lengths_0 rfl (lv_at hl 0 rfl) ?_
  refine lv_iload_n hx hb dX12_lengths_1 rfl (lv_at hl 1 rfl) ?_
  refine lv_iload_n hx hb dX12_lengths_2 rfl (lv_at hl 2 rfl) ?_
  refine jcg_i (va_runV (As := [.int 5, .int p2]) (rest := []) ⟨hx, hb, hml, hown, hts⟩ (kX12_fit_12 l dC dI _ ad ca p2 tW) (cwV 2 hts (jgoodV m_441 m_442 m_443 m_210 m_444) rfl rfl rfl (by decide +kernel) ⟨Nat.le_of_ble_eq_true rfl, Nat.le_of_ble_eq_true rfl⟩) ⟨jw_blindZ, va_recv hK hP (ci := 12) (q0 := 0) rfl rfl, fun U hU hW => ⟨rfl, jw_of hU hW hP hK hD, jz_of hU hW hD hS hA hZ hT⟩⟩ rfl rfl hl.1 rfl (lv_room (Nat.le_of_ble_eq_true rfl)) dX12_lengths_3 ⟨Nat.le_of_ble_eq_true rfl, Nat.le_of_ble_eq_true rfl⟩) hD hS hA (fun r_1 u_1 H locs hw_1 hP hK hD hS => ?_)
  obtain ⟨w_1, a_1, y_1⟩ := u_1
  rcases (show (w_1 = 0 ∧ p2 < 1 ∧ r_1 = 0) ∨ (w_1 = 1 ∧ ¬ (p2 < 1) ∧ p2 ≤ 400 ∧ r_1 = 1) ∨ (w_1 = 0 ∧ ¬ (p2 < 1) ∧ ¬ (p2 ≤ 400) ∧ r_1 = 0) from hw_1) with ⟨rfl, c_2, e_2_0⟩ | ⟨rfl, c_3, c_4, e_4_1⟩ | ⟨rfl, c_5, c_6, e_6_2⟩
  · have e_2_0 := e_2_0.symm
    subst e_2_0
    have hP : va_P (dC, dI) vwCl (xW ad ca) H := hP
    have hK : va_K (dC, dI) vwCl (xT ca) s := hK
    have hD : va_D A (xW ad ca) := hD
    refine lv_if_eq (tgt := 19) hx hb dX12_lengths_6 (by decide) (fun _ => ?_) (fun z => absurd (by decide) z)
    refine lv_iconst (v := (-1)) hx hb dX12_lengths_19 (by decide) ?_
    exact W.iret (v := (-1)) hx hb hr (fun t ht hW => ⟨⟨(-1), (), rfl, (s_tX12_lengths_v5_0 (p2 := p2) c_2), trivial⟩, hS.F ht⟩) hS.2.2 dX12_lengths_20
  · have e_4_1 := e_4_1.symm
    subst e_4_1
    have hP : va_P (dC, dI) vwCl ((jS (xW ad ca) 18 (ad 18, .inr (6, [.ref (ad 11), .int 5, .int 0, .int 1, .int 1, .int 1])))) H := hP
    have hK : va_K (dC, dI) vwCl (xT ca) s := hK
    have hD : va_D A ((jS (xW ad ca) 18 (ad 18, .inr (6, [.ref (ad 11), .int 5, .int 0, .int 1, .int 1, .int 1])))) := hD
    refine lv_if_eq (tgt := 19) hx hb dX12_lengths_6 (by decide) (fun z => absurd z (by decide)) (fun _ => ?_)
    refine lv_aload_n hx hb dX12_lengths_9 rfl (lv_at hl 0 rfl) ?_
    refine va_get (D := (dC, dI)) (ci := 12) (v := .ref (ad 55)) (C := RX12) (T := TX12) (N := 20) hx hb hts (jh hin_RX12) hown hK hP 0 rfl rfl 17 (by decide) (hts (.fieldLink RX12 85 "BookOfAll" "fitting" "LBookOfAll$Lengths;") (jm m_422)) (fun _ h9 => h9) rfl dX12_lengths_10 ?_
    refine jc_i (va_runV (As := []) (rest := []) ⟨hx, hb, hml, hown, hts⟩ (kX3_differences_7 l dC dI _ ad ca) (cwV 0 hts (jgoodV m_445 m_446 m_447 m_428 m_448) rfl rfl rfl (by decide +kernel) ⟨Nat.le_of_ble_eq_true rfl, Nat.le_of_ble_eq_true rfl⟩) ⟨jw_blind, va_recv hK hP (ci := 3) (q0 := 55) rfl rfl, fun U hU hW => ⟨rfl, jw_of hU hW hP hK hD⟩⟩ rfl rfl hl.1 rfl (lv_room (Nat.le_of_ble_eq_true rfl)) dX12_lengths_13 ⟨Nat.le_of_ble_eq_true rfl, Nat.le_of_ble_eq_true rfl⟩) hP hS hA (fun r_7 H locs hw_7 hP hS => ?_)
    have hw_7 : 0 = r_7 := Eq.symm hw_7
    subst hw_7
    refine lv_goto (tgt := 20) hx hb dX12_lengths_16 (by decide) ?_
    exact W.iret (v := 0) hx hb hr (fun t ht hW => ⟨⟨0, (), rfl, (s_tX12_lengths_v5_1 (p2 := p2) c_3 c_4), trivial⟩, hS.F ht⟩) hS.2.2 dX12_lengths_20
  · have e_6_2 := e_6_2.symm
    subst e_6_2
    have hP : va_P (dC, dI) vwCl (xW ad ca) H := hP
    have hK : va_K (dC, dI) vwCl (xT ca) s := hK
    have hD : va_D A (xW ad ca) := hD
    refine lv_if_eq (tgt := 19) hx hb dX12_lengths_6 (by decide) (fun _ => ?_) (fun z => absurd (by decide) z)
    refine lv_iconst (v := (-1)) hx hb dX12_lengths_19 (by decide) ?_
    exact W.iret (v := (-1)) hx hb hr (fun t ht hW => ⟨⟨(-1), (), rfl, (s_tX12_lengths_v5_2 (p2 := p2) c_5 c_6), trivial⟩, hS.F ht⟩) hS.2.2 dX12_lengths_20
set_option maxHeartbeats 500000 in
set_option maxRecDepth 100000 in
theorem kX8_inForce_44 (l : Launch) (dC : Nat → ClassId) (dI : Nat → Nat → Nat) (sz : Nat) (ad : Nat → Nat) (ca : Nat → ClassId) (w0 : Int32) (p2 : Int32) : Met l yX8_inForce (jk yX8_inForce cX8_inForce 6 (some .int)) ({ frames := 0, cells := 0, slots := 0, locals := 0 }) (va_Pc [.ref (ad 11), .int 1, .int p2, .int 0] (jw_P (dC, dI) ((jS (xW ad ca) 18 (ad 18, .inr (6, [.ref (ad 11), .int w0, .int 0, .int 1, .int 0, .int 0])))) (xT ca) sz)) (va_Qi (fun (r : Int32) (_ : Unit) => (r = (-1))) (fun _ _ => True) (va_A [] sz)) 0 0 (va_A [] sz) := by
  refine Met.ofW (cc := cX8_inForce) (maxL := 6) (ret := (some .int)) (by decide) rfl ?_
  intro p e s m args below meth c s₁ B hml hv
  obtain ⟨rfl, hsz, hP, hK, hD0⟩ := hv
  have hx := B.exec
  have hb := B.bytes
  have hr := B.returns
  have hts := atoms_spec (ws := (jk yX8_inForce cX8_inForce 6 (some .int))) B.pre
  have hown : s.vm.findClass RX8 = some m.cls := findClass_of_methodNamed B.named
  have hlocks := B.notSynchronized
  subst hsz
  have hD := hD0
  generalize hAe : (va_A [] s.heap.size) = A
  have hA : ∀ q : Nat, s.heap.size ≤ q → A q := fun q h => by rw [← hAe]; exact Or.inr h
  have hS : va_S A s.heap s.heap [] := va_S.rf
  have hP : va_P (dC, dI) vwCl ((jS (xW ad ca) 18 (ad 18, .inr (6, [.ref (ad 11), .int w0, .int 0, .int 1, .int 0, .int 0])))) s.heap := hP
  have hl := lv_entry ([.ref (ad 11), .int 1, .int p2, .int 0]) (n := 6) (Nat.le_of_ble_eq_true rfl)
  rw [lg_entry_eq]
  generalize (lg_sl ([.ref (ad 11), .int 1, .int p2, .int 0]) ++ List.replicate (6 - (lg_sl ([.ref (ad 11), .int 1, .int p2, .int 0])).length) Slot.unset).toArray = ls at hl ⊢
  have hl : lv_has ls 6 [(0, .ref (ad 11)), (1, .int 1), (2, .int p2), (3, .int 0)] := hl
  refine lv_aload_n hx hb dX8_inForce_0 rfl (lv_at hl 0 rfl) ?_
  refine va_get (D := (dC, dI)) (ci := 8) (v := .int 0) (C := RX8) (T := TX8) (N := 8) hx hb hts (jh hin_RX8) hown hK hP 11 rfl rfl 5 (by decide) (hts (.fieldLink RX8 37 "BookOfAll$Rules" "puts" "I") (jm m_225)) (fun _ h9 => h9) rfl dX8_inForce_1 ?_
  refine lv_iconst (v := 1) hx hb dX8_inForce_4 (by decide) ?_
  refine lv_isub hx hb dX8_inForce_5 ?_
  refine jt_i (-1) (by decide) ?_
  refine lv_istore (lv' := [(4, .int (-1)), (0, .ref (ad 11)), (1, .int 1), (2, .int p2), (3, .int 0)]) hx hb dX8_inForce_6 hl (by decide) rfl (fun ls hl => ?_)
  refine lv_iload hx hb dX8_inForce_8 (lv_at hl 0 rfl) ?_
  refine lv_if_lt (tgt := 51) hx hb dX8_inForce_10 (by decide) (fun _ => ?_) (fun z => absurd (by decide) z)
  refine lv_iconst (v := (-1)) hx hb dX8_inForce_51 (by decide) ?_
  exact W.iret (v := (-1)) hx hb hr (fun t ht hW => ⟨⟨(-1), (), rfl, rfl, trivial⟩, hS.F ht⟩) hS.2.2 dX8_inForce_52
set_option maxHeartbeats 500000 in
set_option maxRecDepth 100000 in
theorem kX8_valueOf_40 (l : Launch) (dC : Nat → ClassId) (dI : Nat → Nat → Nat) (sz : Nat) (ad : Nat → Nat) (ca : Nat → ClassId) (w0 : Int32) (p2 : Int32) (tW : Nat) : Met l yX8_valueOf (jk yX8_valueOf cX8_valueOf 6 (some .int)) ({ frames := 1, cells := 0, slots := 0, locals := 25 }) (va_Pc [.ref (ad 11), .int 1, .int p2, .int 0] (jw_PZ (dC, dI) ((jS (xW ad ca) 18 (ad 18, .inr (6, [.ref (ad 11), .int w0, .int 0, .int 1, .int 0, .int 0])))) (xT ca) sz tW)) (va_Qi (fun (r : Int32) (_ : Unit) => (r = 1)) (fun _ t => va_P (dC, dI) vwCl ((jS (xW ad ca) 18 (ad 18, .inr (6, [.ref (ad 11), .int w0, .int 0, .int 1, .int 0, .int 0])))) t.heap ∧ va_K (dC, dI) vwCl (xT ca) t ∧ va_D (va_A ((jS (xW ad ca) 18 (ad 18, .inr (6, [.ref (ad 11), .int w0, .int 0, .int 1, .int 0, .int 0])))) sz) ((jS (xW ad ca) 18 (ad 18, .inr (6, [.ref (ad 11), .int w0, .int 0, .int 1, .int 0, .int 0]))))) (va_A ((jS (xW ad ca) 18 (ad 18, .inr (6, [.ref (ad 11), .int w0, .int 0, .int 1, .int 0, .int 0])))) sz)) 0 0 (va_A ((jS (xW ad ca) 18 (ad 18, .inr (6, [.ref (ad 11), .int w0, .int 0, .int 1, .int 0, .int 0])))) sz) := by
  refine Met.ofW (cc := cX8_valueOf) (maxL := 6) (ret := (some .int)) (by decide) rfl ?_
  intro p e s m args below meth c s₁ B hml hv
  obtain ⟨rfl, ⟨hsz, hP, hK, hD0⟩, hZ, hT⟩ := hv
  have hx := B.exec
  have hb := B.bytes
  have hr := B.returns
  have hts := atoms_spec (ws := (jk yX8_valueOf cX8_valueOf 6 (some .int))) B.pre
  have hown : s.vm.findClass RX8 = some m.cls := findClass_of_methodNamed B.named
  have hlocks := B.notSynchronized
  subst hsz
  have hD := hD0.self (sz := s.heap.size)
  generalize hAe : (va_A ((jS (xW ad ca) 18 (ad 18, .inr (6, [.ref (ad 11), .int w0, .int 0, .int 1, .int 0, .int 0])))) s.heap.size) = A at hD hZ hT ⊢
  have hA : ∀ q : Nat, s.heap.size ≤ q → A q := fun q h => by rw [← hAe]; exact Or.inr h
  have hS : va_S A s.heap s.heap [] := va_S.rf
  have hP : va_P (dC, dI) vwCl ((jS (xW ad ca) 18 (ad 18, .inr (6, [.ref (ad 11), .int w0, .int 0, .int 1, .int 0, .int 0])))) s.heap := hP
  have hl := lv_entry ([.ref (ad 11), .int 1, .int p2, .int 0]) (n := 6) (Nat.le_of_ble_eq_true rfl)
  rw [lg_entry_eq]
  generalize (lg_sl ([.ref (ad 11), .int 1, .int p2, .int 0]) ++ List.replicate (6 - (lg_sl ([.ref (ad 11), .int 1, .int p2, .int 0])).length) Slot.unset).toArray = ls at hl ⊢
  have hl : lv_has ls 6 [(0, .ref (ad 11)), (1, .int 1), (2, .int p2), (3, .int 0)] := hl
  refine lv_iload_n hx hb dX8_valueOf_0 rfl (lv_at hl 1 rfl) ?_
  refine lv_if_lt (tgt := 12) hx hb dX8_valueOf_1 (by decide) (fun z => absurd z (by decide)) (fun _ => ?_)
  refine lv_iload_n hx hb dX8_valueOf_4 rfl (lv_at hl 1 rfl) ?_
  refine va_gets hx hb hZ hS hown (hts (.fieldLink RX8 58 "BookOfAll$Rules" "WITHOUT" "[I") (jm m_246)) (fun _ h9 => h9) dX8_valueOf_5 ?_
  refine va_tlen (v := 14) hx hb hT hS (by decide) dX8_valueOf_8 ?_
  refine lv_icmp_lt (tgt := 14) hx hb dX8_valueOf_9 (by decide) (fun _ => ?_) (fun z => absurd (by decide) z)
  refine lv_aload_n hx hb dX8_valueOf_14 rfl (lv_at hl 0 rfl) ?_
  refine lv_iload_n hx hb dX8_valueOf_15 rfl (lv_at hl 1 rfl) ?_
  refine lv_iload_n hx hb dX8_valueOf_16 rfl (lv_at hl 2 rfl) ?_
  refine lv_iload_n hx hb dX8_valueOf_17 rfl (lv_at hl 3 rfl) ?_
  refine jc_i (va_runV (As := [.int 1, .int p2, .int 0]) (rest := []) ⟨hx, hb, hml, hown, hts⟩ (kX8_inForce_44 l dC dI _ ad ca w0 p2) (cwV 3 hts (jgoodV m_247 m_227 m_228 m_157 m_229) rfl rfl rfl (by decide +kernel) ⟨Nat.le_of_ble_eq_true rfl, Nat.le_of_ble_eq_true rfl⟩) ⟨jw_blind, va_recv hK hP (ci := 8) (q0 := 11) rfl rfl, fun U hU hW => ⟨rfl, jw_of hU hW hP hK hD⟩⟩ rfl rfl hl.1 rfl (lv_room (Nat.le_of_ble_eq_true rfl)) dX8_valueOf_18 ⟨Nat.le_of_ble_eq_true rfl, Nat.le_of_ble_eq_true rfl⟩) hP hS hA (fun r_1 H locs hw_1 hP hS => ?_)
  have hw_1 : (-1) = r_1 := Eq.symm hw_1
  subst hw_1
  refine lv_istore (lv' := [(4, .int (-1)), (0, .ref (ad 11)), (1, .int 1), (2, .int p2), (3, .int 0)]) hx hb dX8_valueOf_21 hl (by decide) rfl (fun ls hl => ?_)
  refine lv_iload hx hb dX8_valueOf_23 (lv_at hl 0 rfl) ?_
  refine lv_if_lt (tgt := 45) hx hb dX8_valueOf_25 (by decide) (fun _ => ?_) (fun z => absurd (by decide) z)
  refine lv_null hx hb dX8_valueOf_45 ?_
  refine lv_astoreN (lv' := [(5, .null), (4, .int (-1)), (0, .ref (ad 11)), (1, .int 1), (2, .int p2), (3, .int 0)]) hx hb dX8_valueOf_46 hl (by decide) rfl (fun ls hl => ?_)
  refine lv_aloadN hx hb dX8_valueOf_48 (lv_at hl 0 rfl) ?_
  refine lv_ifnonnullN hx hb dX8_valueOf_50 ?_
  refine va_gets hx hb hZ hS hown (hts (.fieldLink RX8 58 "BookOfAll$Rules" "WITHOUT" "[I") (jm m_246)) (fun _ h9 => h9) dX8_valueOf_53 ?_
  refine lv_iload_n hx hb dX8_valueOf_56 rfl (lv_at hl 3 rfl) ?_
  refine va_ti (v := .int 1) hx hb hT hS (vp_in_nI (n := 1) (by decide) (by decide)) rfl dX8_valueOf_57 ?_
  refine lv_goto (tgt := 68) hx hb dX8_valueOf_58 (by decide) ?_
  exact W.iret (v := 1) hx hb hr (fun t ht hW => ⟨⟨1, (), rfl, rfl, by rw [ht]; exact hP, va_K.moved hW.alike hK, hD⟩, hS.F ht⟩) hS.2.2 dX8_valueOf_68
set_option maxHeartbeats 500000 in
set_option maxRecDepth 100000 in
theorem kX8_inForce_46 (l : Launch) (dC : Nat → ClassId) (dI : Nat → Nat → Nat) (sz : Nat) (ad : Nat → Nat) (ca : Nat → ClassId) (w0 : Int32) (p2 : Int32) : Met l yX8_inForce (jk yX8_inForce cX8_inForce 6 (some .int)) ({ frames := 0, cells := 0, slots := 0, locals := 0 }) (va_Pc [.ref (ad 11), .int 0, .int p2, .int 0] (jw_P (dC, dI) ((jS (xW ad ca) 18 (ad 18, .inr (6, [.ref (ad 11), .int w0, .int 0, .int 1, .int 1, .int 0])))) (xT ca) sz)) (va_Qi (fun (r : Int32) (_ : Unit) => (r = (-1))) (fun _ _ => True) (va_A [] sz)) 0 0 (va_A [] sz) := by
  refine Met.ofW (cc := cX8_inForce) (maxL := 6) (ret := (some .int)) (by decide) rfl ?_
  intro p e s m args below meth c s₁ B hml hv
  obtain ⟨rfl, hsz, hP, hK, hD0⟩ := hv
  have hx := B.exec
  have hb := B.bytes
  have hr := B.returns
  have hts := atoms_spec (ws := (jk yX8_inForce cX8_inForce 6 (some .int))) B.pre
  have hown : s.vm.findClass RX8 = some m.cls := findClass_of_methodNamed B.named
  have hlocks := B.notSynchronized
  subst hsz
  have hD := hD0
  generalize hAe : (va_A [] s.heap.size) = A
  have hA : ∀ q : Nat, s.heap.size ≤ q → A q := fun q h => by rw [← hAe]; exact Or.inr h
  have hS : va_S A s.heap s.heap [] := va_S.rf
  have hP : va_P (dC, dI) vwCl ((jS (xW ad ca) 18 (ad 18, .inr (6, [.ref (ad 11), .int w0, .int 0, .int 1, .int 1, .int 0])))) s.heap := hP
  have hl := lv_entry ([.ref (ad 11), .int 0, .int p2, .int 0]) (n := 6) (Nat.le_of_ble_eq_true rfl)
  rw [lg_entry_eq]
  generalize (lg_sl ([.ref (ad 11), .int 0, .int p2, .int 0]) ++ List.replicate (6 - (lg_sl ([.ref (ad 11), .int 0, .int p2, .int 0])).length) Slot.unset).toArray = ls at hl ⊢
  have hl : lv_has ls 6 [(0, .ref (ad 11)), (1, .int 0), (2, .int p2), (3, .int 0)] := hl
  refine lv_aload_n hx hb dX8_inForce_0 rfl (lv_at hl 0 rfl) ?_
  refine va_get (D := (dC, dI)) (ci := 8) (v := .int 0) (C := RX8) (T := TX8) (N := 8) hx hb hts (jh hin_RX8) hown hK hP 11 rfl rfl 5 (by decide) (hts (.fieldLink RX8 37 "BookOfAll$Rules" "puts" "I") (jm m_225)) (fun _ h9 => h9) rfl dX8_inForce_1 ?_
  refine lv_iconst (v := 1) hx hb dX8_inForce_4 (by decide) ?_
  refine lv_isub hx hb dX8_inForce_5 ?_
  refine jt_i (-1) (by decide) ?_
  refine lv_istore (lv' := [(4, .int (-1)), (0, .ref (ad 11)), (1, .int 0), (2, .int p2), (3, .int 0)]) hx hb dX8_inForce_6 hl (by decide) rfl (fun ls hl => ?_)
  refine lv_iload hx hb dX8_inForce_8 (lv_at hl 0 rfl) ?_
  refine lv_if_lt (tgt := 51) hx hb dX8_inForce_10 (by decide) (fun _ => ?_) (fun z => absurd (by decide) z)
  refine lv_iconst (v := (-1)) hx hb dX8_inForce_51 (by decide) ?_
  exact W.iret (v := (-1)) hx hb hr (fun t ht hW => ⟨⟨(-1), (), rfl, rfl, trivial⟩, hS.F ht⟩) hS.2.2 dX8_inForce_52
set_option maxHeartbeats 500000 in
set_option maxRecDepth 100000 in
theorem kX8_valueOf_42 (l : Launch) (dC : Nat → ClassId) (dI : Nat → Nat → Nat) (sz : Nat) (ad : Nat → Nat) (ca : Nat → ClassId) (w0 : Int32) (p2 : Int32) (tW : Nat) : Met l yX8_valueOf (jk yX8_valueOf cX8_valueOf 6 (some .int)) ({ frames := 1, cells := 0, slots := 0, locals := 25 }) (va_Pc [.ref (ad 11), .int 0, .int p2, .int 0] (jw_PZ (dC, dI) ((jS (xW ad ca) 18 (ad 18, .inr (6, [.ref (ad 11), .int w0, .int 0, .int 1, .int 1, .int 0])))) (xT ca) sz tW)) (va_Qi (fun (r : Int32) (_ : Unit) => (r = 1)) (fun _ t => va_P (dC, dI) vwCl ((jS (xW ad ca) 18 (ad 18, .inr (6, [.ref (ad 11), .int w0, .int 0, .int 1, .int 1, .int 0])))) t.heap ∧ va_K (dC, dI) vwCl (xT ca) t ∧ va_D (va_A ((jS (xW ad ca) 18 (ad 18, .inr (6, [.ref (ad 11), .int w0, .int 0, .int 1, .int 1, .int 0])))) sz) ((jS (xW ad ca) 18 (ad 18, .inr (6, [.ref (ad 11), .int w0, .int 0, .int 1, .int 1, .int 0]))))) (va_A ((jS (xW ad ca) 18 (ad 18, .inr (6, [.ref (ad 11), .int w0, .int 0, .int 1, .int 1, .int 0])))) sz)) 0 0 (va_A ((jS (xW ad ca) 18 (ad 18, .inr (6, [.ref (ad 11), .int w0, .int 0, .int 1, .int 1, .int 0])))) sz) := by
  refine Met.ofW (cc := cX8_valueOf) (maxL := 6) (ret := (some .int)) (by decide) rfl ?_
  intro p e s m args below meth c s₁ B hml hv
  obtain ⟨rfl, ⟨hsz, hP, hK, hD0⟩, hZ, hT⟩ := hv
  have hx := B.exec
  have hb := B.bytes
  have hr := B.returns
  have hts := atoms_spec (ws := (jk yX8_valueOf cX8_valueOf 6 (some .int))) B.pre
  have hown : s.vm.findClass RX8 = some m.cls := findClass_of_methodNamed B.named
  have hlocks := B.notSynchronized
  subst hsz
  have hD := hD0.self (sz := s.heap.size)
  generalize hAe : (va_A ((jS (xW ad ca) 18 (ad 18, .inr (6, [.ref (ad 11), .int w0, .int 0, .int 1, .int 1, .int 0])))) s.heap.size) = A at hD hZ hT ⊢
  have hA : ∀ q : Nat, s.heap.size ≤ q → A q := fun q h => by rw [← hAe]; exact Or.inr h
  have hS : va_S A s.heap s.heap [] := va_S.rf
  have hP : va_P (dC, dI) vwCl ((jS (xW ad ca) 18 (ad 18, .inr (6, [.ref (ad 11), .int w0, .int 0, .int 1, .int 1, .int 0])))) s.heap := hP
  have hl := lv_entry ([.ref (ad 11), .int 0, .int p2, .int 0]) (n := 6) (Nat.le_of_ble_eq_true rfl)
  rw [lg_entry_eq]
  generalize (lg_sl ([.ref (ad 11), .int 0, .int p2, .int 0]) ++ List.replicate (6 - (lg_sl ([.ref (ad 11), .int 0, .int p2, .int 0])).length) Slot.unset).toArray = ls at hl ⊢
  have hl : lv_has ls 6 [(0, .ref (ad 11)), (1, .int 0), (2, .int p2), (3, .int 0)] := hl
  refine lv_iload_n hx hb dX8_valueOf_0 rfl (lv_at hl 1 rfl) ?_
  refine lv_if_lt (tgt := 12) hx hb dX8_valueOf_1 (by decide) (fun z => absurd z (by decide)) (fun _ => ?_)
  refine lv_iload_n hx hb dX8_valueOf_4 rfl (lv_at hl 1 rfl) ?_
  refine va_gets hx hb hZ hS hown (hts (.fieldLink RX8 58 "BookOfAll$Rules" "WITHOUT" "[I") (jm m_246)) (fun _ h9 => h9) dX8_valueOf_5 ?_
  refine va_tlen (v := 14) hx hb hT hS (by decide) dX8_valueOf_8 ?_
  refine lv_icmp_lt (tgt := 14) hx hb dX8_valueOf_9 (by decide) (fun _ => ?_) (fun z => absurd (by decide) z)
  refine lv_aload_n hx hb dX8_valueOf_14 rfl (lv_at hl 0 rfl) ?_
  refine lv_iload_n hx hb dX8_valueOf_15 rfl (lv_at hl 1 rfl) ?_
  refine lv_iload_n hx hb dX8_valueOf_16 rfl (lv_at hl 2 rfl) ?_
  refine lv_iload_n hx hb dX8_valueOf_17 rfl (lv_at hl 3 rfl) ?_
  refine jc_i (va_runV (As := [.int 0, .int p2, .int 0]) (rest := []) ⟨hx, hb, hml, hown, hts⟩ (kX8_inForce_46 l dC dI _ ad ca w0 p2) (cwV 3 hts (jgoodV m_247 m_227 m_228 m_157 m_229) rfl rfl rfl (by decide +kernel) ⟨Nat.le_of_ble_eq_true rfl, Nat.le_of_ble_eq_true rfl⟩) ⟨jw_blind, va_recv hK hP (ci := 8) (q0 := 11) rfl rfl, fun U hU hW => ⟨rfl, jw_of hU hW hP hK hD⟩⟩ rfl rfl hl.1 rfl (lv_room (Nat.le_of_ble_eq_true rfl)) dX8_valueOf_18 ⟨Nat.le_of_ble_eq_true rfl, Nat.le_of_ble_eq_true rfl⟩) hP hS hA (fun r_1 H locs hw_1 hP hS => ?_)
  have hw_1 : (-1) = r_1 := Eq.symm hw_1
  subst hw_1
  refine lv_istore (lv' := [(4, .int (-1)), (0, .ref (ad 11)), (1, .int 0), (2, .int p2), (3, .int 0)]) hx hb dX8_valueOf_21 hl (by decide) rfl (fun ls hl => ?_)
  refine lv_iload hx hb dX8_valueOf_23 (lv_at hl 0 rfl) ?_
  refine lv_if_lt (tgt := 45) hx hb dX8_valueOf_25 (by decide) (fun _ => ?_) (fun z => absurd (by decide) z)
  refine lv_null hx hb dX8_valueOf_45 ?_
  refine lv_astoreN (lv' := [(5, .null), (4, .int (-1)), (0, .ref (ad 11)), (1, .int 0), (2, .int p2), (3, .int 0)]) hx hb dX8_valueOf_46 hl (by decide) rfl (fun ls hl => ?_)
  refine lv_aloadN hx hb dX8_valueOf_48 (lv_at hl 0 rfl) ?_
  refine lv_ifnonnullN hx hb dX8_valueOf_50 ?_
  refine va_gets hx hb hZ hS hown (hts (.fieldLink RX8 58 "BookOfAll$Rules" "WITHOUT" "[I") (jm m_246)) (fun _ h9 => h9) dX8_valueOf_53 ?_
  refine lv_iload_n hx hb dX8_valueOf_56 rfl (lv_at hl 3 rfl) ?_
  refine va_ti (v := .int 1) hx hb hT hS (vp_in_nI (n := 0) (by decide) (by decide)) rfl dX8_valueOf_57 ?_
  refine lv_goto (tgt := 68) hx hb dX8_valueOf_58 (by decide) ?_
  exact W.iret (v := 1) hx hb hr (fun t ht hW => ⟨⟨1, (), rfl, rfl, by rw [ht]; exact hP, va_K.moved hW.alike hK, hD⟩, hS.F ht⟩) hS.2.2 dX8_valueOf_68
set_option maxHeartbeats 500000 in
set_option maxRecDepth 100000 in
theorem kX6_take_21 (l : Launch) (dC : Nat → ClassId) (dI : Nat → Nat → Nat) (sz : Nat) (ad : Nat → Nat) (ca : Nat → ClassId) (p1 : Int32) (tW : Nat) : Met l yX6_take (jk yX6_take cX6_take 3 none) ({ frames := 2, cells := 0, slots := 0, locals := 50 }) (va_Pc [.ref (ad 18), .int p1, .int 0] (jw_PZ (dC, dI) (xW ad ca) (xT ca) sz tW)) (va_Qv (fun (_ : Unit) => True) (fun _ t => va_P (dC, dI) vwCl ((jS (xW ad ca) 18 (ad 18, .inr (6, [.ref (ad 11), .int p1, .int 0, .int 1, .int 1, .int 1])))) t.heap ∧ va_K (dC, dI) vwCl (xT ca) t ∧ va_D (va_A (xW ad ca) sz) ((jS (xW ad ca) 18 (ad 18, .inr (6, [.ref (ad 11), .int p1, .int 0, .int 1, .int 1, .int 1]))))) (va_A (xW ad ca) sz)) 0 0 (va_A (xW ad ca) sz) := by
  refine Met.ofW (cc := cX6_take) (maxL := 3) (ret := none) (by decide) rfl ?_
  intro p e s m args below meth c s₁ B hml hv
  obtain ⟨rfl, ⟨hsz, hP, hK, hD0⟩, hZ, hT⟩ := hv
  have hx := B.exec
  have hb := B.bytes
  have hr := B.returns
  have hts := atoms_spec (ws := (jk yX6_take cX6_take 3 none)) B.pre
  have hown : s.vm.findClass RX6 = some m.cls := findClass_of_methodNamed B.named
  have hlocks := B.notSynchronized
  subst hsz
  have hD := hD0.self (sz := s.heap.size)
  generalize hAe : (va_A (xW ad ca) s.heap.size) = A at hD hZ hT ⊢
  have hA : ∀ q : Nat, s.heap.size ≤ q → A q := fun q h => by rw [← hAe]; exact Or.inr h
  have hS : va_S A s.heap s.heap [] := va_S.rf
  have hP : va_P (dC, dI) vwCl (xW ad ca) s.heap := hP
  have hl := lv_entry ([.ref (ad 18), .int p1, .int 0]) (n := 3) (Nat.le_of_ble_eq_true rfl)
  rw [lg_entry_eq]
  generalize (lg_sl ([.ref (ad 18), .int p1, .int 0]) ++ List.replicate (3 - (lg_sl ([.ref (ad 18), .int p1, .int 0])).length) Slot.unset).toArray = ls at hl ⊢
  have hl : lv_has ls 3 [(0, .ref (ad 18)), (1, .int p1), (2, .int 0)] := hl
  refine lv_aload_n hx hb dX6_take_0 rfl (lv_at hl 0 rfl) ?_
  refine lv_iload_n hx hb dX6_take_1 rfl (lv_at hl 1 rfl) ?_
  refine va_put (D := (dC, dI)) (ci := 6) (v := .int p1) (ty := .int) (C := RX6) (T := TX6) (N := 6) hx hb hts (jh hin_RX6) tyX6 tyX6_ok nmX6 hown hK hP hD hS 18 rfl rfl 1 (by decide) (hts (.fieldLink RX6 13 "BookOfAll$Order" "volume" "I") (jm m_242)) (fun _ h9 => h9) rfl (by decide +kernel) rfl rfl (Nat.le_of_ble_eq_true rfl) dX6_take_2 (fun H locs hP hD hS => ?_)
  refine lv_aload_n hx hb dX6_take_5 rfl (lv_at hl 0 rfl) ?_
  refine lv_iload_n hx hb dX6_take_6 rfl (lv_at hl 2 rfl) ?_
  refine va_put (D := (dC, dI)) (ci := 6) (v := .int 0) (ty := .int) (C := RX6) (T := TX6) (N := 6) hx hb hts (jh hin_RX6) tyX6 tyX6_ok nmX6 hown hK hP hD hS 18 rfl rfl 2 (by decide) (hts (.fieldLink RX6 17 "BookOfAll$Order" "day" "I") (jm m_243)) (fun _ h9 => h9) rfl (by decide +kernel) rfl rfl (Nat.le_of_ble_eq_true rfl) dX6_take_7 (fun H locs hP hD hS => ?_)
  refine lv_aload_n hx hb dX6_take_10 rfl (lv_at hl 0 rfl) ?_
  refine lv_iconst (v := 1) hx hb dX6_take_11 (by decide) ?_
  refine va_put (D := (dC, dI)) (ci := 6) (v := .int 1) (ty := .boolean) (C := RX6) (T := TX6) (N := 6) hx hb hts (jh hin_RX6) tyX6 tyX6_ok nmX6 hown hK hP hD hS 18 rfl rfl 3 (by decide) (hts (.fieldLink RX6 20 "BookOfAll$Order" "skips" "Z") (jm m_244)) (fun _ h9 => h9) rfl (by decide +kernel) rfl rfl (Nat.le_of_ble_eq_true rfl) dX6_take_12 (fun H locs hP hD hS => ?_)
  refine lv_aload_n hx hb dX6_take_15 rfl (lv_at hl 0 rfl) ?_
  refine lv_aload_n hx hb dX6_take_16 rfl (lv_at hl 0 rfl) ?_
  refine va_get (D := (dC, dI)) (ci := 6) (v := .ref (ad 11)) (C := RX6) (T := TX6) (N := 6) hx hb hts (jh hin_RX6) hown hK hP 18 rfl rfl 0 (by decide) (hts (.fieldLink RX6 7 "BookOfAll$Order" "rules" "LBookOfAll$Rules;") (jm m_245)) (fun _ h9 => h9) rfl dX6_take_17 ?_
  refine lv_iconst (v := 1) hx hb dX6_take_20 (by decide) ?_
  refine lv_iload_n hx hb dX6_take_21 rfl (lv_at hl 1 rfl) ?_
  refine lv_iload_n hx hb dX6_take_22 rfl (lv_at hl 2 rfl) ?_
  refine jcw_i (va_runV (As := [.int 1, .int p1, .int 0]) (rest := [.ref (ad 18)]) ⟨hx, hb, hml, hown, hts⟩ (kX8_valueOf_40 l dC dI _ ad ca p1 p1 tW) (cwV 3 hts (jgoodV m_248 m_249 m_250 m_157 m_251) rfl rfl rfl (by decide +kernel) ⟨Nat.le_of_ble_eq_true rfl, Nat.le_of_ble_eq_true rfl⟩) ⟨jw_blindZ, va_recv hK hP (ci := 8) (q0 := 11) rfl rfl, fun U hU hW => ⟨rfl, jw_of hU hW hP hK hD, jz_of hU hW hD hS hA hZ hT⟩⟩ rfl rfl hl.1 rfl (lv_room (Nat.le_of_ble_eq_true rfl)) dX6_take_23 ⟨Nat.le_of_ble_eq_true rfl, Nat.le_of_ble_eq_true rfl⟩) hD hS hA (fun r_1 H locs hw_1 hP hK hD hS => ?_)
  have hw_1 : 1 = r_1 := Eq.symm hw_1
  subst hw_1
  refine lv_if_eq (tgt := 33) hx hb dX6_take_26 (by decide) (fun z => absurd z (by decide)) (fun _ => ?_)
  refine lv_iconst (v := 1) hx hb dX6_take_29 (by decide) ?_
  refine lv_goto (tgt := 34) hx hb dX6_take_30 (by decide) ?_
  refine va_put (D := (dC, dI)) (ci := 6) (v := .int 1) (ty := .boolean) (C := RX6) (T := TX6) (N := 6) hx hb hts (jh hin_RX6) tyX6 tyX6_ok nmX6 hown hK hP hD hS 18 rfl rfl 4 (by decide) (hts (.fieldLink RX6 32 "BookOfAll$Order" "blanksCount" "Z") (jm m_252)) (fun _ h9 => h9) rfl (by decide +kernel) rfl rfl (Nat.le_of_ble_eq_true rfl) dX6_take_34 (fun H locs hP hD hS => ?_)
  refine lv_aload_n hx hb dX6_take_37 rfl (lv_at hl 0 rfl) ?_
  refine lv_aload_n hx hb dX6_take_38 rfl (lv_at hl 0 rfl) ?_
  refine va_get (D := (dC, dI)) (ci := 6) (v := .ref (ad 11)) (C := RX6) (T := TX6) (N := 6) hx hb hts (jh hin_RX6) hown hK hP 18 rfl rfl 0 (by decide) (hts (.fieldLink RX6 7 "BookOfAll$Order" "rules" "LBookOfAll$Rules;") (jm m_245)) (fun _ h9 => h9) rfl dX6_take_39 ?_
  refine lv_iconst (v := 0) hx hb dX6_take_42 (by decide) ?_
  refine lv_iload_n hx hb dX6_take_43 rfl (lv_at hl 1 rfl) ?_
  refine lv_iload_n hx hb dX6_take_44 rfl (lv_at hl 2 rfl) ?_
  refine jcw_i (va_runV (As := [.int 0, .int p1, .int 0]) (rest := [.ref (ad 18)]) ⟨hx, hb, hml, hown, hts⟩ (kX8_valueOf_42 l dC dI _ ad ca p1 p1 tW) (cwV 3 hts (jgoodV m_248 m_249 m_250 m_157 m_251) rfl rfl rfl (by decide +kernel) ⟨Nat.le_of_ble_eq_true rfl, Nat.le_of_ble_eq_true rfl⟩) ⟨jw_blindZ, va_recv hK hP (ci := 8) (q0 := 11) rfl rfl, fun U hU hW => ⟨rfl, jw_of hU hW hP hK hD, jz_of hU hW hD hS hA hZ hT⟩⟩ rfl rfl hl.1 rfl (lv_room (Nat.le_of_ble_eq_true rfl)) dX6_take_45 ⟨Nat.le_of_ble_eq_true rfl, Nat.le_of_ble_eq_true rfl⟩) hD hS hA (fun r_2 H locs hw_2 hP hK hD hS => ?_)
  have hw_2 : 1 = r_2 := Eq.symm hw_2
  subst hw_2
  refine lv_if_eq (tgt := 55) hx hb dX6_take_48 (by decide) (fun z => absurd z (by decide)) (fun _ => ?_)
  refine lv_iconst (v := 1) hx hb dX6_take_51 (by decide) ?_
  refine lv_goto (tgt := 56) hx hb dX6_take_52 (by decide) ?_
  refine va_put (D := (dC, dI)) (ci := 6) (v := .int 1) (ty := .boolean) (C := RX6) (T := TX6) (N := 6) hx hb hts (jh hin_RX6) tyX6 tyX6_ok nmX6 hown hK hP hD hS 18 rfl rfl 5 (by decide) (hts (.fieldLink RX6 35 "BookOfAll$Order" "numbersFirst" "Z") (jm m_253)) (fun _ h9 => h9) rfl (by decide +kernel) rfl rfl (Nat.le_of_ble_eq_true rfl) dX6_take_56 (fun H locs hP hD hS => ?_)
  exact W.vret hx hb hr (fun t ht hW => ⟨⟨(), rfl, trivial, by rw [ht]; exact hP, va_K.moved hW.alike hK, hD⟩, hS.F ht⟩) hS.2.2 dX6_take_59
set_option maxHeartbeats 500000 in
set_option maxRecDepth 100000 in
theorem kX12_arrange_15 (l : Launch) (dC : Nat → ClassId) (dI : Nat → Nat → Nat) (sz : Nat) (ad : Nat → Nat) (ca : Nat → ClassId) (p1 : Int32) (tW : Nat) : Met l yX12_arrange (jk yX12_arrange cX12_arrange 4 none) ({ frames := 3, cells := 0, slots := 0, locals := 72 }) (va_Pc [.ref (ad 0), .int p1] (jw_PZ (dC, dI) (xW ad ca) (xT ca) sz tW)) (va_Qv (fun (_ : Unit) => True) (fun _ t => va_P (dC, dI) vwCl ((jS (xW ad ca) 18 (ad 18, .inr (6, [.ref (ad 11), .int p1, .int 0, .int 1, .int 1, .int 1])))) t.heap ∧ va_K (dC, dI) vwCl (xT ca) t ∧ va_D (va_A (xW ad ca) sz) ((jS (xW ad ca) 18 (ad 18, .inr (6, [.ref (ad 11), .int p1, .int 0, .int 1, .int 1, .int 1]))))) (va_A (xW ad ca) sz)) 0 0 (va_A (xW ad ca) sz) := by
  refine Met.ofW (cc := cX12_arrange) (maxL := 4) (ret := none) (by decide) rfl ?_
  intro p e s m args below meth c s₁ B hml hv
  obtain ⟨rfl, ⟨hsz, hP, hK, hD0⟩, hZ, hT⟩ := hv
  have hx := B.exec
  have hb := B.bytes
  have hr := B.returns
  have hts := atoms_spec (ws := (jk yX12_arrange cX12_arrange 4 none)) B.pre
  have hown : s.vm.findClass RX12 = some m.cls := findClass_of_methodNamed B.named
  have hlocks := B.notSynchronized
  subst hsz
  have hD := hD0.self (sz := s.heap.size)
  generalize hAe : (va_A (xW ad ca) s.heap.size) = A at hD hZ hT ⊢
  have hA : ∀ q : Nat, s.heap.size ≤ q → A q := fun q h => by rw [← hAe]; exact Or.inr h
  have hS : va_S A s.heap s.heap [] := va_S.rf
  have hP : va_P (dC, dI) vwCl (xW ad ca) s.heap := hP
  have hl := lv_entry ([.ref (ad 0), .int p1]) (n := 4) (Nat.le_of_ble_eq_true rfl)
  rw [lg_entry_eq]
  generalize (lg_sl ([.ref (ad 0), .int p1]) ++ List.replicate (4 - (lg_sl ([.ref (ad 0), .int p1])).length) Slot.unset).toArray = ls at hl ⊢
  have hl : lv_has ls 4 [(0, .ref (ad 0)), (1, .int p1)] := hl
  refine lv_aload_n hx hb dX12_arrange_0 rfl (lv_at hl 0 rfl) ?_
  refine lv_iconst (v := 0) hx hb dX12_arrange_1 (by decide) ?_
  refine va_put (D := (dC, dI)) (ci := 12) (v := .int 0) (ty := .int) (C := RX12) (T := TX12) (N := 20) hx hb hts (jh hin_RX12) tyX12 tyX12_ok nmX12 hown hK hP hD hS 0 rfl rfl 9 (by decide) (hts (.fieldLink RX12 268 "BookOfAll" "rowSize" "I") (jm m_333)) (fun _ h9 => h9) rfl (by decide +kernel) rfl rfl (Nat.le_of_ble_eq_true rfl) dX12_arrange_2 (fun H locs hP hD hS => ?_)
  refine lv_aload_n hx hb dX12_arrange_5 rfl (lv_at hl 0 rfl) ?_
  refine va_get (D := (dC, dI)) (ci := 12) (v := .ref (ad 18)) (C := RX12) (T := TX12) (N := 20) hx hb hts (jh hin_RX12) hown hK hP 0 rfl rfl 4 (by decide) (hts (.fieldLink RX12 28 "BookOfAll" "order" "LBookOfAll$Order;") (jm m_241)) (fun _ h9 => h9) rfl dX12_arrange_6 ?_
  refine lv_iload_n hx hb dX12_arrange_9 rfl (lv_at hl 1 rfl) ?_
  refine lv_aload_n hx hb dX12_arrange_10 rfl (lv_at hl 0 rfl) ?_
  refine va_get (D := (dC, dI)) (ci := 12) (v := .int 0) (C := RX12) (T := TX12) (N := 20) hx hb hts (jh hin_RX12) hown hK hP 0 rfl rfl 0 (by decide) (hts (.fieldLink RX12 133 "BookOfAll" "now" "I") (jm m_217)) (fun _ h9 => h9) rfl dX12_arrange_11 ?_
  refine jcw_v (va_runV (As := [.int p1, .int 0]) (rest := []) ⟨hx, hb, hml, hown, hts⟩ (kX6_take_21 l dC dI _ ad ca p1 tW) (cwV 2 hts (jgoodV m_254 m_255 m_256 m_257 m_258) rfl rfl rfl (by decide +kernel) ⟨Nat.le_of_ble_eq_true rfl, Nat.le_of_ble_eq_true rfl⟩) ⟨jw_blindZ, va_recv hK hP (ci := 6) (q0 := 18) rfl rfl, fun U hU hW => ⟨rfl, jw_of hU hW hP hK hD, jz_of hU hW hD hS hA hZ hT⟩⟩ rfl rfl hl.1 rfl (lv_room (Nat.le_of_ble_eq_true rfl)) dX12_arrange_14 ⟨Nat.le_of_ble_eq_true rfl, Nat.le_of_ble_eq_true rfl⟩) hD hS hA (fun H locs hw_1 hP hK hD hS => ?_)
  refine lv_iconst (v := 0) hx hb dX12_arrange_17 (by decide) ?_
  refine lv_istore_n (lv' := [(2, .int 0), (0, .ref (ad 0)), (1, .int p1)]) hx hb dX12_arrange_18 rfl hl (by decide) rfl (fun ls hl => ?_)
  refine lv_iload_n hx hb dX12_arrange_19 rfl (lv_at hl 0 rfl) ?_
  refine lv_aload_n hx hb dX12_arrange_20 rfl (lv_at hl 1 rfl) ?_
  refine va_get (D := (dC, dI)) (ci := 12) (v := .int 0) (C := RX12) (T := TX12) (N := 20) hx hb hts (jh hin_RX12) hown hK hP 0 rfl rfl 7 (by decide) (hts (.fieldLink RX12 203 "BookOfAll" "entryCount" "I") (jm m_259)) (fun _ h9 => h9) rfl dX12_arrange_21 ?_
  refine lv_icmp_ge (tgt := 73) hx hb dX12_arrange_24 (by decide) (fun _ => ?_) (fun z => absurd (by decide) z)
  exact W.vret hx hb hr (fun t ht hW => ⟨⟨(), rfl, trivial, by rw [ht]; exact hP, va_K.moved hW.alike hK, hD⟩, hS.F ht⟩) hS.2.2 dX12_arrange_73
set_option maxHeartbeats 500000 in
set_option maxRecDepth 100000 in
theorem kX3_begin_8 (l : Launch) (dC : Nat → ClassId) (dI : Nat → Nat → Nat) (sz : Nat) (ad : Nat → Nat) (ca : Nat → ClassId) (w0 : Int32) : Met l yX3_begin (jk yX3_begin cX3_begin 1 none) ({ frames := 0, cells := 0, slots := 0, locals := 0 }) (va_Pc [.ref (ad 55)] (jw_P (dC, dI) ((jS (xW ad ca) 18 (ad 18, .inr (6, [.ref (ad 11), .int w0, .int 0, .int 1, .int 1, .int 1])))) (xT ca) sz)) (va_Qv (fun (_ : Unit) => True) (fun _ t => va_P (dC, dI) vwCl ((jS (xW ad ca) 18 (ad 18, .inr (6, [.ref (ad 11), .int w0, .int 0, .int 1, .int 1, .int 1])))) t.heap ∧ va_K (dC, dI) vwCl (xT ca) t ∧ va_D (va_A ((jS (xW ad ca) 18 (ad 18, .inr (6, [.ref (ad 11), .int w0, .int 0, .int 1, .int 1, .int 1])))) sz) ((jS (xW ad ca) 18 (ad 18, .inr (6, [.ref (ad 11), .int w0, .int 0, .int 1, .int 1, .int 1]))))) (va_A ((jS (xW ad ca) 18 (ad 18, .inr (6, [.ref (ad 11), .int w0, .int 0, .int 1, .int 1, .int 1])))) sz)) 0 0 (va_A ((jS (xW ad ca) 18 (ad 18, .inr (6, [.ref (ad 11), .int w0, .int 0, .int 1, .int 1, .int 1])))) sz) := by
  refine Met.ofW (cc := cX3_begin) (maxL := 1) (ret := none) (by decide) rfl ?_
  intro p e s m args below meth c s₁ B hml hv
  obtain ⟨rfl, hsz, hP, hK, hD0⟩ := hv
  have hx := B.exec
  have hb := B.bytes
  have hr := B.returns
  have hts := atoms_spec (ws := (jk yX3_begin cX3_begin 1 none)) B.pre
  have hown : s.vm.findClass RX3 = some m.cls := findClass_of_methodNamed B.named
  have hlocks := B.notSynchronized
  subst hsz
  have hD := hD0.self (sz := s.heap.size)
  generalize hAe : (va_A ((jS (xW ad ca) 18 (ad 18, .inr (6, [.ref (ad 11), .int w0, .int 0, .int 1, .int 1, .int 1])))) s.heap.size) = A at hD ⊢
  have hA : ∀ q : Nat, s.heap.size ≤ q → A q := fun q h => by rw [← hAe]; exact Or.inr h
  have hS : va_S A s.heap s.heap [] := va_S.rf
  have hP : va_P (dC, dI) vwCl ((jS (xW ad ca) 18 (ad 18, .inr (6, [.ref (ad 11), .int w0, .int 0, .int 1, .int 1, .int 1])))) s.heap := hP
  have hl := lv_entry ([.ref (ad 55)]) (n := 1) (Nat.le_of_ble_eq_true rfl)
  rw [lg_entry_eq]
  generalize (lg_sl ([.ref (ad 55)]) ++ List.replicate (1 - (lg_sl ([.ref (ad 55)])).length) Slot.unset).toArray = ls at hl ⊢
  have hl : lv_has ls 1 [(0, .ref (ad 55))] := hl
  refine lv_aload_n hx hb dX3_begin_0 rfl (lv_at hl 0 rfl) ?_
  refine lv_iconst (v := 0) hx hb dX3_begin_1 (by decide) ?_
  refine va_put (D := (dC, dI)) (ci := 3) (v := .int 0) (ty := .int) (C := RX3) (T := TX3) (N := 7) hx hb hts (jh hin_RX3) tyX3 tyX3_ok nmX3 hown hK hP hD hS 55 rfl rfl 5 (by decide) (hts (.fieldLink RX3 27 "BookOfAll$Lengths" "size" "I") (jm m_423)) (fun _ h9 => h9) rfl (by decide +kernel) rfl rfl (Nat.le_of_ble_eq_true rfl) dX3_begin_2 (fun H locs hP hD hS => ?_)
  refine lv_aload_n hx hb dX3_begin_5 rfl (lv_at hl 0 rfl) ?_
  refine lv_iconst (v := 0) hx hb dX3_begin_6 (by decide) ?_
  refine va_put (D := (dC, dI)) (ci := 3) (v := .int 0) (ty := .int) (C := RX3) (T := TX3) (N := 7) hx hb hts (jh hin_RX3) tyX3 tyX3_ok nmX3 hown hK hP hD hS 55 rfl rfl 6 (by decide) (hts (.fieldLink RX3 31 "BookOfAll$Lengths" "fixed" "I") (jm m_424)) (fun _ h9 => h9) rfl (by decide +kernel) rfl rfl (Nat.le_of_ble_eq_true rfl) dX3_begin_7 (fun H locs hP hD hS => ?_)
  exact W.vret hx hb hr (fun t ht hW => ⟨⟨(), rfl, trivial, by rw [ht]; exact hP, va_K.moved hW.alike hK, hD⟩, hS.F ht⟩) hS.2.2 dX3_begin_10
set_option maxHeartbeats 500000 in
set_option maxRecDepth 100000 in
theorem kX3_sumOf_20 (l : Launch) (dC : Nat → ClassId) (dI : Nat → Nat → Nat) (sz : Nat) (ad : Nat → Nat) (ca : Nat → ClassId) (w0 : Int32) : Met l yX3_sumOf (jk yX3_sumOf cX3_sumOf 4 (some .int)) ({ frames := 0, cells := 0, slots := 0, locals := 0 }) (va_Pc [.ref (ad 55), .ref (ad 58)] (jw_P (dC, dI) ((jS (xW ad ca) 18 (ad 18, .inr (6, [.ref (ad 11), .int w0, .int 0, .int 1, .int 1, .int 1])))) (xT ca) sz)) (va_Qi (fun (r : Int32) (_ : Unit) => (r = 0)) (fun _ _ => True) (va_A [] sz)) 0 0 (va_A [] sz) := by
  refine Met.ofW (cc := cX3_sumOf) (maxL := 4) (ret := (some .int)) (by decide) rfl ?_
  intro p e s m args below meth c s₁ B hml hv
  obtain ⟨rfl, hsz, hP, hK, hD0⟩ := hv
  have hx := B.exec
  have hb := B.bytes
  have hr := B.returns
  have hts := atoms_spec (ws := (jk yX3_sumOf cX3_sumOf 4 (some .int))) B.pre
  have hown : s.vm.findClass RX3 = some m.cls := findClass_of_methodNamed B.named
  have hlocks := B.notSynchronized
  subst hsz
  have hD := hD0
  generalize hAe : (va_A [] s.heap.size) = A
  have hA : ∀ q : Nat, s.heap.size ≤ q → A q := fun q h => by rw [← hAe]; exact Or.inr h
  have hS : va_S A s.heap s.heap [] := va_S.rf
  have hP : va_P (dC, dI) vwCl ((jS (xW ad ca) 18 (ad 18, .inr (6, [.ref (ad 11), .int w0, .int 0, .int 1, .int 1, .int 1])))) s.heap := hP
  have hl := lv_entry ([.ref (ad 55), .ref (ad 58)]) (n := 4) (Nat.le_of_ble_eq_true rfl)
  rw [lg_entry_eq]
  generalize (lg_sl ([.ref (ad 55), .ref (ad 58)]) ++ List.replicate (4 - (lg_sl ([.ref (ad 55), .ref (ad 58)])).length) Slot.unset).toArray = ls at hl ⊢
  have hl : lv_has ls 4 [(0, .ref (ad 55)), (1, .ref (ad 58))] := hl
  refine lv_iconst (v := 0) hx hb dX3_sumOf_0 (by decide) ?_
  refine lv_istore_n (lv' := [(2, .int 0), (0, .ref (ad 55)), (1, .ref (ad 58))]) hx hb dX3_sumOf_1 rfl hl (by decide) rfl (fun ls hl => ?_)
  refine lv_iconst (v := 0) hx hb dX3_sumOf_2 (by decide) ?_
  refine lv_istore_n (lv' := [(3, .int 0), (2, .int 0), (0, .ref (ad 55)), (1, .ref (ad 58))]) hx hb dX3_sumOf_3 rfl hl (by decide) rfl (fun ls hl => ?_)
  refine lv_iload_n hx hb dX3_sumOf_4 rfl (lv_at hl 0 rfl) ?_
  refine lv_aload_n hx hb dX3_sumOf_5 rfl (lv_at hl 2 rfl) ?_
  refine va_get (D := (dC, dI)) (ci := 3) (v := .int 0) (C := RX3) (T := TX3) (N := 7) hx hb hts (jh hin_RX3) hown hK hP 55 rfl rfl 5 (by decide) (hts (.fieldLink RX3 27 "BookOfAll$Lengths" "size" "I") (jm m_423)) (fun _ h9 => h9) rfl dX3_sumOf_6 ?_
  refine lv_icmp_ge (tgt := 30) hx hb dX3_sumOf_9 (by decide) (fun _ => ?_) (fun z => absurd (by decide) z)
  refine lv_iload_n hx hb dX3_sumOf_30 rfl (lv_at hl 1 rfl) ?_
  exact W.iret (v := 0) hx hb hr (fun t ht hW => ⟨⟨0, (), rfl, rfl, trivial⟩, hS.F ht⟩) hS.2.2 dX3_sumOf_31
