set_option maxHeartbeats 500000 in
set_option maxRecDepth 100000 in
theorem tX12_at_hi (l : Launch) (dC : Nat → ClassId) (dI : Nat → Nat → Nat) (sz : Nat) (ad : Nat → Nat) (ca : Nat → ClassId) (p1 : Int32) (p2 : Int32) (fl_p1 : 6 ≤ p1) : Met l yX12_at (jk yX12_at cX12_at 4 (some .int)) ({ frames := 2, cells := 0, slots := 0, locals := 42 }) (va_Pc [.ref (ad 0), .int p1, .int p2] (jw_P (dC, dI) (xW ad ca) (xT ca) sz)) (va_Qi (fun (r : Int32) (_ : Unit) => (r = (-1))) (fun _ _ => True) (va_A [] sz)) 0 0 (va_A [] sz) := by
  refine Met.ofW (cc := cX12_at) (maxL := 4) (ret := (some .int)) (by decide) rfl ?_
  intro p e s m args below meth c s₁ B hml hv
  obtain ⟨rfl, hsz, hP, hK, hD0⟩ := hv
  have hx := B.exec
  have hb := B.bytes
  have hr := B.returns
  have hts := atoms_spec (ws := (jk yX12_at cX12_at 4 (some .int))) B.pre
  have hown : s.vm.findClass RX12 = some m.cls := findClass_of_methodNamed B.named
  have hlocks := B.notSynchronized
  subst hsz
  have hD := hD0
  generalize hAe : (va_A [] s.heap.size) = A
  have hA : ∀ q : Nat, s.heap.size ≤ q → A q := fun q h => by rw [← hAe]; exact Or.inr h
  have hS : va_S A s.heap s.heap [] := va_S.rf
  have hP : va_P (dC, dI) vwCl (xW ad ca) s.heap := hP
  have hl := lv_entry ([.ref (ad 0), .int p1, .int p2]) (n := 4) (Nat.le_of_ble_eq_true rfl)
  rw [lg_entry_eq]
  generalize (lg_sl ([.ref (ad 0), .int p1, .int p2]) ++ List.replicate (4 - (lg_sl ([.ref (ad 0), .int p1, .int p2])).length) Slot.unset).toArray = ls at hl ⊢
  have hl : lv_has ls 4 [(0, .ref (ad 0)), (1, .int p1), (2, .int p2)] := hl
  refine lv_aload_n hx hb dX12_at_0 rfl (lv_at hl 0 rfl) ?_
  refine lv_iload_n hx hb dX12_at_1 rfl (lv_at hl 1 rfl) ?_
  refine jc_q (va_runV (As := [.int p1]) (rest := []) ⟨hx, hb, hml, hown, hts⟩ (kX12_volumeAt_25 l dC dI _ ad ca p1 fl_p1) (cwV 1 hts (jgoodV m_232 m_233 m_234 m_210 m_235) rfl rfl rfl (by decide +kernel) ⟨Nat.le_of_ble_eq_true rfl, Nat.le_of_ble_eq_true rfl⟩) ⟨jw_blind, va_recv hK hP (ci := 12) (q0 := 0) rfl rfl, fun U hU hW => ⟨rfl, jw_of hU hW hP hK hD⟩⟩ rfl rfl hl.1 rfl (lv_room (Nat.le_of_ble_eq_true rfl)) dX12_at_2 ⟨Nat.le_of_ble_eq_true rfl, Nat.le_of_ble_eq_true rfl⟩) hP hS hA (fun r_1 H locs hw_1 hP hS => ?_)
  have hw_1 : none = r_1 := Eq.symm hw_1
  subst hw_1
  refine jt_q Value.null rfl ?_
  refine lv_astore_nN (lv' := [(3, .null), (0, .ref (ad 0)), (1, .int p1), (2, .int p2)]) hx hb dX12_at_5 rfl hl (by decide) rfl (fun ls hl => ?_)
  refine lv_aload_nN hx hb dX12_at_6 rfl (lv_at hl 0 rfl) ?_
  refine lv_ifnullN (tgt := 14) hx hb dX12_at_7 (by decide) ?_
  refine lv_iconst (v := (-1)) hx hb dX12_at_14 (by decide) ?_
  exact W.iret (v := (-1)) hx hb hr (fun t ht hW => ⟨⟨(-1), (), rfl, rfl, trivial⟩, hS.F ht⟩) hS.2.2 dX12_at_15
set_option maxHeartbeats 500000 in
set_option maxRecDepth 100000 in
theorem tX12_why (l : Launch) (dC : Nat → ClassId) (dI : Nat → Nat → Nat) (sz : Nat) (ad : Nat → Nat) (ca : Nat → ClassId) (p1 : Int32) (p2 : Int32) : Met l yX12_why (jk yX12_why cX12_why 7 (some .int)) ({ frames := 1, cells := 0, slots := 0, locals := 21 }) (va_Pc [.ref (ad 0), .int p1, .int p2] (jw_P (dC, dI) (xW ad ca) (xT ca) sz)) (va_Qi (fun (r : Int32) (_ : Unit) => (r = (-1))) (fun _ _ => True) (va_A [] sz)) 0 0 (va_A [] sz) := by
  refine Met.ofW (cc := cX12_why) (maxL := 7) (ret := (some .int)) (by decide) rfl ?_
  intro p e s m args below meth c s₁ B hml hv
  obtain ⟨rfl, hsz, hP, hK, hD0⟩ := hv
  have hx := B.exec
  have hb := B.bytes
  have hr := B.returns
  have hts := atoms_spec (ws := (jk yX12_why cX12_why 7 (some .int))) B.pre
  have hown : s.vm.findClass RX12 = some m.cls := findClass_of_methodNamed B.named
  have hlocks := B.notSynchronized
  subst hsz
  have hD := hD0
  generalize hAe : (va_A [] s.heap.size) = A
  have hA : ∀ q : Nat, s.heap.size ≤ q → A q := fun q h => by rw [← hAe]; exact Or.inr h
  have hS : va_S A s.heap s.heap [] := va_S.rf
  have hP : va_P (dC, dI) vwCl (xW ad ca) s.heap := hP
  have hl := lv_entry ([.ref (ad 0), .int p1, .int p2]) (n := 7) (Nat.le_of_ble_eq_true rfl)
  rw [lg_entry_eq]
  generalize (lg_sl ([.ref (ad 0), .int p1, .int p2]) ++ List.replicate (7 - (lg_sl ([.ref (ad 0), .int p1, .int p2])).length) Slot.unset).toArray = ls at hl ⊢
  have hl : lv_has ls 7 [(0, .ref (ad 0)), (1, .int p1), (2, .int p2)] := hl
  refine lv_aload_n hx hb dX12_why_0 rfl (lv_at hl 0 rfl) ?_
  refine lv_iload_n hx hb dX12_why_1 rfl (lv_at hl 1 rfl) ?_
  refine jc_q (va_runV (As := [.int p1]) (rest := []) ⟨hx, hb, hml, hown, hts⟩ (kX12_entryAt_2 l dC dI _ ad ca p1) (cwV 1 hts (jgoodV m_316 m_317 m_318 m_210 m_319) rfl rfl rfl (by decide +kernel) ⟨Nat.le_of_ble_eq_true rfl, Nat.le_of_ble_eq_true rfl⟩) ⟨jw_blind, va_recv hK hP (ci := 12) (q0 := 0) rfl rfl, fun U hU hW => ⟨rfl, jw_of hU hW hP hK hD⟩⟩ rfl rfl hl.1 rfl (lv_room (Nat.le_of_ble_eq_true rfl)) dX12_why_2 ⟨Nat.le_of_ble_eq_true rfl, Nat.le_of_ble_eq_true rfl⟩) hP hS hA (fun r_1 H locs hw_1 hP hS => ?_)
  have hw_1 : none = r_1 := Eq.symm hw_1
  subst hw_1
  refine jt_q Value.null rfl ?_
  refine lv_astore_nN (lv' := [(3, .null), (0, .ref (ad 0)), (1, .int p1), (2, .int p2)]) hx hb dX12_why_5 rfl hl (by decide) rfl (fun ls hl => ?_)
  refine lv_aload_n hx hb dX12_why_6 rfl (lv_at hl 1 rfl) ?_
  refine lv_iload_n hx hb dX12_why_7 rfl (lv_at hl 3 rfl) ?_
  refine jc_q (va_runV (As := [.int p2]) (rest := []) ⟨hx, hb, hml, hown, hts⟩ (kX12_entryAt_2 l dC dI _ ad ca p2) (cwV 1 hts (jgoodV m_316 m_317 m_318 m_210 m_319) rfl rfl rfl (by decide +kernel) ⟨Nat.le_of_ble_eq_true rfl, Nat.le_of_ble_eq_true rfl⟩) ⟨jw_blind, va_recv hK hP (ci := 12) (q0 := 0) rfl rfl, fun U hU hW => ⟨rfl, jw_of hU hW hP hK hD⟩⟩ rfl rfl hl.1 rfl (lv_room (Nat.le_of_ble_eq_true rfl)) dX12_why_8 ⟨Nat.le_of_ble_eq_true rfl, Nat.le_of_ble_eq_true rfl⟩) hP hS hA (fun r_2 H locs hw_2 hP hS => ?_)
  have hw_2 : none = r_2 := Eq.symm hw_2
  subst hw_2
  refine jt_q Value.null rfl ?_
  refine lv_astoreN (lv' := [(4, .null), (3, .null), (0, .ref (ad 0)), (1, .int p1), (2, .int p2)]) hx hb dX12_why_11 hl (by decide) rfl (fun ls hl => ?_)
  refine lv_aload_nN hx hb dX12_why_13 rfl (lv_at hl 1 rfl) ?_
  refine lv_ifnullN (tgt := 27) hx hb dX12_why_14 (by decide) ?_
  refine lv_iconst (v := (-1)) hx hb dX12_why_27 (by decide) ?_
  exact W.iret (v := (-1)) hx hb hr (fun t ht hW => ⟨⟨(-1), (), rfl, rfl, trivial⟩, hS.F ht⟩) hS.2.2 dX12_why_28
set_option maxHeartbeats 500000 in
set_option maxRecDepth 100000 in
theorem iX2_init_1 (l : Launch) (dC : Nat → ClassId) (dI : Nat → Nat → Nat) (sz h0 : Nat) (p0 : Int32) (p1 : Int32) (p2 : Int32) : Met l yX2_init (jk yX2_init cX2_init 4 none) ({ frames := 1, cells := 0, slots := 0, locals := 40 }) (va_Pc [.ref h0, .int p0, .int p1, .int p2] (jw_P (dC, dI) [(h0, .inr (2, [.int 0, .int 0, .int 0, .int 0, .int 0, .int 0]))] [] sz)) (va_Qv (fun (_ : ((Nat → Nat) × (Nat → ClassId))) => True) (fun u t => va_P (dC, dI) vwCl [(h0, .inr (2, [.int p0, .int p1, .int p2, .int 1, .int 0, .int 0]))] t.heap ∧ va_K (dC, dI) vwCl [] t ∧ va_D (va_A [(h0, .inr (2, [.int 0, .int 0, .int 0, .int 0, .int 0, .int 0]))] sz) [(h0, .inr (2, [.int p0, .int p1, .int p2, .int 1, .int 0, .int 0]))]) (va_A [(h0, .inr (2, [.int 0, .int 0, .int 0, .int 0, .int 0, .int 0]))] sz)) 0 0 (va_A [(h0, .inr (2, [.int 0, .int 0, .int 0, .int 0, .int 0, .int 0]))] sz) := by
  refine Met.ofW (cc := cX2_init) (maxL := 4) (ret := none) (by decide) rfl ?_
  intro p e s m args below meth c s₁ B hml hv
  obtain ⟨rfl, hsz, hP, hK, hD0⟩ := hv
  have hx := B.exec
  have hb := B.bytes
  have hr := B.returns
  have hts := atoms_spec (ws := (jk yX2_init cX2_init 4 none)) B.pre
  have hown : s.vm.findClass RX2 = some m.cls := findClass_of_methodNamed B.named
  have hlocks := B.notSynchronized
  have hin : meth.name = "<init>" := (name_of_methodNamed B.named B.method).1
  subst hsz
  have hD := hD0.self (sz := s.heap.size)
  generalize hAe : (va_A [(h0, .inr (2, [.int 0, .int 0, .int 0, .int 0, .int 0, .int 0]))] s.heap.size) = A at hD ⊢
  have hA : ∀ q : Nat, s.heap.size ≤ q → A q := fun q h => by rw [← hAe]; exact Or.inr h
  have hS : va_S A s.heap s.heap [] := va_S.rf
  have hP : va_P (dC, dI) vwCl [(h0, .inr (2, [.int 0, .int 0, .int 0, .int 0, .int 0, .int 0]))] s.heap := hP
  have hl := lv_entry ([.ref h0, .int p0, .int p1, .int p2]) (n := 4) (Nat.le_of_ble_eq_true rfl)
  rw [lg_entry_eq]
  generalize (lg_sl ([.ref h0, .int p0, .int p1, .int p2]) ++ List.replicate (4 - (lg_sl ([.ref h0, .int p0, .int p1, .int p2])).length) Slot.unset).toArray = ls at hl ⊢
  have hl : lv_has ls 4 [(0, .ref h0), (1, .int p0), (2, .int p1), (3, .int p2)] := hl
  refine lv_aload_n hx hb dX2_init_0 rfl (lv_at hl 0 rfl) ?_
  refine W.objInit hx hb hown (hts (.methodLink RX2 1 objectInit) (jm m_344)) (hts (.instanceMethod objectInit) (jm m_163)) (hts (.code objectInit ⟨#[0xb1]⟩ 1 none) (jm m_164)) rfl (by rw [hml]; exact hl.1) rfl dX2_init_1 (Nat.le_of_ble_eq_true rfl) (Nat.le_of_ble_eq_true rfl) ?_
  refine W.eq (g2 := F0 m 4 ls []) rfl ?_
  refine lv_aload_n hx hb dX2_init_4 rfl (lv_at hl 0 rfl) ?_
  refine lv_iconst (v := 1) hx hb dX2_init_5 (by decide) ?_
  refine va_put (D := (dC, dI)) (ci := 2) (v := .int 1) (ty := .boolean) (C := RX2) (T := TX2) (N := 6) hx hb hts (jh hin_RX2) tyX2 tyX2_ok nmX2 hown hK hP hD hS 0 rfl rfl 3 (by decide) (hts (.fieldLink RX2 7 "BookOfAll$Hand" "lives" "Z") (jm m_345)) (fun _ h9 => h9) rfl (by decide +kernel) rfl rfl (Nat.le_of_ble_eq_true rfl) dX2_init_6 (fun H locs hP hD hS => ?_)
  refine lv_aload_n hx hb dX2_init_9 rfl (lv_at hl 0 rfl) ?_
  refine lv_iload_n hx hb dX2_init_10 rfl (lv_at hl 1 rfl) ?_
  refine va_putF (D := (dC, dI)) (ci := 2) (v := .int p0) (ty := .int) (C := RX2) (T := TX2) (N := 6) hx hb hts (jh hin_RX2) tyX2 tyX2_ok nmX2 hown hK hP hD hS 0 rfl rfl 0 (by decide) (hts (.fieldLink RX2 13 "BookOfAll$Hand" "fields" "I") (jm m_346)) (fun _ h9 => h9) rfl hin rfl (by decide +kernel) rfl rfl (Nat.le_of_ble_eq_true rfl) dX2_init_11 (fun H locs hP hD hS => ?_)
  refine lv_aload_n hx hb dX2_init_14 rfl (lv_at hl 0 rfl) ?_
  refine lv_iload_n hx hb dX2_init_15 rfl (lv_at hl 2 rfl) ?_
  refine va_putF (D := (dC, dI)) (ci := 2) (v := .int p1) (ty := .int) (C := RX2) (T := TX2) (N := 6) hx hb hts (jh hin_RX2) tyX2 tyX2_ok nmX2 hown hK hP hD hS 0 rfl rfl 1 (by decide) (hts (.fieldLink RX2 17 "BookOfAll$Hand" "skill" "I") (jm m_347)) (fun _ h9 => h9) rfl hin rfl (by decide +kernel) rfl rfl (Nat.le_of_ble_eq_true rfl) dX2_init_16 (fun H locs hP hD hS => ?_)
  refine lv_aload_n hx hb dX2_init_19 rfl (lv_at hl 0 rfl) ?_
  refine lv_iload_n hx hb dX2_init_20 rfl (lv_at hl 3 rfl) ?_
  refine va_putF (D := (dC, dI)) (ci := 2) (v := .int p2) (ty := .int) (C := RX2) (T := TX2) (N := 6) hx hb hts (jh hin_RX2) tyX2 tyX2_ok nmX2 hown hK hP hD hS 0 rfl rfl 2 (by decide) (hts (.fieldLink RX2 20 "BookOfAll$Hand" "born" "I") (jm m_348)) (fun _ h9 => h9) rfl hin rfl (by decide +kernel) rfl rfl (Nat.le_of_ble_eq_true rfl) dX2_init_21 (fun H locs hP hD hS => ?_)
  exact W.vret hx hb hr (fun t ht hW => ⟨⟨(fun k => [0].getD k 0, fun k => [dC 0].getD k (dC 0)), rfl, trivial, by rw [ht]; exact hP, va_K.moved hW.alike hK, hD⟩, hS.F ht⟩) hS.2.2 dX2_init_24
theorem s_tX12_hand_0 {p1 p2 p3 : Int32} (c_1 : p1 < 1) : (-1) = sp_hand p1 p2 p3 := by
  unfold sp_hand
  have g0 : p1.toInt < 1 := ji_lt.mp c_1
  split <;> first | rfl | (exfalso; omega)
theorem s_tX12_hand_1 {p1 p2 p3 : Int32} (c_1 : ¬ (p1 < 1)) (c_2 : 255 < p1) : (-1) = sp_hand p1 p2 p3 := by
  unfold sp_hand
  have g0 : ¬ (p1.toInt < 1) := fun z => c_1 (ji_lt.mpr z)
  have g1 : 255 < p1.toInt := ji_lt.mp c_2
  split <;> first | rfl | (exfalso; omega)
theorem s_tX12_hand_2 {p1 p2 p3 : Int32} (c_1 : ¬ (p1 < 1)) (c_2 : ¬ (255 < p1)) (c_3 : p2 < 1) : (-1) = sp_hand p1 p2 p3 := by
  unfold sp_hand
  have g0 : ¬ (p1.toInt < 1) := fun z => c_1 (ji_lt.mpr z)
  have g1 : ¬ (255 < p1.toInt) := fun z => c_2 (ji_lt.mpr z)
  have g2 : p2.toInt < 1 := ji_lt.mp c_3
  split <;> first | rfl | (exfalso; omega)
theorem s_tX12_hand_3 {p1 p2 p3 : Int32} (c_1 : ¬ (p1 < 1)) (c_2 : ¬ (255 < p1)) (c_3 : ¬ (p2 < 1)) (c_4 : 20 < p2) : (-1) = sp_hand p1 p2 p3 := by
  unfold sp_hand
  have g0 : ¬ (p1.toInt < 1) := fun z => c_1 (ji_lt.mpr z)
  have g1 : ¬ (255 < p1.toInt) := fun z => c_2 (ji_lt.mpr z)
  have g2 : ¬ (p2.toInt < 1) := fun z => c_3 (ji_lt.mpr z)
  have g3 : 20 < p2.toInt := ji_lt.mp c_4
  split <;> first | rfl | (exfalso; omega)
theorem s_tX12_hand_4 {p1 p2 p3 : Int32} (c_1 : ¬ (p1 < 1)) (c_2 : ¬ (255 < p1)) (c_3 : ¬ (p2 < 1)) (c_4 : ¬ (20 < p2)) (c_5 : p3 < (-40000)) : (-1) = sp_hand p1 p2 p3 := by
  unfold sp_hand
  have g0 : ¬ (p1.toInt < 1) := fun z => c_1 (ji_lt.mpr z)
  have g1 : ¬ (255 < p1.toInt) := fun z => c_2 (ji_lt.mpr z)
  have g2 : ¬ (p2.toInt < 1) := fun z => c_3 (ji_lt.mpr z)
  have g3 : ¬ (20 < p2.toInt) := fun z => c_4 (ji_lt.mpr z)
  have g4 : p3.toInt < (-40000) := ji_lt.mp c_5
  split <;> first | rfl | (exfalso; omega)
theorem s_tX12_hand_5 {p1 p2 p3 : Int32} (c_1 : ¬ (p1 < 1)) (c_2 : ¬ (255 < p1)) (c_3 : ¬ (p2 < 1)) (c_4 : ¬ (20 < p2)) (c_5 : ¬ (p3 < (-40000))) (c_6 : 0 < p3) : (-1) = sp_hand p1 p2 p3 := by
  unfold sp_hand
  have g0 : ¬ (p1.toInt < 1) := fun z => c_1 (ji_lt.mpr z)
  have g1 : ¬ (255 < p1.toInt) := fun z => c_2 (ji_lt.mpr z)
  have g2 : ¬ (p2.toInt < 1) := fun z => c_3 (ji_lt.mpr z)
  have g3 : ¬ (20 < p2.toInt) := fun z => c_4 (ji_lt.mpr z)
  have g4 : ¬ (p3.toInt < (-40000)) := fun z => c_5 (ji_lt.mpr z)
  have g5 : 0 < p3.toInt := ji_lt.mp c_6
  split <;> first | rfl | (exfalso; omega)
theorem s_tX12_hand_6 {p1 p2 p3 : Int32} (c_1 : ¬ (p1 < 1)) (c_2 : ¬ (255 < p1)) (c_3 : ¬ (p2 < 1)) (c_4 : ¬ (20 < p2)) (c_5 : ¬ (p3 < (-40000))) (c_6 : ¬ (0 < p3)) : 0 = sp_hand p1 p2 p3 := by
  unfold sp_hand
  have g0 : ¬ (p1.toInt < 1) := fun z => c_1 (ji_lt.mpr z)
  have g1 : ¬ (255 < p1.toInt) := fun z => c_2 (ji_lt.mpr z)
  have g2 : ¬ (p2.toInt < 1) := fun z => c_3 (ji_lt.mpr z)
  have g3 : ¬ (20 < p2.toInt) := fun z => c_4 (ji_lt.mpr z)
  have g4 : ¬ (p3.toInt < (-40000)) := fun z => c_5 (ji_lt.mpr z)
  have g5 : ¬ (0 < p3.toInt) := fun z => c_6 (ji_lt.mpr z)
  split <;> first | rfl | (exfalso; omega)
set_option maxHeartbeats 1000000 in
set_option maxRecDepth 100000 in
theorem tX12_hand (l : Launch) (dC : Nat → ClassId) (dI : Nat → Nat → Nat) (sz : Nat) (ad : Nat → Nat) (ca : Nat → ClassId) (p1 : Int32) (p2 : Int32) (p3 : Int32) : Met l yX12_hand (jk yX12_hand cX12_hand 5 (some .int)) ({ frames := 2, cells := 1, slots := 6, locals := 63 }) (va_Pc [.ref (ad 0), .int p1, .int p2, .int p3] (jw_P (dC, dI) (xW ad ca) (xT ca) sz)) (va_Qi (fun (r : Int32) (_ : Unit) => r = sp_hand p1 p2 p3) (fun _ _ => True) (va_A (xW ad ca) sz)) 1 6 (va_A (xW ad ca) sz) := by
  refine Met.ofW (cc := cX12_hand) (maxL := 5) (ret := (some .int)) (by decide) rfl ?_
  intro p e s m args below meth c s₁ B hml hv
  obtain ⟨rfl, hsz, hP, hK, hD0⟩ := hv
  have hx := B.exec
  have hb := B.bytes
  have hr := B.returns
  have hts := atoms_spec (ws := (jk yX12_hand cX12_hand 5 (some .int))) B.pre
  have hown : s.vm.findClass RX12 = some m.cls := findClass_of_methodNamed B.named
  have hlocks := B.notSynchronized
  subst hsz
  have hD := hD0.self (sz := s.heap.size)
  generalize hAe : (va_A (xW ad ca) s.heap.size) = A at hD ⊢
  have hA : ∀ q : Nat, s.heap.size ≤ q → A q := fun q h => by rw [← hAe]; exact Or.inr h
  have hS : va_S A s.heap s.heap [] := va_S.rf
  have hP : va_P (dC, dI) vwCl (xW ad ca) s.heap := hP
  have hl := lv_entry ([.ref (ad 0), .int p1, .int p2, .int p3]) (n := 5) (Nat.le_of_ble_eq_true rfl)
  rw [lg_entry_eq]
  generalize (lg_sl ([.ref (ad 0), .int p1, .int p2, .int p3]) ++ List.replicate (5 - (lg_sl ([.ref (ad 0), .int p1, .int p2, .int p3])).length) Slot.unset).toArray = ls at hl ⊢
  have hl : lv_has ls 5 [(0, .ref (ad 0)), (1, .int p1), (2, .int p2), (3, .int p3)] := hl
  refine lv_iload_n hx hb dX12_hand_0 rfl (lv_at hl 1 rfl) ?_
  refine lv_iconst (v := 1) hx hb dX12_hand_1 (by decide) ?_
  refine lv_icmp_lt (tgt := 38) hx hb dX12_hand_2 (by decide) (fun c_1 => ?_) (fun c_1 => ?_)
  · refine lv_iconst (v := 0) hx hb dX12_hand_38 (by decide) ?_
    refine lv_istore (lv' := [(4, .int 0), (0, .ref (ad 0)), (1, .int p1), (2, .int p2), (3, .int p3)]) hx hb dX12_hand_39 hl (by decide) rfl (fun ls hl => ?_)
    refine lv_iload hx hb dX12_hand_41 (lv_at hl 0 rfl) ?_
    refine lv_if_eq (tgt := 55) hx hb dX12_hand_43 (by decide) (fun _ => ?_) (fun z => absurd (by decide) z)
    refine lv_iconst (v := (-1)) hx hb dX12_hand_55 (by decide) ?_
    refine W.widen (k := 1) (n := 6) (Nat.le_of_ble_eq_true rfl) (Nat.le_of_ble_eq_true rfl) ?_
    exact W.iret (v := (-1)) hx hb hr (fun t ht hW => ⟨⟨(-1), (), rfl, (s_tX12_hand_0 (p1 := p1) (p2 := p2) (p3 := p3) c_1), trivial⟩, hS.F ht⟩) hS.2.2 dX12_hand_56
  · refine lv_iload_n hx hb dX12_hand_5 rfl (lv_at hl 1 rfl) ?_
    refine lv_sipush (v := 255) hx hb dX12_hand_6 (by decide) ?_
    refine lv_icmp_gt (tgt := 38) hx hb dX12_hand_9 (by decide) (fun c_2 => ?_) (fun c_2 => ?_)
    · refine lv_iconst (v := 0) hx hb dX12_hand_38 (by decide) ?_
      refine lv_istore (lv' := [(4, .int 0), (0, .ref (ad 0)), (1, .int p1), (2, .int p2), (3, .int p3)]) hx hb dX12_hand_39 hl (by decide) rfl (fun ls hl => ?_)
      refine lv_iload hx hb dX12_hand_41 (lv_at hl 0 rfl) ?_
      refine lv_if_eq (tgt := 55) hx hb dX12_hand_43 (by decide) (fun _ => ?_) (fun z => absurd (by decide) z)
      refine lv_iconst (v := (-1)) hx hb dX12_hand_55 (by decide) ?_
      refine W.widen (k := 1) (n := 6) (Nat.le_of_ble_eq_true rfl) (Nat.le_of_ble_eq_true rfl) ?_
      exact W.iret (v := (-1)) hx hb hr (fun t ht hW => ⟨⟨(-1), (), rfl, (s_tX12_hand_1 (p1 := p1) (p2 := p2) (p3 := p3) c_1 c_2), trivial⟩, hS.F ht⟩) hS.2.2 dX12_hand_56
    · refine lv_iload_n hx hb dX12_hand_12 rfl (lv_at hl 2 rfl) ?_
      refine lv_iconst (v := 1) hx hb dX12_hand_13 (by decide) ?_
      refine lv_icmp_lt (tgt := 38) hx hb dX12_hand_14 (by decide) (fun c_3 => ?_) (fun c_3 => ?_)
      · refine lv_iconst (v := 0) hx hb dX12_hand_38 (by decide) ?_
        refine lv_istore (lv' := [(4, .int 0), (0, .ref (ad 0)), (1, .int p1), (2, .int p2), (3, .int p3)]) hx hb dX12_hand_39 hl (by decide) rfl (fun ls hl => ?_)
        refine lv_iload hx hb dX12_hand_41 (lv_at hl 0 rfl) ?_
        refine lv_if_eq (tgt := 55) hx hb dX12_hand_43 (by decide) (fun _ => ?_) (fun z => absurd (by decide) z)
        refine lv_iconst (v := (-1)) hx hb dX12_hand_55 (by decide) ?_
        refine W.widen (k := 1) (n := 6) (Nat.le_of_ble_eq_true rfl) (Nat.le_of_ble_eq_true rfl) ?_
        exact W.iret (v := (-1)) hx hb hr (fun t ht hW => ⟨⟨(-1), (), rfl, (s_tX12_hand_2 (p1 := p1) (p2 := p2) (p3 := p3) c_1 c_2 c_3), trivial⟩, hS.F ht⟩) hS.2.2 dX12_hand_56
      · refine lv_iload_n hx hb dX12_hand_17 rfl (lv_at hl 2 rfl) ?_
        refine lv_bipush (v := 20) hx hb dX12_hand_18 (by decide) ?_
        refine lv_icmp_gt (tgt := 38) hx hb dX12_hand_20 (by decide) (fun c_4 => ?_) (fun c_4 => ?_)
        · refine lv_iconst (v := 0) hx hb dX12_hand_38 (by decide) ?_
          refine lv_istore (lv' := [(4, .int 0), (0, .ref (ad 0)), (1, .int p1), (2, .int p2), (3, .int p3)]) hx hb dX12_hand_39 hl (by decide) rfl (fun ls hl => ?_)
          refine lv_iload hx hb dX12_hand_41 (lv_at hl 0 rfl) ?_
          refine lv_if_eq (tgt := 55) hx hb dX12_hand_43 (by decide) (fun _ => ?_) (fun z => absurd (by decide) z)
          refine lv_iconst (v := (-1)) hx hb dX12_hand_55 (by decide) ?_
          refine W.widen (k := 1) (n := 6) (Nat.le_of_ble_eq_true rfl) (Nat.le_of_ble_eq_true rfl) ?_
          exact W.iret (v := (-1)) hx hb hr (fun t ht hW => ⟨⟨(-1), (), rfl, (s_tX12_hand_3 (p1 := p1) (p2 := p2) (p3 := p3) c_1 c_2 c_3 c_4), trivial⟩, hS.F ht⟩) hS.2.2 dX12_hand_56
        · refine lv_iload_n hx hb dX12_hand_23 rfl (lv_at hl 3 rfl) ?_
          refine lv_ldcw hx hb hown (hts (.constant RX12 291 (-40000)) (jm m_338)) dX12_hand_24 ?_
          refine lv_icmp_lt (tgt := 38) hx hb dX12_hand_27 (by decide) (fun c_5 => ?_) (fun c_5 => ?_)
          · refine lv_iconst (v := 0) hx hb dX12_hand_38 (by decide) ?_
            refine lv_istore (lv' := [(4, .int 0), (0, .ref (ad 0)), (1, .int p1), (2, .int p2), (3, .int p3)]) hx hb dX12_hand_39 hl (by decide) rfl (fun ls hl => ?_)
            refine lv_iload hx hb dX12_hand_41 (lv_at hl 0 rfl) ?_
            refine lv_if_eq (tgt := 55) hx hb dX12_hand_43 (by decide) (fun _ => ?_) (fun z => absurd (by decide) z)
            refine lv_iconst (v := (-1)) hx hb dX12_hand_55 (by decide) ?_
            refine W.widen (k := 1) (n := 6) (Nat.le_of_ble_eq_true rfl) (Nat.le_of_ble_eq_true rfl) ?_
            exact W.iret (v := (-1)) hx hb hr (fun t ht hW => ⟨⟨(-1), (), rfl, (s_tX12_hand_4 (p1 := p1) (p2 := p2) (p3 := p3) c_1 c_2 c_3 c_4 c_5), trivial⟩, hS.F ht⟩) hS.2.2 dX12_hand_56
          · refine lv_iload_n hx hb dX12_hand_30 rfl (lv_at hl 3 rfl) ?_
            refine lv_if_gt (tgt := 38) hx hb dX12_hand_31 (by decide) (fun c_6 => ?_) (fun c_6 => ?_)
            · refine lv_iconst (v := 0) hx hb dX12_hand_38 (by decide) ?_
              refine lv_istore (lv' := [(4, .int 0), (0, .ref (ad 0)), (1, .int p1), (2, .int p2), (3, .int p3)]) hx hb dX12_hand_39 hl (by decide) rfl (fun ls hl => ?_)
              refine lv_iload hx hb dX12_hand_41 (lv_at hl 0 rfl) ?_
              refine lv_if_eq (tgt := 55) hx hb dX12_hand_43 (by decide) (fun _ => ?_) (fun z => absurd (by decide) z)
              refine lv_iconst (v := (-1)) hx hb dX12_hand_55 (by decide) ?_
              refine W.widen (k := 1) (n := 6) (Nat.le_of_ble_eq_true rfl) (Nat.le_of_ble_eq_true rfl) ?_
              exact W.iret (v := (-1)) hx hb hr (fun t ht hW => ⟨⟨(-1), (), rfl, (s_tX12_hand_5 (p1 := p1) (p2 := p2) (p3 := p3) c_1 c_2 c_3 c_4 c_5 c_6), trivial⟩, hS.F ht⟩) hS.2.2 dX12_hand_56
            · refine lv_iconst (v := 1) hx hb dX12_hand_34 (by decide) ?_
              refine lv_goto (tgt := 39) hx hb dX12_hand_35 (by decide) ?_
              refine lv_istore (lv' := [(4, .int 1), (0, .ref (ad 0)), (1, .int p1), (2, .int p2), (3, .int p3)]) hx hb dX12_hand_39 hl (by decide) rfl (fun ls hl => ?_)
              refine lv_iload hx hb dX12_hand_41 (lv_at hl 0 rfl) ?_
              refine lv_if_eq (tgt := 55) hx hb dX12_hand_43 (by decide) (fun z => absurd z (by decide)) (fun _ => ?_)
              refine lv_aload_n hx hb dX12_hand_46 rfl (lv_at hl 1 rfl) ?_
              refine va_get (D := (dC, dI)) (ci := 12) (v := .int 0) (C := RX12) (T := TX12) (N := 20) hx hb hts (jh hin_RX12) hown hK hP 0 rfl rfl 11 (by decide) (hts (.fieldLink RX12 292 "BookOfAll" "handCount" "I") (jm m_339)) (fun _ h9 => h9) rfl dX12_hand_47 ?_
              refine lv_bipush (v := 12) hx hb dX12_hand_50 (by decide) ?_
              refine lv_icmp_lt (tgt := 57) hx hb dX12_hand_52 (by decide) (fun _ => ?_) (fun z => absurd (by decide) z)
              refine lv_aload_n hx hb dX12_hand_57 rfl (lv_at hl 1 rfl) ?_
              refine va_get (D := (dC, dI)) (ci := 12) (v := .ref (ad 40)) (C := RX12) (T := TX12) (N := 20) hx hb hts (jh hin_RX12) hown hK hP 0 rfl rfl 10 (by decide) (hts (.fieldLink RX12 53 "BookOfAll" "hands" "[LBookOfAll$Hand;") (jm m_340)) (fun _ h9 => h9) rfl dX12_hand_58 ?_
              refine lv_aload_n hx hb dX12_hand_61 rfl (lv_at hl 1 rfl) ?_
              refine va_get (D := (dC, dI)) (ci := 12) (v := .int 0) (C := RX12) (T := TX12) (N := 20) hx hb hts (jh hin_RX12) hown hK hP 0 rfl rfl 11 (by decide) (hts (.fieldLink RX12 292 "BookOfAll" "handCount" "I") (jm m_339)) (fun _ h9 => h9) rfl dX12_hand_62 ?_
              refine va_new (ci := 2) (fs := [.int 0, .int 0, .int 0, .int 0, .int 0, .int 0]) (C := RX2) (T := TX2) (N := 6) hx hb hts (jh hin_RX2) tyX2 tyX2_ok hown (hts (.classLink RX12 51 RX2) (jm m_341)) (hts (.instantiable RX2 6) (jm m_342)) (hts (.initialized RX2) (jm m_343)) hK hP hD hS hA rfl jd_RX2 (Nat.le_of_ble_eq_true rfl) (Nat.le_of_ble_eq_true rfl) dX12_hand_65 (fun q1 H hP hD hS => ?_)
              refine W.widen (k := 1) (n := 6) (Nat.le_of_ble_eq_true rfl) (Nat.le_of_ble_eq_true rfl) ?_
              refine lv_dup hx hb dX12_hand_68 rfl ?_
              refine lv_iload_n hx hb dX12_hand_69 rfl (lv_at hl 2 rfl) ?_
              refine lv_iload_n hx hb dX12_hand_70 rfl (lv_at hl 3 rfl) ?_
              refine lv_iload_n hx hb dX12_hand_71 rfl (lv_at hl 4 rfl) ?_
              refine jci_v (va_runI (As := [.int p1, .int p2, .int p3]) (rest := [.ref q1, .int 0, .ref (ad 40)]) ⟨hx, hb, hml, hown, hts⟩ (iX2_init_1 l dC dI _ (q1) p1 p2 p3) (cwI 3 hts (jgoodI m_349) rfl rfl rfl (hts (.initialized RX2) (jm m_343)) (hts (.methodLink RX12 295 yX2_init) (jm m_350)) (hts (.instanceMethod yX2_init) (jm m_351)) rfl (by decide +kernel) ⟨(Nat.le_of_ble_eq_true rfl), (Nat.le_of_ble_eq_true rfl)⟩) ⟨jw_blind, fun U hU hW => ⟨rfl, jw_of hU hW (jp_last hP) (hK.sub [] rfl) (jd_last hD)⟩⟩ rfl rfl hl.1 rfl (lv_room (Nat.le_of_ble_eq_true rfl)) dX12_hand_72 ⟨(Nat.le_of_ble_eq_true rfl), (Nat.le_of_ble_eq_true rfl)⟩) hP hD hS hA (fun u_7 H locs hP hK2 hD hS => ?_)
              have hK := hK.app hK2
              refine W.widen (k := 1) (n := 6) (Nat.le_of_ble_eq_true rfl) (Nat.le_of_ble_eq_true rfl) ?_
              refine va_astq hx hb hK hP hD hS 40 30 73 2 (jg_l rfl) rfl (jg_r (n := 73) (i := 0) rfl rfl rfl) rfl (vp_in_nI (n := 0) (by decide) (by decide)) dX12_hand_75 (fun H locs hP hD hS => ?_)
              refine lv_aload_n hx hb dX12_hand_76 rfl (lv_at hl 1 rfl) ?_
              refine lv_dup hx hb dX12_hand_77 rfl ?_
              refine va_get (D := (dC, dI)) (ci := 12) (v := .int 0) (C := RX12) (T := TX12) (N := 20) hx hb hts (jh hin_RX12) hown hK hP 0 (jg_n (Nat.ne_of_beq_eq_false rfl) (jg_l rfl)) rfl 11 (by decide) (hts (.fieldLink RX12 292 "BookOfAll" "handCount" "I") (jm m_339)) (fun _ h9 => h9) rfl dX12_hand_78 ?_
              refine lv_iconst (v := 1) hx hb dX12_hand_81 (by decide) ?_
              refine lv_iadd hx hb dX12_hand_82 ?_
              refine jt_i 1 (by decide) ?_
              refine va_put (D := (dC, dI)) (ci := 12) (v := .int 1) (ty := .int) (C := RX12) (T := TX12) (N := 20) hx hb hts (jh hin_RX12) tyX12 tyX12_ok nmX12 hown hK hP hD hS 0 (jg_n (Nat.ne_of_beq_eq_false rfl) (jg_l rfl)) rfl 11 (by decide) (hts (.fieldLink RX12 292 "BookOfAll" "handCount" "I") (jm m_339)) (fun _ h9 => h9) rfl (by decide +kernel) rfl rfl (Nat.le_of_ble_eq_true rfl) dX12_hand_83 (fun H locs hP hD hS => ?_)
              refine lv_aload_n hx hb dX12_hand_86 rfl (lv_at hl 1 rfl) ?_
              refine va_get (D := (dC, dI)) (ci := 12) (v := .int 1) (C := RX12) (T := TX12) (N := 20) hx hb hts (jh hin_RX12) hown hK hP 0 (jg_s (n := 74) (jn_s (jn_a (n := 73) (m := 1) rfl rfl)) (Nat.le_of_ble_eq_true rfl)) rfl 11 (by decide) (hts (.fieldLink RX12 292 "BookOfAll" "handCount" "I") (jm m_339)) (fun _ h9 => h9) rfl dX12_hand_87 ?_
              refine lv_iconst (v := 1) hx hb dX12_hand_90 (by decide) ?_
              refine lv_isub hx hb dX12_hand_91 ?_
              refine jt_i 0 (by decide) ?_
              refine W.widen (k := 1) (n := 6) (Nat.le_of_ble_eq_true rfl) (Nat.le_of_ble_eq_true rfl) ?_
              exact W.iret (v := 0) hx hb hr (fun t ht hW => ⟨⟨0, (), rfl, (s_tX12_hand_6 (p1 := p1) (p2 := p2) (p3 := p3) c_1 c_2 c_3 c_4 c_5 c_6), trivial⟩, hS.F ht⟩) hS.2.2 dX12_hand_92
set_option maxHeartbeats 500000 in
set_option maxRecDepth 100000 in
theorem kX12_handAt_2 (l : Launch) (dC : Nat → ClassId) (dI : Nat → Nat → Nat) (sz : Nat) (ad : Nat → Nat) (ca : Nat → ClassId) (p1 : Int32) : Met l yX12_handAt (jk yX12_handAt cX12_handAt 2 (some (.object "BookOfAll$Hand"))) ({ frames := 0, cells := 0, slots := 0, locals := 0 }) (va_Pc [.ref (ad 0), .int p1] (jw_P (dC, dI) (xW ad ca) (xT ca) sz)) (va_Qq (fun (r : Option Nat) (_ : Unit) => (r = none)) (fun _ _ => True) (va_A [] sz)) 0 0 (va_A [] sz) := by
  refine Met.ofW (cc := cX12_handAt) (maxL := 2) (ret := (some (.object "BookOfAll$Hand"))) (by decide) rfl ?_
  intro p e s m args below meth c s₁ B hml hv
  obtain ⟨rfl, hsz, hP, hK, hD0⟩ := hv
  have hx := B.exec
  have hb := B.bytes
  have hr := B.returns
  have hts := atoms_spec (ws := (jk yX12_handAt cX12_handAt 2 (some (.object "BookOfAll$Hand")))) B.pre
  have hown : s.vm.findClass RX12 = some m.cls := findClass_of_methodNamed B.named
  have hlocks := B.notSynchronized
  subst hsz
  have hD := hD0
  generalize hAe : (va_A [] s.heap.size) = A
  have hA : ∀ q : Nat, s.heap.size ≤ q → A q := fun q h => by rw [← hAe]; exact Or.inr h
  have hS : va_S A s.heap s.heap [] := va_S.rf
  have hP : va_P (dC, dI) vwCl (xW ad ca) s.heap := hP
  have hl := lv_entry ([.ref (ad 0), .int p1]) (n := 2) (Nat.le_of_ble_eq_true rfl)
  rw [lg_entry_eq]
  generalize (lg_sl ([.ref (ad 0), .int p1]) ++ List.replicate (2 - (lg_sl ([.ref (ad 0), .int p1])).length) Slot.unset).toArray = ls at hl ⊢
  have hl : lv_has ls 2 [(0, .ref (ad 0)), (1, .int p1)] := hl
  refine lv_iload_n hx hb dX12_handAt_0 rfl (lv_at hl 1 rfl) ?_
  refine lv_if_lt (tgt := 27) hx hb dX12_handAt_1 (by decide) (fun c_1 => ?_) (fun c_1 => ?_)
  · refine lv_null hx hb dX12_handAt_27 ?_
    exact W.aret (v := .null) hx hb hr (Or.inl ⟨_, rfl⟩) (Or.inl rfl) (fun t ht hW => ⟨⟨none, (), rfl, rfl, trivial⟩, hS.F ht⟩) hS.2.2 dX12_handAt_28
  · refine lv_iload_n hx hb dX12_handAt_4 rfl (lv_at hl 1 rfl) ?_
    refine lv_aload_n hx hb dX12_handAt_5 rfl (lv_at hl 0 rfl) ?_
    refine va_get (D := (dC, dI)) (ci := 12) (v := .int 0) (C := RX12) (T := TX12) (N := 20) hx hb hts (jh hin_RX12) hown hK hP 0 rfl rfl 11 (by decide) (hts (.fieldLink RX12 292 "BookOfAll" "handCount" "I") (jm m_339)) (fun _ h9 => h9) rfl dX12_handAt_6 ?_
    refine lv_icmp_ge (tgt := 27) hx hb dX12_handAt_9 (by decide) (fun _ => ?_) (fun z => absurd (jb_ge (jl_nlt c_1) (by decide)) z)
    refine lv_null hx hb dX12_handAt_27 ?_
    exact W.aret (v := .null) hx hb hr (Or.inl ⟨_, rfl⟩) (Or.inl rfl) (fun t ht hW => ⟨⟨none, (), rfl, rfl, trivial⟩, hS.F ht⟩) hS.2.2 dX12_handAt_28
set_option maxHeartbeats 500000 in
set_option maxRecDepth 100000 in
theorem tX12_enemies (l : Launch) (dC : Nat → ClassId) (dI : Nat → Nat → Nat) (sz : Nat) (ad : Nat → Nat) (ca : Nat → ClassId) (p1 : Int32) (p2 : Int32) : Met l yX12_enemies (jk yX12_enemies cX12_enemies 5 (some .boolean)) ({ frames := 1, cells := 0, slots := 0, locals := 21 }) (va_Pc [.ref (ad 0), .int p1, .int p2] (jw_P (dC, dI) (xW ad ca) (xT ca) sz)) (va_Qi (fun (r : Int32) (_ : Unit) => (r = 0)) (fun _ _ => True) (va_A [] sz)) 0 0 (va_A [] sz) := by
  refine Met.ofW (cc := cX12_enemies) (maxL := 5) (ret := (some .boolean)) (by decide) rfl ?_
  intro p e s m args below meth c s₁ B hml hv
  obtain ⟨rfl, hsz, hP, hK, hD0⟩ := hv
  have hx := B.exec
  have hb := B.bytes
  have hr := B.returns
  have hts := atoms_spec (ws := (jk yX12_enemies cX12_enemies 5 (some .boolean))) B.pre
  have hown : s.vm.findClass RX12 = some m.cls := findClass_of_methodNamed B.named
  have hlocks := B.notSynchronized
  subst hsz
  have hD := hD0
  generalize hAe : (va_A [] s.heap.size) = A
  have hA : ∀ q : Nat, s.heap.size ≤ q → A q := fun q h => by rw [← hAe]; exact Or.inr h
  have hS : va_S A s.heap s.heap [] := va_S.rf
  have hP : va_P (dC, dI) vwCl (xW ad ca) s.heap := hP
  have hl := lv_entry ([.ref (ad 0), .int p1, .int p2]) (n := 5) (Nat.le_of_ble_eq_true rfl)
  rw [lg_entry_eq]
  generalize (lg_sl ([.ref (ad 0), .int p1, .int p2]) ++ List.replicate (5 - (lg_sl ([.ref (ad 0), .int p1, .int p2])).length) Slot.unset).toArray = ls at hl ⊢
  have hl : lv_has ls 5 [(0, .ref (ad 0)), (1, .int p1), (2, .int p2)] := hl
  refine lv_aload_n hx hb dX12_enemies_0 rfl (lv_at hl 0 rfl) ?_
  refine lv_iload_n hx hb dX12_enemies_1 rfl (lv_at hl 1 rfl) ?_
  refine jc_q (va_runV (As := [.int p1]) (rest := []) ⟨hx, hb, hml, hown, hts⟩ (kX12_handAt_2 l dC dI _ ad ca p1) (cwV 1 hts (jgoodV m_352 m_353 m_354 m_210 m_355) rfl rfl rfl (by decide +kernel) ⟨Nat.le_of_ble_eq_true rfl, Nat.le_of_ble_eq_true rfl⟩) ⟨jw_blind, va_recv hK hP (ci := 12) (q0 := 0) rfl rfl, fun U hU hW => ⟨rfl, jw_of hU hW hP hK hD⟩⟩ rfl rfl hl.1 rfl (lv_room (Nat.le_of_ble_eq_true rfl)) dX12_enemies_2 ⟨Nat.le_of_ble_eq_true rfl, Nat.le_of_ble_eq_true rfl⟩) hP hS hA (fun r_1 H locs hw_1 hP hS => ?_)
  have hw_1 : none = r_1 := Eq.symm hw_1
  subst hw_1
  refine jt_q Value.null rfl ?_
  refine lv_astore_nN (lv' := [(3, .null), (0, .ref (ad 0)), (1, .int p1), (2, .int p2)]) hx hb dX12_enemies_5 rfl hl (by decide) rfl (fun ls hl => ?_)
  refine lv_aload_n hx hb dX12_enemies_6 rfl (lv_at hl 1 rfl) ?_
  refine lv_iload_n hx hb dX12_enemies_7 rfl (lv_at hl 3 rfl) ?_
  refine jc_q (va_runV (As := [.int p2]) (rest := []) ⟨hx, hb, hml, hown, hts⟩ (kX12_handAt_2 l dC dI _ ad ca p2) (cwV 1 hts (jgoodV m_352 m_353 m_354 m_210 m_355) rfl rfl rfl (by decide +kernel) ⟨Nat.le_of_ble_eq_true rfl, Nat.le_of_ble_eq_true rfl⟩) ⟨jw_blind, va_recv hK hP (ci := 12) (q0 := 0) rfl rfl, fun U hU hW => ⟨rfl, jw_of hU hW hP hK hD⟩⟩ rfl rfl hl.1 rfl (lv_room (Nat.le_of_ble_eq_true rfl)) dX12_enemies_8 ⟨Nat.le_of_ble_eq_true rfl, Nat.le_of_ble_eq_true rfl⟩) hP hS hA (fun r_2 H locs hw_2 hP hS => ?_)
  have hw_2 : none = r_2 := Eq.symm hw_2
  subst hw_2
  refine jt_q Value.null rfl ?_
  refine lv_astoreN (lv' := [(4, .null), (3, .null), (0, .ref (ad 0)), (1, .int p1), (2, .int p2)]) hx hb dX12_enemies_11 hl (by decide) rfl (fun ls hl => ?_)
  refine lv_aload_nN hx hb dX12_enemies_13 rfl (lv_at hl 1 rfl) ?_
  refine lv_ifnullN (tgt := 38) hx hb dX12_enemies_14 (by decide) ?_
  refine lv_iconst (v := 0) hx hb dX12_enemies_38 (by decide) ?_
  exact W.zret (v := 0) (ty := .boolean) hx hb hr rfl (fun t ht hW => ⟨⟨0, (), rfl, rfl, trivial⟩, hS.F ht⟩) hS.2.2 dX12_enemies_39
set_option maxHeartbeats 500000 in
set_option maxRecDepth 100000 in
theorem kX12_entryOfKind_4 (l : Launch) (dC : Nat → ClassId) (dI : Nat → Nat → Nat) (sz : Nat) (ad : Nat → Nat) (ca : Nat → ClassId) (p1 : Int32) : Met l yX12_entryOfKind (jk yX12_entryOfKind cX12_entryOfKind 4 (some (.object "BookOfAll$Entry"))) ({ frames := 1, cells := 0, slots := 0, locals := 21 }) (va_Pc [.ref (ad 0), .int p1, .int 0] (jw_P (dC, dI) (xW ad ca) (xT ca) sz)) (va_Qq (fun (r : Option Nat) (_ : Unit) => (r = none)) (fun _ _ => True) (va_A [] sz)) 0 0 (va_A [] sz) := by
  refine Met.ofW (cc := cX12_entryOfKind) (maxL := 4) (ret := (some (.object "BookOfAll$Entry"))) (by decide) rfl ?_
  intro p e s m args below meth c s₁ B hml hv
  obtain ⟨rfl, hsz, hP, hK, hD0⟩ := hv
  have hx := B.exec
  have hb := B.bytes
  have hr := B.returns
  have hts := atoms_spec (ws := (jk yX12_entryOfKind cX12_entryOfKind 4 (some (.object "BookOfAll$Entry")))) B.pre
  have hown : s.vm.findClass RX12 = some m.cls := findClass_of_methodNamed B.named
  have hlocks := B.notSynchronized
  subst hsz
  have hD := hD0
  generalize hAe : (va_A [] s.heap.size) = A
  have hA : ∀ q : Nat, s.heap.size ≤ q → A q := fun q h => by rw [← hAe]; exact Or.inr h
  have hS : va_S A s.heap s.heap [] := va_S.rf
  have hP : va_P (dC, dI) vwCl (xW ad ca) s.heap := hP
  have hl := lv_entry ([.ref (ad 0), .int p1, .int 0]) (n := 4) (Nat.le_of_ble_eq_true rfl)
  rw [lg_entry_eq]
  generalize (lg_sl ([.ref (ad 0), .int p1, .int 0]) ++ List.replicate (4 - (lg_sl ([.ref (ad 0), .int p1, .int 0])).length) Slot.unset).toArray = ls at hl ⊢
  have hl : lv_has ls 4 [(0, .ref (ad 0)), (1, .int p1), (2, .int 0)] := hl
  refine lv_aload_n hx hb dX12_entryOfKind_0 rfl (lv_at hl 0 rfl) ?_
  refine lv_iload_n hx hb dX12_entryOfKind_1 rfl (lv_at hl 1 rfl) ?_
  refine jc_q (va_runV (As := [.int p1]) (rest := []) ⟨hx, hb, hml, hown, hts⟩ (kX12_entryAt_2 l dC dI _ ad ca p1) (cwV 1 hts (jgoodV m_316 m_317 m_318 m_210 m_319) rfl rfl rfl (by decide +kernel) ⟨Nat.le_of_ble_eq_true rfl, Nat.le_of_ble_eq_true rfl⟩) ⟨jw_blind, va_recv hK hP (ci := 12) (q0 := 0) rfl rfl, fun U hU hW => ⟨rfl, jw_of hU hW hP hK hD⟩⟩ rfl rfl hl.1 rfl (lv_room (Nat.le_of_ble_eq_true rfl)) dX12_entryOfKind_2 ⟨Nat.le_of_ble_eq_true rfl, Nat.le_of_ble_eq_true rfl⟩) hP hS hA (fun r_1 H locs hw_1 hP hS => ?_)
  have hw_1 : none = r_1 := Eq.symm hw_1
  subst hw_1
  refine jt_q Value.null rfl ?_
  refine lv_astore_nN (lv' := [(3, .null), (0, .ref (ad 0)), (1, .int p1), (2, .int 0)]) hx hb dX12_entryOfKind_5 rfl hl (by decide) rfl (fun ls hl => ?_)
  refine lv_aload_nN hx hb dX12_entryOfKind_6 rfl (lv_at hl 0 rfl) ?_
  refine lv_ifnullN (tgt := 22) hx hb dX12_entryOfKind_7 (by decide) ?_
  refine lv_null hx hb dX12_entryOfKind_22 ?_
  exact W.aret (v := .null) hx hb hr (Or.inl ⟨_, rfl⟩) (Or.inl rfl) (fun t ht hW => ⟨⟨none, (), rfl, rfl, trivial⟩, hS.F ht⟩) hS.2.2 dX12_entryOfKind_23
set_option maxHeartbeats 500000 in
set_option maxRecDepth 100000 in
theorem tX12_give (l : Launch) (dC : Nat → ClassId) (dI : Nat → Nat → Nat) (sz : Nat) (ad : Nat → Nat) (ca : Nat → ClassId) (p1 : Int32) (p2 : Int32) : Met l yX12_give (jk yX12_give cX12_give 4 (some .boolean)) ({ frames := 2, cells := 0, slots := 0, locals := 44 }) (va_Pc [.ref (ad 0), .int p1, .int p2] (jw_P (dC, dI) (xW ad ca) (xT ca) sz)) (va_Qi (fun (r : Int32) (_ : Unit) => (r = 0)) (fun _ _ => True) (va_A [] sz)) 0 0 (va_A [] sz) := by
  refine Met.ofW (cc := cX12_give) (maxL := 4) (ret := (some .boolean)) (by decide) rfl ?_
  intro p e s m args below meth c s₁ B hml hv
  obtain ⟨rfl, hsz, hP, hK, hD0⟩ := hv
  have hx := B.exec
  have hb := B.bytes
  have hr := B.returns
  have hts := atoms_spec (ws := (jk yX12_give cX12_give 4 (some .boolean))) B.pre
  have hown : s.vm.findClass RX12 = some m.cls := findClass_of_methodNamed B.named
  have hlocks := B.notSynchronized
  subst hsz
  have hD := hD0
  generalize hAe : (va_A [] s.heap.size) = A
  have hA : ∀ q : Nat, s.heap.size ≤ q → A q := fun q h => by rw [← hAe]; exact Or.inr h
  have hS : va_S A s.heap s.heap [] := va_S.rf
  have hP : va_P (dC, dI) vwCl (xW ad ca) s.heap := hP
  have hl := lv_entry ([.ref (ad 0), .int p1, .int p2]) (n := 4) (Nat.le_of_ble_eq_true rfl)
  rw [lg_entry_eq]
  generalize (lg_sl ([.ref (ad 0), .int p1, .int p2]) ++ List.replicate (4 - (lg_sl ([.ref (ad 0), .int p1, .int p2])).length) Slot.unset).toArray = ls at hl ⊢
  have hl : lv_has ls 4 [(0, .ref (ad 0)), (1, .int p1), (2, .int p2)] := hl
  refine lv_aload_n hx hb dX12_give_0 rfl (lv_at hl 0 rfl) ?_
  refine lv_iload_n hx hb dX12_give_1 rfl (lv_at hl 1 rfl) ?_
  refine lv_iconst (v := 0) hx hb dX12_give_2 (by decide) ?_
  refine jc_q (va_runV (As := [.int p1, .int 0]) (rest := []) ⟨hx, hb, hml, hown, hts⟩ (kX12_entryOfKind_4 l dC dI _ ad ca p1) (cwV 2 hts (jgoodV m_324 m_325 m_326 m_210 m_327) rfl rfl rfl (by decide +kernel) ⟨Nat.le_of_ble_eq_true rfl, Nat.le_of_ble_eq_true rfl⟩) ⟨jw_blind, va_recv hK hP (ci := 12) (q0 := 0) rfl rfl, fun U hU hW => ⟨rfl, jw_of hU hW hP hK hD⟩⟩ rfl rfl hl.1 rfl (lv_room (Nat.le_of_ble_eq_true rfl)) dX12_give_3 ⟨Nat.le_of_ble_eq_true rfl, Nat.le_of_ble_eq_true rfl⟩) hP hS hA (fun r_1 H locs hw_1 hP hS => ?_)
  have hw_1 : none = r_1 := Eq.symm hw_1
  subst hw_1
  refine jt_q Value.null rfl ?_
  refine lv_astore_nN (lv' := [(3, .null), (0, .ref (ad 0)), (1, .int p1), (2, .int p2)]) hx hb dX12_give_6 rfl hl (by decide) rfl (fun ls hl => ?_)
  refine lv_aload_nN hx hb dX12_give_7 rfl (lv_at hl 0 rfl) ?_
  refine lv_ifnullN (tgt := 27) hx hb dX12_give_8 (by decide) ?_
  refine lv_iconst (v := 0) hx hb dX12_give_27 (by decide) ?_
  exact W.zret (v := 0) (ty := .boolean) hx hb hr rfl (fun t ht hW => ⟨⟨0, (), rfl, rfl, trivial⟩, hS.F ht⟩) hS.2.2 dX12_give_28
