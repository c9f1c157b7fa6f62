set_option maxHeartbeats 1000000 in
set_option maxRecDepth 100000 in
theorem kX0_byteAt_2 (l : Launch) (dC : Nat → ClassId) (dI : Nat → Nat → Nat) (sz : Nat) (ad : Nat → Nat) (ca : Nat → ClassId) (w0 : Int32) (w1 : Int32) (w2 : Int32) (w3 : Nat) (w4 : (Nat → Nat) × (Nat → ClassId)) (w5 : Int64 × Int32 × (Nat → Int32)) (gl74 : 1 ≤ nI (jN w0 w1 w2)) (gh74 : nI (jN w0 w1 w2) ≤ 12) : Met l yX0_byteAt (jk yX0_byteAt cX0_byteAt 2 (some .int)) ({ frames := 0, cells := 0, slots := 0, locals := 0 }) (va_Pc [.ref w3, .int 0] (jw_P (dC, dI) ((jS (jS (jS (jS (jS (jS (jS (jS (jA (xW ad ca) [(w3, .inr (0, [.int 0, .int 0, .ref ((w4.1 1)), .long w5.1, .int w5.2.1, .int 0, .int 0, .int 0, .int 0, .int 0, .int (-1), .int 0, .int (-1), .int (-1), .int (-1), .int 0, .long 0, .int 0])), ((w4.1 1), .inl ((w4.2 1), (jN w0 w1 w2), .inl w5.2.2))]) 38 (ad 38, .inl ((ca 38), 60, .inr (.inr (.inr (.inr (va_up (fun _ => none) 0 (some (w3))))))))) 0 (ad 0, .inr (12, [.int 0, .int 0, .ref (ad 1), .ref (ad 11), .ref (ad 18), .ref (ad 19), .ref (ad 38), .int 1, .ref (ad 39), .int 0, .ref (ad 40), .int 0, .ref (ad 41), .int 0, .ref (ad 42), .ref (ad 53), .ref (ad 54), .ref (ad 55), .ref (ad 61), .ref (ad 70)]))) 18 (ad 18, .inr (6, [.ref (ad 11), .int (-1), .int 0, .int 0, .int 0, .int 0]))) 18 (ad 18, .inr (6, [.ref (ad 11), .int (-1), .int 0, .int 0, .int 0, .int 0]))) 18 (ad 18, .inr (6, [.ref (ad 11), .int (-1), .int 0, .int 1, .int 0, .int 0]))) 18 (ad 18, .inr (6, [.ref (ad 11), .int (-1), .int 0, .int 1, .int 1, .int 0]))) 18 (ad 18, .inr (6, [.ref (ad 11), .int (-1), .int 0, .int 1, .int 1, .int 1]))) 73 (w3, .inr (0, [.int 0, .int 0, .ref ((w4.1 1)), .long w5.1, .int w5.2.1, .int 0, .int 0, .int 0, .int 0, .int 0, .int (-1), .int 0, .int (-1), .int (-1), .int (-1), .int 0, .long 0, .int 0])))) ((xT ca ++ [((w4.2 1), .byte)])) sz)) (va_Qi (fun (r : Int32) (_ : Unit) => (r = (w5.2.2 (Int32.toNatClampNeg 0)))) (fun _ _ => True) (va_A [] sz)) 0 0 (va_A [] sz) := by
  refine Met.ofW (cc := cX0_byteAt) (maxL := 2) (ret := (some .int)) (by decide) rfl ?_
  intro p e s m args below meth c s₁ B hml hv
  obtain ⟨rfl, hsz, hP, hK, hD0⟩ := hv
  have hx := B.exec
  have hb := B.bytes
  have hr := B.returns
  have hts := atoms_spec (ws := (jk yX0_byteAt cX0_byteAt 2 (some .int))) B.pre
  have hown : s.vm.findClass RX0 = some m.cls := findClass_of_methodNamed B.named
  have hlocks := B.notSynchronized
  subst hsz
  have hD := hD0
  generalize hAe : (va_A [] s.heap.size) = A
  have hA : ∀ q : Nat, s.heap.size ≤ q → A q := fun q h => by rw [← hAe]; exact Or.inr h
  have hS : va_S A s.heap s.heap [] := va_S.rf
  have hP : va_P (dC, dI) vwCl ((jS (jS (jS (jS (jS (jS (jS (jS (jA (xW ad ca) [(w3, .inr (0, [.int 0, .int 0, .ref ((w4.1 1)), .long w5.1, .int w5.2.1, .int 0, .int 0, .int 0, .int 0, .int 0, .int (-1), .int 0, .int (-1), .int (-1), .int (-1), .int 0, .long 0, .int 0])), ((w4.1 1), .inl ((w4.2 1), (jN w0 w1 w2), .inl w5.2.2))]) 38 (ad 38, .inl ((ca 38), 60, .inr (.inr (.inr (.inr (va_up (fun _ => none) 0 (some (w3))))))))) 0 (ad 0, .inr (12, [.int 0, .int 0, .ref (ad 1), .ref (ad 11), .ref (ad 18), .ref (ad 19), .ref (ad 38), .int 1, .ref (ad 39), .int 0, .ref (ad 40), .int 0, .ref (ad 41), .int 0, .ref (ad 42), .ref (ad 53), .ref (ad 54), .ref (ad 55), .ref (ad 61), .ref (ad 70)]))) 18 (ad 18, .inr (6, [.ref (ad 11), .int (-1), .int 0, .int 0, .int 0, .int 0]))) 18 (ad 18, .inr (6, [.ref (ad 11), .int (-1), .int 0, .int 0, .int 0, .int 0]))) 18 (ad 18, .inr (6, [.ref (ad 11), .int (-1), .int 0, .int 1, .int 0, .int 0]))) 18 (ad 18, .inr (6, [.ref (ad 11), .int (-1), .int 0, .int 1, .int 1, .int 0]))) 18 (ad 18, .inr (6, [.ref (ad 11), .int (-1), .int 0, .int 1, .int 1, .int 1]))) 73 (w3, .inr (0, [.int 0, .int 0, .ref ((w4.1 1)), .long w5.1, .int w5.2.1, .int 0, .int 0, .int 0, .int 0, .int 0, .int (-1), .int 0, .int (-1), .int (-1), .int (-1), .int 0, .long 0, .int 0])))) s.heap := hP
  have hl := lv_entry ([.ref w3, .int 0]) (n := 2) (Nat.le_of_ble_eq_true rfl)
  rw [lg_entry_eq]
  generalize (lg_sl ([.ref w3, .int 0]) ++ List.replicate (2 - (lg_sl ([.ref w3, .int 0])).length) Slot.unset).toArray = ls at hl ⊢
  have hl : lv_has ls 2 [(0, .ref w3), (1, .int 0)] := hl
  refine lv_iload_n hx hb dX0_byteAt_0 rfl (lv_at hl 1 rfl) ?_
  refine lv_if_lt (tgt := 22) hx hb dX0_byteAt_1 (by decide) (fun z => absurd z (by decide)) (fun _ => ?_)
  refine lv_iload_n hx hb dX0_byteAt_4 rfl (lv_at hl 1 rfl) ?_
  refine lv_aload_n hx hb dX0_byteAt_5 rfl (lv_at hl 0 rfl) ?_
  refine va_get (D := (dC, dI)) (ci := 0) (v := .ref ((w4.1 1))) (C := RX0) (T := TX0) (N := 18) hx hb hts (jh hin_RX0) hown hK hP 73 (jg_s (n := 75) (jn_s (jn_s (jn_s (jn_s (jn_s (jn_s (jn_s (jn_a (n := 73) (m := 2) rfl rfl)))))))) (Nat.le_of_ble_eq_true rfl)) rfl 2 (by decide) (hts (.fieldLink RX0 36 "BookOfAll$Entry" "heading" "[B") (jm m_91)) (fun _ h9 => h9) rfl dX0_byteAt_6 ?_
  refine va_alen (v := nI (jN w0 w1 w2)) hx hb hK hP 74 59 (jg_n (Nat.ne_of_beq_eq_false rfl) (jg_n (Nat.ne_of_beq_eq_false rfl) (jg_n (Nat.ne_of_beq_eq_false rfl) (jg_n (Nat.ne_of_beq_eq_false rfl) (jg_n (Nat.ne_of_beq_eq_false rfl) (jg_n (Nat.ne_of_beq_eq_false rfl) (jg_n (Nat.ne_of_beq_eq_false rfl) (jg_n (Nat.ne_of_beq_eq_false rfl) (jg_r (n := 73) (i := 1) rfl rfl rfl))))))))) rfl rfl dX0_byteAt_9 ?_
  refine lv_icmp_ge (tgt := 22) hx hb dX0_byteAt_10 (by decide) (fun z => absurd z (jb_nle gl74 (by decide))) (fun _ => ?_)
  refine lv_aload_n hx hb dX0_byteAt_13 rfl (lv_at hl 0 rfl) ?_
  refine va_get (D := (dC, dI)) (ci := 0) (v := .ref ((w4.1 1))) (C := RX0) (T := TX0) (N := 18) hx hb hts (jh hin_RX0) hown hK hP 73 (jg_s (n := 75) (jn_s (jn_s (jn_s (jn_s (jn_s (jn_s (jn_s (jn_a (n := 73) (m := 2) rfl rfl)))))))) (Nat.le_of_ble_eq_true rfl)) rfl 2 (by decide) (hts (.fieldLink RX0 36 "BookOfAll$Entry" "heading" "[B") (jm m_91)) (fun _ h9 => h9) rfl dX0_byteAt_14 ?_
  refine lv_iload_n hx hb dX0_byteAt_17 rfl (lv_at hl 1 rfl) ?_
  refine va_bald hx hb hK hP 74 59 (jg_n (Nat.ne_of_beq_eq_false rfl) (jg_n (Nat.ne_of_beq_eq_false rfl) (jg_n (Nat.ne_of_beq_eq_false rfl) (jg_n (Nat.ne_of_beq_eq_false rfl) (jg_n (Nat.ne_of_beq_eq_false rfl) (jg_n (Nat.ne_of_beq_eq_false rfl) (jg_n (Nat.ne_of_beq_eq_false rfl) (jg_n (Nat.ne_of_beq_eq_false rfl) (jg_r (n := 73) (i := 1) rfl rfl rfl))))))))) rfl (jy_in0 gl74 gh74) dX0_byteAt_18 ?_
  refine lv_goto (tgt := 23) hx hb dX0_byteAt_19 (by decide) ?_
  exact W.iret (v := (w5.2.2 (Int32.toNatClampNeg 0))) hx hb hr (fun t ht hW => ⟨⟨(w5.2.2 (Int32.toNatClampNeg 0)), (), rfl, rfl, trivial⟩, hS.F ht⟩) hS.2.2 dX0_byteAt_23
set_option maxHeartbeats 1000000 in
set_option maxRecDepth 100000 in
theorem kX12_volumeAt_15 (l : Launch) (dC : Nat → ClassId) (dI : Nat → Nat → Nat) (sz : Nat) (ad : Nat → Nat) (ca : Nat → ClassId) (w0 : Int32) (w1 : Int32) (w2 : Int32) (w3 : Nat) (w4 : (Nat → Nat) × (Nat → ClassId)) (w5 : Int64 × Int32 × (Nat → Int32)) (gl74 : 1 ≤ nI (jN w0 w1 w2)) (gh74 : nI (jN w0 w1 w2) ≤ 12) : Met l yX12_volumeAt (jk yX12_volumeAt cX12_volumeAt 2 (some (.object "BookOfAll$Volume"))) ({ frames := 1, cells := 0, slots := 0, locals := 21 }) (va_Pc [.ref (ad 0), .int 0] (jw_P (dC, dI) ((jS (jS (jS (jS (jS (jS (jS (jS (jA (xW ad ca) [(w3, .inr (0, [.int 0, .int 0, .ref ((w4.1 1)), .long w5.1, .int w5.2.1, .int 0, .int 0, .int 0, .int 0, .int 0, .int (-1), .int 0, .int (-1), .int (-1), .int (-1), .int 0, .long 0, .int 0])), ((w4.1 1), .inl ((w4.2 1), (jN w0 w1 w2), .inl w5.2.2))]) 38 (ad 38, .inl ((ca 38), 60, .inr (.inr (.inr (.inr (va_up (fun _ => none) 0 (some (w3))))))))) 0 (ad 0, .inr (12, [.int 0, .int 0, .ref (ad 1), .ref (ad 11), .ref (ad 18), .ref (ad 19), .ref (ad 38), .int 1, .ref (ad 39), .int 0, .ref (ad 40), .int 0, .ref (ad 41), .int 0, .ref (ad 42), .ref (ad 53), .ref (ad 54), .ref (ad 55), .ref (ad 61), .ref (ad 70)]))) 18 (ad 18, .inr (6, [.ref (ad 11), .int (-1), .int 0, .int 0, .int 0, .int 0]))) 18 (ad 18, .inr (6, [.ref (ad 11), .int (-1), .int 0, .int 0, .int 0, .int 0]))) 18 (ad 18, .inr (6, [.ref (ad 11), .int (-1), .int 0, .int 1, .int 0, .int 0]))) 18 (ad 18, .inr (6, [.ref (ad 11), .int (-1), .int 0, .int 1, .int 1, .int 0]))) 18 (ad 18, .inr (6, [.ref (ad 11), .int (-1), .int 0, .int 1, .int 1, .int 1]))) 73 (w3, .inr (0, [.int 0, .int 0, .ref ((w4.1 1)), .long w5.1, .int w5.2.1, .int 0, .int 0, .int 0, .int 0, .int 0, .int (-1), .int 0, .int (-1), .int (-1), .int (-1), .int 0, .long 0, .int 0])))) ((xT ca ++ [((w4.2 1), .byte)])) sz)) (va_Qq (fun (r : Option Nat) (_ : Unit) => (r = some (ad 20))) (fun _ _ => True) (va_A [] sz)) 0 0 (va_A [] sz) := by
  refine Met.ofW (cc := cX12_volumeAt) (maxL := 2) (ret := (some (.object "BookOfAll$Volume"))) (by decide) rfl ?_
  intro p e s m args below meth c s₁ B hml hv
  obtain ⟨rfl, hsz, hP, hK, hD0⟩ := hv
  have hx := B.exec
  have hb := B.bytes
  have hr := B.returns
  have hts := atoms_spec (ws := (jk yX12_volumeAt cX12_volumeAt 2 (some (.object "BookOfAll$Volume")))) B.pre
  have hown : s.vm.findClass RX12 = some m.cls := findClass_of_methodNamed B.named
  have hlocks := B.notSynchronized
  subst hsz
  have hD := hD0
  generalize hAe : (va_A [] s.heap.size) = A
  have hA : ∀ q : Nat, s.heap.size ≤ q → A q := fun q h => by rw [← hAe]; exact Or.inr h
  have hS : va_S A s.heap s.heap [] := va_S.rf
  have hP : va_P (dC, dI) vwCl ((jS (jS (jS (jS (jS (jS (jS (jS (jA (xW ad ca) [(w3, .inr (0, [.int 0, .int 0, .ref ((w4.1 1)), .long w5.1, .int w5.2.1, .int 0, .int 0, .int 0, .int 0, .int 0, .int (-1), .int 0, .int (-1), .int (-1), .int (-1), .int 0, .long 0, .int 0])), ((w4.1 1), .inl ((w4.2 1), (jN w0 w1 w2), .inl w5.2.2))]) 38 (ad 38, .inl ((ca 38), 60, .inr (.inr (.inr (.inr (va_up (fun _ => none) 0 (some (w3))))))))) 0 (ad 0, .inr (12, [.int 0, .int 0, .ref (ad 1), .ref (ad 11), .ref (ad 18), .ref (ad 19), .ref (ad 38), .int 1, .ref (ad 39), .int 0, .ref (ad 40), .int 0, .ref (ad 41), .int 0, .ref (ad 42), .ref (ad 53), .ref (ad 54), .ref (ad 55), .ref (ad 61), .ref (ad 70)]))) 18 (ad 18, .inr (6, [.ref (ad 11), .int (-1), .int 0, .int 0, .int 0, .int 0]))) 18 (ad 18, .inr (6, [.ref (ad 11), .int (-1), .int 0, .int 0, .int 0, .int 0]))) 18 (ad 18, .inr (6, [.ref (ad 11), .int (-1), .int 0, .int 1, .int 0, .int 0]))) 18 (ad 18, .inr (6, [.ref (ad 11), .int (-1), .int 0, .int 1, .int 1, .int 0]))) 18 (ad 18, .inr (6, [.ref (ad 11), .int (-1), .int 0, .int 1, .int 1, .int 1]))) 73 (w3, .inr (0, [.int 0, .int 0, .ref ((w4.1 1)), .long w5.1, .int w5.2.1, .int 0, .int 0, .int 0, .int 0, .int 0, .int (-1), .int 0, .int (-1), .int (-1), .int (-1), .int 0, .long 0, .int 0])))) s.heap := hP
  have hl := lv_entry ([.ref (ad 0), .int 0]) (n := 2) (Nat.le_of_ble_eq_true rfl)
  rw [lg_entry_eq]
  generalize (lg_sl ([.ref (ad 0), .int 0]) ++ List.replicate (2 - (lg_sl ([.ref (ad 0), .int 0])).length) Slot.unset).toArray = ls at hl ⊢
  have hl : lv_has ls 2 [(0, .ref (ad 0)), (1, .int 0)] := hl
  refine lv_aload_n hx hb dX12_volumeAt_0 rfl (lv_at hl 0 rfl) ?_
  refine lv_iload_n hx hb dX12_volumeAt_1 rfl (lv_at hl 1 rfl) ?_
  refine jc_i (va_runV (As := [.int 0]) (rest := []) ⟨hx, hb, hml, hown, hts⟩ (kX12_isVolume_4 l dC dI _ (ad 0)) (cwV 1 hts (jgoodV m_207 m_208 m_209 m_210 m_211) rfl rfl rfl (by decide +kernel) ⟨Nat.le_of_ble_eq_true rfl, Nat.le_of_ble_eq_true rfl⟩) ⟨jw_blind0, va_recv hK hP (ci := 12) (q0 := 0) rfl (jg_n (Nat.ne_of_beq_eq_false rfl) (jg_n (Nat.ne_of_beq_eq_false rfl) (jg_n (Nat.ne_of_beq_eq_false rfl) (jg_n (Nat.ne_of_beq_eq_false rfl) (jg_n (Nat.ne_of_beq_eq_false rfl) (jg_n (Nat.ne_of_beq_eq_false rfl) (jg_s (n := 75) (jn_s (jn_a (n := 73) (m := 2) rfl rfl)) (Nat.le_of_ble_eq_true rfl)))))))), fun U hU hW => ⟨rfl, congrArg Array.size hU⟩⟩ rfl rfl hl.1 rfl (lv_room (Nat.le_of_ble_eq_true rfl)) dX12_volumeAt_2 ⟨Nat.le_of_ble_eq_true rfl, Nat.le_of_ble_eq_true rfl⟩) hP hS hA (fun r_1 H locs hw_1 hP hS => ?_)
  have hw_1 : 1 = r_1 := Eq.symm hw_1
  subst hw_1
  refine lv_if_eq (tgt := 17) hx hb dX12_volumeAt_5 (by decide) (fun z => absurd z (by decide)) (fun _ => ?_)
  refine lv_aload_n hx hb dX12_volumeAt_8 rfl (lv_at hl 0 rfl) ?_
  refine va_get (D := (dC, dI)) (ci := 12) (v := .ref (ad 19)) (C := RX12) (T := TX12) (N := 20) hx hb hts (jh hin_RX12) hown hK hP 0 (jg_n (Nat.ne_of_beq_eq_false rfl) (jg_n (Nat.ne_of_beq_eq_false rfl) (jg_n (Nat.ne_of_beq_eq_false rfl) (jg_n (Nat.ne_of_beq_eq_false rfl) (jg_n (Nat.ne_of_beq_eq_false rfl) (jg_n (Nat.ne_of_beq_eq_false rfl) (jg_s (n := 75) (jn_s (jn_a (n := 73) (m := 2) rfl rfl)) (Nat.le_of_ble_eq_true rfl)))))))) rfl 5 (by decide) (hts (.fieldLink RX12 34 "BookOfAll" "volumes" "[LBookOfAll$Volume;") (jm m_231)) (fun _ h9 => h9) rfl dX12_volumeAt_9 ?_
  refine lv_iload_n hx hb dX12_volumeAt_12 rfl (lv_at hl 1 rfl) ?_
  refine va_aldq hx hb hK hP 19 15 (jg_n (Nat.ne_of_beq_eq_false rfl) (jg_n (Nat.ne_of_beq_eq_false rfl) (jg_n (Nat.ne_of_beq_eq_false rfl) (jg_n (Nat.ne_of_beq_eq_false rfl) (jg_n (Nat.ne_of_beq_eq_false rfl) (jg_n (Nat.ne_of_beq_eq_false rfl) (jg_n (Nat.ne_of_beq_eq_false rfl) (jg_n (Nat.ne_of_beq_eq_false rfl) (jg_l rfl))))))))) rfl (vp_in_nI (n := 0) (by decide) (by decide)) dX12_volumeAt_13 ?_
  refine jt_q (Value.ref (ad 20)) rfl ?_
  refine lv_goto (tgt := 18) hx hb dX12_volumeAt_14 (by decide) ?_
  exact W.aret (v := .ref (ad 20)) hx hb hr (Or.inl ⟨_, rfl⟩) (Or.inr ⟨_, rfl⟩) (fun t ht hW => ⟨⟨some (ad 20), (), rfl, rfl, trivial⟩, hS.F ht⟩) hS.2.2 dX12_volumeAt_18
set_option maxHeartbeats 1000000 in
set_option maxRecDepth 100000 in
theorem kX12_lastLetter_15 (l : Launch) (dC : Nat → ClassId) (dI : Nat → Nat → Nat) (sz : Nat) (ad : Nat → Nat) (ca : Nat → ClassId) (w0 : Int32) (w1 : Int32) (w2 : Int32) (w3 : Nat) (w4 : (Nat → Nat) × (Nat → ClassId)) (w5 : Int64 × Int32 × (Nat → Int32)) (gl74 : 1 ≤ nI (jN w0 w1 w2)) (gh74 : nI (jN w0 w1 w2) ≤ 12) : Met l yX12_lastLetter (jk yX12_lastLetter cX12_lastLetter 3 (some .int)) ({ frames := 2, cells := 0, slots := 0, locals := 42 }) (va_Pc [.ref (ad 0), .int 0] (jw_P (dC, dI) ((jS (jS (jS (jS (jS (jS (jS (jS (jA (xW ad ca) [(w3, .inr (0, [.int 0, .int 0, .ref ((w4.1 1)), .long w5.1, .int w5.2.1, .int 0, .int 0, .int 0, .int 0, .int 0, .int (-1), .int 0, .int (-1), .int (-1), .int (-1), .int 0, .long 0, .int 0])), ((w4.1 1), .inl ((w4.2 1), (jN w0 w1 w2), .inl w5.2.2))]) 38 (ad 38, .inl ((ca 38), 60, .inr (.inr (.inr (.inr (va_up (fun _ => none) 0 (some (w3))))))))) 0 (ad 0, .inr (12, [.int 0, .int 0, .ref (ad 1), .ref (ad 11), .ref (ad 18), .ref (ad 19), .ref (ad 38), .int 1, .ref (ad 39), .int 0, .ref (ad 40), .int 0, .ref (ad 41), .int 0, .ref (ad 42), .ref (ad 53), .ref (ad 54), .ref (ad 55), .ref (ad 61), .ref (ad 70)]))) 18 (ad 18, .inr (6, [.ref (ad 11), .int (-1), .int 0, .int 0, .int 0, .int 0]))) 18 (ad 18, .inr (6, [.ref (ad 11), .int (-1), .int 0, .int 0, .int 0, .int 0]))) 18 (ad 18, .inr (6, [.ref (ad 11), .int (-1), .int 0, .int 1, .int 0, .int 0]))) 18 (ad 18, .inr (6, [.ref (ad 11), .int (-1), .int 0, .int 1, .int 1, .int 0]))) 18 (ad 18, .inr (6, [.ref (ad 11), .int (-1), .int 0, .int 1, .int 1, .int 1]))) 73 (w3, .inr (0, [.int 0, .int 0, .ref ((w4.1 1)), .long w5.1, .int w5.2.1, .int 0, .int 0, .int 0, .int 0, .int 0, .int (-1), .int 0, .int (-1), .int (-1), .int (-1), .int 0, .long 0, .int 0])))) ((xT ca ++ [((w4.2 1), .byte)])) sz)) (va_Qi (fun (r : Int32) (_ : Unit) => (r = 4)) (fun _ _ => True) (va_A [] sz)) 0 0 (va_A [] sz) := by
  refine Met.ofW (cc := cX12_lastLetter) (maxL := 3) (ret := (some .int)) (by decide) rfl ?_
  intro p e s m args below meth c s₁ B hml hv
  obtain ⟨rfl, hsz, hP, hK, hD0⟩ := hv
  have hx := B.exec
  have hb := B.bytes
  have hr := B.returns
  have hts := atoms_spec (ws := (jk yX12_lastLetter cX12_lastLetter 3 (some .int))) B.pre
  have hown : s.vm.findClass RX12 = some m.cls := findClass_of_methodNamed B.named
  have hlocks := B.notSynchronized
  subst hsz
  have hD := hD0
  generalize hAe : (va_A [] s.heap.size) = A
  have hA : ∀ q : Nat, s.heap.size ≤ q → A q := fun q h => by rw [← hAe]; exact Or.inr h
  have hS : va_S A s.heap s.heap [] := va_S.rf
  have hP : va_P (dC, dI) vwCl ((jS (jS (jS (jS (jS (jS (jS (jS (jA (xW ad ca) [(w3, .inr (0, [.int 0, .int 0, .ref ((w4.1 1)), .long w5.1, .int w5.2.1, .int 0, .int 0, .int 0, .int 0, .int 0, .int (-1), .int 0, .int (-1), .int (-1), .int (-1), .int 0, .long 0, .int 0])), ((w4.1 1), .inl ((w4.2 1), (jN w0 w1 w2), .inl w5.2.2))]) 38 (ad 38, .inl ((ca 38), 60, .inr (.inr (.inr (.inr (va_up (fun _ => none) 0 (some (w3))))))))) 0 (ad 0, .inr (12, [.int 0, .int 0, .ref (ad 1), .ref (ad 11), .ref (ad 18), .ref (ad 19), .ref (ad 38), .int 1, .ref (ad 39), .int 0, .ref (ad 40), .int 0, .ref (ad 41), .int 0, .ref (ad 42), .ref (ad 53), .ref (ad 54), .ref (ad 55), .ref (ad 61), .ref (ad 70)]))) 18 (ad 18, .inr (6, [.ref (ad 11), .int (-1), .int 0, .int 0, .int 0, .int 0]))) 18 (ad 18, .inr (6, [.ref (ad 11), .int (-1), .int 0, .int 0, .int 0, .int 0]))) 18 (ad 18, .inr (6, [.ref (ad 11), .int (-1), .int 0, .int 1, .int 0, .int 0]))) 18 (ad 18, .inr (6, [.ref (ad 11), .int (-1), .int 0, .int 1, .int 1, .int 0]))) 18 (ad 18, .inr (6, [.ref (ad 11), .int (-1), .int 0, .int 1, .int 1, .int 1]))) 73 (w3, .inr (0, [.int 0, .int 0, .ref ((w4.1 1)), .long w5.1, .int w5.2.1, .int 0, .int 0, .int 0, .int 0, .int 0, .int (-1), .int 0, .int (-1), .int (-1), .int (-1), .int 0, .long 0, .int 0])))) s.heap := hP
  have hl := lv_entry ([.ref (ad 0), .int 0]) (n := 3) (Nat.le_of_ble_eq_true rfl)
  rw [lg_entry_eq]
  generalize (lg_sl ([.ref (ad 0), .int 0]) ++ List.replicate (3 - (lg_sl ([.ref (ad 0), .int 0])).length) Slot.unset).toArray = ls at hl ⊢
  have hl : lv_has ls 3 [(0, .ref (ad 0)), (1, .int 0)] := hl
  refine lv_aload_n hx hb dX12_lastLetter_0 rfl (lv_at hl 0 rfl) ?_
  refine lv_iload_n hx hb dX12_lastLetter_1 rfl (lv_at hl 1 rfl) ?_
  refine jc_q (va_runV (As := [.int 0]) (rest := []) ⟨hx, hb, hml, hown, hts⟩ (kX12_volumeAt_15 l dC dI _ ad ca w0 w1 w2 w3 w4 w5 gl74 gh74) (cwV 1 hts (jgoodV m_232 m_233 m_234 m_210 m_235) rfl rfl rfl (by decide +kernel) ⟨Nat.le_of_ble_eq_true rfl, Nat.le_of_ble_eq_true rfl⟩) ⟨jw_blind, va_recv hK hP (ci := 12) (q0 := 0) rfl (jg_n (Nat.ne_of_beq_eq_false rfl) (jg_n (Nat.ne_of_beq_eq_false rfl) (jg_n (Nat.ne_of_beq_eq_false rfl) (jg_n (Nat.ne_of_beq_eq_false rfl) (jg_n (Nat.ne_of_beq_eq_false rfl) (jg_n (Nat.ne_of_beq_eq_false rfl) (jg_s (n := 75) (jn_s (jn_a (n := 73) (m := 2) rfl rfl)) (Nat.le_of_ble_eq_true rfl)))))))), fun U hU hW => ⟨rfl, jw_of hU hW hP hK hD⟩⟩ rfl rfl hl.1 rfl (lv_room (Nat.le_of_ble_eq_true rfl)) dX12_lastLetter_2 ⟨Nat.le_of_ble_eq_true rfl, Nat.le_of_ble_eq_true rfl⟩) hP hS hA (fun r_1 H locs hw_1 hP hS => ?_)
  have hw_1 : some (ad 20) = r_1 := Eq.symm hw_1
  subst hw_1
  refine jt_q (Value.ref (ad 20)) rfl ?_
  refine lv_astore_n (lv' := [(2, .ref (ad 20)), (0, .ref (ad 0)), (1, .int 0)]) hx hb dX12_lastLetter_5 rfl hl (by decide) rfl (fun ls hl => ?_)
  refine lv_aload_n hx hb dX12_lastLetter_6 rfl (lv_at hl 0 rfl) ?_
  refine lv_ifnonnull (tgt := 14) hx hb dX12_lastLetter_7 (by decide) ?_
  refine lv_aload_n hx hb dX12_lastLetter_14 rfl (lv_at hl 0 rfl) ?_
  refine va_get (D := (dC, dI)) (ci := 11) (v := .int 4) (C := RX11) (T := TX11) (N := 7) hx hb hts (jh hin_RX11) hown hK hP 20 (jg_n (Nat.ne_of_beq_eq_false rfl) (jg_n (Nat.ne_of_beq_eq_false rfl) (jg_n (Nat.ne_of_beq_eq_false rfl) (jg_n (Nat.ne_of_beq_eq_false rfl) (jg_n (Nat.ne_of_beq_eq_false rfl) (jg_n (Nat.ne_of_beq_eq_false rfl) (jg_n (Nat.ne_of_beq_eq_false rfl) (jg_n (Nat.ne_of_beq_eq_false rfl) (jg_l rfl))))))))) rfl 0 (by decide) (hts (.fieldLink RX12 164 "BookOfAll$Volume" "lastLetter" "I") (jm m_240)) (fun _ h9 => h9) rfl dX12_lastLetter_15 ?_
  exact W.iret (v := 4) hx hb hr (fun t ht hW => ⟨⟨4, (), rfl, rfl, trivial⟩, hS.F ht⟩) hS.2.2 dX12_lastLetter_18
set_option maxHeartbeats 1000000 in
set_option maxRecDepth 100000 in
theorem kX12_volumeAt_16 (l : Launch) (dC : Nat → ClassId) (dI : Nat → Nat → Nat) (sz : Nat) (ad : Nat → Nat) (ca : Nat → ClassId) (w0 : Int32) (w1 : Int32) (w2 : Int32) (w3 : Nat) (w4 : (Nat → Nat) × (Nat → ClassId)) (w5 : Int64 × Int32 × (Nat → Int32)) (gl74 : 1 ≤ nI (jN w0 w1 w2)) (gh74 : nI (jN w0 w1 w2) ≤ 12) : Met l yX12_volumeAt (jk yX12_volumeAt cX12_volumeAt 2 (some (.object "BookOfAll$Volume"))) ({ frames := 1, cells := 0, slots := 0, locals := 21 }) (va_Pc [.ref (ad 0), .int 1] (jw_P (dC, dI) ((jS (jS (jS (jS (jS (jS (jS (jS (jA (xW ad ca) [(w3, .inr (0, [.int 0, .int 0, .ref ((w4.1 1)), .long w5.1, .int w5.2.1, .int 0, .int 0, .int 0, .int 0, .int 0, .int (-1), .int 0, .int (-1), .int (-1), .int (-1), .int 0, .long 0, .int 0])), ((w4.1 1), .inl ((w4.2 1), (jN w0 w1 w2), .inl w5.2.2))]) 38 (ad 38, .inl ((ca 38), 60, .inr (.inr (.inr (.inr (va_up (fun _ => none) 0 (some (w3))))))))) 0 (ad 0, .inr (12, [.int 0, .int 0, .ref (ad 1), .ref (ad 11), .ref (ad 18), .ref (ad 19), .ref (ad 38), .int 1, .ref (ad 39), .int 0, .ref (ad 40), .int 0, .ref (ad 41), .int 0, .ref (ad 42), .ref (ad 53), .ref (ad 54), .ref (ad 55), .ref (ad 61), .ref (ad 70)]))) 18 (ad 18, .inr (6, [.ref (ad 11), .int (-1), .int 0, .int 0, .int 0, .int 0]))) 18 (ad 18, .inr (6, [.ref (ad 11), .int (-1), .int 0, .int 0, .int 0, .int 0]))) 18 (ad 18, .inr (6, [.ref (ad 11), .int (-1), .int 0, .int 1, .int 0, .int 0]))) 18 (ad 18, .inr (6, [.ref (ad 11), .int (-1), .int 0, .int 1, .int 1, .int 0]))) 18 (ad 18, .inr (6, [.ref (ad 11), .int (-1), .int 0, .int 1, .int 1, .int 1]))) 73 (w3, .inr (0, [.int 0, .int 0, .ref ((w4.1 1)), .long w5.1, .int w5.2.1, .int 0, .int 0, .int 0, .int 0, .int 0, .int (-1), .int 0, .int (-1), .int (-1), .int (-1), .int 0, .long 0, .int 0])))) ((xT ca ++ [((w4.2 1), .byte)])) sz)) (va_Qq (fun (r : Option Nat) (_ : Unit) => (r = some (ad 23))) (fun _ _ => True) (va_A [] sz)) 0 0 (va_A [] sz) := by
  refine Met.ofW (cc := cX12_volumeAt) (maxL := 2) (ret := (some (.object "BookOfAll$Volume"))) (by decide) rfl ?_
  intro p e s m args below meth c s₁ B hml hv
  obtain ⟨rfl, hsz, hP, hK, hD0⟩ := hv
  have hx := B.exec
  have hb := B.bytes
  have hr := B.returns
  have hts := atoms_spec (ws := (jk yX12_volumeAt cX12_volumeAt 2 (some (.object "BookOfAll$Volume")))) B.pre
  have hown : s.vm.findClass RX12 = some m.cls := findClass_of_methodNamed B.named
  have hlocks := B.notSynchronized
  subst hsz
  have hD := hD0
  generalize hAe : (va_A [] s.heap.size) = A
  have hA : ∀ q : Nat, s.heap.size ≤ q → A q := fun q h => by rw [← hAe]; exact Or.inr h
  have hS : va_S A s.heap s.heap [] := va_S.rf
  have hP : va_P (dC, dI) vwCl ((jS (jS (jS (jS (jS (jS (jS (jS (jA (xW ad ca) [(w3, .inr (0, [.int 0, .int 0, .ref ((w4.1 1)), .long w5.1, .int w5.2.1, .int 0, .int 0, .int 0, .int 0, .int 0, .int (-1), .int 0, .int (-1), .int (-1), .int (-1), .int 0, .long 0, .int 0])), ((w4.1 1), .inl ((w4.2 1), (jN w0 w1 w2), .inl w5.2.2))]) 38 (ad 38, .inl ((ca 38), 60, .inr (.inr (.inr (.inr (va_up (fun _ => none) 0 (some (w3))))))))) 0 (ad 0, .inr (12, [.int 0, .int 0, .ref (ad 1), .ref (ad 11), .ref (ad 18), .ref (ad 19), .ref (ad 38), .int 1, .ref (ad 39), .int 0, .ref (ad 40), .int 0, .ref (ad 41), .int 0, .ref (ad 42), .ref (ad 53), .ref (ad 54), .ref (ad 55), .ref (ad 61), .ref (ad 70)]))) 18 (ad 18, .inr (6, [.ref (ad 11), .int (-1), .int 0, .int 0, .int 0, .int 0]))) 18 (ad 18, .inr (6, [.ref (ad 11), .int (-1), .int 0, .int 0, .int 0, .int 0]))) 18 (ad 18, .inr (6, [.ref (ad 11), .int (-1), .int 0, .int 1, .int 0, .int 0]))) 18 (ad 18, .inr (6, [.ref (ad 11), .int (-1), .int 0, .int 1, .int 1, .int 0]))) 18 (ad 18, .inr (6, [.ref (ad 11), .int (-1), .int 0, .int 1, .int 1, .int 1]))) 73 (w3, .inr (0, [.int 0, .int 0, .ref ((w4.1 1)), .long w5.1, .int w5.2.1, .int 0, .int 0, .int 0, .int 0, .int 0, .int (-1), .int 0, .int (-1), .int (-1), .int (-1), .int 0, .long 0, .int 0])))) s.heap := hP
  have hl := lv_entry ([.ref (ad 0), .int 1]) (n := 2) (Nat.le_of_ble_eq_true rfl)
  rw [lg_entry_eq]
  generalize (lg_sl ([.ref (ad 0), .int 1]) ++ List.replicate (2 - (lg_sl ([.ref (ad 0), .int 1])).length) Slot.unset).toArray = ls at hl ⊢
  have hl : lv_has ls 2 [(0, .ref (ad 0)), (1, .int 1)] := hl
  refine lv_aload_n hx hb dX12_volumeAt_0 rfl (lv_at hl 0 rfl) ?_
  refine lv_iload_n hx hb dX12_volumeAt_1 rfl (lv_at hl 1 rfl) ?_
  refine jc_i (va_runV (As := [.int 1]) (rest := []) ⟨hx, hb, hml, hown, hts⟩ (kX12_isVolume_3 l dC dI _ (ad 0)) (cwV 1 hts (jgoodV m_207 m_208 m_209 m_210 m_211) rfl rfl rfl (by decide +kernel) ⟨Nat.le_of_ble_eq_true rfl, Nat.le_of_ble_eq_true rfl⟩) ⟨jw_blind0, va_recv hK hP (ci := 12) (q0 := 0) rfl (jg_n (Nat.ne_of_beq_eq_false rfl) (jg_n (Nat.ne_of_beq_eq_false rfl) (jg_n (Nat.ne_of_beq_eq_false rfl) (jg_n (Nat.ne_of_beq_eq_false rfl) (jg_n (Nat.ne_of_beq_eq_false rfl) (jg_n (Nat.ne_of_beq_eq_false rfl) (jg_s (n := 75) (jn_s (jn_a (n := 73) (m := 2) rfl rfl)) (Nat.le_of_ble_eq_true rfl)))))))), fun U hU hW => ⟨rfl, congrArg Array.size hU⟩⟩ rfl rfl hl.1 rfl (lv_room (Nat.le_of_ble_eq_true rfl)) dX12_volumeAt_2 ⟨Nat.le_of_ble_eq_true rfl, Nat.le_of_ble_eq_true rfl⟩) hP hS hA (fun r_1 H locs hw_1 hP hS => ?_)
  have hw_1 : 1 = r_1 := Eq.symm hw_1
  subst hw_1
  refine lv_if_eq (tgt := 17) hx hb dX12_volumeAt_5 (by decide) (fun z => absurd z (by decide)) (fun _ => ?_)
  refine lv_aload_n hx hb dX12_volumeAt_8 rfl (lv_at hl 0 rfl) ?_
  refine va_get (D := (dC, dI)) (ci := 12) (v := .ref (ad 19)) (C := RX12) (T := TX12) (N := 20) hx hb hts (jh hin_RX12) hown hK hP 0 (jg_n (Nat.ne_of_beq_eq_false rfl) (jg_n (Nat.ne_of_beq_eq_false rfl) (jg_n (Nat.ne_of_beq_eq_false rfl) (jg_n (Nat.ne_of_beq_eq_false rfl) (jg_n (Nat.ne_of_beq_eq_false rfl) (jg_n (Nat.ne_of_beq_eq_false rfl) (jg_s (n := 75) (jn_s (jn_a (n := 73) (m := 2) rfl rfl)) (Nat.le_of_ble_eq_true rfl)))))))) rfl 5 (by decide) (hts (.fieldLink RX12 34 "BookOfAll" "volumes" "[LBookOfAll$Volume;") (jm m_231)) (fun _ h9 => h9) rfl dX12_volumeAt_9 ?_
  refine lv_iload_n hx hb dX12_volumeAt_12 rfl (lv_at hl 1 rfl) ?_
  refine va_aldq hx hb hK hP 19 15 (jg_n (Nat.ne_of_beq_eq_false rfl) (jg_n (Nat.ne_of_beq_eq_false rfl) (jg_n (Nat.ne_of_beq_eq_false rfl) (jg_n (Nat.ne_of_beq_eq_false rfl) (jg_n (Nat.ne_of_beq_eq_false rfl) (jg_n (Nat.ne_of_beq_eq_false rfl) (jg_n (Nat.ne_of_beq_eq_false rfl) (jg_n (Nat.ne_of_beq_eq_false rfl) (jg_l rfl))))))))) rfl (vp_in_nI (n := 1) (by decide) (by decide)) dX12_volumeAt_13 ?_
  refine jt_q (Value.ref (ad 23)) rfl ?_
  refine lv_goto (tgt := 18) hx hb dX12_volumeAt_14 (by decide) ?_
  exact W.aret (v := .ref (ad 23)) hx hb hr (Or.inl ⟨_, rfl⟩) (Or.inr ⟨_, rfl⟩) (fun t ht hW => ⟨⟨some (ad 23), (), rfl, rfl, trivial⟩, hS.F ht⟩) hS.2.2 dX12_volumeAt_18
set_option maxHeartbeats 1000000 in
set_option maxRecDepth 100000 in
theorem kX12_lastLetter_16 (l : Launch) (dC : Nat → ClassId) (dI : Nat → Nat → Nat) (sz : Nat) (ad : Nat → Nat) (ca : Nat → ClassId) (w0 : Int32) (w1 : Int32) (w2 : Int32) (w3 : Nat) (w4 : (Nat → Nat) × (Nat → ClassId)) (w5 : Int64 × Int32 × (Nat → Int32)) (gl74 : 1 ≤ nI (jN w0 w1 w2)) (gh74 : nI (jN w0 w1 w2) ≤ 12) : Met l yX12_lastLetter (jk yX12_lastLetter cX12_lastLetter 3 (some .int)) ({ frames := 2, cells := 0, slots := 0, locals := 42 }) (va_Pc [.ref (ad 0), .int 1] (jw_P (dC, dI) ((jS (jS (jS (jS (jS (jS (jS (jS (jA (xW ad ca) [(w3, .inr (0, [.int 0, .int 0, .ref ((w4.1 1)), .long w5.1, .int w5.2.1, .int 0, .int 0, .int 0, .int 0, .int 0, .int (-1), .int 0, .int (-1), .int (-1), .int (-1), .int 0, .long 0, .int 0])), ((w4.1 1), .inl ((w4.2 1), (jN w0 w1 w2), .inl w5.2.2))]) 38 (ad 38, .inl ((ca 38), 60, .inr (.inr (.inr (.inr (va_up (fun _ => none) 0 (some (w3))))))))) 0 (ad 0, .inr (12, [.int 0, .int 0, .ref (ad 1), .ref (ad 11), .ref (ad 18), .ref (ad 19), .ref (ad 38), .int 1, .ref (ad 39), .int 0, .ref (ad 40), .int 0, .ref (ad 41), .int 0, .ref (ad 42), .ref (ad 53), .ref (ad 54), .ref (ad 55), .ref (ad 61), .ref (ad 70)]))) 18 (ad 18, .inr (6, [.ref (ad 11), .int (-1), .int 0, .int 0, .int 0, .int 0]))) 18 (ad 18, .inr (6, [.ref (ad 11), .int (-1), .int 0, .int 0, .int 0, .int 0]))) 18 (ad 18, .inr (6, [.ref (ad 11), .int (-1), .int 0, .int 1, .int 0, .int 0]))) 18 (ad 18, .inr (6, [.ref (ad 11), .int (-1), .int 0, .int 1, .int 1, .int 0]))) 18 (ad 18, .inr (6, [.ref (ad 11), .int (-1), .int 0, .int 1, .int 1, .int 1]))) 73 (w3, .inr (0, [.int 0, .int 0, .ref ((w4.1 1)), .long w5.1, .int w5.2.1, .int 0, .int 0, .int 0, .int 0, .int 0, .int (-1), .int 0, .int (-1), .int (-1), .int (-1), .int 0, .long 0, .int 0])))) ((xT ca ++ [((w4.2 1), .byte)])) sz)) (va_Qi (fun (r : Int32) (_ : Unit) => (r = 9)) (fun _ _ => True) (va_A [] sz)) 0 0 (va_A [] sz) := by
  refine Met.ofW (cc := cX12_lastLetter) (maxL := 3) (ret := (some .int)) (by decide) rfl ?_
  intro p e s m args below meth c s₁ B hml hv
  obtain ⟨rfl, hsz, hP, hK, hD0⟩ := hv
  have hx := B.exec
  have hb := B.bytes
  have hr := B.returns
  have hts := atoms_spec (ws := (jk yX12_lastLetter cX12_lastLetter 3 (some .int))) B.pre
  have hown : s.vm.findClass RX12 = some m.cls := findClass_of_methodNamed B.named
  have hlocks := B.notSynchronized
  subst hsz
  have hD := hD0
  generalize hAe : (va_A [] s.heap.size) = A
  have hA : ∀ q : Nat, s.heap.size ≤ q → A q := fun q h => by rw [← hAe]; exact Or.inr h
  have hS : va_S A s.heap s.heap [] := va_S.rf
  have hP : va_P (dC, dI) vwCl ((jS (jS (jS (jS (jS (jS (jS (jS (jA (xW ad ca) [(w3, .inr (0, [.int 0, .int 0, .ref ((w4.1 1)), .long w5.1, .int w5.2.1, .int 0, .int 0, .int 0, .int 0, .int 0, .int (-1), .int 0, .int (-1), .int (-1), .int (-1), .int 0, .long 0, .int 0])), ((w4.1 1), .inl ((w4.2 1), (jN w0 w1 w2), .inl w5.2.2))]) 38 (ad 38, .inl ((ca 38), 60, .inr (.inr (.inr (.inr (va_up (fun _ => none) 0 (some (w3))))))))) 0 (ad 0, .inr (12, [.int 0, .int 0, .ref (ad 1), .ref (ad 11), .ref (ad 18), .ref (ad 19), .ref (ad 38), .int 1, .ref (ad 39), .int 0, .ref (ad 40), .int 0, .ref (ad 41), .int 0, .ref (ad 42), .ref (ad 53), .ref (ad 54), .ref (ad 55), .ref (ad 61), .ref (ad 70)]))) 18 (ad 18, .inr (6, [.ref (ad 11), .int (-1), .int 0, .int 0, .int 0, .int 0]))) 18 (ad 18, .inr (6, [.ref (ad 11), .int (-1), .int 0, .int 0, .int 0, .int 0]))) 18 (ad 18, .inr (6, [.ref (ad 11), .int (-1), .int 0, .int 1, .int 0, .int 0]))) 18 (ad 18, .inr (6, [.ref (ad 11), .int (-1), .int 0, .int 1, .int 1, .int 0]))) 18 (ad 18, .inr (6, [.ref (ad 11), .int (-1), .int 0, .int 1, .int 1, .int 1]))) 73 (w3, .inr (0, [.int 0, .int 0, .ref ((w4.1 1)), .long w5.1, .int w5.2.1, .int 0, .int 0, .int 0, .int 0, .int 0, .int (-1), .int 0, .int (-1), .int (-1), .int (-1), .int 0, .long 0, .int 0])))) s.heap := hP
  have hl := lv_entry ([.ref (ad 0), .int 1]) (n := 3) (Nat.le_of_ble_eq_true rfl)
  rw [lg_entry_eq]
  generalize (lg_sl ([.ref (ad 0), .int 1]) ++ List.replicate (3 - (lg_sl ([.ref (ad 0), .int 1])).length) Slot.unset).toArray = ls at hl ⊢
  have hl : lv_has ls 3 [(0, .ref (ad 0)), (1, .int 1)] := hl
  refine lv_aload_n hx hb dX12_lastLetter_0 rfl (lv_at hl 0 rfl) ?_
  refine lv_iload_n hx hb dX12_lastLetter_1 rfl (lv_at hl 1 rfl) ?_
  refine jc_q (va_runV (As := [.int 1]) (rest := []) ⟨hx, hb, hml, hown, hts⟩ (kX12_volumeAt_16 l dC dI _ ad ca w0 w1 w2 w3 w4 w5 gl74 gh74) (cwV 1 hts (jgoodV m_232 m_233 m_234 m_210 m_235) rfl rfl rfl (by decide +kernel) ⟨Nat.le_of_ble_eq_true rfl, Nat.le_of_ble_eq_true rfl⟩) ⟨jw_blind, va_recv hK hP (ci := 12) (q0 := 0) rfl (jg_n (Nat.ne_of_beq_eq_false rfl) (jg_n (Nat.ne_of_beq_eq_false rfl) (jg_n (Nat.ne_of_beq_eq_false rfl) (jg_n (Nat.ne_of_beq_eq_false rfl) (jg_n (Nat.ne_of_beq_eq_false rfl) (jg_n (Nat.ne_of_beq_eq_false rfl) (jg_s (n := 75) (jn_s (jn_a (n := 73) (m := 2) rfl rfl)) (Nat.le_of_ble_eq_true rfl)))))))), fun U hU hW => ⟨rfl, jw_of hU hW hP hK hD⟩⟩ rfl rfl hl.1 rfl (lv_room (Nat.le_of_ble_eq_true rfl)) dX12_lastLetter_2 ⟨Nat.le_of_ble_eq_true rfl, Nat.le_of_ble_eq_true rfl⟩) hP hS hA (fun r_1 H locs hw_1 hP hS => ?_)
  have hw_1 : some (ad 23) = r_1 := Eq.symm hw_1
  subst hw_1
  refine jt_q (Value.ref (ad 23)) rfl ?_
  refine lv_astore_n (lv' := [(2, .ref (ad 23)), (0, .ref (ad 0)), (1, .int 1)]) hx hb dX12_lastLetter_5 rfl hl (by decide) rfl (fun ls hl => ?_)
  refine lv_aload_n hx hb dX12_lastLetter_6 rfl (lv_at hl 0 rfl) ?_
  refine lv_ifnonnull (tgt := 14) hx hb dX12_lastLetter_7 (by decide) ?_
  refine lv_aload_n hx hb dX12_lastLetter_14 rfl (lv_at hl 0 rfl) ?_
  refine va_get (D := (dC, dI)) (ci := 11) (v := .int 9) (C := RX11) (T := TX11) (N := 7) hx hb hts (jh hin_RX11) hown hK hP 23 (jg_n (Nat.ne_of_beq_eq_false rfl) (jg_n (Nat.ne_of_beq_eq_false rfl) (jg_n (Nat.ne_of_beq_eq_false rfl) (jg_n (Nat.ne_of_beq_eq_false rfl) (jg_n (Nat.ne_of_beq_eq_false rfl) (jg_n (Nat.ne_of_beq_eq_false rfl) (jg_n (Nat.ne_of_beq_eq_false rfl) (jg_n (Nat.ne_of_beq_eq_false rfl) (jg_l rfl))))))))) rfl 0 (by decide) (hts (.fieldLink RX12 164 "BookOfAll$Volume" "lastLetter" "I") (jm m_240)) (fun _ h9 => h9) rfl dX12_lastLetter_15 ?_
  exact W.iret (v := 9) hx hb hr (fun t ht hW => ⟨⟨9, (), rfl, rfl, trivial⟩, hS.F ht⟩) hS.2.2 dX12_lastLetter_18
set_option maxHeartbeats 1000000 in
set_option maxRecDepth 100000 in
theorem kX12_volumeAt_17 (l : Launch) (dC : Nat → ClassId) (dI : Nat → Nat → Nat) (sz : Nat) (ad : Nat → Nat) (ca : Nat → ClassId) (w0 : Int32) (w1 : Int32) (w2 : Int32) (w3 : Nat) (w4 : (Nat → Nat) × (Nat → ClassId)) (w5 : Int64 × Int32 × (Nat → Int32)) (gl74 : 1 ≤ nI (jN w0 w1 w2)) (gh74 : nI (jN w0 w1 w2) ≤ 12) : Met l yX12_volumeAt (jk yX12_volumeAt cX12_volumeAt 2 (some (.object "BookOfAll$Volume"))) ({ frames := 1, cells := 0, slots := 0, locals := 21 }) (va_Pc [.ref (ad 0), .int 2] (jw_P (dC, dI) ((jS (jS (jS (jS (jS (jS (jS (jS (jA (xW ad ca) [(w3, .inr (0, [.int 0, .int 0, .ref ((w4.1 1)), .long w5.1, .int w5.2.1, .int 0, .int 0, .int 0, .int 0, .int 0, .int (-1), .int 0, .int (-1), .int (-1), .int (-1), .int 0, .long 0, .int 0])), ((w4.1 1), .inl ((w4.2 1), (jN w0 w1 w2), .inl w5.2.2))]) 38 (ad 38, .inl ((ca 38), 60, .inr (.inr (.inr (.inr (va_up (fun _ => none) 0 (some (w3))))))))) 0 (ad 0, .inr (12, [.int 0, .int 0, .ref (ad 1), .ref (ad 11), .ref (ad 18), .ref (ad 19), .ref (ad 38), .int 1, .ref (ad 39), .int 0, .ref (ad 40), .int 0, .ref (ad 41), .int 0, .ref (ad 42), .ref (ad 53), .ref (ad 54), .ref (ad 55), .ref (ad 61), .ref (ad 70)]))) 18 (ad 18, .inr (6, [.ref (ad 11), .int (-1), .int 0, .int 0, .int 0, .int 0]))) 18 (ad 18, .inr (6, [.ref (ad 11), .int (-1), .int 0, .int 0, .int 0, .int 0]))) 18 (ad 18, .inr (6, [.ref (ad 11), .int (-1), .int 0, .int 1, .int 0, .int 0]))) 18 (ad 18, .inr (6, [.ref (ad 11), .int (-1), .int 0, .int 1, .int 1, .int 0]))) 18 (ad 18, .inr (6, [.ref (ad 11), .int (-1), .int 0, .int 1, .int 1, .int 1]))) 73 (w3, .inr (0, [.int 0, .int 0, .ref ((w4.1 1)), .long w5.1, .int w5.2.1, .int 0, .int 0, .int 0, .int 0, .int 0, .int (-1), .int 0, .int (-1), .int (-1), .int (-1), .int 0, .long 0, .int 0])))) ((xT ca ++ [((w4.2 1), .byte)])) sz)) (va_Qq (fun (r : Option Nat) (_ : Unit) => (r = some (ad 26))) (fun _ _ => True) (va_A [] sz)) 0 0 (va_A [] sz) := by
  refine Met.ofW (cc := cX12_volumeAt) (maxL := 2) (ret := (some (.object "BookOfAll$Volume"))) (by decide) rfl ?_
  intro p e s m args below meth c s₁ B hml hv
  obtain ⟨rfl, hsz, hP, hK, hD0⟩ := hv
  have hx := B.exec
  have hb := B.bytes
  have hr := B.returns
  have hts := atoms_spec (ws := (jk yX12_volumeAt cX12_volumeAt 2 (some (.object "BookOfAll$Volume")))) B.pre
  have hown : s.vm.findClass RX12 = some m.cls := findClass_of_methodNamed B.named
  have hlocks := B.notSynchronized
  subst hsz
  have hD := hD0
  generalize hAe : (va_A [] s.heap.size) = A
  have hA : ∀ q : Nat, s.heap.size ≤ q → A q := fun q h => by rw [← hAe]; exact Or.inr h
  have hS : va_S A s.heap s.heap [] := va_S.rf
  have hP : va_P (dC, dI) vwCl ((jS (jS (jS (jS (jS (jS (jS (jS (jA (xW ad ca) [(w3, .inr (0, [.int 0, .int 0, .ref ((w4.1 1)), .long w5.1, .int w5.2.1, .int 0, .int 0, .int 0, .int 0, .int 0, .int (-1), .int 0, .int (-1), .int (-1), .int (-1), .int 0, .long 0, .int 0])), ((w4.1 1), .inl ((w4.2 1), (jN w0 w1 w2), .inl w5.2.2))]) 38 (ad 38, .inl ((ca 38), 60, .inr (.inr (.inr (.inr (va_up (fun _ => none) 0 (some (w3))))))))) 0 (ad 0, .inr (12, [.int 0, .int 0, .ref (ad 1), .ref (ad 11), .ref (ad 18), .ref (ad 19), .ref (ad 38), .int 1, .ref (ad 39), .int 0, .ref (ad 40), .int 0, .ref (ad 41), .int 0, .ref (ad 42), .ref (ad 53), .ref (ad 54), .ref (ad 55), .ref (ad 61), .ref (ad 70)]))) 18 (ad 18, .inr (6, [.ref (ad 11), .int (-1), .int 0, .int 0, .int 0, .int 0]))) 18 (ad 18, .inr (6, [.ref (ad 11), .int (-1), .int 0, .int 0, .int 0, .int 0]))) 18 (ad 18, .inr (6, [.ref (ad 11), .int (-1), .int 0, .int 1, .int 0, .int 0]))) 18 (ad 18, .inr (6, [.ref (ad 11), .int (-1), .int 0, .int 1, .int 1, .int 0]))) 18 (ad 18, .inr (6, [.ref (ad 11), .int (-1), .int 0, .int 1, .int 1, .int 1]))) 73 (w3, .inr (0, [.int 0, .int 0, .ref ((w4.1 1)), .long w5.1, .int w5.2.1, .int 0, .int 0, .int 0, .int 0, .int 0, .int (-1), .int 0, .int (-1), .int (-1), .int (-1), .int 0, .long 0, .int 0])))) s.heap := hP
  have hl := lv_entry ([.ref (ad 0), .int 2]) (n := 2) (Nat.le_of_ble_eq_true rfl)
  rw [lg_entry_eq]
  generalize (lg_sl ([.ref (ad 0), .int 2]) ++ List.replicate (2 - (lg_sl ([.ref (ad 0), .int 2])).length) Slot.unset).toArray = ls at hl ⊢
  have hl : lv_has ls 2 [(0, .ref (ad 0)), (1, .int 2)] := hl
  refine lv_aload_n hx hb dX12_volumeAt_0 rfl (lv_at hl 0 rfl) ?_
  refine lv_iload_n hx hb dX12_volumeAt_1 rfl (lv_at hl 1 rfl) ?_
  refine jc_i (va_runV (As := [.int 2]) (rest := []) ⟨hx, hb, hml, hown, hts⟩ (kX12_isVolume_5 l dC dI _ (ad 0)) (cwV 1 hts (jgoodV m_207 m_208 m_209 m_210 m_211) rfl rfl rfl (by decide +kernel) ⟨Nat.le_of_ble_eq_true rfl, Nat.le_of_ble_eq_true rfl⟩) ⟨jw_blind0, va_recv hK hP (ci := 12) (q0 := 0) rfl (jg_n (Nat.ne_of_beq_eq_false rfl) (jg_n (Nat.ne_of_beq_eq_false rfl) (jg_n (Nat.ne_of_beq_eq_false rfl) (jg_n (Nat.ne_of_beq_eq_false rfl) (jg_n (Nat.ne_of_beq_eq_false rfl) (jg_n (Nat.ne_of_beq_eq_false rfl) (jg_s (n := 75) (jn_s (jn_a (n := 73) (m := 2) rfl rfl)) (Nat.le_of_ble_eq_true rfl)))))))), fun U hU hW => ⟨rfl, congrArg Array.size hU⟩⟩ rfl rfl hl.1 rfl (lv_room (Nat.le_of_ble_eq_true rfl)) dX12_volumeAt_2 ⟨Nat.le_of_ble_eq_true rfl, Nat.le_of_ble_eq_true rfl⟩) hP hS hA (fun r_1 H locs hw_1 hP hS => ?_)
  have hw_1 : 1 = r_1 := Eq.symm hw_1
  subst hw_1
  refine lv_if_eq (tgt := 17) hx hb dX12_volumeAt_5 (by decide) (fun z => absurd z (by decide)) (fun _ => ?_)
  refine lv_aload_n hx hb dX12_volumeAt_8 rfl (lv_at hl 0 rfl) ?_
  refine va_get (D := (dC, dI)) (ci := 12) (v := .ref (ad 19)) (C := RX12) (T := TX12) (N := 20) hx hb hts (jh hin_RX12) hown hK hP 0 (jg_n (Nat.ne_of_beq_eq_false rfl) (jg_n (Nat.ne_of_beq_eq_false rfl) (jg_n (Nat.ne_of_beq_eq_false rfl) (jg_n (Nat.ne_of_beq_eq_false rfl) (jg_n (Nat.ne_of_beq_eq_false rfl) (jg_n (Nat.ne_of_beq_eq_false rfl) (jg_s (n := 75) (jn_s (jn_a (n := 73) (m := 2) rfl rfl)) (Nat.le_of_ble_eq_true rfl)))))))) rfl 5 (by decide) (hts (.fieldLink RX12 34 "BookOfAll" "volumes" "[LBookOfAll$Volume;") (jm m_231)) (fun _ h9 => h9) rfl dX12_volumeAt_9 ?_
  refine lv_iload_n hx hb dX12_volumeAt_12 rfl (lv_at hl 1 rfl) ?_
  refine va_aldq hx hb hK hP 19 15 (jg_n (Nat.ne_of_beq_eq_false rfl) (jg_n (Nat.ne_of_beq_eq_false rfl) (jg_n (Nat.ne_of_beq_eq_false rfl) (jg_n (Nat.ne_of_beq_eq_false rfl) (jg_n (Nat.ne_of_beq_eq_false rfl) (jg_n (Nat.ne_of_beq_eq_false rfl) (jg_n (Nat.ne_of_beq_eq_false rfl) (jg_n (Nat.ne_of_beq_eq_false rfl) (jg_l rfl))))))))) rfl (vp_in_nI (n := 2) (by decide) (by decide)) dX12_volumeAt_13 ?_
  refine jt_q (Value.ref (ad 26)) rfl ?_
  refine lv_goto (tgt := 18) hx hb dX12_volumeAt_14 (by decide) ?_
  exact W.aret (v := .ref (ad 26)) hx hb hr (Or.inl ⟨_, rfl⟩) (Or.inr ⟨_, rfl⟩) (fun t ht hW => ⟨⟨some (ad 26), (), rfl, rfl, trivial⟩, hS.F ht⟩) hS.2.2 dX12_volumeAt_18
set_option maxHeartbeats 1000000 in
set_option maxRecDepth 100000 in
theorem kX12_lastLetter_17 (l : Launch) (dC : Nat → ClassId) (dI : Nat → Nat → Nat) (sz : Nat) (ad : Nat → Nat) (ca : Nat → ClassId) (w0 : Int32) (w1 : Int32) (w2 : Int32) (w3 : Nat) (w4 : (Nat → Nat) × (Nat → ClassId)) (w5 : Int64 × Int32 × (Nat → Int32)) (gl74 : 1 ≤ nI (jN w0 w1 w2)) (gh74 : nI (jN w0 w1 w2) ≤ 12) : Met l yX12_lastLetter (jk yX12_lastLetter cX12_lastLetter 3 (some .int)) ({ frames := 2, cells := 0, slots := 0, locals := 42 }) (va_Pc [.ref (ad 0), .int 2] (jw_P (dC, dI) ((jS (jS (jS (jS (jS (jS (jS (jS (jA (xW ad ca) [(w3, .inr (0, [.int 0, .int 0, .ref ((w4.1 1)), .long w5.1, .int w5.2.1, .int 0, .int 0, .int 0, .int 0, .int 0, .int (-1), .int 0, .int (-1), .int (-1), .int (-1), .int 0, .long 0, .int 0])), ((w4.1 1), .inl ((w4.2 1), (jN w0 w1 w2), .inl w5.2.2))]) 38 (ad 38, .inl ((ca 38), 60, .inr (.inr (.inr (.inr (va_up (fun _ => none) 0 (some (w3))))))))) 0 (ad 0, .inr (12, [.int 0, .int 0, .ref (ad 1), .ref (ad 11), .ref (ad 18), .ref (ad 19), .ref (ad 38), .int 1, .ref (ad 39), .int 0, .ref (ad 40), .int 0, .ref (ad 41), .int 0, .ref (ad 42), .ref (ad 53), .ref (ad 54), .ref (ad 55), .ref (ad 61), .ref (ad 70)]))) 18 (ad 18, .inr (6, [.ref (ad 11), .int (-1), .int 0, .int 0, .int 0, .int 0]))) 18 (ad 18, .inr (6, [.ref (ad 11), .int (-1), .int 0, .int 0, .int 0, .int 0]))) 18 (ad 18, .inr (6, [.ref (ad 11), .int (-1), .int 0, .int 1, .int 0, .int 0]))) 18 (ad 18, .inr (6, [.ref (ad 11), .int (-1), .int 0, .int 1, .int 1, .int 0]))) 18 (ad 18, .inr (6, [.ref (ad 11), .int (-1), .int 0, .int 1, .int 1, .int 1]))) 73 (w3, .inr (0, [.int 0, .int 0, .ref ((w4.1 1)), .long w5.1, .int w5.2.1, .int 0, .int 0, .int 0, .int 0, .int 0, .int (-1), .int 0, .int (-1), .int (-1), .int (-1), .int 0, .long 0, .int 0])))) ((xT ca ++ [((w4.2 1), .byte)])) sz)) (va_Qi (fun (r : Int32) (_ : Unit) => (r = 14)) (fun _ _ => True) (va_A [] sz)) 0 0 (va_A [] sz) := by
  refine Met.ofW (cc := cX12_lastLetter) (maxL := 3) (ret := (some .int)) (by decide) rfl ?_
  intro p e s m args below meth c s₁ B hml hv
  obtain ⟨rfl, hsz, hP, hK, hD0⟩ := hv
  have hx := B.exec
  have hb := B.bytes
  have hr := B.returns
  have hts := atoms_spec (ws := (jk yX12_lastLetter cX12_lastLetter 3 (some .int))) B.pre
  have hown : s.vm.findClass RX12 = some m.cls := findClass_of_methodNamed B.named
  have hlocks := B.notSynchronized
  subst hsz
  have hD := hD0
  generalize hAe : (va_A [] s.heap.size) = A
  have hA : ∀ q : Nat, s.heap.size ≤ q → A q := fun q h => by rw [← hAe]; exact Or.inr h
  have hS : va_S A s.heap s.heap [] := va_S.rf
  have hP : va_P (dC, dI) vwCl ((jS (jS (jS (jS (jS (jS (jS (jS (jA (xW ad ca) [(w3, .inr (0, [.int 0, .int 0, .ref ((w4.1 1)), .long w5.1, .int w5.2.1, .int 0, .int 0, .int 0, .int 0, .int 0, .int (-1), .int 0, .int (-1), .int (-1), .int (-1), .int 0, .long 0, .int 0])), ((w4.1 1), .inl ((w4.2 1), (jN w0 w1 w2), .inl w5.2.2))]) 38 (ad 38, .inl ((ca 38), 60, .inr (.inr (.inr (.inr (va_up (fun _ => none) 0 (some (w3))))))))) 0 (ad 0, .inr (12, [.int 0, .int 0, .ref (ad 1), .ref (ad 11), .ref (ad 18), .ref (ad 19), .ref (ad 38), .int 1, .ref (ad 39), .int 0, .ref (ad 40), .int 0, .ref (ad 41), .int 0, .ref (ad 42), .ref (ad 53), .ref (ad 54), .ref (ad 55), .ref (ad 61), .ref (ad 70)]))) 18 (ad 18, .inr (6, [.ref (ad 11), .int (-1), .int 0, .int 0, .int 0, .int 0]))) 18 (ad 18, .inr (6, [.ref (ad 11), .int (-1), .int 0, .int 0, .int 0, .int 0]))) 18 (ad 18, .inr (6, [.ref (ad 11), .int (-1), .int 0, .int 1, .int 0, .int 0]))) 18 (ad 18, .inr (6, [.ref (ad 11), .int (-1), .int 0, .int 1, .int 1, .int 0]))) 18 (ad 18, .inr (6, [.ref (ad 11), .int (-1), .int 0, .int 1, .int 1, .int 1]))) 73 (w3, .inr (0, [.int 0, .int 0, .ref ((w4.1 1)), .long w5.1, .int w5.2.1, .int 0, .int 0, .int 0, .int 0, .int 0, .int (-1), .int 0, .int (-1), .int (-1), .int (-1), .int 0, .long 0, .int 0])))) s.heap := hP
  have hl := lv_entry ([.ref (ad 0), .int 2]) (n := 3) (Nat.le_of_ble_eq_true rfl)
  rw [lg_entry_eq]
  generalize (lg_sl ([.ref (ad 0), .int 2]) ++ List.replicate (3 - (lg_sl ([.ref (ad 0), .int 2])).length) Slot.unset).toArray = ls at hl ⊢
  have hl : lv_has ls 3 [(0, .ref (ad 0)), (1, .int 2)] := hl
  refine lv_aload_n hx hb dX12_lastLetter_0 rfl (lv_at hl 0 rfl) ?_
  refine lv_iload_n hx hb dX12_lastLetter_1 rfl (lv_at hl 1 rfl) ?_
  refine jc_q (va_runV (As := [.int 2]) (rest := []) ⟨hx, hb, hml, hown, hts⟩ (kX12_volumeAt_17 l dC dI _ ad ca w0 w1 w2 w3 w4 w5 gl74 gh74) (cwV 1 hts (jgoodV m_232 m_233 m_234 m_210 m_235) rfl rfl rfl (by decide +kernel) ⟨Nat.le_of_ble_eq_true rfl, Nat.le_of_ble_eq_true rfl⟩) ⟨jw_blind, va_recv hK hP (ci := 12) (q0 := 0) rfl (jg_n (Nat.ne_of_beq_eq_false rfl) (jg_n (Nat.ne_of_beq_eq_false rfl) (jg_n (Nat.ne_of_beq_eq_false rfl) (jg_n (Nat.ne_of_beq_eq_false rfl) (jg_n (Nat.ne_of_beq_eq_false rfl) (jg_n (Nat.ne_of_beq_eq_false rfl) (jg_s (n := 75) (jn_s (jn_a (n := 73) (m := 2) rfl rfl)) (Nat.le_of_ble_eq_true rfl)))))))), fun U hU hW => ⟨rfl, jw_of hU hW hP hK hD⟩⟩ rfl rfl hl.1 rfl (lv_room (Nat.le_of_ble_eq_true rfl)) dX12_lastLetter_2 ⟨Nat.le_of_ble_eq_true rfl, Nat.le_of_ble_eq_true rfl⟩) hP hS hA (fun r_1 H locs hw_1 hP hS => ?_)
  have hw_1 : some (ad 26) = r_1 := Eq.symm hw_1
  subst hw_1
  refine jt_q (Value.ref (ad 26)) rfl ?_
  refine lv_astore_n (lv' := [(2, .ref (ad 26)), (0, .ref (ad 0)), (1, .int 2)]) hx hb dX12_lastLetter_5 rfl hl (by decide) rfl (fun ls hl => ?_)
  refine lv_aload_n hx hb dX12_lastLetter_6 rfl (lv_at hl 0 rfl) ?_
  refine lv_ifnonnull (tgt := 14) hx hb dX12_lastLetter_7 (by decide) ?_
  refine lv_aload_n hx hb dX12_lastLetter_14 rfl (lv_at hl 0 rfl) ?_
  refine va_get (D := (dC, dI)) (ci := 11) (v := .int 14) (C := RX11) (T := TX11) (N := 7) hx hb hts (jh hin_RX11) hown hK hP 26 (jg_n (Nat.ne_of_beq_eq_false rfl) (jg_n (Nat.ne_of_beq_eq_false rfl) (jg_n (Nat.ne_of_beq_eq_false rfl) (jg_n (Nat.ne_of_beq_eq_false rfl) (jg_n (Nat.ne_of_beq_eq_false rfl) (jg_n (Nat.ne_of_beq_eq_false rfl) (jg_n (Nat.ne_of_beq_eq_false rfl) (jg_n (Nat.ne_of_beq_eq_false rfl) (jg_l rfl))))))))) rfl 0 (by decide) (hts (.fieldLink RX12 164 "BookOfAll$Volume" "lastLetter" "I") (jm m_240)) (fun _ h9 => h9) rfl dX12_lastLetter_15 ?_
  exact W.iret (v := 14) hx hb hr (fun t ht hW => ⟨⟨14, (), rfl, rfl, trivial⟩, hS.F ht⟩) hS.2.2 dX12_lastLetter_18
set_option maxHeartbeats 1000000 in
set_option maxRecDepth 100000 in
theorem kX12_volumeAt_18 (l : Launch) (dC : Nat → ClassId) (dI : Nat → Nat → Nat) (sz : Nat) (ad : Nat → Nat) (ca : Nat → ClassId) (w0 : Int32) (w1 : Int32) (w2 : Int32) (w3 : Nat) (w4 : (Nat → Nat) × (Nat → ClassId)) (w5 : Int64 × Int32 × (Nat → Int32)) (gl74 : 1 ≤ nI (jN w0 w1 w2)) (gh74 : nI (jN w0 w1 w2) ≤ 12) : Met l yX12_volumeAt (jk yX12_volumeAt cX12_volumeAt 2 (some (.object "BookOfAll$Volume"))) ({ frames := 1, cells := 0, slots := 0, locals := 21 }) (va_Pc [.ref (ad 0), .int 3] (jw_P (dC, dI) ((jS (jS (jS (jS (jS (jS (jS (jS (jA (xW ad ca) [(w3, .inr (0, [.int 0, .int 0, .ref ((w4.1 1)), .long w5.1, .int w5.2.1, .int 0, .int 0, .int 0, .int 0, .int 0, .int (-1), .int 0, .int (-1), .int (-1), .int (-1), .int 0, .long 0, .int 0])), ((w4.1 1), .inl ((w4.2 1), (jN w0 w1 w2), .inl w5.2.2))]) 38 (ad 38, .inl ((ca 38), 60, .inr (.inr (.inr (.inr (va_up (fun _ => none) 0 (some (w3))))))))) 0 (ad 0, .inr (12, [.int 0, .int 0, .ref (ad 1), .ref (ad 11), .ref (ad 18), .ref (ad 19), .ref (ad 38), .int 1, .ref (ad 39), .int 0, .ref (ad 40), .int 0, .ref (ad 41), .int 0, .ref (ad 42), .ref (ad 53), .ref (ad 54), .ref (ad 55), .ref (ad 61), .ref (ad 70)]))) 18 (ad 18, .inr (6, [.ref (ad 11), .int (-1), .int 0, .int 0, .int 0, .int 0]))) 18 (ad 18, .inr (6, [.ref (ad 11), .int (-1), .int 0, .int 0, .int 0, .int 0]))) 18 (ad 18, .inr (6, [.ref (ad 11), .int (-1), .int 0, .int 1, .int 0, .int 0]))) 18 (ad 18, .inr (6, [.ref (ad 11), .int (-1), .int 0, .int 1, .int 1, .int 0]))) 18 (ad 18, .inr (6, [.ref (ad 11), .int (-1), .int 0, .int 1, .int 1, .int 1]))) 73 (w3, .inr (0, [.int 0, .int 0, .ref ((w4.1 1)), .long w5.1, .int w5.2.1, .int 0, .int 0, .int 0, .int 0, .int 0, .int (-1), .int 0, .int (-1), .int (-1), .int (-1), .int 0, .long 0, .int 0])))) ((xT ca ++ [((w4.2 1), .byte)])) sz)) (va_Qq (fun (r : Option Nat) (_ : Unit) => (r = some (ad 29))) (fun _ _ => True) (va_A [] sz)) 0 0 (va_A [] sz) := by
  refine Met.ofW (cc := cX12_volumeAt) (maxL := 2) (ret := (some (.object "BookOfAll$Volume"))) (by decide) rfl ?_
  intro p e s m args below meth c s₁ B hml hv
  obtain ⟨rfl, hsz, hP, hK, hD0⟩ := hv
  have hx := B.exec
  have hb := B.bytes
  have hr := B.returns
  have hts := atoms_spec (ws := (jk yX12_volumeAt cX12_volumeAt 2 (some (.object "BookOfAll$Volume")))) B.pre
  have hown : s.vm.findClass RX12 = some m.cls := findClass_of_methodNamed B.named
  have hlocks := B.notSynchronized
  subst hsz
  have hD := hD0
  generalize hAe : (va_A [] s.heap.size) = A
  have hA : ∀ q : Nat, s.heap.size ≤ q → A q := fun q h => by rw [← hAe]; exact Or.inr h
  have hS : va_S A s.heap s.heap [] := va_S.rf
  have hP : va_P (dC, dI) vwCl ((jS (jS (jS (jS (jS (jS (jS (jS (jA (xW ad ca) [(w3, .inr (0, [.int 0, .int 0, .ref ((w4.1 1)), .long w5.1, .int w5.2.1, .int 0, .int 0, .int 0, .int 0, .int 0, .int (-1), .int 0, .int (-1), .int (-1), .int (-1), .int 0, .long 0, .int 0])), ((w4.1 1), .inl ((w4.2 1), (jN w0 w1 w2), .inl w5.2.2))]) 38 (ad 38, .inl ((ca 38), 60, .inr (.inr (.inr (.inr (va_up (fun _ => none) 0 (some (w3))))))))) 0 (ad 0, .inr (12, [.int 0, .int 0, .ref (ad 1), .ref (ad 11), .ref (ad 18), .ref (ad 19), .ref (ad 38), .int 1, .ref (ad 39), .int 0, .ref (ad 40), .int 0, .ref (ad 41), .int 0, .ref (ad 42), .ref (ad 53), .ref (ad 54), .ref (ad 55), .ref (ad 61), .ref (ad 70)]))) 18 (ad 18, .inr (6, [.ref (ad 11), .int (-1), .int 0, .int 0, .int 0, .int 0]))) 18 (ad 18, .inr (6, [.ref (ad 11), .int (-1), .int 0, .int 0, .int 0, .int 0]))) 18 (ad 18, .inr (6, [.ref (ad 11), .int (-1), .int 0, .int 1, .int 0, .int 0]))) 18 (ad 18, .inr (6, [.ref (ad 11), .int (-1), .int 0, .int 1, .int 1, .int 0]))) 18 (ad 18, .inr (6, [.ref (ad 11), .int (-1), .int 0, .int 1, .int 1, .int 1]))) 73 (w3, .inr (0, [.int 0, .int 0, .ref ((w4.1 1)), .long w5.1, .int w5.2.1, .int 0, .int 0, .int 0, .int 0, .int 0, .int (-1), .int 0, .int (-1), .int (-1), .int (-1), .int 0, .long 0, .int 0])))) s.heap := hP
  have hl := lv_entry ([.ref (ad 0), .int 3]) (n := 2) (Nat.le_of_ble_eq_true rfl)
  rw [lg_entry_eq]
  generalize (lg_sl ([.ref (ad 0), .int 3]) ++ List.replicate (2 - (lg_sl ([.ref (ad 0), .int 3])).length) Slot.unset).toArray = ls at hl ⊢
  have hl : lv_has ls 2 [(0, .ref (ad 0)), (1, .int 3)] := hl
  refine lv_aload_n hx hb dX12_volumeAt_0 rfl (lv_at hl 0 rfl) ?_
  refine lv_iload_n hx hb dX12_volumeAt_1 rfl (lv_at hl 1 rfl) ?_
  refine jc_i (va_runV (As := [.int 3]) (rest := []) ⟨hx, hb, hml, hown, hts⟩ (kX12_isVolume_6 l dC dI _ (ad 0)) (cwV 1 hts (jgoodV m_207 m_208 m_209 m_210 m_211) rfl rfl rfl (by decide +kernel) ⟨Nat.le_of_ble_eq_true rfl, Nat.le_of_ble_eq_true rfl⟩) ⟨jw_blind0, va_recv hK hP (ci := 12) (q0 := 0) rfl (jg_n (Nat.ne_of_beq_eq_false rfl) (jg_n (Nat.ne_of_beq_eq_false rfl) (jg_n (Nat.ne_of_beq_eq_false rfl) (jg_n (Nat.ne_of_beq_eq_false rfl) (jg_n (Nat.ne_of_beq_eq_false rfl) (jg_n (Nat.ne_of_beq_eq_false rfl) (jg_s (n := 75) (jn_s (jn_a (n := 73) (m := 2) rfl rfl)) (Nat.le_of_ble_eq_true rfl)))))))), fun U hU hW => ⟨rfl, congrArg Array.size hU⟩⟩ rfl rfl hl.1 rfl (lv_room (Nat.le_of_ble_eq_true rfl)) dX12_volumeAt_2 ⟨Nat.le_of_ble_eq_true rfl, Nat.le_of_ble_eq_true rfl⟩) hP hS hA (fun r_1 H locs hw_1 hP hS => ?_)
  have hw_1 : 1 = r_1 := Eq.symm hw_1
  subst hw_1
  refine lv_if_eq (tgt := 17) hx hb dX12_volumeAt_5 (by decide) (fun z => absurd z (by decide)) (fun _ => ?_)
  refine lv_aload_n hx hb dX12_volumeAt_8 rfl (lv_at hl 0 rfl) ?_
  refine va_get (D := (dC, dI)) (ci := 12) (v := .ref (ad 19)) (C := RX12) (T := TX12) (N := 20) hx hb hts (jh hin_RX12) hown hK hP 0 (jg_n (Nat.ne_of_beq_eq_false rfl) (jg_n (Nat.ne_of_beq_eq_false rfl) (jg_n (Nat.ne_of_beq_eq_false rfl) (jg_n (Nat.ne_of_beq_eq_false rfl) (jg_n (Nat.ne_of_beq_eq_false rfl) (jg_n (Nat.ne_of_beq_eq_false rfl) (jg_s (n := 75) (jn_s (jn_a (n := 73) (m := 2) rfl rfl)) (Nat.le_of_ble_eq_true rfl)))))))) rfl 5 (by decide) (hts (.fieldLink RX12 34 "BookOfAll" "volumes" "[LBookOfAll$Volume;") (jm m_231)) (fun _ h9 => h9) rfl dX12_volumeAt_9 ?_
  refine lv_iload_n hx hb dX12_volumeAt_12 rfl (lv_at hl 1 rfl) ?_
  refine va_aldq hx hb hK hP 19 15 (jg_n (Nat.ne_of_beq_eq_false rfl) (jg_n (Nat.ne_of_beq_eq_false rfl) (jg_n (Nat.ne_of_beq_eq_false rfl) (jg_n (Nat.ne_of_beq_eq_false rfl) (jg_n (Nat.ne_of_beq_eq_false rfl) (jg_n (Nat.ne_of_beq_eq_false rfl) (jg_n (Nat.ne_of_beq_eq_false rfl) (jg_n (Nat.ne_of_beq_eq_false rfl) (jg_l rfl))))))))) rfl (vp_in_nI (n := 3) (by decide) (by decide)) dX12_volumeAt_13 ?_
  refine jt_q (Value.ref (ad 29)) rfl ?_
  refine lv_goto (tgt := 18) hx hb dX12_volumeAt_14 (by decide) ?_
  exact W.aret (v := .ref (ad 29)) hx hb hr (Or.inl ⟨_, rfl⟩) (Or.inr ⟨_, rfl⟩) (fun t ht hW => ⟨⟨some (ad 29), (), rfl, rfl, trivial⟩, hS.F ht⟩) hS.2.2 dX12_volumeAt_18
set_option maxHeartbeats 1000000 in
set_option maxRecDepth 100000 in
theorem kX12_lastLetter_18 (l : Launch) (dC : Nat → ClassId) (dI : Nat → Nat → Nat) (sz : Nat) (ad : Nat → Nat) (ca : Nat → ClassId) (w0 : Int32) (w1 : Int32) (w2 : Int32) (w3 : Nat) (w4 : (Nat → Nat) × (Nat → ClassId)) (w5 : Int64 × Int32 × (Nat → Int32)) (gl74 : 1 ≤ nI (jN w0 w1 w2)) (gh74 : nI (jN w0 w1 w2) ≤ 12) : Met l yX12_lastLetter (jk yX12_lastLetter cX12_lastLetter 3 (some .int)) ({ frames := 2, cells := 0, slots := 0, locals := 42 }) (va_Pc [.ref (ad 0), .int 3] (jw_P (dC, dI) ((jS (jS (jS (jS (jS (jS (jS (jS (jA (xW ad ca) [(w3, .inr (0, [.int 0, .int 0, .ref ((w4.1 1)), .long w5.1, .int w5.2.1, .int 0, .int 0, .int 0, .int 0, .int 0, .int (-1), .int 0, .int (-1), .int (-1), .int (-1), .int 0, .long 0, .int 0])), ((w4.1 1), .inl ((w4.2 1), (jN w0 w1 w2), .inl w5.2.2))]) 38 (ad 38, .inl ((ca 38), 60, .inr (.inr (.inr (.inr (va_up (fun _ => none) 0 (some (w3))))))))) 0 (ad 0, .inr (12, [.int 0, .int 0, .ref (ad 1), .ref (ad 11), .ref (ad 18), .ref (ad 19), .ref (ad 38), .int 1, .ref (ad 39), .int 0, .ref (ad 40), .int 0, .ref (ad 41), .int 0, .ref (ad 42), .ref (ad 53), .ref (ad 54), .ref (ad 55), .ref (ad 61), .ref (ad 70)]))) 18 (ad 18, .inr (6, [.ref (ad 11), .int (-1), .int 0, .int 0, .int 0, .int 0]))) 18 (ad 18, .inr (6, [.ref (ad 11), .int (-1), .int 0, .int 0, .int 0, .int 0]))) 18 (ad 18, .inr (6, [.ref (ad 11), .int (-1), .int 0, .int 1, .int 0, .int 0]))) 18 (ad 18, .inr (6, [.ref (ad 11), .int (-1), .int 0, .int 1, .int 1, .int 0]))) 18 (ad 18, .inr (6, [.ref (ad 11), .int (-1), .int 0, .int 1, .int 1, .int 1]))) 73 (w3, .inr (0, [.int 0, .int 0, .ref ((w4.1 1)), .long w5.1, .int w5.2.1, .int 0, .int 0, .int 0, .int 0, .int 0, .int (-1), .int 0, .int (-1), .int (-1), .int (-1), .int 0, .long 0, .int 0])))) ((xT ca ++ [((w4.2 1), .byte)])) sz)) (va_Qi (fun (r : Int32) (_ : Unit) => (r = 19)) (fun _ _ => True) (va_A [] sz)) 0 0 (va_A [] sz) := by
  refine Met.ofW (cc := cX12_lastLetter) (maxL := 3) (ret := (some .int)) (by decide) rfl ?_
  intro p e s m args below meth c s₁ B hml hv
  obtain ⟨rfl, hsz, hP, hK, hD0⟩ := hv
  have hx := B.exec
  have hb := B.bytes
  have hr := B.returns
  have hts := atoms_spec (ws := (jk yX12_lastLetter cX12_lastLetter 3 (some .int))) B.pre
  have hown : s.vm.findClass RX12 = some m.cls := findClass_of_methodNamed B.named
  have hlocks := B.notSynchronized
  subst hsz
  have hD := hD0
  generalize hAe : (va_A [] s.heap.size) = A
  have hA : ∀ q : Nat, s.heap.size ≤ q → A q := fun q h => by rw [← hAe]; exact Or.inr h
  have hS : va_S A s.heap s.heap [] := va_S.rf
  have hP : va_P (dC, dI) vwCl ((jS (jS (jS (jS (jS (jS (jS (jS (jA (xW ad ca) [(w3, .inr (0, [.int 0, .int 0, .ref ((w4.1 1)), .long w5.1, .int w5.2.1, .int 0, .int 0, .int 0, .int 0, .int 0, .int (-1), .int 0, .int (-1), .int (-1), .int (-1), .int 0, .long 0, .int 0])), ((w4.1 1), .inl ((w4.2 1), (jN w0 w1 w2), .inl w5.2.2))]) 38 (ad 38, .inl ((ca 38), 60, .inr (.inr (.inr (.inr (va_up (fun _ => none) 0 (some (w3))))))))) 0 (ad 0, .inr (12, [.int 0, .int 0, .ref (ad 1), .ref (ad 11), .ref (ad 18), .ref (ad 19), .ref (ad 38), .int 1, .ref (ad 39), .int 0, .ref (ad 40), .int 0, .ref (ad 41), .int 0, .ref (ad 42), .ref (ad 53), .ref (ad 54), .ref (ad 55), .ref (ad 61), .ref (ad 70)]))) 18 (ad 18, .inr (6, [.ref (ad 11), .int (-1), .int 0, .int 0, .int 0, .int 0]))) 18 (ad 18, .inr (6, [.ref (ad 11), .int (-1), .int 0, .int 0, .int 0, .int 0]))) 18 (ad 18, .inr (6, [.ref (ad 11), .int (-1), .int 0, .int 1, .int 0, .int 0]))) 18 (ad 18, .inr (6, [.ref (ad 11), .int (-1), .int 0, .int 1, .int 1, .int 0]))) 18 (ad 18, .inr (6, [.ref (ad 11), .int (-1), .int 0, .int 1, .int 1, .int 1]))) 73 (w3, .inr (0, [.int 0, .int 0, .ref ((w4.1 1)), .long w5.1, .int w5.2.1, .int 0, .int 0, .int 0, .int 0, .int 0, .int (-1), .int 0, .int (-1), .int (-1), .int (-1), .int 0, .long 0, .int 0])))) s.heap := hP
  have hl := lv_entry ([.ref (ad 0), .int 3]) (n := 3) (Nat.le_of_ble_eq_true rfl)
  rw [lg_entry_eq]
  generalize (lg_sl ([.ref (ad 0), .int 3]) ++ List.replicate (3 - (lg_sl ([.ref (ad 0), .int 3])).length) Slot.unset).toArray = ls at hl ⊢
  have hl : lv_has ls 3 [(0, .ref (ad 0)), (1, .int 3)] := hl
  refine lv_aload_n hx hb dX12_lastLetter_0 rfl (lv_at hl 0 rfl) ?_
  refine lv_iload_n hx hb dX12_lastLetter_1 rfl (lv_at hl 1 rfl) ?_
  refine jc_q (va_runV (As := [.int 3]) (rest := []) ⟨hx, hb, hml, hown, hts⟩ (kX12_volumeAt_18 l dC dI _ ad ca w0 w1 w2 w3 w4 w5 gl74 gh74) (cwV 1 hts (jgoodV m_232 m_233 m_234 m_210 m_235) rfl rfl rfl (by decide +kernel) ⟨Nat.le_of_ble_eq_true rfl, Nat.le_of_ble_eq_true rfl⟩) ⟨jw_blind, va_recv hK hP (ci := 12) (q0 := 0) rfl (jg_n (Nat.ne_of_beq_eq_false rfl) (jg_n (Nat.ne_of_beq_eq_false rfl) (jg_n (Nat.ne_of_beq_eq_false rfl) (jg_n (Nat.ne_of_beq_eq_false rfl) (jg_n (Nat.ne_of_beq_eq_false rfl) (jg_n (Nat.ne_of_beq_eq_false rfl) (jg_s (n := 75) (jn_s (jn_a (n := 73) (m := 2) rfl rfl)) (Nat.le_of_ble_eq_true rfl)))))))), fun U hU hW => ⟨rfl, jw_of hU hW hP hK hD⟩⟩ rfl rfl hl.1 rfl (lv_room (Nat.le_of_ble_eq_true rfl)) dX12_lastLetter_2 ⟨Nat.le_of_ble_eq_true rfl, Nat.le_of_ble_eq_true rfl⟩) hP hS hA (fun r_1 H locs hw_1 hP hS => ?_)
  have hw_1 : some (ad 29) = r_1 := Eq.symm hw_1
  subst hw_1
  refine jt_q (Value.ref (ad 29)) rfl ?_
  refine lv_astore_n (lv' := [(2, .ref (ad 29)), (0, .ref (ad 0)), (1, .int 3)]) hx hb dX12_lastLetter_5 rfl hl (by decide) rfl (fun ls hl => ?_)
  refine lv_aload_n hx hb dX12_lastLetter_6 rfl (lv_at hl 0 rfl) ?_
  refine lv_ifnonnull (tgt := 14) hx hb dX12_lastLetter_7 (by decide) ?_
  refine lv_aload_n hx hb dX12_lastLetter_14 rfl (lv_at hl 0 rfl) ?_
  refine va_get (D := (dC, dI)) (ci := 11) (v := .int 19) (C := RX11) (T := TX11) (N := 7) hx hb hts (jh hin_RX11) hown hK hP 29 (jg_n (Nat.ne_of_beq_eq_false rfl) (jg_n (Nat.ne_of_beq_eq_false rfl) (jg_n (Nat.ne_of_beq_eq_false rfl) (jg_n (Nat.ne_of_beq_eq_false rfl) (jg_n (Nat.ne_of_beq_eq_false rfl) (jg_n (Nat.ne_of_beq_eq_false rfl) (jg_n (Nat.ne_of_beq_eq_false rfl) (jg_n (Nat.ne_of_beq_eq_false rfl) (jg_l rfl))))))))) rfl 0 (by decide) (hts (.fieldLink RX12 164 "BookOfAll$Volume" "lastLetter" "I") (jm m_240)) (fun _ h9 => h9) rfl dX12_lastLetter_15 ?_
  exact W.iret (v := 19) hx hb hr (fun t ht hW => ⟨⟨19, (), rfl, rfl, trivial⟩, hS.F ht⟩) hS.2.2 dX12_lastLetter_18
set_option maxHeartbeats 1000000 in
set_option maxRecDepth 100000 in
theorem kX12_volumeAt_19 (l : Launch) (dC : Nat → ClassId) (dI : Nat → Nat → Nat) (sz : Nat) (ad : Nat → Nat) (ca : Nat → ClassId) (w0 : Int32) (w1 : Int32) (w2 : Int32) (w3 : Nat) (w4 : (Nat → Nat) × (Nat → ClassId)) (w5 : Int64 × Int32 × (Nat → Int32)) (gl74 : 1 ≤ nI (jN w0 w1 w2)) (gh74 : nI (jN w0 w1 w2) ≤ 12) : Met l yX12_volumeAt (jk yX12_volumeAt cX12_volumeAt 2 (some (.object "BookOfAll$Volume"))) ({ frames := 1, cells := 0, slots := 0, locals := 21 }) (va_Pc [.ref (ad 0), .int 4] (jw_P (dC, dI) ((jS (jS (jS (jS (jS (jS (jS (jS (jA (xW ad ca) [(w3, .inr (0, [.int 0, .int 0, .ref ((w4.1 1)), .long w5.1, .int w5.2.1, .int 0, .int 0, .int 0, .int 0, .int 0, .int (-1), .int 0, .int (-1), .int (-1), .int (-1), .int 0, .long 0, .int 0])), ((w4.1 1), .inl ((w4.2 1), (jN w0 w1 w2), .inl w5.2.2))]) 38 (ad 38, .inl ((ca 38), 60, .inr (.inr (.inr (.inr (va_up (fun _ => none) 0 (some (w3))))))))) 0 (ad 0, .inr (12, [.int 0, .int 0, .ref (ad 1), .ref (ad 11), .ref (ad 18), .ref (ad 19), .ref (ad 38), .int 1, .ref (ad 39), .int 0, .ref (ad 40), .int 0, .ref (ad 41), .int 0, .ref (ad 42), .ref (ad 53), .ref (ad 54), .ref (ad 55), .ref (ad 61), .ref (ad 70)]))) 18 (ad 18, .inr (6, [.ref (ad 11), .int (-1), .int 0, .int 0, .int 0, .int 0]))) 18 (ad 18, .inr (6, [.ref (ad 11), .int (-1), .int 0, .int 0, .int 0, .int 0]))) 18 (ad 18, .inr (6, [.ref (ad 11), .int (-1), .int 0, .int 1, .int 0, .int 0]))) 18 (ad 18, .inr (6, [.ref (ad 11), .int (-1), .int 0, .int 1, .int 1, .int 0]))) 18 (ad 18, .inr (6, [.ref (ad 11), .int (-1), .int 0, .int 1, .int 1, .int 1]))) 73 (w3, .inr (0, [.int 0, .int 0, .ref ((w4.1 1)), .long w5.1, .int w5.2.1, .int 0, .int 0, .int 0, .int 0, .int 0, .int (-1), .int 0, .int (-1), .int (-1), .int (-1), .int 0, .long 0, .int 0])))) ((xT ca ++ [((w4.2 1), .byte)])) sz)) (va_Qq (fun (r : Option Nat) (_ : Unit) => (r = some (ad 32))) (fun _ _ => True) (va_A [] sz)) 0 0 (va_A [] sz) := by
  refine Met.ofW (cc := cX12_volumeAt) (maxL := 2) (ret := (some (.object "BookOfAll$Volume"))) (by decide) rfl ?_
  intro p e s m args below meth c s₁ B hml hv
  obtain ⟨rfl, hsz, hP, hK, hD0⟩ := hv
  have hx := B.exec
  have hb := B.bytes
  have hr := B.returns
  have hts := atoms_spec (ws := (jk yX12_volumeAt cX12_volumeAt 2 (some (.object "BookOfAll$Volume")))) B.pre
  have hown : s.vm.findClass RX12 = some m.cls := findClass_of_methodNamed B.named
  have hlocks := B.notSynchronized
  subst hsz
  have hD := hD0
  generalize hAe : (va_A [] s.heap.size) = A
  have hA : ∀ q : Nat, s.heap.size ≤ q → A q := fun q h => by rw [← hAe]; exact Or.inr h
  have hS : va_S A s.heap s.heap [] := va_S.rf
  have hP : va_P (dC, dI) vwCl ((jS (jS (jS (jS (jS (jS (jS (jS (jA (xW ad ca) [(w3, .inr (0, [.int 0, .int 0, .ref ((w4.1 1)), .long w5.1, .int w5.2.1, .int 0, .int 0, .int 0, .int 0, .int 0, .int (-1), .int 0, .int (-1), .int (-1), .int (-1), .int 0, .long 0, .int 0])), ((w4.1 1), .inl ((w4.2 1), (jN w0 w1 w2), .inl w5.2.2))]) 38 (ad 38, .inl ((ca 38), 60, .inr (.inr (.inr (.inr (va_up (fun _ => none) 0 (some (w3))))))))) 0 (ad 0, .inr (12, [.int 0, .int 0, .ref (ad 1), .ref (ad 11), .ref (ad 18), .ref (ad 19), .ref (ad 38), .int 1, .ref (ad 39), .int 0, .ref (ad 40), .int 0, .ref (ad 41), .int 0, .ref (ad 42), .ref (ad 53), .ref (ad 54), .ref (ad 55), .ref (ad 61), .ref (ad 70)]))) 18 (ad 18, .inr (6, [.ref (ad 11), .int (-1), .int 0, .int 0, .int 0, .int 0]))) 18 (ad 18, .inr (6, [.ref (ad 11), .int (-1), .int 0, .int 0, .int 0, .int 0]))) 18 (ad 18, .inr (6, [.ref (ad 11), .int (-1), .int 0, .int 1, .int 0, .int 0]))) 18 (ad 18, .inr (6, [.ref (ad 11), .int (-1), .int 0, .int 1, .int 1, .int 0]))) 18 (ad 18, .inr (6, [.ref (ad 11), .int (-1), .int 0, .int 1, .int 1, .int 1]))) 73 (w3, .inr (0, [.int 0, .int 0, .ref ((w4.1 1)), .long w5.1, .int w5.2.1, .int 0, .int 0, .int 0, .int 0, .int 0, .int (-1), .int 0, .int (-1), .int (-1), .int (-1), .int 0, .long 0, .int 0])))) s.heap := hP
  have hl := lv_entry ([.ref (ad 0), .int 4]) (n := 2) (Nat.le_of_ble_eq_true rfl)
  rw [lg_entry_eq]
  generalize (lg_sl ([.ref (ad 0), .int 4]) ++ List.replicate (2 - (lg_sl ([.ref (ad 0), .int 4])).length) Slot.unset).toArray = ls at hl ⊢
  have hl : lv_has ls 2 [(0, .ref (ad 0)), (1, .int 4)] := hl
  refine lv_aload_n hx hb dX12_volumeAt_0 rfl (lv_at hl 0 rfl) ?_
  refine lv_iload_n hx hb dX12_volumeAt_1 rfl (lv_at hl 1 rfl) ?_
  refine jc_i (va_runV (As := [.int 4]) (rest := []) ⟨hx, hb, hml, hown, hts⟩ (kX12_isVolume_7 l dC dI _ (ad 0)) (cwV 1 hts (jgoodV m_207 m_208 m_209 m_210 m_211) rfl rfl rfl (by decide +kernel) ⟨Nat.le_of_ble_eq_true rfl, Nat.le_of_ble_eq_true rfl⟩) ⟨jw_blind0, va_recv hK hP (ci := 12) (q0 := 0) rfl (jg_n (Nat.ne_of_beq_eq_false rfl) (jg_n (Nat.ne_of_beq_eq_false rfl) (jg_n (Nat.ne_of_beq_eq_false rfl) (jg_n (Nat.ne_of_beq_eq_false rfl) (jg_n (Nat.ne_of_beq_eq_false rfl) (jg_n (Nat.ne_of_beq_eq_false rfl) (jg_s (n := 75) (jn_s (jn_a (n := 73) (m := 2) rfl rfl)) (Nat.le_of_ble_eq_true rfl)))))))), fun U hU hW => ⟨rfl, congrArg Array.size hU⟩⟩ rfl rfl hl.1 rfl (lv_room (Nat.le_of_ble_eq_true rfl)) dX12_volumeAt_2 ⟨Nat.le_of_ble_eq_true rfl, Nat.le_of_ble_eq_true rfl⟩) hP hS hA (fun r_1 H locs hw_1 hP hS => ?_)
  have hw_1 : 1 = r_1 := Eq.symm hw_1
  subst hw_1
  refine lv_if_eq (tgt := 17) hx hb dX12_volumeAt_5 (by decide) (fun z => absurd z (by decide)) (fun _ => ?_)
  refine lv_aload_n hx hb dX12_volumeAt_8 rfl (lv_at hl 0 rfl) ?_
  refine va_get (D := (dC, dI)) (ci := 12) (v := .ref (ad 19)) (C := RX12) (T := TX12) (N := 20) hx hb hts (jh hin_RX12) hown hK hP 0 (jg_n (Nat.ne_of_beq_eq_false rfl) (jg_n (Nat.ne_of_beq_eq_false rfl) (jg_n (Nat.ne_of_beq_eq_false rfl) (jg_n (Nat.ne_of_beq_eq_false rfl) (jg_n (Nat.ne_of_beq_eq_false rfl) (jg_n (Nat.ne_of_beq_eq_false rfl) (jg_s (n := 75) (jn_s (jn_a (n := 73) (m := 2) rfl rfl)) (Nat.le_of_ble_eq_true rfl)))))))) rfl 5 (by decide) (hts (.fieldLink RX12 34 "BookOfAll" "volumes" "[LBookOfAll$Volume;") (jm m_231)) (fun _ h9 => h9) rfl dX12_volumeAt_9 ?_
  refine lv_iload_n hx hb dX12_volumeAt_12 rfl (lv_at hl 1 rfl) ?_
  refine va_aldq hx hb hK hP 19 15 (jg_n (Nat.ne_of_beq_eq_false rfl) (jg_n (Nat.ne_of_beq_eq_false rfl) (jg_n (Nat.ne_of_beq_eq_false rfl) (jg_n (Nat.ne_of_beq_eq_false rfl) (jg_n (Nat.ne_of_beq_eq_false rfl) (jg_n (Nat.ne_of_beq_eq_false rfl) (jg_n (Nat.ne_of_beq_eq_false rfl) (jg_n (Nat.ne_of_beq_eq_false rfl) (jg_l rfl))))))))) rfl (vp_in_nI (n := 4) (by decide) (by decide)) dX12_volumeAt_13 ?_
  refine jt_q (Value.ref (ad 32)) rfl ?_
  refine lv_goto (tgt := 18) hx hb dX12_volumeAt_14 (by decide) ?_
  exact W.aret (v := .ref (ad 32)) hx hb hr (Or.inl ⟨_, rfl⟩) (Or.inr ⟨_, rfl⟩) (fun t ht hW => ⟨⟨some (ad 32), (), rfl, rfl, trivial⟩, hS.F ht⟩) hS.2.2 dX12_volumeAt_18
set_option maxHeartbeats 1000000 in
set_option maxRecDepth 100000 in
theorem kX12_lastLetter_19 (l : Launch) (dC : Nat → ClassId) (dI : Nat → Nat → Nat) (sz : Nat) (ad : Nat → Nat) (ca : Nat → ClassId) (w0 : Int32) (w1 : Int32) (w2 : Int32) (w3 : Nat) (w4 : (Nat → Nat) × (Nat → ClassId)) (w5 : Int64 × Int32 × (Nat → Int32)) (gl74 : 1 ≤ nI (jN w0 w1 w2)) (gh74 : nI (jN w0 w1 w2) ≤ 12) : Met l yX12_lastLetter (jk yX12_lastLetter cX12_lastLetter 3 (some .int)) ({ frames := 2, cells := 0, slots := 0, locals := 42 }) (va_Pc [.ref (ad 0), .int 4] (jw_P (dC, dI) ((jS (jS (jS (jS (jS (jS (jS (jS (jA (xW ad ca) [(w3, .inr (0, [.int 0, .int 0, .ref ((w4.1 1)), .long w5.1, .int w5.2.1, .int 0, .int 0, .int 0, .int 0, .int 0, .int (-1), .int 0, .int (-1), .int (-1), .int (-1), .int 0, .long 0, .int 0])), ((w4.1 1), .inl ((w4.2 1), (jN w0 w1 w2), .inl w5.2.2))]) 38 (ad 38, .inl ((ca 38), 60, .inr (.inr (.inr (.inr (va_up (fun _ => none) 0 (some (w3))))))))) 0 (ad 0, .inr (12, [.int 0, .int 0, .ref (ad 1), .ref (ad 11), .ref (ad 18), .ref (ad 19), .ref (ad 38), .int 1, .ref (ad 39), .int 0, .ref (ad 40), .int 0, .ref (ad 41), .int 0, .ref (ad 42), .ref (ad 53), .ref (ad 54), .ref (ad 55), .ref (ad 61), .ref (ad 70)]))) 18 (ad 18, .inr (6, [.ref (ad 11), .int (-1), .int 0, .int 0, .int 0, .int 0]))) 18 (ad 18, .inr (6, [.ref (ad 11), .int (-1), .int 0, .int 0, .int 0, .int 0]))) 18 (ad 18, .inr (6, [.ref (ad 11), .int (-1), .int 0, .int 1, .int 0, .int 0]))) 18 (ad 18, .inr (6, [.ref (ad 11), .int (-1), .int 0, .int 1, .int 1, .int 0]))) 18 (ad 18, .inr (6, [.ref (ad 11), .int (-1), .int 0, .int 1, .int 1, .int 1]))) 73 (w3, .inr (0, [.int 0, .int 0, .ref ((w4.1 1)), .long w5.1, .int w5.2.1, .int 0, .int 0, .int 0, .int 0, .int 0, .int (-1), .int 0, .int (-1), .int (-1), .int (-1), .int 0, .long 0, .int 0])))) ((xT ca ++ [((w4.2 1), .byte)])) sz)) (va_Qi (fun (r : Int32) (_ : Unit) => (r = 24)) (fun _ _ => True) (va_A [] sz)) 0 0 (va_A [] sz) := by
  refine Met.ofW (cc := cX12_lastLetter) (maxL := 3) (ret := (some .int)) (by decide) rfl ?_
  intro p e s m args below meth c s₁ B hml hv
  obtain ⟨rfl, hsz, hP, hK, hD0⟩ := hv
  have hx := B.exec
  have hb := B.bytes
  have hr := B.returns
  have hts := atoms_spec (ws := (jk yX12_lastLetter cX12_lastLetter 3 (some .int))) B.pre
  have hown : s.vm.findClass RX12 = some m.cls := findClass_of_methodNamed B.named
  have hlocks := B.notSynchronized
  subst hsz
  have hD := hD0
  generalize hAe : (va_A [] s.heap.size) = A
  have hA : ∀ q : Nat, s.heap.size ≤ q → A q := fun q h => by rw [← hAe]; exact Or.inr h
  have hS : va_S A s.heap s.heap [] := va_S.rf
  have hP : va_P (dC, dI) vwCl ((jS (jS (jS (jS (jS (jS (jS (jS (jA (xW ad ca) [(w3, .inr (0, [.int 0, .int 0, .ref ((w4.1 1)), .long w5.1, .int w5.2.1, .int 0, .int 0, .int 0, .int 0, .int 0, .int (-1), .int 0, .int (-1), .int (-1), .int (-1), .int 0, .long 0, .int 0])), ((w4.1 1), .inl ((w4.2 1), (jN w0 w1 w2), .inl w5.2.2))]) 38 (ad 38, .inl ((ca 38), 60, .inr (.inr (.inr (.inr (va_up (fun _ => none) 0 (some (w3))))))))) 0 (ad 0, .inr (12, [.int 0, .int 0, .ref (ad 1), .ref (ad 11), .ref (ad 18), .ref (ad 19), .ref (ad 38), .int 1, .ref (ad 39), .int 0, .ref (ad 40), .int 0, .ref (ad 41), .int 0, .ref (ad 42), .ref (ad 53), .ref (ad 54), .ref (ad 55), .ref (ad 61), .ref (ad 70)]))) 18 (ad 18, .inr (6, [.ref (ad 11), .int (-1), .int 0, .int 0, .int 0, .int 0]))) 18 (ad 18, .inr (6, [.ref (ad 11), .int (-1), .int 0, .int 0, .int 0, .int 0]))) 18 (ad 18, .inr (6, [.ref (ad 11), .int (-1), .int 0, .int 1, .int 0, .int 0]))) 18 (ad 18, .inr (6, [.ref (ad 11), .int (-1), .int 0, .int 1, .int 1, .int 0]))) 18 (ad 18, .inr (6, [.ref (ad 11), .int (-1), .int 0, .int 1, .int 1, .int 1]))) 73 (w3, .inr (0, [.int 0, .int 0, .ref ((w4.1 1)), .long w5.1, .int w5.2.1, .int 0, .int 0, .int 0, .int 0, .int 0, .int (-1), .int 0, .int (-1), .int (-1), .int (-1), .int 0, .long 0, .int 0])))) s.heap := hP
  have hl := lv_entry ([.ref (ad 0), .int 4]) (n := 3) (Nat.le_of_ble_eq_true rfl)
  rw [lg_entry_eq]
  generalize (lg_sl ([.ref (ad 0), .int 4]) ++ List.replicate (3 - (lg_sl ([.ref (ad 0), .int 4])).length) Slot.unset).toArray = ls at hl ⊢
  have hl : lv_has ls 3 [(0, .ref (ad 0)), (1, .int 4)] := hl
  refine lv_aload_n hx hb dX12_lastLetter_0 rfl (lv_at hl 0 rfl) ?_
  refine lv_iload_n hx hb dX12_lastLetter_1 rfl (lv_at hl 1 rfl) ?_
  refine jc_q (va_runV (As := [.int 4]) (rest := []) ⟨hx, hb, hml, hown, hts⟩ (kX12_volumeAt_19 l dC dI _ ad ca w0 w1 w2 w3 w4 w5 gl74 gh74) (cwV 1 hts (jgoodV m_232 m_233 m_234 m_210 m_235) rfl rfl rfl (by decide +kernel) ⟨Nat.le_of_ble_eq_true rfl, Nat.le_of_ble_eq_true rfl⟩) ⟨jw_blind, va_recv hK hP (ci := 12) (q0 := 0) rfl (jg_n (Nat.ne_of_beq_eq_false rfl) (jg_n (Nat.ne_of_beq_eq_false rfl) (jg_n (Nat.ne_of_beq_eq_false rfl) (jg_n (Nat.ne_of_beq_eq_false rfl) (jg_n (Nat.ne_of_beq_eq_false rfl) (jg_n (Nat.ne_of_beq_eq_false rfl) (jg_s (n := 75) (jn_s (jn_a (n := 73) (m := 2) rfl rfl)) (Nat.le_of_ble_eq_true rfl)))))))), fun U hU hW => ⟨rfl, jw_of hU hW hP hK hD⟩⟩ rfl rfl hl.1 rfl (lv_room (Nat.le_of_ble_eq_true rfl)) dX12_lastLetter_2 ⟨Nat.le_of_ble_eq_true rfl, Nat.le_of_ble_eq_true rfl⟩) hP hS hA (fun r_1 H locs hw_1 hP hS => ?_)
  have hw_1 : some (ad 32) = r_1 := Eq.symm hw_1
  subst hw_1
  refine jt_q (Value.ref (ad 32)) rfl ?_
  refine lv_astore_n (lv' := [(2, .ref (ad 32)), (0, .ref (ad 0)), (1, .int 4)]) hx hb dX12_lastLetter_5 rfl hl (by decide) rfl (fun ls hl => ?_)
  refine lv_aload_n hx hb dX12_lastLetter_6 rfl (lv_at hl 0 rfl) ?_
  refine lv_ifnonnull (tgt := 14) hx hb dX12_lastLetter_7 (by decide) ?_
  refine lv_aload_n hx hb dX12_lastLetter_14 rfl (lv_at hl 0 rfl) ?_
  refine va_get (D := (dC, dI)) (ci := 11) (v := .int 24) (C := RX11) (T := TX11) (N := 7) hx hb hts (jh hin_RX11) hown hK hP 32 (jg_n (Nat.ne_of_beq_eq_false rfl) (jg_n (Nat.ne_of_beq_eq_false rfl) (jg_n (Nat.ne_of_beq_eq_false rfl) (jg_n (Nat.ne_of_beq_eq_false rfl) (jg_n (Nat.ne_of_beq_eq_false rfl) (jg_n (Nat.ne_of_beq_eq_false rfl) (jg_n (Nat.ne_of_beq_eq_false rfl) (jg_n (Nat.ne_of_beq_eq_false rfl) (jg_l rfl))))))))) rfl 0 (by decide) (hts (.fieldLink RX12 164 "BookOfAll$Volume" "lastLetter" "I") (jm m_240)) (fun _ h9 => h9) rfl dX12_lastLetter_15 ?_
  exact W.iret (v := 24) hx hb hr (fun t ht hW => ⟨⟨24, (), rfl, rfl, trivial⟩, hS.F ht⟩) hS.2.2 dX12_lastLetter_18
set_option maxHeartbeats 1000000 in
set_option maxRecDepth 100000 in
theorem kX12_volumeByKey_2 (l : Launch) (dC : Nat → ClassId) (dI : Nat → Nat → Nat) (sz : Nat) (ad : Nat → Nat) (ca : Nat → ClassId) (w0 : Int32) (w1 : Int32) (w2 : Int32) (w3 : Nat) (w4 : (Nat → Nat) × (Nat → ClassId)) (w5 : Int64 × Int32 × (Nat → Int32)) (gl74 : 1 ≤ nI (jN w0 w1 w2)) (gh74 : nI (jN w0 w1 w2) ≤ 12) : Met l yX12_volumeByKey (jk yX12_volumeByKey cX12_volumeByKey 5 (some .int)) ({ frames := 3, cells := 0, slots := 0, locals := 64 }) (va_Pc [.ref (ad 0), .ref w3] (jw_P (dC, dI) ((jS (jS (jS (jS (jS (jS (jS (jA (xW ad ca) [(w3, .inr (0, [.int 0, .int 0, .ref ((w4.1 1)), .long w5.1, .int w5.2.1, .int 0, .int 0, .int 0, .int 0, .int 0, .int (-1), .int 0, .int (-1), .int (-1), .int (-1), .int 0, .long 0, .int 0])), ((w4.1 1), .inl ((w4.2 1), (jN w0 w1 w2), .inl w5.2.2))]) 38 (ad 38, .inl ((ca 38), 60, .inr (.inr (.inr (.inr (va_up (fun _ => none) 0 (some (w3))))))))) 0 (ad 0, .inr (12, [.int 0, .int 0, .ref (ad 1), .ref (ad 11), .ref (ad 18), .ref (ad 19), .ref (ad 38), .int 1, .ref (ad 39), .int 0, .ref (ad 40), .int 0, .ref (ad 41), .int 0, .ref (ad 42), .ref (ad 53), .ref (ad 54), .ref (ad 55), .ref (ad 61), .ref (ad 70)]))) 18 (ad 18, .inr (6, [.ref (ad 11), .int (-1), .int 0, .int 0, .int 0, .int 0]))) 18 (ad 18, .inr (6, [.ref (ad 11), .int (-1), .int 0, .int 0, .int 0, .int 0]))) 18 (ad 18, .inr (6, [.ref (ad 11), .int (-1), .int 0, .int 1, .int 0, .int 0]))) 18 (ad 18, .inr (6, [.ref (ad 11), .int (-1), .int 0, .int 1, .int 1, .int 0]))) 18 (ad 18, .inr (6, [.ref (ad 11), .int (-1), .int 0, .int 1, .int 1, .int 1])))) ((xT ca ++ [((w4.2 1), .byte)])) sz)) (va_Qi (fun (r : Int32) (_ : Unit) => True) (fun _ t => va_P (dC, dI) vwCl ((jS (jS (jS (jS (jS (jS (jS (jS (jA (xW ad ca) [(w3, .inr (0, [.int 0, .int 0, .ref ((w4.1 1)), .long w5.1, .int w5.2.1, .int 0, .int 0, .int 0, .int 0, .int 0, .int (-1), .int 0, .int (-1), .int (-1), .int (-1), .int 0, .long 0, .int 0])), ((w4.1 1), .inl ((w4.2 1), (jN w0 w1 w2), .inl w5.2.2))]) 38 (ad 38, .inl ((ca 38), 60, .inr (.inr (.inr (.inr (va_up (fun _ => none) 0 (some (w3))))))))) 0 (ad 0, .inr (12, [.int 0, .int 0, .ref (ad 1), .ref (ad 11), .ref (ad 18), .ref (ad 19), .ref (ad 38), .int 1, .ref (ad 39), .int 0, .ref (ad 40), .int 0, .ref (ad 41), .int 0, .ref (ad 42), .ref (ad 53), .ref (ad 54), .ref (ad 55), .ref (ad 61), .ref (ad 70)]))) 18 (ad 18, .inr (6, [.ref (ad 11), .int (-1), .int 0, .int 0, .int 0, .int 0]))) 18 (ad 18, .inr (6, [.ref (ad 11), .int (-1), .int 0, .int 0, .int 0, .int 0]))) 18 (ad 18, .inr (6, [.ref (ad 11), .int (-1), .int 0, .int 1, .int 0, .int 0]))) 18 (ad 18, .inr (6, [.ref (ad 11), .int (-1), .int 0, .int 1, .int 1, .int 0]))) 18 (ad 18, .inr (6, [.ref (ad 11), .int (-1), .int 0, .int 1, .int 1, .int 1]))) 73 (w3, .inr (0, [.int 0, .int 0, .ref ((w4.1 1)), .long w5.1, .int w5.2.1, .int 0, .int 0, .int 0, .int 0, .int 0, .int (-1), .int 0, .int (-1), .int (-1), .int (-1), .int 0, .long 0, .int 0])))) t.heap ∧ va_K (dC, dI) vwCl ((xT ca ++ [((w4.2 1), .byte)])) t ∧ va_D (va_A ((jS (jS (jS (jS (jS (jS (jS (jA (xW ad ca) [(w3, .inr (0, [.int 0, .int 0, .ref ((w4.1 1)), .long w5.1, .int w5.2.1, .int 0, .int 0, .int 0, .int 0, .int 0, .int (-1), .int 0, .int (-1), .int (-1), .int (-1), .int 0, .long 0, .int 0])), ((w4.1 1), .inl ((w4.2 1), (jN w0 w1 w2), .inl w5.2.2))]) 38 (ad 38, .inl ((ca 38), 60, .inr (.inr (.inr (.inr (va_up (fun _ => none) 0 (some (w3))))))))) 0 (ad 0, .inr (12, [.int 0, .int 0, .ref (ad 1), .ref (ad 11), .ref (ad 18), .ref (ad 19), .ref (ad 38), .int 1, .ref (ad 39), .int 0, .ref (ad 40), .int 0, .ref (ad 41), .int 0, .ref (ad 42), .ref (ad 53), .ref (ad 54), .ref (ad 55), .ref (ad 61), .ref (ad 70)]))) 18 (ad 18, .inr (6, [.ref (ad 11), .int (-1), .int 0, .int 0, .int 0, .int 0]))) 18 (ad 18, .inr (6, [.ref (ad 11), .int (-1), .int 0, .int 0, .int 0, .int 0]))) 18 (ad 18, .inr (6, [.ref (ad 11), .int (-1), .int 0, .int 1, .int 0, .int 0]))) 18 (ad 18, .inr (6, [.ref (ad 11), .int (-1), .int 0, .int 1, .int 1, .int 0]))) 18 (ad 18, .inr (6, [.ref (ad 11), .int (-1), .int 0, .int 1, .int 1, .int 1])))) sz) ((jS (jS (jS (jS (jS (jS (jS (jS (jA (xW ad ca) [(w3, .inr (0, [.int 0, .int 0, .ref ((w4.1 1)), .long w5.1, .int w5.2.1, .int 0, .int 0, .int 0, .int 0, .int 0, .int (-1), .int 0, .int (-1), .int (-1), .int (-1), .int 0, .long 0, .int 0])), ((w4.1 1), .inl ((w4.2 1), (jN w0 w1 w2), .inl w5.2.2))]) 38 (ad 38, .inl ((ca 38), 60, .inr (.inr (.inr (.inr (va_up (fun _ => none) 0 (some (w3))))))))) 0 (ad 0, .inr (12, [.int 0, .int 0, .ref (ad 1), .ref (ad 11), .ref (ad 18), .ref (ad 19), .ref (ad 38), .int 1, .ref (ad 39), .int 0, .ref (ad 40), .int 0, .ref (ad 41), .int 0, .ref (ad 42), .ref (ad 53), .ref (ad 54), .ref (ad 55), .ref (ad 61), .ref (ad 70)]))) 18 (ad 18, .inr (6, [.ref (ad 11), .int (-1), .int 0, .int 0, .int 0, .int 0]))) 18 (ad 18, .inr (6, [.ref (ad 11), .int (-1), .int 0, .int 0, .int 0, .int 0]))) 18 (ad 18, .inr (6, [.ref (ad 11), .int (-1), .int 0, .int 1, .int 0, .int 0]))) 18 (ad 18, .inr (6, [.ref (ad 11), .int (-1), .int 0, .int 1, .int 1, .int 0]))) 18 (ad 18, .inr (6, [.ref (ad 11), .int (-1), .int 0, .int 1, .int 1, .int 1]))) 73 (w3, .inr (0, [.int 0, .int 0, .ref ((w4.1 1)), .long w5.1, .int w5.2.1, .int 0, .int 0, .int 0, .int 0, .int 0, .int (-1), .int 0, .int (-1), .int (-1), .int (-1), .int 0, .long 0, .int 0]))))) (va_A ((jS (jS (jS (jS (jS (jS (jS (jA (xW ad ca) [(w3, .inr (0, [.int 0, .int 0, .ref ((w4.1 1)), .long w5.1, .int w5.2.1, .int 0, .int 0, .int 0, .int 0, .int 0, .int (-1), .int 0, .int (-1), .int (-1), .int (-1), .int 0, .long 0, .int 0])), ((w4.1 1), .inl ((w4.2 1), (jN w0 w1 w2), .inl w5.2.2))]) 38 (ad 38, .inl ((ca 38), 60, .inr (.inr (.inr (.inr (va_up (fun _ => none) 0 (some (w3))))))))) 0 (ad 0, .inr (12, [.int 0, .int 0, .ref (ad 1), .ref (ad 11), .ref (ad 18), .ref (ad 19), .ref (ad 38), .int 1, .ref (ad 39), .int 0, .ref (ad 40), .int 0, .ref (ad 41), .int 0, .ref (ad 42), .ref (ad 53), .ref (ad 54), .ref (ad 55), .ref (ad 61), .ref (ad 70)]))) 18 (ad 18, .inr (6, [.ref (ad 11), .int (-1), .int 0, .int 0, .int 0, .int 0]))) 18 (ad 18, .inr (6, [.ref (ad 11), .int (-1), .int 0, .int 0, .int 0, .int 0]))) 18 (ad 18, .inr (6, [.ref (ad 11), .int (-1), .int 0, .int 1, .int 0, .int 0]))) 18 (ad 18, .inr (6, [.ref (ad 11), .int (-1), .int 0, .int 1, .int 1, .int 0]))) 18 (ad 18, .inr (6, [.ref (ad 11), .int (-1), .int 0, .int 1, .int 1, .int 1])))) sz)) 0 0 (va_A ((jS (jS (jS (jS (jS (jS (jS (jA (xW ad ca) [(w3, .inr (0, [.int 0, .int 0, .ref ((w4.1 1)), .long w5.1, .int w5.2.1, .int 0, .int 0, .int 0, .int 0, .int 0, .int (-1), .int 0, .int (-1), .int (-1), .int (-1), .int 0, .long 0, .int 0])), ((w4.1 1), .inl ((w4.2 1), (jN w0 w1 w2), .inl w5.2.2))]) 38 (ad 38, .inl ((ca 38), 60, .inr (.inr (.inr (.inr (va_up (fun _ => none) 0 (some (w3))))))))) 0 (ad 0, .inr (12, [.int 0, .int 0, .ref (ad 1), .ref (ad 11), .ref (ad 18), .ref (ad 19), .ref (ad 38), .int 1, .ref (ad 39), .int 0, .ref (ad 40), .int 0, .ref (ad 41), .int 0, .ref (ad 42), .ref (ad 53), .ref (ad 54), .ref (ad 55), .ref (ad 61), .ref (ad 70)]))) 18 (ad 18, .inr (6, [.ref (ad 11), .int (-1), .int 0, .int 0, .int 0, .int 0]))) 18 (ad 18, .inr (6, [.ref (ad 11), .int (-1), .int 0, .int 0, .int 0, .int 0]))) 18 (ad 18, .inr (6, [.ref (ad 11), .int (-1), .int 0, .int 1, .int 0, .int 0]))) 18 (ad 18, .inr (6, [.ref (ad 11), .int (-1), .int 0, .int 1, .int 1, .int 0]))) 18 (ad 18, .inr (6, [.ref (ad 11), .int (-1), .int 0, .int 1, .int 1, .int 1])))) sz) := by
  refine Met.ofW (cc := cX12_volumeByKey) (maxL := 5) (ret := (some .int)) (by decide) rfl ?_
  intro p e s m args below meth c s₁ B hml hv
  obtain ⟨rfl, hsz, hP, hK, hD0⟩ := hv
  have hx := B.exec
  have hb := B.bytes
  have hr := B.returns
  have hts := atoms_spec (ws := (jk yX12_volumeByKey cX12_volumeByKey 5 (some .int))) B.pre
  have hown : s.vm.findClass RX12 = some m.cls := findClass_of_methodNamed B.named
  have hlocks := B.notSynchronized
  subst hsz
  have hD := hD0.self (sz := s.heap.size)
  generalize hAe : (va_A ((jS (jS (jS (jS (jS (jS (jS (jA (xW ad ca) [(w3, .inr (0, [.int 0, .int 0, .ref ((w4.1 1)), .long w5.1, .int w5.2.1, .int 0, .int 0, .int 0, .int 0, .int 0, .int (-1), .int 0, .int (-1), .int (-1), .int (-1), .int 0, .long 0, .int 0])), ((w4.1 1), .inl ((w4.2 1), (jN w0 w1 w2), .inl w5.2.2))]) 38 (ad 38, .inl ((ca 38), 60, .inr (.inr (.inr (.inr (va_up (fun _ => none) 0 (some (w3))))))))) 0 (ad 0, .inr (12, [.int 0, .int 0, .ref (ad 1), .ref (ad 11), .ref (ad 18), .ref (ad 19), .ref (ad 38), .int 1, .ref (ad 39), .int 0, .ref (ad 40), .int 0, .ref (ad 41), .int 0, .ref (ad 42), .ref (ad 53), .ref (ad 54), .ref (ad 55), .ref (ad 61), .ref (ad 70)]))) 18 (ad 18, .inr (6, [.ref (ad 11), .int (-1), .int 0, .int 0, .int 0, .int 0]))) 18 (ad 18, .inr (6, [.ref (ad 11), .int (-1), .int 0, .int 0, .int 0, .int 0]))) 18 (ad 18, .inr (6, [.ref (ad 11), .int (-1), .int 0, .int 1, .int 0, .int 0]))) 18 (ad 18, .inr (6, [.ref (ad 11), .int (-1), .int 0, .int 1, .int 1, .int 0]))) 18 (ad 18, .inr (6, [.ref (ad 11), .int (-1), .int 0, .int 1, .int 1, .int 1])))) s.heap.size) = A at hD ⊢
  have hA : ∀ q : Nat, s.heap.size ≤ q → A q := fun q h => by rw [← hAe]; exact Or.inr h
  have hS : va_S A s.heap s.heap [] := va_S.rf
  have hP : va_P (dC, dI) vwCl ((jS (jS (jS (jS (jS (jS (jS (jA (xW ad ca) [(w3, .inr (0, [.int 0, .int 0, .ref ((w4.1 1)), .long w5.1, .int w5.2.1, .int 0, .int 0, .int 0, .int 0, .int 0, .int (-1), .int 0, .int (-1), .int (-1), .int (-1), .int 0, .long 0, .int 0])), ((w4.1 1), .inl ((w4.2 1), (jN w0 w1 w2), .inl w5.2.2))]) 38 (ad 38, .inl ((ca 38), 60, .inr (.inr (.inr (.inr (va_up (fun _ => none) 0 (some (w3))))))))) 0 (ad 0, .inr (12, [.int 0, .int 0, .ref (ad 1), .ref (ad 11), .ref (ad 18), .ref (ad 19), .ref (ad 38), .int 1, .ref (ad 39), .int 0, .ref (ad 40), .int 0, .ref (ad 41), .int 0, .ref (ad 42), .ref (ad 53), .ref (ad 54), .ref (ad 55), .ref (ad 61), .ref (ad 70)]))) 18 (ad 18, .inr (6, [.ref (ad 11), .int (-1), .int 0, .int 0, .int 0, .int 0]))) 18 (ad 18, .inr (6, [.ref (ad 11), .int (-1), .int 0, .int 0, .int 0, .int 0]))) 18 (ad 18, .inr (6, [.ref (ad 11), .int (-1), .int 0, .int 1, .int 0, .int 0]))) 18 (ad 18, .inr (6, [.ref (ad 11), .int (-1), .int 0, .int 1, .int 1, .int 0]))) 18 (ad 18, .inr (6, [.ref (ad 11), .int (-1), .int 0, .int 1, .int 1, .int 1])))) s.heap := hP
  have hl := lv_entry ([.ref (ad 0), .ref w3]) (n := 5) (Nat.le_of_ble_eq_true rfl)
  rw [lg_entry_eq]
  generalize (lg_sl ([.ref (ad 0), .ref w3]) ++ List.replicate (5 - (lg_sl ([.ref (ad 0), .ref w3])).length) Slot.unset).toArray = ls at hl ⊢
  have hl : lv_has ls 5 [(0, .ref (ad 0)), (1, .ref w3)] := hl
  refine lv_aload_n hx hb dX12_volumeByKey_0 rfl (lv_at hl 0 rfl) ?_
  refine va_get (D := (dC, dI)) (ci := 12) (v := .ref (ad 18)) (C := RX12) (T := TX12) (N := 20) hx hb hts (jh hin_RX12) hown hK hP 0 (jg_n (Nat.ne_of_beq_eq_false rfl) (jg_n (Nat.ne_of_beq_eq_false rfl) (jg_n (Nat.ne_of_beq_eq_false rfl) (jg_n (Nat.ne_of_beq_eq_false rfl) (jg_n (Nat.ne_of_beq_eq_false rfl) (jg_s (n := 75) (jn_s (jn_a (n := 73) (m := 2) rfl rfl)) (Nat.le_of_ble_eq_true rfl))))))) rfl 4 (by decide) (hts (.fieldLink RX12 28 "BookOfAll" "order" "LBookOfAll$Order;") (jm m_241)) (fun _ h9 => h9) rfl dX12_volumeByKey_1 ?_
  refine lv_aload_n hx hb dX12_volumeByKey_4 rfl (lv_at hl 1 rfl) ?_
  refine jcw_v (va_runV (As := [.ref w3]) (rest := []) ⟨hx, hb, hml, hown, hts⟩ (kX6_prepare_2 l dC dI _ ad ca w0 w1 w2 w3 w4 w5 gl74 gh74) (cwV 1 hts (jgoodV m_292 m_293 m_294 m_257 m_295) rfl rfl rfl (by decide +kernel) ⟨Nat.le_of_ble_eq_true rfl, Nat.le_of_ble_eq_true rfl⟩) ⟨jw_blind, va_recv hK hP (ci := 6) (q0 := 18) rfl (jg_s (n := 75) (jn_s (jn_s (jn_s (jn_s (jn_s (jn_s (jn_a (n := 73) (m := 2) rfl rfl))))))) (Nat.le_of_ble_eq_true rfl)), fun U hU hW => ⟨rfl, jw_of hU hW hP hK hD⟩⟩ rfl rfl hl.1 rfl (lv_room (Nat.le_of_ble_eq_true rfl)) dX12_volumeByKey_5 ⟨Nat.le_of_ble_eq_true rfl, Nat.le_of_ble_eq_true rfl⟩) hD hS hA (fun H locs hw_1 hP hK hD hS => ?_)
  refine lv_aload_n hx hb dX12_volumeByKey_8 rfl (lv_at hl 1 rfl) ?_
  refine lv_aload_n hx hb dX12_volumeByKey_9 rfl (lv_at hl 1 rfl) ?_
  refine va_get (D := (dC, dI)) (ci := 0) (v := .int 0) (C := RX0) (T := TX0) (N := 18) hx hb hts (jh hin_RX0) hown hK hP 73 (jg_s (n := 75) (jn_s (jn_s (jn_s (jn_s (jn_s (jn_s (jn_s (jn_a (n := 73) (m := 2) rfl rfl)))))))) (Nat.le_of_ble_eq_true rfl)) rfl 5 (by decide) (hts (.fieldLink RX12 227 "BookOfAll$Entry" "keyStart" "I") (jm m_296)) (fun _ h9 => h9) rfl dX12_volumeByKey_10 ?_
  refine jc_i (va_runV (As := [.int 0]) (rest := []) ⟨hx, hb, hml, hown, hts⟩ (kX0_byteAt_2 l dC dI _ ad ca w0 w1 w2 w3 w4 w5 gl74 gh74) (cwV 1 hts (jgoodV m_297 m_298 m_299 m_83 m_300) rfl rfl rfl (by decide +kernel) ⟨Nat.le_of_ble_eq_true rfl, Nat.le_of_ble_eq_true rfl⟩) ⟨jw_blind, va_recv hK hP (ci := 0) (q0 := 73) rfl (jg_s (n := 75) (jn_s (jn_s (jn_s (jn_s (jn_s (jn_s (jn_s (jn_a (n := 73) (m := 2) rfl rfl)))))))) (Nat.le_of_ble_eq_true rfl)), fun U hU hW => ⟨rfl, jw_of hU hW hP hK hD⟩⟩ rfl rfl hl.1 rfl (lv_room (Nat.le_of_ble_eq_true rfl)) dX12_volumeByKey_13 ⟨Nat.le_of_ble_eq_true rfl, Nat.le_of_ble_eq_true rfl⟩) hP hS hA (fun r_2 H locs hw_2 hP hS => ?_)
  have hw_2 : (w5.2.2 (Int32.toNatClampNeg 0)) = r_2 := Eq.symm hw_2
  subst hw_2
  refine lv_istore_n (lv' := [(2, .int (w5.2.2 (Int32.toNatClampNeg 0))), (0, .ref (ad 0)), (1, .ref w3)]) hx hb dX12_volumeByKey_16 rfl hl (by decide) rfl (fun ls hl => ?_)
  refine lv_iconst (v := 5) hx hb dX12_volumeByKey_17 (by decide) ?_
  refine lv_istore_n (lv' := [(3, .int 5), (2, .int (w5.2.2 (Int32.toNatClampNeg 0))), (0, .ref (ad 0)), (1, .ref w3)]) hx hb dX12_volumeByKey_18 rfl hl (by decide) rfl (fun ls hl => ?_)
  refine lv_iload_n hx hb dX12_volumeByKey_19 rfl (lv_at hl 1 rfl) ?_
  refine jc_i (va_runS (As := [.int (w5.2.2 (Int32.toNatClampNeg 0))]) (rest := []) ⟨hx, hb, hml, hown, hts⟩ (kX0_isDigit_1 l dC dI _ (w5.2.2 (Int32.toNatClampNeg 0))) (va_cwS 1 hts (jgoodS m_301 m_82 m_83 m_84) rfl rfl rfl (by decide +kernel) ⟨Nat.le_of_ble_eq_true rfl, Nat.le_of_ble_eq_true rfl⟩) ⟨jw_blind0, fun U hU hW => ⟨rfl, congrArg Array.size hU⟩⟩ rfl rfl hl.1 rfl (lv_room (Nat.le_of_ble_eq_true rfl)) dX12_volumeByKey_20 ⟨Nat.le_of_ble_eq_true rfl, Nat.le_of_ble_eq_true rfl⟩) hP hS hA (fun r_3 H locs hw_3 hP hS => ?_)
  rcases (show ((w5.2.2 (Int32.toNatClampNeg 0)) < 48 ∧ r_3 = 0) ∨ (¬ ((w5.2.2 (Int32.toNatClampNeg 0)) < 48) ∧ 57 < (w5.2.2 (Int32.toNatClampNeg 0)) ∧ r_3 = 0) ∨ (¬ ((w5.2.2 (Int32.toNatClampNeg 0)) < 48) ∧ ¬ (57 < (w5.2.2 (Int32.toNatClampNeg 0))) ∧ r_3 = 1) from hw_3) with ⟨c_4, e_4_0⟩ | ⟨c_5, c_6, e_6_1⟩ | ⟨c_7, c_8, e_8_2⟩
  · have e_4_0 := e_4_0.symm
    subst e_4_0
    refine lv_if_eq (tgt := 42) hx hb dX12_volumeByKey_23 (by decide) (fun _ => ?_) (fun z => absurd (by decide) z)
    refine lv_iconst (v := 0) hx hb dX12_volumeByKey_42 (by decide) ?_
    refine lv_istore (lv' := [(4, .int 0), (3, .int 5), (2, .int (w5.2.2 (Int32.toNatClampNeg 0))), (0, .ref (ad 0)), (1, .ref w3)]) hx hb dX12_volumeByKey_43 hl (by decide) rfl (fun ls hl => ?_)
    refine lv_iload hx hb dX12_volumeByKey_45 (lv_at hl 0 rfl) ?_
    refine lv_iload_n hx hb dX12_volumeByKey_47 rfl (lv_at hl 1 rfl) ?_
    refine lv_icmp_ge (tgt := 73) hx hb dX12_volumeByKey_48 (by decide) (fun z => absurd z (by decide)) (fun _ => ?_)
    refine lv_iload_n hx hb dX12_volumeByKey_51 rfl (lv_at hl 2 rfl) ?_
    refine lv_bipush (v := 97) hx hb dX12_volumeByKey_52 (by decide) ?_
    refine lv_isub hx hb dX12_volumeByKey_54 ?_
    refine lv_aload_n hx hb dX12_volumeByKey_55 rfl (lv_at hl 3 rfl) ?_
    refine lv_iload hx hb dX12_volumeByKey_56 (lv_at hl 0 rfl) ?_
    refine jc_i (va_runV (As := [.int 0]) (rest := [.int ((w5.2.2 (Int32.toNatClampNeg 0)) - 97)]) ⟨hx, hb, hml, hown, hts⟩ (kX12_lastLetter_15 l dC dI _ ad ca w0 w1 w2 w3 w4 w5 gl74 gh74) (cwV 1 hts (jgoodV m_236 m_237 m_238 m_210 m_239) rfl rfl rfl (by decide +kernel) ⟨Nat.le_of_ble_eq_true rfl, Nat.le_of_ble_eq_true rfl⟩) ⟨jw_blind, va_recv hK hP (ci := 12) (q0 := 0) rfl (jg_n (Nat.ne_of_beq_eq_false rfl) (jg_n (Nat.ne_of_beq_eq_false rfl) (jg_n (Nat.ne_of_beq_eq_false rfl) (jg_n (Nat.ne_of_beq_eq_false rfl) (jg_n (Nat.ne_of_beq_eq_false rfl) (jg_n (Nat.ne_of_beq_eq_false rfl) (jg_s (n := 75) (jn_s (jn_a (n := 73) (m := 2) rfl rfl)) (Nat.le_of_ble_eq_true rfl)))))))), fun U hU hW => ⟨rfl, jw_of hU hW hP hK hD⟩⟩ rfl rfl hl.1 rfl (lv_room (Nat.le_of_ble_eq_true rfl)) dX12_volumeByKey_58 ⟨Nat.le_of_ble_eq_true rfl, Nat.le_of_ble_eq_true rfl⟩) hP hS hA (fun r_9 H locs hw_9 hP hS => ?_)
    have hw_9 : 4 = r_9 := Eq.symm hw_9
    subst hw_9
    refine lv_icmp_gt (tgt := 67) hx hb dX12_volumeByKey_61 (by decide) (fun c_10 => ?_) (fun c_10 => ?_)
    · refine lv_iinc (v := 1) (lv' := [(4, .int 1), (3, .int 5), (2, .int (w5.2.2 (Int32.toNatClampNeg 0))), (0, .ref (ad 0)), (1, .ref w3)]) hx hb dX12_volumeByKey_67 hl (k := 0) rfl (by decide) (by decide) rfl (fun ls hl => ?_)
      refine lv_goto (tgt := 45) hx hb dX12_volumeByKey_70 (by decide) ?_
      refine lv_iload hx hb dX12_volumeByKey_45 (lv_at hl 0 rfl) ?_
      refine lv_iload_n hx hb dX12_volumeByKey_47 rfl (lv_at hl 1 rfl) ?_
      refine lv_icmp_ge (tgt := 73) hx hb dX12_volumeByKey_48 (by decide) (fun z => absurd z (by decide)) (fun _ => ?_)
      refine lv_iload_n hx hb dX12_volumeByKey_51 rfl (lv_at hl 2 rfl) ?_
      refine lv_bipush (v := 97) hx hb dX12_volumeByKey_52 (by decide) ?_
      refine lv_isub hx hb dX12_volumeByKey_54 ?_
      refine lv_aload_n hx hb dX12_volumeByKey_55 rfl (lv_at hl 3 rfl) ?_
      refine lv_iload hx hb dX12_volumeByKey_56 (lv_at hl 0 rfl) ?_
      refine jc_i (va_runV (As := [.int 1]) (rest := [.int ((w5.2.2 (Int32.toNatClampNeg 0)) - 97)]) ⟨hx, hb, hml, hown, hts⟩ (kX12_lastLetter_16 l dC dI _ ad ca w0 w1 w2 w3 w4 w5 gl74 gh74) (cwV 1 hts (jgoodV m_236 m_237 m_238 m_210 m_239) rfl rfl rfl (by decide +kernel) ⟨Nat.le_of_ble_eq_true rfl, Nat.le_of_ble_eq_true rfl⟩) ⟨jw_blind, va_recv hK hP (ci := 12) (q0 := 0) rfl (jg_n (Nat.ne_of_beq_eq_false rfl) (jg_n (Nat.ne_of_beq_eq_false rfl) (jg_n (Nat.ne_of_beq_eq_false rfl) (jg_n (Nat.ne_of_beq_eq_false rfl) (jg_n (Nat.ne_of_beq_eq_false rfl) (jg_n (Nat.ne_of_beq_eq_false rfl) (jg_s (n := 75) (jn_s (jn_a (n := 73) (m := 2) rfl rfl)) (Nat.le_of_ble_eq_true rfl)))))))), fun U hU hW => ⟨rfl, jw_of hU hW hP hK hD⟩⟩ rfl rfl hl.1 rfl (lv_room (Nat.le_of_ble_eq_true rfl)) dX12_volumeByKey_58 ⟨Nat.le_of_ble_eq_true rfl, Nat.le_of_ble_eq_true rfl⟩) hP hS hA (fun r_11 H locs hw_11 hP hS => ?_)
      have hw_11 : 9 = r_11 := Eq.symm hw_11
      subst hw_11
      refine lv_icmp_gt (tgt := 67) hx hb dX12_volumeByKey_61 (by decide) (fun c_12 => ?_) (fun c_12 => ?_)
      · refine lv_iinc (v := 2) (lv' := [(4, .int 2), (3, .int 5), (2, .int (w5.2.2 (Int32.toNatClampNeg 0))), (0, .ref (ad 0)), (1, .ref w3)]) hx hb dX12_volumeByKey_67 hl (k := 0) rfl (by decide) (by decide) rfl (fun ls hl => ?_)
        refine lv_goto (tgt := 45) hx hb dX12_volumeByKey_70 (by decide) ?_
        refine lv_iload hx hb dX12_volumeByKey_45 (lv_at hl 0 rfl) ?_
        refine lv_iload_n hx hb dX12_volumeByKey_47 rfl (lv_at hl 1 rfl) ?_
        refine lv_icmp_ge (tgt := 73) hx hb dX12_volumeByKey_48 (by decide) (fun z => absurd z (by decide)) (fun _ => ?_)
        refine lv_iload_n hx hb dX12_volumeByKey_51 rfl (lv_at hl 2 rfl) ?_
        refine lv_bipush (v := 97) hx hb dX12_volumeByKey_52 (by decide) ?_
        refine lv_isub hx hb dX12_volumeByKey_54 ?_
        refine lv_aload_n hx hb dX12_volumeByKey_55 rfl (lv_at hl 3 rfl) ?_
        refine lv_iload hx hb dX12_volumeByKey_56 (lv_at hl 0 rfl) ?_
        refine jc_i (va_runV (As := [.int 2]) (rest := [.int ((w5.2.2 (Int32.toNatClampNeg 0)) - 97)]) ⟨hx, hb, hml, hown, hts⟩ (kX12_lastLetter_17 l dC dI _ ad ca w0 w1 w2 w3 w4 w5 gl74 gh74) (cwV 1 hts (jgoodV m_236 m_237 m_238 m_210 m_239) rfl rfl rfl (by decide +kernel) ⟨Nat.le_of_ble_eq_true rfl, Nat.le_of_ble_eq_true rfl⟩) ⟨jw_blind, va_recv hK hP (ci := 12) (q0 := 0) rfl (jg_n (Nat.ne_of_beq_eq_false rfl) (jg_n (Nat.ne_of_beq_eq_false rfl) (jg_n (Nat.ne_of_beq_eq_false rfl) (jg_n (Nat.ne_of_beq_eq_false rfl) (jg_n (Nat.ne_of_beq_eq_false rfl) (jg_n (Nat.ne_of_beq_eq_false rfl) (jg_s (n := 75) (jn_s (jn_a (n := 73) (m := 2) rfl rfl)) (Nat.le_of_ble_eq_true rfl)))))))), fun U hU hW => ⟨rfl, jw_of hU hW hP hK hD⟩⟩ rfl rfl hl.1 rfl (lv_room (Nat.le_of_ble_eq_true rfl)) dX12_volumeByKey_58 ⟨Nat.le_of_ble_eq_true rfl, Nat.le_of_ble_eq_true rfl⟩) hP hS hA (fun r_13 H locs hw_13 hP hS => ?_)
        have hw_13 : 14 = r_13 := Eq.symm hw_13
        subst hw_13
        refine lv_icmp_gt (tgt := 67) hx hb dX12_volumeByKey_61 (by decide) (fun c_14 => ?_) (fun c_14 => ?_)
        · refine lv_iinc (v := 3) (lv' := [(4, .int 3), (3, .int 5), (2, .int (w5.2.2 (Int32.toNatClampNeg 0))), (0, .ref (ad 0)), (1, .ref w3)]) hx hb dX12_volumeByKey_67 hl (k := 0) rfl (by decide) (by decide) rfl (fun ls hl => ?_)
          refine lv_goto (tgt := 45) hx hb dX12_volumeByKey_70 (by decide) ?_
          refine lv_iload hx hb dX12_volumeByKey_45 (lv_at hl 0 rfl) ?_
          refine lv_iload_n hx hb dX12_volumeByKey_47 rfl (lv_at hl 1 rfl) ?_
          refine lv_icmp_ge (tgt := 73) hx hb dX12_volumeByKey_48 (by decide) (fun z => absurd z (by decide)) (fun _ => ?_)
          refine lv_iload_n hx hb dX12_volumeByKey_51 rfl (lv_at hl 2 rfl) ?_
          refine lv_bipush (v := 97) hx hb dX12_volumeByKey_52 (by decide) ?_
          refine lv_isub hx hb dX12_volumeByKey_54 ?_
          refine lv_aload_n hx hb dX12_volumeByKey_55 rfl (lv_at hl 3 rfl) ?_
          refine lv_iload hx hb dX12_volumeByKey_56 (lv_at hl 0 rfl) ?_
          refine jc_i (va_runV (As := [.int 3]) (rest := [.int ((w5.2.2 (Int32.toNatClampNeg 0)) - 97)]) ⟨hx, hb, hml, hown, hts⟩ (kX12_lastLetter_18 l dC dI _ ad ca w0 w1 w2 w3 w4 w5 gl74 gh74) (cwV 1 hts (jgoodV m_236 m_237 m_238 m_210 m_239) rfl rfl rfl (by decide +kernel) ⟨Nat.le_of_ble_eq_true rfl, Nat.le_of_ble_eq_true rfl⟩) ⟨jw_blind, va_recv hK hP (ci := 12) (q0 := 0) rfl (jg_n (Nat.ne_of_beq_eq_false rfl) (jg_n (Nat.ne_of_beq_eq_false rfl) (jg_n (Nat.ne_of_beq_eq_false rfl) (jg_n (Nat.ne_of_beq_eq_false rfl) (jg_n (Nat.ne_of_beq_eq_false rfl) (jg_n (Nat.ne_of_beq_eq_false rfl) (jg_s (n := 75) (jn_s (jn_a (n := 73) (m := 2) rfl rfl)) (Nat.le_of_ble_eq_true rfl)))))))), fun U hU hW => ⟨rfl, jw_of hU hW hP hK hD⟩⟩ rfl rfl hl.1 rfl (lv_room (Nat.le_of_ble_eq_true rfl)) dX12_volumeByKey_58 ⟨Nat.le_of_ble_eq_true rfl, Nat.le_of_ble_eq_true rfl⟩) hP hS hA (fun r_15 H locs hw_15 hP hS => ?_)
          have hw_15 : 19 = r_15 := Eq.symm hw_15
          subst hw_15
          refine lv_icmp_gt (tgt := 67) hx hb dX12_volumeByKey_61 (by decide) (fun c_16 => ?_) (fun c_16 => ?_)
          · refine lv_iinc (v := 4) (lv' := [(4, .int 4), (3, .int 5), (2, .int (w5.2.2 (Int32.toNatClampNeg 0))), (0, .ref (ad 0)), (1, .ref w3)]) hx hb dX12_volumeByKey_67 hl (k := 0) rfl (by decide) (by decide) rfl (fun ls hl => ?_)
            refine lv_goto (tgt := 45) hx hb dX12_volumeByKey_70 (by decide) ?_
            refine lv_iload hx hb dX12_volumeByKey_45 (lv_at hl 0 rfl) ?_
            refine lv_iload_n hx hb dX12_volumeByKey_47 rfl (lv_at hl 1 rfl) ?_
            refine lv_icmp_ge (tgt := 73) hx hb dX12_volumeByKey_48 (by decide) (fun z => absurd z (by decide)) (fun _ => ?_)
            refine lv_iload_n hx hb dX12_volumeByKey_51 rfl (lv_at hl 2 rfl) ?_
            refine lv_bipush (v := 97) hx hb dX12_volumeByKey_52 (by decide) ?_
            refine lv_isub hx hb dX12_volumeByKey_54 ?_
            refine lv_aload_n hx hb dX12_volumeByKey_55 rfl (lv_at hl 3 rfl) ?_
            refine lv_iload hx hb dX12_volumeByKey_56 (lv_at hl 0 rfl) ?_
            refine jc_i (va_runV (As := [.int 4]) (rest := [.int ((w5.2.2 (Int32.toNatClampNeg 0)) - 97)]) ⟨hx, hb, hml, hown, hts⟩ (kX12_lastLetter_19 l dC dI _ ad ca w0 w1 w2 w3 w4 w5 gl74 gh74) (cwV 1 hts (jgoodV m_236 m_237 m_238 m_210 m_239) rfl rfl rfl (by decide +kernel) ⟨Nat.le_of_ble_eq_true rfl, Nat.le_of_ble_eq_true rfl⟩) ⟨jw_blind, va_recv hK hP (ci := 12) (q0 := 0) rfl (jg_n (Nat.ne_of_beq_eq_false rfl) (jg_n (Nat.ne_of_beq_eq_false rfl) (jg_n (Nat.ne_of_beq_eq_false rfl) (jg_n (Nat.ne_of_beq_eq_false rfl) (jg_n (Nat.ne_of_beq_eq_false rfl) (jg_n (Nat.ne_of_beq_eq_false rfl) (jg_s (n := 75) (jn_s (jn_a (n := 73) (m := 2) rfl rfl)) (Nat.le_of_ble_eq_true rfl)))))))), fun U hU hW => ⟨rfl, jw_of hU hW hP hK hD⟩⟩ rfl rfl hl.1 rfl (lv_room (Nat.le_of_ble_eq_true rfl)) dX12_volumeByKey_58 ⟨Nat.le_of_ble_eq_true rfl, Nat.le_of_ble_eq_true rfl⟩) hP hS hA (fun r_17 H locs hw_17 hP hS => ?_)
            have hw_17 : 24 = r_17 := Eq.symm hw_17
            subst hw_17
            refine lv_icmp_gt (tgt := 67) hx hb dX12_volumeByKey_61 (by decide) (fun c_18 => ?_) (fun c_18 => ?_)
            · refine lv_iinc (v := 5) (lv' := [(4, .int 5), (3, .int 5), (2, .int (w5.2.2 (Int32.toNatClampNeg 0))), (0, .ref (ad 0)), (1, .ref w3)]) hx hb dX12_volumeByKey_67 hl (k := 0) rfl (by decide) (by decide) rfl (fun ls hl => ?_)
              refine lv_goto (tgt := 45) hx hb dX12_volumeByKey_70 (by decide) ?_
              refine lv_iload hx hb dX12_volumeByKey_45 (lv_at hl 0 rfl) ?_
              refine lv_iload_n hx hb dX12_volumeByKey_47 rfl (lv_at hl 1 rfl) ?_
              refine lv_icmp_ge (tgt := 73) hx hb dX12_volumeByKey_48 (by decide) (fun _ => ?_) (fun z => absurd (by decide) z)
              refine lv_iload_n hx hb dX12_volumeByKey_73 rfl (lv_at hl 1 rfl) ?_
              exact W.iret (v := 5) hx hb hr (fun t ht hW => ⟨⟨5, (), rfl, trivial, by rw [ht]; exact hP, va_K.moved hW.alike hK, hD⟩, hS.F ht⟩) hS.2.2 dX12_volumeByKey_74
            · refine lv_iload hx hb dX12_volumeByKey_64 (lv_at hl 0 rfl) ?_
              exact W.iret (v := 4) hx hb hr (fun t ht hW => ⟨⟨4, (), rfl, trivial, by rw [ht]; exact hP, va_K.moved hW.alike hK, hD⟩, hS.F ht⟩) hS.2.2 dX12_volumeByKey_66
          · refine lv_iload hx hb dX12_volumeByKey_64 (lv_at hl 0 rfl) ?_
            exact W.iret (v := 3) hx hb hr (fun t ht hW => ⟨⟨3, (), rfl, trivial, by rw [ht]; exact hP, va_K.moved hW.alike hK, hD⟩, hS.F ht⟩) hS.2.2 dX12_volumeByKey_66
        · refine lv_iload hx hb dX12_volumeByKey_64 (lv_at hl 0 rfl) ?_
          exact W.iret (v := 2) hx hb hr (fun t ht hW => ⟨⟨2, (), rfl, trivial, by rw [ht]; exact hP, va_K.moved hW.alike hK, hD⟩, hS.F ht⟩) hS.2.2 dX12_volumeByKey_66
      · refine lv_iload hx hb dX12_volumeByKey_64 (lv_at hl 0 rfl) ?_
        exact W.iret (v := 1) hx hb hr (fun t ht hW => ⟨⟨1, (), rfl, trivial, by rw [ht]; exact hP, va_K.moved hW.alike hK, hD⟩, hS.F ht⟩) hS.2.2 dX12_volumeByKey_66
    · refine lv_iload hx hb dX12_volumeByKey_64 (lv_at hl 0 rfl) ?_
      exact W.iret (v := 0) hx hb hr (fun t ht hW => ⟨⟨0, (), rfl, trivial, by rw [ht]; exact hP, va_K.moved hW.alike hK, hD⟩, hS.F ht⟩) hS.2.2 dX12_volumeByKey_66
  · have e_6_1 := e_6_1.symm
    subst e_6_1
    refine lv_if_eq (tgt := 42) hx hb dX12_volumeByKey_23 (by decide) (fun _ => ?_) (fun z => absurd (by decide) z)
    refine lv_iconst (v := 0) hx hb dX12_volumeByKey_42 (by decide) ?_
    refine lv_istore (lv' := [(4, .int 0), (3, .int 5), (2, .int (w5.2.2 (Int32.toNatClampNeg 0))), (0, .ref (ad 0)), (1, .ref w3)]) hx hb dX12_volumeByKey_43 hl (by decide) rfl (fun ls hl => ?_)
    refine lv_iload hx hb dX12_volumeByKey_45 (lv_at hl 0 rfl) ?_
    refine lv_iload_n hx hb dX12_volumeByKey_47 rfl (lv_at hl 1 rfl) ?_
    refine lv_icmp_ge (tgt := 73) hx hb dX12_volumeByKey_48 (by decide) (fun z => absurd z (by decide)) (fun _ => ?_)
    refine lv_iload_n hx hb dX12_volumeByKey_51 rfl (lv_at hl 2 rfl) ?_
    refine lv_bipush (v := 97) hx hb dX12_volumeByKey_52 (by decide) ?_
    refine lv_isub hx hb dX12_volumeByKey_54 ?_
    refine lv_aload_n hx hb dX12_volumeByKey_55 rfl (lv_at hl 3 rfl) ?_
    refine lv_iload hx hb dX12_volumeByKey_56 (lv_at hl 0 rfl) ?_
    refine jc_i (va_runV (As := [.int 0]) (rest := [.int ((w5.2.2 (Int32.toNatClampNeg 0)) - 97)]) ⟨hx, hb, hml, hown, hts⟩ (kX12_lastLetter_15 l dC dI _ ad ca w0 w1 w2 w3 w4 w5 gl74 gh74) (cwV 1 hts (jgoodV m_236 m_237 m_238 m_210 m_239) rfl rfl rfl (by decide +kernel) ⟨Nat.le_of_ble_eq_true rfl, Nat.le_of_ble_eq_true rfl⟩) ⟨jw_blind, va_recv hK hP (ci := 12) (q0 := 0) rfl (jg_n (Nat.ne_of_beq_eq_false rfl) (jg_n (Nat.ne_of_beq_eq_false rfl) (jg_n (Nat.ne_of_beq_eq_false rfl) (jg_n (Nat.ne_of_beq_eq_false rfl) (jg_n (Nat.ne_of_beq_eq_false rfl) (jg_n (Nat.ne_of_beq_eq_false rfl) (jg_s (n := 75) (jn_s (jn_a (n := 73) (m := 2) rfl rfl)) (Nat.le_of_ble_eq_true rfl)))))))), fun U hU hW => ⟨rfl, jw_of hU hW hP hK hD⟩⟩ rfl rfl hl.1 rfl (lv_room (Nat.le_of_ble_eq_true rfl)) dX12_volumeByKey_58 ⟨Nat.le_of_ble_eq_true rfl, Nat.le_of_ble_eq_true rfl⟩) hP hS hA (fun r_19 H locs hw_19 hP hS => ?_)
    have hw_19 : 4 = r_19 := Eq.symm hw_19
    subst hw_19
    refine lv_icmp_gt (tgt := 67) hx hb dX12_volumeByKey_61 (by decide) (fun c_20 => ?_) (fun c_20 => ?_)
    · refine lv_iinc (v := 1) (lv' := [(4, .int 1), (3, .int 5), (2, .int (w5.2.2 (Int32.toNatClampNeg 0))), (0, .ref (ad 0)), (1, .ref w3)]) hx hb dX12_volumeByKey_67 hl (k := 0) rfl (by decide) (by decide) rfl (fun ls hl => ?_)
      refine lv_goto (tgt := 45) hx hb dX12_volumeByKey_70 (by decide) ?_
      refine lv_iload hx hb dX12_volumeByKey_45 (lv_at hl 0 rfl) ?_
      refine lv_iload_n hx hb dX12_volumeByKey_47 rfl (lv_at hl 1 rfl) ?_
      refine lv_icmp_ge (tgt := 73) hx hb dX12_volumeByKey_48 (by decide) (fun z => absurd z (by decide)) (fun _ => ?_)
      refine lv_iload_n hx hb dX12_volumeByKey_51 rfl (lv_at hl 2 rfl) ?_
      refine lv_bipush (v := 97) hx hb dX12_volumeByKey_52 (by decide) ?_
      refine lv_isub hx hb dX12_volumeByKey_54 ?_
      refine lv_aload_n hx hb dX12_volumeByKey_55 rfl (lv_at hl 3 rfl) ?_
      refine lv_iload hx hb dX12_volumeByKey_56 (lv_at hl 0 rfl) ?_
      refine jc_i (va_runV (As := [.int 1]) (rest := [.int ((w5.2.2 (Int32.toNatClampNeg 0)) - 97)]) ⟨hx, hb, hml, hown, hts⟩ (kX12_lastLetter_16 l dC dI _ ad ca w0 w1 w2 w3 w4 w5 gl74 gh74) (cwV 1 hts (jgoodV m_236 m_237 m_238 m_210 m_239) rfl rfl rfl (by decide +kernel) ⟨Nat.le_of_ble_eq_true rfl, Nat.le_of_ble_eq_true rfl⟩) ⟨jw_blind, va_recv hK hP (ci := 12) (q0 := 0) rfl (jg_n (Nat.ne_of_beq_eq_false rfl) (jg_n (Nat.ne_of_beq_eq_false rfl) (jg_n (Nat.ne_of_beq_eq_false rfl) (jg_n (Nat.ne_of_beq_eq_false rfl) (jg_n (Nat.ne_of_beq_eq_false rfl) (jg_n (Nat.ne_of_beq_eq_false rfl) (jg_s (n := 75) (jn_s (jn_a (n := 73) (m := 2) rfl rfl)) (Nat.le_of_ble_eq_true rfl)))))))), fun U hU hW => ⟨rfl, jw_of hU hW hP hK hD⟩⟩ rfl rfl hl.1 rfl (lv_room (Nat.le_of_ble_eq_true rfl)) dX12_volumeByKey_58 ⟨Nat.le_of_ble_eq_true rfl, Nat.le_of_ble_eq_true rfl⟩) hP hS hA (fun r_21 H locs hw_21 hP hS => ?_)
      have hw_21 : 9 = r_21 := Eq.symm hw_21
      subst hw_21
      refine lv_icmp_gt (tgt := 67) hx hb dX12_volumeByKey_61 (by decide) (fun c_22 => ?_) (fun c_22 => ?_)
      · refine lv_iinc (v := 2) (lv' := [(4, .int 2), (3, .int 5), (2, .int (w5.2.2 (Int32.toNatClampNeg 0))), (0, .ref (ad 0)), (1, .ref w3)]) hx hb dX12_volumeByKey_67 hl (k := 0) rfl (by decide) (by decide) rfl (fun ls hl => ?_)
        refine lv_goto (tgt := 45) hx hb dX12_volumeByKey_70 (by decide) ?_
        refine lv_iload hx hb dX12_volumeByKey_45 (lv_at hl 0 rfl) ?_
        refine lv_iload_n hx hb dX12_volumeByKey_47 rfl (lv_at hl 1 rfl) ?_
        refine lv_icmp_ge (tgt := 73) hx hb dX12_volumeByKey_48 (by decide) (fun z => absurd z (by decide)) (fun _ => ?_)
        refine lv_iload_n hx hb dX12_volumeByKey_51 rfl (lv_at hl 2 rfl) ?_
        refine lv_bipush (v := 97) hx hb dX12_volumeByKey_52 (by decide) ?_
        refine lv_isub hx hb dX12_volumeByKey_54 ?_
        refine lv_aload_n hx hb dX12_volumeByKey_55 rfl (lv_at hl 3 rfl) ?_
        refine lv_iload hx hb dX12_volumeByKey_56 (lv_at hl 0 rfl) ?_
        refine jc_i (va_runV (As := [.int 2]) (rest := [.int ((w5.2.2 (Int32.toNatClampNeg 0)) - 97)]) ⟨hx, hb, hml, hown, hts⟩ (kX12_lastLetter_17 l dC dI _ ad ca w0 w1 w2 w3 w4 w5 gl74 gh74) (cwV 1 hts (jgoodV m_236 m_237 m_238 m_210 m_239) rfl rfl rfl (by decide +kernel) ⟨Nat.le_of_ble_eq_true rfl, Nat.le_of_ble_eq_true rfl⟩) ⟨jw_blind, va_recv hK hP (ci := 12) (q0 := 0) rfl (jg_n (Nat.ne_of_beq_eq_false rfl) (jg_n (Nat.ne_of_beq_eq_false rfl) (jg_n (Nat.ne_of_beq_eq_false rfl) (jg_n (Nat.ne_of_beq_eq_false rfl) (jg_n (Nat.ne_of_beq_eq_false rfl) (jg_n (Nat.ne_of_beq_eq_false rfl) (jg_s (n := 75) (jn_s (jn_a (n := 73) (m := 2) rfl rfl)) (Nat.le_of_ble_eq_true rfl)))))))), fun U hU hW => ⟨rfl, jw_of hU hW hP hK hD⟩⟩ rfl rfl hl.1 rfl (lv_room (Nat.le_of_ble_eq_true rfl)) dX12_volumeByKey_58 ⟨Nat.le_of_ble_eq_true rfl, Nat.le_of_ble_eq_true rfl⟩) hP hS hA (fun r_23 H locs hw_23 hP hS => ?_)
        have hw_23 : 14 = r_23 := Eq.symm hw_23
        subst hw_23
        refine lv_icmp_gt (tgt := 67) hx hb dX12_volumeByKey_61 (by decide) (fun c_24 => ?_) (fun c_24 => ?_)
        · refine lv_iinc (v := 3) (lv' := [(4, .int 3), (3, .int 5), (2, .int (w5.2.2 (Int32.toNatClampNeg 0))), (0, .ref (ad 0)), (1, .ref w3)]) hx hb dX12_volumeByKey_67 hl (k := 0) rfl (by decide) (by decide) rfl (fun ls hl => ?_)
          refine lv_goto (tgt := 45) hx hb dX12_volumeByKey_70 (by decide) ?_
          refine lv_iload hx hb dX12_volumeByKey_45 (lv_at hl 0 rfl) ?_
          refine lv_iload_n hx hb dX12_volumeByKey_47 rfl (lv_at hl 1 rfl) ?_
          refine lv_icmp_ge (tgt := 73) hx hb dX12_volumeByKey_48 (by decide) (fun z => absurd z (by decide)) (fun _ => ?_)
          refine lv_iload_n hx hb dX12_volumeByKey_51 rfl (lv_at hl 2 rfl) ?_
          refine lv_bipush (v := 97) hx hb dX12_volumeByKey_52 (by decide) ?_
          refine lv_isub hx hb dX12_volumeByKey_54 ?_
          refine lv_aload_n hx hb dX12_volumeByKey_55 rfl (lv_at hl 3 rfl) ?_
          refine lv_iload hx hb dX12_volumeByKey_56 (lv_at hl 0 rfl) ?_
          refine jc_i (va_runV (As := [.int 3]) (rest := [.int ((w5.2.2 (Int32.toNatClampNeg 0)) - 97)]) ⟨hx, hb, hml, hown, hts⟩ (kX12_lastLetter_18 l dC dI _ ad ca w0 w1 w2 w3 w4 w5 gl74 gh74) (cwV 1 hts (jgoodV m_236 m_237 m_238 m_210 m_239) rfl rfl rfl (by decide +kernel) ⟨Nat.le_of_ble_eq_true rfl, Nat.le_of_ble_eq_true rfl⟩) ⟨jw_blind, va_recv hK hP (ci := 12) (q0 := 0) rfl (jg_n (Nat.ne_of_beq_eq_false rfl) (jg_n (Nat.ne_of_beq_eq_false rfl) (jg_n (Nat.ne_of_beq_eq_false rfl) (jg_n (Nat.ne_of_beq_eq_false rfl) (jg_n (Nat.ne_of_beq_eq_false rfl) (jg_n (Nat.ne_of_beq_eq_false rfl) (jg_s (n := 75) (jn_s (jn_a (n := 73) (m := 2) rfl rfl)) (Nat.le_of_ble_eq_true rfl)))))))), fun U hU hW => ⟨rfl, jw_of hU hW hP hK hD⟩⟩ rfl rfl hl.1 rfl (lv_room (Nat.le_of_ble_eq_true rfl)) dX12_volumeByKey_58 ⟨Nat.le_of_ble_eq_true rfl, Nat.le_of_ble_eq_true rfl⟩) hP hS hA (fun r_25 H locs hw_25 hP hS => ?_)
          have hw_25 : 19 = r_25 := Eq.symm hw_25
          subst hw_25
          refine lv_icmp_gt (tgt := 67) hx hb dX12_volumeByKey_61 (by decide) (fun c_26 => ?_) (fun c_26 => ?_)
          · refine lv_iinc (v := 4) (lv' := [(4, .int 4), (3, .int 5), (2, .int (w5.2.2 (Int32.toNatClampNeg 0))), (0, .ref (ad 0)), (1, .ref w3)]) hx hb dX12_volumeByKey_67 hl (k := 0) rfl (by decide) (by decide) rfl (fun ls hl => ?_)
            refine lv_goto (tgt := 45) hx hb dX12_volumeByKey_70 (by decide) ?_
            refine lv_iload hx hb dX12_volumeByKey_45 (lv_at hl 0 rfl) ?_
            refine lv_iload_n hx hb dX12_volumeByKey_47 rfl (lv_at hl 1 rfl) ?_
            refine lv_icmp_ge (tgt := 73) hx hb dX12_volumeByKey_48 (by decide) (fun z => absurd z (by decide)) (fun _ => ?_)
            refine lv_iload_n hx hb dX12_volumeByKey_51 rfl (lv_at hl 2 rfl) ?_
            refine lv_bipush (v := 97) hx hb dX12_volumeByKey_52 (by decide) ?_
            refine lv_isub hx hb dX12_volumeByKey_54 ?_
            refine lv_aload_n hx hb dX12_volumeByKey_55 rfl (lv_at hl 3 rfl) ?_
            refine lv_iload hx hb dX12_volumeByKey_56 (lv_at hl 0 rfl) ?_
            refine jc_i (va_runV (As := [.int 4]) (rest := [.int ((w5.2.2 (Int32.toNatClampNeg 0)) - 97)]) ⟨hx, hb, hml, hown, hts⟩ (kX12_lastLetter_19 l dC dI _ ad ca w0 w1 w2 w3 w4 w5 gl74 gh74) (cwV 1 hts (jgoodV m_236 m_237 m_238 m_210 m_239) rfl rfl rfl (by decide +kernel) ⟨Nat.le_of_ble_eq_true rfl, Nat.le_of_ble_eq_true rfl⟩) ⟨jw_blind, va_recv hK hP (ci := 12) (q0 := 0) rfl (jg_n (Nat.ne_of_beq_eq_false rfl) (jg_n (Nat.ne_of_beq_eq_false rfl) (jg_n (Nat.ne_of_beq_eq_false rfl) (jg_n (Nat.ne_of_beq_eq_false rfl) (jg_n (Nat.ne_of_beq_eq_false rfl) (jg_n (Nat.ne_of_beq_eq_false rfl) (jg_s (n := 75) (jn_s (jn_a (n := 73) (m := 2) rfl rfl)) (Nat.le_of_ble_eq_true rfl)))))))), fun U hU hW => ⟨rfl, jw_of hU hW hP hK hD⟩⟩ rfl rfl hl.1 rfl (lv_room (Nat.le_of_ble_eq_true rfl)) dX12_volumeByKey_58 ⟨Nat.le_of_ble_eq_true rfl, Nat.le_of_ble_eq_true rfl⟩) hP hS hA (fun r_27 H locs hw_27 hP hS => ?_)
            have hw_27 : 24 = r_27 := Eq.symm hw_27
            subst hw_27
            refine lv_icmp_gt (tgt := 67) hx hb dX12_volumeByKey_61 (by decide) (fun c_28 => ?_) (fun c_28 => ?_)
            · refine lv_iinc (v := 5) (lv' := [(4, .int 5), (3, .int 5), (2, .int (w5.2.2 (Int32.toNatClampNeg 0))), (0, .ref (ad 0)), (1, .ref w3)]) hx hb dX12_volumeByKey_67 hl (k := 0) rfl (by decide) (by decide) rfl (fun ls hl => ?_)
              refine lv_goto (tgt := 45) hx hb dX12_volumeByKey_70 (by decide) ?_
              refine lv_iload hx hb dX12_volumeByKey_45 (lv_at hl 0 rfl) ?_
              refine lv_iload_n hx hb dX12_volumeByKey_47 rfl (lv_at hl 1 rfl) ?_
              refine lv_icmp_ge (tgt := 73) hx hb dX12_volumeByKey_48 (by decide) (fun _ => ?_) (fun z => absurd (by decide) z)
              refine lv_iload_n hx hb dX12_volumeByKey_73 rfl (lv_at hl 1 rfl) ?_
              exact W.iret (v := 5) hx hb hr (fun t ht hW => ⟨⟨5, (), rfl, trivial, by rw [ht]; exact hP, va_K.moved hW.alike hK, hD⟩, hS.F ht⟩) hS.2.2 dX12_volumeByKey_74
            · refine lv_iload hx hb dX12_volumeByKey_64 (lv_at hl 0 rfl) ?_
              exact W.iret (v := 4) hx hb hr (fun t ht hW => ⟨⟨4, (), rfl, trivial, by rw [ht]; exact hP, va_K.moved hW.alike hK, hD⟩, hS.F ht⟩) hS.2.2 dX12_volumeByKey_66
          · refine lv_iload hx hb dX12_volumeByKey_64 (lv_at hl 0 rfl) ?_
            exact W.iret (v := 3) hx hb hr (fun t ht hW => ⟨⟨3, (), rfl, trivial, by rw [ht]; exact hP, va_K.moved hW.alike hK, hD⟩, hS.F ht⟩) hS.2.2 dX12_volumeByKey_66
        · refine lv_iload hx hb dX12_volumeByKey_64 (lv_at hl 0 rfl) ?_
          exact W.iret (v := 2) hx hb hr (fun t ht hW => ⟨⟨2, (), rfl, trivial, by rw [ht]; exact hP, va_K.moved hW.alike hK, hD⟩, hS.F ht⟩) hS.2.2 dX12_volumeByKey_66
      · refine lv_iload hx hb dX12_volumeByKey_64 (lv_at hl 0 rfl) ?_
        exact W.iret (v := 1) hx hb hr (fun t ht hW => ⟨⟨1, (), rfl, trivial, by rw [ht]; exact hP, va_K.moved hW.alike hK, hD⟩, hS.F ht⟩) hS.2.2 dX12_volumeByKey_66
    · refine lv_iload hx hb dX12_volumeByKey_64 (lv_at hl 0 rfl) ?_
      exact W.iret (v := 0) hx hb hr (fun t ht hW => ⟨⟨0, (), rfl, trivial, by rw [ht]; exact hP, va_K.moved hW.alike hK, hD⟩, hS.F ht⟩) hS.2.2 dX12_volumeByKey_66
  · have e_8_2 := e_8_2.symm
    subst e_8_2
    refine lv_if_eq (tgt := 42) hx hb dX12_volumeByKey_23 (by decide) (fun z => absurd z (by decide)) (fun _ => ?_)
    refine lv_aload_n hx hb dX12_volumeByKey_26 rfl (lv_at hl 2 rfl) ?_
    refine va_get (D := (dC, dI)) (ci := 12) (v := .ref (ad 18)) (C := RX12) (T := TX12) (N := 20) hx hb hts (jh hin_RX12) hown hK hP 0 (jg_n (Nat.ne_of_beq_eq_false rfl) (jg_n (Nat.ne_of_beq_eq_false rfl) (jg_n (Nat.ne_of_beq_eq_false rfl) (jg_n (Nat.ne_of_beq_eq_false rfl) (jg_n (Nat.ne_of_beq_eq_false rfl) (jg_n (Nat.ne_of_beq_eq_false rfl) (jg_s (n := 75) (jn_s (jn_a (n := 73) (m := 2) rfl rfl)) (Nat.le_of_ble_eq_true rfl)))))))) rfl 4 (by decide) (hts (.fieldLink RX12 28 "BookOfAll" "order" "LBookOfAll$Order;") (jm m_241)) (fun _ h9 => h9) rfl dX12_volumeByKey_27 ?_
    refine va_get (D := (dC, dI)) (ci := 6) (v := .int 1) (C := RX6) (T := TX6) (N := 6) hx hb hts (jh hin_RX6) hown hK hP 18 (jg_n (Nat.ne_of_beq_eq_false rfl) (jg_s (n := 75) (jn_s (jn_s (jn_s (jn_s (jn_s (jn_s (jn_a (n := 73) (m := 2) rfl rfl))))))) (Nat.le_of_ble_eq_true rfl))) rfl 5 (by decide) (hts (.fieldLink RX12 236 "BookOfAll$Order" "numbersFirst" "Z") (jm m_302)) (fun _ h9 => h9) rfl dX12_volumeByKey_30 ?_
    refine lv_if_eq (tgt := 40) hx hb dX12_volumeByKey_33 (by decide) (fun z => absurd z (by decide)) (fun _ => ?_)
    refine lv_iconst (v := 0) hx hb dX12_volumeByKey_36 (by decide) ?_
    refine lv_goto (tgt := 41) hx hb dX12_volumeByKey_37 (by decide) ?_
    exact W.iret (v := 0) hx hb hr (fun t ht hW => ⟨⟨0, (), rfl, trivial, by rw [ht]; exact hP, va_K.moved hW.alike hK, hD⟩, hS.F ht⟩) hS.2.2 dX12_volumeByKey_41
