set_option maxHeartbeats 500000 in
set_option maxRecDepth 100000 in
theorem tX13_fault (l : Launch) (dC : Nat → ClassId) (dI : Nat → Nat → Nat) (sz : Nat) (ad : Nat → Nat) (ca : Nat → ClassId) : Met l yX13_fault (jk yX13_fault cX13_fault 1 (some .int)) ({ frames := 3, cells := 0, slots := 0, locals := 63 }) (va_Pc [.ref (ad 0)] (jw_P (dC, dI) (mW ad ca) (mT ca) sz)) (va_Qi (fun (r : Int32) (_ : Unit) => (r = (-1))) (fun _ _ => True) (va_A (mW ad ca) sz)) 0 0 (va_A (mW ad ca) sz) := by
  refine Met.ofW (cc := cX13_fault) (maxL := 1) (ret := (some .int)) (by decide) rfl ?_
  intro p e s m args below meth c s₁ B hml hv
  obtain ⟨rfl, hsz, hP, hK, hD0⟩ := hv
  have hx := B.exec
  have hb := B.bytes
  have hr := B.returns
  have hts := atoms_spec (ws := (jk yX13_fault cX13_fault 1 (some .int))) B.pre
  have hown : s.vm.findClass RX13 = some m.cls := findClass_of_methodNamed B.named
  have hlocks := B.notSynchronized
  subst hsz
  have hD := hD0.self (sz := s.heap.size)
  generalize hAe : (va_A (mW ad ca) s.heap.size) = A at hD ⊢
  have hA : ∀ q : Nat, s.heap.size ≤ q → A q := fun q h => by rw [← hAe]; exact Or.inr h
  have hS : va_S A s.heap s.heap [] := va_S.rf
  have hP : va_P (dC, dI) vwCl (mW ad ca) s.heap := hP
  have hl := lv_entry ([.ref (ad 0)]) (n := 1) (Nat.le_of_ble_eq_true rfl)
  rw [lg_entry_eq]
  generalize (lg_sl ([.ref (ad 0)]) ++ List.replicate (1 - (lg_sl ([.ref (ad 0)])).length) Slot.unset).toArray = ls at hl ⊢
  have hl : lv_has ls 1 [(0, .ref (ad 0))] := hl
  refine lv_aload_n hx hb dX13_fault_0 rfl (lv_at hl 0 rfl) ?_
  refine jcw_i (va_runV (As := []) (rest := []) ⟨hx, hb, hml, hown, hts⟩ (kX13_reads_2 l dC dI _ ad ca) (cwV 0 hts (jgoodV m_520 m_521 m_522 m_96 m_523) rfl rfl rfl (by decide +kernel) ⟨Nat.le_of_ble_eq_true rfl, Nat.le_of_ble_eq_true rfl⟩) ⟨jw_blind, va_recv hK hP (ci := 13) (q0 := 0) rfl rfl, fun U hU hW => ⟨rfl, jw_of hU hW hP hK hD⟩⟩ rfl rfl hl.1 rfl (lv_room (Nat.le_of_ble_eq_true rfl)) dX13_fault_1 ⟨Nat.le_of_ble_eq_true rfl, Nat.le_of_ble_eq_true rfl⟩) hD hS hA (fun r_1 H locs hw_1 hP hK hD hS => ?_)
  have hw_1 : (-1) = r_1 := Eq.symm hw_1
  subst hw_1
  exact W.iret (v := (-1)) hx hb hr (fun t ht hW => ⟨⟨(-1), (), rfl, rfl, trivial⟩, hS.F ht⟩) hS.2.2 dX13_fault_4
set_option maxHeartbeats 1000000 in
set_option maxRecDepth 100000 in
theorem tX13_sheet (l : Launch) (dC : Nat → ClassId) (dI : Nat → Nat → Nat) (sz : Nat) (ad : Nat → Nat) (ca : Nat → ClassId) : Met l yX13_sheet (jk yX13_sheet cX13_sheet 4 (some .int)) ({ frames := 3, cells := 0, slots := 0, locals := 63 }) (va_Pc [.ref (ad 0)] (jw_P (dC, dI) (mW ad ca) (mT ca) sz)) (va_Qi (fun (r : Int32) (_ : Unit) => (r = 0)) (fun _ _ => True) (va_A (mW ad ca) sz)) 0 0 (va_A (mW ad ca) sz) := by
  refine Met.ofW (cc := cX13_sheet) (maxL := 4) (ret := (some .int)) (by decide) rfl ?_
  intro p e s m args below meth c s₁ B hml hv
  obtain ⟨rfl, hsz, hP, hK, hD0⟩ := hv
  have hx := B.exec
  have hb := B.bytes
  have hr := B.returns
  have hts := atoms_spec (ws := (jk yX13_sheet cX13_sheet 4 (some .int))) B.pre
  have hown : s.vm.findClass RX13 = some m.cls := findClass_of_methodNamed B.named
  have hlocks := B.notSynchronized
  subst hsz
  have hD := hD0.self (sz := s.heap.size)
  generalize hAe : (va_A (mW ad ca) s.heap.size) = A at hD ⊢
  have hA : ∀ q : Nat, s.heap.size ≤ q → A q := fun q h => by rw [← hAe]; exact Or.inr h
  have hS : va_S A s.heap s.heap [] := va_S.rf
  have hP : va_P (dC, dI) vwCl (mW ad ca) s.heap := hP
  have hl := lv_entry ([.ref (ad 0)]) (n := 4) (Nat.le_of_ble_eq_true rfl)
  rw [lg_entry_eq]
  generalize (lg_sl ([.ref (ad 0)]) ++ List.replicate (4 - (lg_sl ([.ref (ad 0)])).length) Slot.unset).toArray = ls at hl ⊢
  have hl : lv_has ls 4 [(0, .ref (ad 0))] := hl
  refine lv_aload_n hx hb dX13_sheet_0 rfl (lv_at hl 0 rfl) ?_
  refine va_get (D := (dC, dI)) (ci := 13) (v := .int 0) (C := RX13) (T := TX13) (N := 104) hx hb hts (jh hin_RX13) hown hK hP 0 rfl rfl 18 (by decide) (hts (.fieldLink RX13 374 "BookOfAllModel" "sheets" "I") (jm m_524)) (fun _ h9 => h9) rfl dX13_sheet_1 ?_
  refine lv_bipush (v := 12) hx hb dX13_sheet_4 (by decide) ?_
  refine lv_icmp_eq (tgt := 17) hx hb dX13_sheet_6 (by decide) (fun z => absurd z (by decide)) (fun _ => ?_)
  refine lv_aload_n hx hb dX13_sheet_9 rfl (lv_at hl 0 rfl) ?_
  refine jcw_i (va_runV (As := []) (rest := []) ⟨hx, hb, hml, hown, hts⟩ (kX13_reads_2 l dC dI _ ad ca) (cwV 0 hts (jgoodV m_520 m_521 m_522 m_96 m_523) rfl rfl rfl (by decide +kernel) ⟨Nat.le_of_ble_eq_true rfl, Nat.le_of_ble_eq_true rfl⟩) ⟨jw_blind, va_recv hK hP (ci := 13) (q0 := 0) rfl rfl, fun U hU hW => ⟨rfl, jw_of hU hW hP hK hD⟩⟩ rfl rfl hl.1 rfl (lv_room (Nat.le_of_ble_eq_true rfl)) dX13_sheet_10 ⟨Nat.le_of_ble_eq_true rfl, Nat.le_of_ble_eq_true rfl⟩) hD hS hA (fun r_1 H locs hw_1 hP hK hD hS => ?_)
  have hw_1 : (-1) = r_1 := Eq.symm hw_1
  subst hw_1
  refine lv_iconst (v := (-1)) hx hb dX13_sheet_13 (by decide) ?_
  refine lv_icmp_eq (tgt := 19) hx hb dX13_sheet_14 (by decide) (fun _ => ?_) (fun z => absurd (by decide) z)
  refine lv_iconst (v := 0) hx hb dX13_sheet_19 (by decide) ?_
  refine lv_istore_n (lv' := [(1, .int 0), (0, .ref (ad 0))]) hx hb dX13_sheet_20 rfl hl (by decide) rfl (fun ls hl => ?_)
  refine lv_iload_n hx hb dX13_sheet_21 rfl (lv_at hl 0 rfl) ?_
  refine lv_aload_n hx hb dX13_sheet_22 rfl (lv_at hl 1 rfl) ?_
  refine va_get (D := (dC, dI)) (ci := 13) (v := .int 0) (C := RX13) (T := TX13) (N := 104) hx hb hts (jh hin_RX13) hown hK hP 0 rfl rfl 12 (by decide) (hts (.fieldLink RX13 298 "BookOfAllModel" "doing" "I") (jm m_499)) (fun _ h9 => h9) rfl dX13_sheet_23 ?_
  refine lv_icmp_ge (tgt := 77) hx hb dX13_sheet_26 (by decide) (fun _ => ?_) (fun z => absurd (by decide) z)
  refine lv_iconst (v := 0) hx hb dX13_sheet_77 (by decide) ?_
  refine lv_istore_n (lv' := [(1, .int 0), (0, .ref (ad 0))]) hx hb dX13_sheet_78 rfl hl (by decide) rfl (fun ls hl => ?_)
  refine lv_iload_n hx hb dX13_sheet_79 rfl (lv_at hl 0 rfl) ?_
  refine lv_bipush (v := 14) hx hb dX13_sheet_80 (by decide) ?_
  refine lv_icmp_ge (tgt := 131) hx hb dX13_sheet_82 (by decide) (fun z => absurd z (by decide)) (fun _ => ?_)
  refine lv_aload_n hx hb dX13_sheet_85 rfl (lv_at hl 1 rfl) ?_
  refine va_get (D := (dC, dI)) (ci := 13) (v := .ref (ad 11)) (C := RX13) (T := TX13) (N := 104) hx hb hts (jh hin_RX13) hown hK hP 0 rfl rfl 21 (by decide) (hts (.fieldLink RX13 41 "BookOfAllModel" "sheetBegin" "[I") (jm m_12)) (fun _ h9 => h9) rfl dX13_sheet_86 ?_
  refine lv_bipush (v := 14) hx hb dX13_sheet_89 (by decide) ?_
  refine lv_aload_n hx hb dX13_sheet_91 rfl (lv_at hl 1 rfl) ?_
  refine va_get (D := (dC, dI)) (ci := 13) (v := .int 0) (C := RX13) (T := TX13) (N := 104) hx hb hts (jh hin_RX13) hown hK hP 0 rfl rfl 18 (by decide) (hts (.fieldLink RX13 374 "BookOfAllModel" "sheets" "I") (jm m_524)) (fun _ h9 => h9) rfl dX13_sheet_92 ?_
  refine lv_imul hx hb dX13_sheet_95 ?_
  refine jt_i 0 (by decide) ?_
  refine lv_iload_n hx hb dX13_sheet_96 rfl (lv_at hl 0 rfl) ?_
  refine lv_iadd hx hb dX13_sheet_97 ?_
  refine jt_i 0 (by decide) ?_
  refine lv_aload_n hx hb dX13_sheet_98 rfl (lv_at hl 1 rfl) ?_
  refine va_get (D := (dC, dI)) (ci := 13) (v := .ref (ad 5)) (C := RX13) (T := TX13) (N := 104) hx hb hts (jh hin_RX13) hown hK hP 0 rfl rfl 13 (by decide) (hts (.fieldLink RX13 23 "BookOfAllModel" "slotBegin" "[I") (jm m_6)) (fun _ h9 => h9) rfl dX13_sheet_99 ?_
  refine lv_iload_n hx hb dX13_sheet_102 rfl (lv_at hl 0 rfl) ?_
  refine va_iald hx hb hK hP 5 4 rfl rfl (vp_in_nI (n := 0) (by decide) (by decide)) dX13_sheet_103 ?_
  refine jt_i (-1) (by decide) ?_
  refine va_iast hx hb hK hP hD hS 11 10 rfl rfl (vp_in_nI (n := 0) (by decide) (by decide)) dX13_sheet_104 (fun H locs hP hD hS => ?_)
  refine lv_aload_n hx hb dX13_sheet_105 rfl (lv_at hl 1 rfl) ?_
  refine va_get (D := (dC, dI)) (ci := 13) (v := .ref (ad 12)) (C := RX13) (T := TX13) (N := 104) hx hb hts (jh hin_RX13) hown hK hP 0 rfl rfl 22 (by decide) (hts (.fieldLink RX13 44 "BookOfAllModel" "sheetEnd" "[I") (jm m_13)) (fun _ h9 => h9) rfl dX13_sheet_106 ?_
  refine lv_bipush (v := 14) hx hb dX13_sheet_109 (by decide) ?_
  refine lv_aload_n hx hb dX13_sheet_111 rfl (lv_at hl 1 rfl) ?_
  refine va_get (D := (dC, dI)) (ci := 13) (v := .int 0) (C := RX13) (T := TX13) (N := 104) hx hb hts (jh hin_RX13) hown hK hP 0 rfl rfl 18 (by decide) (hts (.fieldLink RX13 374 "BookOfAllModel" "sheets" "I") (jm m_524)) (fun _ h9 => h9) rfl dX13_sheet_112 ?_
  refine lv_imul hx hb dX13_sheet_115 ?_
  refine jt_i 0 (by decide) ?_
  refine lv_iload_n hx hb dX13_sheet_116 rfl (lv_at hl 0 rfl) ?_
  refine lv_iadd hx hb dX13_sheet_117 ?_
  refine jt_i 0 (by decide) ?_
  refine lv_aload_n hx hb dX13_sheet_118 rfl (lv_at hl 1 rfl) ?_
  refine va_get (D := (dC, dI)) (ci := 13) (v := .ref (ad 6)) (C := RX13) (T := TX13) (N := 104) hx hb hts (jh hin_RX13) hown hK hP 0 rfl rfl 14 (by decide) (hts (.fieldLink RX13 26 "BookOfAllModel" "slotEnd" "[I") (jm m_7)) (fun _ h9 => h9) rfl dX13_sheet_119 ?_
  refine lv_iload_n hx hb dX13_sheet_122 rfl (lv_at hl 0 rfl) ?_
  refine va_iald hx hb hK hP 6 5 rfl rfl (vp_in_nI (n := 0) (by decide) (by decide)) dX13_sheet_123 ?_
  refine jt_i (-1) (by decide) ?_
  refine va_iast hx hb hK hP hD hS 12 11 rfl rfl (vp_in_nI (n := 0) (by decide) (by decide)) dX13_sheet_124 (fun H locs hP hD hS => ?_)
  refine lv_iinc (v := 1) (lv' := [(1, .int 1), (0, .ref (ad 0))]) hx hb dX13_sheet_125 hl (k := 0) rfl (by decide) (by decide) rfl (fun ls hl => ?_)
  refine lv_goto (tgt := 79) hx hb dX13_sheet_128 (by decide) ?_
  refine lv_iload_n hx hb dX13_sheet_79 rfl (lv_at hl 0 rfl) ?_
  refine lv_bipush (v := 14) hx hb dX13_sheet_80 (by decide) ?_
  refine lv_icmp_ge (tgt := 131) hx hb dX13_sheet_82 (by decide) (fun z => absurd z (by decide)) (fun _ => ?_)
  refine lv_aload_n hx hb dX13_sheet_85 rfl (lv_at hl 1 rfl) ?_
  refine va_get (D := (dC, dI)) (ci := 13) (v := .ref (ad 11)) (C := RX13) (T := TX13) (N := 104) hx hb hts (jh hin_RX13) hown hK hP 0 rfl rfl 21 (by decide) (hts (.fieldLink RX13 41 "BookOfAllModel" "sheetBegin" "[I") (jm m_12)) (fun _ h9 => h9) rfl dX13_sheet_86 ?_
  refine lv_bipush (v := 14) hx hb dX13_sheet_89 (by decide) ?_
  refine lv_aload_n hx hb dX13_sheet_91 rfl (lv_at hl 1 rfl) ?_
  refine va_get (D := (dC, dI)) (ci := 13) (v := .int 0) (C := RX13) (T := TX13) (N := 104) hx hb hts (jh hin_RX13) hown hK hP 0 rfl rfl 18 (by decide) (hts (.fieldLink RX13 374 "BookOfAllModel" "sheets" "I") (jm m_524)) (fun _ h9 => h9) rfl dX13_sheet_92 ?_
  refine lv_imul hx hb dX13_sheet_95 ?_
  refine jt_i 0 (by decide) ?_
  refine lv_iload_n hx hb dX13_sheet_96 rfl (lv_at hl 0 rfl) ?_
  refine lv_iadd hx hb dX13_sheet_97 ?_
  refine jt_i 1 (by decide) ?_
  refine lv_aload_n hx hb dX13_sheet_98 rfl (lv_at hl 1 rfl) ?_
  refine va_get (D := (dC, dI)) (ci := 13) (v := .ref (ad 5)) (C := RX13) (T := TX13) (N := 104) hx hb hts (jh hin_RX13) hown hK hP 0 rfl rfl 13 (by decide) (hts (.fieldLink RX13 23 "BookOfAllModel" "slotBegin" "[I") (jm m_6)) (fun _ h9 => h9) rfl dX13_sheet_99 ?_
  refine lv_iload_n hx hb dX13_sheet_102 rfl (lv_at hl 0 rfl) ?_
  refine va_iald hx hb hK hP 5 4 rfl rfl (vp_in_nI (n := 1) (by decide) (by decide)) dX13_sheet_103 ?_
  refine jt_i (-1) (by decide) ?_
  refine va_iast hx hb hK hP hD hS 11 10 rfl rfl (vp_in_nI (n := 1) (by decide) (by decide)) dX13_sheet_104 (fun H locs hP hD hS => ?_)
  have hP := jrP hP (jx1 (Nat.ne_of_beq_eq_false rfl) jx0)
  have hD := jrD hD (jx1 (Nat.ne_of_beq_eq_false rfl) jx0)
  refine lv_aload_n hx hb dX13_sheet_105 rfl (lv_at hl 1 rfl) ?_
  refine va_get (D := (dC, dI)) (ci := 13) (v := .ref (ad 12)) (C := RX13) (T := TX13) (N := 104) hx hb hts (jh hin_RX13) hown hK hP 0 rfl rfl 22 (by decide) (hts (.fieldLink RX13 44 "BookOfAllModel" "sheetEnd" "[I") (jm m_13)) (fun _ h9 => h9) rfl dX13_sheet_106 ?_
  refine lv_bipush (v := 14) hx hb dX13_sheet_109 (by decide) ?_
  refine lv_aload_n hx hb dX13_sheet_111 rfl (lv_at hl 1 rfl) ?_
  refine va_get (D := (dC, dI)) (ci := 13) (v := .int 0) (C := RX13) (T := TX13) (N := 104) hx hb hts (jh hin_RX13) hown hK hP 0 rfl rfl 18 (by decide) (hts (.fieldLink RX13 374 "BookOfAllModel" "sheets" "I") (jm m_524)) (fun _ h9 => h9) rfl dX13_sheet_112 ?_
  refine lv_imul hx hb dX13_sheet_115 ?_
  refine jt_i 0 (by decide) ?_
  refine lv_iload_n hx hb dX13_sheet_116 rfl (lv_at hl 0 rfl) ?_
  refine lv_iadd hx hb dX13_sheet_117 ?_
  refine jt_i 1 (by decide) ?_
  refine lv_aload_n hx hb dX13_sheet_118 rfl (lv_at hl 1 rfl) ?_
  refine va_get (D := (dC, dI)) (ci := 13) (v := .ref (ad 6)) (C := RX13) (T := TX13) (N := 104) hx hb hts (jh hin_RX13) hown hK hP 0 rfl rfl 14 (by decide) (hts (.fieldLink RX13 26 "BookOfAllModel" "slotEnd" "[I") (jm m_7)) (fun _ h9 => h9) rfl dX13_sheet_119 ?_
  refine lv_iload_n hx hb dX13_sheet_122 rfl (lv_at hl 0 rfl) ?_
  refine va_iald hx hb hK hP 6 5 rfl rfl (vp_in_nI (n := 1) (by decide) (by decide)) dX13_sheet_123 ?_
  refine jt_i (-1) (by decide) ?_
  refine va_iast hx hb hK hP hD hS 12 11 rfl rfl (vp_in_nI (n := 1) (by decide) (by decide)) dX13_sheet_124 (fun H locs hP hD hS => ?_)
  have hP := jrP hP jx0
  have hD := jrD hD jx0
  refine lv_iinc (v := 2) (lv' := [(1, .int 2), (0, .ref (ad 0))]) hx hb dX13_sheet_125 hl (k := 0) rfl (by decide) (by decide) rfl (fun ls hl => ?_)
  refine lv_goto (tgt := 79) hx hb dX13_sheet_128 (by decide) ?_
  refine lv_iload_n hx hb dX13_sheet_79 rfl (lv_at hl 0 rfl) ?_
  refine lv_bipush (v := 14) hx hb dX13_sheet_80 (by decide) ?_
  refine lv_icmp_ge (tgt := 131) hx hb dX13_sheet_82 (by decide) (fun z => absurd z (by decide)) (fun _ => ?_)
  refine lv_aload_n hx hb dX13_sheet_85 rfl (lv_at hl 1 rfl) ?_
  refine va_get (D := (dC, dI)) (ci := 13) (v := .ref (ad 11)) (C := RX13) (T := TX13) (N := 104) hx hb hts (jh hin_RX13) hown hK hP 0 rfl rfl 21 (by decide) (hts (.fieldLink RX13 41 "BookOfAllModel" "sheetBegin" "[I") (jm m_12)) (fun _ h9 => h9) rfl dX13_sheet_86 ?_
  refine lv_bipush (v := 14) hx hb dX13_sheet_89 (by decide) ?_
  refine lv_aload_n hx hb dX13_sheet_91 rfl (lv_at hl 1 rfl) ?_
  refine va_get (D := (dC, dI)) (ci := 13) (v := .int 0) (C := RX13) (T := TX13) (N := 104) hx hb hts (jh hin_RX13) hown hK hP 0 rfl rfl 18 (by decide) (hts (.fieldLink RX13 374 "BookOfAllModel" "sheets" "I") (jm m_524)) (fun _ h9 => h9) rfl dX13_sheet_92 ?_
  refine lv_imul hx hb dX13_sheet_95 ?_
  refine jt_i 0 (by decide) ?_
  refine lv_iload_n hx hb dX13_sheet_96 rfl (lv_at hl 0 rfl) ?_
  refine lv_iadd hx hb dX13_sheet_97 ?_
  refine jt_i 2 (by decide) ?_
  refine lv_aload_n hx hb dX13_sheet_98 rfl (lv_at hl 1 rfl) ?_
  refine va_get (D := (dC, dI)) (ci := 13) (v := .ref (ad 5)) (C := RX13) (T := TX13) (N := 104) hx hb hts (jh hin_RX13) hown hK hP 0 rfl rfl 13 (by decide) (hts (.fieldLink RX13 23 "BookOfAllModel" "slotBegin" "[I") (jm m_6)) (fun _ h9 => h9) rfl dX13_sheet_99 ?_
  refine lv_iload_n hx hb dX13_sheet_102 rfl (lv_at hl 0 rfl) ?_
  refine va_iald hx hb hK hP 5 4 rfl rfl (vp_in_nI (n := 2) (by decide) (by decide)) dX13_sheet_103 ?_
  refine jt_i (-1) (by decide) ?_
  refine va_iast hx hb hK hP hD hS 11 10 rfl rfl (vp_in_nI (n := 2) (by decide) (by decide)) dX13_sheet_104 (fun H locs hP hD hS => ?_)
  have hP := jrP hP (jx1 (Nat.ne_of_beq_eq_false rfl) jx0)
  have hD := jrD hD (jx1 (Nat.ne_of_beq_eq_false rfl) jx0)
  refine lv_aload_n hx hb dX13_sheet_105 rfl (lv_at hl 1 rfl) ?_
  refine va_get (D := (dC, dI)) (ci := 13) (v := .ref (ad 12)) (C := RX13) (T := TX13) (N := 104) hx hb hts (jh hin_RX13) hown hK hP 0 rfl rfl 22 (by decide) (hts (.fieldLink RX13 44 "BookOfAllModel" "sheetEnd" "[I") (jm m_13)) (fun _ h9 => h9) rfl dX13_sheet_106 ?_
  refine lv_bipush (v := 14) hx hb dX13_sheet_109 (by decide) ?_
  refine lv_aload_n hx hb dX13_sheet_111 rfl (lv_at hl 1 rfl) ?_
  refine va_get (D := (dC, dI)) (ci := 13) (v := .int 0) (C := RX13) (T := TX13) (N := 104) hx hb hts (jh hin_RX13) hown hK hP 0 rfl rfl 18 (by decide) (hts (.fieldLink RX13 374 "BookOfAllModel" "sheets" "I") (jm m_524)) (fun _ h9 => h9) rfl dX13_sheet_112 ?_
  refine lv_imul hx hb dX13_sheet_115 ?_
  refine jt_i 0 (by decide) ?_
  refine lv_iload_n hx hb dX13_sheet_116 rfl (lv_at hl 0 rfl) ?_
  refine lv_iadd hx hb dX13_sheet_117 ?_
  refine jt_i 2 (by decide) ?_
  refine lv_aload_n hx hb dX13_sheet_118 rfl (lv_at hl 1 rfl) ?_
  refine va_get (D := (dC, dI)) (ci := 13) (v := .ref (ad 6)) (C := RX13) (T := TX13) (N := 104) hx hb hts (jh hin_RX13) hown hK hP 0 rfl rfl 14 (by decide) (hts (.fieldLink RX13 26 "BookOfAllModel" "slotEnd" "[I") (jm m_7)) (fun _ h9 => h9) rfl dX13_sheet_119 ?_
  refine lv_iload_n hx hb dX13_sheet_122 rfl (lv_at hl 0 rfl) ?_
  refine va_iald hx hb hK hP 6 5 rfl rfl (vp_in_nI (n := 2) (by decide) (by decide)) dX13_sheet_123 ?_
  refine jt_i (-1) (by decide) ?_
  refine va_iast hx hb hK hP hD hS 12 11 rfl rfl (vp_in_nI (n := 2) (by decide) (by decide)) dX13_sheet_124 (fun H locs hP hD hS => ?_)
  have hP := jrP hP jx0
  have hD := jrD hD jx0
  refine lv_iinc (v := 3) (lv' := [(1, .int 3), (0, .ref (ad 0))]) hx hb dX13_sheet_125 hl (k := 0) rfl (by decide) (by decide) rfl (fun ls hl => ?_)
  refine lv_goto (tgt := 79) hx hb dX13_sheet_128 (by decide) ?_
  refine lv_iload_n hx hb dX13_sheet_79 rfl (lv_at hl 0 rfl) ?_
  refine lv_bipush (v := 14) hx hb dX13_sheet_80 (by decide) ?_
  refine lv_icmp_ge (tgt := 131) hx hb dX13_sheet_82 (by decide) (fun z => absurd z (by decide)) (fun _ => ?_)
  refine lv_aload_n hx hb dX13_sheet_85 rfl (lv_at hl 1 rfl) ?_
  refine va_get (D := (dC, dI)) (ci := 13) (v := .ref (ad 11)) (C := RX13) (T := TX13) (N := 104) hx hb hts (jh hin_RX13) hown hK hP 0 rfl rfl 21 (by decide) (hts (.fieldLink RX13 41 "BookOfAllModel" "sheetBegin" "[I") (jm m_12)) (fun _ h9 => h9) rfl dX13_sheet_86 ?_
  refine lv_bipush (v := 14) hx hb dX13_sheet_89 (by decide) ?_
  refine lv_aload_n hx hb dX13_sheet_91 rfl (lv_at hl 1 rfl) ?_
  refine va_get (D := (dC, dI)) (ci := 13) (v := .int 0) (C := RX13) (T := TX13) (N := 104) hx hb hts (jh hin_RX13) hown hK hP 0 rfl rfl 18 (by decide) (hts (.fieldLink RX13 374 "BookOfAllModel" "sheets" "I") (jm m_524)) (fun _ h9 => h9) rfl dX13_sheet_92 ?_
  refine lv_imul hx hb dX13_sheet_95 ?_
  refine jt_i 0 (by decide) ?_
  refine lv_iload_n hx hb dX13_sheet_96 rfl (lv_at hl 0 rfl) ?_
  refine lv_iadd hx hb dX13_sheet_97 ?_
  refine jt_i 3 (by decide) ?_
  refine lv_aload_n hx hb dX13_sheet_98 rfl (lv_at hl 1 rfl) ?_
  refine va_get (D := (dC, dI)) (ci := 13) (v := .ref (ad 5)) (C := RX13) (T := TX13) (N := 104) hx hb hts (jh hin_RX13) hown hK hP 0 rfl rfl 13 (by decide) (hts (.fieldLink RX13 23 "BookOfAllModel" "slotBegin" "[I") (jm m_6)) (fun _ h9 => h9) rfl dX13_sheet_99 ?_
  refine lv_iload_n hx hb dX13_sheet_102 rfl (lv_at hl 0 rfl) ?_
  refine va_iald hx hb hK hP 5 4 rfl rfl (vp_in_nI (n := 3) (by decide) (by decide)) dX13_sheet_103 ?_
  refine jt_i (-1) (by decide) ?_
  refine va_iast hx hb hK hP hD hS 11 10 rfl rfl (vp_in_nI (n := 3) (by decide) (by decide)) dX13_sheet_104 (fun H locs hP hD hS => ?_)
  have hP := jrP hP (jx1 (Nat.ne_of_beq_eq_false rfl) jx0)
  have hD := jrD hD (jx1 (Nat.ne_of_beq_eq_false rfl) jx0)
  refine lv_aload_n hx hb dX13_sheet_105 rfl (lv_at hl 1 rfl) ?_
  refine va_get (D := (dC, dI)) (ci := 13) (v := .ref (ad 12)) (C := RX13) (T := TX13) (N := 104) hx hb hts (jh hin_RX13) hown hK hP 0 rfl rfl 22 (by decide) (hts (.fieldLink RX13 44 "BookOfAllModel" "sheetEnd" "[I") (jm m_13)) (fun _ h9 => h9) rfl dX13_sheet_106 ?_
  refine lv_bipush (v := 14) hx hb dX13_sheet_109 (by decide) ?_
  refine lv_aload_n hx hb dX13_sheet_111 rfl (lv_at hl 1 rfl) ?_
  refine va_get (D := (dC, dI)) (ci := 13) (v := .int 0) (C := RX13) (T := TX13) (N := 104) hx hb hts (jh hin_RX13) hown hK hP 0 rfl rfl 18 (by decide) (hts (.fieldLink RX13 374 "BookOfAllModel" "sheets" "I") (jm m_524)) (fun _ h9 => h9) rfl dX13_sheet_112 ?_
  refine lv_imul hx hb dX13_sheet_115 ?_
  refine jt_i 0 (by decide) ?_
  refine lv_iload_n hx hb dX13_sheet_116 rfl (lv_at hl 0 rfl) ?_
  refine lv_iadd hx hb dX13_sheet_117 ?_
  refine jt_i 3 (by decide) ?_
  refine lv_aload_n hx hb dX13_sheet_118 rfl (lv_at hl 1 rfl) ?_
  refine va_get (D := (dC, dI)) (ci := 13) (v := .ref (ad 6)) (C := RX13) (T := TX13) (N := 104) hx hb hts (jh hin_RX13) hown hK hP 0 rfl rfl 14 (by decide) (hts (.fieldLink RX13 26 "BookOfAllModel" "slotEnd" "[I") (jm m_7)) (fun _ h9 => h9) rfl dX13_sheet_119 ?_
  refine lv_iload_n hx hb dX13_sheet_122 rfl (lv_at hl 0 rfl) ?_
  refine va_iald hx hb hK hP 6 5 rfl rfl (vp_in_nI (n := 3) (by decide) (by decide)) dX13_sheet_123 ?_
  refine jt_i (-1) (by decide) ?_
  refine va_iast hx hb hK hP hD hS 12 11 rfl rfl (vp_in_nI (n := 3) (by decide) (by decide)) dX13_sheet_124 (fun H locs hP hD hS => ?_)
  have hP := jrP hP jx0
  have hD := jrD hD jx0
  refine lv_iinc (v := 4) (lv' := [(1, .int 4), (0, .ref (ad 0))]) hx hb dX13_sheet_125 hl (k := 0) rfl (by decide) (by decide) rfl (fun ls hl => ?_)
  refine lv_goto (tgt := 79) hx hb dX13_sheet_128 (by decide) ?_
  refine lv_iload_n hx hb dX13_sheet_79 rfl (lv_at hl 0 rfl) ?_
  refine lv_bipush (v := 14) hx hb dX13_sheet_80 (by decide) ?_
  refine lv_icmp_ge (tgt := 131) hx hb dX13_sheet_82 (by decide) (fun z => absurd z (by decide)) (fun _ => ?_)
  refine lv_aload_n hx hb dX13_sheet_85 rfl (lv_at hl 1 rfl) ?_
  refine va_get (D := (dC, dI)) (ci := 13) (v := .ref (ad 11)) (C := RX13) (T := TX13) (N := 104) hx hb hts (jh hin_RX13) hown hK hP 0 rfl rfl 21 (by decide) (hts (.fieldLink RX13 41 "BookOfAllModel" "sheetBegin" "[I") (jm m_12)) (fun _ h9 => h9) rfl dX13_sheet_86 ?_
  refine lv_bipush (v := 14) hx hb dX13_sheet_89 (by decide) ?_
  refine lv_aload_n hx hb dX13_sheet_91 rfl (lv_at hl 1 rfl) ?_
  refine va_get (D := (dC, dI)) (ci := 13) (v := .int 0) (C := RX13) (T := TX13) (N := 104) hx hb hts (jh hin_RX13) hown hK hP 0 rfl rfl 18 (by decide) (hts (.fieldLink RX13 374 "BookOfAllModel" "sheets" "I") (jm m_524)) (fun _ h9 => h9) rfl dX13_sheet_92 ?_
  refine lv_imul hx hb dX13_sheet_95 ?_
  refine jt_i 0 (by decide) ?_
  refine lv_iload_n hx hb dX13_sheet_96 rfl (lv_at hl 0 rfl) ?_
  refine lv_iadd hx hb dX13_sheet_97 ?_
  refine jt_i 4 (by decide) ?_
  refine lv_aload_n hx hb dX13_sheet_98 rfl (lv_at hl 1 rfl) ?_
  refine va_get (D := (dC, dI)) (ci := 13) (v := .ref (ad 5)) (C := RX13) (T := TX13) (N := 104) hx hb hts (jh hin_RX13) hown hK hP 0 rfl rfl 13 (by decide) (hts (.fieldLink RX13 23 "BookOfAllModel" "slotBegin" "[I") (jm m_6)) (fun _ h9 => h9) rfl dX13_sheet_99 ?_
  refine lv_iload_n hx hb dX13_sheet_102 rfl (lv_at hl 0 rfl) ?_
  refine va_iald hx hb hK hP 5 4 rfl rfl (vp_in_nI (n := 4) (by decide) (by decide)) dX13_sheet_103 ?_
  refine jt_i (-1) (by decide) ?_
  refine va_iast hx hb hK hP hD hS 11 10 rfl rfl (vp_in_nI (n := 4) (by decide) (by decide)) dX13_sheet_104 (fun H locs hP hD hS => ?_)
  have hP := jrP hP (jx1 (Nat.ne_of_beq_eq_false rfl) jx0)
  have hD := jrD hD (jx1 (Nat.ne_of_beq_eq_false rfl) jx0)
  refine lv_aload_n hx hb dX13_sheet_105 rfl (lv_at hl 1 rfl) ?_
  refine va_get (D := (dC, dI)) (ci := 13) (v := .ref (ad 12)) (C := RX13) (T := TX13) (N := 104) hx hb hts (jh hin_RX13) hown hK hP 0 rfl rfl 22 (by decide) (hts (.fieldLink RX13 44 "BookOfAllModel" "sheetEnd" "[I") (jm m_13)) (fun _ h9 => h9) rfl dX13_sheet_106 ?_
  refine lv_bipush (v := 14) hx hb dX13_sheet_109 (by decide) ?_
  refine lv_aload_n hx hb dX13_sheet_111 rfl (lv_at hl 1 rfl) ?_
  refine va_get (D := (dC, dI)) (ci := 13) (v := .int 0) (C := RX13) (T := TX13) (N := 104) hx hb hts (jh hin_RX13) hown hK hP 0 rfl rfl 18 (by decide) (hts (.fieldLink RX13 374 "BookOfAllModel" "sheets" "I") (jm m_524)) (fun _ h9 => h9) rfl dX13_sheet_112 ?_
  refine lv_imul hx hb dX13_sheet_115 ?_
  refine jt_i 0 (by decide) ?_
  refine lv_iload_n hx hb dX13_sheet_116 rfl (lv_at hl 0 rfl) ?_
  refine lv_iadd hx hb dX13_sheet_117 ?_
  refine jt_i 4 (by decide) ?_
  refine lv_aload_n hx hb dX13_sheet_118 rfl (lv_at hl 1 rfl) ?_
  refine va_get (D := (dC, dI)) (ci := 13) (v := .ref (ad 6)) (C := RX13) (T := TX13) (N := 104) hx hb hts (jh hin_RX13) hown hK hP 0 rfl rfl 14 (by decide) (hts (.fieldLink RX13 26 "BookOfAllModel" "slotEnd" "[I") (jm m_7)) (fun _ h9 => h9) rfl dX13_sheet_119 ?_
  refine lv_iload_n hx hb dX13_sheet_122 rfl (lv_at hl 0 rfl) ?_
  refine va_iald hx hb hK hP 6 5 rfl rfl (vp_in_nI (n := 4) (by decide) (by decide)) dX13_sheet_123 ?_
  refine jt_i (-1) (by decide) ?_
  refine va_iast hx hb hK hP hD hS 12 11 rfl rfl (vp_in_nI (n := 4) (by decide) (by decide)) dX13_sheet_124 (fun H locs hP hD hS => ?_)
  have hP := jrP hP jx0
  have hD := jrD hD jx0
  refine lv_iinc (v := 5) (lv' := [(1, .int 5), (0, .ref (ad 0))]) hx hb dX13_sheet_125 hl (k := 0) rfl (by decide) (by decide) rfl (fun ls hl => ?_)
  refine lv_goto (tgt := 79) hx hb dX13_sheet_128 (by decide) ?_
  refine lv_iload_n hx hb dX13_sheet_79 rfl (lv_at hl 0 rfl) ?_
  refine lv_bipush (v := 14) hx hb dX13_sheet_80 (by decide) ?_
  refine lv_icmp_ge (tgt := 131) hx hb dX13_sheet_82 (by decide) (fun z => absurd z (by decide)) (fun _ => ?_)
  refine lv_aload_n hx hb dX13_sheet_85 rfl (lv_at hl 1 rfl) ?_
  refine va_get (D := (dC, dI)) (ci := 13) (v := .ref (ad 11)) (C := RX13) (T := TX13) (N := 104) hx hb hts (jh hin_RX13) hown hK hP 0 rfl rfl 21 (by decide) (hts (.fieldLink RX13 41 "BookOfAllModel" "sheetBegin" "[I") (jm m_12)) (fun _ h9 => h9) rfl dX13_sheet_86 ?_
  refine lv_bipush (v := 14) hx hb dX13_sheet_89 (by decide) ?_
  refine lv_aload_n hx hb dX13_sheet_91 rfl (lv_at hl 1 rfl) ?_
  refine va_get (D := (dC, dI)) (ci := 13) (v := .int 0) (C := RX13) (T := TX13) (N := 104) hx hb hts (jh hin_RX13) hown hK hP 0 rfl rfl 18 (by decide) (hts (.fieldLink RX13 374 "BookOfAllModel" "sheets" "I") (jm m_524)) (fun _ h9 => h9) rfl dX13_sheet_92 ?_
  refine lv_imul hx hb dX13_sheet_95 ?_
  refine jt_i 0 (by decide) ?_
  refine lv_iload_n hx hb dX13_sheet_96 rfl (lv_at hl 0 rfl) ?_
  refine lv_iadd hx hb dX13_sheet_97 ?_
  refine jt_i 5 (by decide) ?_
  refine lv_aload_n hx hb dX13_sheet_98 rfl (lv_at hl 1 rfl) ?_
  refine va_get (D := (dC, dI)) (ci := 13) (v := .ref (ad 5)) (C := RX13) (T := TX13) (N := 104) hx hb hts (jh hin_RX13) hown hK hP 0 rfl rfl 13 (by decide) (hts (.fieldLink RX13 23 "BookOfAllModel" "slotBegin" "[I") (jm m_6)) (fun _ h9 => h9) rfl dX13_sheet_99 ?_
  refine lv_iload_n hx hb dX13_sheet_102 rfl (lv_at hl 0 rfl) ?_
  refine va_iald hx hb hK hP 5 4 rfl rfl (vp_in_nI (n := 5) (by decide) (by decide)) dX13_sheet_103 ?_
  refine jt_i (-1) (by decide) ?_
  refine va_iast hx hb hK hP hD hS 11 10 rfl rfl (vp_in_nI (n := 5) (by decide) (by decide)) dX13_sheet_104 (fun H locs hP hD hS => ?_)
  have hP := jrP hP (jx1 (Nat.ne_of_beq_eq_false rfl) jx0)
  have hD := jrD hD (jx1 (Nat.ne_of_beq_eq_false rfl) jx0)
  refine lv_aload_n hx hb dX13_sheet_105 rfl (lv_at hl 1 rfl) ?_
  refine va_get (D := (dC, dI)) (ci := 13) (v := .ref (ad 12)) (C := RX13) (T := TX13) (N := 104) hx hb hts (jh hin_RX13) hown hK hP 0 rfl rfl 22 (by decide) (hts (.fieldLink RX13 44 "BookOfAllModel" "sheetEnd" "[I") (jm m_13)) (fun _ h9 => h9) rfl dX13_sheet_106 ?_
  refine lv_bipush (v := 14) hx hb dX13_sheet_109 (by decide) ?_
  refine lv_aload_n hx hb dX13_sheet_111 rfl (lv_at hl 1 rfl) ?_
  refine va_get (D := (dC, dI)) (ci := 13) (v := .int 0) (C := RX13) (T := TX13) (N := 104) hx hb hts (jh hin_RX13) hown hK hP 0 rfl rfl 18 (by decide) (hts (.fieldLink RX13 374 "BookOfAllModel" "sheets" "I") (jm m_524)) (fun _ h9 => h9) rfl dX13_sheet_112 ?_
  refine lv_imul hx hb dX13_sheet_115 ?_
  refine jt_i 0 (by decide) ?_
  refine lv_iload_n hx hb dX13_sheet_116 rfl (lv_at hl 0 rfl) ?_
  refine lv_iadd hx hb dX13_sheet_117 ?_
  refine jt_i 5 (by decide) ?_
  refine lv_aload_n hx hb dX13_sheet_118 rfl (lv_at hl 1 rfl) ?_
  refine va_get (D := (dC, dI)) (ci := 13) (v := .ref (ad 6)) (C := RX13) (T := TX13) (N := 104) hx hb hts (jh hin_RX13) hown hK hP 0 rfl rfl 14 (by decide) (hts (.fieldLink RX13 26 "BookOfAllModel" "slotEnd" "[I") (jm m_7)) (fun _ h9 => h9) rfl dX13_sheet_119 ?_
  refine lv_iload_n hx hb dX13_sheet_122 rfl (lv_at hl 0 rfl) ?_
  refine va_iald hx hb hK hP 6 5 rfl rfl (vp_in_nI (n := 5) (by decide) (by decide)) dX13_sheet_123 ?_
  refine jt_i (-1) (by decide) ?_
  refine va_iast hx hb hK hP hD hS 12 11 rfl rfl (vp_in_nI (n := 5) (by decide) (by decide)) dX13_sheet_124 (fun H locs hP hD hS => ?_)
  have hP := jrP hP jx0
  have hD := jrD hD jx0
  refine lv_iinc (v := 6) (lv' := [(1, .int 6), (0, .ref (ad 0))]) hx hb dX13_sheet_125 hl (k := 0) rfl (by decide) (by decide) rfl (fun ls hl => ?_)
  refine lv_goto (tgt := 79) hx hb dX13_sheet_128 (by decide) ?_
  refine lv_iload_n hx hb dX13_sheet_79 rfl (lv_at hl 0 rfl) ?_
  refine lv_bipush (v := 14) hx hb dX13_sheet_80 (by decide) ?_
  refine lv_icmp_ge (tgt := 131) hx hb dX13_sheet_82 (by decide) (fun z => absurd z (by decide)) (fun _ => ?_)
  refine lv_aload_n hx hb dX13_sheet_85 rfl (lv_at hl 1 rfl) ?_
  refine va_get (D := (dC, dI)) (ci := 13) (v := .ref (ad 11)) (C := RX13) (T := TX13) (N := 104) hx hb hts (jh hin_RX13) hown hK hP 0 rfl rfl 21 (by decide) (hts (.fieldLink RX13 41 "BookOfAllModel" "sheetBegin" "[I") (jm m_12)) (fun _ h9 => h9) rfl dX13_sheet_86 ?_
  refine lv_bipush (v := 14) hx hb dX13_sheet_89 (by decide) ?_
  refine lv_aload_n hx hb dX13_sheet_91 rfl (lv_at hl 1 rfl) ?_
  refine va_get (D := (dC, dI)) (ci := 13) (v := .int 0) (C := RX13) (T := TX13) (N := 104) hx hb hts (jh hin_RX13) hown hK hP 0 rfl rfl 18 (by decide) (hts (.fieldLink RX13 374 "BookOfAllModel" "sheets" "I") (jm m_524)) (fun _ h9 => h9) rfl dX13_sheet_92 ?_
  refine lv_imul hx hb dX13_sheet_95 ?_
  refine jt_i 0 (by decide) ?_
  refine lv_iload_n hx hb dX13_sheet_96 rfl (lv_at hl 0 rfl) ?_
  refine lv_iadd hx hb dX13_sheet_97 ?_
  refine jt_i 6 (by decide) ?_
  refine lv_aload_n hx hb dX13_sheet_98 rfl (lv_at hl 1 rfl) ?_
  refine va_get (D := (dC, dI)) (ci := 13) (v := .ref (ad 5)) (C := RX13) (T := TX13) (N := 104) hx hb hts (jh hin_RX13) hown hK hP 0 rfl rfl 13 (by decide) (hts (.fieldLink RX13 23 "BookOfAllModel" "slotBegin" "[I") (jm m_6)) (fun _ h9 => h9) rfl dX13_sheet_99 ?_
  refine lv_iload_n hx hb dX13_sheet_102 rfl (lv_at hl 0 rfl) ?_
  refine va_iald hx hb hK hP 5 4 rfl rfl (vp_in_nI (n := 6) (by decide) (by decide)) dX13_sheet_103 ?_
  refine jt_i (-1) (by decide) ?_
  refine va_iast hx hb hK hP hD hS 11 10 rfl rfl (vp_in_nI (n := 6) (by decide) (by decide)) dX13_sheet_104 (fun H locs hP hD hS => ?_)
  have hP := jrP hP (jx1 (Nat.ne_of_beq_eq_false rfl) jx0)
  have hD := jrD hD (jx1 (Nat.ne_of_beq_eq_false rfl) jx0)
  refine lv_aload_n hx hb dX13_sheet_105 rfl (lv_at hl 1 rfl) ?_
  refine va_get (D := (dC, dI)) (ci := 13) (v := .ref (ad 12)) (C := RX13) (T := TX13) (N := 104) hx hb hts (jh hin_RX13) hown hK hP 0 rfl rfl 22 (by decide) (hts (.fieldLink RX13 44 "BookOfAllModel" "sheetEnd" "[I") (jm m_13)) (fun _ h9 => h9) rfl dX13_sheet_106 ?_
  refine lv_bipush (v := 14) hx hb dX13_sheet_109 (by decide) ?_
  refine lv_aload_n hx hb dX13_sheet_111 rfl (lv_at hl 1 rfl) ?_
  refine va_get (D := (dC, dI)) (ci := 13) (v := .int 0) (C := RX13) (T := TX13) (N := 104) hx hb hts (jh hin_RX13) hown hK hP 0 rfl rfl 18 (by decide) (hts (.fieldLink RX13 374 "BookOfAllModel" "sheets" "I") (jm m_524)) (fun _ h9 => h9) rfl dX13_sheet_112 ?_
  refine lv_imul hx hb dX13_sheet_115 ?_
  refine jt_i 0 (by decide) ?_
  refine lv_iload_n hx hb dX13_sheet_116 rfl (lv_at hl 0 rfl) ?_
  refine lv_iadd hx hb dX13_sheet_117 ?_
  refine jt_i 6 (by decide) ?_
  refine lv_aload_n hx hb dX13_sheet_118 rfl (lv_at hl 1 rfl) ?_
  refine va_get (D := (dC, dI)) (ci := 13) (v := .ref (ad 6)) (C := RX13) (T := TX13) (N := 104) hx hb hts (jh hin_RX13) hown hK hP 0 rfl rfl 14 (by decide) (hts (.fieldLink RX13 26 "BookOfAllModel" "slotEnd" "[I") (jm m_7)) (fun _ h9 => h9) rfl dX13_sheet_119 ?_
  refine lv_iload_n hx hb dX13_sheet_122 rfl (lv_at hl 0 rfl) ?_
  refine va_iald hx hb hK hP 6 5 rfl rfl (vp_in_nI (n := 6) (by decide) (by decide)) dX13_sheet_123 ?_
  refine jt_i (-1) (by decide) ?_
  refine va_iast hx hb hK hP hD hS 12 11 rfl rfl (vp_in_nI (n := 6) (by decide) (by decide)) dX13_sheet_124 (fun H locs hP hD hS => ?_)
  have hP := jrP hP jx0
  have hD := jrD hD jx0
  refine lv_iinc (v := 7) (lv' := [(1, .int 7), (0, .ref (ad 0))]) hx hb dX13_sheet_125 hl (k := 0) rfl (by decide) (by decide) rfl (fun ls hl => ?_)
  refine lv_goto (tgt := 79) hx hb dX13_sheet_128 (by decide) ?_
  refine lv_iload_n hx hb dX13_sheet_79 rfl (lv_at hl 0 rfl) ?_
  refine lv_bipush (v := 14) hx hb dX13_sheet_80 (by decide) ?_
  refine lv_icmp_ge (tgt := 131) hx hb dX13_sheet_82 (by decide) (fun z => absurd z (by decide)) (fun _ => ?_)
  refine lv_aload_n hx hb dX13_sheet_85 rfl (lv_at hl 1 rfl) ?_
  refine va_get (D := (dC, dI)) (ci := 13) (v := .ref (ad 11)) (C := RX13) (T := TX13) (N := 104) hx hb hts (jh hin_RX13) hown hK hP 0 rfl rfl 21 (by decide) (hts (.fieldLink RX13 41 "BookOfAllModel" "sheetBegin" "[I") (jm m_12)) (fun _ h9 => h9) rfl dX13_sheet_86 ?_
  refine lv_bipush (v := 14) hx hb dX13_sheet_89 (by decide) ?_
  refine lv_aload_n hx hb dX13_sheet_91 rfl (lv_at hl 1 rfl) ?_
  refine va_get (D := (dC, dI)) (ci := 13) (v := .int 0) (C := RX13) (T := TX13) (N := 104) hx hb hts (jh hin_RX13) hown hK hP 0 rfl rfl 18 (by decide) (hts (.fieldLink RX13 374 "BookOfAllModel" "sheets" "I") (jm m_524)) (fun _ h9 => h9) rfl dX13_sheet_92 ?_
  refine lv_imul hx hb dX13_sheet_95 ?_
  refine jt_i 0 (by decide) ?_
  refine lv_iload_n hx hb dX13_sheet_96 rfl (lv_at hl 0 rfl) ?_
  refine lv_iadd hx hb dX13_sheet_97 ?_
  refine jt_i 7 (by decide) ?_
  refine lv_aload_n hx hb dX13_sheet_98 rfl (lv_at hl 1 rfl) ?_
  refine va_get (D := (dC, dI)) (ci := 13) (v := .ref (ad 5)) (C := RX13) (T := TX13) (N := 104) hx hb hts (jh hin_RX13) hown hK hP 0 rfl rfl 13 (by decide) (hts (.fieldLink RX13 23 "BookOfAllModel" "slotBegin" "[I") (jm m_6)) (fun _ h9 => h9) rfl dX13_sheet_99 ?_
  refine lv_iload_n hx hb dX13_sheet_102 rfl (lv_at hl 0 rfl) ?_
  refine va_iald hx hb hK hP 5 4 rfl rfl (vp_in_nI (n := 7) (by decide) (by decide)) dX13_sheet_103 ?_
  refine jt_i (-1) (by decide) ?_
  refine va_iast hx hb hK hP hD hS 11 10 rfl rfl (vp_in_nI (n := 7) (by decide) (by decide)) dX13_sheet_104 (fun H locs hP hD hS => ?_)
  have hP := jrP hP (jx1 (Nat.ne_of_beq_eq_false rfl) jx0)
  have hD := jrD hD (jx1 (Nat.ne_of_beq_eq_false rfl) jx0)
  refine lv_aload_n hx hb dX13_sheet_105 rfl (lv_at hl 1 rfl) ?_
  refine va_get (D := (dC, dI)) (ci := 13) (v := .ref (ad 12)) (C := RX13) (T := TX13) (N := 104) hx hb hts (jh hin_RX13) hown hK hP 0 rfl rfl 22 (by decide) (hts (.fieldLink RX13 44 "BookOfAllModel" "sheetEnd" "[I") (jm m_13)) (fun _ h9 => h9) rfl dX13_sheet_106 ?_
  refine lv_bipush (v := 14) hx hb dX13_sheet_109 (by decide) ?_
  refine lv_aload_n hx hb dX13_sheet_111 rfl (lv_at hl 1 rfl) ?_
  refine va_get (D := (dC, dI)) (ci := 13) (v := .int 0) (C := RX13) (T := TX13) (N := 104) hx hb hts (jh hin_RX13) hown hK hP 0 rfl rfl 18 (by decide) (hts (.fieldLink RX13 374 "BookOfAllModel" "sheets" "I") (jm m_524)) (fun _ h9 => h9) rfl dX13_sheet_112 ?_
  refine lv_imul hx hb dX13_sheet_115 ?_
  refine jt_i 0 (by decide) ?_
  refine lv_iload_n hx hb dX13_sheet_116 rfl (lv_at hl 0 rfl) ?_
  refine lv_iadd hx hb dX13_sheet_117 ?_
  refine jt_i 7 (by decide) ?_
  refine lv_aload_n hx hb dX13_sheet_118 rfl (lv_at hl 1 rfl) ?_
  refine va_get (D := (dC, dI)) (ci := 13) (v := .ref (ad 6)) (C := RX13) (T := TX13) (N := 104) hx hb hts (jh hin_RX13) hown hK hP 0 rfl rfl 14 (by decide) (hts (.fieldLink RX13 26 "BookOfAllModel" "slotEnd" "[I") (jm m_7)) (fun _ h9 => h9) rfl dX13_sheet_119 ?_
  refine lv_iload_n hx hb dX13_sheet_122 rfl (lv_at hl 0 rfl) ?_
  refine va_iald hx hb hK hP 6 5 rfl rfl (vp_in_nI (n := 7) (by decide) (by decide)) dX13_sheet_123 ?_
  refine jt_i (-1) (by decide) ?_
  refine va_iast hx hb hK hP hD hS 12 11 rfl rfl (vp_in_nI (n := 7) (by decide) (by decide)) dX13_sheet_124 (fun H locs hP hD hS => ?_)
  have hP := jrP hP jx0
  have hD := jrD hD jx0
  refine lv_iinc (v := 8) (lv' := [(1, .int 8), (0, .ref (ad 0))]) hx hb dX13_sheet_125 hl (k := 0) rfl (by decide) (by decide) rfl (fun ls hl => ?_)
  refine lv_goto (tgt := 79) hx hb dX13_sheet_128 (by decide) ?_
  refine lv_iload_n hx hb dX13_sheet_79 rfl (lv_at hl 0 rfl) ?_
  refine lv_bipush (v := 14) hx hb dX13_sheet_80 (by decide) ?_
  refine lv_icmp_ge (tgt := 131) hx hb dX13_sheet_82 (by decide) (fun z => absurd z (by decide)) (fun _ => ?_)
  refine lv_aload_n hx hb dX13_sheet_85 rfl (lv_at hl 1 rfl) ?_
  refine va_get (D := (dC, dI)) (ci := 13) (v := .ref (ad 11)) (C := RX13) (T := TX13) (N := 104) hx hb hts (jh hin_RX13) hown hK hP 0 rfl rfl 21 (by decide) (hts (.fieldLink RX13 41 "BookOfAllModel" "sheetBegin" "[I") (jm m_12)) (fun _ h9 => h9) rfl dX13_sheet_86 ?_
  refine lv_bipush (v := 14) hx hb dX13_sheet_89 (by decide) ?_
  refine lv_aload_n hx hb dX13_sheet_91 rfl (lv_at hl 1 rfl) ?_
  refine va_get (D := (dC, dI)) (ci := 13) (v := .int 0) (C := RX13) (T := TX13) (N := 104) hx hb hts (jh hin_RX13) hown hK hP 0 rfl rfl 18 (by decide) (hts (.fieldLink RX13 374 "BookOfAllModel" "sheets" "I") (jm m_524)) (fun _ h9 => h9) rfl dX13_sheet_92 ?_
  refine lv_imul hx hb dX13_sheet_95 ?_
  refine jt_i 0 (by decide) ?_
  refine lv_iload_n hx hb dX13_sheet_96 rfl (lv_at hl 0 rfl) ?_
  refine lv_iadd hx hb dX13_sheet_97 ?_
  refine jt_i 8 (by decide) ?_
  refine lv_aload_n hx hb dX13_sheet_98 rfl (lv_at hl 1 rfl) ?_
  refine va_get (D := (dC, dI)) (ci := 13) (v := .ref (ad 5)) (C := RX13) (T := TX13) (N := 104) hx hb hts (jh hin_RX13) hown hK hP 0 rfl rfl 13 (by decide) (hts (.fieldLink RX13 23 "BookOfAllModel" "slotBegin" "[I") (jm m_6)) (fun _ h9 => h9) rfl dX13_sheet_99 ?_
  refine lv_iload_n hx hb dX13_sheet_102 rfl (lv_at hl 0 rfl) ?_
  refine va_iald hx hb hK hP 5 4 rfl rfl (vp_in_nI (n := 8) (by decide) (by decide)) dX13_sheet_103 ?_
  refine jt_i (-1) (by decide) ?_
  refine va_iast hx hb hK hP hD hS 11 10 rfl rfl (vp_in_nI (n := 8) (by decide) (by decide)) dX13_sheet_104 (fun H locs hP hD hS => ?_)
  have hP := jrP hP (jx1 (Nat.ne_of_beq_eq_false rfl) jx0)
  have hD := jrD hD (jx1 (Nat.ne_of_beq_eq_false rfl) jx0)
  refine lv_aload_n hx hb dX13_sheet_105 rfl (lv_at hl 1 rfl) ?_
  refine va_get (D := (dC, dI)) (ci := 13) (v := .ref (ad 12)) (C := RX13) (T := TX13) (N := 104) hx hb hts (jh hin_RX13) hown hK hP 0 rfl rfl 22 (by decide) (hts (.fieldLink RX13 44 "BookOfAllModel" "sheetEnd" "[I") (jm m_13)) (fun _ h9 => h9) rfl dX13_sheet_106 ?_
  refine lv_bipush (v := 14) hx hb dX13_sheet_109 (by decide) ?_
  refine lv_aload_n hx hb dX13_sheet_111 rfl (lv_at hl 1 rfl) ?_
  refine va_get (D := (dC, dI)) (ci := 13) (v := .int 0) (C := RX13) (T := TX13) (N := 104) hx hb hts (jh hin_RX13) hown hK hP 0 rfl rfl 18 (by decide) (hts (.fieldLink RX13 374 "BookOfAllModel" "sheets" "I") (jm m_524)) (fun _ h9 => h9) rfl dX13_sheet_112 ?_
  refine lv_imul hx hb dX13_sheet_115 ?_
  refine jt_i 0 (by decide) ?_
  refine lv_iload_n hx hb dX13_sheet_116 rfl (lv_at hl 0 rfl) ?_
  refine lv_iadd hx hb dX13_sheet_117 ?_
  refine jt_i 8 (by decide) ?_
  refine lv_aload_n hx hb dX13_sheet_118 rfl (lv_at hl 1 rfl) ?_
  refine va_get (D := (dC, dI)) (ci := 13) (v := .ref (ad 6)) (C := RX13) (T := TX13) (N := 104) hx hb hts (jh hin_RX13) hown hK hP 0 rfl rfl 14 (by decide) (hts (.fieldLink RX13 26 "BookOfAllModel" "slotEnd" "[I") (jm m_7)) (fun _ h9 => h9) rfl dX13_sheet_119 ?_
  refine lv_iload_n hx hb dX13_sheet_122 rfl (lv_at hl 0 rfl) ?_
  refine va_iald hx hb hK hP 6 5 rfl rfl (vp_in_nI (n := 8) (by decide) (by decide)) dX13_sheet_123 ?_
  refine jt_i (-1) (by decide) ?_
  refine va_iast hx hb hK hP hD hS 12 11 rfl rfl (vp_in_nI (n := 8) (by decide) (by decide)) dX13_sheet_124 (fun H locs hP hD hS => ?_)
  have hP := jrP hP jx0
  have hD := jrD hD jx0
  refine lv_iinc (v := 9) (lv' := [(1, .int 9), (0, .ref (ad 0))]) hx hb dX13_sheet_125 hl (k := 0) rfl (by decide) (by decide) rfl (fun ls hl => ?_)
  refine lv_goto (tgt := 79) hx hb dX13_sheet_128 (by decide) ?_
  refine lv_iload_n hx hb dX13_sheet_79 rfl (lv_at hl 0 rfl) ?_
  refine lv_bipush (v := 14) hx hb dX13_sheet_80 (by decide) ?_
  refine lv_icmp_ge (tgt := 131) hx hb dX13_sheet_82 (by decide) (fun z => absurd z (by decide)) (fun _ => ?_)
  refine lv_aload_n hx hb dX13_sheet_85 rfl (lv_at hl 1 rfl) ?_
  refine va_get (D := (dC, dI)) (ci := 13) (v := .ref (ad 11)) (C := RX13) (T := TX13) (N := 104) hx hb hts (jh hin_RX13) hown hK hP 0 rfl rfl 21 (by decide) (hts (.fieldLink RX13 41 "BookOfAllModel" "sheetBegin" "[I") (jm m_12)) (fun _ h9 => h9) rfl dX13_sheet_86 ?_
  refine lv_bipush (v := 14) hx hb dX13_sheet_89 (by decide) ?_
  refine lv_aload_n hx hb dX13_sheet_91 rfl (lv_at hl 1 rfl) ?_
  refine va_get (D := (dC, dI)) (ci := 13) (v := .int 0) (C := RX13) (T := TX13) (N := 104) hx hb hts (jh hin_RX13) hown hK hP 0 rfl rfl 18 (by decide) (hts (.fieldLink RX13 374 "BookOfAllModel" "sheets" "I") (jm m_524)) (fun _ h9 => h9) rfl dX13_sheet_92 ?_
  refine lv_imul hx hb dX13_sheet_95 ?_
  refine jt_i 0 (by decide) ?_
  refine lv_iload_n hx hb dX13_sheet_96 rfl (lv_at hl 0 rfl) ?_
  refine lv_iadd hx hb dX13_sheet_97 ?_
  refine jt_i 9 (by decide) ?_
  refine lv_aload_n hx hb dX13_sheet_98 rfl (lv_at hl 1 rfl) ?_
  refine va_get (D := (dC, dI)) (ci := 13) (v := .ref (ad 5)) (C := RX13) (T := TX13) (N := 104) hx hb hts (jh hin_RX13) hown hK hP 0 rfl rfl 13 (by decide) (hts (.fieldLink RX13 23 "BookOfAllModel" "slotBegin" "[I") (jm m_6)) (fun _ h9 => h9) rfl dX13_sheet_99 ?_
  refine lv_iload_n hx hb dX13_sheet_102 rfl (lv_at hl 0 rfl) ?_
  refine va_iald hx hb hK hP 5 4 rfl rfl (vp_in_nI (n := 9) (by decide) (by decide)) dX13_sheet_103 ?_
  refine jt_i (-1) (by decide) ?_
  refine va_iast hx hb hK hP hD hS 11 10 rfl rfl (vp_in_nI (n := 9) (by decide) (by decide)) dX13_sheet_104 (fun H locs hP hD hS => ?_)
  have hP := jrP hP (jx1 (Nat.ne_of_beq_eq_false rfl) jx0)
  have hD := jrD hD (jx1 (Nat.ne_of_beq_eq_false rfl) jx0)
  refine lv_aload_n hx hb dX13_sheet_105 rfl (lv_at hl 1 rfl) ?_
  refine va_get (D := (dC, dI)) (ci := 13) (v := .ref (ad 12)) (C := RX13) (T := TX13) (N := 104) hx hb hts (jh hin_RX13) hown hK hP 0 rfl rfl 22 (by decide) (hts (.fieldLink RX13 44 "BookOfAllModel" "sheetEnd" "[I") (jm m_13)) (fun _ h9 => h9) rfl dX13_sheet_106 ?_
  refine lv_bipush (v := 14) hx hb dX13_sheet_109 (by decide) ?_
  refine lv_aload_n hx hb dX13_sheet_111 rfl (lv_at hl 1 rfl) ?_
  refine va_get (D := (dC, dI)) (ci := 13) (v := .int 0) (C := RX13) (T := TX13) (N := 104) hx hb hts (jh hin_RX13) hown hK hP 0 rfl rfl 18 (by decide) (hts (.fieldLink RX13 374 "BookOfAllModel" "sheets" "I") (jm m_524)) (fun _ h9 => h9) rfl dX13_sheet_112 ?_
  refine lv_imul hx hb dX13_sheet_115 ?_
  refine jt_i 0 (by decide) ?_
  refine lv_iload_n hx hb dX13_sheet_116 rfl (lv_at hl 0 rfl) ?_
  refine lv_iadd hx hb dX13_sheet_117 ?_
  refine jt_i 9 (by decide) ?_
  refine lv_aload_n hx hb dX13_sheet_118 rfl (lv_at hl 1 rfl) ?_
  refine va_get (D := (dC, dI)) (ci := 13) (v := .ref (ad 6)) (C := RX13) (T := TX13) (N := 104) hx hb hts (jh hin_RX13) hown hK hP 0 rfl rfl 14 (by decide) (hts (.fieldLink RX13 26 "BookOfAllModel" "slotEnd" "[I") (jm m_7)) (fun _ h9 => h9) rfl dX13_sheet_119 ?_
  refine lv_iload_n hx hb dX13_sheet_122 rfl (lv_at hl 0 rfl) ?_
  refine va_iald hx hb hK hP 6 5 rfl rfl (vp_in_nI (n := 9) (by decide) (by decide)) dX13_sheet_123 ?_
  refine jt_i (-1) (by decide) ?_
  refine va_iast hx hb hK hP hD hS 12 11 rfl rfl (vp_in_nI (n := 9) (by decide) (by decide)) dX13_sheet_124 (fun H locs hP hD hS => ?_)
  have hP := jrP hP jx0
  have hD := jrD hD jx0
  refine lv_iinc (v := 10) (lv' := [(1, .int 10), (0, .ref (ad 0))]) hx hb dX13_sheet_125 hl (k := 0) rfl (by decide) (by decide) rfl (fun ls hl => ?_)
  refine lv_goto (tgt := 79) hx hb dX13_sheet_128 (by decide) ?_
  refine lv_iload_n hx hb dX13_sheet_79 rfl (lv_at hl 0 rfl) ?_
  refine lv_bipush (v := 14) hx hb dX13_sheet_80 (by decide) ?_
  refine lv_icmp_ge (tgt := 131) hx hb dX13_sheet_82 (by decide) (fun z => absurd z (by decide)) (fun _ => ?_)
  refine lv_aload_n hx hb dX13_sheet_85 rfl (lv_at hl 1 rfl) ?_
  refine va_get (D := (dC, dI)) (ci := 13) (v := .ref (ad 11)) (C := RX13) (T := TX13) (N := 104) hx hb hts (jh hin_RX13) hown hK hP 0 rfl rfl 21 (by decide) (hts (.fieldLink RX13 41 "BookOfAllModel" "sheetBegin" "[I") (jm m_12)) (fun _ h9 => h9) rfl dX13_sheet_86 ?_
  refine lv_bipush (v := 14) hx hb dX13_sheet_89 (by decide) ?_
  refine lv_aload_n hx hb dX13_sheet_91 rfl (lv_at hl 1 rfl) ?_
  refine va_get (D := (dC, dI)) (ci := 13) (v := .int 0) (C := RX13) (T := TX13) (N := 104) hx hb hts (jh hin_RX13) hown hK hP 0 rfl rfl 18 (by decide) (hts (.fieldLink RX13 374 "BookOfAllModel" "sheets" "I") (jm m_524)) (fun _ h9 => h9) rfl dX13_sheet_92 ?_
  refine lv_imul hx hb dX13_sheet_95 ?_
  refine jt_i 0 (by decide) ?_
  refine lv_iload_n hx hb dX13_sheet_96 rfl (lv_at hl 0 rfl) ?_
  refine lv_iadd hx hb dX13_sheet_97 ?_
  refine jt_i 10 (by decide) ?_
  refine lv_aload_n hx hb dX13_sheet_98 rfl (lv_at hl 1 rfl) ?_
  refine va_get (D := (dC, dI)) (ci := 13) (v := .ref (ad 5)) (C := RX13) (T := TX13) (N := 104) hx hb hts (jh hin_RX13) hown hK hP 0 rfl rfl 13 (by decide) (hts (.fieldLink RX13 23 "BookOfAllModel" "slotBegin" "[I") (jm m_6)) (fun _ h9 => h9) rfl dX13_sheet_99 ?_
  refine lv_iload_n hx hb dX13_sheet_102 rfl (lv_at hl 0 rfl) ?_
  refine va_iald hx hb hK hP 5 4 rfl rfl (vp_in_nI (n := 10) (by decide) (by decide)) dX13_sheet_103 ?_
  refine jt_i (-1) (by decide) ?_
  refine va_iast hx hb hK hP hD hS 11 10 rfl rfl (vp_in_nI (n := 10) (by decide) (by decide)) dX13_sheet_104 (fun H locs hP hD hS => ?_)
  have hP := jrP hP (jx1 (Nat.ne_of_beq_eq_false rfl) jx0)
  have hD := jrD hD (jx1 (Nat.ne_of_beq_eq_false rfl) jx0)
  refine lv_aload_n hx hb dX13_sheet_105 rfl (lv_at hl 1 rfl) ?_
  refine va_get (D := (dC, dI)) (ci := 13) (v := .ref (ad 12)) (C := RX13) (T := TX13) (N := 104) hx hb hts (jh hin_RX13) hown hK hP 0 rfl rfl 22 (by decide) (hts (.fieldLink RX13 44 "BookOfAllModel" "sheetEnd" "[I") (jm m_13)) (fun _ h9 => h9) rfl dX13_sheet_106 ?_
  refine lv_bipush (v := 14) hx hb dX13_sheet_109 (by decide) ?_
  refine lv_aload_n hx hb dX13_sheet_111 rfl (lv_at hl 1 rfl) ?_
  refine va_get (D := (dC, dI)) (ci := 13) (v := .int 0) (C := RX13) (T := TX13) (N := 104) hx hb hts (jh hin_RX13) hown hK hP 0 rfl rfl 18 (by decide) (hts (.fieldLink RX13 374 "BookOfAllModel" "sheets" "I") (jm m_524)) (fun _ h9 => h9) rfl dX13_sheet_112 ?_
  refine lv_imul hx hb dX13_sheet_115 ?_
  refine jt_i 0 (by decide) ?_
  refine lv_iload_n hx hb dX13_sheet_116 rfl (lv_at hl 0 rfl) ?_
  refine lv_iadd hx hb dX13_sheet_117 ?_
  refine jt_i 10 (by decide) ?_
  refine lv_aload_n hx hb dX13_sheet_118 rfl (lv_at hl 1 rfl) ?_
  refine va_get (D := (dC, dI)) (ci := 13) (v := .ref (ad 6)) (C := RX13) (T := TX13) (N := 104) hx hb hts (jh hin_RX13) hown hK hP 0 rfl rfl 14 (by decide) (hts (.fieldLink RX13 26 "BookOfAllModel" "slotEnd" "[I") (jm m_7)) (fun _ h9 => h9) rfl dX13_sheet_119 ?_
  refine lv_iload_n hx hb dX13_sheet_122 rfl (lv_at hl 0 rfl) ?_
  refine va_iald hx hb hK hP 6 5 rfl rfl (vp_in_nI (n := 10) (by decide) (by decide)) dX13_sheet_123 ?_
  refine jt_i (-1) (by decide) ?_
  refine va_iast hx hb hK hP hD hS 12 11 rfl rfl (vp_in_nI (n := 10) (by decide) (by decide)) dX13_sheet_124 (fun H locs hP hD hS => ?_)
  have hP := jrP hP jx0
  have hD := jrD hD jx0
  refine lv_iinc (v := 11) (lv' := [(1, .int 11), (0, .ref (ad 0))]) hx hb dX13_sheet_125 hl (k := 0) rfl (by decide) (by decide) rfl (fun ls hl => ?_)
  refine lv_goto (tgt := 79) hx hb dX13_sheet_128 (by decide) ?_
  refine lv_iload_n hx hb dX13_sheet_79 rfl (lv_at hl 0 rfl) ?_
  refine lv_bipush (v := 14) hx hb dX13_sheet_80 (by decide) ?_
  refine lv_icmp_ge (tgt := 131) hx hb dX13_sheet_82 (by decide) (fun z => absurd z (by decide)) (fun _ => ?_)
  refine lv_aload_n hx hb dX13_sheet_85 rfl (lv_at hl 1 rfl) ?_
  refine va_get (D := (dC, dI)) (ci := 13) (v := .ref (ad 11)) (C := RX13) (T := TX13) (N := 104) hx hb hts (jh hin_RX13) hown hK hP 0 rfl rfl 21 (by decide) (hts (.fieldLink RX13 41 "BookOfAllModel" "sheetBegin" "[I") (jm m_12)) (fun _ h9 => h9) rfl dX13_sheet_86 ?_
  refine lv_bipush (v := 14) hx hb dX13_sheet_89 (by decide) ?_
  refine lv_aload_n hx hb dX13_sheet_91 rfl (lv_at hl 1 rfl) ?_
  refine va_get (D := (dC, dI)) (ci := 13) (v := .int 0) (C := RX13) (T := TX13) (N := 104) hx hb hts (jh hin_RX13) hown hK hP 0 rfl rfl 18 (by decide) (hts (.fieldLink RX13 374 "BookOfAllModel" "sheets" "I") (jm m_524)) (fun _ h9 => h9) rfl dX13_sheet_92 ?_
  refine lv_imul hx hb dX13_sheet_95 ?_
  refine jt_i 0 (by decide) ?_
  refine lv_iload_n hx hb dX13_sheet_96 rfl (lv_at hl 0 rfl) ?_
  refine lv_iadd hx hb dX13_sheet_97 ?_
  refine jt_i 11 (by decide) ?_
  refine lv_aload_n hx hb dX13_sheet_98 rfl (lv_at hl 1 rfl) ?_
  refine va_get (D := (dC, dI)) (ci := 13) (v := .ref (ad 5)) (C := RX13) (T := TX13) (N := 104) hx hb hts (jh hin_RX13) hown hK hP 0 rfl rfl 13 (by decide) (hts (.fieldLink RX13 23 "BookOfAllModel" "slotBegin" "[I") (jm m_6)) (fun _ h9 => h9) rfl dX13_sheet_99 ?_
  refine lv_iload_n hx hb dX13_sheet_102 rfl (lv_at hl 0 rfl) ?_
  refine va_iald hx hb hK hP 5 4 rfl rfl (vp_in_nI (n := 11) (by decide) (by decide)) dX13_sheet_103 ?_
  refine jt_i (-1) (by decide) ?_
  refine va_iast hx hb hK hP hD hS 11 10 rfl rfl (vp_in_nI (n := 11) (by decide) (by decide)) dX13_sheet_104 (fun H locs hP hD hS => ?_)
  have hP := jrP hP (jx1 (Nat.ne_of_beq_eq_false rfl) jx0)
  have hD := jrD hD (jx1 (Nat.ne_of_beq_eq_false rfl) jx0)
  refine lv_aload_n hx hb dX13_sheet_105 rfl (lv_at hl 1 rfl) ?_
  refine va_get (D := (dC, dI)) (ci := 13) (v := .ref (ad 12)) (C := RX13) (T := TX13) (N := 104) hx hb hts (jh hin_RX13) hown hK hP 0 rfl rfl 22 (by decide) (hts (.fieldLink RX13 44 "BookOfAllModel" "sheetEnd" "[I") (jm m_13)) (fun _ h9 => h9) rfl dX13_sheet_106 ?_
  refine lv_bipush (v := 14) hx hb dX13_sheet_109 (by decide) ?_
  refine lv_aload_n hx hb dX13_sheet_111 rfl (lv_at hl 1 rfl) ?_
  refine va_get (D := (dC, dI)) (ci := 13) (v := .int 0) (C := RX13) (T := TX13) (N := 104) hx hb hts (jh hin_RX13) hown hK hP 0 rfl rfl 18 (by decide) (hts (.fieldLink RX13 374 "BookOfAllModel" "sheets" "I") (jm m_524)) (fun _ h9 => h9) rfl dX13_sheet_112 ?_
  refine lv_imul hx hb dX13_sheet_115 ?_
  refine jt_i 0 (by decide) ?_
  refine lv_iload_n hx hb dX13_sheet_116 rfl (lv_at hl 0 rfl) ?_
  refine lv_iadd hx hb dX13_sheet_117 ?_
  refine jt_i 11 (by decide) ?_
  refine lv_aload_n hx hb dX13_sheet_118 rfl (lv_at hl 1 rfl) ?_
  refine va_get (D := (dC, dI)) (ci := 13) (v := .ref (ad 6)) (C := RX13) (T := TX13) (N := 104) hx hb hts (jh hin_RX13) hown hK hP 0 rfl rfl 14 (by decide) (hts (.fieldLink RX13 26 "BookOfAllModel" "slotEnd" "[I") (jm m_7)) (fun _ h9 => h9) rfl dX13_sheet_119 ?_
  refine lv_iload_n hx hb dX13_sheet_122 rfl (lv_at hl 0 rfl) ?_
  refine va_iald hx hb hK hP 6 5 rfl rfl (vp_in_nI (n := 11) (by decide) (by decide)) dX13_sheet_123 ?_
  refine jt_i (-1) (by decide) ?_
  refine va_iast hx hb hK hP hD hS 12 11 rfl rfl (vp_in_nI (n := 11) (by decide) (by decide)) dX13_sheet_124 (fun H locs hP hD hS => ?_)
  have hP := jrP hP jx0
  have hD := jrD hD jx0
  refine lv_iinc (v := 12) (lv' := [(1, .int 12), (0, .ref (ad 0))]) hx hb dX13_sheet_125 hl (k := 0) rfl (by decide) (by decide) rfl (fun ls hl => ?_)
  refine lv_goto (tgt := 79) hx hb dX13_sheet_128 (by decide) ?_
  refine lv_iload_n hx hb dX13_sheet_79 rfl (lv_at hl 0 rfl) ?_
  refine lv_bipush (v := 14) hx hb dX13_sheet_80 (by decide) ?_
  refine lv_icmp_ge (tgt := 131) hx hb dX13_sheet_82 (by decide) (fun z => absurd z (by decide)) (fun _ => ?_)
  refine lv_aload_n hx hb dX13_sheet_85 rfl (lv_at hl 1 rfl) ?_
  refine va_get (D := (dC, dI)) (ci := 13) (v := .ref (ad 11)) (C := RX13) (T := TX13) (N := 104) hx hb hts (jh hin_RX13) hown hK hP 0 rfl rfl 21 (by decide) (hts (.fieldLink RX13 41 "BookOfAllModel" "sheetBegin" "[I") (jm m_12)) (fun _ h9 => h9) rfl dX13_sheet_86 ?_
  refine lv_bipush (v := 14) hx hb dX13_sheet_89 (by decide) ?_
  refine lv_aload_n hx hb dX13_sheet_91 rfl (lv_at hl 1 rfl) ?_
  refine va_get (D := (dC, dI)) (ci := 13) (v := .int 0) (C := RX13) (T := TX13) (N := 104) hx hb hts (jh hin_RX13) hown hK hP 0 rfl rfl 18 (by decide) (hts (.fieldLink RX13 374 "BookOfAllModel" "sheets" "I") (jm m_524)) (fun _ h9 => h9) rfl dX13_sheet_92 ?_
  refine lv_imul hx hb dX13_sheet_95 ?_
  refine jt_i 0 (by decide) ?_
  refine lv_iload_n hx hb dX13_sheet_96 rfl (lv_at hl 0 rfl) ?_
  refine lv_iadd hx hb dX13_sheet_97 ?_
  refine jt_i 12 (by decide) ?_
  refine lv_aload_n hx hb dX13_sheet_98 rfl (lv_at hl 1 rfl) ?_
  refine va_get (D := (dC, dI)) (ci := 13) (v := .ref (ad 5)) (C := RX13) (T := TX13) (N := 104) hx hb hts (jh hin_RX13) hown hK hP 0 rfl rfl 13 (by decide) (hts (.fieldLink RX13 23 "BookOfAllModel" "slotBegin" "[I") (jm m_6)) (fun _ h9 => h9) rfl dX13_sheet_99 ?_
  refine lv_iload_n hx hb dX13_sheet_102 rfl (lv_at hl 0 rfl) ?_
  refine va_iald hx hb hK hP 5 4 rfl rfl (vp_in_nI (n := 12) (by decide) (by decide)) dX13_sheet_103 ?_
  refine jt_i (-1) (by decide) ?_
  refine va_iast hx hb hK hP hD hS 11 10 rfl rfl (vp_in_nI (n := 12) (by decide) (by decide)) dX13_sheet_104 (fun H locs hP hD hS => ?_)
  have hP := jrP hP (jx1 (Nat.ne_of_beq_eq_false rfl) jx0)
  have hD := jrD hD (jx1 (Nat.ne_of_beq_eq_false rfl) jx0)
  refine lv_aload_n hx hb dX13_sheet_105 rfl (lv_at hl 1 rfl) ?_
  refine va_get (D := (dC, dI)) (ci := 13) (v := .ref (ad 12)) (C := RX13) (T := TX13) (N := 104) hx hb hts (jh hin_RX13) hown hK hP 0 rfl rfl 22 (by decide) (hts (.fieldLink RX13 44 "BookOfAllModel" "sheetEnd" "[I") (jm m_13)) (fun _ h9 => h9) rfl dX13_sheet_106 ?_
  refine lv_bipush (v := 14) hx hb dX13_sheet_109 (by decide) ?_
  refine lv_aload_n hx hb dX13_sheet_111 rfl (lv_at hl 1 rfl) ?_
  refine va_get (D := (dC, dI)) (ci := 13) (v := .int 0) (C := RX13) (T := TX13) (N := 104) hx hb hts (jh hin_RX13) hown hK hP 0 rfl rfl 18 (by decide) (hts (.fieldLink RX13 374 "BookOfAllModel" "sheets" "I") (jm m_524)) (fun _ h9 => h9) rfl dX13_sheet_112 ?_
  refine lv_imul hx hb dX13_sheet_115 ?_
  refine jt_i 0 (by decide) ?_
  refine lv_iload_n hx hb dX13_sheet_116 rfl (lv_at hl 0 rfl) ?_
  refine lv_iadd hx hb dX13_sheet_117 ?_
  refine jt_i 12 (by decide) ?_
  refine lv_aload_n hx hb dX13_sheet_118 rfl (lv_at hl 1 rfl) ?_
  refine va_get (D := (dC, dI)) (ci := 13) (v := .ref (ad 6)) (C := RX13) (T := TX13) (N := 104) hx hb hts (jh hin_RX13) hown hK hP 0 rfl rfl 14 (by decide) (hts (.fieldLink RX13 26 "BookOfAllModel" "slotEnd" "[I") (jm m_7)) (fun _ h9 => h9) rfl dX13_sheet_119 ?_
  refine lv_iload_n hx hb dX13_sheet_122 rfl (lv_at hl 0 rfl) ?_
  refine va_iald hx hb hK hP 6 5 rfl rfl (vp_in_nI (n := 12) (by decide) (by decide)) dX13_sheet_123 ?_
  refine jt_i (-1) (by decide) ?_
  refine va_iast hx hb hK hP hD hS 12 11 rfl rfl (vp_in_nI (n := 12) (by decide) (by decide)) dX13_sheet_124 (fun H locs hP hD hS => ?_)
  have hP := jrP hP jx0
  have hD := jrD hD jx0
  refine lv_iinc (v := 13) (lv' := [(1, .int 13), (0, .ref (ad 0))]) hx hb dX13_sheet_125 hl (k := 0) rfl (by decide) (by decide) rfl (fun ls hl => ?_)
  refine lv_goto (tgt := 79) hx hb dX13_sheet_128 (by decide) ?_
  refine lv_iload_n hx hb dX13_sheet_79 rfl (lv_at hl 0 rfl) ?_
  refine lv_bipush (v := 14) hx hb dX13_sheet_80 (by decide) ?_
  refine lv_icmp_ge (tgt := 131) hx hb dX13_sheet_82 (by decide) (fun z => absurd z (by decide)) (fun _ => ?_)
  refine lv_aload_n hx hb dX13_sheet_85 rfl (lv_at hl 1 rfl) ?_
  refine va_get (D := (dC, dI)) (ci := 13) (v := .ref (ad 11)) (C := RX13) (T := TX13) (N := 104) hx hb hts (jh hin_RX13) hown hK hP 0 rfl rfl 21 (by decide) (hts (.fieldLink RX13 41 "BookOfAllModel" "sheetBegin" "[I") (jm m_12)) (fun _ h9 => h9) rfl dX13_sheet_86 ?_
  refine lv_bipush (v := 14) hx hb dX13_sheet_89 (by decide) ?_
  refine lv_aload_n hx hb dX13_sheet_91 rfl (lv_at hl 1 rfl) ?_
  refine va_get (D := (dC, dI)) (ci := 13) (v := .int 0) (C := RX13) (T := TX13) (N := 104) hx hb hts (jh hin_RX13) hown hK hP 0 rfl rfl 18 (by decide) (hts (.fieldLink RX13 374 "BookOfAllModel" "sheets" "I") (jm m_524)) (fun _ h9 => h9) rfl dX13_sheet_92 ?_
  refine lv_imul hx hb dX13_sheet_95 ?_
  refine jt_i 0 (by decide) ?_
  refine lv_iload_n hx hb dX13_sheet_96 rfl (lv_at hl 0 rfl) ?_
  refine lv_iadd hx hb dX13_sheet_97 ?_
  refine jt_i 13 (by decide) ?_
  refine lv_aload_n hx hb dX13_sheet_98 rfl (lv_at hl 1 rfl) ?_
  refine va_get (D := (dC, dI)) (ci := 13) (v := .ref (ad 5)) (C := RX13) (T := TX13) (N := 104) hx hb hts (jh hin_RX13) hown hK hP 0 rfl rfl 13 (by decide) (hts (.fieldLink RX13 23 "BookOfAllModel" "slotBegin" "[I") (jm m_6)) (fun _ h9 => h9) rfl dX13_sheet_99 ?_
  refine lv_iload_n hx hb dX13_sheet_102 rfl (lv_at hl 0 rfl) ?_
  refine va_iald hx hb hK hP 5 4 rfl rfl (vp_in_nI (n := 13) (by decide) (by decide)) dX13_sheet_103 ?_
  refine jt_i (-1) (by decide) ?_
  refine va_iast hx hb hK hP hD hS 11 10 rfl rfl (vp_in_nI (n := 13) (by decide) (by decide)) dX13_sheet_104 (fun H locs hP hD hS => ?_)
  have hP := jrP hP (jx1 (Nat.ne_of_beq_eq_false rfl) jx0)
  have hD := jrD hD (jx1 (Nat.ne_of_beq_eq_false rfl) jx0)
  refine lv_aload_n hx hb dX13_sheet_105 rfl (lv_at hl 1 rfl) ?_
  refine va_get (D := (dC, dI)) (ci := 13) (v := .ref (ad 12)) (C := RX13) (T := TX13) (N := 104) hx hb hts (jh hin_RX13) hown hK hP 0 rfl rfl 22 (by decide) (hts (.fieldLink RX13 44 "BookOfAllModel" "sheetEnd" "[I") (jm m_13)) (fun _ h9 => h9) rfl dX13_sheet_106 ?_
  refine lv_bipush (v := 14) hx hb dX13_sheet_109 (by decide) ?_
  refine lv_aload_n hx hb dX13_sheet_111 rfl (lv_at hl 1 rfl) ?_
  refine va_get (D := (dC, dI)) (ci := 13) (v := .int 0) (C := RX13) (T := TX13) (N := 104) hx hb hts (jh hin_RX13) hown hK hP 0 rfl rfl 18 (by decide) (hts (.fieldLink RX13 374 "BookOfAllModel" "sheets" "I") (jm m_524)) (fun _ h9 => h9) rfl dX13_sheet_112 ?_
  refine lv_imul hx hb dX13_sheet_115 ?_
  refine jt_i 0 (by decide) ?_
  refine lv_iload_n hx hb dX13_sheet_116 rfl (lv_at hl 0 rfl) ?_
  refine lv_iadd hx hb dX13_sheet_117 ?_
  refine jt_i 13 (by decide) ?_
  refine lv_aload_n hx hb dX13_sheet_118 rfl (lv_at hl 1 rfl) ?_
  refine va_get (D := (dC, dI)) (ci := 13) (v := .ref (ad 6)) (C := RX13) (T := TX13) (N := 104) hx hb hts (jh hin_RX13) hown hK hP 0 rfl rfl 14 (by decide) (hts (.fieldLink RX13 26 "BookOfAllModel" "slotEnd" "[I") (jm m_7)) (fun _ h9 => h9) rfl dX13_sheet_119 ?_
  refine lv_iload_n hx hb dX13_sheet_122 rfl (lv_at hl 0 rfl) ?_
  refine va_iald hx hb hK hP 6 5 rfl rfl (vp_in_nI (n := 13) (by decide) (by decide)) dX13_sheet_123 ?_
  refine jt_i (-1) (by decide) ?_
  refine va_iast hx hb hK hP hD hS 12 11 rfl rfl (vp_in_nI (n := 13) (by decide) (by decide)) dX13_sheet_124 (fun H locs hP hD hS => ?_)
  have hP := jrP hP jx0
  have hD := jrD hD jx0
  refine lv_iinc (v := 14) (lv' := [(1, .int 14), (0, .ref (ad 0))]) hx hb dX13_sheet_125 hl (k := 0) rfl (by decide) (by decide) rfl (fun ls hl => ?_)
  refine lv_goto (tgt := 79) hx hb dX13_sheet_128 (by decide) ?_
  refine lv_iload_n hx hb dX13_sheet_79 rfl (lv_at hl 0 rfl) ?_
  refine lv_bipush (v := 14) hx hb dX13_sheet_80 (by decide) ?_
  refine lv_icmp_ge (tgt := 131) hx hb dX13_sheet_82 (by decide) (fun _ => ?_) (fun z => absurd (by decide) z)
  refine lv_aload_n hx hb dX13_sheet_131 rfl (lv_at hl 1 rfl) ?_
  refine va_get (D := (dC, dI)) (ci := 13) (v := .ref (ad 13)) (C := RX13) (T := TX13) (N := 104) hx hb hts (jh hin_RX13) hown hK hP 0 rfl rfl 23 (by decide) (hts (.fieldLink RX13 47 "BookOfAllModel" "sheetSkips" "[I") (jm m_14)) (fun _ h9 => h9) rfl dX13_sheet_132 ?_
  refine lv_aload_n hx hb dX13_sheet_135 rfl (lv_at hl 1 rfl) ?_
  refine va_get (D := (dC, dI)) (ci := 13) (v := .int 0) (C := RX13) (T := TX13) (N := 104) hx hb hts (jh hin_RX13) hown hK hP 0 rfl rfl 18 (by decide) (hts (.fieldLink RX13 374 "BookOfAllModel" "sheets" "I") (jm m_524)) (fun _ h9 => h9) rfl dX13_sheet_136 ?_
  refine lv_aload_n hx hb dX13_sheet_139 rfl (lv_at hl 1 rfl) ?_
  refine va_get (D := (dC, dI)) (ci := 13) (v := .int 0) (C := RX13) (T := TX13) (N := 104) hx hb hts (jh hin_RX13) hown hK hP 0 rfl rfl 15 (by decide) (hts (.fieldLink RX13 361 "BookOfAllModel" "skips" "I") (jm m_500)) (fun _ h9 => h9) rfl dX13_sheet_140 ?_
  refine va_iast hx hb hK hP hD hS 13 12 rfl rfl (vp_in_nI (n := 0) (by decide) (by decide)) dX13_sheet_143 (fun H locs hP hD hS => ?_)
  refine lv_iconst (v := 0) hx hb dX13_sheet_144 (by decide) ?_
  refine lv_istore_n (lv' := [(1, .int 0), (0, .ref (ad 0))]) hx hb dX13_sheet_145 rfl hl (by decide) rfl (fun ls hl => ?_)
  refine lv_iload_n hx hb dX13_sheet_146 rfl (lv_at hl 0 rfl) ?_
  refine lv_aload_n hx hb dX13_sheet_147 rfl (lv_at hl 1 rfl) ?_
  refine va_get (D := (dC, dI)) (ci := 13) (v := .int 0) (C := RX13) (T := TX13) (N := 104) hx hb hts (jh hin_RX13) hown hK hP 0 rfl rfl 15 (by decide) (hts (.fieldLink RX13 361 "BookOfAllModel" "skips" "I") (jm m_500)) (fun _ h9 => h9) rfl dX13_sheet_148 ?_
  refine lv_icmp_ge (tgt := 223) hx hb dX13_sheet_151 (by decide) (fun _ => ?_) (fun z => absurd (by decide) z)
  refine lv_aload_n hx hb dX13_sheet_223 rfl (lv_at hl 1 rfl) ?_
  refine lv_iconst (v := 0) hx hb dX13_sheet_224 (by decide) ?_
  refine va_put (D := (dC, dI)) (ci := 13) (v := .int 0) (ty := .int) (C := RX13) (T := TX13) (N := 104) hx hb hts (jh hin_RX13) tyX13 tyX13_ok nmX13 hown hK hP hD hS 0 rfl rfl 1 (by decide) (hts (.fieldLink RX13 252 "BookOfAllModel" "size" "I") (jm m_492)) (fun _ h9 => h9) rfl (by decide +kernel) rfl rfl (Nat.le_of_ble_eq_true rfl) dX13_sheet_225 (fun H locs hP hD hS => ?_)
  have hP := jrP hP (jx1 (Nat.ne_of_beq_eq_false rfl) (jx1 (Nat.ne_of_beq_eq_false rfl) (jx1 (Nat.ne_of_beq_eq_false rfl) (jx1 (Nat.ne_of_beq_eq_false rfl) (jx1 (Nat.ne_of_beq_eq_false rfl) (jx1 (Nat.ne_of_beq_eq_false rfl) rfl))))))
  have hD := jrD hD (jx1 (Nat.ne_of_beq_eq_false rfl) (jx1 (Nat.ne_of_beq_eq_false rfl) (jx1 (Nat.ne_of_beq_eq_false rfl) (jx1 (Nat.ne_of_beq_eq_false rfl) (jx1 (Nat.ne_of_beq_eq_false rfl) (jx1 (Nat.ne_of_beq_eq_false rfl) rfl))))))
  refine lv_aload_n hx hb dX13_sheet_228 rfl (lv_at hl 1 rfl) ?_
  refine lv_dup hx hb dX13_sheet_229 rfl ?_
  refine va_get (D := (dC, dI)) (ci := 13) (v := .int 0) (C := RX13) (T := TX13) (N := 104) hx hb hts (jh hin_RX13) hown hK hP 0 rfl rfl 18 (by decide) (hts (.fieldLink RX13 374 "BookOfAllModel" "sheets" "I") (jm m_524)) (fun _ h9 => h9) rfl dX13_sheet_230 ?_
  refine lv_iconst (v := 1) hx hb dX13_sheet_233 (by decide) ?_
  refine lv_iadd hx hb dX13_sheet_234 ?_
  refine jt_i 1 (by decide) ?_
  refine va_put (D := (dC, dI)) (ci := 13) (v := .int 1) (ty := .int) (C := RX13) (T := TX13) (N := 104) hx hb hts (jh hin_RX13) tyX13 tyX13_ok nmX13 hown hK hP hD hS 0 rfl rfl 18 (by decide) (hts (.fieldLink RX13 374 "BookOfAllModel" "sheets" "I") (jm m_524)) (fun _ h9 => h9) rfl (by decide +kernel) rfl rfl (Nat.le_of_ble_eq_true rfl) dX13_sheet_235 (fun H locs hP hD hS => ?_)
  have hP := jrP hP (jx1 (Nat.ne_of_beq_eq_false rfl) (jx1 (Nat.ne_of_beq_eq_false rfl) (jx1 (Nat.ne_of_beq_eq_false rfl) (jx1 (Nat.ne_of_beq_eq_false rfl) (jx1 (Nat.ne_of_beq_eq_false rfl) (jx1 (Nat.ne_of_beq_eq_false rfl) jx0))))))
  have hD := jrD hD (jx1 (Nat.ne_of_beq_eq_false rfl) (jx1 (Nat.ne_of_beq_eq_false rfl) (jx1 (Nat.ne_of_beq_eq_false rfl) (jx1 (Nat.ne_of_beq_eq_false rfl) (jx1 (Nat.ne_of_beq_eq_false rfl) (jx1 (Nat.ne_of_beq_eq_false rfl) jx0))))))
  refine lv_aload_n hx hb dX13_sheet_238 rfl (lv_at hl 1 rfl) ?_
  refine va_get (D := (dC, dI)) (ci := 13) (v := .int 1) (C := RX13) (T := TX13) (N := 104) hx hb hts (jh hin_RX13) hown hK hP 0 rfl rfl 18 (by decide) (hts (.fieldLink RX13 374 "BookOfAllModel" "sheets" "I") (jm m_524)) (fun _ h9 => h9) rfl dX13_sheet_239 ?_
  refine lv_iconst (v := 1) hx hb dX13_sheet_242 (by decide) ?_
  refine lv_isub hx hb dX13_sheet_243 ?_
  refine jt_i 0 (by decide) ?_
  exact W.iret (v := 0) hx hb hr (fun t ht hW => ⟨⟨0, (), rfl, rfl, trivial⟩, hS.F ht⟩) hS.2.2 dX13_sheet_244
