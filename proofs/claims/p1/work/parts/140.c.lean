set_option maxHeartbeats 500000 in
set_option maxRecDepth 100000 in
theorem kX12_payOfAll_2 (l : Launch) (dC : Nat → ClassId) (dI : Nat → Nat → Nat) (sz : Nat) (ad : Nat → Nat) (ca : Nat → ClassId) : Met l yX12_payOfAll (jk yX12_payOfAll cX12_payOfAll 4 (some .int)) ({ frames := 0, cells := 0, slots := 0, locals := 0 }) (va_Pc [.ref (ad 0)] (jw_P (dC, dI) (xW ad ca) (xT ca) sz)) (va_Qi (fun (r : Int32) (_ : Unit) => (r = 0)) (fun _ _ => True) (va_A [] sz)) 0 0 (va_A [] sz) := by
  refine Met.ofW (cc := cX12_payOfAll) (maxL := 4) (ret := (some .int)) (by decide) rfl ?_
  intro p e s m args below meth c s₁ B hml hv
  obtain ⟨rfl, hsz, hP, hK, hD0⟩ := hv
  have hx := B.exec
  have hb := B.bytes
  have hr := B.returns
  have hts := atoms_spec (ws := (jk yX12_payOfAll cX12_payOfAll 4 (some .int))) B.pre
  have hown : s.vm.findClass RX12 = some m.cls := findClass_of_methodNamed B.named
  have hlocks := B.notSynchronized
  subst hsz
  have hD := hD0
  generalize hAe : (va_A [] s.heap.size) = A
  have hA : ∀ q : Nat, s.heap.size ≤ q → A q := fun q h => by rw [← hAe]; exact Or.inr h
  have hS : va_S A s.heap s.heap [] := va_S.rf
  have hP : va_P (dC, dI) vwCl (xW ad ca) s.heap := hP
  have hl := lv_entry ([.ref (ad 0)]) (n := 4) (Nat.le_of_ble_eq_true rfl)
  rw [lg_entry_eq]
  generalize (lg_sl ([.ref (ad 0)]) ++ List.replicate (4 - (lg_sl ([.ref (ad 0)])).length) Slot.unset).toArray = ls at hl ⊢
  have hl : lv_has ls 4 [(0, .ref (ad 0))] := hl
  refine lv_iconst (v := 0) hx hb dX12_payOfAll_0 (by decide) ?_
  refine lv_istore_n (lv' := [(1, .int 0), (0, .ref (ad 0))]) hx hb dX12_payOfAll_1 rfl hl (by decide) rfl (fun ls hl => ?_)
  refine lv_iconst (v := 0) hx hb dX12_payOfAll_2 (by decide) ?_
  refine lv_istore_n (lv' := [(2, .int 0), (1, .int 0), (0, .ref (ad 0))]) hx hb dX12_payOfAll_3 rfl hl (by decide) rfl (fun ls hl => ?_)
  refine lv_iload_n hx hb dX12_payOfAll_4 rfl (lv_at hl 0 rfl) ?_
  refine lv_aload_n hx hb dX12_payOfAll_5 rfl (lv_at hl 2 rfl) ?_
  refine va_get (D := (dC, dI)) (ci := 12) (v := .int 0) (C := RX12) (T := TX12) (N := 20) hx hb hts (jh hin_RX12) hown hK hP 0 rfl rfl 11 (by decide) (hts (.fieldLink RX12 292 "BookOfAll" "handCount" "I") (jm m_339)) (fun _ h9 => h9) rfl dX12_payOfAll_6 ?_
  refine lv_icmp_ge (tgt := 39) hx hb dX12_payOfAll_9 (by decide) (fun _ => ?_) (fun z => absurd (by decide) z)
  refine lv_iload_n hx hb dX12_payOfAll_39 rfl (lv_at hl 1 rfl) ?_
  exact W.iret (v := 0) hx hb hr (fun t ht hW => ⟨⟨0, (), rfl, rfl, trivial⟩, hS.F ht⟩) hS.2.2 dX12_payOfAll_40
theorem s_tX12_count_0 {p1 : Int32} (c_1 : (p1.toInt < 0 ∨ 8 < p1.toInt)) (c_3 : p1 < 10) : (-1) = sp_count p1 := by
  unfold sp_count
  have g0 := c_1
  have g1 : p1.toInt < 10 := ji_lt.mp c_3
  split <;> first | rfl | (exfalso; omega)
theorem s_tX12_count_1 {p1 : Int32} (c_1 : (p1.toInt < 0 ∨ 8 < p1.toInt)) (c_4 : ¬ (p1 < 10)) (c_5 : 22 ≤ p1) (c_6 : p1 < 30) : (-1) = sp_count p1 := by
  unfold sp_count
  have g0 := c_1
  have g1 : ¬ (p1.toInt < 10) := fun z => c_4 (ji_lt.mpr z)
  have g2 : 22 ≤ p1.toInt := ji_le.mp c_5
  have g3 : p1.toInt < 30 := ji_lt.mp c_6
  split <;> first | rfl | (exfalso; omega)
theorem s_tX12_count_2 {p1 : Int32} (c_1 : (p1.toInt < 0 ∨ 8 < p1.toInt)) (c_7 : ¬ (p1 < 10)) (c_8 : 22 ≤ p1) (c_9 : ¬ (p1 < 30)) (c_10 : 42 ≤ p1) : (-1) = sp_count p1 := by
  unfold sp_count
  have g0 := c_1
  have g1 : ¬ (p1.toInt < 10) := fun z => c_7 (ji_lt.mpr z)
  have g2 : 22 ≤ p1.toInt := ji_le.mp c_8
  have g3 : ¬ (p1.toInt < 30) := fun z => c_9 (ji_lt.mpr z)
  have g4 : 42 ≤ p1.toInt := ji_le.mp c_10
  split <;> first | rfl | (exfalso; omega)
theorem s_tX12_count_3 {p1 : Int32} (c_1 : (p1.toInt < 0 ∨ 8 < p1.toInt)) (c_11 : ¬ (p1 < 10)) (c_12 : 22 ≤ p1) (c_13 : ¬ (p1 < 30)) (c_14 : ¬ (42 ≤ p1)) : (-1) = sp_count p1 := by
  unfold sp_count
  have g0 := c_1
  have g1 : ¬ (p1.toInt < 10) := fun z => c_11 (ji_lt.mpr z)
  have g2 : 22 ≤ p1.toInt := ji_le.mp c_12
  have g3 : ¬ (p1.toInt < 30) := fun z => c_13 (ji_lt.mpr z)
  have g4 : ¬ (42 ≤ p1.toInt) := fun z => c_14 (ji_le.mpr z)
  split <;> first | rfl | (exfalso; omega)
theorem s_tX12_count_4 {p1 : Int32} (c_1 : (p1.toInt < 0 ∨ 8 < p1.toInt)) (c_15 : ¬ (p1 < 10)) (c_16 : ¬ (22 ≤ p1)) : (-1) = sp_count p1 := by
  unfold sp_count
  have g0 := c_1
  have g1 : ¬ (p1.toInt < 10) := fun z => c_15 (ji_lt.mpr z)
  have g2 : ¬ (22 ≤ p1.toInt) := fun z => c_16 (ji_le.mpr z)
  split <;> first | rfl | (exfalso; omega)
theorem s_tX12_count_5 {p1 : Int32} (c_1 : p1 = 0) : 0 = sp_count p1 := by
  unfold sp_count
  have g0 : p1.toInt = 0 := ji_eq.mp c_1
  split <;> first | rfl | (exfalso; omega)
theorem s_tX12_count_6 {p1 : Int32} (c_1 : p1 = 1) : 0 = sp_count p1 := by
  unfold sp_count
  have g0 : p1.toInt = 1 := ji_eq.mp c_1
  split <;> first | rfl | (exfalso; omega)
theorem s_tX12_count_7 {p1 : Int32} (c_1 : p1 = 2) : 0 = sp_count p1 := by
  unfold sp_count
  have g0 : p1.toInt = 2 := ji_eq.mp c_1
  split <;> first | rfl | (exfalso; omega)
theorem s_tX12_count_8 {p1 : Int32} (c_1 : p1 = 3) : 0 = sp_count p1 := by
  unfold sp_count
  have g0 : p1.toInt = 3 := ji_eq.mp c_1
  split <;> first | rfl | (exfalso; omega)
theorem s_tX12_count_9 {p1 : Int32} (c_1 : p1 = 4) : 0 = sp_count p1 := by
  unfold sp_count
  have g0 : p1.toInt = 4 := ji_eq.mp c_1
  split <;> first | rfl | (exfalso; omega)
theorem s_tX12_count_10 {p1 : Int32} (c_1 : p1 = 5) : 0 = sp_count p1 := by
  unfold sp_count
  have g0 : p1.toInt = 5 := ji_eq.mp c_1
  split <;> first | rfl | (exfalso; omega)
theorem s_tX12_count_11 {p1 : Int32} (c_1 : p1 = 6) : 0 = sp_count p1 := by
  unfold sp_count
  have g0 : p1.toInt = 6 := ji_eq.mp c_1
  split <;> first | rfl | (exfalso; omega)
theorem s_tX12_count_12 {p1 : Int32} (c_1 : p1 = 7) : 0 = sp_count p1 := by
  unfold sp_count
  have g0 : p1.toInt = 7 := ji_eq.mp c_1
  split <;> first | rfl | (exfalso; omega)
theorem s_tX12_count_13 {p1 : Int32} (c_1 : p1 = 8) : 0 = sp_count p1 := by
  unfold sp_count
  have g0 : p1.toInt = 8 := ji_eq.mp c_1
  split <;> first | rfl | (exfalso; omega)
set_option maxHeartbeats 500000 in
set_option maxRecDepth 100000 in
theorem tX12_count (l : Launch) (dC : Nat → ClassId) (dI : Nat → Nat → Nat) (sz : Nat) (ad : Nat → Nat) (ca : Nat → ClassId) (p1 : Int32) : Met l yX12_count (jk yX12_count cX12_count 2 (some .int)) ({ frames := 2, cells := 0, slots := 0, locals := 45 }) (va_Pc [.ref (ad 0), .int p1] (jw_P (dC, dI) (xW ad ca) (xT ca) sz)) (va_Qi (fun (r : Int32) (_ : Unit) => r = sp_count p1) (fun _ _ => True) (va_A [] sz)) 0 0 (va_A [] sz) := by
  refine Met.ofW (cc := cX12_count) (maxL := 2) (ret := (some .int)) (by decide) rfl ?_
  intro p e s m args below meth c s₁ B hml hv
  obtain ⟨rfl, hsz, hP, hK, hD0⟩ := hv
  have hx := B.exec
  have hb := B.bytes
  have hr := B.returns
  have hts := atoms_spec (ws := (jk yX12_count cX12_count 2 (some .int))) B.pre
  have hown : s.vm.findClass RX12 = some m.cls := findClass_of_methodNamed B.named
  have hlocks := B.notSynchronized
  subst hsz
  have hD := hD0
  generalize hAe : (va_A [] s.heap.size) = A
  have hA : ∀ q : Nat, s.heap.size ≤ q → A q := fun q h => by rw [← hAe]; exact Or.inr h
  have hS : va_S A s.heap s.heap [] := va_S.rf
  have hP : va_P (dC, dI) vwCl (xW ad ca) s.heap := hP
  have hl := lv_entry ([.ref (ad 0), .int p1]) (n := 2) (Nat.le_of_ble_eq_true rfl)
  rw [lg_entry_eq]
  generalize (lg_sl ([.ref (ad 0), .int p1]) ++ List.replicate (2 - (lg_sl ([.ref (ad 0), .int p1])).length) Slot.unset).toArray = ls at hl ⊢
  have hl : lv_has ls 2 [(0, .ref (ad 0)), (1, .int p1)] := hl
  refine lv_iload_n hx hb dX12_count_0 rfl (lv_at hl 1 rfl) ?_
  rcases jsw_0_8 p1 with c_1 | c_1 | c_1 | c_1 | c_1 | c_1 | c_1 | c_1 | c_1 | c_1
  · refine lv_tableOut (tgt := 106) hx hb dX12_count_1 c_1 (by decide) ?_
    refine lv_aload_n hx hb dX12_count_106 rfl (lv_at hl 0 rfl) ?_
    refine lv_iload_n hx hb dX12_count_107 rfl (lv_at hl 1 rfl) ?_
    refine jc_i (va_runV (As := [.int p1]) (rest := []) ⟨hx, hb, hml, hown, hts⟩ (kX12_countOfHand_2 l dC dI _ ad ca p1) (cwV 1 hts (jgoodV m_482 m_483 m_484 m_210 m_485) rfl rfl rfl (by decide +kernel) ⟨Nat.le_of_ble_eq_true rfl, Nat.le_of_ble_eq_true rfl⟩) ⟨jw_blind, va_recv hK hP (ci := 12) (q0 := 0) rfl rfl, fun U hU hW => ⟨rfl, jw_of hU hW hP hK hD⟩⟩ rfl rfl hl.1 rfl (lv_room (Nat.le_of_ble_eq_true rfl)) dX12_count_108 ⟨Nat.le_of_ble_eq_true rfl, Nat.le_of_ble_eq_true rfl⟩) hP hS hA (fun r_2 H locs hw_2 hP hS => ?_)
    rcases (show (p1 < 10 ∧ r_2 = (-1)) ∨ (¬ (p1 < 10) ∧ 22 ≤ p1 ∧ p1 < 30 ∧ r_2 = (-1)) ∨ (¬ (p1 < 10) ∧ 22 ≤ p1 ∧ ¬ (p1 < 30) ∧ 42 ≤ p1 ∧ r_2 = (-1)) ∨ (¬ (p1 < 10) ∧ 22 ≤ p1 ∧ ¬ (p1 < 30) ∧ ¬ (42 ≤ p1) ∧ r_2 = (-1)) ∨ (¬ (p1 < 10) ∧ ¬ (22 ≤ p1) ∧ r_2 = (-1)) from hw_2) with ⟨c_3, e_3_0⟩ | ⟨c_4, c_5, c_6, e_6_1⟩ | ⟨c_7, c_8, c_9, c_10, e_10_2⟩ | ⟨c_11, c_12, c_13, c_14, e_14_3⟩ | ⟨c_15, c_16, e_16_4⟩
    · have e_3_0 := e_3_0.symm
      subst e_3_0
      exact W.iret (v := (-1)) hx hb hr (fun t ht hW => ⟨⟨(-1), (), rfl, (s_tX12_count_0 (p1 := p1) c_1 c_3), trivial⟩, hS.F ht⟩) hS.2.2 dX12_count_111
    · have e_6_1 := e_6_1.symm
      subst e_6_1
      exact W.iret (v := (-1)) hx hb hr (fun t ht hW => ⟨⟨(-1), (), rfl, (s_tX12_count_1 (p1 := p1) c_1 c_4 c_5 c_6), trivial⟩, hS.F ht⟩) hS.2.2 dX12_count_111
    · have e_10_2 := e_10_2.symm
      subst e_10_2
      exact W.iret (v := (-1)) hx hb hr (fun t ht hW => ⟨⟨(-1), (), rfl, (s_tX12_count_2 (p1 := p1) c_1 c_7 c_8 c_9 c_10), trivial⟩, hS.F ht⟩) hS.2.2 dX12_count_111
    · have e_14_3 := e_14_3.symm
      subst e_14_3
      exact W.iret (v := (-1)) hx hb hr (fun t ht hW => ⟨⟨(-1), (), rfl, (s_tX12_count_3 (p1 := p1) c_1 c_11 c_12 c_13 c_14), trivial⟩, hS.F ht⟩) hS.2.2 dX12_count_111
    · have e_16_4 := e_16_4.symm
      subst e_16_4
      exact W.iret (v := (-1)) hx hb hr (fun t ht hW => ⟨⟨(-1), (), rfl, (s_tX12_count_4 (p1 := p1) c_1 c_15 c_16), trivial⟩, hS.F ht⟩) hS.2.2 dX12_count_111
  · refine jtab_in (v := 0) (off := 51) (tgt := 52) hx hb dX12_count_1 c_1 (by decide) (by decide) (by decide) (by decide) ?_
    refine lv_aload_n hx hb dX12_count_52 rfl (lv_at hl 0 rfl) ?_
    refine va_get (D := (dC, dI)) (ci := 12) (v := .int 0) (C := RX12) (T := TX12) (N := 20) hx hb hts (jh hin_RX12) hown hK hP 0 rfl rfl 0 (by decide) (hts (.fieldLink RX12 133 "BookOfAll" "now" "I") (jm m_217)) (fun _ h9 => h9) rfl dX12_count_53 ?_
    exact W.iret (v := 0) hx hb hr (fun t ht hW => ⟨⟨0, (), rfl, (s_tX12_count_5 (p1 := p1) c_1), trivial⟩, hS.F ht⟩) hS.2.2 dX12_count_56
  · refine jtab_in (v := 1) (off := 56) (tgt := 57) hx hb dX12_count_1 c_1 (by decide) (by decide) (by decide) (by decide) ?_
    refine lv_aload_n hx hb dX12_count_57 rfl (lv_at hl 0 rfl) ?_
    refine va_get (D := (dC, dI)) (ci := 12) (v := .int 0) (C := RX12) (T := TX12) (N := 20) hx hb hts (jh hin_RX12) hown hK hP 0 rfl rfl 7 (by decide) (hts (.fieldLink RX12 203 "BookOfAll" "entryCount" "I") (jm m_259)) (fun _ h9 => h9) rfl dX12_count_58 ?_
    exact W.iret (v := 0) hx hb hr (fun t ht hW => ⟨⟨0, (), rfl, (s_tX12_count_6 (p1 := p1) c_1), trivial⟩, hS.F ht⟩) hS.2.2 dX12_count_61
  · refine jtab_in (v := 2) (off := 61) (tgt := 62) hx hb dX12_count_1 c_1 (by decide) (by decide) (by decide) (by decide) ?_
    refine lv_aload_n hx hb dX12_count_62 rfl (lv_at hl 0 rfl) ?_
    refine va_get (D := (dC, dI)) (ci := 12) (v := .int 0) (C := RX12) (T := TX12) (N := 20) hx hb hts (jh hin_RX12) hown hK hP 0 rfl rfl 11 (by decide) (hts (.fieldLink RX12 292 "BookOfAll" "handCount" "I") (jm m_339)) (fun _ h9 => h9) rfl dX12_count_63 ?_
    exact W.iret (v := 0) hx hb hr (fun t ht hW => ⟨⟨0, (), rfl, (s_tX12_count_7 (p1 := p1) c_1), trivial⟩, hS.F ht⟩) hS.2.2 dX12_count_66
  · refine jtab_in (v := 3) (off := 66) (tgt := 67) hx hb dX12_count_1 c_1 (by decide) (by decide) (by decide) (by decide) ?_
    refine lv_aload_n hx hb dX12_count_67 rfl (lv_at hl 0 rfl) ?_
    refine va_get (D := (dC, dI)) (ci := 12) (v := .int 0) (C := RX12) (T := TX12) (N := 20) hx hb hts (jh hin_RX12) hown hK hP 0 rfl rfl 13 (by decide) (hts (.fieldLink RX12 370 "BookOfAll" "lineCount" "I") (jm m_384)) (fun _ h9 => h9) rfl dX12_count_68 ?_
    exact W.iret (v := 0) hx hb hr (fun t ht hW => ⟨⟨0, (), rfl, (s_tX12_count_8 (p1 := p1) c_1), trivial⟩, hS.F ht⟩) hS.2.2 dX12_count_71
  · refine jtab_in (v := 4) (off := 71) (tgt := 72) hx hb dX12_count_1 c_1 (by decide) (by decide) (by decide) (by decide) ?_
    refine lv_aload_n hx hb dX12_count_72 rfl (lv_at hl 0 rfl) ?_
    refine va_get (D := (dC, dI)) (ci := 12) (v := .ref (ad 11)) (C := RX12) (T := TX12) (N := 20) hx hb hts (jh hin_RX12) hown hK hP 0 rfl rfl 3 (by decide) (hts (.fieldLink RX12 19 "BookOfAll" "rules" "LBookOfAll$Rules;") (jm m_152)) (fun _ h9 => h9) rfl dX12_count_73 ?_
    refine va_get (D := (dC, dI)) (ci := 8) (v := .int 0) (C := RX8) (T := TX8) (N := 8) hx hb hts (jh hin_RX8) hown hK hP 11 rfl rfl 1 (by decide) (hts (.fieldLink RX12 590 "BookOfAll$Rules" "sheetCount" "I") (jm m_486)) (fun _ h9 => h9) rfl dX12_count_76 ?_
    exact W.iret (v := 0) hx hb hr (fun t ht hW => ⟨⟨0, (), rfl, (s_tX12_count_9 (p1 := p1) c_1), trivial⟩, hS.F ht⟩) hS.2.2 dX12_count_79
  · refine jtab_in (v := 5) (off := 79) (tgt := 80) hx hb dX12_count_1 c_1 (by decide) (by decide) (by decide) (by decide) ?_
    refine lv_aload_n hx hb dX12_count_80 rfl (lv_at hl 0 rfl) ?_
    refine va_get (D := (dC, dI)) (ci := 12) (v := .ref (ad 42)) (C := RX12) (T := TX12) (N := 20) hx hb hts (jh hin_RX12) hown hK hP 0 rfl rfl 14 (by decide) (hts (.fieldLink RX12 66 "BookOfAll" "news" "LBookOfAll$News;") (jm m_360)) (fun _ h9 => h9) rfl dX12_count_81 ?_
    refine va_get (D := (dC, dI)) (ci := 5) (v := .int 0) (C := RX5) (T := TX5) (N := 12) hx hb hts (jh hin_RX5) hown hK hP 42 rfl rfl 11 (by decide) (hts (.fieldLink RX12 593 "BookOfAll$News" "errata" "I") (jm m_487)) (fun _ h9 => h9) rfl dX12_count_84 ?_
    exact W.iret (v := 0) hx hb hr (fun t ht hW => ⟨⟨0, (), rfl, (s_tX12_count_10 (p1 := p1) c_1), trivial⟩, hS.F ht⟩) hS.2.2 dX12_count_87
  · refine jtab_in (v := 6) (off := 87) (tgt := 88) hx hb dX12_count_1 c_1 (by decide) (by decide) (by decide) (by decide) ?_
    refine lv_aload_n hx hb dX12_count_88 rfl (lv_at hl 0 rfl) ?_
    refine va_get (D := (dC, dI)) (ci := 12) (v := .int 0) (C := RX12) (T := TX12) (N := 20) hx hb hts (jh hin_RX12) hown hK hP 0 rfl rfl 1 (by decide) (hts (.fieldLink RX12 158 "BookOfAll" "setBits" "I") (jm m_212)) (fun _ h9 => h9) rfl dX12_count_89 ?_
    exact W.iret (v := 0) hx hb hr (fun t ht hW => ⟨⟨0, (), rfl, (s_tX12_count_11 (p1 := p1) c_1), trivial⟩, hS.F ht⟩) hS.2.2 dX12_count_92
  · refine jtab_in (v := 7) (off := 92) (tgt := 93) hx hb dX12_count_1 c_1 (by decide) (by decide) (by decide) (by decide) ?_
    refine lv_aload_n hx hb dX12_count_93 rfl (lv_at hl 0 rfl) ?_
    refine va_get (D := (dC, dI)) (ci := 12) (v := .ref (ad 1)) (C := RX12) (T := TX12) (N := 20) hx hb hts (jh hin_RX12) hown hK hP 0 rfl rfl 2 (by decide) (hts (.fieldLink RX12 10 "BookOfAll" "reader" "LBookOfAll$Reader;") (jm m_101)) (fun _ h9 => h9) rfl dX12_count_94 ?_
    refine va_get (D := (dC, dI)) (ci := 7) (v := .int 0) (C := RX7) (T := TX7) (N := 15) hx hb hts (jh hin_RX7) hown hK hP 1 rfl rfl 1 (by decide) (hts (.fieldLink RX12 103 "BookOfAll$Reader" "size" "I") (jm m_102)) (fun _ h9 => h9) rfl dX12_count_97 ?_
    exact W.iret (v := 0) hx hb hr (fun t ht hW => ⟨⟨0, (), rfl, (s_tX12_count_12 (p1 := p1) c_1), trivial⟩, hS.F ht⟩) hS.2.2 dX12_count_100
  · refine jtab_in (v := 8) (off := 100) (tgt := 101) hx hb dX12_count_1 c_1 (by decide) (by decide) (by decide) (by decide) ?_
    refine lv_aload_n hx hb dX12_count_101 rfl (lv_at hl 0 rfl) ?_
    refine jc_i (va_runV (As := []) (rest := []) ⟨hx, hb, hml, hown, hts⟩ (kX12_payOfAll_2 l dC dI _ ad ca) (cwV 0 hts (jgoodV m_488 m_489 m_490 m_210 m_491) rfl rfl rfl (by decide +kernel) ⟨Nat.le_of_ble_eq_true rfl, Nat.le_of_ble_eq_true rfl⟩) ⟨jw_blind, va_recv hK hP (ci := 12) (q0 := 0) rfl rfl, fun U hU hW => ⟨rfl, jw_of hU hW hP hK hD⟩⟩ rfl rfl hl.1 rfl (lv_room (Nat.le_of_ble_eq_true rfl)) dX12_count_102 ⟨Nat.le_of_ble_eq_true rfl, Nat.le_of_ble_eq_true rfl⟩) hP hS hA (fun r_17 H locs hw_17 hP hS => ?_)
    have hw_17 : 0 = r_17 := Eq.symm hw_17
    subst hw_17
    exact W.iret (v := 0) hx hb hr (fun t ht hW => ⟨⟨0, (), rfl, (s_tX12_count_13 (p1 := p1) c_1), trivial⟩, hS.F ht⟩) hS.2.2 dX12_count_105
set_option maxHeartbeats 1000000 in
set_option maxRecDepth 100000 in
theorem tX13_feed (l : Launch) (dC : Nat → ClassId) (dI : Nat → Nat → Nat) (sz : Nat) (ad : Nat → Nat) (ca : Nat → ClassId) (p1 : Int32) (p2 : Int32) (p3 : Int32) (p4 : Int32) (p5 : Int32) : Met l yX13_feed (jk yX13_feed cX13_feed 8 (some .int)) ({ frames := 0, cells := 0, slots := 0, locals := 0 }) (va_Pc [.ref (ad 0), .int p1, .int p2, .int p3, .int p4, .int p5] (jw_P (dC, dI) (mW ad ca) (mT ca) sz)) (va_Qi (fun (r : Int32) (_ : Unit) => (r = 20)) (fun _ _ => True) (va_A (mW ad ca) sz)) 0 0 (va_A (mW ad ca) sz) := by
  refine Met.ofW (cc := cX13_feed) (maxL := 8) (ret := (some .int)) (by decide) rfl ?_
  intro p e s m args below meth c s₁ B hml hv
  obtain ⟨rfl, hsz, hP, hK, hD0⟩ := hv
  have hx := B.exec
  have hb := B.bytes
  have hr := B.returns
  have hts := atoms_spec (ws := (jk yX13_feed cX13_feed 8 (some .int))) B.pre
  have hown : s.vm.findClass RX13 = some m.cls := findClass_of_methodNamed B.named
  have hlocks := B.notSynchronized
  subst hsz
  have hD := hD0.self (sz := s.heap.size)
  generalize hAe : (va_A (mW ad ca) s.heap.size) = A at hD ⊢
  have hA : ∀ q : Nat, s.heap.size ≤ q → A q := fun q h => by rw [← hAe]; exact Or.inr h
  have hS : va_S A s.heap s.heap [] := va_S.rf
  have hP : va_P (dC, dI) vwCl (mW ad ca) s.heap := hP
  have hl := lv_entry ([.ref (ad 0), .int p1, .int p2, .int p3, .int p4, .int p5]) (n := 8) (Nat.le_of_ble_eq_true rfl)
  rw [lg_entry_eq]
  generalize (lg_sl ([.ref (ad 0), .int p1, .int p2, .int p3, .int p4, .int p5]) ++ List.replicate (8 - (lg_sl ([.ref (ad 0), .int p1, .int p2, .int p3, .int p4, .int p5])).length) Slot.unset).toArray = ls at hl ⊢
  have hl : lv_has ls 8 [(0, .ref (ad 0)), (1, .int p1), (2, .int p2), (3, .int p3), (4, .int p4), (5, .int p5)] := hl
  refine lv_aload_n hx hb dX13_feed_0 rfl (lv_at hl 0 rfl) ?_
  refine va_get (D := (dC, dI)) (ci := 13) (v := .int 0) (C := RX13) (T := TX13) (N := 104) hx hb hts (jh hin_RX13) hown hK hP 0 rfl rfl 1 (by decide) (hts (.fieldLink RX13 252 "BookOfAllModel" "size" "I") (jm m_492)) (fun _ h9 => h9) rfl dX13_feed_1 ?_
  refine lv_bipush (v := 20) hx hb dX13_feed_4 (by decide) ?_
  refine lv_iadd hx hb dX13_feed_6 ?_
  refine jt_i 20 (by decide) ?_
  refine lv_sipush (v := 600) hx hb dX13_feed_7 (by decide) ?_
  refine lv_icmp_le (tgt := 15) hx hb dX13_feed_10 (by decide) (fun _ => ?_) (fun z => absurd (by decide) z)
  refine lv_iconst (v := 0) hx hb dX13_feed_15 (by decide) ?_
  refine lv_istore (lv' := [(6, .int 0), (0, .ref (ad 0)), (1, .int p1), (2, .int p2), (3, .int p3), (4, .int p4), (5, .int p5)]) hx hb dX13_feed_16 hl (by decide) rfl (fun ls hl => ?_)
  refine lv_iload hx hb dX13_feed_18 (lv_at hl 0 rfl) ?_
  refine lv_bipush (v := 20) hx hb dX13_feed_20 (by decide) ?_
  refine lv_icmp_ge (tgt := 112) hx hb dX13_feed_22 (by decide) (fun z => absurd z (by decide)) (fun _ => ?_)
  refine lv_iload hx hb dX13_feed_25 (lv_at hl 0 rfl) ?_
  refine lv_iconst (v := 4) hx hb dX13_feed_27 (by decide) ?_
  refine lv_icmp_ge (tgt := 35) hx hb dX13_feed_28 (by decide) (fun z => absurd z (by decide)) (fun _ => ?_)
  refine lv_iload_n hx hb dX13_feed_31 rfl (lv_at hl 2 rfl) ?_
  refine lv_goto (tgt := 71) hx hb dX13_feed_32 (by decide) ?_
  refine lv_istore (lv' := [(7, .int p1), (6, .int 0), (0, .ref (ad 0)), (1, .int p1), (2, .int p2), (3, .int p3), (4, .int p4), (5, .int p5)]) hx hb dX13_feed_71 hl (by decide) rfl (fun ls hl => ?_)
  refine lv_aload_n hx hb dX13_feed_73 rfl (lv_at hl 2 rfl) ?_
  refine va_get (D := (dC, dI)) (ci := 13) (v := .ref (ad 1)) (C := RX13) (T := TX13) (N := 104) hx hb hts (jh hin_RX13) hown hK hP 0 rfl rfl 0 (by decide) (hts (.fieldLink RX13 9 "BookOfAllModel" "text" "[B") (jm m_1)) (fun _ h9 => h9) rfl dX13_feed_74 ?_
  refine lv_aload_n hx hb dX13_feed_77 rfl (lv_at hl 2 rfl) ?_
  refine va_get (D := (dC, dI)) (ci := 13) (v := .int 0) (C := RX13) (T := TX13) (N := 104) hx hb hts (jh hin_RX13) hown hK hP 0 rfl rfl 1 (by decide) (hts (.fieldLink RX13 252 "BookOfAllModel" "size" "I") (jm m_492)) (fun _ h9 => h9) rfl dX13_feed_78 ?_
  refine lv_iload hx hb dX13_feed_81 (lv_at hl 0 rfl) ?_
  refine lv_bipush (v := 24) hx hb dX13_feed_83 (by decide) ?_
  refine lv_bipush (v := 8) hx hb dX13_feed_85 (by decide) ?_
  refine lv_iload hx hb dX13_feed_87 (lv_at hl 1 rfl) ?_
  refine lv_iconst (v := 4) hx hb dX13_feed_89 (by decide) ?_
  refine lv_irem hx hb dX13_feed_90 (by decide) ?_
  refine jt_i 0 (by decide) ?_
  refine lv_imul hx hb dX13_feed_91 ?_
  refine jt_i 0 (by decide) ?_
  refine lv_isub hx hb dX13_feed_92 ?_
  refine jt_i 24 (by decide) ?_
  refine lv_ishr hx hb dX13_feed_93 ?_
  refine lv_i2b (v := ((p1 >>> (24 &&& 31)).toInt8.toInt32)) hx hb dX13_feed_94 rfl ?_
  refine va_bast hx hb hK hP hD hS 1 0 rfl rfl (vp_in_nI (n := 0) (by decide) (by decide)) dX13_feed_95 (fun H locs hP hD hS => ?_)
  refine lv_aload_n hx hb dX13_feed_96 rfl (lv_at hl 2 rfl) ?_
  refine lv_dup hx hb dX13_feed_97 rfl ?_
  refine va_get (D := (dC, dI)) (ci := 13) (v := .int 0) (C := RX13) (T := TX13) (N := 104) hx hb hts (jh hin_RX13) hown hK hP 0 rfl rfl 1 (by decide) (hts (.fieldLink RX13 252 "BookOfAllModel" "size" "I") (jm m_492)) (fun _ h9 => h9) rfl dX13_feed_98 ?_
  refine lv_iconst (v := 1) hx hb dX13_feed_101 (by decide) ?_
  refine lv_iadd hx hb dX13_feed_102 ?_
  refine jt_i 1 (by decide) ?_
  refine va_put (D := (dC, dI)) (ci := 13) (v := .int 1) (ty := .int) (C := RX13) (T := TX13) (N := 104) hx hb hts (jh hin_RX13) tyX13 tyX13_ok nmX13 hown hK hP hD hS 0 rfl rfl 1 (by decide) (hts (.fieldLink RX13 252 "BookOfAllModel" "size" "I") (jm m_492)) (fun _ h9 => h9) rfl (by decide +kernel) rfl rfl (Nat.le_of_ble_eq_true rfl) dX13_feed_103 (fun H locs hP hD hS => ?_)
  refine lv_iinc (v := 1) (lv' := [(6, .int 1), (7, .int p1), (0, .ref (ad 0)), (1, .int p1), (2, .int p2), (3, .int p3), (4, .int p4), (5, .int p5)]) hx hb dX13_feed_106 hl (k := 1) rfl (by decide) (by decide) rfl (fun ls hl => ?_)
  refine lv_goto (tgt := 18) hx hb dX13_feed_109 (by decide) ?_
  refine lv_iload hx hb dX13_feed_18 (lv_at hl 0 rfl) ?_
  refine lv_bipush (v := 20) hx hb dX13_feed_20 (by decide) ?_
  refine lv_icmp_ge (tgt := 112) hx hb dX13_feed_22 (by decide) (fun z => absurd z (by decide)) (fun _ => ?_)
  refine lv_iload hx hb dX13_feed_25 (lv_at hl 0 rfl) ?_
  refine lv_iconst (v := 4) hx hb dX13_feed_27 (by decide) ?_
  refine lv_icmp_ge (tgt := 35) hx hb dX13_feed_28 (by decide) (fun z => absurd z (by decide)) (fun _ => ?_)
  refine lv_iload_n hx hb dX13_feed_31 rfl (lv_at hl 3 rfl) ?_
  refine lv_goto (tgt := 71) hx hb dX13_feed_32 (by decide) ?_
  refine lv_istore (lv' := [(7, .int p1), (6, .int 1), (0, .ref (ad 0)), (1, .int p1), (2, .int p2), (3, .int p3), (4, .int p4), (5, .int p5)]) hx hb dX13_feed_71 hl (by decide) rfl (fun ls hl => ?_)
  refine lv_aload_n hx hb dX13_feed_73 rfl (lv_at hl 2 rfl) ?_
  refine va_get (D := (dC, dI)) (ci := 13) (v := .ref (ad 1)) (C := RX13) (T := TX13) (N := 104) hx hb hts (jh hin_RX13) hown hK hP 0 rfl rfl 0 (by decide) (hts (.fieldLink RX13 9 "BookOfAllModel" "text" "[B") (jm m_1)) (fun _ h9 => h9) rfl dX13_feed_74 ?_
  refine lv_aload_n hx hb dX13_feed_77 rfl (lv_at hl 2 rfl) ?_
  refine va_get (D := (dC, dI)) (ci := 13) (v := .int 1) (C := RX13) (T := TX13) (N := 104) hx hb hts (jh hin_RX13) hown hK hP 0 rfl rfl 1 (by decide) (hts (.fieldLink RX13 252 "BookOfAllModel" "size" "I") (jm m_492)) (fun _ h9 => h9) rfl dX13_feed_78 ?_
  refine lv_iload hx hb dX13_feed_81 (lv_at hl 0 rfl) ?_
  refine lv_bipush (v := 24) hx hb dX13_feed_83 (by decide) ?_
  refine lv_bipush (v := 8) hx hb dX13_feed_85 (by decide) ?_
  refine lv_iload hx hb dX13_feed_87 (lv_at hl 1 rfl) ?_
  refine lv_iconst (v := 4) hx hb dX13_feed_89 (by decide) ?_
  refine lv_irem hx hb dX13_feed_90 (by decide) ?_
  refine jt_i 1 (by decide) ?_
  refine lv_imul hx hb dX13_feed_91 ?_
  refine jt_i 8 (by decide) ?_
  refine lv_isub hx hb dX13_feed_92 ?_
  refine jt_i 16 (by decide) ?_
  refine lv_ishr hx hb dX13_feed_93 ?_
  refine lv_i2b (v := ((p1 >>> (16 &&& 31)).toInt8.toInt32)) hx hb dX13_feed_94 rfl ?_
  refine va_bast hx hb hK hP hD hS 1 0 rfl rfl (vp_in_nI (n := 1) (by decide) (by decide)) dX13_feed_95 (fun H locs hP hD hS => ?_)
  refine lv_aload_n hx hb dX13_feed_96 rfl (lv_at hl 2 rfl) ?_
  refine lv_dup hx hb dX13_feed_97 rfl ?_
  refine va_get (D := (dC, dI)) (ci := 13) (v := .int 1) (C := RX13) (T := TX13) (N := 104) hx hb hts (jh hin_RX13) hown hK hP 0 rfl rfl 1 (by decide) (hts (.fieldLink RX13 252 "BookOfAllModel" "size" "I") (jm m_492)) (fun _ h9 => h9) rfl dX13_feed_98 ?_
  refine lv_iconst (v := 1) hx hb dX13_feed_101 (by decide) ?_
  refine lv_iadd hx hb dX13_feed_102 ?_
  refine jt_i 2 (by decide) ?_
  refine va_put (D := (dC, dI)) (ci := 13) (v := .int 2) (ty := .int) (C := RX13) (T := TX13) (N := 104) hx hb hts (jh hin_RX13) tyX13 tyX13_ok nmX13 hown hK hP hD hS 0 rfl rfl 1 (by decide) (hts (.fieldLink RX13 252 "BookOfAllModel" "size" "I") (jm m_492)) (fun _ h9 => h9) rfl (by decide +kernel) rfl rfl (Nat.le_of_ble_eq_true rfl) dX13_feed_103 (fun H locs hP hD hS => ?_)
  refine lv_iinc (v := 2) (lv' := [(6, .int 2), (7, .int p1), (0, .ref (ad 0)), (1, .int p1), (2, .int p2), (3, .int p3), (4, .int p4), (5, .int p5)]) hx hb dX13_feed_106 hl (k := 1) rfl (by decide) (by decide) rfl (fun ls hl => ?_)
  refine lv_goto (tgt := 18) hx hb dX13_feed_109 (by decide) ?_
  refine lv_iload hx hb dX13_feed_18 (lv_at hl 0 rfl) ?_
  refine lv_bipush (v := 20) hx hb dX13_feed_20 (by decide) ?_
  refine lv_icmp_ge (tgt := 112) hx hb dX13_feed_22 (by decide) (fun z => absurd z (by decide)) (fun _ => ?_)
  refine lv_iload hx hb dX13_feed_25 (lv_at hl 0 rfl) ?_
  refine lv_iconst (v := 4) hx hb dX13_feed_27 (by decide) ?_
  refine lv_icmp_ge (tgt := 35) hx hb dX13_feed_28 (by decide) (fun z => absurd z (by decide)) (fun _ => ?_)
  refine lv_iload_n hx hb dX13_feed_31 rfl (lv_at hl 3 rfl) ?_
  refine lv_goto (tgt := 71) hx hb dX13_feed_32 (by decide) ?_
  refine lv_istore (lv' := [(7, .int p1), (6, .int 2), (0, .ref (ad 0)), (1, .int p1), (2, .int p2), (3, .int p3), (4, .int p4), (5, .int p5)]) hx hb dX13_feed_71 hl (by decide) rfl (fun ls hl => ?_)
  refine lv_aload_n hx hb dX13_feed_73 rfl (lv_at hl 2 rfl) ?_
  refine va_get (D := (dC, dI)) (ci := 13) (v := .ref (ad 1)) (C := RX13) (T := TX13) (N := 104) hx hb hts (jh hin_RX13) hown hK hP 0 rfl rfl 0 (by decide) (hts (.fieldLink RX13 9 "BookOfAllModel" "text" "[B") (jm m_1)) (fun _ h9 => h9) rfl dX13_feed_74 ?_
  refine lv_aload_n hx hb dX13_feed_77 rfl (lv_at hl 2 rfl) ?_
  refine va_get (D := (dC, dI)) (ci := 13) (v := .int 2) (C := RX13) (T := TX13) (N := 104) hx hb hts (jh hin_RX13) hown hK hP 0 rfl rfl 1 (by decide) (hts (.fieldLink RX13 252 "BookOfAllModel" "size" "I") (jm m_492)) (fun _ h9 => h9) rfl dX13_feed_78 ?_
  refine lv_iload hx hb dX13_feed_81 (lv_at hl 0 rfl) ?_
  refine lv_bipush (v := 24) hx hb dX13_feed_83 (by decide) ?_
  refine lv_bipush (v := 8) hx hb dX13_feed_85 (by decide) ?_
  refine lv_iload hx hb dX13_feed_87 (lv_at hl 1 rfl) ?_
  refine lv_iconst (v := 4) hx hb dX13_feed_89 (by decide) ?_
  refine lv_irem hx hb dX13_feed_90 (by decide) ?_
  refine jt_i 2 (by decide) ?_
  refine lv_imul hx hb dX13_feed_91 ?_
  refine jt_i 16 (by decide) ?_
  refine lv_isub hx hb dX13_feed_92 ?_
  refine jt_i 8 (by decide) ?_
  refine lv_ishr hx hb dX13_feed_93 ?_
  refine lv_i2b (v := ((p1 >>> (8 &&& 31)).toInt8.toInt32)) hx hb dX13_feed_94 rfl ?_
  refine va_bast hx hb hK hP hD hS 1 0 rfl rfl (vp_in_nI (n := 2) (by decide) (by decide)) dX13_feed_95 (fun H locs hP hD hS => ?_)
  refine lv_aload_n hx hb dX13_feed_96 rfl (lv_at hl 2 rfl) ?_
  refine lv_dup hx hb dX13_feed_97 rfl ?_
  refine va_get (D := (dC, dI)) (ci := 13) (v := .int 2) (C := RX13) (T := TX13) (N := 104) hx hb hts (jh hin_RX13) hown hK hP 0 rfl rfl 1 (by decide) (hts (.fieldLink RX13 252 "BookOfAllModel" "size" "I") (jm m_492)) (fun _ h9 => h9) rfl dX13_feed_98 ?_
  refine lv_iconst (v := 1) hx hb dX13_feed_101 (by decide) ?_
  refine lv_iadd hx hb dX13_feed_102 ?_
  refine jt_i 3 (by decide) ?_
  refine va_put (D := (dC, dI)) (ci := 13) (v := .int 3) (ty := .int) (C := RX13) (T := TX13) (N := 104) hx hb hts (jh hin_RX13) tyX13 tyX13_ok nmX13 hown hK hP hD hS 0 rfl rfl 1 (by decide) (hts (.fieldLink RX13 252 "BookOfAllModel" "size" "I") (jm m_492)) (fun _ h9 => h9) rfl (by decide +kernel) rfl rfl (Nat.le_of_ble_eq_true rfl) dX13_feed_103 (fun H locs hP hD hS => ?_)
  refine lv_iinc (v := 3) (lv' := [(6, .int 3), (7, .int p1), (0, .ref (ad 0)), (1, .int p1), (2, .int p2), (3, .int p3), (4, .int p4), (5, .int p5)]) hx hb dX13_feed_106 hl (k := 1) rfl (by decide) (by decide) rfl (fun ls hl => ?_)
  refine lv_goto (tgt := 18) hx hb dX13_feed_109 (by decide) ?_
  refine lv_iload hx hb dX13_feed_18 (lv_at hl 0 rfl) ?_
  refine lv_bipush (v := 20) hx hb dX13_feed_20 (by decide) ?_
  refine lv_icmp_ge (tgt := 112) hx hb dX13_feed_22 (by decide) (fun z => absurd z (by decide)) (fun _ => ?_)
  refine lv_iload hx hb dX13_feed_25 (lv_at hl 0 rfl) ?_
  refine lv_iconst (v := 4) hx hb dX13_feed_27 (by decide) ?_
  refine lv_icmp_ge (tgt := 35) hx hb dX13_feed_28 (by decide) (fun z => absurd z (by decide)) (fun _ => ?_)
  refine lv_iload_n hx hb dX13_feed_31 rfl (lv_at hl 3 rfl) ?_
  refine lv_goto (tgt := 71) hx hb dX13_feed_32 (by decide) ?_
  refine lv_istore (lv' := [(7, .int p1), (6, .int 3), (0, .ref (ad 0)), (1, .int p1), (2, .int p2), (3, .int p3), (4, .int p4), (5, .int p5)]) hx hb dX13_feed_71 hl (by decide) rfl (fun ls hl => ?_)
  refine lv_aload_n hx hb dX13_feed_73 rfl (lv_at hl 2 rfl) ?_
  refine va_get (D := (dC, dI)) (ci := 13) (v := .ref (ad 1)) (C := RX13) (T := TX13) (N := 104) hx hb hts (jh hin_RX13) hown hK hP 0 rfl rfl 0 (by decide) (hts (.fieldLink RX13 9 "BookOfAllModel" "text" "[B") (jm m_1)) (fun _ h9 => h9) rfl dX13_feed_74 ?_
  refine lv_aload_n hx hb dX13_feed_77 rfl (lv_at hl 2 rfl) ?_
  refine va_get (D := (dC, dI)) (ci := 13) (v := .int 3) (C := RX13) (T := TX13) (N := 104) hx hb hts (jh hin_RX13) hown hK hP 0 rfl rfl 1 (by decide) (hts (.fieldLink RX13 252 "BookOfAllModel" "size" "I") (jm m_492)) (fun _ h9 => h9) rfl dX13_feed_78 ?_
  refine lv_iload hx hb dX13_feed_81 (lv_at hl 0 rfl) ?_
  refine lv_bipush (v := 24) hx hb dX13_feed_83 (by decide) ?_
  refine lv_bipush (v := 8) hx hb dX13_feed_85 (by decide) ?_
  refine lv_iload hx hb dX13_feed_87 (lv_at hl 1 rfl) ?_
  refine lv_iconst (v := 4) hx hb dX13_feed_89 (by decide) ?_
  refine lv_irem hx hb dX13_feed_90 (by decide) ?_
  refine jt_i 3 (by decide) ?_
  refine lv_imul hx hb dX13_feed_91 ?_
  refine jt_i 24 (by decide) ?_
  refine lv_isub hx hb dX13_feed_92 ?_
  refine jt_i 0 (by decide) ?_
  refine lv_ishr hx hb dX13_feed_93 ?_
  refine lv_i2b (v := ((p1 >>> (0 &&& 31)).toInt8.toInt32)) hx hb dX13_feed_94 rfl ?_
  refine va_bast hx hb hK hP hD hS 1 0 rfl rfl (vp_in_nI (n := 3) (by decide) (by decide)) dX13_feed_95 (fun H locs hP hD hS => ?_)
  refine lv_aload_n hx hb dX13_feed_96 rfl (lv_at hl 2 rfl) ?_
  refine lv_dup hx hb dX13_feed_97 rfl ?_
  refine va_get (D := (dC, dI)) (ci := 13) (v := .int 3) (C := RX13) (T := TX13) (N := 104) hx hb hts (jh hin_RX13) hown hK hP 0 rfl rfl 1 (by decide) (hts (.fieldLink RX13 252 "BookOfAllModel" "size" "I") (jm m_492)) (fun _ h9 => h9) rfl dX13_feed_98 ?_
  refine lv_iconst (v := 1) hx hb dX13_feed_101 (by decide) ?_
  refine lv_iadd hx hb dX13_feed_102 ?_
  refine jt_i 4 (by decide) ?_
  refine va_put (D := (dC, dI)) (ci := 13) (v := .int 4) (ty := .int) (C := RX13) (T := TX13) (N := 104) hx hb hts (jh hin_RX13) tyX13 tyX13_ok nmX13 hown hK hP hD hS 0 rfl rfl 1 (by decide) (hts (.fieldLink RX13 252 "BookOfAllModel" "size" "I") (jm m_492)) (fun _ h9 => h9) rfl (by decide +kernel) rfl rfl (Nat.le_of_ble_eq_true rfl) dX13_feed_103 (fun H locs hP hD hS => ?_)
  refine lv_iinc (v := 4) (lv' := [(6, .int 4), (7, .int p1), (0, .ref (ad 0)), (1, .int p1), (2, .int p2), (3, .int p3), (4, .int p4), (5, .int p5)]) hx hb dX13_feed_106 hl (k := 1) rfl (by decide) (by decide) rfl (fun ls hl => ?_)
  refine lv_goto (tgt := 18) hx hb dX13_feed_109 (by decide) ?_
  refine lv_iload hx hb dX13_feed_18 (lv_at hl 0 rfl) ?_
  refine lv_bipush (v := 20) hx hb dX13_feed_20 (by decide) ?_
  refine lv_icmp_ge (tgt := 112) hx hb dX13_feed_22 (by decide) (fun z => absurd z (by decide)) (fun _ => ?_)
  refine lv_iload hx hb dX13_feed_25 (lv_at hl 0 rfl) ?_
  refine lv_iconst (v := 4) hx hb dX13_feed_27 (by decide) ?_
  refine lv_icmp_ge (tgt := 35) hx hb dX13_feed_28 (by decide) (fun _ => ?_) (fun z => absurd (by decide) z)
  refine lv_iload hx hb dX13_feed_35 (lv_at hl 0 rfl) ?_
  refine lv_bipush (v := 8) hx hb dX13_feed_37 (by decide) ?_
  refine lv_icmp_ge (tgt := 46) hx hb dX13_feed_39 (by decide) (fun z => absurd z (by decide)) (fun _ => ?_)
  refine lv_iload_n hx hb dX13_feed_42 rfl (lv_at hl 4 rfl) ?_
  refine lv_goto (tgt := 71) hx hb dX13_feed_43 (by decide) ?_
  refine lv_istore (lv' := [(7, .int p2), (6, .int 4), (0, .ref (ad 0)), (1, .int p1), (2, .int p2), (3, .int p3), (4, .int p4), (5, .int p5)]) hx hb dX13_feed_71 hl (by decide) rfl (fun ls hl => ?_)
  refine lv_aload_n hx hb dX13_feed_73 rfl (lv_at hl 2 rfl) ?_
  refine va_get (D := (dC, dI)) (ci := 13) (v := .ref (ad 1)) (C := RX13) (T := TX13) (N := 104) hx hb hts (jh hin_RX13) hown hK hP 0 rfl rfl 0 (by decide) (hts (.fieldLink RX13 9 "BookOfAllModel" "text" "[B") (jm m_1)) (fun _ h9 => h9) rfl dX13_feed_74 ?_
  refine lv_aload_n hx hb dX13_feed_77 rfl (lv_at hl 2 rfl) ?_
  refine va_get (D := (dC, dI)) (ci := 13) (v := .int 4) (C := RX13) (T := TX13) (N := 104) hx hb hts (jh hin_RX13) hown hK hP 0 rfl rfl 1 (by decide) (hts (.fieldLink RX13 252 "BookOfAllModel" "size" "I") (jm m_492)) (fun _ h9 => h9) rfl dX13_feed_78 ?_
  refine lv_iload hx hb dX13_feed_81 (lv_at hl 0 rfl) ?_
  refine lv_bipush (v := 24) hx hb dX13_feed_83 (by decide) ?_
  refine lv_bipush (v := 8) hx hb dX13_feed_85 (by decide) ?_
  refine lv_iload hx hb dX13_feed_87 (lv_at hl 1 rfl) ?_
  refine lv_iconst (v := 4) hx hb dX13_feed_89 (by decide) ?_
  refine lv_irem hx hb dX13_feed_90 (by decide) ?_
  refine jt_i 0 (by decide) ?_
  refine lv_imul hx hb dX13_feed_91 ?_
  refine jt_i 0 (by decide) ?_
  refine lv_isub hx hb dX13_feed_92 ?_
  refine jt_i 24 (by decide) ?_
  refine lv_ishr hx hb dX13_feed_93 ?_
  refine lv_i2b (v := ((p2 >>> (24 &&& 31)).toInt8.toInt32)) hx hb dX13_feed_94 rfl ?_
  refine va_bast hx hb hK hP hD hS 1 0 rfl rfl (vp_in_nI (n := 4) (by decide) (by decide)) dX13_feed_95 (fun H locs hP hD hS => ?_)
  refine lv_aload_n hx hb dX13_feed_96 rfl (lv_at hl 2 rfl) ?_
  refine lv_dup hx hb dX13_feed_97 rfl ?_
  refine va_get (D := (dC, dI)) (ci := 13) (v := .int 4) (C := RX13) (T := TX13) (N := 104) hx hb hts (jh hin_RX13) hown hK hP 0 (jg_n (Nat.ne_of_beq_eq_false rfl) (jg_s (n := 79) (jn_s (jn_s (jn_s (jn_s (jn_s (jn_s (jn_s rfl))))))) (Nat.le_of_ble_eq_true rfl))) rfl 1 (by decide) (hts (.fieldLink RX13 252 "BookOfAllModel" "size" "I") (jm m_492)) (fun _ h9 => h9) rfl dX13_feed_98 ?_
  refine lv_iconst (v := 1) hx hb dX13_feed_101 (by decide) ?_
  refine lv_iadd hx hb dX13_feed_102 ?_
  refine jt_i 5 (by decide) ?_
  refine va_put (D := (dC, dI)) (ci := 13) (v := .int 5) (ty := .int) (C := RX13) (T := TX13) (N := 104) hx hb hts (jh hin_RX13) tyX13 tyX13_ok nmX13 hown hK hP hD hS 0 (jg_n (Nat.ne_of_beq_eq_false rfl) (jg_s (n := 79) (jn_s (jn_s (jn_s (jn_s (jn_s (jn_s (jn_s rfl))))))) (Nat.le_of_ble_eq_true rfl))) rfl 1 (by decide) (hts (.fieldLink RX13 252 "BookOfAllModel" "size" "I") (jm m_492)) (fun _ h9 => h9) rfl (by decide +kernel) rfl rfl (Nat.le_of_ble_eq_true rfl) dX13_feed_103 (fun H locs hP hD hS => ?_)
  refine lv_iinc (v := 5) (lv' := [(6, .int 5), (7, .int p2), (0, .ref (ad 0)), (1, .int p1), (2, .int p2), (3, .int p3), (4, .int p4), (5, .int p5)]) hx hb dX13_feed_106 hl (k := 1) rfl (by decide) (by decide) rfl (fun ls hl => ?_)
  refine lv_goto (tgt := 18) hx hb dX13_feed_109 (by decide) ?_
  refine lv_iload hx hb dX13_feed_18 (lv_at hl 0 rfl) ?_
  refine lv_bipush (v := 20) hx hb dX13_feed_20 (by decide) ?_
  refine lv_icmp_ge (tgt := 112) hx hb dX13_feed_22 (by decide) (fun z => absurd z (by decide)) (fun _ => ?_)
  refine lv_iload hx hb dX13_feed_25 (lv_at hl 0 rfl) ?_
  refine lv_iconst (v := 4) hx hb dX13_feed_27 (by decide) ?_
  refine lv_icmp_ge (tgt := 35) hx hb dX13_feed_28 (by decide) (fun _ => ?_) (fun z => absurd (by decide) z)
  refine lv_iload hx hb dX13_feed_35 (lv_at hl 0 rfl) ?_
  refine lv_bipush (v := 8) hx hb dX13_feed_37 (by decide) ?_
  refine lv_icmp_ge (tgt := 46) hx hb dX13_feed_39 (by decide) (fun z => absurd z (by decide)) (fun _ => ?_)
  refine lv_iload_n hx hb dX13_feed_42 rfl (lv_at hl 4 rfl) ?_
  refine lv_goto (tgt := 71) hx hb dX13_feed_43 (by decide) ?_
  refine lv_istore (lv' := [(7, .int p2), (6, .int 5), (0, .ref (ad 0)), (1, .int p1), (2, .int p2), (3, .int p3), (4, .int p4), (5, .int p5)]) hx hb dX13_feed_71 hl (by decide) rfl (fun ls hl => ?_)
  refine lv_aload_n hx hb dX13_feed_73 rfl (lv_at hl 2 rfl) ?_
  refine va_get (D := (dC, dI)) (ci := 13) (v := .ref (ad 1)) (C := RX13) (T := TX13) (N := 104) hx hb hts (jh hin_RX13) hown hK hP 0 (jg_s (n := 79) (jn_s (jn_s (jn_s (jn_s (jn_s (jn_s (jn_s (jn_s (jn_s rfl))))))))) (Nat.le_of_ble_eq_true rfl)) rfl 0 (by decide) (hts (.fieldLink RX13 9 "BookOfAllModel" "text" "[B") (jm m_1)) (fun _ h9 => h9) (jg_n (Nat.ne_of_beq_eq_false rfl) (jg_n (Nat.ne_of_beq_eq_false rfl) (jg_n (Nat.ne_of_beq_eq_false rfl) (jg_n (Nat.ne_of_beq_eq_false rfl) (jg_n (Nat.ne_of_beq_eq_false rfl) rfl))))) dX13_feed_74 ?_
  refine lv_aload_n hx hb dX13_feed_77 rfl (lv_at hl 2 rfl) ?_
  refine va_get (D := (dC, dI)) (ci := 13) (v := .int 5) (C := RX13) (T := TX13) (N := 104) hx hb hts (jh hin_RX13) hown hK hP 0 (jg_s (n := 79) (jn_s (jn_s (jn_s (jn_s (jn_s (jn_s (jn_s (jn_s (jn_s rfl))))))))) (Nat.le_of_ble_eq_true rfl)) rfl 1 (by decide) (hts (.fieldLink RX13 252 "BookOfAllModel" "size" "I") (jm m_492)) (fun _ h9 => h9) (jg_s (n := 104) (jn_s (jn_s (jn_s (jn_s rfl)))) (Nat.le_of_ble_eq_true rfl)) dX13_feed_78 ?_
  refine lv_iload hx hb dX13_feed_81 (lv_at hl 0 rfl) ?_
  refine lv_bipush (v := 24) hx hb dX13_feed_83 (by decide) ?_
  refine lv_bipush (v := 8) hx hb dX13_feed_85 (by decide) ?_
  refine lv_iload hx hb dX13_feed_87 (lv_at hl 1 rfl) ?_
  refine lv_iconst (v := 4) hx hb dX13_feed_89 (by decide) ?_
  refine lv_irem hx hb dX13_feed_90 (by decide) ?_
  refine jt_i 1 (by decide) ?_
  refine lv_imul hx hb dX13_feed_91 ?_
  refine jt_i 8 (by decide) ?_
  refine lv_isub hx hb dX13_feed_92 ?_
  refine jt_i 16 (by decide) ?_
  refine lv_ishr hx hb dX13_feed_93 ?_
  refine lv_i2b (v := ((p2 >>> (16 &&& 31)).toInt8.toInt32)) hx hb dX13_feed_94 rfl ?_
  refine va_bast hx hb hK hP hD hS 1 0 (jg_n (Nat.ne_of_beq_eq_false rfl) (jg_s (n := 79) (jn_s (jn_s (jn_s (jn_s (jn_s (jn_s (jn_s (jn_s rfl)))))))) (Nat.le_of_ble_eq_true rfl))) rfl (vp_in_nI (n := 5) (by decide) (by decide)) dX13_feed_95 (fun H locs hP hD hS => ?_)
  refine lv_aload_n hx hb dX13_feed_96 rfl (lv_at hl 2 rfl) ?_
  refine lv_dup hx hb dX13_feed_97 rfl ?_
  refine va_get (D := (dC, dI)) (ci := 13) (v := .int 5) (C := RX13) (T := TX13) (N := 104) hx hb hts (jh hin_RX13) hown hK hP 0 (jg_n (Nat.ne_of_beq_eq_false rfl) (jg_s (n := 79) (jn_s (jn_s (jn_s (jn_s (jn_s (jn_s (jn_s (jn_s (jn_s rfl))))))))) (Nat.le_of_ble_eq_true rfl))) rfl 1 (by decide) (hts (.fieldLink RX13 252 "BookOfAllModel" "size" "I") (jm m_492)) (fun _ h9 => h9) (jg_s (n := 104) (jn_s (jn_s (jn_s (jn_s rfl)))) (Nat.le_of_ble_eq_true rfl)) dX13_feed_98 ?_
  refine lv_iconst (v := 1) hx hb dX13_feed_101 (by decide) ?_
  refine lv_iadd hx hb dX13_feed_102 ?_
  refine jt_i 6 (by decide) ?_
  refine va_put (D := (dC, dI)) (ci := 13) (v := .int 6) (ty := .int) (C := RX13) (T := TX13) (N := 104) hx hb hts (jh hin_RX13) tyX13 tyX13_ok nmX13 hown hK hP hD hS 0 (jg_n (Nat.ne_of_beq_eq_false rfl) (jg_s (n := 79) (jn_s (jn_s (jn_s (jn_s (jn_s (jn_s (jn_s (jn_s (jn_s rfl))))))))) (Nat.le_of_ble_eq_true rfl))) rfl 1 (by decide) (hts (.fieldLink RX13 252 "BookOfAllModel" "size" "I") (jm m_492)) (fun _ h9 => h9) rfl (by decide +kernel) rfl rfl (jn_lt (n := 104) (jn_s (jn_s (jn_s (jn_s (jn_s rfl))))) (Nat.le_of_ble_eq_true rfl)) dX13_feed_103 (fun H locs hP hD hS => ?_)
  refine lv_iinc (v := 6) (lv' := [(6, .int 6), (7, .int p2), (0, .ref (ad 0)), (1, .int p1), (2, .int p2), (3, .int p3), (4, .int p4), (5, .int p5)]) hx hb dX13_feed_106 hl (k := 1) rfl (by decide) (by decide) rfl (fun ls hl => ?_)
  refine lv_goto (tgt := 18) hx hb dX13_feed_109 (by decide) ?_
  refine lv_iload hx hb dX13_feed_18 (lv_at hl 0 rfl) ?_
  refine lv_bipush (v := 20) hx hb dX13_feed_20 (by decide) ?_
  refine lv_icmp_ge (tgt := 112) hx hb dX13_feed_22 (by decide) (fun z => absurd z (by decide)) (fun _ => ?_)
  refine lv_iload hx hb dX13_feed_25 (lv_at hl 0 rfl) ?_
  refine lv_iconst (v := 4) hx hb dX13_feed_27 (by decide) ?_
  refine lv_icmp_ge (tgt := 35) hx hb dX13_feed_28 (by decide) (fun _ => ?_) (fun z => absurd (by decide) z)
  refine lv_iload hx hb dX13_feed_35 (lv_at hl 0 rfl) ?_
  refine lv_bipush (v := 8) hx hb dX13_feed_37 (by decide) ?_
  refine lv_icmp_ge (tgt := 46) hx hb dX13_feed_39 (by decide) (fun z => absurd z (by decide)) (fun _ => ?_)
  refine lv_iload_n hx hb dX13_feed_42 rfl (lv_at hl 4 rfl) ?_
  refine lv_goto (tgt := 71) hx hb dX13_feed_43 (by decide) ?_
  refine lv_istore (lv' := [(7, .int p2), (6, .int 6), (0, .ref (ad 0)), (1, .int p1), (2, .int p2), (3, .int p3), (4, .int p4), (5, .int p5)]) hx hb dX13_feed_71 hl (by decide) rfl (fun ls hl => ?_)
  refine lv_aload_n hx hb dX13_feed_73 rfl (lv_at hl 2 rfl) ?_
  refine va_get (D := (dC, dI)) (ci := 13) (v := .ref (ad 1)) (C := RX13) (T := TX13) (N := 104) hx hb hts (jh hin_RX13) hown hK hP 0 (jg_s (n := 79) (jn_s (jn_s (jn_s (jn_s (jn_s (jn_s (jn_s (jn_s (jn_s (jn_s (jn_s rfl))))))))))) (Nat.le_of_ble_eq_true rfl)) rfl 0 (by decide) (hts (.fieldLink RX13 9 "BookOfAllModel" "text" "[B") (jm m_1)) (fun _ h9 => h9) (jg_n (Nat.ne_of_beq_eq_false rfl) (jg_n (Nat.ne_of_beq_eq_false rfl) (jg_n (Nat.ne_of_beq_eq_false rfl) (jg_n (Nat.ne_of_beq_eq_false rfl) (jg_n (Nat.ne_of_beq_eq_false rfl) (jg_n (Nat.ne_of_beq_eq_false rfl) rfl)))))) dX13_feed_74 ?_
  refine lv_aload_n hx hb dX13_feed_77 rfl (lv_at hl 2 rfl) ?_
  refine va_get (D := (dC, dI)) (ci := 13) (v := .int 6) (C := RX13) (T := TX13) (N := 104) hx hb hts (jh hin_RX13) hown hK hP 0 (jg_s (n := 79) (jn_s (jn_s (jn_s (jn_s (jn_s (jn_s (jn_s (jn_s (jn_s (jn_s (jn_s rfl))))))))))) (Nat.le_of_ble_eq_true rfl)) rfl 1 (by decide) (hts (.fieldLink RX13 252 "BookOfAllModel" "size" "I") (jm m_492)) (fun _ h9 => h9) (jg_s (n := 104) (jn_s (jn_s (jn_s (jn_s (jn_s rfl))))) (Nat.le_of_ble_eq_true rfl)) dX13_feed_78 ?_
  refine lv_iload hx hb dX13_feed_81 (lv_at hl 0 rfl) ?_
  refine lv_bipush (v := 24) hx hb dX13_feed_83 (by decide) ?_
  refine lv_bipush (v := 8) hx hb dX13_feed_85 (by decide) ?_
  refine lv_iload hx hb dX13_feed_87 (lv_at hl 1 rfl) ?_
  refine lv_iconst (v := 4) hx hb dX13_feed_89 (by decide) ?_
  refine lv_irem hx hb dX13_feed_90 (by decide) ?_
  refine jt_i 2 (by decide) ?_
  refine lv_imul hx hb dX13_feed_91 ?_
  refine jt_i 16 (by decide) ?_
  refine lv_isub hx hb dX13_feed_92 ?_
  refine jt_i 8 (by decide) ?_
  refine lv_ishr hx hb dX13_feed_93 ?_
  refine lv_i2b (v := ((p2 >>> (8 &&& 31)).toInt8.toInt32)) hx hb dX13_feed_94 rfl ?_
  refine va_bast hx hb hK hP hD hS 1 0 (jg_n (Nat.ne_of_beq_eq_false rfl) (jg_s (n := 79) (jn_s (jn_s (jn_s (jn_s (jn_s (jn_s (jn_s (jn_s (jn_s (jn_s rfl)))))))))) (Nat.le_of_ble_eq_true rfl))) rfl (vp_in_nI (n := 6) (by decide) (by decide)) dX13_feed_95 (fun H locs hP hD hS => ?_)
  refine lv_aload_n hx hb dX13_feed_96 rfl (lv_at hl 2 rfl) ?_
  refine lv_dup hx hb dX13_feed_97 rfl ?_
  refine va_get (D := (dC, dI)) (ci := 13) (v := .int 6) (C := RX13) (T := TX13) (N := 104) hx hb hts (jh hin_RX13) hown hK hP 0 (jg_n (Nat.ne_of_beq_eq_false rfl) (jg_s (n := 79) (jn_s (jn_s (jn_s (jn_s (jn_s (jn_s (jn_s (jn_s (jn_s (jn_s (jn_s rfl))))))))))) (Nat.le_of_ble_eq_true rfl))) rfl 1 (by decide) (hts (.fieldLink RX13 252 "BookOfAllModel" "size" "I") (jm m_492)) (fun _ h9 => h9) (jg_s (n := 104) (jn_s (jn_s (jn_s (jn_s (jn_s rfl))))) (Nat.le_of_ble_eq_true rfl)) dX13_feed_98 ?_
  refine lv_iconst (v := 1) hx hb dX13_feed_101 (by decide) ?_
  refine lv_iadd hx hb dX13_feed_102 ?_
  refine jt_i 7 (by decide) ?_
  refine va_put (D := (dC, dI)) (ci := 13) (v := .int 7) (ty := .int) (C := RX13) (T := TX13) (N := 104) hx hb hts (jh hin_RX13) tyX13 tyX13_ok nmX13 hown hK hP hD hS 0 (jg_n (Nat.ne_of_beq_eq_false rfl) (jg_s (n := 79) (jn_s (jn_s (jn_s (jn_s (jn_s (jn_s (jn_s (jn_s (jn_s (jn_s (jn_s rfl))))))))))) (Nat.le_of_ble_eq_true rfl))) rfl 1 (by decide) (hts (.fieldLink RX13 252 "BookOfAllModel" "size" "I") (jm m_492)) (fun _ h9 => h9) rfl (by decide +kernel) rfl rfl (jn_lt (n := 104) (jn_s (jn_s (jn_s (jn_s (jn_s (jn_s rfl)))))) (Nat.le_of_ble_eq_true rfl)) dX13_feed_103 (fun H locs hP hD hS => ?_)
  refine lv_iinc (v := 7) (lv' := [(6, .int 7), (7, .int p2), (0, .ref (ad 0)), (1, .int p1), (2, .int p2), (3, .int p3), (4, .int p4), (5, .int p5)]) hx hb dX13_feed_106 hl (k := 1) rfl (by decide) (by decide) rfl (fun ls hl => ?_)
  refine lv_goto (tgt := 18) hx hb dX13_feed_109 (by decide) ?_
  refine lv_iload hx hb dX13_feed_18 (lv_at hl 0 rfl) ?_
  refine lv_bipush (v := 20) hx hb dX13_feed_20 (by decide) ?_
  refine lv_icmp_ge (tgt := 112) hx hb dX13_feed_22 (by decide) (fun z => absurd z (by decide)) (fun _ => ?_)
  refine lv_iload hx hb dX13_feed_25 (lv_at hl 0 rfl) ?_
  refine lv_iconst (v := 4) hx hb dX13_feed_27 (by decide) ?_
  refine lv_icmp_ge (tgt := 35) hx hb dX13_feed_28 (by decide) (fun _ => ?_) (fun z => absurd (by decide) z)
  refine lv_iload hx hb dX13_feed_35 (lv_at hl 0 rfl) ?_
  refine lv_bipush (v := 8) hx hb dX13_feed_37 (by decide) ?_
  refine lv_icmp_ge (tgt := 46) hx hb dX13_feed_39 (by decide) (fun z => absurd z (by decide)) (fun _ => ?_)
  refine lv_iload_n hx hb dX13_feed_42 rfl (lv_at hl 4 rfl) ?_
  refine lv_goto (tgt := 71) hx hb dX13_feed_43 (by decide) ?_
  refine lv_istore (lv' := [(7, .int p2), (6, .int 7), (0, .ref (ad 0)), (1, .int p1), (2, .int p2), (3, .int p3), (4, .int p4), (5, .int p5)]) hx hb dX13_feed_71 hl (by decide) rfl (fun ls hl => ?_)
  refine lv_aload_n hx hb dX13_feed_73 rfl (lv_at hl 2 rfl) ?_
  refine va_get (D := (dC, dI)) (ci := 13) (v := .ref (ad 1)) (C := RX13) (T := TX13) (N := 104) hx hb hts (jh hin_RX13) hown hK hP 0 (jg_s (n := 79) (jn_s (jn_s (jn_s (jn_s (jn_s (jn_s (jn_s (jn_s (jn_s (jn_s (jn_s (jn_s (jn_s rfl))))))))))))) (Nat.le_of_ble_eq_true rfl)) rfl 0 (by decide) (hts (.fieldLink RX13 9 "BookOfAllModel" "text" "[B") (jm m_1)) (fun _ h9 => h9) (jg_n (Nat.ne_of_beq_eq_false rfl) (jg_n (Nat.ne_of_beq_eq_false rfl) (jg_n (Nat.ne_of_beq_eq_false rfl) (jg_n (Nat.ne_of_beq_eq_false rfl) (jg_n (Nat.ne_of_beq_eq_false rfl) (jg_n (Nat.ne_of_beq_eq_false rfl) (jg_n (Nat.ne_of_beq_eq_false rfl) rfl))))))) dX13_feed_74 ?_
  refine lv_aload_n hx hb dX13_feed_77 rfl (lv_at hl 2 rfl) ?_
  refine va_get (D := (dC, dI)) (ci := 13) (v := .int 7) (C := RX13) (T := TX13) (N := 104) hx hb hts (jh hin_RX13) hown hK hP 0 (jg_s (n := 79) (jn_s (jn_s (jn_s (jn_s (jn_s (jn_s (jn_s (jn_s (jn_s (jn_s (jn_s (jn_s (jn_s rfl))))))))))))) (Nat.le_of_ble_eq_true rfl)) rfl 1 (by decide) (hts (.fieldLink RX13 252 "BookOfAllModel" "size" "I") (jm m_492)) (fun _ h9 => h9) (jg_s (n := 104) (jn_s (jn_s (jn_s (jn_s (jn_s (jn_s rfl)))))) (Nat.le_of_ble_eq_true rfl)) dX13_feed_78 ?_
  refine lv_iload hx hb dX13_feed_81 (lv_at hl 0 rfl) ?_
  refine lv_bipush (v := 24) hx hb dX13_feed_83 (by decide) ?_
  refine lv_bipush (v := 8) hx hb dX13_feed_85 (by decide) ?_
  refine lv_iload hx hb dX13_feed_87 (lv_at hl 1 rfl) ?_
  refine lv_iconst (v := 4) hx hb dX13_feed_89 (by decide) ?_
  refine lv_irem hx hb dX13_feed_90 (by decide) ?_
  refine jt_i 3 (by decide) ?_
  refine lv_imul hx hb dX13_feed_91 ?_
  refine jt_i 24 (by decide) ?_
  refine lv_isub hx hb dX13_feed_92 ?_
  refine jt_i 0 (by decide) ?_
  refine lv_ishr hx hb dX13_feed_93 ?_
  refine lv_i2b (v := ((p2 >>> (0 &&& 31)).toInt8.toInt32)) hx hb dX13_feed_94 rfl ?_
  refine va_bast hx hb hK hP hD hS 1 0 (jg_n (Nat.ne_of_beq_eq_false rfl) (jg_s (n := 79) (jn_s (jn_s (jn_s (jn_s (jn_s (jn_s (jn_s (jn_s (jn_s (jn_s (jn_s (jn_s rfl)))))))))))) (Nat.le_of_ble_eq_true rfl))) rfl (vp_in_nI (n := 7) (by decide) (by decide)) dX13_feed_95 (fun H locs hP hD hS => ?_)
  refine lv_aload_n hx hb dX13_feed_96 rfl (lv_at hl 2 rfl) ?_
  refine lv_dup hx hb dX13_feed_97 rfl ?_
  refine va_get (D := (dC, dI)) (ci := 13) (v := .int 7) (C := RX13) (T := TX13) (N := 104) hx hb hts (jh hin_RX13) hown hK hP 0 (jg_n (Nat.ne_of_beq_eq_false rfl) (jg_s (n := 79) (jn_s (jn_s (jn_s (jn_s (jn_s (jn_s (jn_s (jn_s (jn_s (jn_s (jn_s (jn_s (jn_s rfl))))))))))))) (Nat.le_of_ble_eq_true rfl))) rfl 1 (by decide) (hts (.fieldLink RX13 252 "BookOfAllModel" "size" "I") (jm m_492)) (fun _ h9 => h9) (jg_s (n := 104) (jn_s (jn_s (jn_s (jn_s (jn_s (jn_s rfl)))))) (Nat.le_of_ble_eq_true rfl)) dX13_feed_98 ?_
  refine lv_iconst (v := 1) hx hb dX13_feed_101 (by decide) ?_
  refine lv_iadd hx hb dX13_feed_102 ?_
  refine jt_i 8 (by decide) ?_
  refine va_put (D := (dC, dI)) (ci := 13) (v := .int 8) (ty := .int) (C := RX13) (T := TX13) (N := 104) hx hb hts (jh hin_RX13) tyX13 tyX13_ok nmX13 hown hK hP hD hS 0 (jg_n (Nat.ne_of_beq_eq_false rfl) (jg_s (n := 79) (jn_s (jn_s (jn_s (jn_s (jn_s (jn_s (jn_s (jn_s (jn_s (jn_s (jn_s (jn_s (jn_s rfl))))))))))))) (Nat.le_of_ble_eq_true rfl))) rfl 1 (by decide) (hts (.fieldLink RX13 252 "BookOfAllModel" "size" "I") (jm m_492)) (fun _ h9 => h9) rfl (by decide +kernel) rfl rfl (jn_lt (n := 104) (jn_s (jn_s (jn_s (jn_s (jn_s (jn_s (jn_s rfl))))))) (Nat.le_of_ble_eq_true rfl)) dX13_feed_103 (fun H locs hP hD hS => ?_)
  refine lv_iinc (v := 8) (lv' := [(6, .int 8), (7, .int p2), (0, .ref (ad 0)), (1, .int p1), (2, .int p2), (3, .int p3), (4, .int p4), (5, .int p5)]) hx hb dX13_feed_106 hl (k := 1) rfl (by decide) (by decide) rfl (fun ls hl => ?_)
  refine lv_goto (tgt := 18) hx hb dX13_feed_109 (by decide) ?_
  refine lv_iload hx hb dX13_feed_18 (lv_at hl 0 rfl) ?_
  refine lv_bipush (v := 20) hx hb dX13_feed_20 (by decide) ?_
  refine lv_icmp_ge (tgt := 112) hx hb dX13_feed_22 (by decide) (fun z => absurd z (by decide)) (fun _ => ?_)
  refine lv_iload hx hb dX13_feed_25 (lv_at hl 0 rfl) ?_
  refine lv_iconst (v := 4) hx hb dX13_feed_27 (by decide) ?_
  refine lv_icmp_ge (tgt := 35) hx hb dX13_feed_28 (by decide) (fun _ => ?_) (fun z => absurd (by decide) z)
  refine lv_iload hx hb dX13_feed_35 (lv_at hl 0 rfl) ?_
  refine lv_bipush (v := 8) hx hb dX13_feed_37 (by decide) ?_
  refine lv_icmp_ge (tgt := 46) hx hb dX13_feed_39 (by decide) (fun _ => ?_) (fun z => absurd (by decide) z)
  refine lv_iload hx hb dX13_feed_46 (lv_at hl 0 rfl) ?_
  refine lv_bipush (v := 12) hx hb dX13_feed_48 (by decide) ?_
  refine lv_icmp_ge (tgt := 57) hx hb dX13_feed_50 (by decide) (fun z => absurd z (by decide)) (fun _ => ?_)
  refine lv_iload_n hx hb dX13_feed_53 rfl (lv_at hl 5 rfl) ?_
  refine lv_goto (tgt := 71) hx hb dX13_feed_54 (by decide) ?_
  refine lv_istore (lv' := [(7, .int p3), (6, .int 8), (0, .ref (ad 0)), (1, .int p1), (2, .int p2), (3, .int p3), (4, .int p4), (5, .int p5)]) hx hb dX13_feed_71 hl (by decide) rfl (fun ls hl => ?_)
  refine lv_aload_n hx hb dX13_feed_73 rfl (lv_at hl 2 rfl) ?_
  refine va_get (D := (dC, dI)) (ci := 13) (v := .ref (ad 1)) (C := RX13) (T := TX13) (N := 104) hx hb hts (jh hin_RX13) hown hK hP 0 (jg_s (n := 79) (jn_s (jn_s (jn_s (jn_s (jn_s (jn_s (jn_s (jn_s (jn_s (jn_s (jn_s (jn_s (jn_s (jn_s (jn_s rfl))))))))))))))) (Nat.le_of_ble_eq_true rfl)) rfl 0 (by decide) (hts (.fieldLink RX13 9 "BookOfAllModel" "text" "[B") (jm m_1)) (fun _ h9 => h9) (jg_n (Nat.ne_of_beq_eq_false rfl) (jg_n (Nat.ne_of_beq_eq_false rfl) (jg_n (Nat.ne_of_beq_eq_false rfl) (jg_n (Nat.ne_of_beq_eq_false rfl) (jg_n (Nat.ne_of_beq_eq_false rfl) (jg_n (Nat.ne_of_beq_eq_false rfl) (jg_n (Nat.ne_of_beq_eq_false rfl) (jg_n (Nat.ne_of_beq_eq_false rfl) rfl)))))))) dX13_feed_74 ?_
  refine lv_aload_n hx hb dX13_feed_77 rfl (lv_at hl 2 rfl) ?_
  refine va_get (D := (dC, dI)) (ci := 13) (v := .int 8) (C := RX13) (T := TX13) (N := 104) hx hb hts (jh hin_RX13) hown hK hP 0 (jg_s (n := 79) (jn_s (jn_s (jn_s (jn_s (jn_s (jn_s (jn_s (jn_s (jn_s (jn_s (jn_s (jn_s (jn_s (jn_s (jn_s rfl))))))))))))))) (Nat.le_of_ble_eq_true rfl)) rfl 1 (by decide) (hts (.fieldLink RX13 252 "BookOfAllModel" "size" "I") (jm m_492)) (fun _ h9 => h9) (jg_s (n := 104) (jn_s (jn_s (jn_s (jn_s (jn_s (jn_s (jn_s rfl))))))) (Nat.le_of_ble_eq_true rfl)) dX13_feed_78 ?_
  refine lv_iload hx hb dX13_feed_81 (lv_at hl 0 rfl) ?_
  refine lv_bipush (v := 24) hx hb dX13_feed_83 (by decide) ?_
  refine lv_bipush (v := 8) hx hb dX13_feed_85 (by decide) ?_
  refine lv_iload hx hb dX13_feed_87 (lv_at hl 1 rfl) ?_
  refine lv_iconst (v := 4) hx hb dX13_feed_89 (by decide) ?_
  refine lv_irem hx hb dX13_feed_90 (by decide) ?_
  refine jt_i 0 (by decide) ?_
  refine lv_imul hx hb dX13_feed_91 ?_
  refine jt_i 0 (by decide) ?_
  refine lv_isub hx hb dX13_feed_92 ?_
  refine jt_i 24 (by decide) ?_
  refine lv_ishr hx hb dX13_feed_93 ?_
  refine lv_i2b (v := ((p3 >>> (24 &&& 31)).toInt8.toInt32)) hx hb dX13_feed_94 rfl ?_
  refine va_bast hx hb hK hP hD hS 1 0 (jg_n (Nat.ne_of_beq_eq_false rfl) (jg_s (n := 79) (jn_s (jn_s (jn_s (jn_s (jn_s (jn_s (jn_s (jn_s (jn_s (jn_s (jn_s (jn_s (jn_s (jn_s rfl)))))))))))))) (Nat.le_of_ble_eq_true rfl))) rfl (vp_in_nI (n := 8) (by decide) (by decide)) dX13_feed_95 (fun H locs hP hD hS => ?_)
  refine lv_aload_n hx hb dX13_feed_96 rfl (lv_at hl 2 rfl) ?_
  refine lv_dup hx hb dX13_feed_97 rfl ?_
  refine va_get (D := (dC, dI)) (ci := 13) (v := .int 8) (C := RX13) (T := TX13) (N := 104) hx hb hts (jh hin_RX13) hown hK hP 0 (jg_n (Nat.ne_of_beq_eq_false rfl) (jg_s (n := 79) (jn_s (jn_s (jn_s (jn_s (jn_s (jn_s (jn_s (jn_s (jn_s (jn_s (jn_s (jn_s (jn_s (jn_s (jn_s rfl))))))))))))))) (Nat.le_of_ble_eq_true rfl))) rfl 1 (by decide) (hts (.fieldLink RX13 252 "BookOfAllModel" "size" "I") (jm m_492)) (fun _ h9 => h9) (jg_s (n := 104) (jn_s (jn_s (jn_s (jn_s (jn_s (jn_s (jn_s rfl))))))) (Nat.le_of_ble_eq_true rfl)) dX13_feed_98 ?_
  refine lv_iconst (v := 1) hx hb dX13_feed_101 (by decide) ?_
  refine lv_iadd hx hb dX13_feed_102 ?_
  refine jt_i 9 (by decide) ?_
  refine va_put (D := (dC, dI)) (ci := 13) (v := .int 9) (ty := .int) (C := RX13) (T := TX13) (N := 104) hx hb hts (jh hin_RX13) tyX13 tyX13_ok nmX13 hown hK hP hD hS 0 (jg_n (Nat.ne_of_beq_eq_false rfl) (jg_s (n := 79) (jn_s (jn_s (jn_s (jn_s (jn_s (jn_s (jn_s (jn_s (jn_s (jn_s (jn_s (jn_s (jn_s (jn_s (jn_s rfl))))))))))))))) (Nat.le_of_ble_eq_true rfl))) rfl 1 (by decide) (hts (.fieldLink RX13 252 "BookOfAllModel" "size" "I") (jm m_492)) (fun _ h9 => h9) rfl (by decide +kernel) rfl rfl (jn_lt (n := 104) (jn_s (jn_s (jn_s (jn_s (jn_s (jn_s (jn_s (jn_s rfl)))))))) (Nat.le_of_ble_eq_true rfl)) dX13_feed_103 (fun H locs hP hD hS => ?_)
  refine lv_iinc (v := 9) (lv' := [(6, .int 9), (7, .int p3), (0, .ref (ad 0)), (1, .int p1), (2, .int p2), (3, .int p3), (4, .int p4), (5, .int p5)]) hx hb dX13_feed_106 hl (k := 1) rfl (by decide) (by decide) rfl (fun ls hl => ?_)
  refine lv_goto (tgt := 18) hx hb dX13_feed_109 (by decide) ?_
  refine lv_iload hx hb dX13_feed_18 (lv_at hl 0 rfl) ?_
  refine lv_bipush (v := 20) hx hb dX13_feed_20 (by decide) ?_
  refine lv_icmp_ge (tgt := 112) hx hb dX13_feed_22 (by decide) (fun z => absurd z (by decide)) (fun _ => ?_)
  refine lv_iload hx hb dX13_feed_25 (lv_at hl 0 rfl) ?_
  refine lv_iconst (v := 4) hx hb dX13_feed_27 (by decide) ?_
  refine lv_icmp_ge (tgt := 35) hx hb dX13_feed_28 (by decide) (fun _ => ?_) (fun z => absurd (by decide) z)
  refine lv_iload hx hb dX13_feed_35 (lv_at hl 0 rfl) ?_
  refine lv_bipush (v := 8) hx hb dX13_feed_37 (by decide) ?_
  refine lv_icmp_ge (tgt := 46) hx hb dX13_feed_39 (by decide) (fun _ => ?_) (fun z => absurd (by decide) z)
  refine lv_iload hx hb dX13_feed_46 (lv_at hl 0 rfl) ?_
  refine lv_bipush (v := 12) hx hb dX13_feed_48 (by decide) ?_
  refine lv_icmp_ge (tgt := 57) hx hb dX13_feed_50 (by decide) (fun z => absurd z (by decide)) (fun _ => ?_)
  refine lv_iload_n hx hb dX13_feed_53 rfl (lv_at hl 5 rfl) ?_
  refine lv_goto (tgt := 71) hx hb dX13_feed_54 (by decide) ?_
  refine lv_istore (lv' := [(7, .int p3), (6, .int 9), (0, .ref (ad 0)), (1, .int p1), (2, .int p2), (3, .int p3), (4, .int p4), (5, .int p5)]) hx hb dX13_feed_71 hl (by decide) rfl (fun ls hl => ?_)
  refine lv_aload_n hx hb dX13_feed_73 rfl (lv_at hl 2 rfl) ?_
  refine va_get (D := (dC, dI)) (ci := 13) (v := .ref (ad 1)) (C := RX13) (T := TX13) (N := 104) hx hb hts (jh hin_RX13) hown hK hP 0 (jg_s (n := 79) (jn_s (jn_s (jn_s (jn_s (jn_s (jn_s (jn_s (jn_s (jn_s (jn_s (jn_s (jn_s (jn_s (jn_s (jn_s (jn_s (jn_s rfl))))))))))))))))) (Nat.le_of_ble_eq_true rfl)) rfl 0 (by decide) (hts (.fieldLink RX13 9 "BookOfAllModel" "text" "[B") (jm m_1)) (fun _ h9 => h9) (jg_n (Nat.ne_of_beq_eq_false rfl) (jg_n (Nat.ne_of_beq_eq_false rfl) (jg_n (Nat.ne_of_beq_eq_false rfl) (jg_n (Nat.ne_of_beq_eq_false rfl) (jg_n (Nat.ne_of_beq_eq_false rfl) (jg_n (Nat.ne_of_beq_eq_false rfl) (jg_n (Nat.ne_of_beq_eq_false rfl) (jg_n (Nat.ne_of_beq_eq_false rfl) (jg_n (Nat.ne_of_beq_eq_false rfl) rfl))))))))) dX13_feed_74 ?_
  refine lv_aload_n hx hb dX13_feed_77 rfl (lv_at hl 2 rfl) ?_
  refine va_get (D := (dC, dI)) (ci := 13) (v := .int 9) (C := RX13) (T := TX13) (N := 104) hx hb hts (jh hin_RX13) hown hK hP 0 (jg_s (n := 79) (jn_s (jn_s (jn_s (jn_s (jn_s (jn_s (jn_s (jn_s (jn_s (jn_s (jn_s (jn_s (jn_s (jn_s (jn_s (jn_s (jn_s rfl))))))))))))))))) (Nat.le_of_ble_eq_true rfl)) rfl 1 (by decide) (hts (.fieldLink RX13 252 "BookOfAllModel" "size" "I") (jm m_492)) (fun _ h9 => h9) (jg_s (n := 104) (jn_s (jn_s (jn_s (jn_s (jn_s (jn_s (jn_s (jn_s rfl)))))))) (Nat.le_of_ble_eq_true rfl)) dX13_feed_78 ?_
  refine lv_iload hx hb dX13_feed_81 (lv_at hl 0 rfl) ?_
  refine lv_bipush (v := 24) hx hb dX13_feed_83 (by decide) ?_
  refine lv_bipush (v := 8) hx hb dX13_feed_85 (by decide) ?_
  refine lv_iload hx hb dX13_feed_87 (lv_at hl 1 rfl) ?_
  refine lv_iconst (v := 4) hx hb dX13_feed_89 (by decide) ?_
  refine lv_irem hx hb dX13_feed_90 (by decide) ?_
  refine jt_i 1 (by decide) ?_
  refine lv_imul hx hb dX13_feed_91 ?_
  refine jt_i 8 (by decide) ?_
  refine lv_isub hx hb dX13_feed_92 ?_
  refine jt_i 16 (by decide) ?_
  refine lv_ishr hx hb dX13_feed_93 ?_
  refine lv_i2b (v := ((p3 >>> (16 &&& 31)).toInt8.toInt32)) hx hb dX13_feed_94 rfl ?_
  refine va_bast hx hb hK hP hD hS 1 0 (jg_n (Nat.ne_of_beq_eq_false rfl) (jg_s (n := 79) (jn_s (jn_s (jn_s (jn_s (jn_s (jn_s (jn_s (jn_s (jn_s (jn_s (jn_s (jn_s (jn_s (jn_s (jn_s (jn_s rfl)))))))))))))))) (Nat.le_of_ble_eq_true rfl))) rfl (vp_in_nI (n := 9) (by decide) (by decide)) dX13_feed_95 (fun H locs hP hD hS => ?_)
  refine lv_aload_n hx hb dX13_feed_96 rfl (lv_at hl 2 rfl) ?_
  refine lv_dup hx hb dX13_feed_97 rfl ?_
  refine va_get (D := (dC, dI)) (ci := 13) (v := .int 9) (C := RX13) (T := TX13) (N := 104) hx hb hts (jh hin_RX13) hown hK hP 0 (jg_n (Nat.ne_of_beq_eq_false rfl) (jg_s (n := 79) (jn_s (jn_s (jn_s (jn_s (jn_s (jn_s (jn_s (jn_s (jn_s (jn_s (jn_s (jn_s (jn_s (jn_s (jn_s (jn_s (jn_s rfl))))))))))))))))) (Nat.le_of_ble_eq_true rfl))) rfl 1 (by decide) (hts (.fieldLink RX13 252 "BookOfAllModel" "size" "I") (jm m_492)) (fun _ h9 => h9) (jg_s (n := 104) (jn_s (jn_s (jn_s (jn_s (jn_s (jn_s (jn_s (jn_s rfl)))))))) (Nat.le_of_ble_eq_true rfl)) dX13_feed_98 ?_
  refine lv_iconst (v := 1) hx hb dX13_feed_101 (by decide) ?_
  refine lv_iadd hx hb dX13_feed_102 ?_
  refine jt_i 10 (by decide) ?_
  refine va_put (D := (dC, dI)) (ci := 13) (v := .int 10) (ty := .int) (C := RX13) (T := TX13) (N := 104) hx hb hts (jh hin_RX13) tyX13 tyX13_ok nmX13 hown hK hP hD hS 0 (jg_n (Nat.ne_of_beq_eq_false rfl) (jg_s (n := 79) (jn_s (jn_s (jn_s (jn_s (jn_s (jn_s (jn_s (jn_s (jn_s (jn_s (jn_s (jn_s (jn_s (jn_s (jn_s (jn_s (jn_s rfl))))))))))))))))) (Nat.le_of_ble_eq_true rfl))) rfl 1 (by decide) (hts (.fieldLink RX13 252 "BookOfAllModel" "size" "I") (jm m_492)) (fun _ h9 => h9) rfl (by decide +kernel) rfl rfl (jn_lt (n := 104) (jn_s (jn_s (jn_s (jn_s (jn_s (jn_s (jn_s (jn_s (jn_s rfl))))))))) (Nat.le_of_ble_eq_true rfl)) dX13_feed_103 (fun H locs hP hD hS => ?_)
  refine lv_iinc (v := 10) (lv' := [(6, .int 10), (7, .int p3), (0, .ref (ad 0)), (1, .int p1), (2, .int p2), (3, .int p3), (4, .int p4), (5, .int p5)]) hx hb dX13_feed_106 hl (k := 1) rfl (by decide) (by decide) rfl (fun ls hl => ?_)
  refine lv_goto (tgt := 18) hx hb dX13_feed_109 (by decide) ?_
  refine lv_iload hx hb dX13_feed_18 (lv_at hl 0 rfl) ?_
  refine lv_bipush (v := 20) hx hb dX13_feed_20 (by decide) ?_
  refine lv_icmp_ge (tgt := 112) hx hb dX13_feed_22 (by decide) (fun z => absurd z (by decide)) (fun _ => ?_)
  refine lv_iload hx hb dX13_feed_25 (lv_at hl 0 rfl) ?_
  refine lv_iconst (v := 4) hx hb dX13_feed_27 (by decide) ?_
  refine lv_icmp_ge (tgt := 35) hx hb dX13_feed_28 (by decide) (fun _ => ?_) (fun z => absurd (by decide) z)
  refine lv_iload hx hb dX13_feed_35 (lv_at hl 0 rfl) ?_
  refine lv_bipush (v := 8) hx hb dX13_feed_37 (by decide) ?_
  refine lv_icmp_ge (tgt := 46) hx hb dX13_feed_39 (by decide) (fun _ => ?_) (fun z => absurd (by decide) z)
  refine lv_iload hx hb dX13_feed_46 (lv_at hl 0 rfl) ?_
  refine lv_bipush (v := 12) hx hb dX13_feed_48 (by decide) ?_
  refine lv_icmp_ge (tgt := 57) hx hb dX13_feed_50 (by decide) (fun z => absurd z (by decide)) (fun _ => ?_)
  refine lv_iload_n hx hb dX13_feed_53 rfl (lv_at hl 5 rfl) ?_
  refine lv_goto (tgt := 71) hx hb dX13_feed_54 (by decide) ?_
  refine lv_istore (lv' := [(7, .int p3), (6, .int 10), (0, .ref (ad 0)), (1, .int p1), (2, .int p2), (3, .int p3), (4, .int p4), (5, .int p5)]) hx hb dX13_feed_71 hl (by decide) rfl (fun ls hl => ?_)
  refine lv_aload_n hx hb dX13_feed_73 rfl (lv_at hl 2 rfl) ?_
  refine va_get (D := (dC, dI)) (ci := 13) (v := .ref (ad 1)) (C := RX13) (T := TX13) (N := 104) hx hb hts (jh hin_RX13) hown hK hP 0 (jg_s (n := 79) (jn_s (jn_s (jn_s (jn_s (jn_s (jn_s (jn_s (jn_s (jn_s (jn_s (jn_s (jn_s (jn_s (jn_s (jn_s (jn_s (jn_s (jn_s (jn_s rfl))))))))))))))))))) (Nat.le_of_ble_eq_true rfl)) rfl 0 (by decide) (hts (.fieldLink RX13 9 "BookOfAllModel" "text" "[B") (jm m_1)) (fun _ h9 => h9) (jg_n (Nat.ne_of_beq_eq_false rfl) (jg_n (Nat.ne_of_beq_eq_false rfl) (jg_n (Nat.ne_of_beq_eq_false rfl) (jg_n (Nat.ne_of_beq_eq_false rfl) (jg_n (Nat.ne_of_beq_eq_false rfl) (jg_n (Nat.ne_of_beq_eq_false rfl) (jg_n (Nat.ne_of_beq_eq_false rfl) (jg_n (Nat.ne_of_beq_eq_false rfl) (jg_n (Nat.ne_of_beq_eq_false rfl) (jg_n (Nat.ne_of_beq_eq_false rfl) rfl)))))))))) dX13_feed_74 ?_
  refine lv_aload_n hx hb dX13_feed_77 rfl (lv_at hl 2 rfl) ?_
  refine va_get (D := (dC, dI)) (ci := 13) (v := .int 10) (C := RX13) (T := TX13) (N := 104) hx hb hts (jh hin_RX13) hown hK hP 0 (jg_s (n := 79) (jn_s (jn_s (jn_s (jn_s (jn_s (jn_s (jn_s (jn_s (jn_s (jn_s (jn_s (jn_s (jn_s (jn_s (jn_s (jn_s (jn_s (jn_s (jn_s rfl))))))))))))))))))) (Nat.le_of_ble_eq_true rfl)) rfl 1 (by decide) (hts (.fieldLink RX13 252 "BookOfAllModel" "size" "I") (jm m_492)) (fun _ h9 => h9) (jg_s (n := 104) (jn_s (jn_s (jn_s (jn_s (jn_s (jn_s (jn_s (jn_s (jn_s rfl))))))))) (Nat.le_of_ble_eq_true rfl)) dX13_feed_78 ?_
  refine lv_iload hx hb dX13_feed_81 (lv_at hl 0 rfl) ?_
  refine lv_bipush (v := 24) hx hb dX13_feed_83 (by decide) ?_
  refine lv_bipush (v := 8) hx hb dX13_feed_85 (by decide) ?_
  refine lv_iload hx hb dX13_feed_87 (lv_at hl 1 rfl) ?_
  refine lv_iconst (v := 4) hx hb dX13_feed_89 (by decide) ?_
  refine lv_irem hx hb dX13_feed_90 (by decide) ?_
  refine jt_i 2 (by decide) ?_
  refine lv_imul hx hb dX13_feed_91 ?_
  refine jt_i 16 (by decide) ?_
  refine lv_isub hx hb dX13_feed_92 ?_
  refine jt_i 8 (by decide) ?_
  refine lv_ishr hx hb dX13_feed_93 ?_
  refine lv_i2b (v := ((p3 >>> (8 &&& 31)).toInt8.toInt32)) hx hb dX13_feed_94 rfl ?_
  refine va_bast hx hb hK hP hD hS 1 0 (jg_n (Nat.ne_of_beq_eq_false rfl) (jg_s (n := 79) (jn_s (jn_s (jn_s (jn_s (jn_s (jn_s (jn_s (jn_s (jn_s (jn_s (jn_s (jn_s (jn_s (jn_s (jn_s (jn_s (jn_s (jn_s rfl)))))))))))))))))) (Nat.le_of_ble_eq_true rfl))) rfl (vp_in_nI (n := 10) (by decide) (by decide)) dX13_feed_95 (fun H locs hP hD hS => ?_)
  refine lv_aload_n hx hb dX13_feed_96 rfl (lv_at hl 2 rfl) ?_
  refine lv_dup hx hb dX13_feed_97 rfl ?_
  refine va_get (D := (dC, dI)) (ci := 13) (v := .int 10) (C := RX13) (T := TX13) (N := 104) hx hb hts (jh hin_RX13) hown hK hP 0 (jg_n (Nat.ne_of_beq_eq_false rfl) (jg_s (n := 79) (jn_s (jn_s (jn_s (jn_s (jn_s (jn_s (jn_s (jn_s (jn_s (jn_s (jn_s (jn_s (jn_s (jn_s (jn_s (jn_s (jn_s (jn_s (jn_s rfl))))))))))))))))))) (Nat.le_of_ble_eq_true rfl))) rfl 1 (by decide) (hts (.fieldLink RX13 252 "BookOfAllModel" "size" "I") (jm m_492)) (fun _ h9 => h9) (jg_s (n := 104) (jn_s (jn_s (jn_s (jn_s (jn_s (jn_s (jn_s (jn_s (jn_s rfl))))))))) (Nat.le_of_ble_eq_true rfl)) dX13_feed_98 ?_
  refine lv_iconst (v := 1) hx hb dX13_feed_101 (by decide) ?_
  refine lv_iadd hx hb dX13_feed_102 ?_
  refine jt_i 11 (by decide) ?_
  refine va_put (D := (dC, dI)) (ci := 13) (v := .int 11) (ty := .int) (C := RX13) (T := TX13) (N := 104) hx hb hts (jh hin_RX13) tyX13 tyX13_ok nmX13 hown hK hP hD hS 0 (jg_n (Nat.ne_of_beq_eq_false rfl) (jg_s (n := 79) (jn_s (jn_s (jn_s (jn_s (jn_s (jn_s (jn_s (jn_s (jn_s (jn_s (jn_s (jn_s (jn_s (jn_s (jn_s (jn_s (jn_s (jn_s (jn_s rfl))))))))))))))))))) (Nat.le_of_ble_eq_true rfl))) rfl 1 (by decide) (hts (.fieldLink RX13 252 "BookOfAllModel" "size" "I") (jm m_492)) (fun _ h9 => h9) rfl (by decide +kernel) rfl rfl (jn_lt (n := 104) (jn_s (jn_s (jn_s (jn_s (jn_s (jn_s (jn_s (jn_s (jn_s (jn_s rfl)))))))))) (Nat.le_of_ble_eq_true rfl)) dX13_feed_103 (fun H locs hP hD hS => ?_)
  refine lv_iinc (v := 11) (lv' := [(6, .int 11), (7, .int p3), (0, .ref (ad 0)), (1, .int p1), (2, .int p2), (3, .int p3), (4, .int p4), (5, .int p5)]) hx hb dX13_feed_106 hl (k := 1) rfl (by decide) (by decide) rfl (fun ls hl => ?_)
  refine lv_goto (tgt := 18) hx hb dX13_feed_109 (by decide) ?_
  refine lv_iload hx hb dX13_feed_18 (lv_at hl 0 rfl) ?_
  refine lv_bipush (v := 20) hx hb dX13_feed_20 (by decide) ?_
  refine lv_icmp_ge (tgt := 112) hx hb dX13_feed_22 (by decide) (fun z => absurd z (by decide)) (fun _ => ?_)
  refine lv_iload hx hb dX13_feed_25 (lv_at hl 0 rfl) ?_
  refine lv_iconst (v := 4) hx hb dX13_feed_27 (by decide) ?_
  refine lv_icmp_ge (tgt := 35) hx hb dX13_feed_28 (by decide) (fun _ => ?_) (fun z => absurd (by decide) z)
  refine lv_iload hx hb dX13_feed_35 (lv_at hl 0 rfl) ?_
  refine lv_bipush (v := 8) hx hb dX13_feed_37 (by decide) ?_
  refine lv_icmp_ge (tgt := 46) hx hb dX13_feed_39 (by decide) (fun _ => ?_) (fun z => absurd (by decide) z)
  refine lv_iload hx hb dX13_feed_46 (lv_at hl 0 rfl) ?_
  refine lv_bipush (v := 12) hx hb dX13_feed_48 (by decide) ?_
  refine lv_icmp_ge (tgt := 57) hx hb dX13_feed_50 (by decide) (fun z => absurd z (by decide)) (fun _ => ?_)
  refine lv_iload_n hx hb dX13_feed_53 rfl (lv_at hl 5 rfl) ?_
  refine lv_goto (tgt := 71) hx hb dX13_feed_54 (by decide) ?_
  refine lv_istore (lv' := [(7, .int p3), (6, .int 11), (0, .ref (ad 0)), (1, .int p1), (2, .int p2), (3, .int p3), (4, .int p4), (5, .int p5)]) hx hb dX13_feed_71 hl (by decide) rfl (fun ls hl => ?_)
  refine lv_aload_n hx hb dX13_feed_73 rfl (lv_at hl 2 rfl) ?_
  refine va_get (D := (dC, dI)) (ci := 13) (v := .ref (ad 1)) (C := RX13) (T := TX13) (N := 104) hx hb hts (jh hin_RX13) hown hK hP 0 (jg_s (n := 79) (jn_s (jn_s (jn_s (jn_s (jn_s (jn_s (jn_s (jn_s (jn_s (jn_s (jn_s (jn_s (jn_s (jn_s (jn_s (jn_s (jn_s (jn_s (jn_s (jn_s (jn_s rfl))))))))))))))))))))) (Nat.le_of_ble_eq_true rfl)) rfl 0 (by decide) (hts (.fieldLink RX13 9 "BookOfAllModel" "text" "[B") (jm m_1)) (fun _ h9 => h9) (jg_n (Nat.ne_of_beq_eq_false rfl) (jg_n (Nat.ne_of_beq_eq_false rfl) (jg_n (Nat.ne_of_beq_eq_false rfl) (jg_n (Nat.ne_of_beq_eq_false rfl) (jg_n (Nat.ne_of_beq_eq_false rfl) (jg_n (Nat.ne_of_beq_eq_false rfl) (jg_n (Nat.ne_of_beq_eq_false rfl) (jg_n (Nat.ne_of_beq_eq_false rfl) (jg_n (Nat.ne_of_beq_eq_false rfl) (jg_n (Nat.ne_of_beq_eq_false rfl) (jg_n (Nat.ne_of_beq_eq_false rfl) rfl))))))))))) dX13_feed_74 ?_
  refine lv_aload_n hx hb dX13_feed_77 rfl (lv_at hl 2 rfl) ?_
  refine va_get (D := (dC, dI)) (ci := 13) (v := .int 11) (C := RX13) (T := TX13) (N := 104) hx hb hts (jh hin_RX13) hown hK hP 0 (jg_s (n := 79) (jn_s (jn_s (jn_s (jn_s (jn_s (jn_s (jn_s (jn_s (jn_s (jn_s (jn_s (jn_s (jn_s (jn_s (jn_s (jn_s (jn_s (jn_s (jn_s (jn_s (jn_s rfl))))))))))))))))))))) (Nat.le_of_ble_eq_true rfl)) rfl 1 (by decide) (hts (.fieldLink RX13 252 "BookOfAllModel" "size" "I") (jm m_492)) (fun _ h9 => h9) (jg_s (n := 104) (jn_s (jn_s (jn_s (jn_s (jn_s (jn_s (jn_s (jn_s (jn_s (jn_s rfl)))))))))) (Nat.le_of_ble_eq_true rfl)) dX13_feed_78 ?_
  refine lv_iload hx hb dX13_feed_81 (lv_at hl 0 rfl) ?_
  refine lv_bipush (v := 24) hx hb dX13_feed_83 (by decide) ?_
  refine lv_bipush (v := 8) hx hb dX13_feed_85 (by decide) ?_
  refine lv_iload hx hb dX13_feed_87 (lv_at hl 1 rfl) ?_
  refine lv_iconst (v := 4) hx hb dX13_feed_89 (by decide) ?_
  refine lv_irem hx hb dX13_feed_90 (by decide) ?_
  refine jt_i 3 (by decide) ?_
  refine lv_imul hx hb dX13_feed_91 ?_
  refine jt_i 24 (by decide) ?_
  refine lv_isub hx hb dX13_feed_92 ?_
  refine jt_i 0 (by decide) ?_
  refine lv_ishr hx hb dX13_feed_93 ?_
  refine lv_i2b (v := ((p3 >>> (0 &&& 31)).toInt8.toInt32)) hx hb dX13_feed_94 rfl ?_
  refine va_bast hx hb hK hP hD hS 1 0 (jg_n (Nat.ne_of_beq_eq_false rfl) (jg_s (n := 79) (jn_s (jn_s (jn_s (jn_s (jn_s (jn_s (jn_s (jn_s (jn_s (jn_s (jn_s (jn_s (jn_s (jn_s (jn_s (jn_s (jn_s (jn_s (jn_s (jn_s rfl)))))))))))))))))))) (Nat.le_of_ble_eq_true rfl))) rfl (vp_in_nI (n := 11) (by decide) (by decide)) dX13_feed_95 (fun H locs hP hD hS => ?_)
  refine lv_aload_n hx hb dX13_feed_96 rfl (lv_at hl 2 rfl) ?_
  refine lv_dup hx hb dX13_feed_97 rfl ?_
  refine va_get (D := (dC, dI)) (ci := 13) (v := .int 11) (C := RX13) (T := TX13) (N := 104) hx hb hts (jh hin_RX13) hown hK hP 0 (jg_n (Nat.ne_of_beq_eq_false rfl) (jg_s (n := 79) (jn_s (jn_s (jn_s (jn_s (jn_s (jn_s (jn_s (jn_s (jn_s (jn_s (jn_s (jn_s (jn_s (jn_s (jn_s (jn_s (jn_s (jn_s (jn_s (jn_s (jn_s rfl))))))))))))))))))))) (Nat.le_of_ble_eq_true rfl))) rfl 1 (by decide) (hts (.fieldLink RX13 252 "BookOfAllModel" "size" "I") (jm m_492)) (fun _ h9 => h9) (jg_s (n := 104) (jn_s (jn_s (jn_s (jn_s (jn_s (jn_s (jn_s (jn_s (jn_s (jn_s rfl)))))))))) (Nat.le_of_ble_eq_true rfl)) dX13_feed_98 ?_
  refine lv_iconst (v := 1) hx hb dX13_feed_101 (by decide) ?_
  refine lv_iadd hx hb dX13_feed_102 ?_
  refine jt_i 12 (by decide) ?_
  refine va_put (D := (dC, dI)) (ci := 13) (v := .int 12) (ty := .int) (C := RX13) (T := TX13) (N := 104) hx hb hts (jh hin_RX13) tyX13 tyX13_ok nmX13 hown hK hP hD hS 0 (jg_n (Nat.ne_of_beq_eq_false rfl) (jg_s (n := 79) (jn_s (jn_s (jn_s (jn_s (jn_s (jn_s (jn_s (jn_s (jn_s (jn_s (jn_s (jn_s (jn_s (jn_s (jn_s (jn_s (jn_s (jn_s (jn_s (jn_s (jn_s rfl))))))))))))))))))))) (Nat.le_of_ble_eq_true rfl))) rfl 1 (by decide) (hts (.fieldLink RX13 252 "BookOfAllModel" "size" "I") (jm m_492)) (fun _ h9 => h9) rfl (by decide +kernel) rfl rfl (jn_lt (n := 104) (jn_s (jn_s (jn_s (jn_s (jn_s (jn_s (jn_s (jn_s (jn_s (jn_s (jn_s rfl))))))))))) (Nat.le_of_ble_eq_true rfl)) dX13_feed_103 (fun H locs hP hD hS => ?_)
  refine lv_iinc (v := 12) (lv' := [(6, .int 12), (7, .int p3), (0, .ref (ad 0)), (1, .int p1), (2, .int p2), (3, .int p3), (4, .int p4), (5, .int p5)]) hx hb dX13_feed_106 hl (k := 1) rfl (by decide) (by decide) rfl (fun ls hl => ?_)
  refine lv_goto (tgt := 18) hx hb dX13_feed_109 (by decide) ?_
  refine lv_iload hx hb dX13_feed_18 (lv_at hl 0 rfl) ?_
  refine lv_bipush (v := 20) hx hb dX13_feed_20 (by decide) ?_
  refine lv_icmp_ge (tgt := 112) hx hb dX13_feed_22 (by decide) (fun z => absurd z (by decide)) (fun _ => ?_)
  refine lv_iload hx hb dX13_feed_25 (lv_at hl 0 rfl) ?_
  refine lv_iconst (v := 4) hx hb dX13_feed_27 (by decide) ?_
  refine lv_icmp_ge (tgt := 35) hx hb dX13_feed_28 (by decide) (fun _ => ?_) (fun z => absurd (by decide) z)
  refine lv_iload hx hb dX13_feed_35 (lv_at hl 0 rfl) ?_
  refine lv_bipush (v := 8) hx hb dX13_feed_37 (by decide) ?_
  refine lv_icmp_ge (tgt := 46) hx hb dX13_feed_39 (by decide) (fun _ => ?_) (fun z => absurd (by decide) z)
  refine lv_iload hx hb dX13_feed_46 (lv_at hl 0 rfl) ?_
  refine lv_bipush (v := 12) hx hb dX13_feed_48 (by decide) ?_
  refine lv_icmp_ge (tgt := 57) hx hb dX13_feed_50 (by decide) (fun _ => ?_) (fun z => absurd (by decide) z)
  refine lv_iload hx hb dX13_feed_57 (lv_at hl 0 rfl) ?_
  refine lv_bipush (v := 16) hx hb dX13_feed_59 (by decide) ?_
  refine lv_icmp_ge (tgt := 69) hx hb dX13_feed_61 (by decide) (fun z => absurd z (by decide)) (fun _ => ?_)
  refine lv_iload hx hb dX13_feed_64 (lv_at hl 6 rfl) ?_
  refine lv_goto (tgt := 71) hx hb dX13_feed_66 (by decide) ?_
  refine lv_istore (lv' := [(7, .int p4), (6, .int 12), (0, .ref (ad 0)), (1, .int p1), (2, .int p2), (3, .int p3), (4, .int p4), (5, .int p5)]) hx hb dX13_feed_71 hl (by decide) rfl (fun ls hl => ?_)
  refine lv_aload_n hx hb dX13_feed_73 rfl (lv_at hl 2 rfl) ?_
  refine va_get (D := (dC, dI)) (ci := 13) (v := .ref (ad 1)) (C := RX13) (T := TX13) (N := 104) hx hb hts (jh hin_RX13) hown hK hP 0 (jg_s (n := 79) (jn_s (jn_s (jn_s (jn_s (jn_s (jn_s (jn_s (jn_s (jn_s (jn_s (jn_s (jn_s (jn_s (jn_s (jn_s (jn_s (jn_s (jn_s (jn_s (jn_s (jn_s (jn_s (jn_s rfl))))))))))))))))))))))) (Nat.le_of_ble_eq_true rfl)) rfl 0 (by decide) (hts (.fieldLink RX13 9 "BookOfAllModel" "text" "[B") (jm m_1)) (fun _ h9 => h9) (jg_n (Nat.ne_of_beq_eq_false rfl) (jg_n (Nat.ne_of_beq_eq_false rfl) (jg_n (Nat.ne_of_beq_eq_false rfl) (jg_n (Nat.ne_of_beq_eq_false rfl) (jg_n (Nat.ne_of_beq_eq_false rfl) (jg_n (Nat.ne_of_beq_eq_false rfl) (jg_n (Nat.ne_of_beq_eq_false rfl) (jg_n (Nat.ne_of_beq_eq_false rfl) (jg_n (Nat.ne_of_beq_eq_false rfl) (jg_n (Nat.ne_of_beq_eq_false rfl) (jg_n (Nat.ne_of_beq_eq_false rfl) (jg_n (Nat.ne_of_beq_eq_false rfl) rfl)))))))))))) dX13_feed_74 ?_
  refine lv_aload_n hx hb dX13_feed_77 rfl (lv_at hl 2 rfl) ?_
  refine va_get (D := (dC, dI)) (ci := 13) (v := .int 12) (C := RX13) (T := TX13) (N := 104) hx hb hts (jh hin_RX13) hown hK hP 0 (jg_s (n := 79) (jn_s (jn_s (jn_s (jn_s (jn_s (jn_s (jn_s (jn_s (jn_s (jn_s (jn_s (jn_s (jn_s (jn_s (jn_s (jn_s (jn_s (jn_s (jn_s (jn_s (jn_s (jn_s (jn_s rfl))))))))))))))))))))))) (Nat.le_of_ble_eq_true rfl)) rfl 1 (by decide) (hts (.fieldLink RX13 252 "BookOfAllModel" "size" "I") (jm m_492)) (fun _ h9 => h9) (jg_s (n := 104) (jn_s (jn_s (jn_s (jn_s (jn_s (jn_s (jn_s (jn_s (jn_s (jn_s (jn_s rfl))))))))))) (Nat.le_of_ble_eq_true rfl)) dX13_feed_78 ?_
  refine lv_iload hx hb dX13_feed_81 (lv_at hl 0 rfl) ?_
  refine lv_bipush (v := 24) hx hb dX13_feed_83 (by decide) ?_
  refine lv_bipush (v := 8) hx hb dX13_feed_85 (by decide) ?_
  refine lv_iload hx hb dX13_feed_87 (lv_at hl 1 rfl) ?_
  refine lv_iconst (v := 4) hx hb dX13_feed_89 (by decide) ?_
  refine lv_irem hx hb dX13_feed_90 (by decide) ?_
  refine jt_i 0 (by decide) ?_
  refine lv_imul hx hb dX13_feed_91 ?_
  refine jt_i 0 (by decide) ?_
  refine lv_isub hx hb dX13_feed_92 ?_
  refine jt_i 24 (by decide) ?_
  refine lv_ishr hx hb dX13_feed_93 ?_
  refine lv_i2b (v := ((p4 >>> (24 &&& 31)).toInt8.toInt32)) hx hb dX13_feed_94 rfl ?_
  refine va_bast hx hb hK hP hD hS 1 0 (jg_n (Nat.ne_of_beq_eq_false rfl) (jg_s (n := 79) (jn_s (jn_s (jn_s (jn_s (jn_s (jn_s (jn_s (jn_s (jn_s (jn_s (jn_s (jn_s (jn_s (jn_s (jn_s (jn_s (jn_s (jn_s (jn_s (jn_s (jn_s (jn_s rfl)))))))))))))))))))))) (Nat.le_of_ble_eq_true rfl))) rfl (vp_in_nI (n := 12) (by decide) (by decide)) dX13_feed_95 (fun H locs hP hD hS => ?_)
  refine lv_aload_n hx hb dX13_feed_96 rfl (lv_at hl 2 rfl) ?_
  refine lv_dup hx hb dX13_feed_97 rfl ?_
  refine va_get (D := (dC, dI)) (ci := 13) (v := .int 12) (C := RX13) (T := TX13) (N := 104) hx hb hts (jh hin_RX13) hown hK hP 0 (jg_n (Nat.ne_of_beq_eq_false rfl) (jg_s (n := 79) (jn_s (jn_s (jn_s (jn_s (jn_s (jn_s (jn_s (jn_s (jn_s (jn_s (jn_s (jn_s (jn_s (jn_s (jn_s (jn_s (jn_s (jn_s (jn_s (jn_s (jn_s (jn_s (jn_s rfl))))))))))))))))))))))) (Nat.le_of_ble_eq_true rfl))) rfl 1 (by decide) (hts (.fieldLink RX13 252 "BookOfAllModel" "size" "I") (jm m_492)) (fun _ h9 => h9) (jg_s (n := 104) (jn_s (jn_s (jn_s (jn_s (jn_s (jn_s (jn_s (jn_s (jn_s (jn_s (jn_s rfl))))))))))) (Nat.le_of_ble_eq_true rfl)) dX13_feed_98 ?_
  refine lv_iconst (v := 1) hx hb dX13_feed_101 (by decide) ?_
  refine lv_iadd hx hb dX13_feed_102 ?_
  refine jt_i 13 (by decide) ?_
  refine va_put (D := (dC, dI)) (ci := 13) (v := .int 13) (ty := .int) (C := RX13) (T := TX13) (N := 104) hx hb hts (jh hin_RX13) tyX13 tyX13_ok nmX13 hown hK hP hD hS 0 (jg_n (Nat.ne_of_beq_eq_false rfl) (jg_s (n := 79) (jn_s (jn_s (jn_s (jn_s (jn_s (jn_s (jn_s (jn_s (jn_s (jn_s (jn_s (jn_s (jn_s (jn_s (jn_s (jn_s (jn_s (jn_s (jn_s (jn_s (jn_s (jn_s (jn_s rfl))))))))))))))))))))))) (Nat.le_of_ble_eq_true rfl))) rfl 1 (by decide) (hts (.fieldLink RX13 252 "BookOfAllModel" "size" "I") (jm m_492)) (fun _ h9 => h9) rfl (by decide +kernel) rfl rfl (jn_lt (n := 104) (jn_s (jn_s (jn_s (jn_s (jn_s (jn_s (jn_s (jn_s (jn_s (jn_s (jn_s (jn_s rfl)))))))))))) (Nat.le_of_ble_eq_true rfl)) dX13_feed_103 (fun H locs hP hD hS => ?_)
  refine lv_iinc (v := 13) (lv' := [(6, .int 13), (7, .int p4), (0, .ref (ad 0)), (1, .int p1), (2, .int p2), (3, .int p3), (4, .int p4), (5, .int p5)]) hx hb dX13_feed_106 hl (k := 1) rfl (by decide) (by decide) rfl (fun ls hl => ?_)
  refine lv_goto (tgt := 18) hx hb dX13_feed_109 (by decide) ?_
  refine lv_iload hx hb dX13_feed_18 (lv_at hl 0 rfl) ?_
  refine lv_bipush (v := 20) hx hb dX13_feed_20 (by decide) ?_
  refine lv_icmp_ge (tgt := 112) hx hb dX13_feed_22 (by decide) (fun z => absurd z (by decide)) (fun _ => ?_)
  refine lv_iload hx hb dX13_feed_25 (lv_at hl 0 rfl) ?_
  refine lv_iconst (v := 4) hx hb dX13_feed_27 (by decide) ?_
  refine lv_icmp_ge (tgt := 35) hx hb dX13_feed_28 (by decide) (fun _ => ?_) (fun z => absurd (by decide) z)
  refine lv_iload hx hb dX13_feed_35 (lv_at hl 0 rfl) ?_
  refine lv_bipush (v := 8) hx hb dX13_feed_37 (by decide) ?_
  refine lv_icmp_ge (tgt := 46) hx hb dX13_feed_39 (by decide) (fun _ => ?_) (fun z => absurd (by decide) z)
  refine lv_iload hx hb dX13_feed_46 (lv_at hl 0 rfl) ?_
  refine lv_bipush (v := 12) hx hb dX13_feed_48 (by decide) ?_
  refine lv_icmp_ge (tgt := 57) hx hb dX13_feed_50 (by decide) (fun _ => ?_) (fun z => absurd (by decide) z)
  refine lv_iload hx hb dX13_feed_57 (lv_at hl 0 rfl) ?_
  refine lv_bipush (v := 16) hx hb dX13_feed_59 (by decide) ?_
  refine lv_icmp_ge (tgt := 69) hx hb dX13_feed_61 (by decide) (fun z => absurd z (by decide)) (fun _ => ?_)
  refine lv_iload hx hb dX13_feed_64 (lv_at hl 6 rfl) ?_
  refine lv_goto (tgt := 71) hx hb dX13_feed_66 (by decide) ?_
  refine lv_istore (lv' := [(7, .int p4), (6, .int 13), (0, .ref (ad 0)), (1, .int p1), (2, .int p2), (3, .int p3), (4, .int p4), (5, .int p5)]) hx hb dX13_feed_71 hl (by decide) rfl (fun ls hl => ?_)
  refine lv_aload_n hx hb dX13_feed_73 rfl (lv_at hl 2 rfl) ?_
  refine va_get (D := (dC, dI)) (ci := 13) (v := .ref (ad 1)) (C := RX13) (T := TX13) (N := 104) hx hb hts (jh hin_RX13) hown hK hP 0 (jg_s (n := 79) (jn_s (jn_s (jn_s (jn_s (jn_s (jn_s (jn_s (jn_s (jn_s (jn_s (jn_s (jn_s (jn_s (jn_s (jn_s (jn_s (jn_s (jn_s (jn_s (jn_s (jn_s (jn_s (jn_s (jn_s (jn_s rfl))))))))))))))))))))))))) (Nat.le_of_ble_eq_true rfl)) rfl 0 (by decide) (hts (.fieldLink RX13 9 "BookOfAllModel" "text" "[B") (jm m_1)) (fun _ h9 => h9) (jg_n (Nat.ne_of_beq_eq_false rfl) (jg_n (Nat.ne_of_beq_eq_false rfl) (jg_n (Nat.ne_of_beq_eq_false rfl) (jg_n (Nat.ne_of_beq_eq_false rfl) (jg_n (Nat.ne_of_beq_eq_false rfl) (jg_n (Nat.ne_of_beq_eq_false rfl) (jg_n (Nat.ne_of_beq_eq_false rfl) (jg_n (Nat.ne_of_beq_eq_false rfl) (jg_n (Nat.ne_of_beq_eq_false rfl) (jg_n (Nat.ne_of_beq_eq_false rfl) (jg_n (Nat.ne_of_beq_eq_false rfl) (jg_n (Nat.ne_of_beq_eq_false rfl) (jg_n (Nat.ne_of_beq_eq_false rfl) rfl))))))))))))) dX13_feed_74 ?_
  refine lv_aload_n hx hb dX13_feed_77 rfl (lv_at hl 2 rfl) ?_
  refine va_get (D := (dC, dI)) (ci := 13) (v := .int 13) (C := RX13) (T := TX13) (N := 104) hx hb hts (jh hin_RX13) hown hK hP 0 (jg_s (n := 79) (jn_s (jn_s (jn_s (jn_s (jn_s (jn_s (jn_s (jn_s (jn_s (jn_s (jn_s (jn_s (jn_s (jn_s (jn_s (jn_s (jn_s (jn_s (jn_s (jn_s (jn_s (jn_s (jn_s (jn_s (jn_s rfl))))))))))))))))))))))))) (Nat.le_of_ble_eq_true rfl)) rfl 1 (by decide) (hts (.fieldLink RX13 252 "BookOfAllModel" "size" "I") (jm m_492)) (fun _ h9 => h9) (jg_s (n := 104) (jn_s (jn_s (jn_s (jn_s (jn_s (jn_s (jn_s (jn_s (jn_s (jn_s (jn_s (jn_s rfl)))))))))))) (Nat.le_of_ble_eq_true rfl)) dX13_feed_78 ?_
  refine lv_iload hx hb dX13_feed_81 (lv_at hl 0 rfl) ?_
  refine lv_bipush (v := 24) hx hb dX13_feed_83 (by decide) ?_
  refine lv_bipush (v := 8) hx hb dX13_feed_85 (by decide) ?_
  refine lv_iload hx hb dX13_feed_87 (lv_at hl 1 rfl) ?_
  refine lv_iconst (v := 4) hx hb dX13_feed_89 (by decide) ?_
  refine lv_irem hx hb dX13_feed_90 (by decide) ?_
  refine jt_i 1 (by decide) ?_
  refine lv_imul hx hb dX13_feed_91 ?_
  refine jt_i 8 (by decide) ?_
  refine lv_isub hx hb dX13_feed_92 ?_
  refine jt_i 16 (by decide) ?_
  refine lv_ishr hx hb dX13_feed_93 ?_
  refine lv_i2b (v := ((p4 >>> (16 &&& 31)).toInt8.toInt32)) hx hb dX13_feed_94 rfl ?_
  refine va_bast hx hb hK hP hD hS 1 0 (jg_n (Nat.ne_of_beq_eq_false rfl) (jg_s (n := 79) (jn_s (jn_s (jn_s (jn_s (jn_s (jn_s (jn_s (jn_s (jn_s (jn_s (jn_s (jn_s (jn_s (jn_s (jn_s (jn_s (jn_s (jn_s (jn_s (jn_s (jn_s (jn_s (jn_s (jn_s rfl)))))))))))))))))))))))) (Nat.le_of_ble_eq_true rfl))) rfl (vp_in_nI (n := 13) (by decide) (by decide)) dX13_feed_95 (fun H locs hP hD hS => ?_)
  refine lv_aload_n hx hb dX13_feed_96 rfl (lv_at hl 2 rfl) ?_
  refine lv_dup hx hb dX13_feed_97 rfl ?_
  refine va_get (D := (dC, dI)) (ci := 13) (v := .int 13) (C := RX13) (T := TX13) (N := 104) hx hb hts (jh hin_RX13) hown hK hP 0 (jg_n (Nat.ne_of_beq_eq_false rfl) (jg_s (n := 79) (jn_s (jn_s (jn_s (jn_s (jn_s (jn_s (jn_s (jn_s (jn_s (jn_s (jn_s (jn_s (jn_s (jn_s (jn_s (jn_s (jn_s (jn_s (jn_s (jn_s (jn_s (jn_s (jn_s (jn_s (jn_s rfl))))))))))))))))))))))))) (Nat.le_of_ble_eq_true rfl))) rfl 1 (by decide) (hts (.fieldLink RX13 252 "BookOfAllModel" "size" "I") (jm m_492)) (fun _ h9 => h9) (jg_s (n := 104) (jn_s (jn_s (jn_s (jn_s (jn_s (jn_s (jn_s (jn_s (jn_s (jn_s (jn_s (jn_s rfl)))))))))))) (Nat.le_of_ble_eq_true rfl)) dX13_feed_98 ?_
  refine lv_iconst (v := 1) hx hb dX13_feed_101 (by decide) ?_
  refine lv_iadd hx hb dX13_feed_102 ?_
  refine jt_i 14 (by decide) ?_
  refine va_put (D := (dC, dI)) (ci := 13) (v := .int 14) (ty := .int) (C := RX13) (T := TX13) (N := 104) hx hb hts (jh hin_RX13) tyX13 tyX13_ok nmX13 hown hK hP hD hS 0 (jg_n (Nat.ne_of_beq_eq_false rfl) (jg_s (n := 79) (jn_s (jn_s (jn_s (jn_s (jn_s (jn_s (jn_s (jn_s (jn_s (jn_s (jn_s (jn_s (jn_s (jn_s (jn_s (jn_s (jn_s (jn_s (jn_s (jn_s (jn_s (jn_s (jn_s (jn_s (jn_s rfl))))))))))))))))))))))))) (Nat.le_of_ble_eq_true rfl))) rfl 1 (by decide) (hts (.fieldLink RX13 252 "BookOfAllModel" "size" "I") (jm m_492)) (fun _ h9 => h9) rfl (by decide +kernel) rfl rfl (jn_lt (n := 104) (jn_s (jn_s (jn_s (jn_s (jn_s (jn_s (jn_s (jn_s (jn_s (jn_s (jn_s (jn_s (jn_s rfl))))))))))))) (Nat.le_of_ble_eq_true rfl)) dX13_feed_103 (fun H locs hP hD hS => ?_)
  refine lv_iinc (v := 14) (lv' := [(6, .int 14), (7, .int p4), (0, .ref (ad 0)), (1, .int p1), (2, .int p2), (3, .int p3), (4, .int p4), (5, .int p5)]) hx hb dX13_feed_106 hl (k := 1) rfl (by decide) (by decide) rfl (fun ls hl => ?_)
  refine lv_goto (tgt := 18) hx hb dX13_feed_109 (by decide) ?_
  refine lv_iload hx hb dX13_feed_18 (lv_at hl 0 rfl) ?_
  refine lv_bipush (v := 20) hx hb dX13_feed_20 (by decide) ?_
  refine lv_icmp_ge (tgt := 112) hx hb dX13_feed_22 (by decide) (fun z => absurd z (by decide)) (fun _ => ?_)
  refine lv_iload hx hb dX13_feed_25 (lv_at hl 0 rfl) ?_
  refine lv_iconst (v := 4) hx hb dX13_feed_27 (by decide) ?_
  refine lv_icmp_ge (tgt := 35) hx hb dX13_feed_28 (by decide) (fun _ => ?_) (fun z => absurd (by decide) z)
  refine lv_iload hx hb dX13_feed_35 (lv_at hl 0 rfl) ?_
  refine lv_bipush (v := 8) hx hb dX13_feed_37 (by decide) ?_
  refine lv_icmp_ge (tgt := 46) hx hb dX13_feed_39 (by decide) (fun _ => ?_) (fun z => absurd (by decide) z)
  refine lv_iload hx hb dX13_feed_46 (lv_at hl 0 rfl) ?_
  refine lv_bipush (v := 12) hx hb dX13_feed_48 (by decide) ?_
  refine lv_icmp_ge (tgt := 57) hx hb dX13_feed_50 (by decide) (fun _ => ?_) (fun z => absurd (by decide) z)
  refine lv_iload hx hb dX13_feed_57 (lv_at hl 0 rfl) ?_
  refine lv_bipush (v := 16) hx hb dX13_feed_59 (by decide) ?_
  refine lv_icmp_ge (tgt := 69) hx hb dX13_feed_61 (by decide) (fun z => absurd z (by decide)) (fun _ => ?_)
  refine lv_iload hx hb dX13_feed_64 (lv_at hl 6 rfl) ?_
  refine lv_goto (tgt := 71) hx hb dX13_feed_66 (by decide) ?_
  refine lv_istore (lv' := [(7, .int p4), (6, .int 14), (0, .ref (ad 0)), (1, .int p1), (2, .int p2), (3, .int p3), (4, .int p4), (5, .int p5)]) hx hb dX13_feed_71 hl (by decide) rfl (fun ls hl => ?_)
  refine lv_aload_n hx hb dX13_feed_73 rfl (lv_at hl 2 rfl) ?_
  refine va_get (D := (dC, dI)) (ci := 13) (v := .ref (ad 1)) (C := RX13) (T := TX13) (N := 104) hx hb hts (jh hin_RX13) hown hK hP 0 (jg_s (n := 79) (jn_s (jn_s (jn_s (jn_s (jn_s (jn_s (jn_s (jn_s (jn_s (jn_s (jn_s (jn_s (jn_s (jn_s (jn_s (jn_s (jn_s (jn_s (jn_s (jn_s (jn_s (jn_s (jn_s (jn_s (jn_s (jn_s (jn_s rfl))))))))))))))))))))))))))) (Nat.le_of_ble_eq_true rfl)) rfl 0 (by decide) (hts (.fieldLink RX13 9 "BookOfAllModel" "text" "[B") (jm m_1)) (fun _ h9 => h9) (jg_n (Nat.ne_of_beq_eq_false rfl) (jg_n (Nat.ne_of_beq_eq_false rfl) (jg_n (Nat.ne_of_beq_eq_false rfl) (jg_n (Nat.ne_of_beq_eq_false rfl) (jg_n (Nat.ne_of_beq_eq_false rfl) (jg_n (Nat.ne_of_beq_eq_false rfl) (jg_n (Nat.ne_of_beq_eq_false rfl) (jg_n (Nat.ne_of_beq_eq_false rfl) (jg_n (Nat.ne_of_beq_eq_false rfl) (jg_n (Nat.ne_of_beq_eq_false rfl) (jg_n (Nat.ne_of_beq_eq_false rfl) (jg_n (Nat.ne_of_beq_eq_false rfl) (jg_n (Nat.ne_of_beq_eq_false rfl) (jg_n (Nat.ne_of_beq_eq_false rfl) rfl)))))))))))))) dX13_feed_74 ?_
  refine lv_aload_n hx hb dX13_feed_77 rfl (lv_at hl 2 rfl) ?_
  refine va_get (D := (dC, dI)) (ci := 13) (v := .int 14) (C := RX13) (T := TX13) (N := 104) hx hb hts (jh hin_RX13) hown hK hP 0 (jg_s (n := 79) (jn_s (jn_s (jn_s (jn_s (jn_s (jn_s (jn_s (jn_s (jn_s (jn_s (jn_s (jn_s (jn_s (jn_s (jn_s (jn_s (jn_s (jn_s (jn_s (jn_s (jn_s (jn_s (jn_s (jn_s (jn_s (jn_s (jn_s rfl))))))))))))))))))))))))))) (Nat.le_of_ble_eq_true rfl)) rfl 1 (by decide) (hts (.fieldLink RX13 252 "BookOfAllModel" "size" "I") (jm m_492)) (fun _ h9 => h9) (jg_s (n := 104) (jn_s (jn_s (jn_s (jn_s (jn_s (jn_s (jn_s (jn_s (jn_s (jn_s (jn_s (jn_s (jn_s rfl))))))))))))) (Nat.le_of_ble_eq_true rfl)) dX13_feed_78 ?_
  refine lv_iload hx hb dX13_feed_81 (lv_at hl 0 rfl) ?_
  refine lv_bipush (v := 24) hx hb dX13_feed_83 (by decide) ?_
  refine lv_bipush (v := 8) hx hb dX13_feed_85 (by decide) ?_
  refine lv_iload hx hb dX13_feed_87 (lv_at hl 1 rfl) ?_
  refine lv_iconst (v := 4) hx hb dX13_feed_89 (by decide) ?_
  refine lv_irem hx hb dX13_feed_90 (by decide) ?_
  refine jt_i 2 (by decide) ?_
  refine lv_imul hx hb dX13_feed_91 ?_
  refine jt_i 16 (by decide) ?_
  refine lv_isub hx hb dX13_feed_92 ?_
  refine jt_i 8 (by decide) ?_
  refine lv_ishr hx hb dX13_feed_93 ?_
  refine lv_i2b (v := ((p4 >>> (8 &&& 31)).toInt8.toInt32)) hx hb dX13_feed_94 rfl ?_
  refine va_bast hx hb hK hP hD hS 1 0 (jg_n (Nat.ne_of_beq_eq_false rfl) (jg_s (n := 79) (jn_s (jn_s (jn_s (jn_s (jn_s (jn_s (jn_s (jn_s (jn_s (jn_s (jn_s (jn_s (jn_s (jn_s (jn_s (jn_s (jn_s (jn_s (jn_s (jn_s (jn_s (jn_s (jn_s (jn_s (jn_s (jn_s rfl)))))))))))))))))))))))))) (Nat.le_of_ble_eq_true rfl))) rfl (vp_in_nI (n := 14) (by decide) (by decide)) dX13_feed_95 (fun H locs hP hD hS => ?_)
  refine lv_aload_n hx hb dX13_feed_96 rfl (lv_at hl 2 rfl) ?_
  refine lv_dup hx hb dX13_feed_97 rfl ?_
  refine va_get (D := (dC, dI)) (ci := 13) (v := .int 14) (C := RX13) (T := TX13) (N := 104) hx hb hts (jh hin_RX13) hown hK hP 0 (jg_n (Nat.ne_of_beq_eq_false rfl) (jg_s (n := 79) (jn_s (jn_s (jn_s (jn_s (jn_s (jn_s (jn_s (jn_s (jn_s (jn_s (jn_s (jn_s (jn_s (jn_s (jn_s (jn_s (jn_s (jn_s (jn_s (jn_s (jn_s (jn_s (jn_s (jn_s (jn_s (jn_s (jn_s rfl))))))))))))))))))))))))))) (Nat.le_of_ble_eq_true rfl))) rfl 1 (by decide) (hts (.fieldLink RX13 252 "BookOfAllModel" "size" "I") (jm m_492)) (fun _ h9 => h9) (jg_s (n := 104) (jn_s (jn_s (jn_s (jn_s (jn_s (jn_s (jn_s (jn_s (jn_s (jn_s (jn_s (jn_s (jn_s rfl))))))))))))) (Nat.le_of_ble_eq_true rfl)) dX13_feed_98 ?_
  refine lv_iconst (v := 1) hx hb dX13_feed_101 (by decide) ?_
  refine lv_iadd hx hb dX13_feed_102 ?_
  refine jt_i 15 (by decide) ?_
  refine va_put (D := (dC, dI)) (ci := 13) (v := .int 15) (ty := .int) (C := RX13) (T := TX13) (N := 104) hx hb hts (jh hin_RX13) tyX13 tyX13_ok nmX13 hown hK hP hD hS 0 (jg_n (Nat.ne_of_beq_eq_false rfl) (jg_s (n := 79) (jn_s (jn_s (jn_s (jn_s (jn_s (jn_s (jn_s (jn_s (jn_s (jn_s (jn_s (jn_s (jn_s (jn_s (jn_s (jn_s (jn_s (jn_s (jn_s (jn_s (jn_s (jn_s (jn_s (jn_s (jn_s (jn_s (jn_s rfl))))))))))))))))))))))))))) (Nat.le_of_ble_eq_true rfl))) rfl 1 (by decide) (hts (.fieldLink RX13 252 "BookOfAllModel" "size" "I") (jm m_492)) (fun _ h9 => h9) rfl (by decide +kernel) rfl rfl (jn_lt (n := 104) (jn_s (jn_s (jn_s (jn_s (jn_s (jn_s (jn_s (jn_s (jn_s (jn_s (jn_s (jn_s (jn_s (jn_s rfl)))))))))))))) (Nat.le_of_ble_eq_true rfl)) dX13_feed_103 (fun H locs hP hD hS => ?_)
  refine lv_iinc (v := 15) (lv' := [(6, .int 15), (7, .int p4), (0, .ref (ad 0)), (1, .int p1), (2, .int p2), (3, .int p3), (4, .int p4), (5, .int p5)]) hx hb dX13_feed_106 hl (k := 1) rfl (by decide) (by decide) rfl (fun ls hl => ?_)
  refine lv_goto (tgt := 18) hx hb dX13_feed_109 (by decide) ?_
  refine lv_iload hx hb dX13_feed_18 (lv_at hl 0 rfl) ?_
  refine lv_bipush (v := 20) hx hb dX13_feed_20 (by decide) ?_
  refine lv_icmp_ge (tgt := 112) hx hb dX13_feed_22 (by decide) (fun z => absurd z (by decide)) (fun _ => ?_)
  refine lv_iload hx hb dX13_feed_25 (lv_at hl 0 rfl) ?_
  refine lv_iconst (v := 4) hx hb dX13_feed_27 (by decide) ?_
  refine lv_icmp_ge (tgt := 35) hx hb dX13_feed_28 (by decide) (fun _ => ?_) (fun z => absurd (by decide) z)
  refine lv_iload hx hb dX13_feed_35 (lv_at hl 0 rfl) ?_
  refine lv_bipush (v := 8) hx hb dX13_feed_37 (by decide) ?_
  refine lv_icmp_ge (tgt := 46) hx hb dX13_feed_39 (by decide) (fun _ => ?_) (fun z => absurd (by decide) z)
  refine lv_iload hx hb dX13_feed_46 (lv_at hl 0 rfl) ?_
  refine lv_bipush (v := 12) hx hb dX13_feed_48 (by decide) ?_
  refine lv_icmp_ge (tgt := 57) hx hb dX13_feed_50 (by decide) (fun _ => ?_) (fun z => absurd (by decide) z)
  refine lv_iload hx hb dX13_feed_57 (lv_at hl 0 rfl) ?_
  refine lv_bipush (v := 16) hx hb dX13_feed_59 (by decide) ?_
  refine lv_icmp_ge (tgt := 69) hx hb dX13_feed_61 (by decide) (fun z => absurd z (by decide)) (fun _ => ?_)
  refine lv_iload hx hb dX13_feed_64 (lv_at hl 6 rfl) ?_
  refine lv_goto (tgt := 71) hx hb dX13_feed_66 (by decide) ?_
  refine lv_istore (lv' := [(7, .int p4), (6, .int 15), (0, .ref (ad 0)), (1, .int p1), (2, .int p2), (3, .int p3), (4, .int p4), (5, .int p5)]) hx hb dX13_feed_71 hl (by decide) rfl (fun ls hl => ?_)
  refine lv_aload_n hx hb dX13_feed_73 rfl (lv_at hl 2 rfl) ?_
  refine va_get (D := (dC, dI)) (ci := 13) (v := .ref (ad 1)) (C := RX13) (T := TX13) (N := 104) hx hb hts (jh hin_RX13) hown hK hP 0 (jg_s (n := 79) (jn_s (jn_s (jn_s (jn_s (jn_s (jn_s (jn_s (jn_s (jn_s (jn_s (jn_s (jn_s (jn_s (jn_s (jn_s (jn_s (jn_s (jn_s (jn_s (jn_s (jn_s (jn_s (jn_s (jn_s (jn_s (jn_s (jn_s (jn_s (jn_s rfl))))))))))))))))))))))))))))) (Nat.le_of_ble_eq_true rfl)) rfl 0 (by decide) (hts (.fieldLink RX13 9 "BookOfAllModel" "text" "[B") (jm m_1)) (fun _ h9 => h9) (jg_n (Nat.ne_of_beq_eq_false rfl) (jg_n (Nat.ne_of_beq_eq_false rfl) (jg_n (Nat.ne_of_beq_eq_false rfl) (jg_n (Nat.ne_of_beq_eq_false rfl) (jg_n (Nat.ne_of_beq_eq_false rfl) (jg_n (Nat.ne_of_beq_eq_false rfl) (jg_n (Nat.ne_of_beq_eq_false rfl) (jg_n (Nat.ne_of_beq_eq_false rfl) (jg_n (Nat.ne_of_beq_eq_false rfl) (jg_n (Nat.ne_of_beq_eq_false rfl) (jg_n (Nat.ne_of_beq_eq_false rfl) (jg_n (Nat.ne_of_beq_eq_false rfl) (jg_n (Nat.ne_of_beq_eq_false rfl) (jg_n (Nat.ne_of_beq_eq_false rfl) (jg_n (Nat.ne_of_beq_eq_false rfl) rfl))))))))))))))) dX13_feed_74 ?_
  refine lv_aload_n hx hb dX13_feed_77 rfl (lv_at hl 2 rfl) ?_
  refine va_get (D := (dC, dI)) (ci := 13) (v := .int 15) (C := RX13) (T := TX13) (N := 104) hx hb hts (jh hin_RX13) hown hK hP 0 (jg_s (n := 79) (jn_s (jn_s (jn_s (jn_s (jn_s (jn_s (jn_s (jn_s (jn_s (jn_s (jn_s (jn_s (jn_s (jn_s (jn_s (jn_s (jn_s (jn_s (jn_s (jn_s (jn_s (jn_s (jn_s (jn_s (jn_s (jn_s (jn_s (jn_s (jn_s rfl))))))))))))))))))))))))))))) (Nat.le_of_ble_eq_true rfl)) rfl 1 (by decide) (hts (.fieldLink RX13 252 "BookOfAllModel" "size" "I") (jm m_492)) (fun _ h9 => h9) (jg_s (n := 104) (jn_s (jn_s (jn_s (jn_s (jn_s (jn_s (jn_s (jn_s (jn_s (jn_s (jn_s (jn_s (jn_s (jn_s rfl)))))))))))))) (Nat.le_of_ble_eq_true rfl)) dX13_feed_78 ?_
  refine lv_iload hx hb dX13_feed_81 (lv_at hl 0 rfl) ?_
  refine lv_bipush (v := 24) hx hb dX13_feed_83 (by decide) ?_
  refine lv_bipush (v := 8) hx hb dX13_feed_85 (by decide) ?_
  refine lv_iload hx hb dX13_feed_87 (lv_at hl 1 rfl) ?_
  refine lv_iconst (v := 4) hx hb dX13_feed_89 (by decide) ?_
  refine lv_irem hx hb dX13_feed_90 (by decide) ?_
  refine jt_i 3 (by decide) ?_
  refine lv_imul hx hb dX13_feed_91 ?_
  refine jt_i 24 (by decide) ?_
  refine lv_isub hx hb dX13_feed_92 ?_
  refine jt_i 0 (by decide) ?_
  refine lv_ishr hx hb dX13_feed_93 ?_
  refine lv_i2b (v := ((p4 >>> (0 &&& 31)).toInt8.toInt32)) hx hb dX13_feed_94 rfl ?_
  refine va_bast hx hb hK hP hD hS 1 0 (jg_n (Nat.ne_of_beq_eq_false rfl) (jg_s (n := 79) (jn_s (jn_s (jn_s (jn_s (jn_s (jn_s (jn_s (jn_s (jn_s (jn_s (jn_s (jn_s (jn_s (jn_s (jn_s (jn_s (jn_s (jn_s (jn_s (jn_s (jn_s (jn_s (jn_s (jn_s (jn_s (jn_s (jn_s (jn_s rfl)))))))))))))))))))))))))))) (Nat.le_of_ble_eq_true rfl))) rfl (vp_in_nI (n := 15) (by decide) (by decide)) dX13_feed_95 (fun H locs hP hD hS => ?_)
  refine lv_aload_n hx hb dX13_feed_96 rfl (lv_at hl 2 rfl) ?_
  refine lv_dup hx hb dX13_feed_97 rfl ?_
  refine va_get (D := (dC, dI)) (ci := 13) (v := .int 15) (C := RX13) (T := TX13) (N := 104) hx hb hts (jh hin_RX13) hown hK hP 0 (jg_n (Nat.ne_of_beq_eq_false rfl) (jg_s (n := 79) (jn_s (jn_s (jn_s (jn_s (jn_s (jn_s (jn_s (jn_s (jn_s (jn_s (jn_s (jn_s (jn_s (jn_s (jn_s (jn_s (jn_s (jn_s (jn_s (jn_s (jn_s (jn_s (jn_s (jn_s (jn_s (jn_s (jn_s (jn_s (jn_s rfl))))))))))))))))))))))))))))) (Nat.le_of_ble_eq_true rfl))) rfl 1 (by decide) (hts (.fieldLink RX13 252 "BookOfAllModel" "size" "I") (jm m_492)) (fun _ h9 => h9) (jg_s (n := 104) (jn_s (jn_s (jn_s (jn_s (jn_s (jn_s (jn_s (jn_s (jn_s (jn_s (jn_s (jn_s (jn_s (jn_s rfl)))))))))))))) (Nat.le_of_ble_eq_true rfl)) dX13_feed_98 ?_
  refine lv_iconst (v := 1) hx hb dX13_feed_101 (by decide) ?_
  refine lv_iadd hx hb dX13_feed_102 ?_
  refine jt_i 16 (by decide) ?_
  refine va_put (D := (dC, dI)) (ci := 13) (v := .int 16) (ty := .int) (C := RX13) (T := TX13) (N := 104) hx hb hts (jh hin_RX13) tyX13 tyX13_ok nmX13 hown hK hP hD hS 0 (jg_n (Nat.ne_of_beq_eq_false rfl) (jg_s (n := 79) (jn_s (jn_s (jn_s (jn_s (jn_s (jn_s (jn_s (jn_s (jn_s (jn_s (jn_s (jn_s (jn_s (jn_s (jn_s (jn_s (jn_s (jn_s (jn_s (jn_s (jn_s (jn_s (jn_s (jn_s (jn_s (jn_s (jn_s (jn_s (jn_s rfl))))))))))))))))))))))))))))) (Nat.le_of_ble_eq_true rfl))) rfl 1 (by decide) (hts (.fieldLink RX13 252 "BookOfAllModel" "size" "I") (jm m_492)) (fun _ h9 => h9) rfl (by decide +kernel) rfl rfl (jn_lt (n := 104) (jn_s (jn_s (jn_s (jn_s (jn_s (jn_s (jn_s (jn_s (jn_s (jn_s (jn_s (jn_s (jn_s (jn_s (jn_s rfl))))))))))))))) (Nat.le_of_ble_eq_true rfl)) dX13_feed_103 (fun H locs hP hD hS => ?_)
  refine lv_iinc (v := 16) (lv' := [(6, .int 16), (7, .int p4), (0, .ref (ad 0)), (1, .int p1), (2, .int p2), (3, .int p3), (4, .int p4), (5, .int p5)]) hx hb dX13_feed_106 hl (k := 1) rfl (by decide) (by decide) rfl (fun ls hl => ?_)
  refine lv_goto (tgt := 18) hx hb dX13_feed_109 (by decide) ?_
  refine lv_iload hx hb dX13_feed_18 (lv_at hl 0 rfl) ?_
  refine lv_bipush (v := 20) hx hb dX13_feed_20 (by decide) ?_
  refine lv_icmp_ge (tgt := 112) hx hb dX13_feed_22 (by decide) (fun z => absurd z (by decide)) (fun _ => ?_)
  refine lv_iload hx hb dX13_feed_25 (lv_at hl 0 rfl) ?_
  refine lv_iconst (v := 4) hx hb dX13_feed_27 (by decide) ?_
  refine lv_icmp_ge (tgt := 35) hx hb dX13_feed_28 (by decide) (fun _ => ?_) (fun z => absurd (by decide) z)
  refine lv_iload hx hb dX13_feed_35 (lv_at hl 0 rfl) ?_
  refine lv_bipush (v := 8) hx hb dX13_feed_37 (by decide) ?_
  refine lv_icmp_ge (tgt := 46) hx hb dX13_feed_39 (by decide) (fun _ => ?_) (fun z => absurd (by decide) z)
  refine lv_iload hx hb dX13_feed_46 (lv_at hl 0 rfl) ?_
  refine lv_bipush (v := 12) hx hb dX13_feed_48 (by decide) ?_
  refine lv_icmp_ge (tgt := 57) hx hb dX13_feed_50 (by decide) (fun _ => ?_) (fun z => absurd (by decide) z)
  refine lv_iload hx hb dX13_feed_57 (lv_at hl 0 rfl) ?_
  refine lv_bipush (v := 16) hx hb dX13_feed_59 (by decide) ?_
  refine lv_icmp_ge (tgt := 69) hx hb dX13_feed_61 (by decide) (fun _ => ?_) (fun z => absurd (by decide) z)
  refine lv_iload hx hb dX13_feed_69 (lv_at hl 7 rfl) ?_
  refine lv_istore (lv' := [(7, .int p5), (6, .int 16), (0, .ref (ad 0)), (1, .int p1), (2, .int p2), (3, .int p3), (4, .int p4), (5, .int p5)]) hx hb dX13_feed_71 hl (by decide) rfl (fun ls hl => ?_)
  refine lv_aload_n hx hb dX13_feed_73 rfl (lv_at hl 2 rfl) ?_
  refine va_get (D := (dC, dI)) (ci := 13) (v := .ref (ad 1)) (C := RX13) (T := TX13) (N := 104) hx hb hts (jh hin_RX13) hown hK hP 0 (jg_s (n := 79) (jn_s (jn_s (jn_s (jn_s (jn_s (jn_s (jn_s (jn_s (jn_s (jn_s (jn_s (jn_s (jn_s (jn_s (jn_s (jn_s (jn_s (jn_s (jn_s (jn_s (jn_s (jn_s (jn_s (jn_s (jn_s (jn_s (jn_s (jn_s (jn_s (jn_s (jn_s rfl))))))))))))))))))))))))))))))) (Nat.le_of_ble_eq_true rfl)) rfl 0 (by decide) (hts (.fieldLink RX13 9 "BookOfAllModel" "text" "[B") (jm m_1)) (fun _ h9 => h9) (jg_n (Nat.ne_of_beq_eq_false rfl) (jg_n (Nat.ne_of_beq_eq_false rfl) (jg_n (Nat.ne_of_beq_eq_false rfl) (jg_n (Nat.ne_of_beq_eq_false rfl) (jg_n (Nat.ne_of_beq_eq_false rfl) (jg_n (Nat.ne_of_beq_eq_false rfl) (jg_n (Nat.ne_of_beq_eq_false rfl) (jg_n (Nat.ne_of_beq_eq_false rfl) (jg_n (Nat.ne_of_beq_eq_false rfl) (jg_n (Nat.ne_of_beq_eq_false rfl) (jg_n (Nat.ne_of_beq_eq_false rfl) (jg_n (Nat.ne_of_beq_eq_false rfl) (jg_n (Nat.ne_of_beq_eq_false rfl) (jg_n (Nat.ne_of_beq_eq_false rfl) (jg_n (Nat.ne_of_beq_eq_false rfl) (jg_n (Nat.ne_of_beq_eq_false rfl) rfl)))))))))))))))) dX13_feed_74 ?_
  refine lv_aload_n hx hb dX13_feed_77 rfl (lv_at hl 2 rfl) ?_
  refine va_get (D := (dC, dI)) (ci := 13) (v := .int 16) (C := RX13) (T := TX13) (N := 104) hx hb hts (jh hin_RX13) hown hK hP 0 (jg_s (n := 79) (jn_s (jn_s (jn_s (jn_s (jn_s (jn_s (jn_s (jn_s (jn_s (jn_s (jn_s (jn_s (jn_s (jn_s (jn_s (jn_s (jn_s (jn_s (jn_s (jn_s (jn_s (jn_s (jn_s (jn_s (jn_s (jn_s (jn_s (jn_s (jn_s (jn_s (jn_s rfl))))))))))))))))))))))))))))))) (Nat.le_of_ble_eq_true rfl)) rfl 1 (by decide) (hts (.fieldLink RX13 252 "BookOfAllModel" "size" "I") (jm m_492)) (fun _ h9 => h9) (jg_s (n := 104) (jn_s (jn_s (jn_s (jn_s (jn_s (jn_s (jn_s (jn_s (jn_s (jn_s (jn_s (jn_s (jn_s (jn_s (jn_s rfl))))))))))))))) (Nat.le_of_ble_eq_true rfl)) dX13_feed_78 ?_
  refine lv_iload hx hb dX13_feed_81 (lv_at hl 0 rfl) ?_
  refine lv_bipush (v := 24) hx hb dX13_feed_83 (by decide) ?_
  refine lv_bipush (v := 8) hx hb dX13_feed_85 (by decide) ?_
  refine lv_iload hx hb dX13_feed_87 (lv_at hl 1 rfl) ?_
  refine lv_iconst (v := 4) hx hb dX13_feed_89 (by decide) ?_
  refine lv_irem hx hb dX13_feed_90 (by decide) ?_
  refine jt_i 0 (by decide) ?_
  refine lv_imul hx hb dX13_feed_91 ?_
  refine jt_i 0 (by decide) ?_
  refine lv_isub hx hb dX13_feed_92 ?_
  refine jt_i 24 (by decide) ?_
  refine lv_ishr hx hb dX13_feed_93 ?_
  refine lv_i2b (v := ((p5 >>> (24 &&& 31)).toInt8.toInt32)) hx hb dX13_feed_94 rfl ?_
  refine va_bast hx hb hK hP hD hS 1 0 (jg_n (Nat.ne_of_beq_eq_false rfl) (jg_s (n := 79) (jn_s (jn_s (jn_s (jn_s (jn_s (jn_s (jn_s (jn_s (jn_s (jn_s (jn_s (jn_s (jn_s (jn_s (jn_s (jn_s (jn_s (jn_s (jn_s (jn_s (jn_s (jn_s (jn_s (jn_s (jn_s (jn_s (jn_s (jn_s (jn_s (jn_s rfl)))))))))))))))))))))))))))))) (Nat.le_of_ble_eq_true rfl))) rfl (vp_in_nI (n := 16) (by decide) (by decide)) dX13_feed_95 (fun H locs hP hD hS => ?_)
  refine lv_aload_n hx hb dX13_feed_96 rfl (lv_at hl 2 rfl) ?_
  refine lv_dup hx hb dX13_feed_97 rfl ?_
  refine va_get (D := (dC, dI)) (ci := 13) (v := .int 16) (C := RX13) (T := TX13) (N := 104) hx hb hts (jh hin_RX13) hown hK hP 0 (jg_n (Nat.ne_of_beq_eq_false rfl) (jg_s (n := 79) (jn_s (jn_s (jn_s (jn_s (jn_s (jn_s (jn_s (jn_s (jn_s (jn_s (jn_s (jn_s (jn_s (jn_s (jn_s (jn_s (jn_s (jn_s (jn_s (jn_s (jn_s (jn_s (jn_s (jn_s (jn_s (jn_s (jn_s (jn_s (jn_s (jn_s (jn_s rfl))))))))))))))))))))))))))))))) (Nat.le_of_ble_eq_true rfl))) rfl 1 (by decide) (hts (.fieldLink RX13 252 "BookOfAllModel" "size" "I") (jm m_492)) (fun _ h9 => h9) (jg_s (n := 104) (jn_s (jn_s (jn_s (jn_s (jn_s (jn_s (jn_s (jn_s (jn_s (jn_s (jn_s (jn_s (jn_s (jn_s (jn_s rfl))))))))))))))) (Nat.le_of_ble_eq_true rfl)) dX13_feed_98 ?_
  refine lv_iconst (v := 1) hx hb dX13_feed_101 (by decide) ?_
  refine lv_iadd hx hb dX13_feed_102 ?_
  refine jt_i 17 (by decide) ?_
  refine va_put (D := (dC, dI)) (ci := 13) (v := .int 17) (ty := .int) (C := RX13) (T := TX13) (N := 104) hx hb hts (jh hin_RX13) tyX13 tyX13_ok nmX13 hown hK hP hD hS 0 (jg_n (Nat.ne_of_beq_eq_false rfl) (jg_s (n := 79) (jn_s (jn_s (jn_s (jn_s (jn_s (jn_s (jn_s (jn_s (jn_s (jn_s (jn_s (jn_s (jn_s (jn_s (jn_s (jn_s (jn_s (jn_s (jn_s (jn_s (jn_s (jn_s (jn_s (jn_s (jn_s (jn_s (jn_s (jn_s (jn_s (jn_s (jn_s rfl))))))))))))))))))))))))))))))) (Nat.le_of_ble_eq_true rfl))) rfl 1 (by decide) (hts (.fieldLink RX13 252 "BookOfAllModel" "size" "I") (jm m_492)) (fun _ h9 => h9) rfl (by decide +kernel) rfl rfl (jn_lt (n := 104) (jn_s (jn_s (jn_s (jn_s (jn_s (jn_s (jn_s (jn_s (jn_s (jn_s (jn_s (jn_s (jn_s (jn_s (jn_s (jn_s rfl)))))))))))))))) (Nat.le_of_ble_eq_true rfl)) dX13_feed_103 (fun H locs hP hD hS => ?_)
  refine lv_iinc (v := 17) (lv' := [(6, .int 17), (7, .int p5), (0, .ref (ad 0)), (1, .int p1), (2, .int p2), (3, .int p3), (4, .int p4), (5, .int p5)]) hx hb dX13_feed_106 hl (k := 1) rfl (by decide) (by decide) rfl (fun ls hl => ?_)
  refine lv_goto (tgt := 18) hx hb dX13_feed_109 (by decide) ?_
  refine lv_iload hx hb dX13_feed_18 (lv_at hl 0 rfl) ?_
  refine lv_bipush (v := 20) hx hb dX13_feed_20 (by decide) ?_
  refine lv_icmp_ge (tgt := 112) hx hb dX13_feed_22 (by decide) (fun z => absurd z (by decide)) (fun _ => ?_)
  refine lv_iload hx hb dX13_feed_25 (lv_at hl 0 rfl) ?_
  refine lv_iconst (v := 4) hx hb dX13_feed_27 (by decide) ?_
  refine lv_icmp_ge (tgt := 35) hx hb dX13_feed_28 (by decide) (fun _ => ?_) (fun z => absurd (by decide) z)
  refine lv_iload hx hb dX13_feed_35 (lv_at hl 0 rfl) ?_
  refine lv_bipush (v := 8) hx hb dX13_feed_37 (by decide) ?_
  refine lv_icmp_ge (tgt := 46) hx hb dX13_feed_39 (by decide) (fun _ => ?_) (fun z => absurd (by decide) z)
  refine lv_iload hx hb dX13_feed_46 (lv_at hl 0 rfl) ?_
  refine lv_bipush (v := 12) hx hb dX13_feed_48 (by decide) ?_
  refine lv_icmp_ge (tgt := 57) hx hb dX13_feed_50 (by decide) (fun _ => ?_) (fun z => absurd (by decide) z)
  refine lv_iload hx hb dX13_feed_57 (lv_at hl 0 rfl) ?_
  refine lv_bipush (v := 16) hx hb dX13_feed_59 (by decide) ?_
  refine lv_icmp_ge (tgt := 69) hx hb dX13_feed_61 (by decide) (fun _ => ?_) (fun z => absurd (by decide) z)
  refine lv_iload hx hb dX13_feed_69 (lv_at hl 7 rfl) ?_
  refine lv_istore (lv' := [(7, .int p5), (6, .int 17), (0, .ref (ad 0)), (1, .int p1), (2, .int p2), (3, .int p3), (4, .int p4), (5, .int p5)]) hx hb dX13_feed_71 hl (by decide) rfl (fun ls hl => ?_)
  refine lv_aload_n hx hb dX13_feed_73 rfl (lv_at hl 2 rfl) ?_
  refine va_get (D := (dC, dI)) (ci := 13) (v := .ref (ad 1)) (C := RX13) (T := TX13) (N := 104) hx hb hts (jh hin_RX13) hown hK hP 0 (jg_s (n := 79) (jn_s (jn_s (jn_s (jn_s (jn_s (jn_s (jn_s (jn_s (jn_s (jn_s (jn_s (jn_s (jn_s (jn_s (jn_s (jn_s (jn_s (jn_s (jn_s (jn_s (jn_s (jn_s (jn_s (jn_s (jn_s (jn_s (jn_s (jn_s (jn_s (jn_s (jn_s (jn_s (jn_s rfl))))))))))))))))))))))))))))))))) (Nat.le_of_ble_eq_true rfl)) rfl 0 (by decide) (hts (.fieldLink RX13 9 "BookOfAllModel" "text" "[B") (jm m_1)) (fun _ h9 => h9) (jg_n (Nat.ne_of_beq_eq_false rfl) (jg_n (Nat.ne_of_beq_eq_false rfl) (jg_n (Nat.ne_of_beq_eq_false rfl) (jg_n (Nat.ne_of_beq_eq_false rfl) (jg_n (Nat.ne_of_beq_eq_false rfl) (jg_n (Nat.ne_of_beq_eq_false rfl) (jg_n (Nat.ne_of_beq_eq_false rfl) (jg_n (Nat.ne_of_beq_eq_false rfl) (jg_n (Nat.ne_of_beq_eq_false rfl) (jg_n (Nat.ne_of_beq_eq_false rfl) (jg_n (Nat.ne_of_beq_eq_false rfl) (jg_n (Nat.ne_of_beq_eq_false rfl) (jg_n (Nat.ne_of_beq_eq_false rfl) (jg_n (Nat.ne_of_beq_eq_false rfl) (jg_n (Nat.ne_of_beq_eq_false rfl) (jg_n (Nat.ne_of_beq_eq_false rfl) (jg_n (Nat.ne_of_beq_eq_false rfl) rfl))))))))))))))))) dX13_feed_74 ?_
  refine lv_aload_n hx hb dX13_feed_77 rfl (lv_at hl 2 rfl) ?_
  refine va_get (D := (dC, dI)) (ci := 13) (v := .int 17) (C := RX13) (T := TX13) (N := 104) hx hb hts (jh hin_RX13) hown hK hP 0 (jg_s (n := 79) (jn_s (jn_s (jn_s (jn_s (jn_s (jn_s (jn_s (jn_s (jn_s (jn_s (jn_s (jn_s (jn_s (jn_s (jn_s (jn_s (jn_s (jn_s (jn_s (jn_s (jn_s (jn_s (jn_s (jn_s (jn_s (jn_s (jn_s (jn_s (jn_s (jn_s (jn_s (jn_s (jn_s rfl))))))))))))))))))))))))))))))))) (Nat.le_of_ble_eq_true rfl)) rfl 1 (by decide) (hts (.fieldLink RX13 252 "BookOfAllModel" "size" "I") (jm m_492)) (fun _ h9 => h9) (jg_s (n := 104) (jn_s (jn_s (jn_s (jn_s (jn_s (jn_s (jn_s (jn_s (jn_s (jn_s (jn_s (jn_s (jn_s (jn_s (jn_s (jn_s rfl)))))))))))))))) (Nat.le_of_ble_eq_true rfl)) dX13_feed_78 ?_
  refine lv_iload hx hb dX13_feed_81 (lv_at hl 0 rfl) ?_
  refine lv_bipush (v := 24) hx hb dX13_feed_83 (by decide) ?_
  refine lv_bipush (v := 8) hx hb dX13_feed_85 (by decide) ?_
  refine lv_iload hx hb dX13_feed_87 (lv_at hl 1 rfl) ?_
  refine lv_iconst (v := 4) hx hb dX13_feed_89 (by decide) ?_
  refine lv_irem hx hb dX13_feed_90 (by decide) ?_
  refine jt_i 1 (by decide) ?_
  refine lv_imul hx hb dX13_feed_91 ?_
  refine jt_i 8 (by decide) ?_
  refine lv_isub hx hb dX13_feed_92 ?_
  refine jt_i 16 (by decide) ?_
  refine lv_ishr hx hb dX13_feed_93 ?_
  refine lv_i2b (v := ((p5 >>> (16 &&& 31)).toInt8.toInt32)) hx hb dX13_feed_94 rfl ?_
  refine va_bast hx hb hK hP hD hS 1 0 (jg_n (Nat.ne_of_beq_eq_false rfl) (jg_s (n := 79) (jn_s (jn_s (jn_s (jn_s (jn_s (jn_s (jn_s (jn_s (jn_s (jn_s (jn_s (jn_s (jn_s (jn_s (jn_s (jn_s (jn_s (jn_s (jn_s (jn_s (jn_s (jn_s (jn_s (jn_s (jn_s (jn_s (jn_s (jn_s (jn_s (jn_s (jn_s (jn_s rfl)))))))))))))))))))))))))))))))) (Nat.le_of_ble_eq_true rfl))) rfl (vp_in_nI (n := 17) (by decide) (by decide)) dX13_feed_95 (fun H locs hP hD hS => ?_)
  refine lv_aload_n hx hb dX13_feed_96 rfl (lv_at hl 2 rfl) ?_
  refine lv_dup hx hb dX13_feed_97 rfl ?_
  refine va_get (D := (dC, dI)) (ci := 13) (v := .int 17) (C := RX13) (T := TX13) (N := 104) hx hb hts (jh hin_RX13) hown hK hP 0 (jg_n (Nat.ne_of_beq_eq_false rfl) (jg_s (n := 79) (jn_s (jn_s (jn_s (jn_s (jn_s (jn_s (jn_s (jn_s (jn_s (jn_s (jn_s (jn_s (jn_s (jn_s (jn_s (jn_s (jn_s (jn_s (jn_s (jn_s (jn_s (jn_s (jn_s (jn_s (jn_s (jn_s (jn_s (jn_s (jn_s (jn_s (jn_s (jn_s (jn_s rfl))))))))))))))))))))))))))))))))) (Nat.le_of_ble_eq_true rfl))) rfl 1 (by decide) (hts (.fieldLink RX13 252 "BookOfAllModel" "size" "I") (jm m_492)) (fun _ h9 => h9) (jg_s (n := 104) (jn_s (jn_s (jn_s (jn_s (jn_s (jn_s (jn_s (jn_s (jn_s (jn_s (jn_s (jn_s (jn_s (jn_s (jn_s (jn_s rfl)))))))))))))))) (Nat.le_of_ble_eq_true rfl)) dX13_feed_98 ?_
  refine lv_iconst (v := 1) hx hb dX13_feed_101 (by decide) ?_
  refine lv_iadd hx hb dX13_feed_102 ?_
  refine jt_i 18 (by decide) ?_
  refine va_put (D := (dC, dI)) (ci := 13) (v := .int 18) (ty := .int) (C := RX13) (T := TX13) (N := 104) hx hb hts (jh hin_RX13) tyX13 tyX13_ok nmX13 hown hK hP hD hS 0 (jg_n (Nat.ne_of_beq_eq_false rfl) (jg_s (n := 79) (jn_s (jn_s (jn_s (jn_s (jn_s (jn_s (jn_s (jn_s (jn_s (jn_s (jn_s (jn_s (jn_s (jn_s (jn_s (jn_s (jn_s (jn_s (jn_s (jn_s (jn_s (jn_s (jn_s (jn_s (jn_s (jn_s (jn_s (jn_s (jn_s (jn_s (jn_s (jn_s (jn_s rfl))))))))))))))))))))))))))))))))) (Nat.le_of_ble_eq_true rfl))) rfl 1 (by decide) (hts (.fieldLink RX13 252 "BookOfAllModel" "size" "I") (jm m_492)) (fun _ h9 => h9) rfl (by decide +kernel) rfl rfl (jn_lt (n := 104) (jn_s (jn_s (jn_s (jn_s (jn_s (jn_s (jn_s (jn_s (jn_s (jn_s (jn_s (jn_s (jn_s (jn_s (jn_s (jn_s (jn_s rfl))))))))))))))))) (Nat.le_of_ble_eq_true rfl)) dX13_feed_103 (fun H locs hP hD hS => ?_)
  refine lv_iinc (v := 18) (lv' := [(6, .int 18), (7, .int p5), (0, .ref (ad 0)), (1, .int p1), (2, .int p2), (3, .int p3), (4, .int p4), (5, .int p5)]) hx hb dX13_feed_106 hl (k := 1) rfl (by decide) (by decide) rfl (fun ls hl => ?_)
  refine lv_goto (tgt := 18) hx hb dX13_feed_109 (by decide) ?_
  refine lv_iload hx hb dX13_feed_18 (lv_at hl 0 rfl) ?_
  refine lv_bipush (v := 20) hx hb dX13_feed_20 (by decide) ?_
  refine lv_icmp_ge (tgt := 112) hx hb dX13_feed_22 (by decide) (fun z => absurd z (by decide)) (fun _ => ?_)
  refine lv_iload hx hb dX13_feed_25 (lv_at hl 0 rfl) ?_
  refine lv_iconst (v := 4) hx hb dX13_feed_27 (by decide) ?_
  refine lv_icmp_ge (tgt := 35) hx hb dX13_feed_28 (by decide) (fun _ => ?_) (fun z => absurd (by decide) z)
  refine lv_iload hx hb dX13_feed_35 (lv_at hl 0 rfl) ?_
  refine lv_bipush (v := 8) hx hb dX13_feed_37 (by decide) ?_
  refine lv_icmp_ge (tgt := 46) hx hb dX13_feed_39 (by decide) (fun _ => ?_) (fun z => absurd (by decide) z)
  refine lv_iload hx hb dX13_feed_46 (lv_at hl 0 rfl) ?_
  refine lv_bipush (v := 12) hx hb dX13_feed_48 (by decide) ?_
  refine lv_icmp_ge (tgt := 57) hx hb dX13_feed_50 (by decide) (fun _ => ?_) (fun z => absurd (by decide) z)
  refine lv_iload hx hb dX13_feed_57 (lv_at hl 0 rfl) ?_
  refine lv_bipush (v := 16) hx hb dX13_feed_59 (by decide) ?_
  refine lv_icmp_ge (tgt := 69) hx hb dX13_feed_61 (by decide) (fun _ => ?_) (fun z => absurd (by decide) z)
  refine lv_iload hx hb dX13_feed_69 (lv_at hl 7 rfl) ?_
  refine lv_istore (lv' := [(7, .int p5), (6, .int 18), (0, .ref (ad 0)), (1, .int p1), (2, .int p2), (3, .int p3), (4, .int p4), (5, .int p5)]) hx hb dX13_feed_71 hl (by decide) rfl (fun ls hl => ?_)
  refine lv_aload_n hx hb dX13_feed_73 rfl (lv_at hl 2 rfl) ?_
  refine va_get (D := (dC, dI)) (ci := 13) (v := .ref (ad 1)) (C := RX13) (T := TX13) (N := 104) hx hb hts (jh hin_RX13) hown hK hP 0 (jg_s (n := 79) (jn_s (jn_s (jn_s (jn_s (jn_s (jn_s (jn_s (jn_s (jn_s (jn_s (jn_s (jn_s (jn_s (jn_s (jn_s (jn_s (jn_s (jn_s (jn_s (jn_s (jn_s (jn_s (jn_s (jn_s (jn_s (jn_s (jn_s (jn_s (jn_s (jn_s (jn_s (jn_s (jn_s (jn_s (jn_s rfl))))))))))))))))))))))))))))))))))) (Nat.le_of_ble_eq_true rfl)) rfl 0 (by decide) (hts (.fieldLink RX13 9 "BookOfAllModel" "text" "[B") (jm m_1)) (fun _ h9 => h9) (jg_n (Nat.ne_of_beq_eq_false rfl) (jg_n (Nat.ne_of_beq_eq_false rfl) (jg_n (Nat.ne_of_beq_eq_false rfl) (jg_n (Nat.ne_of_beq_eq_false rfl) (jg_n (Nat.ne_of_beq_eq_false rfl) (jg_n (Nat.ne_of_beq_eq_false rfl) (jg_n (Nat.ne_of_beq_eq_false rfl) (jg_n (Nat.ne_of_beq_eq_false rfl) (jg_n (Nat.ne_of_beq_eq_false rfl) (jg_n (Nat.ne_of_beq_eq_false rfl) (jg_n (Nat.ne_of_beq_eq_false rfl) (jg_n (Nat.ne_of_beq_eq_false rfl) (jg_n (Nat.ne_of_beq_eq_false rfl) (jg_n (Nat.ne_of_beq_eq_false rfl) (jg_n (Nat.ne_of_beq_eq_false rfl) (jg_n (Nat.ne_of_beq_eq_false rfl) (jg_n (Nat.ne_of_beq_eq_false rfl) (jg_n (Nat.ne_of_beq_eq_false rfl) rfl)))))))))))))))))) dX13_feed_74 ?_
  refine lv_aload_n hx hb dX13_feed_77 rfl (lv_at hl 2 rfl) ?_
  refine va_get (D := (dC, dI)) (ci := 13) (v := .int 18) (C := RX13) (T := TX13) (N := 104) hx hb hts (jh hin_RX13) hown hK hP 0 (jg_s (n := 79) (jn_s (jn_s (jn_s (jn_s (jn_s (jn_s (jn_s (jn_s (jn_s (jn_s (jn_s (jn_s (jn_s (jn_s (jn_s (jn_s (jn_s (jn_s (jn_s (jn_s (jn_s (jn_s (jn_s (jn_s (jn_s (jn_s (jn_s (jn_s (jn_s (jn_s (jn_s (jn_s (jn_s (jn_s (jn_s rfl))))))))))))))))))))))))))))))))))) (Nat.le_of_ble_eq_true rfl)) rfl 1 (by decide) (hts (.fieldLink RX13 252 "BookOfAllModel" "size" "I") (jm m_492)) (fun _ h9 => h9) (jg_s (n := 104) (jn_s (jn_s (jn_s (jn_s (jn_s (jn_s (jn_s (jn_s (jn_s (jn_s (jn_s (jn_s (jn_s (jn_s (jn_s (jn_s (jn_s rfl))))))))))))))))) (Nat.le_of_ble_eq_true rfl)) dX13_feed_78 ?_
  refine lv_iload hx hb dX13_feed_81 (lv_at hl 0 rfl) ?_
  refine lv_bipush (v := 24) hx hb dX13_feed_83 (by decide) ?_
  refine lv_bipush (v := 8) hx hb dX13_feed_85 (by decide) ?_
  refine lv_iload hx hb dX13_feed_87 (lv_at hl 1 rfl) ?_
  refine lv_iconst (v := 4) hx hb dX13_feed_89 (by decide) ?_
  refine lv_irem hx hb dX13_feed_90 (by decide) ?_
  refine jt_i 2 (by decide) ?_
  refine lv_imul hx hb dX13_feed_91 ?_
  refine jt_i 16 (by decide) ?_
  refine lv_isub hx hb dX13_feed_92 ?_
  refine jt_i 8 (by decide) ?_
  refine lv_ishr hx hb dX13_feed_93 ?_
  refine lv_i2b (v := ((p5 >>> (8 &&& 31)).toInt8.toInt32)) hx hb dX13_feed_94 rfl ?_
  refine va_bast hx hb hK hP hD hS 1 0 (jg_n (Nat.ne_of_beq_eq_false rfl) (jg_s (n := 79) (jn_s (jn_s (jn_s (jn_s (jn_s (jn_s (jn_s (jn_s (jn_s (jn_s (jn_s (jn_s (jn_s (jn_s (jn_s (jn_s (jn_s (jn_s (jn_s (jn_s (jn_s (jn_s (jn_s (jn_s (jn_s (jn_s (jn_s (jn_s (jn_s (jn_s (jn_s (jn_s (jn_s (jn_s rfl)))))))))))))))))))))))))))))))))) (Nat.le_of_ble_eq_true rfl))) rfl (vp_in_nI (n := 18) (by decide) (by decide)) dX13_feed_95 (fun H locs hP hD hS => ?_)
  refine lv_aload_n hx hb dX13_feed_96 rfl (lv_at hl 2 rfl) ?_
  refine lv_dup hx hb dX13_feed_97 rfl ?_
  refine va_get (D := (dC, dI)) (ci := 13) (v := .int 18) (C := RX13) (T := TX13) (N := 104) hx hb hts (jh hin_RX13) hown hK hP 0 (jg_n (Nat.ne_of_beq_eq_false rfl) (jg_s (n := 79) (jn_s (jn_s (jn_s (jn_s (jn_s (jn_s (jn_s (jn_s (jn_s (jn_s (jn_s (jn_s (jn_s (jn_s (jn_s (jn_s (jn_s (jn_s (jn_s (jn_s (jn_s (jn_s (jn_s (jn_s (jn_s (jn_s (jn_s (jn_s (jn_s (jn_s (jn_s (jn_s (jn_s (jn_s (jn_s rfl))))))))))))))))))))))))))))))))))) (Nat.le_of_ble_eq_true rfl))) rfl 1 (by decide) (hts (.fieldLink RX13 252 "BookOfAllModel" "size" "I") (jm m_492)) (fun _ h9 => h9) (jg_s (n := 104) (jn_s (jn_s (jn_s (jn_s (jn_s (jn_s (jn_s (jn_s (jn_s (jn_s (jn_s (jn_s (jn_s (jn_s (jn_s (jn_s (jn_s rfl))))))))))))))))) (Nat.le_of_ble_eq_true rfl)) dX13_feed_98 ?_
  refine lv_iconst (v := 1) hx hb dX13_feed_101 (by decide) ?_
  refine lv_iadd hx hb dX13_feed_102 ?_
  refine jt_i 19 (by decide) ?_
  refine va_put (D := (dC, dI)) (ci := 13) (v := .int 19) (ty := .int) (C := RX13) (T := TX13) (N := 104) hx hb hts (jh hin_RX13) tyX13 tyX13_ok nmX13 hown hK hP hD hS 0 (jg_n (Nat.ne_of_beq_eq_false rfl) (jg_s (n := 79) (jn_s (jn_s (jn_s (jn_s (jn_s (jn_s (jn_s (jn_s (jn_s (jn_s (jn_s (jn_s (jn_s (jn_s (jn_s (jn_s (jn_s (jn_s (jn_s (jn_s (jn_s (jn_s (jn_s (jn_s (jn_s (jn_s (jn_s (jn_s (jn_s (jn_s (jn_s (jn_s (jn_s (jn_s (jn_s rfl))))))))))))))))))))))))))))))))))) (Nat.le_of_ble_eq_true rfl))) rfl 1 (by decide) (hts (.fieldLink RX13 252 "BookOfAllModel" "size" "I") (jm m_492)) (fun _ h9 => h9) rfl (by decide +kernel) rfl rfl (jn_lt (n := 104) (jn_s (jn_s (jn_s (jn_s (jn_s (jn_s (jn_s (jn_s (jn_s (jn_s (jn_s (jn_s (jn_s (jn_s (jn_s (jn_s (jn_s (jn_s rfl)))))))))))))))))) (Nat.le_of_ble_eq_true rfl)) dX13_feed_103 (fun H locs hP hD hS => ?_)
  refine lv_iinc (v := 19) (lv' := [(6, .int 19), (7, .int p5), (0, .ref (ad 0)), (1, .int p1), (2, .int p2), (3, .int p3), (4, .int p4), (5, .int p5)]) hx hb dX13_feed_106 hl (k := 1) rfl (by decide) (by decide) rfl (fun ls hl => ?_)
  refine lv_goto (tgt := 18) hx hb dX13_feed_109 (by decide) ?_
  refine lv_iload hx hb dX13_feed_18 (lv_at hl 0 rfl) ?_
  refine lv_bipush (v := 20) hx hb dX13_feed_20 (by decide) ?_
  refine lv_icmp_ge (tgt := 112) hx hb dX13_feed_22 (by decide) (fun z => absurd z (by decide)) (fun _ => ?_)
  refine lv_iload hx hb dX13_feed_25 (lv_at hl 0 rfl) ?_
  refine lv_iconst (v := 4) hx hb dX13_feed_27 (by decide) ?_
  refine lv_icmp_ge (tgt := 35) hx hb dX13_feed_28 (by decide) (fun _ => ?_) (fun z => absurd (by decide) z)
  refine lv_iload hx hb dX13_feed_35 (lv_at hl 0 rfl) ?_
  refine lv_bipush (v := 8) hx hb dX13_feed_37 (by decide) ?_
  refine lv_icmp_ge (tgt := 46) hx hb dX13_feed_39 (by decide) (fun _ => ?_) (fun z => absurd (by decide) z)
  refine lv_iload hx hb dX13_feed_46 (lv_at hl 0 rfl) ?_
  refine lv_bipush (v := 12) hx hb dX13_feed_48 (by decide) ?_
  refine lv_icmp_ge (tgt := 57) hx hb dX13_feed_50 (by decide) (fun _ => ?_) (fun z => absurd (by decide) z)
  refine lv_iload hx hb dX13_feed_57 (lv_at hl 0 rfl) ?_
  refine lv_bipush (v := 16) hx hb dX13_feed_59 (by decide) ?_
  refine lv_icmp_ge (tgt := 69) hx hb dX13_feed_61 (by decide) (fun _ => ?_) (fun z => absurd (by decide) z)
  refine lv_iload hx hb dX13_feed_69 (lv_at hl 7 rfl) ?_
  refine lv_istore (lv' := [(7, .int p5), (6, .int 19), (0, .ref (ad 0)), (1, .int p1), (2, .int p2), (3, .int p3), (4, .int p4), (5, .int p5)]) hx hb dX13_feed_71 hl (by decide) rfl (fun ls hl => ?_)
  refine lv_aload_n hx hb dX13_feed_73 rfl (lv_at hl 2 rfl) ?_
  refine va_get (D := (dC, dI)) (ci := 13) (v := .ref (ad 1)) (C := RX13) (T := TX13) (N := 104) hx hb hts (jh hin_RX13) hown hK hP 0 (jg_s (n := 79) (jn_s (jn_s (jn_s (jn_s (jn_s (jn_s (jn_s (jn_s (jn_s (jn_s (jn_s (jn_s (jn_s (jn_s (jn_s (jn_s (jn_s (jn_s (jn_s (jn_s (jn_s (jn_s (jn_s (jn_s (jn_s (jn_s (jn_s (jn_s (jn_s (jn_s (jn_s (jn_s (jn_s (jn_s (jn_s (jn_s (jn_s rfl))))))))))))))))))))))))))))))))))))) (Nat.le_of_ble_eq_true rfl)) rfl 0 (by decide) (hts (.fieldLink RX13 9 "BookOfAllModel" "text" "[B") (jm m_1)) (fun _ h9 => h9) (jg_n (Nat.ne_of_beq_eq_false rfl) (jg_n (Nat.ne_of_beq_eq_false rfl) (jg_n (Nat.ne_of_beq_eq_false rfl) (jg_n (Nat.ne_of_beq_eq_false rfl) (jg_n (Nat.ne_of_beq_eq_false rfl) (jg_n (Nat.ne_of_beq_eq_false rfl) (jg_n (Nat.ne_of_beq_eq_false rfl) (jg_n (Nat.ne_of_beq_eq_false rfl) (jg_n (Nat.ne_of_beq_eq_false rfl) (jg_n (Nat.ne_of_beq_eq_false rfl) (jg_n (Nat.ne_of_beq_eq_false rfl) (jg_n (Nat.ne_of_beq_eq_false rfl) (jg_n (Nat.ne_of_beq_eq_false rfl) (jg_n (Nat.ne_of_beq_eq_false rfl) (jg_n (Nat.ne_of_beq_eq_false rfl) (jg_n (Nat.ne_of_beq_eq_false rfl) (jg_n (Nat.ne_of_beq_eq_false rfl) (jg_n (Nat.ne_of_beq_eq_false rfl) (jg_n (Nat.ne_of_beq_eq_false rfl) rfl))))))))))))))))))) dX13_feed_74 ?_
  refine lv_aload_n hx hb dX13_feed_77 rfl (lv_at hl 2 rfl) ?_
  refine va_get (D := (dC, dI)) (ci := 13) (v := .int 19) (C := RX13) (T := TX13) (N := 104) hx hb hts (jh hin_RX13) hown hK hP 0 (jg_s (n := 79) (jn_s (jn_s (jn_s (jn_s (jn_s (jn_s (jn_s (jn_s (jn_s (jn_s (jn_s (jn_s (jn_s (jn_s (jn_s (jn_s (jn_s (jn_s (jn_s (jn_s (jn_s (jn_s (jn_s (jn_s (jn_s (jn_s (jn_s (jn_s (jn_s (jn_s (jn_s (jn_s (jn_s (jn_s (jn_s (jn_s (jn_s rfl))))))))))))))))))))))))))))))))))))) (Nat.le_of_ble_eq_true rfl)) rfl 1 (by decide) (hts (.fieldLink RX13 252 "BookOfAllModel" "size" "I") (jm m_492)) (fun _ h9 => h9) (jg_s (n := 104) (jn_s (jn_s (jn_s (jn_s (jn_s (jn_s (jn_s (jn_s (jn_s (jn_s (jn_s (jn_s (jn_s (jn_s (jn_s (jn_s (jn_s (jn_s rfl)))))))))))))))))) (Nat.le_of_ble_eq_true rfl)) dX13_feed_78 ?_
  refine lv_iload hx hb dX13_feed_81 (lv_at hl 0 rfl) ?_
  refine lv_bipush (v := 24) hx hb dX13_feed_83 (by decide) ?_
  refine lv_bipush (v := 8) hx hb dX13_feed_85 (by decide) ?_
  refine lv_iload hx hb dX13_feed_87 (lv_at hl 1 rfl) ?_
  refine lv_iconst (v := 4) hx hb dX13_feed_89 (by decide) ?_
  refine lv_irem hx hb dX13_feed_90 (by decide) ?_
  refine jt_i 3 (by decide) ?_
  refine lv_imul hx hb dX13_feed_91 ?_
  refine jt_i 24 (by decide) ?_
  refine lv_isub hx hb dX13_feed_92 ?_
  refine jt_i 0 (by decide) ?_
  refine lv_ishr hx hb dX13_feed_93 ?_
  refine lv_i2b (v := ((p5 >>> (0 &&& 31)).toInt8.toInt32)) hx hb dX13_feed_94 rfl ?_
  refine va_bast hx hb hK hP hD hS 1 0 (jg_n (Nat.ne_of_beq_eq_false rfl) (jg_s (n := 79) (jn_s (jn_s (jn_s (jn_s (jn_s (jn_s (jn_s (jn_s (jn_s (jn_s (jn_s (jn_s (jn_s (jn_s (jn_s (jn_s (jn_s (jn_s (jn_s (jn_s (jn_s (jn_s (jn_s (jn_s (jn_s (jn_s (jn_s (jn_s (jn_s (jn_s (jn_s (jn_s (jn_s (jn_s (jn_s (jn_s rfl)))))))))))))))))))))))))))))))))))) (Nat.le_of_ble_eq_true rfl))) rfl (vp_in_nI (n := 19) (by decide) (by decide)) dX13_feed_95 (fun H locs hP hD hS => ?_)
  refine lv_aload_n hx hb dX13_feed_96 rfl (lv_at hl 2 rfl) ?_
  refine lv_dup hx hb dX13_feed_97 rfl ?_
  refine va_get (D := (dC, dI)) (ci := 13) (v := .int 19) (C := RX13) (T := TX13) (N := 104) hx hb hts (jh hin_RX13) hown hK hP 0 (jg_n (Nat.ne_of_beq_eq_false rfl) (jg_s (n := 79) (jn_s (jn_s (jn_s (jn_s (jn_s (jn_s (jn_s (jn_s (jn_s (jn_s (jn_s (jn_s (jn_s (jn_s (jn_s (jn_s (jn_s (jn_s (jn_s (jn_s (jn_s (jn_s (jn_s (jn_s (jn_s (jn_s (jn_s (jn_s (jn_s (jn_s (jn_s (jn_s (jn_s (jn_s (jn_s (jn_s (jn_s rfl))))))))))))))))))))))))))))))))))))) (Nat.le_of_ble_eq_true rfl))) rfl 1 (by decide) (hts (.fieldLink RX13 252 "BookOfAllModel" "size" "I") (jm m_492)) (fun _ h9 => h9) (jg_s (n := 104) (jn_s (jn_s (jn_s (jn_s (jn_s (jn_s (jn_s (jn_s (jn_s (jn_s (jn_s (jn_s (jn_s (jn_s (jn_s (jn_s (jn_s (jn_s rfl)))))))))))))))))) (Nat.le_of_ble_eq_true rfl)) dX13_feed_98 ?_
  refine lv_iconst (v := 1) hx hb dX13_feed_101 (by decide) ?_
  refine lv_iadd hx hb dX13_feed_102 ?_
  refine jt_i 20 (by decide) ?_
  refine va_put (D := (dC, dI)) (ci := 13) (v := .int 20) (ty := .int) (C := RX13) (T := TX13) (N := 104) hx hb hts (jh hin_RX13) tyX13 tyX13_ok nmX13 hown hK hP hD hS 0 (jg_n (Nat.ne_of_beq_eq_false rfl) (jg_s (n := 79) (jn_s (jn_s (jn_s (jn_s (jn_s (jn_s (jn_s (jn_s (jn_s (jn_s (jn_s (jn_s (jn_s (jn_s (jn_s (jn_s (jn_s (jn_s (jn_s (jn_s (jn_s (jn_s (jn_s (jn_s (jn_s (jn_s (jn_s (jn_s (jn_s (jn_s (jn_s (jn_s (jn_s (jn_s (jn_s (jn_s (jn_s rfl))))))))))))))))))))))))))))))))))))) (Nat.le_of_ble_eq_true rfl))) rfl 1 (by decide) (hts (.fieldLink RX13 252 "BookOfAllModel" "size" "I") (jm m_492)) (fun _ h9 => h9) rfl (by decide +kernel) rfl rfl (jn_lt (n := 104) (jn_s (jn_s (jn_s (jn_s (jn_s (jn_s (jn_s (jn_s (jn_s (jn_s (jn_s (jn_s (jn_s (jn_s (jn_s (jn_s (jn_s (jn_s (jn_s rfl))))))))))))))))))) (Nat.le_of_ble_eq_true rfl)) dX13_feed_103 (fun H locs hP hD hS => ?_)
  refine lv_iinc (v := 20) (lv' := [(6, .int 20), (7, .int p5), (0, .ref (ad 0)), (1, .int p1), (2, .int p2), (3, .int p3), (4, .int p4), (5, .int p5)]) hx hb dX13_feed_106 hl (k := 1) rfl (by decide) (by decide) rfl (fun ls hl => ?_)
  refine lv_goto (tgt := 18) hx hb dX13_feed_109 (by decide) ?_
  refine lv_iload hx hb dX13_feed_18 (lv_at hl 0 rfl) ?_
  refine lv_bipush (v := 20) hx hb dX13_feed_20 (by decide) ?_
  refine lv_icmp_ge (tgt := 112) hx hb dX13_feed_22 (by decide) (fun _ => ?_) (fun z => absurd (by decide) z)
  refine lv_aload_n hx hb dX13_feed_112 rfl (lv_at hl 2 rfl) ?_
  refine va_get (D := (dC, dI)) (ci := 13) (v := .int 20) (C := RX13) (T := TX13) (N := 104) hx hb hts (jh hin_RX13) hown hK hP 0 (jg_s (n := 79) (jn_s (jn_s (jn_s (jn_s (jn_s (jn_s (jn_s (jn_s (jn_s (jn_s (jn_s (jn_s (jn_s (jn_s (jn_s (jn_s (jn_s (jn_s (jn_s (jn_s (jn_s (jn_s (jn_s (jn_s (jn_s (jn_s (jn_s (jn_s (jn_s (jn_s (jn_s (jn_s (jn_s (jn_s (jn_s (jn_s (jn_s (jn_s (jn_s rfl))))))))))))))))))))))))))))))))))))))) (Nat.le_of_ble_eq_true rfl)) rfl 1 (by decide) (hts (.fieldLink RX13 252 "BookOfAllModel" "size" "I") (jm m_492)) (fun _ h9 => h9) (jg_s (n := 104) (jn_s (jn_s (jn_s (jn_s (jn_s (jn_s (jn_s (jn_s (jn_s (jn_s (jn_s (jn_s (jn_s (jn_s (jn_s (jn_s (jn_s (jn_s (jn_s rfl))))))))))))))))))) (Nat.le_of_ble_eq_true rfl)) dX13_feed_113 ?_
  exact W.iret (v := 20) hx hb hr (fun t ht hW => ⟨⟨20, (), rfl, rfl, trivial⟩, hS.F ht⟩) hS.2.2 dX13_feed_116
