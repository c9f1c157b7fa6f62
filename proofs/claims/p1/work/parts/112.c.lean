theorem s_tX12_article_0 {p1 p2 p3 p4 : Int32} (c_1 : p4 < 0) : (-1) = sp_article p1 p2 p3 p4 := by
  unfold sp_article
  have g0 : p4.toInt < 0 := ji_lt.mp c_1
  split <;> first | rfl | (exfalso; omega)
theorem s_tX12_article_1 {p1 p2 p3 p4 : Int32} (c_1 : ¬ (p4 < 0)) (c_2 : 2 < (p4 / 10000)) : (-1) = sp_article p1 p2 p3 p4 := by
  unfold sp_article
  have g0 : ¬ (p4.toInt < 0) := fun z => c_1 (ji_lt.mpr z)
  have g1 : 2 < (p4 / 10000).toInt := ji_lt.mp c_2
  split <;> first | rfl | (exfalso; omega)
theorem s_tX12_article_2 {p1 p2 p3 p4 : Int32} (c_1 : ¬ (p4 < 0)) (c_2 : ¬ (2 < (p4 / 10000))) (c_3 : 7 < ((p4 / 1000) - (p4 / 1000) / 10 * 10)) : (-1) = sp_article p1 p2 p3 p4 := by
  unfold sp_article
  have g0 : ¬ (p4.toInt < 0) := fun z => c_1 (ji_lt.mpr z)
  have g1 : ¬ (2 < (p4 / 10000).toInt) := fun z => c_2 (ji_lt.mpr z)
  have g2 : 7 < ((p4 / 1000) - (p4 / 1000) / 10 * 10).toInt := ji_lt.mp c_3
  split <;> first | rfl | (exfalso; omega)
theorem s_tX12_article_3 {p1 p2 p3 p4 : Int32} (c_1 : ¬ (p4 < 0)) (c_2 : ¬ (2 < (p4 / 10000))) (c_3 : ¬ (7 < ((p4 / 1000) - (p4 / 1000) / 10 * 10))) (c_4 : (p4 - p4 / 1000 * 1000) < 1) : (-1) = sp_article p1 p2 p3 p4 := by
  unfold sp_article
  have g0 : ¬ (p4.toInt < 0) := fun z => c_1 (ji_lt.mpr z)
  have g1 : ¬ (2 < (p4 / 10000).toInt) := fun z => c_2 (ji_lt.mpr z)
  have g2 : ¬ (7 < ((p4 / 1000) - (p4 / 1000) / 10 * 10).toInt) := fun z => c_3 (ji_lt.mpr z)
  have g3 : (p4 - p4 / 1000 * 1000).toInt < 1 := ji_lt.mp c_4
  split <;> first | rfl | (exfalso; omega)
theorem s_tX12_article_4 {p1 p2 p3 p4 : Int32} (c_1 : ¬ (p4 < 0)) (c_2 : ¬ (2 < (p4 / 10000))) (c_3 : ¬ (7 < ((p4 / 1000) - (p4 / 1000) / 10 * 10))) (c_4 : ¬ ((p4 - p4 / 1000 * 1000) < 1)) (c_5 : (p4 - p4 / 1000 * 1000) ≤ 200) (c_7 : jN p1 p2 p3 = 0) : (-1) = sp_article p1 p2 p3 p4 := by
  unfold sp_article
  have g0 : ¬ (p4.toInt < 0) := fun z => c_1 (ji_lt.mpr z)
  have g1 : ¬ (2 < (p4 / 10000).toInt) := fun z => c_2 (ji_lt.mpr z)
  have g2 : ¬ (7 < ((p4 / 1000) - (p4 / 1000) / 10 * 10).toInt) := fun z => c_3 (ji_lt.mpr z)
  have g3 : ¬ ((p4 - p4 / 1000 * 1000).toInt < 1) := fun z => c_4 (ji_lt.mpr z)
  have g4 : (p4 - p4 / 1000 * 1000).toInt ≤ 200 := ji_le.mp c_5
  have g5 := c_7
  split <;> first | rfl | (exfalso; omega)
theorem s_tX12_article_5 {p1 p2 p3 p4 : Int32} (c_1 : ¬ (p4 < 0)) (c_2 : ¬ (2 < (p4 / 10000))) (c_3 : ¬ (7 < ((p4 / 1000) - (p4 / 1000) / 10 * 10))) (c_4 : ¬ ((p4 - p4 / 1000 * 1000) < 1)) (c_5 : (p4 - p4 / 1000 * 1000) ≤ 200) (c_8 : ¬ (jN p1 p2 p3 = 0)) : 0 = sp_article p1 p2 p3 p4 := by
  unfold sp_article
  have g0 : ¬ (p4.toInt < 0) := fun z => c_1 (ji_lt.mpr z)
  have g1 : ¬ (2 < (p4 / 10000).toInt) := fun z => c_2 (ji_lt.mpr z)
  have g2 : ¬ (7 < ((p4 / 1000) - (p4 / 1000) / 10 * 10).toInt) := fun z => c_3 (ji_lt.mpr z)
  have g3 : ¬ ((p4 - p4 / 1000 * 1000).toInt < 1) := fun z => c_4 (ji_lt.mpr z)
  have g4 : (p4 - p4 / 1000 * 1000).toInt ≤ 200 := ji_le.mp c_5
  have g5 := c_8
  split <;> first | rfl | (exfalso; omega)
theorem s_tX12_article_6 {p1 p2 p3 p4 : Int32} (c_1 : ¬ (p4 < 0)) (c_2 : ¬ (2 < (p4 / 10000))) (c_3 : ¬ (7 < ((p4 / 1000) - (p4 / 1000) / 10 * 10))) (c_4 : ¬ ((p4 - p4 / 1000 * 1000) < 1)) (c_5 : ¬ ((p4 - p4 / 1000 * 1000) ≤ 200)) : (-1) = sp_article p1 p2 p3 p4 := by
  unfold sp_article
  have g0 : ¬ (p4.toInt < 0) := fun z => c_1 (ji_lt.mpr z)
  have g1 : ¬ (2 < (p4 / 10000).toInt) := fun z => c_2 (ji_lt.mpr z)
  have g2 : ¬ (7 < ((p4 / 1000) - (p4 / 1000) / 10 * 10).toInt) := fun z => c_3 (ji_lt.mpr z)
  have g3 : ¬ ((p4 - p4 / 1000 * 1000).toInt < 1) := fun z => c_4 (ji_lt.mpr z)
  have g4 : ¬ ((p4 - p4 / 1000 * 1000).toInt ≤ 200) := fun z => c_5 (ji_le.mpr z)
  split <;> first | rfl | (exfalso; omega)
set_option maxHeartbeats 500000 in
set_option maxRecDepth 100000 in
theorem tX12_article (l : Launch) (dC : Nat → ClassId) (dI : Nat → Nat → Nat) (sz : Nat) (ad : Nat → Nat) (ca : Nat → ClassId) (p1 : Int32) (p2 : Int32) (p3 : Int32) (p4 : Int32) (tW : Nat) : Met l yX12_article (jk yX12_article cX12_article 9 (some .int)) ({ frames := 5, cells := 2, slots := 30, locals := 177 }) (va_Pc [.ref (ad 0), .int p1, .int p2, .int p3, .int p4] (jw_PZ (dC, dI) (xW ad ca) (xT ca) sz tW)) (va_Qi (fun (r : Int32) (_ : Unit) => r = sp_article p1 p2 p3 p4) (fun _ _ => True) (va_A (xW ad ca) sz)) 2 30 (va_A (xW ad ca) sz) := by
  sorry
set_option maxHeartbeats 500000 in
set_option maxRecDepth 100000 in
theorem kX12_entryAt_2 (l : Launch) (dC : Nat → ClassId) (dI : Nat → Nat → Nat) (sz : Nat) (ad : Nat → Nat) (ca : Nat → ClassId) (p1 : Int32) : Met l yX12_entryAt (jk yX12_entryAt cX12_entryAt 2 (some (.object "BookOfAll$Entry"))) ({ frames := 0, cells := 0, slots := 0, locals := 0 }) (va_Pc [.ref (ad 0), .int p1] (jw_P (dC, dI) (xW ad ca) (xT ca) sz)) (va_Qq (fun (r : Option Nat) (_ : Unit) => (r = none)) (fun _ _ => True) (va_A [] sz)) 0 0 (va_A [] sz) := by
  refine Met.ofW (cc := cX12_entryAt) (maxL := 2) (ret := (some (.object "BookOfAll$Entry"))) (by decide) rfl ?_
  intro p e s m args below meth c s₁ B hml hv
  obtain ⟨rfl, hsz, hP, hK, hD0⟩ := hv
  have hx := B.exec
  have hb := B.bytes
  have hr := B.returns
  have hts := atoms_spec (ws := (jk yX12_entryAt cX12_entryAt 2 (some (.object "BookOfAll$Entry")))) B.pre
  have hown : s.vm.findClass RX12 = some m.cls := findClass_of_methodNamed B.named
  have hlocks := B.notSynchronized
  subst hsz
  have hD := hD0
  generalize hAe : (va_A [] s.heap.size) = A
  have hA : ∀ q : Nat, s.heap.size ≤ q → A q := fun q h => by rw [← hAe]; exact Or.inr h
  have hS : va_S A s.heap s.heap [] := va_S.rf
  have hP : va_P (dC, dI) vwCl (xW ad ca) s.heap := hP
  have hl := lv_entry ([.ref (ad 0), .int p1]) (n := 2) (Nat.le_of_ble_eq_true rfl)
  rw [lg_entry_eq]
  generalize (lg_sl ([.ref (ad 0), .int p1]) ++ List.replicate (2 - (lg_sl ([.ref (ad 0), .int p1])).length) Slot.unset).toArray = ls at hl ⊢
  have hl : lv_has ls 2 [(0, .ref (ad 0)), (1, .int p1)] := hl
  refine lv_iload_n hx hb dX12_entryAt_0 rfl (lv_at hl 1 rfl) ?_
  refine lv_if_lt (tgt := 27) hx hb dX12_entryAt_1 (by decide) (fun c_1 => ?_) (fun c_1 => ?_)
  · refine lv_null hx hb dX12_entryAt_27 ?_
    exact W.aret (v := .null) hx hb hr (Or.inl ⟨_, rfl⟩) (Or.inl rfl) (fun t ht hW => ⟨⟨none, (), rfl, rfl, trivial⟩, hS.F ht⟩) hS.2.2 dX12_entryAt_28
  · refine lv_iload_n hx hb dX12_entryAt_4 rfl (lv_at hl 1 rfl) ?_
    refine lv_aload_n hx hb dX12_entryAt_5 rfl (lv_at hl 0 rfl) ?_
    refine va_get (D := (dC, dI)) (ci := 12) (v := .int 0) (C := RX12) (T := TX12) (N := 20) hx hb hts (jh hin_RX12) hown hK hP 0 rfl rfl 7 (by decide) (hts (.fieldLink RX12 203 "BookOfAll" "entryCount" "I") (jm m_259)) (fun _ h9 => h9) rfl dX12_entryAt_6 ?_
    refine lv_icmp_ge (tgt := 27) hx hb dX12_entryAt_9 (by decide) (fun _ => ?_) (fun z => absurd (jb_ge (jl_nlt c_1) (by decide)) z)
    refine lv_null hx hb dX12_entryAt_27 ?_
    exact W.aret (v := .null) hx hb hr (Or.inl ⟨_, rfl⟩) (Or.inl rfl) (fun t ht hW => ⟨⟨none, (), rfl, rfl, trivial⟩, hS.F ht⟩) hS.2.2 dX12_entryAt_28
set_option maxHeartbeats 500000 in
set_option maxRecDepth 100000 in
theorem tX12_pointer (l : Launch) (dC : Nat → ClassId) (dI : Nat → Nat → Nat) (sz : Nat) (ad : Nat → Nat) (ca : Nat → ClassId) (p1 : Int32) (p2 : Int32) (p3 : Int32) (p4 : Int32) : Met l yX12_pointer (jk yX12_pointer cX12_pointer 6 (some .int)) ({ frames := 1, cells := 0, slots := 0, locals := 21 }) (va_Pc [.ref (ad 0), .int p1, .int p2, .int p3, .int p4] (jw_P (dC, dI) (xW ad ca) (xT ca) sz)) (va_Qi (fun (r : Int32) (_ : Unit) => (r = (-1))) (fun _ _ => True) (va_A [] sz)) 0 0 (va_A [] sz) := by
  refine Met.ofW (cc := cX12_pointer) (maxL := 6) (ret := (some .int)) (by decide) rfl ?_
  intro p e s m args below meth c s₁ B hml hv
  obtain ⟨rfl, hsz, hP, hK, hD0⟩ := hv
  have hx := B.exec
  have hb := B.bytes
  have hr := B.returns
  have hts := atoms_spec (ws := (jk yX12_pointer cX12_pointer 6 (some .int))) B.pre
  have hown : s.vm.findClass RX12 = some m.cls := findClass_of_methodNamed B.named
  have hlocks := B.notSynchronized
  subst hsz
  have hD := hD0
  generalize hAe : (va_A [] s.heap.size) = A
  have hA : ∀ q : Nat, s.heap.size ≤ q → A q := fun q h => by rw [← hAe]; exact Or.inr h
  have hS : va_S A s.heap s.heap [] := va_S.rf
  have hP : va_P (dC, dI) vwCl (xW ad ca) s.heap := hP
  have hl := lv_entry ([.ref (ad 0), .int p1, .int p2, .int p3, .int p4]) (n := 6) (Nat.le_of_ble_eq_true rfl)
  rw [lg_entry_eq]
  generalize (lg_sl ([.ref (ad 0), .int p1, .int p2, .int p3, .int p4]) ++ List.replicate (6 - (lg_sl ([.ref (ad 0), .int p1, .int p2, .int p3, .int p4])).length) Slot.unset).toArray = ls at hl ⊢
  have hl : lv_has ls 6 [(0, .ref (ad 0)), (1, .int p1), (2, .int p2), (3, .int p3), (4, .int p4)] := hl
  refine lv_aload_n hx hb dX12_pointer_0 rfl (lv_at hl 0 rfl) ?_
  refine lv_iload hx hb dX12_pointer_1 (lv_at hl 4 rfl) ?_
  refine jc_q (va_runV (As := [.int p4]) (rest := []) ⟨hx, hb, hml, hown, hts⟩ (kX12_entryAt_2 l dC dI _ ad ca p4) (cwV 1 hts (jgoodV m_316 m_317 m_318 m_210 m_319) rfl rfl rfl (by decide +kernel) ⟨Nat.le_of_ble_eq_true rfl, Nat.le_of_ble_eq_true rfl⟩) ⟨jw_blind, va_recv hK hP (ci := 12) (q0 := 0) rfl rfl, fun U hU hW => ⟨rfl, jw_of hU hW hP hK hD⟩⟩ rfl rfl hl.1 rfl (lv_room (Nat.le_of_ble_eq_true rfl)) dX12_pointer_3 ⟨Nat.le_of_ble_eq_true rfl, Nat.le_of_ble_eq_true rfl⟩) hP hS hA (fun r_1 H locs hw_1 hP hS => ?_)
  have hw_1 : r_1 = none := hw_1
  subst hw_1
  refine jt_q Value.null rfl ?_
  refine lv_ifnonnullN hx hb dX12_pointer_6 ?_
  refine lv_iconst (v := (-1)) hx hb dX12_pointer_9 (by decide) ?_
  exact W.iret (v := (-1)) hx hb hr (fun t ht hW => ⟨⟨(-1), (), rfl, rfl, trivial⟩, hS.F ht⟩) hS.2.2 dX12_pointer_10
set_option maxHeartbeats 500000 in
set_option maxRecDepth 100000 in
theorem kX12_areEntries_2 (l : Launch) (dC : Nat → ClassId) (dI : Nat → Nat → Nat) (sz : Nat) (ad : Nat → Nat) (ca : Nat → ClassId) (p1 : Int32) (p2 : Int32) : Met l yX12_areEntries (jk yX12_areEntries cX12_areEntries 8 (some .boolean)) ({ frames := 1, cells := 0, slots := 0, locals := 21 }) (va_Pc [.ref (ad 0), .int p1, .int p2] (jw_P (dC, dI) (xW ad ca) (xT ca) sz)) (va_Qi (fun (r : Int32) (_ : Unit) => (r = 0)) (fun _ _ => True) (va_A [] sz)) 0 0 (va_A [] sz) := by
  refine Met.ofW (cc := cX12_areEntries) (maxL := 8) (ret := (some .boolean)) (by decide) rfl ?_
  intro p e s m args below meth c s₁ B hml hv
  obtain ⟨rfl, hsz, hP, hK, hD0⟩ := hv
  have hx := B.exec
  have hb := B.bytes
  have hr := B.returns
  have hts := atoms_spec (ws := (jk yX12_areEntries cX12_areEntries 8 (some .boolean))) B.pre
  have hown : s.vm.findClass RX12 = some m.cls := findClass_of_methodNamed B.named
  have hlocks := B.notSynchronized
  subst hsz
  have hD := hD0
  generalize hAe : (va_A [] s.heap.size) = A
  have hA : ∀ q : Nat, s.heap.size ≤ q → A q := fun q h => by rw [← hAe]; exact Or.inr h
  have hS : va_S A s.heap s.heap [] := va_S.rf
  have hP : va_P (dC, dI) vwCl (xW ad ca) s.heap := hP
  have hl := lv_entry ([.ref (ad 0), .int p1, .int p2]) (n := 8) (Nat.le_of_ble_eq_true rfl)
  rw [lg_entry_eq]
  generalize (lg_sl ([.ref (ad 0), .int p1, .int p2]) ++ List.replicate (8 - (lg_sl ([.ref (ad 0), .int p1, .int p2])).length) Slot.unset).toArray = ls at hl ⊢
  have hl : lv_has ls 8 [(0, .ref (ad 0)), (1, .int p1), (2, .int p2)] := hl
  refine lv_iload_n hx hb dX12_areEntries_0 rfl (lv_at hl 1 rfl) ?_
  refine lv_if_lt (tgt := 14) hx hb dX12_areEntries_1 (by decide) (fun c_1 => ?_) (fun c_1 => ?_)
  · refine lv_iconst (v := 0) hx hb dX12_areEntries_14 (by decide) ?_
    exact W.zret (v := 0) (ty := .boolean) hx hb hr rfl (fun t ht hW => ⟨⟨0, (), rfl, rfl, trivial⟩, hS.F ht⟩) hS.2.2 dX12_areEntries_15
  · refine lv_iload_n hx hb dX12_areEntries_4 rfl (lv_at hl 2 rfl) ?_
    refine lv_iconst (v := 1) hx hb dX12_areEntries_5 (by decide) ?_
    refine lv_icmp_lt (tgt := 14) hx hb dX12_areEntries_6 (by decide) (fun c_2 => ?_) (fun c_2 => ?_)
    · refine lv_iconst (v := 0) hx hb dX12_areEntries_14 (by decide) ?_
      exact W.zret (v := 0) (ty := .boolean) hx hb hr rfl (fun t ht hW => ⟨⟨0, (), rfl, rfl, trivial⟩, hS.F ht⟩) hS.2.2 dX12_areEntries_15
    · refine lv_iload_n hx hb dX12_areEntries_9 rfl (lv_at hl 2 rfl) ?_
      refine lv_iconst (v := 4) hx hb dX12_areEntries_10 (by decide) ?_
      refine lv_icmp_le (tgt := 16) hx hb dX12_areEntries_11 (by decide) (fun c_3 => ?_) (fun c_3 => ?_)
      · refine lv_lconst (v := 0) hx hb dX12_areEntries_16 (by decide) ?_
        refine lv_lstore_n (lv' := [(3, .long 0), (0, .ref (ad 0)), (1, .int p1), (2, .int p2)]) hx hb dX12_areEntries_17 rfl hl (by decide) rfl (fun ls hl => ?_)
        refine lv_iload_n hx hb dX12_areEntries_18 rfl (lv_at hl 2 rfl) ?_
        refine lv_istore (lv' := [(5, .int p1), (3, .long 0), (0, .ref (ad 0)), (1, .int p1), (2, .int p2)]) hx hb dX12_areEntries_19 hl (by decide) rfl (fun ls hl => ?_)
        refine lv_iconst (v := 0) hx hb dX12_areEntries_21 (by decide) ?_
        refine lv_istore (lv' := [(6, .int 0), (5, .int p1), (3, .long 0), (0, .ref (ad 0)), (1, .int p1), (2, .int p2)]) hx hb dX12_areEntries_22 hl (by decide) rfl (fun ls hl => ?_)
        refine lv_iload hx hb dX12_areEntries_24 (lv_at hl 0 rfl) ?_
        refine lv_iload_n hx hb dX12_areEntries_26 rfl (lv_at hl 5 rfl) ?_
        refine lv_icmp_ge (tgt := 79) hx hb dX12_areEntries_27 (by decide) (fun z => absurd z (jb_nle (jl_nlt c_2) (by decide))) (fun _ => ?_)
        refine lv_iload hx hb dX12_areEntries_30 (lv_at hl 1 rfl) ?_
        refine lv_bipush (v := 100) hx hb dX12_areEntries_32 (by decide) ?_
        refine lv_irem hx hb dX12_areEntries_34 (by decide) ?_
        refine lv_istore (lv' := [(7, .int (p1 - p1 / 100 * 100)), (6, .int 0), (5, .int p1), (3, .long 0), (0, .ref (ad 0)), (1, .int p1), (2, .int p2)]) hx hb dX12_areEntries_35 hl (by decide) rfl (fun ls hl => ?_)
        refine lv_aload_n hx hb dX12_areEntries_37 rfl (lv_at hl 4 rfl) ?_
        refine lv_iload hx hb dX12_areEntries_38 (lv_at hl 0 rfl) ?_
        refine jc_q (va_runV (As := [.int (p1 - p1 / 100 * 100)]) (rest := []) ⟨hx, hb, hml, hown, hts⟩ (kX12_entryAt_2 l dC dI _ ad ca (p1 - p1 / 100 * 100)) (cwV 1 hts (jgoodV m_316 m_317 m_318 m_210 m_319) rfl rfl rfl (by decide +kernel) ⟨Nat.le_of_ble_eq_true rfl, Nat.le_of_ble_eq_true rfl⟩) ⟨jw_blind, va_recv hK hP (ci := 12) (q0 := 0) rfl rfl, fun U hU hW => ⟨rfl, jw_of hU hW hP hK hD⟩⟩ rfl rfl hl.1 rfl (lv_room (Nat.le_of_ble_eq_true rfl)) dX12_areEntries_40 ⟨Nat.le_of_ble_eq_true rfl, Nat.le_of_ble_eq_true rfl⟩) hP hS hA (fun r_4 H locs hw_4 hP hS => ?_)
        have hw_4 : r_4 = none := hw_4
        subst hw_4
        refine jt_q Value.null rfl ?_
        refine lv_ifnullN (tgt := 57) hx hb dX12_areEntries_43 (by decide) ?_
        refine lv_iconst (v := 0) hx hb dX12_areEntries_57 (by decide) ?_
        exact W.zret (v := 0) (ty := .boolean) hx hb hr rfl (fun t ht hW => ⟨⟨0, (), rfl, rfl, trivial⟩, hS.F ht⟩) hS.2.2 dX12_areEntries_58
      · refine lv_iconst (v := 0) hx hb dX12_areEntries_14 (by decide) ?_
        exact W.zret (v := 0) (ty := .boolean) hx hb hr rfl (fun t ht hW => ⟨⟨0, (), rfl, rfl, trivial⟩, hS.F ht⟩) hS.2.2 dX12_areEntries_15
set_option maxHeartbeats 500000 in
set_option maxRecDepth 100000 in
theorem tX12_plate (l : Launch) (dC : Nat → ClassId) (dI : Nat → Nat → Nat) (sz : Nat) (ad : Nat → Nat) (ca : Nat → ClassId) (p1 : Int32) (p2 : Int32) (p3 : Int32) (p4 : Int32) (p5 : Int32) : Met l yX12_plate (jk yX12_plate cX12_plate 7 (some .int)) ({ frames := 2, cells := 0, slots := 0, locals := 48 }) (va_Pc [.ref (ad 0), .int p1, .int p2, .int p3, .int p4, .int p5] (jw_P (dC, dI) (xW ad ca) (xT ca) sz)) (va_Qi (fun (r : Int32) (_ : Unit) => (r = (-1))) (fun _ _ => True) (va_A [] sz)) 0 0 (va_A [] sz) := by
  refine Met.ofW (cc := cX12_plate) (maxL := 7) (ret := (some .int)) (by decide) rfl ?_
  intro p e s m args below meth c s₁ B hml hv
  obtain ⟨rfl, hsz, hP, hK, hD0⟩ := hv
  have hx := B.exec
  have hb := B.bytes
  have hr := B.returns
  have hts := atoms_spec (ws := (jk yX12_plate cX12_plate 7 (some .int))) B.pre
  have hown : s.vm.findClass RX12 = some m.cls := findClass_of_methodNamed B.named
  have hlocks := B.notSynchronized
  subst hsz
  have hD := hD0
  generalize hAe : (va_A [] s.heap.size) = A
  have hA : ∀ q : Nat, s.heap.size ≤ q → A q := fun q h => by rw [← hAe]; exact Or.inr h
  have hS : va_S A s.heap s.heap [] := va_S.rf
  have hP : va_P (dC, dI) vwCl (xW ad ca) s.heap := hP
  have hl := lv_entry ([.ref (ad 0), .int p1, .int p2, .int p3, .int p4, .int p5]) (n := 7) (Nat.le_of_ble_eq_true rfl)
  rw [lg_entry_eq]
  generalize (lg_sl ([.ref (ad 0), .int p1, .int p2, .int p3, .int p4, .int p5]) ++ List.replicate (7 - (lg_sl ([.ref (ad 0), .int p1, .int p2, .int p3, .int p4, .int p5])).length) Slot.unset).toArray = ls at hl ⊢
  have hl : lv_has ls 7 [(0, .ref (ad 0)), (1, .int p1), (2, .int p2), (3, .int p3), (4, .int p4), (5, .int p5)] := hl
  refine lv_aload_n hx hb dX12_plate_0 rfl (lv_at hl 0 rfl) ?_
  refine lv_iload hx hb dX12_plate_1 (lv_at hl 4 rfl) ?_
  refine lv_iload hx hb dX12_plate_3 (lv_at hl 5 rfl) ?_
  refine jc_i (va_runV (As := [.int p4, .int p5]) (rest := []) ⟨hx, hb, hml, hown, hts⟩ (kX12_areEntries_2 l dC dI _ ad ca p4 p5) (cwV 2 hts (jgoodV m_320 m_321 m_322 m_210 m_323) rfl rfl rfl (by decide +kernel) ⟨Nat.le_of_ble_eq_true rfl, Nat.le_of_ble_eq_true rfl⟩) ⟨jw_blind, va_recv hK hP (ci := 12) (q0 := 0) rfl rfl, fun U hU hW => ⟨rfl, jw_of hU hW hP hK hD⟩⟩ rfl rfl hl.1 rfl (lv_room (Nat.le_of_ble_eq_true rfl)) dX12_plate_5 ⟨Nat.le_of_ble_eq_true rfl, Nat.le_of_ble_eq_true rfl⟩) hP hS hA (fun r_1 H locs hw_1 hP hS => ?_)
  have hw_1 : r_1 = 0 := hw_1
  subst hw_1
  refine lv_if_ne (tgt := 13) hx hb dX12_plate_8 (by decide) (fun z => absurd (by decide) z) (fun _ => ?_)
  refine lv_iconst (v := (-1)) hx hb dX12_plate_11 (by decide) ?_
  exact W.iret (v := (-1)) hx hb hr (fun t ht hW => ⟨⟨(-1), (), rfl, rfl, trivial⟩, hS.F ht⟩) hS.2.2 dX12_plate_12
set_option maxHeartbeats 500000 in
set_option maxRecDepth 100000 in
theorem kX12_entryOfKind_2 (l : Launch) (dC : Nat → ClassId) (dI : Nat → Nat → Nat) (sz : Nat) (ad : Nat → Nat) (ca : Nat → ClassId) (p1 : Int32) : Met l yX12_entryOfKind (jk yX12_entryOfKind cX12_entryOfKind 4 (some (.object "BookOfAll$Entry"))) ({ frames := 1, cells := 0, slots := 0, locals := 21 }) (va_Pc [.ref (ad 0), .int p1, .int 1] (jw_P (dC, dI) (xW ad ca) (xT ca) sz)) (va_Qq (fun (r : Option Nat) (_ : Unit) => (r = none)) (fun _ _ => True) (va_A [] sz)) 0 0 (va_A [] sz) := by
  refine Met.ofW (cc := cX12_entryOfKind) (maxL := 4) (ret := (some (.object "BookOfAll$Entry"))) (by decide) rfl ?_
  intro p e s m args below meth c s₁ B hml hv
  obtain ⟨rfl, hsz, hP, hK, hD0⟩ := hv
  have hx := B.exec
  have hb := B.bytes
  have hr := B.returns
  have hts := atoms_spec (ws := (jk yX12_entryOfKind cX12_entryOfKind 4 (some (.object "BookOfAll$Entry")))) B.pre
  have hown : s.vm.findClass RX12 = some m.cls := findClass_of_methodNamed B.named
  have hlocks := B.notSynchronized
  subst hsz
  have hD := hD0
  generalize hAe : (va_A [] s.heap.size) = A
  have hA : ∀ q : Nat, s.heap.size ≤ q → A q := fun q h => by rw [← hAe]; exact Or.inr h
  have hS : va_S A s.heap s.heap [] := va_S.rf
  have hP : va_P (dC, dI) vwCl (xW ad ca) s.heap := hP
  have hl := lv_entry ([.ref (ad 0), .int p1, .int 1]) (n := 4) (Nat.le_of_ble_eq_true rfl)
  rw [lg_entry_eq]
  generalize (lg_sl ([.ref (ad 0), .int p1, .int 1]) ++ List.replicate (4 - (lg_sl ([.ref (ad 0), .int p1, .int 1])).length) Slot.unset).toArray = ls at hl ⊢
  have hl : lv_has ls 4 [(0, .ref (ad 0)), (1, .int p1), (2, .int 1)] := hl
  refine lv_aload_n hx hb dX12_entryOfKind_0 rfl (lv_at hl 0 rfl) ?_
  refine lv_iload_n hx hb dX12_entryOfKind_1 rfl (lv_at hl 1 rfl) ?_
  refine jc_q (va_runV (As := [.int p1]) (rest := []) ⟨hx, hb, hml, hown, hts⟩ (kX12_entryAt_2 l dC dI _ ad ca p1) (cwV 1 hts (jgoodV m_316 m_317 m_318 m_210 m_319) rfl rfl rfl (by decide +kernel) ⟨Nat.le_of_ble_eq_true rfl, Nat.le_of_ble_eq_true rfl⟩) ⟨jw_blind, va_recv hK hP (ci := 12) (q0 := 0) rfl rfl, fun U hU hW => ⟨rfl, jw_of hU hW hP hK hD⟩⟩ rfl rfl hl.1 rfl (lv_room (Nat.le_of_ble_eq_true rfl)) dX12_entryOfKind_2 ⟨Nat.le_of_ble_eq_true rfl, Nat.le_of_ble_eq_true rfl⟩) hP hS hA (fun r_1 H locs hw_1 hP hS => ?_)
  have hw_1 : r_1 = none := hw_1
  subst hw_1
  refine jt_q Value.null rfl ?_
  refine lv_astore_nN (lv' := [(3, .null), (0, .ref (ad 0)), (1, .int p1), (2, .int 1)]) hx hb dX12_entryOfKind_5 rfl hl (by decide) rfl (fun ls hl => ?_)
  refine lv_aload_nN hx hb dX12_entryOfKind_6 rfl (lv_at hl 0 rfl) ?_
  refine lv_ifnullN (tgt := 22) hx hb dX12_entryOfKind_7 (by decide) ?_
  refine lv_null hx hb dX12_entryOfKind_22 ?_
  exact W.aret (v := .null) hx hb hr (Or.inl ⟨_, rfl⟩) (Or.inl rfl) (fun t ht hW => ⟨⟨none, (), rfl, rfl, trivial⟩, hS.F ht⟩) hS.2.2 dX12_entryOfKind_23
set_option maxHeartbeats 500000 in
set_option maxRecDepth 100000 in
theorem tX12_points (l : Launch) (dC : Nat → ClassId) (dI : Nat → Nat → Nat) (sz : Nat) (ad : Nat → Nat) (ca : Nat → ClassId) (p1 : Int32) (p2 : Int32) : Met l yX12_points (jk yX12_points cX12_points 4 (some .boolean)) ({ frames := 2, cells := 0, slots := 0, locals := 44 }) (va_Pc [.ref (ad 0), .int p1, .int p2] (jw_P (dC, dI) (xW ad ca) (xT ca) sz)) (va_Qi (fun (r : Int32) (_ : Unit) => (r = 0)) (fun _ _ => True) (va_A [] sz)) 0 0 (va_A [] sz) := by
  refine Met.ofW (cc := cX12_points) (maxL := 4) (ret := (some .boolean)) (by decide) rfl ?_
  intro p e s m args below meth c s₁ B hml hv
  obtain ⟨rfl, hsz, hP, hK, hD0⟩ := hv
  have hx := B.exec
  have hb := B.bytes
  have hr := B.returns
  have hts := atoms_spec (ws := (jk yX12_points cX12_points 4 (some .boolean))) B.pre
  have hown : s.vm.findClass RX12 = some m.cls := findClass_of_methodNamed B.named
  have hlocks := B.notSynchronized
  subst hsz
  have hD := hD0
  generalize hAe : (va_A [] s.heap.size) = A
  have hA : ∀ q : Nat, s.heap.size ≤ q → A q := fun q h => by rw [← hAe]; exact Or.inr h
  have hS : va_S A s.heap s.heap [] := va_S.rf
  have hP : va_P (dC, dI) vwCl (xW ad ca) s.heap := hP
  have hl := lv_entry ([.ref (ad 0), .int p1, .int p2]) (n := 4) (Nat.le_of_ble_eq_true rfl)
  rw [lg_entry_eq]
  generalize (lg_sl ([.ref (ad 0), .int p1, .int p2]) ++ List.replicate (4 - (lg_sl ([.ref (ad 0), .int p1, .int p2])).length) Slot.unset).toArray = ls at hl ⊢
  have hl : lv_has ls 4 [(0, .ref (ad 0)), (1, .int p1), (2, .int p2)] := hl
  refine lv_aload_n hx hb dX12_points_0 rfl (lv_at hl 0 rfl) ?_
  refine lv_iload_n hx hb dX12_points_1 rfl (lv_at hl 1 rfl) ?_
  refine lv_iconst (v := 1) hx hb dX12_points_2 (by decide) ?_
  refine jc_q (va_runV (As := [.int p1, .int 1]) (rest := []) ⟨hx, hb, hml, hown, hts⟩ (kX12_entryOfKind_2 l dC dI _ ad ca p1) (cwV 2 hts (jgoodV m_324 m_325 m_326 m_210 m_327) rfl rfl rfl (by decide +kernel) ⟨Nat.le_of_ble_eq_true rfl, Nat.le_of_ble_eq_true rfl⟩) ⟨jw_blind, va_recv hK hP (ci := 12) (q0 := 0) rfl rfl, fun U hU hW => ⟨rfl, jw_of hU hW hP hK hD⟩⟩ rfl rfl hl.1 rfl (lv_room (Nat.le_of_ble_eq_true rfl)) dX12_points_3 ⟨Nat.le_of_ble_eq_true rfl, Nat.le_of_ble_eq_true rfl⟩) hP hS hA (fun r_1 H locs hw_1 hP hS => ?_)
  have hw_1 : r_1 = none := hw_1
  subst hw_1
  refine jt_q Value.null rfl ?_
  refine lv_astore_nN (lv' := [(3, .null), (0, .ref (ad 0)), (1, .int p1), (2, .int p2)]) hx hb dX12_points_6 rfl hl (by decide) rfl (fun ls hl => ?_)
  refine lv_aload_nN hx hb dX12_points_7 rfl (lv_at hl 0 rfl) ?_
  refine lv_ifnullN (tgt := 27) hx hb dX12_points_8 (by decide) ?_
  refine lv_iconst (v := 0) hx hb dX12_points_27 (by decide) ?_
  exact W.zret (v := 0) (ty := .boolean) hx hb hr rfl (fun t ht hW => ⟨⟨0, (), rfl, rfl, trivial⟩, hS.F ht⟩) hS.2.2 dX12_points_28
set_option maxHeartbeats 500000 in
set_option maxRecDepth 100000 in
theorem kX12_sendAway_2 (l : Launch) (dC : Nat → ClassId) (dI : Nat → Nat → Nat) (sz : Nat) (ad : Nat → Nat) (ca : Nat → ClassId) (p1 : Int32) : Met l yX12_sendAway (jk yX12_sendAway cX12_sendAway 4 (some .boolean)) ({ frames := 1, cells := 0, slots := 0, locals := 21 }) (va_Pc [.ref (ad 0), .int p1, .int 1] (jw_P (dC, dI) (xW ad ca) (xT ca) sz)) (va_Qi (fun (r : Int32) (_ : Unit) => (r = 0)) (fun _ _ => True) (va_A [] sz)) 0 0 (va_A [] sz) := by
  refine Met.ofW (cc := cX12_sendAway) (maxL := 4) (ret := (some .boolean)) (by decide) rfl ?_
  intro p e s m args below meth c s₁ B hml hv
  obtain ⟨rfl, hsz, hP, hK, hD0⟩ := hv
  have hx := B.exec
  have hb := B.bytes
  have hr := B.returns
  have hts := atoms_spec (ws := (jk yX12_sendAway cX12_sendAway 4 (some .boolean))) B.pre
  have hown : s.vm.findClass RX12 = some m.cls := findClass_of_methodNamed B.named
  have hlocks := B.notSynchronized
  subst hsz
  have hD := hD0
  generalize hAe : (va_A [] s.heap.size) = A
  have hA : ∀ q : Nat, s.heap.size ≤ q → A q := fun q h => by rw [← hAe]; exact Or.inr h
  have hS : va_S A s.heap s.heap [] := va_S.rf
  have hP : va_P (dC, dI) vwCl (xW ad ca) s.heap := hP
  have hl := lv_entry ([.ref (ad 0), .int p1, .int 1]) (n := 4) (Nat.le_of_ble_eq_true rfl)
  rw [lg_entry_eq]
  generalize (lg_sl ([.ref (ad 0), .int p1, .int 1]) ++ List.replicate (4 - (lg_sl ([.ref (ad 0), .int p1, .int 1])).length) Slot.unset).toArray = ls at hl ⊢
  have hl : lv_has ls 4 [(0, .ref (ad 0)), (1, .int p1), (2, .int 1)] := hl
  refine lv_aload_n hx hb dX12_sendAway_0 rfl (lv_at hl 0 rfl) ?_
  refine lv_iload_n hx hb dX12_sendAway_1 rfl (lv_at hl 1 rfl) ?_
  refine jc_q (va_runV (As := [.int p1]) (rest := []) ⟨hx, hb, hml, hown, hts⟩ (kX12_entryAt_2 l dC dI _ ad ca p1) (cwV 1 hts (jgoodV m_316 m_317 m_318 m_210 m_319) rfl rfl rfl (by decide +kernel) ⟨Nat.le_of_ble_eq_true rfl, Nat.le_of_ble_eq_true rfl⟩) ⟨jw_blind, va_recv hK hP (ci := 12) (q0 := 0) rfl rfl, fun U hU hW => ⟨rfl, jw_of hU hW hP hK hD⟩⟩ rfl rfl hl.1 rfl (lv_room (Nat.le_of_ble_eq_true rfl)) dX12_sendAway_2 ⟨Nat.le_of_ble_eq_true rfl, Nat.le_of_ble_eq_true rfl⟩) hP hS hA (fun r_1 H locs hw_1 hP hS => ?_)
  have hw_1 : r_1 = none := hw_1
  subst hw_1
  refine jt_q Value.null rfl ?_
  refine lv_astore_nN (lv' := [(3, .null), (0, .ref (ad 0)), (1, .int p1), (2, .int 1)]) hx hb dX12_sendAway_5 rfl hl (by decide) rfl (fun ls hl => ?_)
  refine lv_aload_nN hx hb dX12_sendAway_6 rfl (lv_at hl 0 rfl) ?_
  refine lv_ifnullN (tgt := 33) hx hb dX12_sendAway_7 (by decide) ?_
  refine lv_iconst (v := 0) hx hb dX12_sendAway_33 (by decide) ?_
  exact W.zret (v := 0) (ty := .boolean) hx hb hr rfl (fun t ht hW => ⟨⟨0, (), rfl, rfl, trivial⟩, hS.F ht⟩) hS.2.2 dX12_sendAway_34
set_option maxHeartbeats 500000 in
set_option maxRecDepth 100000 in
theorem tX12_strike (l : Launch) (dC : Nat → ClassId) (dI : Nat → Nat → Nat) (sz : Nat) (ad : Nat → Nat) (ca : Nat → ClassId) (p1 : Int32) : Met l yX12_strike (jk yX12_strike cX12_strike 2 (some .boolean)) ({ frames := 2, cells := 0, slots := 0, locals := 44 }) (va_Pc [.ref (ad 0), .int p1] (jw_P (dC, dI) (xW ad ca) (xT ca) sz)) (va_Qi (fun (r : Int32) (_ : Unit) => (r = 0)) (fun _ _ => True) (va_A [] sz)) 0 0 (va_A [] sz) := by
  refine Met.ofW (cc := cX12_strike) (maxL := 2) (ret := (some .boolean)) (by decide) rfl ?_
  intro p e s m args below meth c s₁ B hml hv
  obtain ⟨rfl, hsz, hP, hK, hD0⟩ := hv
  have hx := B.exec
  have hb := B.bytes
  have hr := B.returns
  have hts := atoms_spec (ws := (jk yX12_strike cX12_strike 2 (some .boolean))) B.pre
  have hown : s.vm.findClass RX12 = some m.cls := findClass_of_methodNamed B.named
  have hlocks := B.notSynchronized
  subst hsz
  have hD := hD0
  generalize hAe : (va_A [] s.heap.size) = A
  have hA : ∀ q : Nat, s.heap.size ≤ q → A q := fun q h => by rw [← hAe]; exact Or.inr h
  have hS : va_S A s.heap s.heap [] := va_S.rf
  have hP : va_P (dC, dI) vwCl (xW ad ca) s.heap := hP
  have hl := lv_entry ([.ref (ad 0), .int p1]) (n := 2) (Nat.le_of_ble_eq_true rfl)
  rw [lg_entry_eq]
  generalize (lg_sl ([.ref (ad 0), .int p1]) ++ List.replicate (2 - (lg_sl ([.ref (ad 0), .int p1])).length) Slot.unset).toArray = ls at hl ⊢
  have hl : lv_has ls 2 [(0, .ref (ad 0)), (1, .int p1)] := hl
  refine lv_aload_n hx hb dX12_strike_0 rfl (lv_at hl 0 rfl) ?_
  refine lv_iload_n hx hb dX12_strike_1 rfl (lv_at hl 1 rfl) ?_
  refine lv_iconst (v := 1) hx hb dX12_strike_2 (by decide) ?_
  refine jc_i (va_runV (As := [.int p1, .int 1]) (rest := []) ⟨hx, hb, hml, hown, hts⟩ (kX12_sendAway_2 l dC dI _ ad ca p1) (cwV 2 hts (jgoodV m_328 m_329 m_330 m_210 m_331) rfl rfl rfl (by decide +kernel) ⟨Nat.le_of_ble_eq_true rfl, Nat.le_of_ble_eq_true rfl⟩) ⟨jw_blind, va_recv hK hP (ci := 12) (q0 := 0) rfl rfl, fun U hU hW => ⟨rfl, jw_of hU hW hP hK hD⟩⟩ rfl rfl hl.1 rfl (lv_room (Nat.le_of_ble_eq_true rfl)) dX12_strike_3 ⟨Nat.le_of_ble_eq_true rfl, Nat.le_of_ble_eq_true rfl⟩) hP hS hA (fun r_1 H locs hw_1 hP hS => ?_)
  have hw_1 : r_1 = 0 := hw_1
  subst hw_1
  exact W.zret (v := 0) (ty := .boolean) hx hb hr rfl (fun t ht hW => ⟨⟨0, (), rfl, rfl, trivial⟩, hS.F ht⟩) hS.2.2 dX12_strike_6
set_option maxHeartbeats 500000 in
set_option maxRecDepth 100000 in
theorem kX12_sendAway_4 (l : Launch) (dC : Nat → ClassId) (dI : Nat → Nat → Nat) (sz : Nat) (ad : Nat → Nat) (ca : Nat → ClassId) (p1 : Int32) : Met l yX12_sendAway (jk yX12_sendAway cX12_sendAway 4 (some .boolean)) ({ frames := 1, cells := 0, slots := 0, locals := 21 }) (va_Pc [.ref (ad 0), .int p1, .int 2] (jw_P (dC, dI) (xW ad ca) (xT ca) sz)) (va_Qi (fun (r : Int32) (_ : Unit) => (r = 0)) (fun _ _ => True) (va_A [] sz)) 0 0 (va_A [] sz) := by
  refine Met.ofW (cc := cX12_sendAway) (maxL := 4) (ret := (some .boolean)) (by decide) rfl ?_
  intro p e s m args below meth c s₁ B hml hv
  obtain ⟨rfl, hsz, hP, hK, hD0⟩ := hv
  have hx := B.exec
  have hb := B.bytes
  have hr := B.returns
  have hts := atoms_spec (ws := (jk yX12_sendAway cX12_sendAway 4 (some .boolean))) B.pre
  have hown : s.vm.findClass RX12 = some m.cls := findClass_of_methodNamed B.named
  have hlocks := B.notSynchronized
  subst hsz
  have hD := hD0
  generalize hAe : (va_A [] s.heap.size) = A
  have hA : ∀ q : Nat, s.heap.size ≤ q → A q := fun q h => by rw [← hAe]; exact Or.inr h
  have hS : va_S A s.heap s.heap [] := va_S.rf
  have hP : va_P (dC, dI) vwCl (xW ad ca) s.heap := hP
  have hl := lv_entry ([.ref (ad 0), .int p1, .int 2]) (n := 4) (Nat.le_of_ble_eq_true rfl)
  rw [lg_entry_eq]
  generalize (lg_sl ([.ref (ad 0), .int p1, .int 2]) ++ List.replicate (4 - (lg_sl ([.ref (ad 0), .int p1, .int 2])).length) Slot.unset).toArray = ls at hl ⊢
  have hl : lv_has ls 4 [(0, .ref (ad 0)), (1, .int p1), (2, .int 2)] := hl
  refine lv_aload_n hx hb dX12_sendAway_0 rfl (lv_at hl 0 rfl) ?_
  refine lv_iload_n hx hb dX12_sendAway_1 rfl (lv_at hl 1 rfl) ?_
  refine jc_q (va_runV (As := [.int p1]) (rest := []) ⟨hx, hb, hml, hown, hts⟩ (kX12_entryAt_2 l dC dI _ ad ca p1) (cwV 1 hts (jgoodV m_316 m_317 m_318 m_210 m_319) rfl rfl rfl (by decide +kernel) ⟨Nat.le_of_ble_eq_true rfl, Nat.le_of_ble_eq_true rfl⟩) ⟨jw_blind, va_recv hK hP (ci := 12) (q0 := 0) rfl rfl, fun U hU hW => ⟨rfl, jw_of hU hW hP hK hD⟩⟩ rfl rfl hl.1 rfl (lv_room (Nat.le_of_ble_eq_true rfl)) dX12_sendAway_2 ⟨Nat.le_of_ble_eq_true rfl, Nat.le_of_ble_eq_true rfl⟩) hP hS hA (fun r_1 H locs hw_1 hP hS => ?_)
  have hw_1 : r_1 = none := hw_1
  subst hw_1
  refine jt_q Value.null rfl ?_
  refine lv_astore_nN (lv' := [(3, .null), (0, .ref (ad 0)), (1, .int p1), (2, .int 2)]) hx hb dX12_sendAway_5 rfl hl (by decide) rfl (fun ls hl => ?_)
  refine lv_aload_nN hx hb dX12_sendAway_6 rfl (lv_at hl 0 rfl) ?_
  refine lv_ifnullN (tgt := 33) hx hb dX12_sendAway_7 (by decide) ?_
  refine lv_iconst (v := 0) hx hb dX12_sendAway_33 (by decide) ?_
  exact W.zret (v := 0) (ty := .boolean) hx hb hr rfl (fun t ht hW => ⟨⟨0, (), rfl, rfl, trivial⟩, hS.F ht⟩) hS.2.2 dX12_sendAway_34
set_option maxHeartbeats 500000 in
set_option maxRecDepth 100000 in
theorem tX12_later (l : Launch) (dC : Nat → ClassId) (dI : Nat → Nat → Nat) (sz : Nat) (ad : Nat → Nat) (ca : Nat → ClassId) (p1 : Int32) : Met l yX12_later (jk yX12_later cX12_later 2 (some .boolean)) ({ frames := 2, cells := 0, slots := 0, locals := 44 }) (va_Pc [.ref (ad 0), .int p1] (jw_P (dC, dI) (xW ad ca) (xT ca) sz)) (va_Qi (fun (r : Int32) (_ : Unit) => (r = 0)) (fun _ _ => True) (va_A [] sz)) 0 0 (va_A [] sz) := by
  refine Met.ofW (cc := cX12_later) (maxL := 2) (ret := (some .boolean)) (by decide) rfl ?_
  intro p e s m args below meth c s₁ B hml hv
  obtain ⟨rfl, hsz, hP, hK, hD0⟩ := hv
  have hx := B.exec
  have hb := B.bytes
  have hr := B.returns
  have hts := atoms_spec (ws := (jk yX12_later cX12_later 2 (some .boolean))) B.pre
  have hown : s.vm.findClass RX12 = some m.cls := findClass_of_methodNamed B.named
  have hlocks := B.notSynchronized
  subst hsz
  have hD := hD0
  generalize hAe : (va_A [] s.heap.size) = A
  have hA : ∀ q : Nat, s.heap.size ≤ q → A q := fun q h => by rw [← hAe]; exact Or.inr h
  have hS : va_S A s.heap s.heap [] := va_S.rf
  have hP : va_P (dC, dI) vwCl (xW ad ca) s.heap := hP
  have hl := lv_entry ([.ref (ad 0), .int p1]) (n := 2) (Nat.le_of_ble_eq_true rfl)
  rw [lg_entry_eq]
  generalize (lg_sl ([.ref (ad 0), .int p1]) ++ List.replicate (2 - (lg_sl ([.ref (ad 0), .int p1])).length) Slot.unset).toArray = ls at hl ⊢
  have hl : lv_has ls 2 [(0, .ref (ad 0)), (1, .int p1)] := hl
  refine lv_aload_n hx hb dX12_later_0 rfl (lv_at hl 0 rfl) ?_
  refine lv_iload_n hx hb dX12_later_1 rfl (lv_at hl 1 rfl) ?_
  refine lv_iconst (v := 2) hx hb dX12_later_2 (by decide) ?_
  refine jc_i (va_runV (As := [.int p1, .int 2]) (rest := []) ⟨hx, hb, hml, hown, hts⟩ (kX12_sendAway_4 l dC dI _ ad ca p1) (cwV 2 hts (jgoodV m_328 m_329 m_330 m_210 m_331) rfl rfl rfl (by decide +kernel) ⟨Nat.le_of_ble_eq_true rfl, Nat.le_of_ble_eq_true rfl⟩) ⟨jw_blind, va_recv hK hP (ci := 12) (q0 := 0) rfl rfl, fun U hU hW => ⟨rfl, jw_of hU hW hP hK hD⟩⟩ rfl rfl hl.1 rfl (lv_room (Nat.le_of_ble_eq_true rfl)) dX12_later_3 ⟨Nat.le_of_ble_eq_true rfl, Nat.le_of_ble_eq_true rfl⟩) hP hS hA (fun r_1 H locs hw_1 hP hS => ?_)
  have hw_1 : r_1 = 0 := hw_1
  subst hw_1
  exact W.zret (v := 0) (ty := .boolean) hx hb hr rfl (fun t ht hW => ⟨⟨0, (), rfl, rfl, trivial⟩, hS.F ht⟩) hS.2.2 dX12_later_6
set_option maxHeartbeats 500000 in
set_option maxRecDepth 100000 in
theorem tX12_volume (l : Launch) (dC : Nat → ClassId) (dI : Nat → Nat → Nat) (sz : Nat) (ad : Nat → Nat) (ca : Nat → ClassId) (p1 : Int32) : Met l yX12_volume (jk yX12_volume cX12_volume 3 (some .int)) ({ frames := 1, cells := 0, slots := 0, locals := 21 }) (va_Pc [.ref (ad 0), .int p1] (jw_P (dC, dI) (xW ad ca) (xT ca) sz)) (va_Qi (fun (r : Int32) (_ : Unit) => (r = (-1))) (fun _ _ => True) (va_A [] sz)) 0 0 (va_A [] sz) := by
  refine Met.ofW (cc := cX12_volume) (maxL := 3) (ret := (some .int)) (by decide) rfl ?_
  intro p e s m args below meth c s₁ B hml hv
  obtain ⟨rfl, hsz, hP, hK, hD0⟩ := hv
  have hx := B.exec
  have hb := B.bytes
  have hr := B.returns
  have hts := atoms_spec (ws := (jk yX12_volume cX12_volume 3 (some .int))) B.pre
  have hown : s.vm.findClass RX12 = some m.cls := findClass_of_methodNamed B.named
  have hlocks := B.notSynchronized
  subst hsz
  have hD := hD0
  generalize hAe : (va_A [] s.heap.size) = A
  have hA : ∀ q : Nat, s.heap.size ≤ q → A q := fun q h => by rw [← hAe]; exact Or.inr h
  have hS : va_S A s.heap s.heap [] := va_S.rf
  have hP : va_P (dC, dI) vwCl (xW ad ca) s.heap := hP
  have hl := lv_entry ([.ref (ad 0), .int p1]) (n := 3) (Nat.le_of_ble_eq_true rfl)
  rw [lg_entry_eq]
  generalize (lg_sl ([.ref (ad 0), .int p1]) ++ List.replicate (3 - (lg_sl ([.ref (ad 0), .int p1])).length) Slot.unset).toArray = ls at hl ⊢
  have hl : lv_has ls 3 [(0, .ref (ad 0)), (1, .int p1)] := hl
  refine lv_aload_n hx hb dX12_volume_0 rfl (lv_at hl 0 rfl) ?_
  refine lv_iload_n hx hb dX12_volume_1 rfl (lv_at hl 1 rfl) ?_
  refine jc_q (va_runV (As := [.int p1]) (rest := []) ⟨hx, hb, hml, hown, hts⟩ (kX12_entryAt_2 l dC dI _ ad ca p1) (cwV 1 hts (jgoodV m_316 m_317 m_318 m_210 m_319) rfl rfl rfl (by decide +kernel) ⟨Nat.le_of_ble_eq_true rfl, Nat.le_of_ble_eq_true rfl⟩) ⟨jw_blind, va_recv hK hP (ci := 12) (q0 := 0) rfl rfl, fun U hU hW => ⟨rfl, jw_of hU hW hP hK hD⟩⟩ rfl rfl hl.1 rfl (lv_room (Nat.le_of_ble_eq_true rfl)) dX12_volume_2 ⟨Nat.le_of_ble_eq_true rfl, Nat.le_of_ble_eq_true rfl⟩) hP hS hA (fun r_1 H locs hw_1 hP hS => ?_)
  have hw_1 : r_1 = none := hw_1
  subst hw_1
  refine jt_q Value.null rfl ?_
  refine lv_astore_nN (lv' := [(2, .null), (0, .ref (ad 0)), (1, .int p1)]) hx hb dX12_volume_5 rfl hl (by decide) rfl (fun ls hl => ?_)
  refine lv_aload_nN hx hb dX12_volume_6 rfl (lv_at hl 0 rfl) ?_
  refine lv_ifnonnullN hx hb dX12_volume_7 ?_
  refine lv_iconst (v := (-1)) hx hb dX12_volume_10 (by decide) ?_
  refine lv_goto (tgt := 19) hx hb dX12_volume_11 (by decide) ?_
  exact W.iret (v := (-1)) hx hb hr (fun t ht hW => ⟨⟨(-1), (), rfl, rfl, trivial⟩, hS.F ht⟩) hS.2.2 dX12_volume_19
