set_option maxHeartbeats 500000 in
set_option maxRecDepth 100000 in
theorem kX0_isDigit_1 (l : Launch) (dC : Nat → ClassId) (dI : Nat → Nat → Nat) (sz : Nat) (p0 : Int32) : Met l yX0_isDigit (jk yX0_isDigit cX0_isDigit 1 (some .boolean)) ({ frames := 0, cells := 0, slots := 0, locals := 0 }) (va_Pc [.int p0] (fun U => U.heap.size = sz)) (va_Qi (fun (r : Int32) (_ : Unit) => (p0 < 48 ∧ r = 0) ∨ (¬ (p0 < 48) ∧ 57 < p0 ∧ r = 0) ∨ (¬ (p0 < 48) ∧ ¬ (57 < p0) ∧ r = 1)) (fun _ _ => True) (va_A [] sz)) 0 0 (va_A [] sz) := by
  refine Met.ofW (cc := cX0_isDigit) (maxL := 1) (ret := (some .boolean)) (by decide) rfl ?_
  intro p e s m args below meth c s₁ B hml hv
  obtain ⟨rfl, hsz⟩ := hv
  have hx := B.exec
  have hb := B.bytes
  have hr := B.returns
  have hts := atoms_spec (ws := (jk yX0_isDigit cX0_isDigit 1 (some .boolean))) B.pre
  have hown : s.vm.findClass RX0 = some m.cls := findClass_of_methodNamed B.named
  have hlocks := B.notSynchronized
  subst hsz
  have hP : va_P (dC, dI) vwCl [] s.heap := fun k q h => by simp at h
  generalize hAe : (va_A [] s.heap.size) = A
  have hA : ∀ q : Nat, s.heap.size ≤ q → A q := fun q h => by rw [← hAe]; exact Or.inr h
  have hS : va_S A s.heap s.heap [] := va_S.rf
  have hl := lv_entry ([.int p0]) (n := 1) (Nat.le_of_ble_eq_true rfl)
  rw [lg_entry_eq]
  generalize (lg_sl ([.int p0]) ++ List.replicate (1 - (lg_sl ([.int p0])).length) Slot.unset).toArray = ls at hl ⊢
  have hl : lv_has ls 1 [(0, .int p0)] := hl
  refine lv_iload_n hx hb dX0_isDigit_0 rfl (lv_at hl 0 rfl) ?_
  refine lv_bipush (v := 48) hx hb dX0_isDigit_1 (by decide) ?_
  refine lv_icmp_lt (tgt := 16) hx hb dX0_isDigit_3 (by decide) (fun c_1 => ?_) (fun c_1 => ?_)
  · refine lv_iconst (v := 0) hx hb dX0_isDigit_16 (by decide) ?_
    exact W.zret (v := 0) (ty := .boolean) hx hb hr rfl (fun t ht hW => ⟨⟨0, (), rfl, (Or.inl ⟨c_1, rfl⟩), trivial⟩, hS.F ht⟩) hS.2.2 dX0_isDigit_17
  · refine lv_iload_n hx hb dX0_isDigit_6 rfl (lv_at hl 0 rfl) ?_
    refine lv_bipush (v := 57) hx hb dX0_isDigit_7 (by decide) ?_
    refine lv_icmp_gt (tgt := 16) hx hb dX0_isDigit_9 (by decide) (fun c_2 => ?_) (fun c_2 => ?_)
    · refine lv_iconst (v := 0) hx hb dX0_isDigit_16 (by decide) ?_
      exact W.zret (v := 0) (ty := .boolean) hx hb hr rfl (fun t ht hW => ⟨⟨0, (), rfl, (Or.inr (Or.inl ⟨c_1, c_2, rfl⟩)), trivial⟩, hS.F ht⟩) hS.2.2 dX0_isDigit_17
    · refine lv_iconst (v := 1) hx hb dX0_isDigit_12 (by decide) ?_
      refine lv_goto (tgt := 17) hx hb dX0_isDigit_13 (by decide) ?_
      exact W.zret (v := 1) (ty := .boolean) hx hb hr rfl (fun t ht hW => ⟨⟨1, (), rfl, (Or.inr (Or.inr ⟨c_1, c_2, rfl⟩)), trivial⟩, hS.F ht⟩) hS.2.2 dX0_isDigit_17
theorem s_isMark_0 {p0 : Int32} (c_1 : p0 < 97) (c_3 : p0 < 48) : (jmark p0 ∧ (0 : Int32) = 1) ∨ (¬ (jmark p0) ∧ (0 : Int32) = 0) := by
  have g0 : p0.toInt < 97 := ji_lt.mp c_1
  have g1 : p0.toInt < 48 := ji_lt.mp c_3
  exact Or.inr ⟨by simp only [jmark, ji_le, show (97 : Int32).toInt = 97 from rfl, show (122 : Int32).toInt = 122 from rfl, show (48 : Int32).toInt = 48 from rfl, show (57 : Int32).toInt = 57 from rfl]; omega, rfl⟩
theorem s_isMark_1 {p0 : Int32} (c_1 : p0 < 97) (c_4 : ¬ (p0 < 48)) (c_5 : 57 < p0) : (jmark p0 ∧ (0 : Int32) = 1) ∨ (¬ (jmark p0) ∧ (0 : Int32) = 0) := by
  have g0 : p0.toInt < 97 := ji_lt.mp c_1
  have g1 : ¬ (p0.toInt < 48) := fun z => c_4 (ji_lt.mpr z)
  have g2 : 57 < p0.toInt := ji_lt.mp c_5
  exact Or.inr ⟨by simp only [jmark, ji_le, show (97 : Int32).toInt = 97 from rfl, show (122 : Int32).toInt = 122 from rfl, show (48 : Int32).toInt = 48 from rfl, show (57 : Int32).toInt = 57 from rfl]; omega, rfl⟩
theorem s_isMark_2 {p0 : Int32} (c_1 : p0 < 97) (c_6 : ¬ (p0 < 48)) (c_7 : ¬ (57 < p0)) : (jmark p0 ∧ (1 : Int32) = 1) ∨ (¬ (jmark p0) ∧ (1 : Int32) = 0) := by
  have g0 : p0.toInt < 97 := ji_lt.mp c_1
  have g1 : ¬ (p0.toInt < 48) := fun z => c_6 (ji_lt.mpr z)
  have g2 : ¬ (57 < p0.toInt) := fun z => c_7 (ji_lt.mpr z)
  exact Or.inl ⟨by simp only [jmark, ji_le, show (97 : Int32).toInt = 97 from rfl, show (122 : Int32).toInt = 122 from rfl, show (48 : Int32).toInt = 48 from rfl, show (57 : Int32).toInt = 57 from rfl]; omega, rfl⟩
theorem s_isMark_3 {p0 : Int32} (c_1 : ¬ (p0 < 97)) (c_8 : p0 ≤ 122) : (jmark p0 ∧ (1 : Int32) = 1) ∨ (¬ (jmark p0) ∧ (1 : Int32) = 0) := by
  have g0 : ¬ (p0.toInt < 97) := fun z => c_1 (ji_lt.mpr z)
  have g1 : p0.toInt ≤ 122 := ji_le.mp c_8
  exact Or.inl ⟨by simp only [jmark, ji_le, show (97 : Int32).toInt = 97 from rfl, show (122 : Int32).toInt = 122 from rfl, show (48 : Int32).toInt = 48 from rfl, show (57 : Int32).toInt = 57 from rfl]; omega, rfl⟩
theorem s_isMark_4 {p0 : Int32} (c_1 : ¬ (p0 < 97)) (c_8 : ¬ (p0 ≤ 122)) (c_11 : ¬ (p0 < 48)) (c_12 : 57 < p0) : (jmark p0 ∧ (0 : Int32) = 1) ∨ (¬ (jmark p0) ∧ (0 : Int32) = 0) := by
  have g0 : ¬ (p0.toInt < 97) := fun z => c_1 (ji_lt.mpr z)
  have g1 : ¬ (p0.toInt ≤ 122) := fun z => c_8 (ji_le.mpr z)
  have g2 : ¬ (p0.toInt < 48) := fun z => c_11 (ji_lt.mpr z)
  have g3 : 57 < p0.toInt := ji_lt.mp c_12
  exact Or.inr ⟨by simp only [jmark, ji_le, show (97 : Int32).toInt = 97 from rfl, show (122 : Int32).toInt = 122 from rfl, show (48 : Int32).toInt = 48 from rfl, show (57 : Int32).toInt = 57 from rfl]; omega, rfl⟩
set_option maxHeartbeats 4000000 in
set_option maxRecDepth 100000 in
theorem kX0_isMark (l : Launch) (dC : Nat → ClassId) (dI : Nat → Nat → Nat) (sz : Nat) (p0 : Int32) : Met l yX0_isMark (jk yX0_isMark cX0_isMark 1 (some .boolean)) ({ frames := 1, cells := 0, slots := 0, locals := 20 }) (va_Pc [.int p0] (fun U => U.heap.size = sz)) (va_Qi (fun (r : Int32) (_ : Unit) => (jmark p0 ∧ r = 1) ∨ (¬ (jmark p0) ∧ r = 0)) (fun _ _ => True) (va_A [] sz)) 0 0 (va_A [] sz) := by
  refine Met.ofW (cc := cX0_isMark) (maxL := 1) (ret := (some .boolean)) (by decide) rfl ?_
  intro p e s m args below meth c s₁ B hml hv
  obtain ⟨rfl, hsz⟩ := hv
  have hx := B.exec
  have hb := B.bytes
  have hr := B.returns
  have hts := atoms_spec (ws := (jk yX0_isMark cX0_isMark 1 (some .boolean))) B.pre
  have hown : s.vm.findClass RX0 = some m.cls := findClass_of_methodNamed B.named
  have hlocks := B.notSynchronized
  subst hsz
  have hP : va_P (dC, dI) vwCl [] s.heap := fun k q h => by simp at h
  generalize hAe : (va_A [] s.heap.size) = A
  have hA : ∀ q : Nat, s.heap.size ≤ q → A q := fun q h => by rw [← hAe]; exact Or.inr h
  have hS : va_S A s.heap s.heap [] := va_S.rf
  have hl := lv_entry ([.int p0]) (n := 1) (Nat.le_of_ble_eq_true rfl)
  rw [lg_entry_eq]
  generalize (lg_sl ([.int p0]) ++ List.replicate (1 - (lg_sl ([.int p0])).length) Slot.unset).toArray = ls at hl ⊢
  have hl : lv_has ls 1 [(0, .int p0)] := hl
  refine lv_iload_n hx hb dX0_isMark_0 rfl (lv_at hl 0 rfl) ?_
  refine lv_bipush (v := 97) hx hb dX0_isMark_1 (by decide) ?_
  refine lv_icmp_lt (tgt := 12) hx hb dX0_isMark_3 (by decide) (fun c_1 => ?_) (fun c_1 => ?_)
  · refine lv_iload_n hx hb dX0_isMark_12 rfl (lv_at hl 0 rfl) ?_
    refine jc_i (va_runS (As := [.int p0]) (rest := []) ⟨hx, hb, hml, hown, hts⟩ (kX0_isDigit_1 l dC dI _ p0) (va_cwS 1 hts (jgoodS m_81 m_82 m_83 m_84) rfl rfl rfl (by decide +kernel) ⟨Nat.le_of_ble_eq_true rfl, Nat.le_of_ble_eq_true rfl⟩) ⟨jw_blind0, fun U hU hW => ⟨rfl, congrArg Array.size hU⟩⟩ rfl rfl hl.1 rfl (lv_room (Nat.le_of_ble_eq_true rfl)) dX0_isMark_13 ⟨Nat.le_of_ble_eq_true rfl, Nat.le_of_ble_eq_true rfl⟩) hP hS hA (fun r_2 H locs hw_2 hP hS => ?_)
    rcases (show (p0 < 48 ∧ r_2 = 0) ∨ (¬ (p0 < 48) ∧ 57 < p0 ∧ r_2 = 0) ∨ (¬ (p0 < 48) ∧ ¬ (57 < p0) ∧ r_2 = 1) from hw_2) with ⟨c_3, e_3_0⟩ | ⟨c_4, c_5, e_5_1⟩ | ⟨c_6, c_7, e_7_2⟩
    · have e_3_0 := e_3_0.symm
      subst e_3_0
      refine lv_if_eq (tgt := 23) hx hb dX0_isMark_16 (by decide) (fun _ => ?_) (fun z => absurd (by decide) z)
      refine lv_iconst (v := 0) hx hb dX0_isMark_23 (by decide) ?_
      exact W.zret (v := 0) (ty := .boolean) hx hb hr rfl (fun t ht hW => ⟨⟨0, (), rfl, (s_isMark_0 (p0 := p0) c_1 c_3), trivial⟩, hS.F ht⟩) hS.2.2 dX0_isMark_24
    · have e_5_1 := e_5_1.symm
      subst e_5_1
      refine lv_if_eq (tgt := 23) hx hb dX0_isMark_16 (by decide) (fun _ => ?_) (fun z => absurd (by decide) z)
      refine lv_iconst (v := 0) hx hb dX0_isMark_23 (by decide) ?_
      exact W.zret (v := 0) (ty := .boolean) hx hb hr rfl (fun t ht hW => ⟨⟨0, (), rfl, (s_isMark_1 (p0 := p0) c_1 c_4 c_5), trivial⟩, hS.F ht⟩) hS.2.2 dX0_isMark_24
    · have e_7_2 := e_7_2.symm
      subst e_7_2
      refine lv_if_eq (tgt := 23) hx hb dX0_isMark_16 (by decide) (fun z => absurd z (by decide)) (fun _ => ?_)
      refine lv_iconst (v := 1) hx hb dX0_isMark_19 (by decide) ?_
      refine lv_goto (tgt := 24) hx hb dX0_isMark_20 (by decide) ?_
      exact W.zret (v := 1) (ty := .boolean) hx hb hr rfl (fun t ht hW => ⟨⟨1, (), rfl, (s_isMark_2 (p0 := p0) c_1 c_6 c_7), trivial⟩, hS.F ht⟩) hS.2.2 dX0_isMark_24
  · refine lv_iload_n hx hb dX0_isMark_6 rfl (lv_at hl 0 rfl) ?_
    refine lv_bipush (v := 122) hx hb dX0_isMark_7 (by decide) ?_
    refine lv_icmp_le (tgt := 19) hx hb dX0_isMark_9 (by decide) (fun c_8 => ?_) (fun c_8 => ?_)
    · refine lv_iconst (v := 1) hx hb dX0_isMark_19 (by decide) ?_
      refine lv_goto (tgt := 24) hx hb dX0_isMark_20 (by decide) ?_
      exact W.zret (v := 1) (ty := .boolean) hx hb hr rfl (fun t ht hW => ⟨⟨1, (), rfl, (s_isMark_3 (p0 := p0) c_1 c_8), trivial⟩, hS.F ht⟩) hS.2.2 dX0_isMark_24
    · refine lv_iload_n hx hb dX0_isMark_12 rfl (lv_at hl 0 rfl) ?_
      refine jc_i (va_runS (As := [.int p0]) (rest := []) ⟨hx, hb, hml, hown, hts⟩ (kX0_isDigit_1 l dC dI _ p0) (va_cwS 1 hts (jgoodS m_81 m_82 m_83 m_84) rfl rfl rfl (by decide +kernel) ⟨Nat.le_of_ble_eq_true rfl, Nat.le_of_ble_eq_true rfl⟩) ⟨jw_blind0, fun U hU hW => ⟨rfl, congrArg Array.size hU⟩⟩ rfl rfl hl.1 rfl (lv_room (Nat.le_of_ble_eq_true rfl)) dX0_isMark_13 ⟨Nat.le_of_ble_eq_true rfl, Nat.le_of_ble_eq_true rfl⟩) hP hS hA (fun r_9 H locs hw_9 hP hS => ?_)
      rcases (show (p0 < 48 ∧ r_9 = 0) ∨ (¬ (p0 < 48) ∧ 57 < p0 ∧ r_9 = 0) ∨ (¬ (p0 < 48) ∧ ¬ (57 < p0) ∧ r_9 = 1) from hw_9) with ⟨c_10, e_10_0⟩ | ⟨c_11, c_12, e_12_1⟩ | ⟨c_13, c_14, e_14_2⟩
      · have e_10_0 := e_10_0.symm
        subst e_10_0
        exact (jx_no (jl_nle (d := 123) c_8 (by decide)) (jl_lt (d := 47) c_10 (by decide)) (by decide)).elim
      · have e_12_1 := e_12_1.symm
        subst e_12_1
        refine lv_if_eq (tgt := 23) hx hb dX0_isMark_16 (by decide) (fun _ => ?_) (fun z => absurd (by decide) z)
        refine lv_iconst (v := 0) hx hb dX0_isMark_23 (by decide) ?_
        exact W.zret (v := 0) (ty := .boolean) hx hb hr rfl (fun t ht hW => ⟨⟨0, (), rfl, (s_isMark_4 (p0 := p0) c_1 c_8 c_11 c_12), trivial⟩, hS.F ht⟩) hS.2.2 dX0_isMark_24
      · have e_14_2 := e_14_2.symm
        subst e_14_2
        exact (jx_no (jl_nle (d := 123) c_8 (by decide)) (jl_ngt c_14) (by decide)).elim
theorem s_byteOf_0 {p0 p1 p2 p3 : Int32} (c_1 : 4 ≤ p3) (c_2 : 8 ≤ p3) : (((Int32.toUInt32 p2 >>> (Int32.toUInt32 (24 - (8 * (p3 &&& 3))) &&& Int32.toUInt32 31)).toInt32) &&& 255) = jby p0 p1 p2 p3 := by
  unfold jby
  rw [if_neg (fun z => absurd c_1 (jy_nle z))]
  rw [if_neg (fun z => absurd c_2 (jy_nle z))]
theorem s_byteOf_1 {p0 p1 p2 p3 : Int32} (c_1 : 4 ≤ p3) (c_2 : ¬ (8 ≤ p3)) : (((Int32.toUInt32 p1 >>> (Int32.toUInt32 (24 - (8 * (p3 &&& 3))) &&& Int32.toUInt32 31)).toInt32) &&& 255) = jby p0 p1 p2 p3 := by
  unfold jby
  rw [if_neg (fun z => absurd c_1 (jy_nle z))]
  rw [if_pos (jy_lt c_2)]
theorem s_byteOf_2 {p0 p1 p2 p3 : Int32} (c_1 : ¬ (4 ≤ p3)) : (((Int32.toUInt32 p0 >>> (Int32.toUInt32 (24 - (8 * (p3 &&& 3))) &&& Int32.toUInt32 31)).toInt32) &&& 255) = jby p0 p1 p2 p3 := by
  unfold jby
  rw [if_pos (jy_lt c_1)]
set_option maxHeartbeats 4000000 in
set_option maxRecDepth 100000 in
theorem kX0_byteOf (l : Launch) (dC : Nat → ClassId) (dI : Nat → Nat → Nat) (sz : Nat) (p0 p1 p2 p3 : Int32) : Met l yX0_byteOf (jk yX0_byteOf cX0_byteOf 5 (some .int)) ({ frames := 0, cells := 0, slots := 0, locals := 0 }) (va_Pc [.int p0, .int p1, .int p2, .int p3] (fun U => U.heap.size = sz)) (va_Qi (fun (r : Int32) (_ : Unit) => r = jby p0 p1 p2 p3) (fun _ _ => True) (va_A [] sz)) 0 0 (va_A [] sz) := by
  refine Met.ofW (cc := cX0_byteOf) (maxL := 5) (ret := (some .int)) (by decide) rfl ?_
  intro p e s m args below meth c s₁ B hml hv
  obtain ⟨rfl, hsz⟩ := hv
  have hx := B.exec
  have hb := B.bytes
  have hr := B.returns
  have hts := atoms_spec (ws := (jk yX0_byteOf cX0_byteOf 5 (some .int))) B.pre
  have hown : s.vm.findClass RX0 = some m.cls := findClass_of_methodNamed B.named
  have hlocks := B.notSynchronized
  subst hsz
  have hP : va_P (dC, dI) vwCl [] s.heap := fun k q h => by simp at h
  generalize hAe : (va_A [] s.heap.size) = A
  have hA : ∀ q : Nat, s.heap.size ≤ q → A q := fun q h => by rw [← hAe]; exact Or.inr h
  have hS : va_S A s.heap s.heap [] := va_S.rf
  have hl := lv_entry ([.int p0, .int p1, .int p2, .int p3]) (n := 5) (Nat.le_of_ble_eq_true rfl)
  rw [lg_entry_eq]
  generalize (lg_sl ([.int p0, .int p1, .int p2, .int p3]) ++ List.replicate (5 - (lg_sl ([.int p0, .int p1, .int p2, .int p3])).length) Slot.unset).toArray = ls at hl ⊢
  have hl : lv_has ls 5 [(0, .int p0), (1, .int p1), (2, .int p2), (3, .int p3)] := hl
  refine lv_iload_n hx hb dX0_byteOf_0 rfl (lv_at hl 3 rfl) ?_
  refine lv_iconst (v := 4) hx hb dX0_byteOf_1 (by decide) ?_
  refine lv_icmp_ge (tgt := 9) hx hb dX0_byteOf_2 (by decide) (fun c_1 => ?_) (fun c_1 => ?_)
  · refine lv_iload_n hx hb dX0_byteOf_9 rfl (lv_at hl 3 rfl) ?_
    refine lv_bipush (v := 8) hx hb dX0_byteOf_10 (by decide) ?_
    refine lv_icmp_ge (tgt := 19) hx hb dX0_byteOf_12 (by decide) (fun c_2 => ?_) (fun c_2 => ?_)
    · refine lv_iload_n hx hb dX0_byteOf_19 rfl (lv_at hl 2 rfl) ?_
      refine lv_istore (lv' := [(4, .int p2), (0, .int p0), (1, .int p1), (2, .int p2), (3, .int p3)]) hx hb dX0_byteOf_20 hl (by decide) rfl (fun ls hl => ?_)
      refine lv_iload hx hb dX0_byteOf_22 (lv_at hl 0 rfl) ?_
      refine lv_bipush (v := 24) hx hb dX0_byteOf_24 (by decide) ?_
      refine lv_bipush (v := 8) hx hb dX0_byteOf_26 (by decide) ?_
      refine lv_iload_n hx hb dX0_byteOf_28 rfl (lv_at hl 4 rfl) ?_
      refine lv_iconst (v := 3) hx hb dX0_byteOf_29 (by decide) ?_
      refine lv_iand hx hb dX0_byteOf_30 ?_
      refine lv_imul hx hb dX0_byteOf_31 ?_
      refine lv_isub hx hb dX0_byteOf_32 ?_
      refine lv_iushr (v := ((Int32.toUInt32 p2 >>> (Int32.toUInt32 (24 - (8 * (p3 &&& 3))) &&& Int32.toUInt32 31)).toInt32)) hx hb dX0_byteOf_33 rfl ?_
      refine lv_sipush (v := 255) hx hb dX0_byteOf_34 (by decide) ?_
      refine lv_iand hx hb dX0_byteOf_37 ?_
      exact W.iret (v := (((Int32.toUInt32 p2 >>> (Int32.toUInt32 (24 - (8 * (p3 &&& 3))) &&& Int32.toUInt32 31)).toInt32) &&& 255)) hx hb hr (fun t ht hW => ⟨⟨(((Int32.toUInt32 p2 >>> (Int32.toUInt32 (24 - (8 * (p3 &&& 3))) &&& Int32.toUInt32 31)).toInt32) &&& 255), (), rfl, (s_byteOf_0 (p0 := p0) (p1 := p1) (p2 := p2) (p3 := p3) c_1 c_2), trivial⟩, hS.F ht⟩) hS.2.2 dX0_byteOf_38
    · refine lv_iload_n hx hb dX0_byteOf_15 rfl (lv_at hl 1 rfl) ?_
      refine lv_goto (tgt := 20) hx hb dX0_byteOf_16 (by decide) ?_
      refine lv_istore (lv' := [(4, .int p1), (0, .int p0), (1, .int p1), (2, .int p2), (3, .int p3)]) hx hb dX0_byteOf_20 hl (by decide) rfl (fun ls hl => ?_)
      refine lv_iload hx hb dX0_byteOf_22 (lv_at hl 0 rfl) ?_
      refine lv_bipush (v := 24) hx hb dX0_byteOf_24 (by decide) ?_
      refine lv_bipush (v := 8) hx hb dX0_byteOf_26 (by decide) ?_
      refine lv_iload_n hx hb dX0_byteOf_28 rfl (lv_at hl 4 rfl) ?_
      refine lv_iconst (v := 3) hx hb dX0_byteOf_29 (by decide) ?_
      refine lv_iand hx hb dX0_byteOf_30 ?_
      refine lv_imul hx hb dX0_byteOf_31 ?_
      refine lv_isub hx hb dX0_byteOf_32 ?_
      refine lv_iushr (v := ((Int32.toUInt32 p1 >>> (Int32.toUInt32 (24 - (8 * (p3 &&& 3))) &&& Int32.toUInt32 31)).toInt32)) hx hb dX0_byteOf_33 rfl ?_
      refine lv_sipush (v := 255) hx hb dX0_byteOf_34 (by decide) ?_
      refine lv_iand hx hb dX0_byteOf_37 ?_
      exact W.iret (v := (((Int32.toUInt32 p1 >>> (Int32.toUInt32 (24 - (8 * (p3 &&& 3))) &&& Int32.toUInt32 31)).toInt32) &&& 255)) hx hb hr (fun t ht hW => ⟨⟨(((Int32.toUInt32 p1 >>> (Int32.toUInt32 (24 - (8 * (p3 &&& 3))) &&& Int32.toUInt32 31)).toInt32) &&& 255), (), rfl, (s_byteOf_1 (p0 := p0) (p1 := p1) (p2 := p2) (p3 := p3) c_1 c_2), trivial⟩, hS.F ht⟩) hS.2.2 dX0_byteOf_38
  · refine lv_iload_n hx hb dX0_byteOf_5 rfl (lv_at hl 0 rfl) ?_
    refine lv_goto (tgt := 20) hx hb dX0_byteOf_6 (by decide) ?_
    refine lv_istore (lv' := [(4, .int p0), (0, .int p0), (1, .int p1), (2, .int p2), (3, .int p3)]) hx hb dX0_byteOf_20 hl (by decide) rfl (fun ls hl => ?_)
    refine lv_iload hx hb dX0_byteOf_22 (lv_at hl 0 rfl) ?_
    refine lv_bipush (v := 24) hx hb dX0_byteOf_24 (by decide) ?_
    refine lv_bipush (v := 8) hx hb dX0_byteOf_26 (by decide) ?_
    refine lv_iload_n hx hb dX0_byteOf_28 rfl (lv_at hl 4 rfl) ?_
    refine lv_iconst (v := 3) hx hb dX0_byteOf_29 (by decide) ?_
    refine lv_iand hx hb dX0_byteOf_30 ?_
    refine lv_imul hx hb dX0_byteOf_31 ?_
    refine lv_isub hx hb dX0_byteOf_32 ?_
    refine lv_iushr (v := ((Int32.toUInt32 p0 >>> (Int32.toUInt32 (24 - (8 * (p3 &&& 3))) &&& Int32.toUInt32 31)).toInt32)) hx hb dX0_byteOf_33 rfl ?_
    refine lv_sipush (v := 255) hx hb dX0_byteOf_34 (by decide) ?_
    refine lv_iand hx hb dX0_byteOf_37 ?_
    exact W.iret (v := (((Int32.toUInt32 p0 >>> (Int32.toUInt32 (24 - (8 * (p3 &&& 3))) &&& Int32.toUInt32 31)).toInt32) &&& 255)) hx hb hr (fun t ht hW => ⟨⟨(((Int32.toUInt32 p0 >>> (Int32.toUInt32 (24 - (8 * (p3 &&& 3))) &&& Int32.toUInt32 31)).toInt32) &&& 255), (), rfl, (s_byteOf_2 (p0 := p0) (p1 := p1) (p2 := p2) (p3 := p3) c_1), trivial⟩, hS.F ht⟩) hS.2.2 dX0_byteOf_38
set_option maxHeartbeats 4000000 in
set_option maxRecDepth 100000 in
theorem kX0_headingSize (l : Launch) (dC : Nat → ClassId) (dI : Nat → Nat → Nat) (sz : Nat) (p0 p1 p2 : Int32) : Met l yX0_headingSize (jk yX0_headingSize cX0_headingSize 8 (some .int)) ({ frames := 2, cells := 0, slots := 0, locals := 124 }) (va_Pc [.int p0, .int p1, .int p2] (fun U => U.heap.size = sz)) (va_Qi (fun (r : Int32) (_ : Unit) => (jN p0 p1 p2 = 0 ∧ r = (-1)) ∨ (¬ (jN p0 p1 p2 = 0) ∧ r = nI (jN p0 p1 p2))) (fun _ _ => True) (va_A [] sz)) 0 0 (va_A [] sz) := by
  refine Met.ofW (cc := cX0_headingSize) (maxL := 8) (ret := (some .int)) (by decide) rfl ?_
  intro p e s m args below meth c s₁ B hml hv
  obtain ⟨rfl, hsz⟩ := hv
  have hx := B.exec
  have hb := B.bytes
  have hr := B.returns
  have hts := atoms_spec (ws := (jk yX0_headingSize cX0_headingSize 8 (some .int))) B.pre
  have hown : s.vm.findClass RX0 = some m.cls := findClass_of_methodNamed B.named
  have hlocks := B.notSynchronized
  subst hsz
  have hP : va_P (dC, dI) vwCl [] s.heap := fun k q h => by simp at h
  generalize hAe : (va_A [] s.heap.size) = A
  have hA : ∀ q : Nat, s.heap.size ≤ q → A q := fun q h => by rw [← hAe]; exact Or.inr h
  have hS : va_S A s.heap s.heap [] := va_S.rf
  have hl := lv_entry ([.int p0, .int p1, .int p2]) (n := 8) (Nat.le_of_ble_eq_true rfl)
  rw [lg_entry_eq]
  generalize (lg_sl ([.int p0, .int p1, .int p2]) ++ List.replicate (8 - (lg_sl ([.int p0, .int p1, .int p2])).length) Slot.unset).toArray = ls at hl ⊢
  have hl : lv_has ls 8 [(0, .int p0), (1, .int p1), (2, .int p2)] := hl
  have key : ∀ (d i n : Nat) (la : Int32), i + d = 12 → jH p0 p1 p2 i = some (n, la) → ∀ (H : Heap) (locs : List Loc) (ls : Array Slot), va_S A s.heap H locs → lv_has ls 8 [(5, .int (nI i)), (4, .int la), (3, .int (nI n)), (0, .int p0), (1, .int p1), (2, .int p2)] → W p l e ({ frames := 2, cells := 0, slots := 0, locals := 124 }) s m ([.int p0, .int p1, .int p2] : List Value).toArray below meth c H locs 0 0 (MQ below (va_Qi (fun (r : Int32) (_ : Unit) => (jN p0 p1 p2 = 0 ∧ r = (-1)) ∨ (¬ (jN p0 p1 p2 = 0) ∧ r = nI (jN p0 p1 p2))) (fun _ _ => True) A) ([.int p0, .int p1, .int p2] : List Value).toArray s 0 0 A) (F0 m 9 ls []) := by
    intro d
    induction d with
    | zero =>
      intro i n la hi hH H locs ls hS hl
      obtain rfl : i = 12 := by omega
      have hP : va_P (dC, dI) vwCl [] H := fun k q h => by simp at h
      refine lv_iload hx hb dX0_headingSize_9 (lv_at hl 0 rfl) ?_
      refine lv_bipush (v := 12) hx hb dX0_headingSize_11 (by decide) ?_
      refine lv_icmp_ge (tgt := 89) hx hb dX0_headingSize_13 (by decide) (fun _ => ?_) (fun z => absurd (jb_ge (show (12 : Int32) ≤ nI 12 by decide) (by decide)) z)
      refine lv_iload hx hb dX0_headingSize_89 (lv_at hl 1 rfl) ?_
      refine lv_bipush (v := 32) hx hb dX0_headingSize_91 (by decide) ?_
      refine lv_icmp_ne (tgt := 100) hx hb dX0_headingSize_93 (by decide) (fun c_1 => ?_) (fun c_1 => ?_)
      · refine lv_iload_n hx hb dX0_headingSize_100 rfl (lv_at hl 2 rfl) ?_
        exact W.iret (v := (nI n)) hx hb hr (fun t ht hW => ⟨⟨(nI n), (), rfl, (Or.inr ⟨by rw [jN_some hH, if_neg c_1]; exact fun q => c_1 ((jH_inv hH).2.1 q), by rw [jN_some hH, if_neg c_1]⟩), trivial⟩, hS.F ht⟩) hS.2.2 dX0_headingSize_101
      · refine lv_iconst (v := (-1)) hx hb dX0_headingSize_96 (by decide) ?_
        refine lv_goto (tgt := 101) hx hb dX0_headingSize_97 (by decide) ?_
        exact W.iret (v := (-1)) hx hb hr (fun t ht hW => ⟨⟨(-1), (), rfl, (Or.inl ⟨by rw [jN_some hH, if_pos c_1], rfl⟩), trivial⟩, hS.F ht⟩) hS.2.2 dX0_headingSize_101
    | succ d ih =>
      intro i n la hi hH H locs ls hS hl
      have hP : va_P (dC, dI) vwCl [] H := fun k q h => by simp at h
      have hi12 : i < 12 := by omega
      have hn12 : n ≤ 12 := by have := (jH_inv hH).1; omega
      have hi0 : (0 : Int32) ≤ nI i := jy_0 i (by omega)
      have hi11 : nI i ≤ (11 : Int32) := jy_11 hi12
      refine lv_iload hx hb dX0_headingSize_9 (lv_at hl 0 rfl) ?_
      refine lv_bipush (v := 12) hx hb dX0_headingSize_11 (by decide) ?_
      refine lv_icmp_ge (tgt := 89) hx hb dX0_headingSize_13 (by decide) (fun z => absurd z (jb_nge hi11 (by decide))) (fun _ => ?_)
      refine lv_iload_n hx hb dX0_headingSize_16 rfl (lv_at hl 3 rfl) ?_
      refine lv_iload_n hx hb dX0_headingSize_17 rfl (lv_at hl 4 rfl) ?_
      refine lv_iload_n hx hb dX0_headingSize_18 rfl (lv_at hl 5 rfl) ?_
      refine lv_iload hx hb dX0_headingSize_19 (lv_at hl 0 rfl) ?_
      refine jc_i (va_runS (As := [.int p0, .int p1, .int p2, .int (nI i)]) (rest := []) ⟨hx, hb, hml, hown, hts⟩ (kX0_byteOf l dC dI _ p0 p1 p2 (nI i)) (va_cwS 4 hts (jgoodS m_85 m_86 m_83 m_87) rfl rfl rfl (by decide +kernel) ⟨Nat.le_of_ble_eq_true rfl, Nat.le_of_ble_eq_true rfl⟩) ⟨jw_blind0, fun U hU hW => ⟨rfl, congrArg Array.size hU⟩⟩ rfl rfl hl.1 rfl (lv_room (Nat.le_of_ble_eq_true rfl)) dX0_headingSize_21 ⟨Nat.le_of_ble_eq_true rfl, Nat.le_of_ble_eq_true rfl⟩) hP hS hA (fun r_1 H locs hw_1 hP hS => ?_)
      have hw_1 : (jby p0 p1 p2 (nI i)) = r_1 := Eq.symm hw_1
      subst hw_1
      refine lv_istore (lv' := [(6, .int (jby p0 p1 p2 (nI i))), (5, .int (nI i)), (4, .int la), (3, .int (nI n)), (0, .int p0), (1, .int p1), (2, .int p2)]) hx hb dX0_headingSize_24 hl (by decide) rfl (fun ls hl => ?_)
      refine lv_iload hx hb dX0_headingSize_26 (lv_at hl 0 rfl) ?_
      refine lv_if_ne (tgt := 34) hx hb dX0_headingSize_28 (by decide) (fun c_2 => ?_) (fun c_2 => ?_)
      · refine lv_iload hx hb dX0_headingSize_34 (lv_at hl 0 rfl) ?_
        refine jc_i (va_runS (As := [.int (jby p0 p1 p2 (nI i))]) (rest := []) ⟨hx, hb, hml, hown, hts⟩ (kX0_isMark l dC dI _ (jby p0 p1 p2 (nI i))) (va_cwS 1 hts (jgoodS m_88 m_89 m_83 m_90) rfl rfl rfl (by decide +kernel) ⟨Nat.le_of_ble_eq_true rfl, Nat.le_of_ble_eq_true rfl⟩) ⟨jw_blind0, fun U hU hW => ⟨rfl, congrArg Array.size hU⟩⟩ rfl rfl hl.1 rfl (lv_room (Nat.le_of_ble_eq_true rfl)) dX0_headingSize_36 ⟨Nat.le_of_ble_eq_true rfl, Nat.le_of_ble_eq_true rfl⟩) hP hS hA (fun r_3 H locs hw_3 hP hS => ?_)
        rcases (show (jmark (jby p0 p1 p2 (nI i)) ∧ r_3 = 1) ∨ (¬ (jmark (jby p0 p1 p2 (nI i))) ∧ r_3 = 0) from hw_3) with ⟨c_4, e_4_0⟩ | ⟨c_5, e_5_1⟩
        · have e_4_0 := e_4_0.symm
          subst e_4_0
          refine lv_if_ne (tgt := 56) hx hb dX0_headingSize_39 (by decide) (fun _ => ?_) (fun z => absurd z (by decide))
          refine lv_iconst (v := 1) hx hb dX0_headingSize_56 (by decide) ?_
          refine lv_goto (tgt := 61) hx hb dX0_headingSize_57 (by decide) ?_
          refine lv_istore (lv' := [(7, .int 1), (6, .int (jby p0 p1 p2 (nI i))), (5, .int (nI i)), (4, .int la), (3, .int (nI n)), (0, .int p0), (1, .int p1), (2, .int p2)]) hx hb dX0_headingSize_61 hl (by decide) rfl (fun ls hl => ?_)
          refine lv_iload hx hb dX0_headingSize_63 (lv_at hl 0 rfl) ?_
          refine lv_if_eq (tgt := 74) hx hb dX0_headingSize_65 (by decide) (fun z => absurd z (by decide)) (fun _ => ?_)
          refine lv_iload_n hx hb dX0_headingSize_68 rfl (lv_at hl 4 rfl) ?_
          refine lv_iload hx hb dX0_headingSize_69 (lv_at hl 2 rfl) ?_
          refine lv_icmp_ge (tgt := 76) hx hb dX0_headingSize_71 (by decide) (fun c_6 => ?_) (fun c_6 => ?_)
          · refine lv_iload hx hb dX0_headingSize_76 (lv_at hl 1 rfl) ?_
            refine lv_istore (lv' := [(4, .int (jby p0 p1 p2 (nI i))), (7, .int 1), (6, .int (jby p0 p1 p2 (nI i))), (5, .int (nI i)), (3, .int (nI n)), (0, .int p0), (1, .int p1), (2, .int p2)]) hx hb dX0_headingSize_78 hl (by decide) rfl (fun ls hl => ?_)
            refine lv_iinc (v := (nI (n + 1))) (lv' := [(3, .int (nI (n + 1))), (4, .int (jby p0 p1 p2 (nI i))), (7, .int 1), (6, .int (jby p0 p1 p2 (nI i))), (5, .int (nI i)), (0, .int p0), (1, .int p1), (2, .int p2)]) hx hb dX0_headingSize_80 hl (k := 4) rfl (nI_1 n) (by decide) rfl (fun ls hl => ?_)
            refine lv_iinc (v := (nI (i + 1))) (lv' := [(5, .int (nI (i + 1))), (3, .int (nI (n + 1))), (4, .int (jby p0 p1 p2 (nI i))), (7, .int 1), (6, .int (jby p0 p1 p2 (nI i))), (0, .int p0), (1, .int p1), (2, .int p2)]) hx hb dX0_headingSize_83 hl (k := 4) rfl (nI_1 i) (by decide) rfl (fun ls hl => ?_)
            refine lv_goto (tgt := 9) hx hb dX0_headingSize_86 (by decide) ?_
            exact ih (i + 1) (n + 1) _ (by omega) (jH_good hH c_2 (jy_nlt c_6 hi12 hn12) (Or.inl c_4)) H locs ls hS (lv_sub hl [0, 2, 1, 5, 6, 7] rfl)
          · refine lv_iconst (v := (-1)) hx hb dX0_headingSize_74 (by decide) ?_
            exact W.iret (v := (-1)) hx hb hr (fun t ht hW => ⟨⟨(-1), (), rfl, (Or.inl ⟨jN_none (k := i + 1) (by omega) (jH_bad hH c_2 (Or.inl (jy_lt2 c_6 hi12 hn12))), rfl⟩), trivial⟩, hS.F ht⟩) hS.2.2 dX0_headingSize_75
        · have e_5_1 := e_5_1.symm
          subst e_5_1
          refine lv_if_ne (tgt := 56) hx hb dX0_headingSize_39 (by decide) (fun z => absurd (by decide) z) (fun _ => ?_)
          refine lv_iload hx hb dX0_headingSize_42 (lv_at hl 0 rfl) ?_
          refine lv_bipush (v := 32) hx hb dX0_headingSize_44 (by decide) ?_
          refine lv_icmp_ne (tgt := 60) hx hb dX0_headingSize_46 (by decide) (fun c_7 => ?_) (fun c_7 => ?_)
          · refine lv_iconst (v := 0) hx hb dX0_headingSize_60 (by decide) ?_
            refine lv_istore (lv' := [(7, .int 0), (6, .int (jby p0 p1 p2 (nI i))), (5, .int (nI i)), (4, .int la), (3, .int (nI n)), (0, .int p0), (1, .int p1), (2, .int p2)]) hx hb dX0_headingSize_61 hl (by decide) rfl (fun ls hl => ?_)
            refine lv_iload hx hb dX0_headingSize_63 (lv_at hl 0 rfl) ?_
            refine lv_if_eq (tgt := 74) hx hb dX0_headingSize_65 (by decide) (fun _ => ?_) (fun z => absurd (by decide) z)
            refine lv_iconst (v := (-1)) hx hb dX0_headingSize_74 (by decide) ?_
            exact W.iret (v := (-1)) hx hb hr (fun t ht hW => ⟨⟨(-1), (), rfl, (Or.inl ⟨jN_none (k := i + 1) (by omega) (jH_bad hH c_2 (Or.inr (fun q => q.elim c_5 (fun q2 => c_7 q2.1)))), rfl⟩), trivial⟩, hS.F ht⟩) hS.2.2 dX0_headingSize_75
          · refine lv_iload hx hb dX0_headingSize_49 (lv_at hl 2 rfl) ?_
            refine lv_bipush (v := 32) hx hb dX0_headingSize_51 (by decide) ?_
            refine lv_icmp_eq (tgt := 60) hx hb dX0_headingSize_53 (by decide) (fun c_8 => ?_) (fun c_8 => ?_)
            · refine lv_iconst (v := 0) hx hb dX0_headingSize_60 (by decide) ?_
              refine lv_istore (lv' := [(7, .int 0), (6, .int (jby p0 p1 p2 (nI i))), (5, .int (nI i)), (4, .int la), (3, .int (nI n)), (0, .int p0), (1, .int p1), (2, .int p2)]) hx hb dX0_headingSize_61 hl (by decide) rfl (fun ls hl => ?_)
              refine lv_iload hx hb dX0_headingSize_63 (lv_at hl 0 rfl) ?_
              refine lv_if_eq (tgt := 74) hx hb dX0_headingSize_65 (by decide) (fun _ => ?_) (fun z => absurd (by decide) z)
              refine lv_iconst (v := (-1)) hx hb dX0_headingSize_74 (by decide) ?_
              exact W.iret (v := (-1)) hx hb hr (fun t ht hW => ⟨⟨(-1), (), rfl, (Or.inl ⟨jN_none (k := i + 1) (by omega) (jH_bad hH c_2 (Or.inr (fun q => q.elim c_5 (fun q2 => q2.2 c_8)))), rfl⟩), trivial⟩, hS.F ht⟩) hS.2.2 dX0_headingSize_75
            · refine lv_iconst (v := 1) hx hb dX0_headingSize_56 (by decide) ?_
              refine lv_goto (tgt := 61) hx hb dX0_headingSize_57 (by decide) ?_
              refine lv_istore (lv' := [(7, .int 1), (6, .int (jby p0 p1 p2 (nI i))), (5, .int (nI i)), (4, .int la), (3, .int (nI n)), (0, .int p0), (1, .int p1), (2, .int p2)]) hx hb dX0_headingSize_61 hl (by decide) rfl (fun ls hl => ?_)
              refine lv_iload hx hb dX0_headingSize_63 (lv_at hl 0 rfl) ?_
              refine lv_if_eq (tgt := 74) hx hb dX0_headingSize_65 (by decide) (fun z => absurd z (by decide)) (fun _ => ?_)
              refine lv_iload_n hx hb dX0_headingSize_68 rfl (lv_at hl 4 rfl) ?_
              refine lv_iload hx hb dX0_headingSize_69 (lv_at hl 2 rfl) ?_
              refine lv_icmp_ge (tgt := 76) hx hb dX0_headingSize_71 (by decide) (fun c_9 => ?_) (fun c_9 => ?_)
              · refine lv_iload hx hb dX0_headingSize_76 (lv_at hl 1 rfl) ?_
                refine lv_istore (lv' := [(4, .int (jby p0 p1 p2 (nI i))), (7, .int 1), (6, .int (jby p0 p1 p2 (nI i))), (5, .int (nI i)), (3, .int (nI n)), (0, .int p0), (1, .int p1), (2, .int p2)]) hx hb dX0_headingSize_78 hl (by decide) rfl (fun ls hl => ?_)
                refine lv_iinc (v := (nI (n + 1))) (lv' := [(3, .int (nI (n + 1))), (4, .int (jby p0 p1 p2 (nI i))), (7, .int 1), (6, .int (jby p0 p1 p2 (nI i))), (5, .int (nI i)), (0, .int p0), (1, .int p1), (2, .int p2)]) hx hb dX0_headingSize_80 hl (k := 4) rfl (nI_1 n) (by decide) rfl (fun ls hl => ?_)
                refine lv_iinc (v := (nI (i + 1))) (lv' := [(5, .int (nI (i + 1))), (3, .int (nI (n + 1))), (4, .int (jby p0 p1 p2 (nI i))), (7, .int 1), (6, .int (jby p0 p1 p2 (nI i))), (0, .int p0), (1, .int p1), (2, .int p2)]) hx hb dX0_headingSize_83 hl (k := 4) rfl (nI_1 i) (by decide) rfl (fun ls hl => ?_)
                refine lv_goto (tgt := 9) hx hb dX0_headingSize_86 (by decide) ?_
                exact ih (i + 1) (n + 1) _ (by omega) (jH_good hH c_2 (jy_nlt c_9 hi12 hn12) (Or.inr ⟨c_7, c_8⟩)) H locs ls hS (lv_sub hl [0, 2, 1, 5, 6, 7] rfl)
              · refine lv_iconst (v := (-1)) hx hb dX0_headingSize_74 (by decide) ?_
                exact W.iret (v := (-1)) hx hb hr (fun t ht hW => ⟨⟨(-1), (), rfl, (Or.inl ⟨jN_none (k := i + 1) (by omega) (jH_bad hH c_2 (Or.inl (jy_lt2 c_9 hi12 hn12))), rfl⟩), trivial⟩, hS.F ht⟩) hS.2.2 dX0_headingSize_75
      · refine lv_goto (tgt := 83) hx hb dX0_headingSize_31 (by decide) ?_
        refine lv_iinc (v := (nI (i + 1))) (lv' := [(5, .int (nI (i + 1))), (6, .int (jby p0 p1 p2 (nI i))), (4, .int la), (3, .int (nI n)), (0, .int p0), (1, .int p1), (2, .int p2)]) hx hb dX0_headingSize_83 hl (k := 1) rfl (nI_1 i) (by decide) rfl (fun ls hl => ?_)
        refine lv_goto (tgt := 9) hx hb dX0_headingSize_86 (by decide) ?_
        exact ih (i + 1) n la (by omega) (jH_zero hH c_2) H locs ls hS (lv_sub hl [0, 2, 3, 4, 5, 6] rfl)
  refine lv_iconst (v := 0) hx hb dX0_headingSize_0 (by decide) ?_
  refine lv_istore_n (lv' := [(3, .int 0), (0, .int p0), (1, .int p1), (2, .int p2)]) hx hb dX0_headingSize_1 rfl hl (by decide) rfl (fun ls hl => ?_)
  refine lv_bipush (v := 32) hx hb dX0_headingSize_2 (by decide) ?_
  refine lv_istore (lv' := [(4, .int 32), (3, .int 0), (0, .int p0), (1, .int p1), (2, .int p2)]) hx hb dX0_headingSize_4 hl (by decide) rfl (fun ls hl => ?_)
  refine lv_iconst (v := 0) hx hb dX0_headingSize_6 (by decide) ?_
  refine lv_istore (lv' := [(5, .int 0), (4, .int 32), (3, .int 0), (0, .int p0), (1, .int p1), (2, .int p2)]) hx hb dX0_headingSize_7 hl (by decide) rfl (fun ls hl => ?_)
  exact key 12 0 0 32 rfl rfl s.heap [] ls hS (lv_sub hl [0, 1, 2, 3, 4, 5] rfl)
set_option maxHeartbeats 4000000 in
set_option maxRecDepth 100000 in
theorem kX0_readHeading (l : Launch) (dC : Nat → ClassId) (dI : Nat → Nat → Nat) (sz : Nat) (h0 h1 n : Nat) (cA : ClassId) (k0 : Int32) (hn : n ≤ 12) (p1 p2 p3 : Int32) : Met l yX0_readHeading (jk yX0_readHeading cX0_readHeading 5 none) ({ frames := 1, cells := 0, slots := 0, locals := 24 }) (va_Pc [.ref h0, .int p1, .int p2, .int p3] (jw_P (dC, dI) [(h0, .inr (0, [.int 0, .int k0, .ref h1, .long 0, .int 0, .int 0, .int 0, .int 0, .int 0, .int 0, .int (-1), .int 0, .int (-1), .int (-1), .int (-1), .int 0, .long 0, .int 0])), (h1, .inl (cA, n, .inl (fun _ => 0)))] [(cA, .byte)] sz)) (va_Qv (fun (_ : Int64 × Int32 × (Nat → Int32)) => True) (fun u t => va_P (dC, dI) vwCl [(h0, .inr (0, [.int 0, .int k0, .ref h1, .long u.1, .int u.2.1, .int 0, .int 0, .int 0, .int 0, .int 0, .int (-1), .int 0, .int (-1), .int (-1), .int (-1), .int 0, .long 0, .int 0])), (h1, .inl (cA, n, .inl u.2.2))] t.heap ∧ va_K (dC, dI) vwCl [(cA, .byte)] t ∧ va_D (va_A [(h0, .inr (0, [.int 0, .int k0, .ref h1, .long 0, .int 0, .int 0, .int 0, .int 0, .int 0, .int 0, .int (-1), .int 0, .int (-1), .int (-1), .int (-1), .int 0, .long 0, .int 0])), (h1, .inl (cA, n, .inl (fun _ => 0)))] sz) [(h0, .inr (0, [.int 0, .int k0, .ref h1, .long u.1, .int u.2.1, .int 0, .int 0, .int 0, .int 0, .int 0, .int (-1), .int 0, .int (-1), .int (-1), .int (-1), .int 0, .long 0, .int 0])), (h1, .inl (cA, n, .inl u.2.2))]) (va_A [(h0, .inr (0, [.int 0, .int k0, .ref h1, .long 0, .int 0, .int 0, .int 0, .int 0, .int 0, .int 0, .int (-1), .int 0, .int (-1), .int (-1), .int (-1), .int 0, .long 0, .int 0])), (h1, .inl (cA, n, .inl (fun _ => 0)))] sz)) 0 0 (va_A [(h0, .inr (0, [.int 0, .int k0, .ref h1, .long 0, .int 0, .int 0, .int 0, .int 0, .int 0, .int 0, .int (-1), .int 0, .int (-1), .int (-1), .int (-1), .int 0, .long 0, .int 0])), (h1, .inl (cA, n, .inl (fun _ => 0)))] sz) := by
  refine Met.ofW (cc := cX0_readHeading) (maxL := 5) (ret := none) (by decide) rfl ?_
  intro p e s m args below meth c s₁ B hml hv
  obtain ⟨rfl, hsz, hP, hK, hD0⟩ := hv
  have hx := B.exec
  have hb := B.bytes
  have hr := B.returns
  have hts := atoms_spec (ws := (jk yX0_readHeading cX0_readHeading 5 none)) B.pre
  have hown : s.vm.findClass RX0 = some m.cls := findClass_of_methodNamed B.named
  have hlocks := B.notSynchronized
  subst hsz
  have hD := hD0.self (sz := s.heap.size)
  generalize hAe : (va_A [(h0, .inr (0, [.int 0, .int k0, .ref h1, .long 0, .int 0, .int 0, .int 0, .int 0, .int 0, .int 0, .int (-1), .int 0, .int (-1), .int (-1), .int (-1), .int 0, .long 0, .int 0])), (h1, .inl (cA, n, .inl (fun _ => 0)))] s.heap.size) = A at hD ⊢
  have hA : ∀ q : Nat, s.heap.size ≤ q → A q := fun q h => by rw [← hAe]; exact Or.inr h
  have hS : va_S A s.heap s.heap [] := va_S.rf
  have hP : va_P (dC, dI) vwCl ([(h0, .inr (0, [.int 0, .int k0, .ref h1, .long 0, .int 0, .int 0, .int 0, .int 0, .int 0, .int 0, .int (-1), .int 0, .int (-1), .int (-1), .int (-1), .int 0, .long 0, .int 0])), (h1, .inl (cA, n, .inl (fun _ => 0)))]) s.heap := hP
  have hl := lv_entry ([.ref h0, .int p1, .int p2, .int p3]) (n := 5) (Nat.le_of_ble_eq_true rfl)
  rw [lg_entry_eq]
  generalize (lg_sl ([.ref h0, .int p1, .int p2, .int p3]) ++ List.replicate (5 - (lg_sl ([.ref h0, .int p1, .int p2, .int p3])).length) Slot.unset).toArray = ls at hl ⊢
  have hl : lv_has ls 5 [(0, .ref h0), (1, .int p1), (2, .int p2), (3, .int p3)] := hl
  have key2 : ∀ (d i : Nat), i + d = n → ∀ (x : Int64) (y : Int32) (g : Nat → Int32) (H : Heap) (locs : List Loc) (ls : Array Slot), va_P (dC, dI) vwCl [(h0, .inr (0, [.int 0, .int k0, .ref h1, .long x, .int y, .int 0, .int 0, .int 0, .int 0, .int 0, .int (-1), .int 0, .int (-1), .int (-1), .int (-1), .int 0, .long 0, .int 0])), (h1, .inl (cA, n, .inl g))] H → va_D A [(h0, .inr (0, [.int 0, .int k0, .ref h1, .long x, .int y, .int 0, .int 0, .int 0, .int 0, .int 0, .int (-1), .int 0, .int (-1), .int (-1), .int (-1), .int 0, .long 0, .int 0])), (h1, .inl (cA, n, .inl g))] → va_S A s.heap H locs → lv_has ls 5 [(4, .int (nI i)), (0, .ref h0), (1, .int p1), (2, .int p2), (3, .int p3)] → W p l e ({ frames := 1, cells := 0, slots := 0, locals := 24 }) s m ([.ref h0, .int p1, .int p2, .int p3] : List Value).toArray below meth c H locs 0 0 (MQ below (va_Qv (fun (_ : Int64 × Int32 × (Nat → Int32)) => True) (fun u t => va_P (dC, dI) vwCl [(h0, .inr (0, [.int 0, .int k0, .ref h1, .long u.1, .int u.2.1, .int 0, .int 0, .int 0, .int 0, .int 0, .int (-1), .int 0, .int (-1), .int (-1), .int (-1), .int 0, .long 0, .int 0])), (h1, .inl (cA, n, .inl u.2.2))] t.heap ∧ va_K (dC, dI) vwCl [(cA, .byte)] t ∧ va_D A [(h0, .inr (0, [.int 0, .int k0, .ref h1, .long u.1, .int u.2.1, .int 0, .int 0, .int 0, .int 0, .int 0, .int (-1), .int 0, .int (-1), .int (-1), .int (-1), .int 0, .long 0, .int 0])), (h1, .inl (cA, n, .inl u.2.2))]) A) ([.ref h0, .int p1, .int p2, .int p3] : List Value).toArray s 0 0 A) (F0 m 38 ls []) := by
    intro d
    induction d with
    | zero =>
      intro i hi x y g H locs ls hP hD hS hl
      refine lv_iload hx hb dX0_readHeading_38 (lv_at hl 0 rfl) ?_
      refine lv_aload_n hx hb dX0_readHeading_40 rfl (lv_at hl 1 rfl) ?_
      refine va_get (D := (dC, dI)) (ci := 0) (v := .ref h1) (C := RX0) (T := TX0) (N := 18) hx hb hts (jh hin_RX0) hown hK hP 0 rfl rfl 2 (by decide) (hts (.fieldLink RX0 36 "BookOfAll$Entry" "heading" "[B") (jm m_91)) (fun _ h9 => h9) rfl dX0_readHeading_41 ?_
      refine va_alen (v := nI n) hx hb hK hP 1 0 rfl rfl rfl dX0_readHeading_44 ?_
      refine lv_icmp_ge (tgt := 94) hx hb dX0_readHeading_45 (by decide) (fun _ => ?_) (fun z => absurd (nI_le (by omega) (by omega)) z)
      refine lv_aload_n hx hb dX0_readHeading_94 rfl (lv_at hl 1 rfl) ?_
      refine va_get (D := (dC, dI)) (ci := 0) (v := .int y) (C := RX0) (T := TX0) (N := 18) hx hb hts (jh hin_RX0) hown hK hP 0 rfl rfl 4 (by decide) (hts (.fieldLink RX0 55 "BookOfAll$Entry" "secondWord" "I") (jm m_92)) (fun _ h9 => h9) rfl dX0_readHeading_95 ?_
      refine lv_aload_n hx hb dX0_readHeading_98 rfl (lv_at hl 1 rfl) ?_
      refine va_get (D := (dC, dI)) (ci := 0) (v := .ref h1) (C := RX0) (T := TX0) (N := 18) hx hb hts (jh hin_RX0) hown hK hP 0 rfl rfl 2 (by decide) (hts (.fieldLink RX0 36 "BookOfAll$Entry" "heading" "[B") (jm m_91)) (fun _ h9 => h9) rfl dX0_readHeading_99 ?_
      refine va_alen (v := nI n) hx hb hK hP 1 0 rfl rfl rfl dX0_readHeading_102 ?_
      refine lv_icmp_gt (tgt := 115) hx hb dX0_readHeading_103 (by decide) (fun c_1 => ?_) (fun c_1 => ?_)
      · refine lv_aload_n hx hb dX0_readHeading_115 rfl (lv_at hl 1 rfl) ?_
        refine lv_iconst (v := 0) hx hb dX0_readHeading_116 (by decide) ?_
        refine va_put (D := (dC, dI)) (ci := 0) (v := .int 0) (ty := .int) (C := RX0) (T := TX0) (N := 18) hx hb hts (jh hin_RX0) tyX0 tyX0_ok nmX0 hown hK hP hD hS 0 rfl rfl 4 (by decide) (hts (.fieldLink RX0 55 "BookOfAll$Entry" "secondWord" "I") (jm m_92)) (fun _ h9 => h9) rfl (by decide +kernel) rfl rfl (Nat.le_of_ble_eq_true rfl) dX0_readHeading_117 (fun H locs hP hD hS => ?_)
        exact W.vret hx hb hr (fun t ht hW => ⟨⟨(x, 0, g), rfl, trivial, by rw [ht]; exact hP, va_K.moved hW.alike hK, hD⟩, hS.F ht⟩) hS.2.2 dX0_readHeading_120
      · refine lv_aload_n hx hb dX0_readHeading_106 rfl (lv_at hl 1 rfl) ?_
        refine va_get (D := (dC, dI)) (ci := 0) (v := .int y) (C := RX0) (T := TX0) (N := 18) hx hb hts (jh hin_RX0) hown hK hP 0 rfl rfl 4 (by decide) (hts (.fieldLink RX0 55 "BookOfAll$Entry" "secondWord" "I") (jm m_92)) (fun _ h9 => h9) rfl dX0_readHeading_107 ?_
        refine lv_bipush (v := 9) hx hb dX0_readHeading_110 (by decide) ?_
        refine lv_icmp_le (tgt := 120) hx hb dX0_readHeading_112 (by decide) (fun c_2 => ?_) (fun c_2 => ?_)
        · exact W.vret hx hb hr (fun t ht hW => ⟨⟨(x, y, g), rfl, trivial, by rw [ht]; exact hP, va_K.moved hW.alike hK, hD⟩, hS.F ht⟩) hS.2.2 dX0_readHeading_120
        · refine lv_aload_n hx hb dX0_readHeading_115 rfl (lv_at hl 1 rfl) ?_
          refine lv_iconst (v := 0) hx hb dX0_readHeading_116 (by decide) ?_
          refine va_put (D := (dC, dI)) (ci := 0) (v := .int 0) (ty := .int) (C := RX0) (T := TX0) (N := 18) hx hb hts (jh hin_RX0) tyX0 tyX0_ok nmX0 hown hK hP hD hS 0 rfl rfl 4 (by decide) (hts (.fieldLink RX0 55 "BookOfAll$Entry" "secondWord" "I") (jm m_92)) (fun _ h9 => h9) rfl (by decide +kernel) rfl rfl (Nat.le_of_ble_eq_true rfl) dX0_readHeading_117 (fun H locs hP hD hS => ?_)
          exact W.vret hx hb hr (fun t ht hW => ⟨⟨(x, 0, g), rfl, trivial, by rw [ht]; exact hP, va_K.moved hW.alike hK, hD⟩, hS.F ht⟩) hS.2.2 dX0_readHeading_120
    | succ d ih =>
      intro i hi x y g H locs ls hP hD hS hl
      have hlt : i < n := by omega
      refine lv_iload hx hb dX0_readHeading_38 (lv_at hl 0 rfl) ?_
      refine lv_aload_n hx hb dX0_readHeading_40 rfl (lv_at hl 1 rfl) ?_
      refine va_get (D := (dC, dI)) (ci := 0) (v := .ref h1) (C := RX0) (T := TX0) (N := 18) hx hb hts (jh hin_RX0) hown hK hP 0 rfl rfl 2 (by decide) (hts (.fieldLink RX0 36 "BookOfAll$Entry" "heading" "[B") (jm m_91)) (fun _ h9 => h9) rfl dX0_readHeading_41 ?_
      refine va_alen (v := nI n) hx hb hK hP 1 0 rfl rfl rfl dX0_readHeading_44 ?_
      refine lv_icmp_ge (tgt := 94) hx hb dX0_readHeading_45 (by decide) (fun z => absurd z (nI_ge hlt (by omega))) (fun _ => ?_)
      refine lv_aload_n hx hb dX0_readHeading_48 rfl (lv_at hl 1 rfl) ?_
      refine va_get (D := (dC, dI)) (ci := 0) (v := .ref h1) (C := RX0) (T := TX0) (N := 18) hx hb hts (jh hin_RX0) hown hK hP 0 rfl rfl 2 (by decide) (hts (.fieldLink RX0 36 "BookOfAll$Entry" "heading" "[B") (jm m_91)) (fun _ h9 => h9) rfl dX0_readHeading_49 ?_
      refine lv_iload hx hb dX0_readHeading_52 (lv_at hl 0 rfl) ?_
      refine va_bald hx hb hK hP 1 0 rfl rfl (vp_in_nI hlt (by omega)) dX0_readHeading_54 ?_
      refine lv_bipush (v := 32) hx hb dX0_readHeading_55 (by decide) ?_
      refine lv_icmp_eq (tgt := 94) hx hb dX0_readHeading_57 (by decide) (fun c_1 => ?_) (fun c_1 => ?_)
      · refine lv_aload_n hx hb dX0_readHeading_94 rfl (lv_at hl 1 rfl) ?_
        refine va_get (D := (dC, dI)) (ci := 0) (v := .int y) (C := RX0) (T := TX0) (N := 18) hx hb hts (jh hin_RX0) hown hK hP 0 rfl rfl 4 (by decide) (hts (.fieldLink RX0 55 "BookOfAll$Entry" "secondWord" "I") (jm m_92)) (fun _ h9 => h9) rfl dX0_readHeading_95 ?_
        refine lv_aload_n hx hb dX0_readHeading_98 rfl (lv_at hl 1 rfl) ?_
        refine va_get (D := (dC, dI)) (ci := 0) (v := .ref h1) (C := RX0) (T := TX0) (N := 18) hx hb hts (jh hin_RX0) hown hK hP 0 rfl rfl 2 (by decide) (hts (.fieldLink RX0 36 "BookOfAll$Entry" "heading" "[B") (jm m_91)) (fun _ h9 => h9) rfl dX0_readHeading_99 ?_
        refine va_alen (v := nI n) hx hb hK hP 1 0 rfl rfl rfl dX0_readHeading_102 ?_
        refine lv_icmp_gt (tgt := 115) hx hb dX0_readHeading_103 (by decide) (fun c_2 => ?_) (fun c_2 => ?_)
        · refine lv_aload_n hx hb dX0_readHeading_115 rfl (lv_at hl 1 rfl) ?_
          refine lv_iconst (v := 0) hx hb dX0_readHeading_116 (by decide) ?_
          refine va_put (D := (dC, dI)) (ci := 0) (v := .int 0) (ty := .int) (C := RX0) (T := TX0) (N := 18) hx hb hts (jh hin_RX0) tyX0 tyX0_ok nmX0 hown hK hP hD hS 0 rfl rfl 4 (by decide) (hts (.fieldLink RX0 55 "BookOfAll$Entry" "secondWord" "I") (jm m_92)) (fun _ h9 => h9) rfl (by decide +kernel) rfl rfl (Nat.le_of_ble_eq_true rfl) dX0_readHeading_117 (fun H locs hP hD hS => ?_)
          exact W.vret hx hb hr (fun t ht hW => ⟨⟨(x, 0, g), rfl, trivial, by rw [ht]; exact hP, va_K.moved hW.alike hK, hD⟩, hS.F ht⟩) hS.2.2 dX0_readHeading_120
        · refine lv_aload_n hx hb dX0_readHeading_106 rfl (lv_at hl 1 rfl) ?_
          refine va_get (D := (dC, dI)) (ci := 0) (v := .int y) (C := RX0) (T := TX0) (N := 18) hx hb hts (jh hin_RX0) hown hK hP 0 rfl rfl 4 (by decide) (hts (.fieldLink RX0 55 "BookOfAll$Entry" "secondWord" "I") (jm m_92)) (fun _ h9 => h9) rfl dX0_readHeading_107 ?_
          refine lv_bipush (v := 9) hx hb dX0_readHeading_110 (by decide) ?_
          refine lv_icmp_le (tgt := 120) hx hb dX0_readHeading_112 (by decide) (fun c_3 => ?_) (fun c_3 => ?_)
          · exact W.vret hx hb hr (fun t ht hW => ⟨⟨(x, y, g), rfl, trivial, by rw [ht]; exact hP, va_K.moved hW.alike hK, hD⟩, hS.F ht⟩) hS.2.2 dX0_readHeading_120
          · refine lv_aload_n hx hb dX0_readHeading_115 rfl (lv_at hl 1 rfl) ?_
            refine lv_iconst (v := 0) hx hb dX0_readHeading_116 (by decide) ?_
            refine va_put (D := (dC, dI)) (ci := 0) (v := .int 0) (ty := .int) (C := RX0) (T := TX0) (N := 18) hx hb hts (jh hin_RX0) tyX0 tyX0_ok nmX0 hown hK hP hD hS 0 rfl rfl 4 (by decide) (hts (.fieldLink RX0 55 "BookOfAll$Entry" "secondWord" "I") (jm m_92)) (fun _ h9 => h9) rfl (by decide +kernel) rfl rfl (Nat.le_of_ble_eq_true rfl) dX0_readHeading_117 (fun H locs hP hD hS => ?_)
            exact W.vret hx hb hr (fun t ht hW => ⟨⟨(x, 0, g), rfl, trivial, by rw [ht]; exact hP, va_K.moved hW.alike hK, hD⟩, hS.F ht⟩) hS.2.2 dX0_readHeading_120
      · refine lv_aload_n hx hb dX0_readHeading_60 rfl (lv_at hl 1 rfl) ?_
        refine lv_aload_n hx hb dX0_readHeading_61 rfl (lv_at hl 1 rfl) ?_
        refine va_get (D := (dC, dI)) (ci := 0) (v := .long x) (C := RX0) (T := TX0) (N := 18) hx hb hts (jh hin_RX0) hown hK hP 0 rfl rfl 3 (by decide) (hts (.fieldLink RX0 51 "BookOfAll$Entry" "firstWord" "J") (jm m_93)) (fun _ h9 => h9) rfl dX0_readHeading_62 ?_
        refine lv_bipush (v := 8) hx hb dX0_readHeading_65 (by decide) ?_
        refine lv_lshl (v := (x <<< (Int32.toInt64 8 &&& 63))) hx hb dX0_readHeading_67 rfl ?_
        refine lv_aload_n hx hb dX0_readHeading_68 rfl (lv_at hl 1 rfl) ?_
        refine va_get (D := (dC, dI)) (ci := 0) (v := .ref h1) (C := RX0) (T := TX0) (N := 18) hx hb hts (jh hin_RX0) hown hK hP 0 rfl rfl 2 (by decide) (hts (.fieldLink RX0 36 "BookOfAll$Entry" "heading" "[B") (jm m_91)) (fun _ h9 => h9) rfl dX0_readHeading_69 ?_
        refine lv_iload hx hb dX0_readHeading_72 (lv_at hl 0 rfl) ?_
        refine va_bald hx hb hK hP 1 0 rfl rfl (vp_in_nI hlt (by omega)) dX0_readHeading_74 ?_
        refine lv_i2l (v := ((g (Int32.toNatClampNeg (nI i))).toInt64)) hx hb dX0_readHeading_75 rfl ?_
        refine lv_lor hx hb dX0_readHeading_76 ?_
        refine va_put (D := (dC, dI)) (ci := 0) (v := .long ((x <<< (Int32.toInt64 8 &&& 63)) ||| ((g (Int32.toNatClampNeg (nI i))).toInt64))) (ty := .long) (C := RX0) (T := TX0) (N := 18) hx hb hts (jh hin_RX0) tyX0 tyX0_ok nmX0 hown hK hP hD hS 0 rfl rfl 3 (by decide) (hts (.fieldLink RX0 51 "BookOfAll$Entry" "firstWord" "J") (jm m_93)) (fun _ h9 => h9) rfl (by decide +kernel) rfl rfl (Nat.le_of_ble_eq_true rfl) dX0_readHeading_77 (fun H locs hP hD hS => ?_)
        refine lv_aload_n hx hb dX0_readHeading_80 rfl (lv_at hl 1 rfl) ?_
        refine lv_iload hx hb dX0_readHeading_81 (lv_at hl 0 rfl) ?_
        refine lv_iconst (v := 2) hx hb dX0_readHeading_83 (by decide) ?_
        refine lv_iadd hx hb dX0_readHeading_84 ?_
        refine va_put (D := (dC, dI)) (ci := 0) (v := .int ((nI i) + 2)) (ty := .int) (C := RX0) (T := TX0) (N := 18) hx hb hts (jh hin_RX0) tyX0 tyX0_ok nmX0 hown hK hP hD hS 0 rfl rfl 4 (by decide) (hts (.fieldLink RX0 55 "BookOfAll$Entry" "secondWord" "I") (jm m_92)) (fun _ h9 => h9) rfl (by decide +kernel) rfl rfl (Nat.le_of_ble_eq_true rfl) dX0_readHeading_85 (fun H locs hP hD hS => ?_)
        refine lv_iinc (v := (nI (i + 1))) (lv' := [(4, .int (nI (i + 1))), (0, .ref h0), (1, .int p1), (2, .int p2), (3, .int p3)]) hx hb dX0_readHeading_88 hl (k := 0) rfl (nI_1 i) (by decide) rfl (fun ls hl => ?_)
        refine lv_goto (tgt := 38) hx hb dX0_readHeading_91 (by decide) ?_
        exact ih (i + 1) (by omega) _ _ g H locs ls hP hD hS (lv_sub hl [0, 1, 2, 3, 4] rfl)
  have key1 : ∀ (d i : Nat), i + d = n → ∀ (g : Nat → Int32) (H : Heap) (locs : List Loc) (ls : Array Slot), va_P (dC, dI) vwCl [(h0, .inr (0, [.int 0, .int k0, .ref h1, .long 0, .int 0, .int 0, .int 0, .int 0, .int 0, .int 0, .int (-1), .int 0, .int (-1), .int (-1), .int (-1), .int 0, .long 0, .int 0])), (h1, .inl (cA, n, .inl g))] H → va_D A [(h0, .inr (0, [.int 0, .int k0, .ref h1, .long 0, .int 0, .int 0, .int 0, .int 0, .int 0, .int 0, .int (-1), .int 0, .int (-1), .int (-1), .int (-1), .int 0, .long 0, .int 0])), (h1, .inl (cA, n, .inl g))] → va_S A s.heap H locs → lv_has ls 5 [(4, .int (nI i)), (0, .ref h0), (1, .int p1), (2, .int p2), (3, .int p3)] → W p l e ({ frames := 1, cells := 0, slots := 0, locals := 24 }) s m ([.ref h0, .int p1, .int p2, .int p3] : List Value).toArray below meth c H locs 0 0 (MQ below (va_Qv (fun (_ : Int64 × Int32 × (Nat → Int32)) => True) (fun u t => va_P (dC, dI) vwCl [(h0, .inr (0, [.int 0, .int k0, .ref h1, .long u.1, .int u.2.1, .int 0, .int 0, .int 0, .int 0, .int 0, .int (-1), .int 0, .int (-1), .int (-1), .int (-1), .int 0, .long 0, .int 0])), (h1, .inl (cA, n, .inl u.2.2))] t.heap ∧ va_K (dC, dI) vwCl [(cA, .byte)] t ∧ va_D A [(h0, .inr (0, [.int 0, .int k0, .ref h1, .long u.1, .int u.2.1, .int 0, .int 0, .int 0, .int 0, .int 0, .int (-1), .int 0, .int (-1), .int (-1), .int (-1), .int 0, .long 0, .int 0])), (h1, .inl (cA, n, .inl u.2.2))]) A) ([.ref h0, .int p1, .int p2, .int p3] : List Value).toArray s 0 0 A) (F0 m 3 ls []) := by
    intro d
    induction d with
    | zero =>
      intro i hi g H locs ls hP hD hS hl
      refine lv_iload hx hb dX0_readHeading_3 (lv_at hl 0 rfl) ?_
      refine lv_aload_n hx hb dX0_readHeading_5 rfl (lv_at hl 1 rfl) ?_
      refine va_get (D := (dC, dI)) (ci := 0) (v := .ref h1) (C := RX0) (T := TX0) (N := 18) hx hb hts (jh hin_RX0) hown hK hP 0 rfl rfl 2 (by decide) (hts (.fieldLink RX0 36 "BookOfAll$Entry" "heading" "[B") (jm m_91)) (fun _ h9 => h9) rfl dX0_readHeading_6 ?_
      refine va_alen (v := nI n) hx hb hK hP 1 0 rfl rfl rfl dX0_readHeading_9 ?_
      refine lv_icmp_ge (tgt := 35) hx hb dX0_readHeading_10 (by decide) (fun _ => ?_) (fun z => absurd (nI_le (by omega) (by omega)) z)
      refine lv_iconst (v := 0) hx hb dX0_readHeading_35 (by decide) ?_
      refine lv_istore (lv' := [(4, .int 0), (0, .ref h0), (1, .int p1), (2, .int p2), (3, .int p3)]) hx hb dX0_readHeading_36 hl (by decide) rfl (fun ls hl => ?_)
      exact key2 n 0 (by omega) 0 0 _ H locs ls hP hD hS (lv_sub hl [0, 1, 2, 3, 4] rfl)
    | succ d ih =>
      intro i hi g H locs ls hP hD hS hl
      have hlt : i < n := by omega
      refine lv_iload hx hb dX0_readHeading_3 (lv_at hl 0 rfl) ?_
      refine lv_aload_n hx hb dX0_readHeading_5 rfl (lv_at hl 1 rfl) ?_
      refine va_get (D := (dC, dI)) (ci := 0) (v := .ref h1) (C := RX0) (T := TX0) (N := 18) hx hb hts (jh hin_RX0) hown hK hP 0 rfl rfl 2 (by decide) (hts (.fieldLink RX0 36 "BookOfAll$Entry" "heading" "[B") (jm m_91)) (fun _ h9 => h9) rfl dX0_readHeading_6 ?_
      refine va_alen (v := nI n) hx hb hK hP 1 0 rfl rfl rfl dX0_readHeading_9 ?_
      refine lv_icmp_ge (tgt := 35) hx hb dX0_readHeading_10 (by decide) (fun z => absurd z (nI_ge hlt (by omega))) (fun _ => ?_)
      refine lv_aload_n hx hb dX0_readHeading_13 rfl (lv_at hl 1 rfl) ?_
      refine va_get (D := (dC, dI)) (ci := 0) (v := .ref h1) (C := RX0) (T := TX0) (N := 18) hx hb hts (jh hin_RX0) hown hK hP 0 rfl rfl 2 (by decide) (hts (.fieldLink RX0 36 "BookOfAll$Entry" "heading" "[B") (jm m_91)) (fun _ h9 => h9) rfl dX0_readHeading_14 ?_
      refine lv_iload hx hb dX0_readHeading_17 (lv_at hl 0 rfl) ?_
      refine lv_iload_n hx hb dX0_readHeading_19 rfl (lv_at hl 2 rfl) ?_
      refine lv_iload_n hx hb dX0_readHeading_20 rfl (lv_at hl 3 rfl) ?_
      refine lv_iload_n hx hb dX0_readHeading_21 rfl (lv_at hl 4 rfl) ?_
      refine lv_iload hx hb dX0_readHeading_22 (lv_at hl 0 rfl) ?_
      refine jc_i (va_runS (As := [.int p1, .int p2, .int p3, .int (nI i)]) (rest := [.int (nI i), .ref h1]) ⟨hx, hb, hml, hown, hts⟩ (kX0_byteOf l dC dI _ p1 p2 p3 (nI i)) (va_cwS 4 hts (jgoodS m_85 m_86 m_83 m_87) rfl rfl rfl (by decide +kernel) ⟨Nat.le_of_ble_eq_true rfl, Nat.le_of_ble_eq_true rfl⟩) ⟨jw_blind0, fun U hU hW => ⟨rfl, congrArg Array.size hU⟩⟩ rfl rfl hl.1 rfl (lv_room (Nat.le_of_ble_eq_true rfl)) dX0_readHeading_24 ⟨Nat.le_of_ble_eq_true rfl, Nat.le_of_ble_eq_true rfl⟩) hP hS hA (fun r_1 H locs hw_1 hP hS => ?_)
      have hw_1 : (jby p1 p2 p3 (nI i)) = r_1 := Eq.symm hw_1
      subst hw_1
      refine lv_i2b (v := ((jby p1 p2 p3 (nI i)).toInt8.toInt32)) hx hb dX0_readHeading_27 rfl ?_
      refine va_bast hx hb hK hP hD hS 1 0 rfl rfl (vp_in_nI hlt (by omega)) dX0_readHeading_28 (fun H locs hP hD hS => ?_)
      refine lv_iinc (v := (nI (i + 1))) (lv' := [(4, .int (nI (i + 1))), (0, .ref h0), (1, .int p1), (2, .int p2), (3, .int p3)]) hx hb dX0_readHeading_29 hl (k := 0) rfl (nI_1 i) (by decide) rfl (fun ls hl => ?_)
      refine lv_goto (tgt := 3) hx hb dX0_readHeading_32 (by decide) ?_
      exact ih (i + 1) (by omega) _ H locs ls hP hD hS (lv_sub hl [0, 1, 2, 3, 4] rfl)
  refine lv_iconst (v := 0) hx hb dX0_readHeading_0 (by decide) ?_
  refine lv_istore (lv' := [(4, .int 0), (0, .ref h0), (1, .int p1), (2, .int p2), (3, .int p3)]) hx hb dX0_readHeading_1 hl (by decide) rfl (fun ls hl => ?_)
  exact key1 n 0 (by omega) _ s.heap [] ls hP hD hS (lv_sub hl [0, 1, 2, 3, 4] rfl)
theorem s_kX13_isLetter_0 {p0 : Int32} (c_1 : p0 < 97) : ((97 ≤ p0 ∧ p0 ≤ 122) ∧ (0 : Int32) = 1) ∨ (¬ ((97 ≤ p0 ∧ p0 ≤ 122)) ∧ (0 : Int32) = 0) := by
  have g0 : p0.toInt < 97 := ji_lt.mp c_1
  exact Or.inr ⟨by simp only [ji_le, show (97 : Int32).toInt = 97 from rfl, show (122 : Int32).toInt = 122 from rfl]; omega, rfl⟩
theorem s_kX13_isLetter_1 {p0 : Int32} (c_1 : ¬ (p0 < 97)) (c_2 : 122 < p0) : ((97 ≤ p0 ∧ p0 ≤ 122) ∧ (0 : Int32) = 1) ∨ (¬ ((97 ≤ p0 ∧ p0 ≤ 122)) ∧ (0 : Int32) = 0) := by
  have g0 : ¬ (p0.toInt < 97) := fun z => c_1 (ji_lt.mpr z)
  have g1 : 122 < p0.toInt := ji_lt.mp c_2
  exact Or.inr ⟨by simp only [ji_le, show (97 : Int32).toInt = 97 from rfl, show (122 : Int32).toInt = 122 from rfl]; omega, rfl⟩
theorem s_kX13_isLetter_2 {p0 : Int32} (c_1 : ¬ (p0 < 97)) (c_2 : ¬ (122 < p0)) : ((97 ≤ p0 ∧ p0 ≤ 122) ∧ (1 : Int32) = 1) ∨ (¬ ((97 ≤ p0 ∧ p0 ≤ 122)) ∧ (1 : Int32) = 0) := by
  have g0 : ¬ (p0.toInt < 97) := fun z => c_1 (ji_lt.mpr z)
  have g1 : ¬ (122 < p0.toInt) := fun z => c_2 (ji_lt.mpr z)
  exact Or.inl ⟨by simp only [ji_le, show (97 : Int32).toInt = 97 from rfl, show (122 : Int32).toInt = 122 from rfl]; omega, rfl⟩
set_option maxHeartbeats 4000000 in
set_option maxRecDepth 100000 in
theorem kX13_isLetter (l : Launch) (dC : Nat → ClassId) (dI : Nat → Nat → Nat) (sz : Nat) (p0 : Int32) : Met l yX13_isLetter (jk yX13_isLetter cX13_isLetter 1 (some .boolean)) ({ frames := 0, cells := 0, slots := 0, locals := 0 }) (va_Pc [.int p0] (fun U => U.heap.size = sz)) (va_Qi (fun (r : Int32) (_ : Unit) => ((97 ≤ p0 ∧ p0 ≤ 122) ∧ r = 1) ∨ (¬ ((97 ≤ p0 ∧ p0 ≤ 122)) ∧ r = 0)) (fun _ _ => True) (va_A [] sz)) 0 0 (va_A [] sz) := by
  refine Met.ofW (cc := cX13_isLetter) (maxL := 1) (ret := (some .boolean)) (by decide) rfl ?_
  intro p e s m args below meth c s₁ B hml hv
  obtain ⟨rfl, hsz⟩ := hv
  have hx := B.exec
  have hb := B.bytes
  have hr := B.returns
  have hts := atoms_spec (ws := (jk yX13_isLetter cX13_isLetter 1 (some .boolean))) B.pre
  have hown : s.vm.findClass RX13 = some m.cls := findClass_of_methodNamed B.named
  have hlocks := B.notSynchronized
  subst hsz
  have hP : va_P (dC, dI) vwCl [] s.heap := fun k q h => by simp at h
  generalize hAe : (va_A [] s.heap.size) = A
  have hA : ∀ q : Nat, s.heap.size ≤ q → A q := fun q h => by rw [← hAe]; exact Or.inr h
  have hS : va_S A s.heap s.heap [] := va_S.rf
  have hl := lv_entry ([.int p0]) (n := 1) (Nat.le_of_ble_eq_true rfl)
  rw [lg_entry_eq]
  generalize (lg_sl ([.int p0]) ++ List.replicate (1 - (lg_sl ([.int p0])).length) Slot.unset).toArray = ls at hl ⊢
  have hl : lv_has ls 1 [(0, .int p0)] := hl
  refine lv_iload_n hx hb dX13_isLetter_0 rfl (lv_at hl 0 rfl) ?_
  refine lv_bipush (v := 97) hx hb dX13_isLetter_1 (by decide) ?_
  refine lv_icmp_lt (tgt := 16) hx hb dX13_isLetter_3 (by decide) (fun c_1 => ?_) (fun c_1 => ?_)
  · refine lv_iconst (v := 0) hx hb dX13_isLetter_16 (by decide) ?_
    exact W.zret (v := 0) (ty := .boolean) hx hb hr rfl (fun t ht hW => ⟨⟨0, (), rfl, (s_kX13_isLetter_0 (p0 := p0) c_1), trivial⟩, hS.F ht⟩) hS.2.2 dX13_isLetter_17
  · refine lv_iload_n hx hb dX13_isLetter_6 rfl (lv_at hl 0 rfl) ?_
    refine lv_bipush (v := 122) hx hb dX13_isLetter_7 (by decide) ?_
    refine lv_icmp_gt (tgt := 16) hx hb dX13_isLetter_9 (by decide) (fun c_2 => ?_) (fun c_2 => ?_)
    · refine lv_iconst (v := 0) hx hb dX13_isLetter_16 (by decide) ?_
      exact W.zret (v := 0) (ty := .boolean) hx hb hr rfl (fun t ht hW => ⟨⟨0, (), rfl, (s_kX13_isLetter_1 (p0 := p0) c_1 c_2), trivial⟩, hS.F ht⟩) hS.2.2 dX13_isLetter_17
    · refine lv_iconst (v := 1) hx hb dX13_isLetter_12 (by decide) ?_
      refine lv_goto (tgt := 17) hx hb dX13_isLetter_13 (by decide) ?_
      exact W.zret (v := 1) (ty := .boolean) hx hb hr rfl (fun t ht hW => ⟨⟨1, (), rfl, (s_kX13_isLetter_2 (p0 := p0) c_1 c_2), trivial⟩, hS.F ht⟩) hS.2.2 dX13_isLetter_17
theorem s_kX13_isDigit_0 {p0 : Int32} (c_1 : p0 < 48) : ((48 ≤ p0 ∧ p0 ≤ 57) ∧ (0 : Int32) = 1) ∨ (¬ ((48 ≤ p0 ∧ p0 ≤ 57)) ∧ (0 : Int32) = 0) := by
  have g0 : p0.toInt < 48 := ji_lt.mp c_1
  exact Or.inr ⟨by simp only [ji_le, show (48 : Int32).toInt = 48 from rfl, show (57 : Int32).toInt = 57 from rfl]; omega, rfl⟩
theorem s_kX13_isDigit_1 {p0 : Int32} (c_1 : ¬ (p0 < 48)) (c_2 : 57 < p0) : ((48 ≤ p0 ∧ p0 ≤ 57) ∧ (0 : Int32) = 1) ∨ (¬ ((48 ≤ p0 ∧ p0 ≤ 57)) ∧ (0 : Int32) = 0) := by
  have g0 : ¬ (p0.toInt < 48) := fun z => c_1 (ji_lt.mpr z)
  have g1 : 57 < p0.toInt := ji_lt.mp c_2
  exact Or.inr ⟨by simp only [ji_le, show (48 : Int32).toInt = 48 from rfl, show (57 : Int32).toInt = 57 from rfl]; omega, rfl⟩
theorem s_kX13_isDigit_2 {p0 : Int32} (c_1 : ¬ (p0 < 48)) (c_2 : ¬ (57 < p0)) : ((48 ≤ p0 ∧ p0 ≤ 57) ∧ (1 : Int32) = 1) ∨ (¬ ((48 ≤ p0 ∧ p0 ≤ 57)) ∧ (1 : Int32) = 0) := by
  have g0 : ¬ (p0.toInt < 48) := fun z => c_1 (ji_lt.mpr z)
  have g1 : ¬ (57 < p0.toInt) := fun z => c_2 (ji_lt.mpr z)
  exact Or.inl ⟨by simp only [ji_le, show (48 : Int32).toInt = 48 from rfl, show (57 : Int32).toInt = 57 from rfl]; omega, rfl⟩
set_option maxHeartbeats 4000000 in
set_option maxRecDepth 100000 in
theorem kX13_isDigit (l : Launch) (dC : Nat → ClassId) (dI : Nat → Nat → Nat) (sz : Nat) (p0 : Int32) : Met l yX13_isDigit (jk yX13_isDigit cX13_isDigit 1 (some .boolean)) ({ frames := 0, cells := 0, slots := 0, locals := 0 }) (va_Pc [.int p0] (fun U => U.heap.size = sz)) (va_Qi (fun (r : Int32) (_ : Unit) => ((48 ≤ p0 ∧ p0 ≤ 57) ∧ r = 1) ∨ (¬ ((48 ≤ p0 ∧ p0 ≤ 57)) ∧ r = 0)) (fun _ _ => True) (va_A [] sz)) 0 0 (va_A [] sz) := by
  refine Met.ofW (cc := cX13_isDigit) (maxL := 1) (ret := (some .boolean)) (by decide) rfl ?_
  intro p e s m args below meth c s₁ B hml hv
  obtain ⟨rfl, hsz⟩ := hv
  have hx := B.exec
  have hb := B.bytes
  have hr := B.returns
  have hts := atoms_spec (ws := (jk yX13_isDigit cX13_isDigit 1 (some .boolean))) B.pre
  have hown : s.vm.findClass RX13 = some m.cls := findClass_of_methodNamed B.named
  have hlocks := B.notSynchronized
  subst hsz
  have hP : va_P (dC, dI) vwCl [] s.heap := fun k q h => by simp at h
  generalize hAe : (va_A [] s.heap.size) = A
  have hA : ∀ q : Nat, s.heap.size ≤ q → A q := fun q h => by rw [← hAe]; exact Or.inr h
  have hS : va_S A s.heap s.heap [] := va_S.rf
  have hl := lv_entry ([.int p0]) (n := 1) (Nat.le_of_ble_eq_true rfl)
  rw [lg_entry_eq]
  generalize (lg_sl ([.int p0]) ++ List.replicate (1 - (lg_sl ([.int p0])).length) Slot.unset).toArray = ls at hl ⊢
  have hl : lv_has ls 1 [(0, .int p0)] := hl
  refine lv_iload_n hx hb dX13_isDigit_0 rfl (lv_at hl 0 rfl) ?_
  refine lv_bipush (v := 48) hx hb dX13_isDigit_1 (by decide) ?_
  refine lv_icmp_lt (tgt := 16) hx hb dX13_isDigit_3 (by decide) (fun c_1 => ?_) (fun c_1 => ?_)
  · refine lv_iconst (v := 0) hx hb dX13_isDigit_16 (by decide) ?_
    exact W.zret (v := 0) (ty := .boolean) hx hb hr rfl (fun t ht hW => ⟨⟨0, (), rfl, (s_kX13_isDigit_0 (p0 := p0) c_1), trivial⟩, hS.F ht⟩) hS.2.2 dX13_isDigit_17
  · refine lv_iload_n hx hb dX13_isDigit_6 rfl (lv_at hl 0 rfl) ?_
    refine lv_bipush (v := 57) hx hb dX13_isDigit_7 (by decide) ?_
    refine lv_icmp_gt (tgt := 16) hx hb dX13_isDigit_9 (by decide) (fun c_2 => ?_) (fun c_2 => ?_)
    · refine lv_iconst (v := 0) hx hb dX13_isDigit_16 (by decide) ?_
      exact W.zret (v := 0) (ty := .boolean) hx hb hr rfl (fun t ht hW => ⟨⟨0, (), rfl, (s_kX13_isDigit_1 (p0 := p0) c_1 c_2), trivial⟩, hS.F ht⟩) hS.2.2 dX13_isDigit_17
    · refine lv_iconst (v := 1) hx hb dX13_isDigit_12 (by decide) ?_
      refine lv_goto (tgt := 17) hx hb dX13_isDigit_13 (by decide) ?_
      exact W.zret (v := 1) (ty := .boolean) hx hb hr rfl (fun t ht hW => ⟨⟨1, (), rfl, (s_kX13_isDigit_2 (p0 := p0) c_1 c_2), trivial⟩, hS.F ht⟩) hS.2.2 dX13_isDigit_17
set_option maxHeartbeats 4000000 in
set_option maxRecDepth 100000 in
theorem kX13_headingOf (l : Launch) (dC : Nat → ClassId) (dI : Nat → Nat → Nat) (sz : Nat) (ad : Nat → Nat) (ca : Nat → ClassId) (p1 p2 p3 : Int32) : Met l yX13_headingOf (jk yX13_headingOf cX13_headingOf 9 (some .int)) ({ frames := 1, cells := 0, slots := 0, locals := 22 }) (va_Pc [.ref (ad 0), .int p1, .int p2, .int p3] (jw_P (dC, dI) (mW ad ca) (mT ca) sz)) (va_Qi (fun (r : Int32) (_ : Nat → Int32) => (jN p1 p2 p3 = 0 ∧ r = 0) ∨ (¬ (jN p1 p2 p3 = 0) ∧ r = nI (jN p1 p2 p3))) (fun u t => va_P (dC, dI) vwCl (jS (mW ad ca) 66 (ad 66, .inl ((ca 66), 12, .inl u))) t.heap ∧ va_K (dC, dI) vwCl (mT ca) t ∧ va_D (va_A (mW ad ca) sz) (jS (mW ad ca) 66 (ad 66, .inl ((ca 66), 12, .inl u)))) (va_A (mW ad ca) sz)) 0 0 (va_A (mW ad ca) sz) := by
  refine Met.ofW (cc := cX13_headingOf) (maxL := 9) (ret := (some .int)) (by decide) rfl ?_
  intro p e s m args below meth c s₁ B hml hv
  obtain ⟨rfl, hsz, hP, hK, hD0⟩ := hv
  have hx := B.exec
  have hb := B.bytes
  have hr := B.returns
  have hts := atoms_spec (ws := (jk yX13_headingOf cX13_headingOf 9 (some .int))) B.pre
  have hown : s.vm.findClass RX13 = some m.cls := findClass_of_methodNamed B.named
  have hlocks := B.notSynchronized
  subst hsz
  have hD := hD0.self (sz := s.heap.size)
  generalize hAe : (va_A (mW ad ca) s.heap.size) = A at hD ⊢
  have hA : ∀ q : Nat, s.heap.size ≤ q → A q := fun q h => by rw [← hAe]; exact Or.inr h
  have hS : va_S A s.heap s.heap [] := va_S.rf
  have hP : va_P (dC, dI) vwCl (mW ad ca) s.heap := hP
  have hl := lv_entry ([.ref (ad 0), .int p1, .int p2, .int p3]) (n := 9) (Nat.le_of_ble_eq_true rfl)
  rw [lg_entry_eq]
  generalize (lg_sl ([.ref (ad 0), .int p1, .int p2, .int p3]) ++ List.replicate (9 - (lg_sl ([.ref (ad 0), .int p1, .int p2, .int p3])).length) Slot.unset).toArray = ls at hl ⊢
  have hl : lv_has ls 9 [(0, .ref (ad 0)), (1, .int p1), (2, .int p2), (3, .int p3)] := hl
  have key : ∀ (d i n : Nat) (la ov : Int32), i + d = 12 → jH p1 p2 p3 i = some (n, la) → (ov = 0 → ¬ n < i) → (¬ ov = 0 → n < i) → ∀ (g : Nat → Int32) (H : Heap) (locs : List Loc) (ls : Array Slot), (∀ j, j < i → g j = jsg (jby p1 p2 p3 (nI j))) → va_P (dC, dI) vwCl (jS (mW ad ca) 66 (ad 66, .inl ((ca 66), 12, .inl g))) H → va_D A (jS (mW ad ca) 66 (ad 66, .inl ((ca 66), 12, .inl g))) → va_S A s.heap H locs → lv_has ls 9 [(6, .int (nI i)), (5, .int ov), (4, .int (nI n)), (0, .ref (ad 0)), (1, .int p1), (2, .int p2), (3, .int p3)] → W p l e ({ frames := 1, cells := 0, slots := 0, locals := 22 }) s m ([.ref (ad 0), .int p1, .int p2, .int p3] : List Value).toArray below meth c H locs 0 0 (MQ below (va_Qi (fun (r : Int32) (_ : Nat → Int32) => (jN p1 p2 p3 = 0 ∧ r = 0) ∨ (¬ (jN p1 p2 p3 = 0) ∧ r = nI (jN p1 p2 p3))) (fun u t => va_P (dC, dI) vwCl (jS (mW ad ca) 66 (ad 66, .inl ((ca 66), 12, .inl u))) t.heap ∧ va_K (dC, dI) vwCl (mT ca) t ∧ va_D A (jS (mW ad ca) 66 (ad 66, .inl ((ca 66), 12, .inl u)))) A) ([.ref (ad 0), .int p1, .int p2, .int p3] : List Value).toArray s 0 0 A) (F0 m 9 ls []) := by
    intro d
    induction d with
    | zero =>
      intro i n la ov hi hH hov0 hov1 g H locs ls hg hP hD hS hl
      obtain rfl : i = 12 := by omega
      have hn12 : n ≤ 12 := (jH_inv hH).1
      have hlaE : ∀ (y : ¬ nI n ≤ 0), g (Int32.toNatClampNeg (nI n - 1)) = 32 → la = 32 := fun y t => by rw [(jH_inv hH).2.2 (jy_pos y hn12)]; rw [jy_cl y hn12, hg _ (by omega)] at t; exact jsg_32.mp t
      have hlaF : ∀ (y : ¬ nI n ≤ 0), ¬ g (Int32.toNatClampNeg (nI n - 1)) = 32 → ¬ la = 32 := fun y t q => t (by rw [jy_cl y hn12, hg _ (by have := jy_pos y hn12; omega)]; rw [(jH_inv hH).2.2 (jy_pos y hn12)] at q; exact jsg_32.mpr q)
      refine lv_iload hx hb dX13_headingOf_9 (lv_at hl 0 rfl) ?_
      refine lv_bipush (v := 12) hx hb dX13_headingOf_11 (by decide) ?_
      refine lv_icmp_ge (tgt := 146) hx hb dX13_headingOf_13 (by decide) (fun _ => ?_) (fun z => absurd (jb_ge (show (12 : Int32) ≤ nI 12 by decide) (by decide)) z)
      refine lv_iload hx hb dX13_headingOf_146 (lv_at hl 2 rfl) ?_
      refine lv_if_le (tgt := 169) hx hb dX13_headingOf_148 (by decide) (fun c_1 => ?_) (fun c_1 => ?_)
      · refine lv_iload hx hb dX13_headingOf_169 (lv_at hl 2 rfl) ?_
        exact W.iret (v := (nI n)) hx hb hr (fun t ht hW => ⟨⟨(nI n), g, rfl, (Or.inl ⟨by rw [jN_some hH, if_pos ((jH_inv hH).2.1 (jy_n0 c_1 hn12))], jy_n0v c_1 hn12⟩), by rw [ht]; exact hP, va_K.moved hW.alike hK, hD⟩, hS.F ht⟩) hS.2.2 dX13_headingOf_171
      · refine lv_aload_n hx hb dX13_headingOf_151 rfl (lv_at hl 3 rfl) ?_
        refine va_get (D := (dC, dI)) (ci := 13) (v := .ref (ad 66)) (C := RX13) (T := TX13) (N := 104) hx hb hts (jh hin_RX13) hown hK hP 0 rfl rfl 84 (by decide) (hts (.fieldLink RX13 207 "BookOfAllModel" "told12" "[B") (jm m_68)) (fun _ h9 => h9) rfl dX13_headingOf_152 ?_
        refine lv_iload hx hb dX13_headingOf_155 (lv_at hl 2 rfl) ?_
        refine lv_iconst (v := 1) hx hb dX13_headingOf_157 (by decide) ?_
        refine lv_isub hx hb dX13_headingOf_158 ?_
        refine va_bald hx hb hK hP 66 65 rfl rfl (jb_in (jy_k0 c_1 hn12) (jy_k11 c_1 hn12) (by decide) (by decide)) dX13_headingOf_159 ?_
        refine jt_i (g (Int32.toNatClampNeg ((nI n) - 1))) rfl ?_
        refine lv_bipush (v := 32) hx hb dX13_headingOf_160 (by decide) ?_
        refine lv_icmp_ne (tgt := 169) hx hb dX13_headingOf_162 (by decide) (fun c_2 => ?_) (fun c_2 => ?_)
        · refine lv_iload hx hb dX13_headingOf_169 (lv_at hl 2 rfl) ?_
          exact W.iret (v := (nI n)) hx hb hr (fun t ht hW => ⟨⟨(nI n), g, rfl, (Or.inr ⟨by rw [jN_some hH, if_neg (hlaF c_1 c_2)]; exact jy_np c_1 hn12, by rw [jN_some hH, if_neg (hlaF c_1 c_2)]⟩), by rw [ht]; exact hP, va_K.moved hW.alike hK, hD⟩, hS.F ht⟩) hS.2.2 dX13_headingOf_171
        · refine lv_iconst (v := 0) hx hb dX13_headingOf_165 (by decide) ?_
          refine lv_goto (tgt := 171) hx hb dX13_headingOf_166 (by decide) ?_
          exact W.iret (v := 0) hx hb hr (fun t ht hW => ⟨⟨0, g, rfl, (Or.inl ⟨by rw [jN_some hH, if_pos (hlaE c_1 c_2)], rfl⟩), by rw [ht]; exact hP, va_K.moved hW.alike hK, hD⟩, hS.F ht⟩) hS.2.2 dX13_headingOf_171
    | succ d ih =>
      intro i n la ov hi hH hov0 hov1 g H locs ls hg hP hD hS hl
      have hi12 : i < 12 := by omega
      have hi0 : (0 : Int32) ≤ nI i := jy_0 i (by omega)
      have hi11 : nI i ≤ (11 : Int32) := jy_11 hi12
      have hni := (jH_inv hH).1
      have hla0 : nI i = 0 → la = 32 := fun q => (jH_inv hH).2.1 (by have := (nI_eq (a := i) (b := 0) (by omega) (by omega)).mp (by rw [q]; rfl); omega)
      have step : ∀ (g : Nat → Int32) (H : Heap) (locs : List Loc) (ls : Array Slot), (∀ j, j < i + 1 → g j = jsg (jby p1 p2 p3 (nI j))) → va_P (dC, dI) vwCl (jS (mW ad ca) 66 (ad 66, .inl ((ca 66), 12, .inl g))) H → va_D A (jS (mW ad ca) 66 (ad 66, .inl ((ca 66), 12, .inl g))) → va_S A s.heap H locs → lv_has ls 9 [(8, .int (jsg (jby p1 p2 p3 (nI i)))), (6, .int (nI i)), (5, .int ov), (4, .int (nI n)), (0, .ref (ad 0)), (1, .int p1), (2, .int p2), (3, .int p3)] → W p l e ({ frames := 1, cells := 0, slots := 0, locals := 22 }) s m ([.ref (ad 0), .int p1, .int p2, .int p3] : List Value).toArray below meth c H locs 0 0 (MQ below (va_Qi (fun (r : Int32) (_ : Nat → Int32) => (jN p1 p2 p3 = 0 ∧ r = 0) ∨ (¬ (jN p1 p2 p3 = 0) ∧ r = nI (jN p1 p2 p3))) (fun u t => va_P (dC, dI) vwCl (jS (mW ad ca) 66 (ad 66, .inl ((ca 66), 12, .inl u))) t.heap ∧ va_K (dC, dI) vwCl (mT ca) t ∧ va_D A (jS (mW ad ca) 66 (ad 66, .inl ((ca 66), 12, .inl u)))) A) ([.ref (ad 0), .int p1, .int p2, .int p3] : List Value).toArray s 0 0 A) (F0 m 70 ls []) := by
        intro g H locs ls hg hP hD hS hl
        have hpv : ¬ nI i = 0 → ov = 0 → g (Int32.toNatClampNeg (nI i - 1)) = jsg la := fun z y => by rw [jy_cli z hi12, hg _ (by omega), (jH_inv hH).2.2 (by have := hov0 y; have := jy_ne z; omega)]; congr 2; congr 1; have := hov0 y; omega
        have hlaP : ∀ (z : ¬ nI i = 0) (y : ov = 0), g (Int32.toNatClampNeg (nI i - 1)) = 32 → la = 32 := fun z y t => jsg_la hH (by rw [← hpv z y]; exact t)
        have hlaN : ∀ (z : ¬ nI i = 0) (y : ov = 0), ¬ g (Int32.toNatClampNeg (nI i - 1)) = 32 → ¬ la = 32 := fun z y t q => t (by rw [hpv z y, q]; rfl)
        refine lv_iload hx hb dX13_headingOf_70 (lv_at hl 0 rfl) ?_
        refine lv_if_ne (tgt := 81) hx hb dX13_headingOf_72 (by decide) (fun c_1 => ?_) (fun c_1 => ?_)
        · refine lv_iload hx hb dX13_headingOf_81 (lv_at hl 2 rfl) ?_
          refine lv_if_ne (tgt := 135) hx hb dX13_headingOf_83 (by decide) (fun c_2 => ?_) (fun c_2 => ?_)
          · refine lv_iconst (v := 0) hx hb dX13_headingOf_135 (by decide) ?_
            exact W.iret (v := 0) hx hb hr (fun t ht hW => ⟨⟨0, g, rfl, (Or.inl ⟨jN_none (k := i + 1) (by omega) (jH_bad hH (fun q => c_1 (jsg_0.mpr q)) (Or.inl (hov1 c_2))), rfl⟩), by rw [ht]; exact hP, va_K.moved hW.alike hK, hD⟩, hS.F ht⟩) hS.2.2 dX13_headingOf_136
          · refine lv_iload hx hb dX13_headingOf_86 (lv_at hl 0 rfl) ?_
            refine lv_bipush (v := 32) hx hb dX13_headingOf_88 (by decide) ?_
            refine lv_icmp_eq (tgt := 109) hx hb dX13_headingOf_90 (by decide) (fun c_3 => ?_) (fun c_3 => ?_)
            · refine lv_iload hx hb dX13_headingOf_109 (lv_at hl 0 rfl) ?_
              refine lv_bipush (v := 32) hx hb dX13_headingOf_111 (by decide) ?_
              refine lv_icmp_ne (tgt := 137) hx hb dX13_headingOf_113 (by decide) (fun z => absurd c_3 z) (fun _ => ?_)
              refine lv_iload hx hb dX13_headingOf_116 (lv_at hl 1 rfl) ?_
              refine lv_if_eq (tgt := 135) hx hb dX13_headingOf_118 (by decide) (fun c_4 => ?_) (fun c_4 => ?_)
              · refine lv_iconst (v := 0) hx hb dX13_headingOf_135 (by decide) ?_
                exact W.iret (v := 0) hx hb hr (fun t ht hW => ⟨⟨0, g, rfl, (Or.inl ⟨jN_none (k := i + 1) (by omega) (jH_bad hH (fun q => c_1 (jsg_0.mpr q)) (Or.inr (jq_b1 c_3 (hla0 c_4)))), rfl⟩), by rw [ht]; exact hP, va_K.moved hW.alike hK, hD⟩, hS.F ht⟩) hS.2.2 dX13_headingOf_136
              · refine lv_aload_n hx hb dX13_headingOf_121 rfl (lv_at hl 4 rfl) ?_
                refine va_get (D := (dC, dI)) (ci := 13) (v := .ref (ad 66)) (C := RX13) (T := TX13) (N := 104) hx hb hts (jh hin_RX13) hown hK hP 0 rfl rfl 84 (by decide) (hts (.fieldLink RX13 207 "BookOfAllModel" "told12" "[B") (jm m_68)) (fun _ h9 => h9) rfl dX13_headingOf_122 ?_
                refine lv_iload hx hb dX13_headingOf_125 (lv_at hl 1 rfl) ?_
                refine lv_iconst (v := 1) hx hb dX13_headingOf_127 (by decide) ?_
                refine lv_isub hx hb dX13_headingOf_128 ?_
                refine va_bald hx hb hK hP 66 65 rfl rfl (jb_in (jy_m0 c_4 hi12) (jy_m11 c_4 hi12) (by decide) (by decide)) dX13_headingOf_129 ?_
                refine jt_i (g (Int32.toNatClampNeg ((nI i) - 1))) rfl ?_
                refine lv_bipush (v := 32) hx hb dX13_headingOf_130 (by decide) ?_
                refine lv_icmp_ne (tgt := 137) hx hb dX13_headingOf_132 (by decide) (fun c_5 => ?_) (fun c_5 => ?_)
                · refine lv_iinc (v := (nI (n + 1))) (lv' := [(4, .int (nI (n + 1))), (8, .int (jsg (jby p1 p2 p3 (nI i)))), (6, .int (nI i)), (5, .int ov), (0, .ref (ad 0)), (1, .int p1), (2, .int p2), (3, .int p3)]) hx hb dX13_headingOf_137 hl (k := 3) rfl (nI_1 n) (by decide) rfl (fun ls hl => ?_)
                  refine lv_iinc (v := (nI (i + 1))) (lv' := [(6, .int (nI (i + 1))), (4, .int (nI (n + 1))), (8, .int (jsg (jby p1 p2 p3 (nI i)))), (5, .int ov), (0, .ref (ad 0)), (1, .int p1), (2, .int p2), (3, .int p3)]) hx hb dX13_headingOf_140 hl (k := 2) rfl (nI_1 i) (by decide) rfl (fun ls hl => ?_)
                  refine lv_goto (tgt := 9) hx hb dX13_headingOf_143 (by decide) ?_
                  exact ih (i + 1) (n + 1) _ ov (by omega) (jH_good hH (fun q => c_1 (jsg_0.mpr q)) (hov0 c_2) (Or.inr ⟨jsg_32.mp c_3, hlaN c_4 c_2 c_5⟩)) (fun _ => by have := hov0 c_2; have := (jH_inv hH).1; omega) (fun q => absurd c_2 q) g H locs ls hg hP hD hS (lv_sub hl [0, 3, 1, 4, 5, 6, 7] rfl)
                · refine lv_iconst (v := 0) hx hb dX13_headingOf_135 (by decide) ?_
                  exact W.iret (v := 0) hx hb hr (fun t ht hW => ⟨⟨0, g, rfl, (Or.inl ⟨jN_none (k := i + 1) (by omega) (jH_bad hH (fun q => c_1 (jsg_0.mpr q)) (Or.inr (jq_b1 c_3 (hlaP c_4 c_2 c_5)))), rfl⟩), by rw [ht]; exact hP, va_K.moved hW.alike hK, hD⟩, hS.F ht⟩) hS.2.2 dX13_headingOf_136
            · refine lv_iload hx hb dX13_headingOf_93 (lv_at hl 0 rfl) ?_
              refine jc_i (va_runS (As := [.int (jsg (jby p1 p2 p3 (nI i)))]) (rest := []) ⟨hx, hb, hml, hown, hts⟩ (kX13_isLetter l dC dI _ (jsg (jby p1 p2 p3 (nI i)))) (va_cwS 1 hts (jgoodS m_94 m_95 m_96 m_97) rfl rfl rfl (by decide +kernel) ⟨Nat.le_of_ble_eq_true rfl, Nat.le_of_ble_eq_true rfl⟩) ⟨jw_blind0, fun U hU hW => ⟨rfl, congrArg Array.size hU⟩⟩ rfl rfl hl.1 rfl (lv_room (Nat.le_of_ble_eq_true rfl)) dX13_headingOf_95 ⟨Nat.le_of_ble_eq_true rfl, Nat.le_of_ble_eq_true rfl⟩) hP hS hA (fun r_6 H locs hw_6 hP hS => ?_)
              rcases (show ((97 ≤ (jsg (jby p1 p2 p3 (nI i))) ∧ (jsg (jby p1 p2 p3 (nI i))) ≤ 122) ∧ r_6 = 1) ∨ (¬ ((97 ≤ (jsg (jby p1 p2 p3 (nI i))) ∧ (jsg (jby p1 p2 p3 (nI i))) ≤ 122)) ∧ r_6 = 0) from hw_6) with ⟨c_7, e_7_0⟩ | ⟨c_8, e_8_1⟩
              · have e_7_0 := e_7_0.symm
                subst e_7_0
                refine lv_if_ne (tgt := 109) hx hb dX13_headingOf_98 (by decide) (fun _ => ?_) (fun z => absurd z (by decide))
                refine lv_iload hx hb dX13_headingOf_109 (lv_at hl 0 rfl) ?_
                refine lv_bipush (v := 32) hx hb dX13_headingOf_111 (by decide) ?_
                refine lv_icmp_ne (tgt := 137) hx hb dX13_headingOf_113 (by decide) (fun _ => ?_) (fun z => absurd z c_3)
                refine lv_iinc (v := (nI (n + 1))) (lv' := [(4, .int (nI (n + 1))), (8, .int (jsg (jby p1 p2 p3 (nI i)))), (6, .int (nI i)), (5, .int ov), (0, .ref (ad 0)), (1, .int p1), (2, .int p2), (3, .int p3)]) hx hb dX13_headingOf_137 hl (k := 3) rfl (nI_1 n) (by decide) rfl (fun ls hl => ?_)
                refine lv_iinc (v := (nI (i + 1))) (lv' := [(6, .int (nI (i + 1))), (4, .int (nI (n + 1))), (8, .int (jsg (jby p1 p2 p3 (nI i)))), (5, .int ov), (0, .ref (ad 0)), (1, .int p1), (2, .int p2), (3, .int p3)]) hx hb dX13_headingOf_140 hl (k := 2) rfl (nI_1 i) (by decide) rfl (fun ls hl => ?_)
                refine lv_goto (tgt := 9) hx hb dX13_headingOf_143 (by decide) ?_
                exact ih (i + 1) (n + 1) _ ov (by omega) (jH_good hH (fun q => c_1 (jsg_0.mpr q)) (hov0 c_2) (Or.inl (jq_l c_7))) (fun _ => by have := hov0 c_2; have := (jH_inv hH).1; omega) (fun q => absurd c_2 q) g H locs ls hg hP hD hS (lv_sub hl [0, 3, 1, 4, 5, 6, 7] rfl)
              · have e_8_1 := e_8_1.symm
                subst e_8_1
                refine lv_if_ne (tgt := 109) hx hb dX13_headingOf_98 (by decide) (fun z => absurd (by decide) z) (fun _ => ?_)
                refine lv_iload hx hb dX13_headingOf_101 (lv_at hl 0 rfl) ?_
                refine jc_i (va_runS (As := [.int (jsg (jby p1 p2 p3 (nI i)))]) (rest := []) ⟨hx, hb, hml, hown, hts⟩ (kX13_isDigit l dC dI _ (jsg (jby p1 p2 p3 (nI i)))) (va_cwS 1 hts (jgoodS m_98 m_99 m_96 m_100) rfl rfl rfl (by decide +kernel) ⟨Nat.le_of_ble_eq_true rfl, Nat.le_of_ble_eq_true rfl⟩) ⟨jw_blind0, fun U hU hW => ⟨rfl, congrArg Array.size hU⟩⟩ rfl rfl hl.1 rfl (lv_room (Nat.le_of_ble_eq_true rfl)) dX13_headingOf_103 ⟨Nat.le_of_ble_eq_true rfl, Nat.le_of_ble_eq_true rfl⟩) hP hS hA (fun r_9 H locs hw_9 hP hS => ?_)
                rcases (show ((48 ≤ (jsg (jby p1 p2 p3 (nI i))) ∧ (jsg (jby p1 p2 p3 (nI i))) ≤ 57) ∧ r_9 = 1) ∨ (¬ ((48 ≤ (jsg (jby p1 p2 p3 (nI i))) ∧ (jsg (jby p1 p2 p3 (nI i))) ≤ 57)) ∧ r_9 = 0) from hw_9) with ⟨c_10, e_10_0⟩ | ⟨c_11, e_11_1⟩
                · have e_10_0 := e_10_0.symm
                  subst e_10_0
                  refine lv_if_eq (tgt := 135) hx hb dX13_headingOf_106 (by decide) (fun z => absurd z (by decide)) (fun _ => ?_)
                  refine lv_iload hx hb dX13_headingOf_109 (lv_at hl 0 rfl) ?_
                  refine lv_bipush (v := 32) hx hb dX13_headingOf_111 (by decide) ?_
                  refine lv_icmp_ne (tgt := 137) hx hb dX13_headingOf_113 (by decide) (fun _ => ?_) (fun z => absurd z c_3)
                  refine lv_iinc (v := (nI (n + 1))) (lv' := [(4, .int (nI (n + 1))), (8, .int (jsg (jby p1 p2 p3 (nI i)))), (6, .int (nI i)), (5, .int ov), (0, .ref (ad 0)), (1, .int p1), (2, .int p2), (3, .int p3)]) hx hb dX13_headingOf_137 hl (k := 3) rfl (nI_1 n) (by decide) rfl (fun ls hl => ?_)
                  refine lv_iinc (v := (nI (i + 1))) (lv' := [(6, .int (nI (i + 1))), (4, .int (nI (n + 1))), (8, .int (jsg (jby p1 p2 p3 (nI i)))), (5, .int ov), (0, .ref (ad 0)), (1, .int p1), (2, .int p2), (3, .int p3)]) hx hb dX13_headingOf_140 hl (k := 2) rfl (nI_1 i) (by decide) rfl (fun ls hl => ?_)
                  refine lv_goto (tgt := 9) hx hb dX13_headingOf_143 (by decide) ?_
                  exact ih (i + 1) (n + 1) _ ov (by omega) (jH_good hH (fun q => c_1 (jsg_0.mpr q)) (hov0 c_2) (Or.inl (jq_d c_10))) (fun _ => by have := hov0 c_2; have := (jH_inv hH).1; omega) (fun q => absurd c_2 q) g H locs ls hg hP hD hS (lv_sub hl [0, 3, 1, 4, 5, 6, 7] rfl)
                · have e_11_1 := e_11_1.symm
                  subst e_11_1
                  refine lv_if_eq (tgt := 135) hx hb dX13_headingOf_106 (by decide) (fun _ => ?_) (fun z => absurd (by decide) z)
                  refine lv_iconst (v := 0) hx hb dX13_headingOf_135 (by decide) ?_
                  exact W.iret (v := 0) hx hb hr (fun t ht hW => ⟨⟨0, g, rfl, (Or.inl ⟨jN_none (k := i + 1) (by omega) (jH_bad hH (fun q => c_1 (jsg_0.mpr q)) (Or.inr (jq_b2 c_3 c_8 c_11))), rfl⟩), by rw [ht]; exact hP, va_K.moved hW.alike hK, hD⟩, hS.F ht⟩) hS.2.2 dX13_headingOf_136
        · refine lv_iconst (v := 1) hx hb dX13_headingOf_75 (by decide) ?_
          refine lv_istore (lv' := [(5, .int 1), (8, .int (jsg (jby p1 p2 p3 (nI i)))), (6, .int (nI i)), (4, .int (nI n)), (0, .ref (ad 0)), (1, .int p1), (2, .int p2), (3, .int p3)]) hx hb dX13_headingOf_76 hl (by decide) rfl (fun ls hl => ?_)
          refine lv_goto (tgt := 140) hx hb dX13_headingOf_78 (by decide) ?_
          refine lv_iinc (v := (nI (i + 1))) (lv' := [(6, .int (nI (i + 1))), (5, .int 1), (8, .int (jsg (jby p1 p2 p3 (nI i)))), (4, .int (nI n)), (0, .ref (ad 0)), (1, .int p1), (2, .int p2), (3, .int p3)]) hx hb dX13_headingOf_140 hl (k := 2) rfl (nI_1 i) (by decide) rfl (fun ls hl => ?_)
          refine lv_goto (tgt := 9) hx hb dX13_headingOf_143 (by decide) ?_
          exact ih (i + 1) n la 1 (by omega) (jH_zero hH (jsg_0.mp c_1)) (fun q => absurd q (by decide)) (fun _ => by omega) g H locs ls hg hP hD hS (lv_sub hl [0, 1, 3, 4, 5, 6, 7] rfl)
      refine lv_iload hx hb dX13_headingOf_9 (lv_at hl 0 rfl) ?_
      refine lv_bipush (v := 12) hx hb dX13_headingOf_11 (by decide) ?_
      refine lv_icmp_ge (tgt := 146) hx hb dX13_headingOf_13 (by decide) (fun z => absurd z (jb_nge hi11 (by decide))) (fun _ => ?_)
      refine lv_iload hx hb dX13_headingOf_16 (lv_at hl 0 rfl) ?_
      refine lv_iconst (v := 4) hx hb dX13_headingOf_18 (by decide) ?_
      refine lv_icmp_ge (tgt := 26) hx hb dX13_headingOf_19 (by decide) (fun c_1 => ?_) (fun c_1 => ?_)
      · refine lv_iload hx hb dX13_headingOf_26 (lv_at hl 0 rfl) ?_
        refine lv_bipush (v := 8) hx hb dX13_headingOf_28 (by decide) ?_
        refine lv_icmp_ge (tgt := 37) hx hb dX13_headingOf_30 (by decide) (fun c_2 => ?_) (fun c_2 => ?_)
        · refine lv_iload_n hx hb dX13_headingOf_37 rfl (lv_at hl 6 rfl) ?_
          refine lv_bipush (v := 24) hx hb dX13_headingOf_38 (by decide) ?_
          refine lv_bipush (v := 8) hx hb dX13_headingOf_40 (by decide) ?_
          refine lv_iload hx hb dX13_headingOf_42 (lv_at hl 0 rfl) ?_
          refine lv_iconst (v := 4) hx hb dX13_headingOf_44 (by decide) ?_
          refine lv_irem hx hb dX13_headingOf_45 (by decide) ?_
          refine lv_imul hx hb dX13_headingOf_46 ?_
          refine lv_isub hx hb dX13_headingOf_47 ?_
          refine lv_ishr hx hb dX13_headingOf_48 ?_
          refine lv_istore (lv' := [(7, .int (p3 >>> ((24 - (8 * ((nI i) - (nI i) / 4 * 4))) &&& 31))), (6, .int (nI i)), (5, .int ov), (4, .int (nI n)), (0, .ref (ad 0)), (1, .int p1), (2, .int p2), (3, .int p3)]) hx hb dX13_headingOf_49 hl (by decide) rfl (fun ls hl => ?_)
          refine lv_aload_n hx hb dX13_headingOf_51 rfl (lv_at hl 4 rfl) ?_
          refine va_get (D := (dC, dI)) (ci := 13) (v := .ref (ad 66)) (C := RX13) (T := TX13) (N := 104) hx hb hts (jh hin_RX13) hown hK hP 0 rfl rfl 84 (by decide) (hts (.fieldLink RX13 207 "BookOfAllModel" "told12" "[B") (jm m_68)) (fun _ h9 => h9) rfl dX13_headingOf_52 ?_
          refine lv_iload hx hb dX13_headingOf_55 (lv_at hl 1 rfl) ?_
          refine lv_iload hx hb dX13_headingOf_57 (lv_at hl 0 rfl) ?_
          refine lv_i2b (v := ((p3 >>> ((24 - (8 * ((nI i) - (nI i) / 4 * 4))) &&& 31)).toInt8.toInt32)) hx hb dX13_headingOf_59 rfl ?_
          refine va_bast hx hb hK hP hD hS 66 65 rfl rfl (jb_in c_2 hi11 (by decide) (by decide)) dX13_headingOf_60 (fun H locs hP hD hS => ?_)
          refine lv_aload_n hx hb dX13_headingOf_61 rfl (lv_at hl 4 rfl) ?_
          refine va_get (D := (dC, dI)) (ci := 13) (v := .ref (ad 66)) (C := RX13) (T := TX13) (N := 104) hx hb hts (jh hin_RX13) hown hK hP 0 rfl rfl 84 (by decide) (hts (.fieldLink RX13 207 "BookOfAllModel" "told12" "[B") (jm m_68)) (fun _ h9 => h9) rfl dX13_headingOf_62 ?_
          refine lv_iload hx hb dX13_headingOf_65 (lv_at hl 1 rfl) ?_
          refine va_bald hx hb hK hP 66 65 rfl rfl (jb_in c_2 hi11 (by decide) (by decide)) dX13_headingOf_67 ?_
          refine jt_i ((upd g (Int32.toNatClampNeg (nI i)) (vp_nar .byte ((p3 >>> ((24 - (8 * ((nI i) - (nI i) / 4 * 4))) &&& 31)).toInt8.toInt32))) (Int32.toNatClampNeg (nI i))) rfl ?_
          refine lv_istore (lv' := [(8, .int ((upd g (Int32.toNatClampNeg (nI i)) (vp_nar .byte ((p3 >>> ((24 - (8 * ((nI i) - (nI i) / 4 * 4))) &&& 31)).toInt8.toInt32))) (Int32.toNatClampNeg (nI i)))), (7, .int (p3 >>> ((24 - (8 * ((nI i) - (nI i) / 4 * 4))) &&& 31))), (6, .int (nI i)), (5, .int ov), (4, .int (nI n)), (0, .ref (ad 0)), (1, .int p1), (2, .int p2), (3, .int p3)]) hx hb dX13_headingOf_68 hl (by decide) rfl (fun ls hl => ?_)
          have ev : (p3 >>> ((24 - (8 * ((nI i) - (nI i) / 4 * 4))) &&& 31)).toInt8.toInt32 = jsg (jby p1 p2 p3 (nI i)) := (jv_c (a := p1) (b := p2) c_1 c_2 hi12)
          have em : (upd g (Int32.toNatClampNeg (nI i)) (vp_nar .byte ((p3 >>> ((24 - (8 * ((nI i) - (nI i) / 4 * 4))) &&& 31)).toInt8.toInt32))) (Int32.toNatClampNeg (nI i)) = jsg (jby p1 p2 p3 (nI i)) := by rw [pk_us, pk_vb]; exact ev
          rw [em] at hl
          exact step _ H locs ls (jg_up hg (by rw [pk_vb]; exact ev) hi12) hP hD hS (lv_sub hl [0, 2, 3, 4, 5, 6, 7, 8] rfl)
        · refine lv_iload_n hx hb dX13_headingOf_33 rfl (lv_at hl 5 rfl) ?_
          refine lv_goto (tgt := 38) hx hb dX13_headingOf_34 (by decide) ?_
          refine lv_bipush (v := 24) hx hb dX13_headingOf_38 (by decide) ?_
          refine lv_bipush (v := 8) hx hb dX13_headingOf_40 (by decide) ?_
          refine lv_iload hx hb dX13_headingOf_42 (lv_at hl 0 rfl) ?_
          refine lv_iconst (v := 4) hx hb dX13_headingOf_44 (by decide) ?_
          refine lv_irem hx hb dX13_headingOf_45 (by decide) ?_
          refine lv_imul hx hb dX13_headingOf_46 ?_
          refine lv_isub hx hb dX13_headingOf_47 ?_
          refine lv_ishr hx hb dX13_headingOf_48 ?_
          refine lv_istore (lv' := [(7, .int (p2 >>> ((24 - (8 * ((nI i) - (nI i) / 4 * 4))) &&& 31))), (6, .int (nI i)), (5, .int ov), (4, .int (nI n)), (0, .ref (ad 0)), (1, .int p1), (2, .int p2), (3, .int p3)]) hx hb dX13_headingOf_49 hl (by decide) rfl (fun ls hl => ?_)
          refine lv_aload_n hx hb dX13_headingOf_51 rfl (lv_at hl 4 rfl) ?_
          refine va_get (D := (dC, dI)) (ci := 13) (v := .ref (ad 66)) (C := RX13) (T := TX13) (N := 104) hx hb hts (jh hin_RX13) hown hK hP 0 rfl rfl 84 (by decide) (hts (.fieldLink RX13 207 "BookOfAllModel" "told12" "[B") (jm m_68)) (fun _ h9 => h9) rfl dX13_headingOf_52 ?_
          refine lv_iload hx hb dX13_headingOf_55 (lv_at hl 1 rfl) ?_
          refine lv_iload hx hb dX13_headingOf_57 (lv_at hl 0 rfl) ?_
          refine lv_i2b (v := ((p2 >>> ((24 - (8 * ((nI i) - (nI i) / 4 * 4))) &&& 31)).toInt8.toInt32)) hx hb dX13_headingOf_59 rfl ?_
          refine va_bast hx hb hK hP hD hS 66 65 rfl rfl (jb_in c_1 (jl_nge (d := 7) c_2 (by decide)) (by decide) (by decide)) dX13_headingOf_60 (fun H locs hP hD hS => ?_)
          refine lv_aload_n hx hb dX13_headingOf_61 rfl (lv_at hl 4 rfl) ?_
          refine va_get (D := (dC, dI)) (ci := 13) (v := .ref (ad 66)) (C := RX13) (T := TX13) (N := 104) hx hb hts (jh hin_RX13) hown hK hP 0 rfl rfl 84 (by decide) (hts (.fieldLink RX13 207 "BookOfAllModel" "told12" "[B") (jm m_68)) (fun _ h9 => h9) rfl dX13_headingOf_62 ?_
          refine lv_iload hx hb dX13_headingOf_65 (lv_at hl 1 rfl) ?_
          refine va_bald hx hb hK hP 66 65 rfl rfl (jb_in c_1 (jl_nge (d := 7) c_2 (by decide)) (by decide) (by decide)) dX13_headingOf_67 ?_
          refine jt_i ((upd g (Int32.toNatClampNeg (nI i)) (vp_nar .byte ((p2 >>> ((24 - (8 * ((nI i) - (nI i) / 4 * 4))) &&& 31)).toInt8.toInt32))) (Int32.toNatClampNeg (nI i))) rfl ?_
          refine lv_istore (lv' := [(8, .int ((upd g (Int32.toNatClampNeg (nI i)) (vp_nar .byte ((p2 >>> ((24 - (8 * ((nI i) - (nI i) / 4 * 4))) &&& 31)).toInt8.toInt32))) (Int32.toNatClampNeg (nI i)))), (7, .int (p2 >>> ((24 - (8 * ((nI i) - (nI i) / 4 * 4))) &&& 31))), (6, .int (nI i)), (5, .int ov), (4, .int (nI n)), (0, .ref (ad 0)), (1, .int p1), (2, .int p2), (3, .int p3)]) hx hb dX13_headingOf_68 hl (by decide) rfl (fun ls hl => ?_)
          have ev : (p2 >>> ((24 - (8 * ((nI i) - (nI i) / 4 * 4))) &&& 31)).toInt8.toInt32 = jsg (jby p1 p2 p3 (nI i)) := (jv_b (a := p1) (c := p3) c_1 c_2 hi12)
          have em : (upd g (Int32.toNatClampNeg (nI i)) (vp_nar .byte ((p2 >>> ((24 - (8 * ((nI i) - (nI i) / 4 * 4))) &&& 31)).toInt8.toInt32))) (Int32.toNatClampNeg (nI i)) = jsg (jby p1 p2 p3 (nI i)) := by rw [pk_us, pk_vb]; exact ev
          rw [em] at hl
          exact step _ H locs ls (jg_up hg (by rw [pk_vb]; exact ev) hi12) hP hD hS (lv_sub hl [0, 2, 3, 4, 5, 6, 7, 8] rfl)
      · refine lv_iload_n hx hb dX13_headingOf_22 rfl (lv_at hl 4 rfl) ?_
        refine lv_goto (tgt := 38) hx hb dX13_headingOf_23 (by decide) ?_
        refine lv_bipush (v := 24) hx hb dX13_headingOf_38 (by decide) ?_
        refine lv_bipush (v := 8) hx hb dX13_headingOf_40 (by decide) ?_
        refine lv_iload hx hb dX13_headingOf_42 (lv_at hl 0 rfl) ?_
        refine lv_iconst (v := 4) hx hb dX13_headingOf_44 (by decide) ?_
        refine lv_irem hx hb dX13_headingOf_45 (by decide) ?_
        refine lv_imul hx hb dX13_headingOf_46 ?_
        refine lv_isub hx hb dX13_headingOf_47 ?_
        refine lv_ishr hx hb dX13_headingOf_48 ?_
        refine lv_istore (lv' := [(7, .int (p1 >>> ((24 - (8 * ((nI i) - (nI i) / 4 * 4))) &&& 31))), (6, .int (nI i)), (5, .int ov), (4, .int (nI n)), (0, .ref (ad 0)), (1, .int p1), (2, .int p2), (3, .int p3)]) hx hb dX13_headingOf_49 hl (by decide) rfl (fun ls hl => ?_)
        refine lv_aload_n hx hb dX13_headingOf_51 rfl (lv_at hl 4 rfl) ?_
        refine va_get (D := (dC, dI)) (ci := 13) (v := .ref (ad 66)) (C := RX13) (T := TX13) (N := 104) hx hb hts (jh hin_RX13) hown hK hP 0 rfl rfl 84 (by decide) (hts (.fieldLink RX13 207 "BookOfAllModel" "told12" "[B") (jm m_68)) (fun _ h9 => h9) rfl dX13_headingOf_52 ?_
        refine lv_iload hx hb dX13_headingOf_55 (lv_at hl 1 rfl) ?_
        refine lv_iload hx hb dX13_headingOf_57 (lv_at hl 0 rfl) ?_
        refine lv_i2b (v := ((p1 >>> ((24 - (8 * ((nI i) - (nI i) / 4 * 4))) &&& 31)).toInt8.toInt32)) hx hb dX13_headingOf_59 rfl ?_
        refine va_bast hx hb hK hP hD hS 66 65 rfl rfl (jb_in hi0 (jl_nge (d := 3) c_1 (by decide)) (by decide) (by decide)) dX13_headingOf_60 (fun H locs hP hD hS => ?_)
        refine lv_aload_n hx hb dX13_headingOf_61 rfl (lv_at hl 4 rfl) ?_
        refine va_get (D := (dC, dI)) (ci := 13) (v := .ref (ad 66)) (C := RX13) (T := TX13) (N := 104) hx hb hts (jh hin_RX13) hown hK hP 0 rfl rfl 84 (by decide) (hts (.fieldLink RX13 207 "BookOfAllModel" "told12" "[B") (jm m_68)) (fun _ h9 => h9) rfl dX13_headingOf_62 ?_
        refine lv_iload hx hb dX13_headingOf_65 (lv_at hl 1 rfl) ?_
        refine va_bald hx hb hK hP 66 65 rfl rfl (jb_in hi0 (jl_nge (d := 3) c_1 (by decide)) (by decide) (by decide)) dX13_headingOf_67 ?_
        refine jt_i ((upd g (Int32.toNatClampNeg (nI i)) (vp_nar .byte ((p1 >>> ((24 - (8 * ((nI i) - (nI i) / 4 * 4))) &&& 31)).toInt8.toInt32))) (Int32.toNatClampNeg (nI i))) rfl ?_
        refine lv_istore (lv' := [(8, .int ((upd g (Int32.toNatClampNeg (nI i)) (vp_nar .byte ((p1 >>> ((24 - (8 * ((nI i) - (nI i) / 4 * 4))) &&& 31)).toInt8.toInt32))) (Int32.toNatClampNeg (nI i)))), (7, .int (p1 >>> ((24 - (8 * ((nI i) - (nI i) / 4 * 4))) &&& 31))), (6, .int (nI i)), (5, .int ov), (4, .int (nI n)), (0, .ref (ad 0)), (1, .int p1), (2, .int p2), (3, .int p3)]) hx hb dX13_headingOf_68 hl (by decide) rfl (fun ls hl => ?_)
        have ev : (p1 >>> ((24 - (8 * ((nI i) - (nI i) / 4 * 4))) &&& 31)).toInt8.toInt32 = jsg (jby p1 p2 p3 (nI i)) := (jv_a (b := p2) (c := p3) c_1 hi12)
        have em : (upd g (Int32.toNatClampNeg (nI i)) (vp_nar .byte ((p1 >>> ((24 - (8 * ((nI i) - (nI i) / 4 * 4))) &&& 31)).toInt8.toInt32))) (Int32.toNatClampNeg (nI i)) = jsg (jby p1 p2 p3 (nI i)) := by rw [pk_us, pk_vb]; exact ev
        rw [em] at hl
        exact step _ H locs ls (jg_up hg (by rw [pk_vb]; exact ev) hi12) hP hD hS (lv_sub hl [0, 2, 3, 4, 5, 6, 7, 8] rfl)
  refine lv_iconst (v := 0) hx hb dX13_headingOf_0 (by decide) ?_
  refine lv_istore (lv' := [(4, .int 0), (0, .ref (ad 0)), (1, .int p1), (2, .int p2), (3, .int p3)]) hx hb dX13_headingOf_1 hl (by decide) rfl (fun ls hl => ?_)
  refine lv_iconst (v := 0) hx hb dX13_headingOf_3 (by decide) ?_
  refine lv_istore (lv' := [(5, .int 0), (4, .int 0), (0, .ref (ad 0)), (1, .int p1), (2, .int p2), (3, .int p3)]) hx hb dX13_headingOf_4 hl (by decide) rfl (fun ls hl => ?_)
  refine lv_iconst (v := 0) hx hb dX13_headingOf_6 (by decide) ?_
  refine lv_istore (lv' := [(6, .int 0), (5, .int 0), (4, .int 0), (0, .ref (ad 0)), (1, .int p1), (2, .int p2), (3, .int p3)]) hx hb dX13_headingOf_7 hl (by decide) rfl (fun ls hl => ?_)
  exact key 12 0 0 32 0 rfl rfl (fun _ => by omega) (fun q => absurd rfl q) _ s.heap [] ls (fun j h => absurd h (Nat.not_lt_zero j)) hP hD hS (lv_sub hl [0, 1, 2, 3, 4, 5, 6] rfl)
