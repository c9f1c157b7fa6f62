theorem s_tX12_set_v1_0  : 0 = sp_set 1 := by
  unfold sp_set
  rw [show (1 : Int32).toInt = 1 from rfl]
  split <;> first | rfl | (exfalso; omega)
set_option maxHeartbeats 500000 in
set_option maxRecDepth 100000 in
theorem tX12_set_v1 (l : Launch) (dC : Nat → ClassId) (dI : Nat → Nat → Nat) (sz : Nat) (ad : Nat → Nat) (ca : Nat → ClassId) (tW : Nat) : Met l yX12_set (jk yX12_set cX12_set 3 (some .int)) ({ frames := 4, cells := 2, slots := 0, locals := 126 }) (va_Pc [.ref (ad 0), .int 1] (jw_PZ (dC, dI) (xW ad ca) (xT ca) sz tW)) (va_Qi (fun (r : Int32) (_ : Unit) => r = sp_set 1) (fun _ _ => True) (va_A (xW ad ca) sz)) 2 0 (va_A (xW ad ca) sz) := by
  sorry
set_option maxHeartbeats 500000 in
set_option maxRecDepth 100000 in
theorem kX12_rowMayBeSet_4 (l : Launch) (dC : Nat → ClassId) (dI : Nat → Nat → Nat) (sz : Nat) (ad : Nat → Nat) (ca : Nat → ClassId) : Met l yX12_rowMayBeSet (jk yX12_rowMayBeSet cX12_rowMayBeSet 3 (some .boolean)) ({ frames := 0, cells := 0, slots := 0, locals := 0 }) (va_Pc [.ref (ad 0)] (jw_P (dC, dI) ((jS (xW ad ca) 18 (ad 18, .inr (6, [.ref (ad 11), .int 2, .int 0, .int 1, .int 1, .int 1])))) (xT ca) sz)) (va_Qi (fun (r : Int32) (_ : Unit) => (r = 1)) (fun _ _ => True) (va_A [] sz)) 0 0 (va_A [] sz) := by
  refine Met.ofW (cc := cX12_rowMayBeSet) (maxL := 3) (ret := (some .boolean)) (by decide) rfl ?_
  intro p e s m args below meth c s₁ B hml hv
  obtain ⟨rfl, hsz, hP, hK, hD0⟩ := hv
  have hx := B.exec
  have hb := B.bytes
  have hr := B.returns
  have hts := atoms_spec (ws := (jk yX12_rowMayBeSet cX12_rowMayBeSet 3 (some .boolean))) B.pre
  have hown : s.vm.findClass RX12 = some m.cls := findClass_of_methodNamed B.named
  have hlocks := B.notSynchronized
  subst hsz
  have hD := hD0
  generalize hAe : (va_A [] s.heap.size) = A
  have hA : ∀ q : Nat, s.heap.size ≤ q → A q := fun q h => by rw [← hAe]; exact Or.inr h
  have hS : va_S A s.heap s.heap [] := va_S.rf
  have hP : va_P (dC, dI) vwCl ((jS (xW ad ca) 18 (ad 18, .inr (6, [.ref (ad 11), .int 2, .int 0, .int 1, .int 1, .int 1])))) s.heap := hP
  have hl := lv_entry ([.ref (ad 0)]) (n := 3) (Nat.le_of_ble_eq_true rfl)
  rw [lg_entry_eq]
  generalize (lg_sl ([.ref (ad 0)]) ++ List.replicate (3 - (lg_sl ([.ref (ad 0)])).length) Slot.unset).toArray = ls at hl ⊢
  have hl : lv_has ls 3 [(0, .ref (ad 0))] := hl
  refine lv_iconst (v := 0) hx hb dX12_rowMayBeSet_0 (by decide) ?_
  refine lv_istore_n (lv' := [(1, .int 0), (0, .ref (ad 0))]) hx hb dX12_rowMayBeSet_1 rfl hl (by decide) rfl (fun ls hl => ?_)
  refine lv_iload_n hx hb dX12_rowMayBeSet_2 rfl (lv_at hl 0 rfl) ?_
  refine lv_aload_n hx hb dX12_rowMayBeSet_3 rfl (lv_at hl 1 rfl) ?_
  refine va_get (D := (dC, dI)) (ci := 12) (v := .int 0) (C := RX12) (T := TX12) (N := 20) hx hb hts (jh hin_RX12) hown hK hP 0 rfl rfl 9 (by decide) (hts (.fieldLink RX12 268 "BookOfAll" "rowSize" "I") (jm m_333)) (fun _ h9 => h9) rfl dX12_rowMayBeSet_4 ?_
  refine lv_icmp_ge (tgt := 66) hx hb dX12_rowMayBeSet_7 (by decide) (fun _ => ?_) (fun z => absurd (by decide) z)
  refine lv_iconst (v := 1) hx hb dX12_rowMayBeSet_66 (by decide) ?_
  exact W.zret (v := 1) (ty := .boolean) hx hb hr rfl (fun t ht hW => ⟨⟨1, (), rfl, rfl, trivial⟩, hS.F ht⟩) hS.2.2 dX12_rowMayBeSet_67
set_option maxHeartbeats 500000 in
set_option maxRecDepth 100000 in
theorem kX12_linesInRow_4 (l : Launch) (dC : Nat → ClassId) (dI : Nat → Nat → Nat) (sz : Nat) (ad : Nat → Nat) (ca : Nat → ClassId) : Met l yX12_linesInRow (jk yX12_linesInRow cX12_linesInRow 4 (some .int)) ({ frames := 0, cells := 0, slots := 0, locals := 0 }) (va_Pc [.ref (ad 0)] (jw_P (dC, dI) ((jS (xW ad ca) 18 (ad 18, .inr (6, [.ref (ad 11), .int 2, .int 0, .int 1, .int 1, .int 1])))) (xT ca) sz)) (va_Qi (fun (r : Int32) (_ : Unit) => (r = 0)) (fun _ _ => True) (va_A [] sz)) 0 0 (va_A [] sz) := by
  refine Met.ofW (cc := cX12_linesInRow) (maxL := 4) (ret := (some .int)) (by decide) rfl ?_
  intro p e s m args below meth c s₁ B hml hv
  obtain ⟨rfl, hsz, hP, hK, hD0⟩ := hv
  have hx := B.exec
  have hb := B.bytes
  have hr := B.returns
  have hts := atoms_spec (ws := (jk yX12_linesInRow cX12_linesInRow 4 (some .int))) B.pre
  have hown : s.vm.findClass RX12 = some m.cls := findClass_of_methodNamed B.named
  have hlocks := B.notSynchronized
  subst hsz
  have hD := hD0
  generalize hAe : (va_A [] s.heap.size) = A
  have hA : ∀ q : Nat, s.heap.size ≤ q → A q := fun q h => by rw [← hAe]; exact Or.inr h
  have hS : va_S A s.heap s.heap [] := va_S.rf
  have hP : va_P (dC, dI) vwCl ((jS (xW ad ca) 18 (ad 18, .inr (6, [.ref (ad 11), .int 2, .int 0, .int 1, .int 1, .int 1])))) s.heap := hP
  have hl := lv_entry ([.ref (ad 0)]) (n := 4) (Nat.le_of_ble_eq_true rfl)
  rw [lg_entry_eq]
  generalize (lg_sl ([.ref (ad 0)]) ++ List.replicate (4 - (lg_sl ([.ref (ad 0)])).length) Slot.unset).toArray = ls at hl ⊢
  have hl : lv_has ls 4 [(0, .ref (ad 0))] := hl
  refine lv_iconst (v := 0) hx hb dX12_linesInRow_0 (by decide) ?_
  refine lv_istore_n (lv' := [(1, .int 0), (0, .ref (ad 0))]) hx hb dX12_linesInRow_1 rfl hl (by decide) rfl (fun ls hl => ?_)
  refine lv_iconst (v := 0) hx hb dX12_linesInRow_2 (by decide) ?_
  refine lv_istore_n (lv' := [(2, .int 0), (1, .int 0), (0, .ref (ad 0))]) hx hb dX12_linesInRow_3 rfl hl (by decide) rfl (fun ls hl => ?_)
  refine lv_iload_n hx hb dX12_linesInRow_4 rfl (lv_at hl 0 rfl) ?_
  refine lv_aload_n hx hb dX12_linesInRow_5 rfl (lv_at hl 2 rfl) ?_
  refine va_get (D := (dC, dI)) (ci := 12) (v := .int 0) (C := RX12) (T := TX12) (N := 20) hx hb hts (jh hin_RX12) hown hK hP 0 rfl rfl 9 (by decide) (hts (.fieldLink RX12 268 "BookOfAll" "rowSize" "I") (jm m_333)) (fun _ h9 => h9) rfl dX12_linesInRow_6 ?_
  refine lv_icmp_ge (tgt := 43) hx hb dX12_linesInRow_9 (by decide) (fun _ => ?_) (fun z => absurd (by decide) z)
  refine lv_iload_n hx hb dX12_linesInRow_43 rfl (lv_at hl 1 rfl) ?_
  exact W.iret (v := 0) hx hb hr (fun t ht hW => ⟨⟨0, (), rfl, rfl, trivial⟩, hS.F ht⟩) hS.2.2 dX12_linesInRow_44
set_option maxHeartbeats 500000 in
set_option maxRecDepth 100000 in
theorem kJ7_copyOf_59c91_5 (l : Launch) (dC : Nat → ClassId) (dI : Nat → Nat → Nat) (sz : Nat) (ad : Nat → Nat) (ca : Nat → ClassId) (w0 : Nat) (w1 : ClassId) : Met l yJ7_copyOf_59c91 (jk yJ7_copyOf_59c91 cJ7_copyOf_59c91 3 (some (.array .int))) ({ frames := 1, cells := 1, slots := 0, locals := 80 }) (va_Pc [.ref (ad 39), .int 0] (jw_P (dC, dI) ((jS (jA (jS (xW ad ca) 18 (ad 18, .inr (6, [.ref (ad 11), .int 2, .int 0, .int 1, .int 1, .int 1]))) [(w0, .inl (w1, 0, .inl (fun _ => 0)))]) 26 (ad 26, .inr (11, [.int 14, .int (-1), .ref (ad 27), .ref w0, .int 0, .int 0, .int 0])))) ((xT ca ++ [(w1, .int)])) sz)) (va_Qq (fun (r : Option Nat) (u : Nat × (Nat → Nat) × (Nat → ClassId)) => (u.1 = 0 ∧ r = some ((u.2.1 0)))) (fun u t => va_P (dC, dI) vwCl ((fun (u : Nat × (Nat → Nat) × (Nat → ClassId)) => (jS (jA (jS (jA (jS (xW ad ca) 18 (ad 18, .inr (6, [.ref (ad 11), .int 2, .int 0, .int 1, .int 1, .int 1]))) [(w0, .inl (w1, 0, .inl (fun _ => 0)))]) 26 (ad 26, .inr (11, [.int 14, .int (-1), .ref (ad 27), .ref w0, .int 0, .int 0, .int 0]))) [((u.2.1 0), .inl ((u.2.2 0), 0, .inl (fun _ => 0)))]) 74 ((u.2.1 0), .inl ((u.2.2 0), 0, .inl (va_cpy (fun _ => 0) (fun _ => 0) 0 0 0))))) u) t.heap ∧ va_K (dC, dI) vwCl ((fun (u : Nat × (Nat → Nat) × (Nat → ClassId)) => ((xT ca ++ [(w1, .int)]) ++ [((u.2.2 0), .int)])) u) t ∧ va_D (va_A ((jS (jA (jS (xW ad ca) 18 (ad 18, .inr (6, [.ref (ad 11), .int 2, .int 0, .int 1, .int 1, .int 1]))) [(w0, .inl (w1, 0, .inl (fun _ => 0)))]) 26 (ad 26, .inr (11, [.int 14, .int (-1), .ref (ad 27), .ref w0, .int 0, .int 0, .int 0])))) sz) ((fun (u : Nat × (Nat → Nat) × (Nat → ClassId)) => (jS (jA (jS (jA (jS (xW ad ca) 18 (ad 18, .inr (6, [.ref (ad 11), .int 2, .int 0, .int 1, .int 1, .int 1]))) [(w0, .inl (w1, 0, .inl (fun _ => 0)))]) 26 (ad 26, .inr (11, [.int 14, .int (-1), .ref (ad 27), .ref w0, .int 0, .int 0, .int 0]))) [((u.2.1 0), .inl ((u.2.2 0), 0, .inl (fun _ => 0)))]) 74 ((u.2.1 0), .inl ((u.2.2 0), 0, .inl (va_cpy (fun _ => 0) (fun _ => 0) 0 0 0))))) u)) (va_A ((jS (jA (jS (xW ad ca) 18 (ad 18, .inr (6, [.ref (ad 11), .int 2, .int 0, .int 1, .int 1, .int 1]))) [(w0, .inl (w1, 0, .inl (fun _ => 0)))]) 26 (ad 26, .inr (11, [.int 14, .int (-1), .ref (ad 27), .ref w0, .int 0, .int 0, .int 0])))) sz)) 1 0 (va_A ((jS (jA (jS (xW ad ca) 18 (ad 18, .inr (6, [.ref (ad 11), .int 2, .int 0, .int 1, .int 1, .int 1]))) [(w0, .inl (w1, 0, .inl (fun _ => 0)))]) 26 (ad 26, .inr (11, [.int 14, .int (-1), .ref (ad 27), .ref w0, .int 0, .int 0, .int 0])))) sz) := by
  sorry
set_option maxHeartbeats 500000 in
set_option maxRecDepth 100000 in
theorem kX12_lay_6 (l : Launch) (dC : Nat → ClassId) (dI : Nat → Nat → Nat) (sz : Nat) (ad : Nat → Nat) (ca : Nat → ClassId) : Met l yX12_lay (jk yX12_lay cX12_lay 5 none) ({ frames := 2, cells := 2, slots := 0, locals := 102 }) (va_Pc [.ref (ad 0), .ref (ad 26), .int 2] (jw_P (dC, dI) ((jS (xW ad ca) 18 (ad 18, .inr (6, [.ref (ad 11), .int 2, .int 0, .int 1, .int 1, .int 1])))) (xT ca) sz)) (va_Qv (fun (u : Nat × (Nat → Nat) × (Nat → ClassId)) => (u.1 = 0)) (fun u t => va_P (dC, dI) vwCl ((fun (u : Nat × (Nat → Nat) × (Nat → ClassId)) => (jS (jS (jS (jS (jA (jS (jA (jS (xW ad ca) 18 (ad 18, .inr (6, [.ref (ad 11), .int 2, .int 0, .int 1, .int 1, .int 1]))) [((u.2.1 0), .inl ((u.2.2 0), 0, .inl (fun _ => 0)))]) 26 (ad 26, .inr (11, [.int 14, .int (-1), .ref (ad 27), .ref (u.2.1 0), .int 0, .int 0, .int 0]))) [((u.2.1 1), .inl ((u.2.2 1), 0, .inl (fun _ => 0)))]) 74 ((u.2.1 1), .inl ((u.2.2 1), 0, .inl (va_cpy (fun _ => 0) (fun _ => 0) 0 0 0)))) 26 (ad 26, .inr (11, [.int 14, .int (-1), .ref ((u.2.1 1)), .ref (u.2.1 0), .int 0, .int 0, .int 0]))) 26 (ad 26, .inr (11, [.int 14, .int 0, .ref ((u.2.1 1)), .ref (u.2.1 0), .int 0, .int 0, .int 0]))) 0 (ad 0, .inr (12, [.int 0, .int 4, .ref (ad 1), .ref (ad 11), .ref (ad 18), .ref (ad 19), .ref (ad 38), .int 0, .ref (ad 39), .int 0, .ref (ad 40), .int 0, .ref (ad 41), .int 0, .ref (ad 42), .ref (ad 53), .ref (ad 54), .ref (ad 55), .ref (ad 61), .ref (ad 70)])))) u) t.heap ∧ va_K (dC, dI) vwCl ((fun (u : Nat × (Nat → Nat) × (Nat → ClassId)) => (xT ca ++ [((u.2.2 0), .int), ((u.2.2 1), .int)])) u) t ∧ va_D (va_A ((jS (xW ad ca) 18 (ad 18, .inr (6, [.ref (ad 11), .int 2, .int 0, .int 1, .int 1, .int 1])))) sz) ((fun (u : Nat × (Nat → Nat) × (Nat → ClassId)) => (jS (jS (jS (jS (jA (jS (jA (jS (xW ad ca) 18 (ad 18, .inr (6, [.ref (ad 11), .int 2, .int 0, .int 1, .int 1, .int 1]))) [((u.2.1 0), .inl ((u.2.2 0), 0, .inl (fun _ => 0)))]) 26 (ad 26, .inr (11, [.int 14, .int (-1), .ref (ad 27), .ref (u.2.1 0), .int 0, .int 0, .int 0]))) [((u.2.1 1), .inl ((u.2.2 1), 0, .inl (fun _ => 0)))]) 74 ((u.2.1 1), .inl ((u.2.2 1), 0, .inl (va_cpy (fun _ => 0) (fun _ => 0) 0 0 0)))) 26 (ad 26, .inr (11, [.int 14, .int (-1), .ref ((u.2.1 1)), .ref (u.2.1 0), .int 0, .int 0, .int 0]))) 26 (ad 26, .inr (11, [.int 14, .int 0, .ref ((u.2.1 1)), .ref (u.2.1 0), .int 0, .int 0, .int 0]))) 0 (ad 0, .inr (12, [.int 0, .int 4, .ref (ad 1), .ref (ad 11), .ref (ad 18), .ref (ad 19), .ref (ad 38), .int 0, .ref (ad 39), .int 0, .ref (ad 40), .int 0, .ref (ad 41), .int 0, .ref (ad 42), .ref (ad 53), .ref (ad 54), .ref (ad 55), .ref (ad 61), .ref (ad 70)])))) u)) (va_A ((jS (xW ad ca) 18 (ad 18, .inr (6, [.ref (ad 11), .int 2, .int 0, .int 1, .int 1, .int 1])))) sz)) 2 0 (va_A ((jS (xW ad ca) 18 (ad 18, .inr (6, [.ref (ad 11), .int 2, .int 0, .int 1, .int 1, .int 1])))) sz) := by
  sorry
theorem s_tX12_set_v2_0  : 0 = sp_set 2 := by
  unfold sp_set
  rw [show (2 : Int32).toInt = 2 from rfl]
  split <;> first | rfl | (exfalso; omega)
set_option maxHeartbeats 500000 in
set_option maxRecDepth 100000 in
theorem tX12_set_v2 (l : Launch) (dC : Nat → ClassId) (dI : Nat → Nat → Nat) (sz : Nat) (ad : Nat → Nat) (ca : Nat → ClassId) (tW : Nat) : Met l yX12_set (jk yX12_set cX12_set 3 (some .int)) ({ frames := 4, cells := 2, slots := 0, locals := 126 }) (va_Pc [.ref (ad 0), .int 2] (jw_PZ (dC, dI) (xW ad ca) (xT ca) sz tW)) (va_Qi (fun (r : Int32) (_ : Unit) => r = sp_set 2) (fun _ _ => True) (va_A (xW ad ca) sz)) 2 0 (va_A (xW ad ca) sz) := by
  sorry
set_option maxHeartbeats 500000 in
set_option maxRecDepth 100000 in
theorem kX12_rowMayBeSet_5 (l : Launch) (dC : Nat → ClassId) (dI : Nat → Nat → Nat) (sz : Nat) (ad : Nat → Nat) (ca : Nat → ClassId) : Met l yX12_rowMayBeSet (jk yX12_rowMayBeSet cX12_rowMayBeSet 3 (some .boolean)) ({ frames := 0, cells := 0, slots := 0, locals := 0 }) (va_Pc [.ref (ad 0)] (jw_P (dC, dI) ((jS (xW ad ca) 18 (ad 18, .inr (6, [.ref (ad 11), .int 3, .int 0, .int 1, .int 1, .int 1])))) (xT ca) sz)) (va_Qi (fun (r : Int32) (_ : Unit) => (r = 1)) (fun _ _ => True) (va_A [] sz)) 0 0 (va_A [] sz) := by
  refine Met.ofW (cc := cX12_rowMayBeSet) (maxL := 3) (ret := (some .boolean)) (by decide) rfl ?_
  intro p e s m args below meth c s₁ B hml hv
  obtain ⟨rfl, hsz, hP, hK, hD0⟩ := hv
  have hx := B.exec
  have hb := B.bytes
  have hr := B.returns
  have hts := atoms_spec (ws := (jk yX12_rowMayBeSet cX12_rowMayBeSet 3 (some .boolean))) B.pre
  have hown : s.vm.findClass RX12 = some m.cls := findClass_of_methodNamed B.named
  have hlocks := B.notSynchronized
  subst hsz
  have hD := hD0
  generalize hAe : (va_A [] s.heap.size) = A
  have hA : ∀ q : Nat, s.heap.size ≤ q → A q := fun q h => by rw [← hAe]; exact Or.inr h
  have hS : va_S A s.heap s.heap [] := va_S.rf
  have hP : va_P (dC, dI) vwCl ((jS (xW ad ca) 18 (ad 18, .inr (6, [.ref (ad 11), .int 3, .int 0, .int 1, .int 1, .int 1])))) s.heap := hP
  have hl := lv_entry ([.ref (ad 0)]) (n := 3) (Nat.le_of_ble_eq_true rfl)
  rw [lg_entry_eq]
  generalize (lg_sl ([.ref (ad 0)]) ++ List.replicate (3 - (lg_sl ([.ref (ad 0)])).length) Slot.unset).toArray = ls at hl ⊢
  have hl : lv_has ls 3 [(0, .ref (ad 0))] := hl
  refine lv_iconst (v := 0) hx hb dX12_rowMayBeSet_0 (by decide) ?_
  refine lv_istore_n (lv' := [(1, .int 0), (0, .ref (ad 0))]) hx hb dX12_rowMayBeSet_1 rfl hl (by decide) rfl (fun ls hl => ?_)
  refine lv_iload_n hx hb dX12_rowMayBeSet_2 rfl (lv_at hl 0 rfl) ?_
  refine lv_aload_n hx hb dX12_rowMayBeSet_3 rfl (lv_at hl 1 rfl) ?_
  refine va_get (D := (dC, dI)) (ci := 12) (v := .int 0) (C := RX12) (T := TX12) (N := 20) hx hb hts (jh hin_RX12) hown hK hP 0 rfl rfl 9 (by decide) (hts (.fieldLink RX12 268 "BookOfAll" "rowSize" "I") (jm m_333)) (fun _ h9 => h9) rfl dX12_rowMayBeSet_4 ?_
  refine lv_icmp_ge (tgt := 66) hx hb dX12_rowMayBeSet_7 (by decide) (fun _ => ?_) (fun z => absurd (by decide) z)
  refine lv_iconst (v := 1) hx hb dX12_rowMayBeSet_66 (by decide) ?_
  exact W.zret (v := 1) (ty := .boolean) hx hb hr rfl (fun t ht hW => ⟨⟨1, (), rfl, rfl, trivial⟩, hS.F ht⟩) hS.2.2 dX12_rowMayBeSet_67
set_option maxHeartbeats 500000 in
set_option maxRecDepth 100000 in
theorem kX12_linesInRow_5 (l : Launch) (dC : Nat → ClassId) (dI : Nat → Nat → Nat) (sz : Nat) (ad : Nat → Nat) (ca : Nat → ClassId) : Met l yX12_linesInRow (jk yX12_linesInRow cX12_linesInRow 4 (some .int)) ({ frames := 0, cells := 0, slots := 0, locals := 0 }) (va_Pc [.ref (ad 0)] (jw_P (dC, dI) ((jS (xW ad ca) 18 (ad 18, .inr (6, [.ref (ad 11), .int 3, .int 0, .int 1, .int 1, .int 1])))) (xT ca) sz)) (va_Qi (fun (r : Int32) (_ : Unit) => (r = 0)) (fun _ _ => True) (va_A [] sz)) 0 0 (va_A [] sz) := by
  refine Met.ofW (cc := cX12_linesInRow) (maxL := 4) (ret := (some .int)) (by decide) rfl ?_
  intro p e s m args below meth c s₁ B hml hv
  obtain ⟨rfl, hsz, hP, hK, hD0⟩ := hv
  have hx := B.exec
  have hb := B.bytes
  have hr := B.returns
  have hts := atoms_spec (ws := (jk yX12_linesInRow cX12_linesInRow 4 (some .int))) B.pre
  have hown : s.vm.findClass RX12 = some m.cls := findClass_of_methodNamed B.named
  have hlocks := B.notSynchronized
  subst hsz
  have hD := hD0
  generalize hAe : (va_A [] s.heap.size) = A
  have hA : ∀ q : Nat, s.heap.size ≤ q → A q := fun q h => by rw [← hAe]; exact Or.inr h
  have hS : va_S A s.heap s.heap [] := va_S.rf
  have hP : va_P (dC, dI) vwCl ((jS (xW ad ca) 18 (ad 18, .inr (6, [.ref (ad 11), .int 3, .int 0, .int 1, .int 1, .int 1])))) s.heap := hP
  have hl := lv_entry ([.ref (ad 0)]) (n := 4) (Nat.le_of_ble_eq_true rfl)
  rw [lg_entry_eq]
  generalize (lg_sl ([.ref (ad 0)]) ++ List.replicate (4 - (lg_sl ([.ref (ad 0)])).length) Slot.unset).toArray = ls at hl ⊢
  have hl : lv_has ls 4 [(0, .ref (ad 0))] := hl
  refine lv_iconst (v := 0) hx hb dX12_linesInRow_0 (by decide) ?_
  refine lv_istore_n (lv' := [(1, .int 0), (0, .ref (ad 0))]) hx hb dX12_linesInRow_1 rfl hl (by decide) rfl (fun ls hl => ?_)
  refine lv_iconst (v := 0) hx hb dX12_linesInRow_2 (by decide) ?_
  refine lv_istore_n (lv' := [(2, .int 0), (1, .int 0), (0, .ref (ad 0))]) hx hb dX12_linesInRow_3 rfl hl (by decide) rfl (fun ls hl => ?_)
  refine lv_iload_n hx hb dX12_linesInRow_4 rfl (lv_at hl 0 rfl) ?_
  refine lv_aload_n hx hb dX12_linesInRow_5 rfl (lv_at hl 2 rfl) ?_
  refine va_get (D := (dC, dI)) (ci := 12) (v := .int 0) (C := RX12) (T := TX12) (N := 20) hx hb hts (jh hin_RX12) hown hK hP 0 rfl rfl 9 (by decide) (hts (.fieldLink RX12 268 "BookOfAll" "rowSize" "I") (jm m_333)) (fun _ h9 => h9) rfl dX12_linesInRow_6 ?_
  refine lv_icmp_ge (tgt := 43) hx hb dX12_linesInRow_9 (by decide) (fun _ => ?_) (fun z => absurd (by decide) z)
  refine lv_iload_n hx hb dX12_linesInRow_43 rfl (lv_at hl 1 rfl) ?_
  exact W.iret (v := 0) hx hb hr (fun t ht hW => ⟨⟨0, (), rfl, rfl, trivial⟩, hS.F ht⟩) hS.2.2 dX12_linesInRow_44
set_option maxHeartbeats 500000 in
set_option maxRecDepth 100000 in
theorem kJ7_copyOf_59c91_6 (l : Launch) (dC : Nat → ClassId) (dI : Nat → Nat → Nat) (sz : Nat) (ad : Nat → Nat) (ca : Nat → ClassId) (w0 : Nat) (w1 : ClassId) : Met l yJ7_copyOf_59c91 (jk yJ7_copyOf_59c91 cJ7_copyOf_59c91 3 (some (.array .int))) ({ frames := 1, cells := 1, slots := 0, locals := 80 }) (va_Pc [.ref (ad 39), .int 0] (jw_P (dC, dI) ((jS (jA (jS (xW ad ca) 18 (ad 18, .inr (6, [.ref (ad 11), .int 3, .int 0, .int 1, .int 1, .int 1]))) [(w0, .inl (w1, 0, .inl (fun _ => 0)))]) 29 (ad 29, .inr (11, [.int 19, .int (-1), .ref (ad 30), .ref w0, .int 0, .int 0, .int 0])))) ((xT ca ++ [(w1, .int)])) sz)) (va_Qq (fun (r : Option Nat) (u : Nat × (Nat → Nat) × (Nat → ClassId)) => (u.1 = 0 ∧ r = some ((u.2.1 0)))) (fun u t => va_P (dC, dI) vwCl ((fun (u : Nat × (Nat → Nat) × (Nat → ClassId)) => (jS (jA (jS (jA (jS (xW ad ca) 18 (ad 18, .inr (6, [.ref (ad 11), .int 3, .int 0, .int 1, .int 1, .int 1]))) [(w0, .inl (w1, 0, .inl (fun _ => 0)))]) 29 (ad 29, .inr (11, [.int 19, .int (-1), .ref (ad 30), .ref w0, .int 0, .int 0, .int 0]))) [((u.2.1 0), .inl ((u.2.2 0), 0, .inl (fun _ => 0)))]) 74 ((u.2.1 0), .inl ((u.2.2 0), 0, .inl (va_cpy (fun _ => 0) (fun _ => 0) 0 0 0))))) u) t.heap ∧ va_K (dC, dI) vwCl ((fun (u : Nat × (Nat → Nat) × (Nat → ClassId)) => ((xT ca ++ [(w1, .int)]) ++ [((u.2.2 0), .int)])) u) t ∧ va_D (va_A ((jS (jA (jS (xW ad ca) 18 (ad 18, .inr (6, [.ref (ad 11), .int 3, .int 0, .int 1, .int 1, .int 1]))) [(w0, .inl (w1, 0, .inl (fun _ => 0)))]) 29 (ad 29, .inr (11, [.int 19, .int (-1), .ref (ad 30), .ref w0, .int 0, .int 0, .int 0])))) sz) ((fun (u : Nat × (Nat → Nat) × (Nat → ClassId)) => (jS (jA (jS (jA (jS (xW ad ca) 18 (ad 18, .inr (6, [.ref (ad 11), .int 3, .int 0, .int 1, .int 1, .int 1]))) [(w0, .inl (w1, 0, .inl (fun _ => 0)))]) 29 (ad 29, .inr (11, [.int 19, .int (-1), .ref (ad 30), .ref w0, .int 0, .int 0, .int 0]))) [((u.2.1 0), .inl ((u.2.2 0), 0, .inl (fun _ => 0)))]) 74 ((u.2.1 0), .inl ((u.2.2 0), 0, .inl (va_cpy (fun _ => 0) (fun _ => 0) 0 0 0))))) u)) (va_A ((jS (jA (jS (xW ad ca) 18 (ad 18, .inr (6, [.ref (ad 11), .int 3, .int 0, .int 1, .int 1, .int 1]))) [(w0, .inl (w1, 0, .inl (fun _ => 0)))]) 29 (ad 29, .inr (11, [.int 19, .int (-1), .ref (ad 30), .ref w0, .int 0, .int 0, .int 0])))) sz)) 1 0 (va_A ((jS (jA (jS (xW ad ca) 18 (ad 18, .inr (6, [.ref (ad 11), .int 3, .int 0, .int 1, .int 1, .int 1]))) [(w0, .inl (w1, 0, .inl (fun _ => 0)))]) 29 (ad 29, .inr (11, [.int 19, .int (-1), .ref (ad 30), .ref w0, .int 0, .int 0, .int 0])))) sz) := by
  sorry
set_option maxHeartbeats 500000 in
set_option maxRecDepth 100000 in
theorem kX12_lay_8 (l : Launch) (dC : Nat → ClassId) (dI : Nat → Nat → Nat) (sz : Nat) (ad : Nat → Nat) (ca : Nat → ClassId) : Met l yX12_lay (jk yX12_lay cX12_lay 5 none) ({ frames := 2, cells := 2, slots := 0, locals := 102 }) (va_Pc [.ref (ad 0), .ref (ad 29), .int 3] (jw_P (dC, dI) ((jS (xW ad ca) 18 (ad 18, .inr (6, [.ref (ad 11), .int 3, .int 0, .int 1, .int 1, .int 1])))) (xT ca) sz)) (va_Qv (fun (u : Nat × (Nat → Nat) × (Nat → ClassId)) => (u.1 = 0)) (fun u t => va_P (dC, dI) vwCl ((fun (u : Nat × (Nat → Nat) × (Nat → ClassId)) => (jS (jS (jS (jS (jA (jS (jA (jS (xW ad ca) 18 (ad 18, .inr (6, [.ref (ad 11), .int 3, .int 0, .int 1, .int 1, .int 1]))) [((u.2.1 0), .inl ((u.2.2 0), 0, .inl (fun _ => 0)))]) 29 (ad 29, .inr (11, [.int 19, .int (-1), .ref (ad 30), .ref (u.2.1 0), .int 0, .int 0, .int 0]))) [((u.2.1 1), .inl ((u.2.2 1), 0, .inl (fun _ => 0)))]) 74 ((u.2.1 1), .inl ((u.2.2 1), 0, .inl (va_cpy (fun _ => 0) (fun _ => 0) 0 0 0)))) 29 (ad 29, .inr (11, [.int 19, .int (-1), .ref ((u.2.1 1)), .ref (u.2.1 0), .int 0, .int 0, .int 0]))) 29 (ad 29, .inr (11, [.int 19, .int 0, .ref ((u.2.1 1)), .ref (u.2.1 0), .int 0, .int 0, .int 0]))) 0 (ad 0, .inr (12, [.int 0, .int 8, .ref (ad 1), .ref (ad 11), .ref (ad 18), .ref (ad 19), .ref (ad 38), .int 0, .ref (ad 39), .int 0, .ref (ad 40), .int 0, .ref (ad 41), .int 0, .ref (ad 42), .ref (ad 53), .ref (ad 54), .ref (ad 55), .ref (ad 61), .ref (ad 70)])))) u) t.heap ∧ va_K (dC, dI) vwCl ((fun (u : Nat × (Nat → Nat) × (Nat → ClassId)) => (xT ca ++ [((u.2.2 0), .int), ((u.2.2 1), .int)])) u) t ∧ va_D (va_A ((jS (xW ad ca) 18 (ad 18, .inr (6, [.ref (ad 11), .int 3, .int 0, .int 1, .int 1, .int 1])))) sz) ((fun (u : Nat × (Nat → Nat) × (Nat → ClassId)) => (jS (jS (jS (jS (jA (jS (jA (jS (xW ad ca) 18 (ad 18, .inr (6, [.ref (ad 11), .int 3, .int 0, .int 1, .int 1, .int 1]))) [((u.2.1 0), .inl ((u.2.2 0), 0, .inl (fun _ => 0)))]) 29 (ad 29, .inr (11, [.int 19, .int (-1), .ref (ad 30), .ref (u.2.1 0), .int 0, .int 0, .int 0]))) [((u.2.1 1), .inl ((u.2.2 1), 0, .inl (fun _ => 0)))]) 74 ((u.2.1 1), .inl ((u.2.2 1), 0, .inl (va_cpy (fun _ => 0) (fun _ => 0) 0 0 0)))) 29 (ad 29, .inr (11, [.int 19, .int (-1), .ref ((u.2.1 1)), .ref (u.2.1 0), .int 0, .int 0, .int 0]))) 29 (ad 29, .inr (11, [.int 19, .int 0, .ref ((u.2.1 1)), .ref (u.2.1 0), .int 0, .int 0, .int 0]))) 0 (ad 0, .inr (12, [.int 0, .int 8, .ref (ad 1), .ref (ad 11), .ref (ad 18), .ref (ad 19), .ref (ad 38), .int 0, .ref (ad 39), .int 0, .ref (ad 40), .int 0, .ref (ad 41), .int 0, .ref (ad 42), .ref (ad 53), .ref (ad 54), .ref (ad 55), .ref (ad 61), .ref (ad 70)])))) u)) (va_A ((jS (xW ad ca) 18 (ad 18, .inr (6, [.ref (ad 11), .int 3, .int 0, .int 1, .int 1, .int 1])))) sz)) 2 0 (va_A ((jS (xW ad ca) 18 (ad 18, .inr (6, [.ref (ad 11), .int 3, .int 0, .int 1, .int 1, .int 1])))) sz) := by
  sorry
theorem s_tX12_set_v3_0  : 0 = sp_set 3 := by
  unfold sp_set
  rw [show (3 : Int32).toInt = 3 from rfl]
  split <;> first | rfl | (exfalso; omega)
set_option maxHeartbeats 500000 in
set_option maxRecDepth 100000 in
theorem tX12_set_v3 (l : Launch) (dC : Nat → ClassId) (dI : Nat → Nat → Nat) (sz : Nat) (ad : Nat → Nat) (ca : Nat → ClassId) (tW : Nat) : Met l yX12_set (jk yX12_set cX12_set 3 (some .int)) ({ frames := 4, cells := 2, slots := 0, locals := 126 }) (va_Pc [.ref (ad 0), .int 3] (jw_PZ (dC, dI) (xW ad ca) (xT ca) sz tW)) (va_Qi (fun (r : Int32) (_ : Unit) => r = sp_set 3) (fun _ _ => True) (va_A (xW ad ca) sz)) 2 0 (va_A (xW ad ca) sz) := by
  sorry
set_option maxHeartbeats 500000 in
set_option maxRecDepth 100000 in
theorem kX12_rowMayBeSet_6 (l : Launch) (dC : Nat → ClassId) (dI : Nat → Nat → Nat) (sz : Nat) (ad : Nat → Nat) (ca : Nat → ClassId) : Met l yX12_rowMayBeSet (jk yX12_rowMayBeSet cX12_rowMayBeSet 3 (some .boolean)) ({ frames := 0, cells := 0, slots := 0, locals := 0 }) (va_Pc [.ref (ad 0)] (jw_P (dC, dI) ((jS (xW ad ca) 18 (ad 18, .inr (6, [.ref (ad 11), .int 4, .int 0, .int 1, .int 1, .int 1])))) (xT ca) sz)) (va_Qi (fun (r : Int32) (_ : Unit) => (r = 1)) (fun _ _ => True) (va_A [] sz)) 0 0 (va_A [] sz) := by
  refine Met.ofW (cc := cX12_rowMayBeSet) (maxL := 3) (ret := (some .boolean)) (by decide) rfl ?_
  intro p e s m args below meth c s₁ B hml hv
  obtain ⟨rfl, hsz, hP, hK, hD0⟩ := hv
  have hx := B.exec
  have hb := B.bytes
  have hr := B.returns
  have hts := atoms_spec (ws := (jk yX12_rowMayBeSet cX12_rowMayBeSet 3 (some .boolean))) B.pre
  have hown : s.vm.findClass RX12 = some m.cls := findClass_of_methodNamed B.named
  have hlocks := B.notSynchronized
  subst hsz
  have hD := hD0
  generalize hAe : (va_A [] s.heap.size) = A
  have hA : ∀ q : Nat, s.heap.size ≤ q → A q := fun q h => by rw [← hAe]; exact Or.inr h
  have hS : va_S A s.heap s.heap [] := va_S.rf
  have hP : va_P (dC, dI) vwCl ((jS (xW ad ca) 18 (ad 18, .inr (6, [.ref (ad 11), .int 4, .int 0, .int 1, .int 1, .int 1])))) s.heap := hP
  have hl := lv_entry ([.ref (ad 0)]) (n := 3) (Nat.le_of_ble_eq_true rfl)
  rw [lg_entry_eq]
  generalize (lg_sl ([.ref (ad 0)]) ++ List.replicate (3 - (lg_sl ([.ref (ad 0)])).length) Slot.unset).toArray = ls at hl ⊢
  have hl : lv_has ls 3 [(0, .ref (ad 0))] := hl
  refine lv_iconst (v := 0) hx hb dX12_rowMayBeSet_0 (by decide) ?_
  refine lv_istore_n (lv' := [(1, .int 0), (0, .ref (ad 0))]) hx hb dX12_rowMayBeSet_1 rfl hl (by decide) rfl (fun ls hl => ?_)
  refine lv_iload_n hx hb dX12_rowMayBeSet_2 rfl (lv_at hl 0 rfl) ?_
  refine lv_aload_n hx hb dX12_rowMayBeSet_3 rfl (lv_at hl 1 rfl) ?_
  refine va_get (D := (dC, dI)) (ci := 12) (v := .int 0) (C := RX12) (T := TX12) (N := 20) hx hb hts (jh hin_RX12) hown hK hP 0 rfl rfl 9 (by decide) (hts (.fieldLink RX12 268 "BookOfAll" "rowSize" "I") (jm m_333)) (fun _ h9 => h9) rfl dX12_rowMayBeSet_4 ?_
  refine lv_icmp_ge (tgt := 66) hx hb dX12_rowMayBeSet_7 (by decide) (fun _ => ?_) (fun z => absurd (by decide) z)
  refine lv_iconst (v := 1) hx hb dX12_rowMayBeSet_66 (by decide) ?_
  exact W.zret (v := 1) (ty := .boolean) hx hb hr rfl (fun t ht hW => ⟨⟨1, (), rfl, rfl, trivial⟩, hS.F ht⟩) hS.2.2 dX12_rowMayBeSet_67
set_option maxHeartbeats 500000 in
set_option maxRecDepth 100000 in
theorem kX12_linesInRow_6 (l : Launch) (dC : Nat → ClassId) (dI : Nat → Nat → Nat) (sz : Nat) (ad : Nat → Nat) (ca : Nat → ClassId) : Met l yX12_linesInRow (jk yX12_linesInRow cX12_linesInRow 4 (some .int)) ({ frames := 0, cells := 0, slots := 0, locals := 0 }) (va_Pc [.ref (ad 0)] (jw_P (dC, dI) ((jS (xW ad ca) 18 (ad 18, .inr (6, [.ref (ad 11), .int 4, .int 0, .int 1, .int 1, .int 1])))) (xT ca) sz)) (va_Qi (fun (r : Int32) (_ : Unit) => (r = 0)) (fun _ _ => True) (va_A [] sz)) 0 0 (va_A [] sz) := by
  refine Met.ofW (cc := cX12_linesInRow) (maxL := 4) (ret := (some .int)) (by decide) rfl ?_
  intro p e s m args below meth c s₁ B hml hv
  obtain ⟨rfl, hsz, hP, hK, hD0⟩ := hv
  have hx := B.exec
  have hb := B.bytes
  have hr := B.returns
  have hts := atoms_spec (ws := (jk yX12_linesInRow cX12_linesInRow 4 (some .int))) B.pre
  have hown : s.vm.findClass RX12 = some m.cls := findClass_of_methodNamed B.named
  have hlocks := B.notSynchronized
  subst hsz
  have hD := hD0
  generalize hAe : (va_A [] s.heap.size) = A
  have hA : ∀ q : Nat, s.heap.size ≤ q → A q := fun q h => by rw [← hAe]; exact Or.inr h
  have hS : va_S A s.heap s.heap [] := va_S.rf
  have hP : va_P (dC, dI) vwCl ((jS (xW ad ca) 18 (ad 18, .inr (6, [.ref (ad 11), .int 4, .int 0, .int 1, .int 1, .int 1])))) s.heap := hP
  have hl := lv_entry ([.ref (ad 0)]) (n := 4) (Nat.le_of_ble_eq_true rfl)
  rw [lg_entry_eq]
  generalize (lg_sl ([.ref (ad 0)]) ++ List.replicate (4 - (lg_sl ([.ref (ad 0)])).length) Slot.unset).toArray = ls at hl ⊢
  have hl : lv_has ls 4 [(0, .ref (ad 0))] := hl
  refine lv_iconst (v := 0) hx hb dX12_linesInRow_0 (by decide) ?_
  refine lv_istore_n (lv' := [(1, .int 0), (0, .ref (ad 0))]) hx hb dX12_linesInRow_1 rfl hl (by decide) rfl (fun ls hl => ?_)
  refine lv_iconst (v := 0) hx hb dX12_linesInRow_2 (by decide) ?_
  refine lv_istore_n (lv' := [(2, .int 0), (1, .int 0), (0, .ref (ad 0))]) hx hb dX12_linesInRow_3 rfl hl (by decide) rfl (fun ls hl => ?_)
  refine lv_iload_n hx hb dX12_linesInRow_4 rfl (lv_at hl 0 rfl) ?_
  refine lv_aload_n hx hb dX12_linesInRow_5 rfl (lv_at hl 2 rfl) ?_
  refine va_get (D := (dC, dI)) (ci := 12) (v := .int 0) (C := RX12) (T := TX12) (N := 20) hx hb hts (jh hin_RX12) hown hK hP 0 rfl rfl 9 (by decide) (hts (.fieldLink RX12 268 "BookOfAll" "rowSize" "I") (jm m_333)) (fun _ h9 => h9) rfl dX12_linesInRow_6 ?_
  refine lv_icmp_ge (tgt := 43) hx hb dX12_linesInRow_9 (by decide) (fun _ => ?_) (fun z => absurd (by decide) z)
  refine lv_iload_n hx hb dX12_linesInRow_43 rfl (lv_at hl 1 rfl) ?_
  exact W.iret (v := 0) hx hb hr (fun t ht hW => ⟨⟨0, (), rfl, rfl, trivial⟩, hS.F ht⟩) hS.2.2 dX12_linesInRow_44
set_option maxHeartbeats 500000 in
set_option maxRecDepth 100000 in
theorem kJ7_copyOf_59c91_7 (l : Launch) (dC : Nat → ClassId) (dI : Nat → Nat → Nat) (sz : Nat) (ad : Nat → Nat) (ca : Nat → ClassId) (w0 : Nat) (w1 : ClassId) : Met l yJ7_copyOf_59c91 (jk yJ7_copyOf_59c91 cJ7_copyOf_59c91 3 (some (.array .int))) ({ frames := 1, cells := 1, slots := 0, locals := 80 }) (va_Pc [.ref (ad 39), .int 0] (jw_P (dC, dI) ((jS (jA (jS (xW ad ca) 18 (ad 18, .inr (6, [.ref (ad 11), .int 4, .int 0, .int 1, .int 1, .int 1]))) [(w0, .inl (w1, 0, .inl (fun _ => 0)))]) 32 (ad 32, .inr (11, [.int 24, .int (-1), .ref (ad 33), .ref w0, .int 0, .int 0, .int 0])))) ((xT ca ++ [(w1, .int)])) sz)) (va_Qq (fun (r : Option Nat) (u : Nat × (Nat → Nat) × (Nat → ClassId)) => (u.1 = 0 ∧ r = some ((u.2.1 0)))) (fun u t => va_P (dC, dI) vwCl ((fun (u : Nat × (Nat → Nat) × (Nat → ClassId)) => (jS (jA (jS (jA (jS (xW ad ca) 18 (ad 18, .inr (6, [.ref (ad 11), .int 4, .int 0, .int 1, .int 1, .int 1]))) [(w0, .inl (w1, 0, .inl (fun _ => 0)))]) 32 (ad 32, .inr (11, [.int 24, .int (-1), .ref (ad 33), .ref w0, .int 0, .int 0, .int 0]))) [((u.2.1 0), .inl ((u.2.2 0), 0, .inl (fun _ => 0)))]) 74 ((u.2.1 0), .inl ((u.2.2 0), 0, .inl (va_cpy (fun _ => 0) (fun _ => 0) 0 0 0))))) u) t.heap ∧ va_K (dC, dI) vwCl ((fun (u : Nat × (Nat → Nat) × (Nat → ClassId)) => ((xT ca ++ [(w1, .int)]) ++ [((u.2.2 0), .int)])) u) t ∧ va_D (va_A ((jS (jA (jS (xW ad ca) 18 (ad 18, .inr (6, [.ref (ad 11), .int 4, .int 0, .int 1, .int 1, .int 1]))) [(w0, .inl (w1, 0, .inl (fun _ => 0)))]) 32 (ad 32, .inr (11, [.int 24, .int (-1), .ref (ad 33), .ref w0, .int 0, .int 0, .int 0])))) sz) ((fun (u : Nat × (Nat → Nat) × (Nat → ClassId)) => (jS (jA (jS (jA (jS (xW ad ca) 18 (ad 18, .inr (6, [.ref (ad 11), .int 4, .int 0, .int 1, .int 1, .int 1]))) [(w0, .inl (w1, 0, .inl (fun _ => 0)))]) 32 (ad 32, .inr (11, [.int 24, .int (-1), .ref (ad 33), .ref w0, .int 0, .int 0, .int 0]))) [((u.2.1 0), .inl ((u.2.2 0), 0, .inl (fun _ => 0)))]) 74 ((u.2.1 0), .inl ((u.2.2 0), 0, .inl (va_cpy (fun _ => 0) (fun _ => 0) 0 0 0))))) u)) (va_A ((jS (jA (jS (xW ad ca) 18 (ad 18, .inr (6, [.ref (ad 11), .int 4, .int 0, .int 1, .int 1, .int 1]))) [(w0, .inl (w1, 0, .inl (fun _ => 0)))]) 32 (ad 32, .inr (11, [.int 24, .int (-1), .ref (ad 33), .ref w0, .int 0, .int 0, .int 0])))) sz)) 1 0 (va_A ((jS (jA (jS (xW ad ca) 18 (ad 18, .inr (6, [.ref (ad 11), .int 4, .int 0, .int 1, .int 1, .int 1]))) [(w0, .inl (w1, 0, .inl (fun _ => 0)))]) 32 (ad 32, .inr (11, [.int 24, .int (-1), .ref (ad 33), .ref w0, .int 0, .int 0, .int 0])))) sz) := by
  sorry
set_option maxHeartbeats 500000 in
set_option maxRecDepth 100000 in
theorem kX12_lay_10 (l : Launch) (dC : Nat → ClassId) (dI : Nat → Nat → Nat) (sz : Nat) (ad : Nat → Nat) (ca : Nat → ClassId) : Met l yX12_lay (jk yX12_lay cX12_lay 5 none) ({ frames := 2, cells := 2, slots := 0, locals := 102 }) (va_Pc [.ref (ad 0), .ref (ad 32), .int 4] (jw_P (dC, dI) ((jS (xW ad ca) 18 (ad 18, .inr (6, [.ref (ad 11), .int 4, .int 0, .int 1, .int 1, .int 1])))) (xT ca) sz)) (va_Qv (fun (u : Nat × (Nat → Nat) × (Nat → ClassId)) => (u.1 = 0)) (fun u t => va_P (dC, dI) vwCl ((fun (u : Nat × (Nat → Nat) × (Nat → ClassId)) => (jS (jS (jS (jS (jA (jS (jA (jS (xW ad ca) 18 (ad 18, .inr (6, [.ref (ad 11), .int 4, .int 0, .int 1, .int 1, .int 1]))) [((u.2.1 0), .inl ((u.2.2 0), 0, .inl (fun _ => 0)))]) 32 (ad 32, .inr (11, [.int 24, .int (-1), .ref (ad 33), .ref (u.2.1 0), .int 0, .int 0, .int 0]))) [((u.2.1 1), .inl ((u.2.2 1), 0, .inl (fun _ => 0)))]) 74 ((u.2.1 1), .inl ((u.2.2 1), 0, .inl (va_cpy (fun _ => 0) (fun _ => 0) 0 0 0)))) 32 (ad 32, .inr (11, [.int 24, .int (-1), .ref ((u.2.1 1)), .ref (u.2.1 0), .int 0, .int 0, .int 0]))) 32 (ad 32, .inr (11, [.int 24, .int 0, .ref ((u.2.1 1)), .ref (u.2.1 0), .int 0, .int 0, .int 0]))) 0 (ad 0, .inr (12, [.int 0, .int 16, .ref (ad 1), .ref (ad 11), .ref (ad 18), .ref (ad 19), .ref (ad 38), .int 0, .ref (ad 39), .int 0, .ref (ad 40), .int 0, .ref (ad 41), .int 0, .ref (ad 42), .ref (ad 53), .ref (ad 54), .ref (ad 55), .ref (ad 61), .ref (ad 70)])))) u) t.heap ∧ va_K (dC, dI) vwCl ((fun (u : Nat × (Nat → Nat) × (Nat → ClassId)) => (xT ca ++ [((u.2.2 0), .int), ((u.2.2 1), .int)])) u) t ∧ va_D (va_A ((jS (xW ad ca) 18 (ad 18, .inr (6, [.ref (ad 11), .int 4, .int 0, .int 1, .int 1, .int 1])))) sz) ((fun (u : Nat × (Nat → Nat) × (Nat → ClassId)) => (jS (jS (jS (jS (jA (jS (jA (jS (xW ad ca) 18 (ad 18, .inr (6, [.ref (ad 11), .int 4, .int 0, .int 1, .int 1, .int 1]))) [((u.2.1 0), .inl ((u.2.2 0), 0, .inl (fun _ => 0)))]) 32 (ad 32, .inr (11, [.int 24, .int (-1), .ref (ad 33), .ref (u.2.1 0), .int 0, .int 0, .int 0]))) [((u.2.1 1), .inl ((u.2.2 1), 0, .inl (fun _ => 0)))]) 74 ((u.2.1 1), .inl ((u.2.2 1), 0, .inl (va_cpy (fun _ => 0) (fun _ => 0) 0 0 0)))) 32 (ad 32, .inr (11, [.int 24, .int (-1), .ref ((u.2.1 1)), .ref (u.2.1 0), .int 0, .int 0, .int 0]))) 32 (ad 32, .inr (11, [.int 24, .int 0, .ref ((u.2.1 1)), .ref (u.2.1 0), .int 0, .int 0, .int 0]))) 0 (ad 0, .inr (12, [.int 0, .int 16, .ref (ad 1), .ref (ad 11), .ref (ad 18), .ref (ad 19), .ref (ad 38), .int 0, .ref (ad 39), .int 0, .ref (ad 40), .int 0, .ref (ad 41), .int 0, .ref (ad 42), .ref (ad 53), .ref (ad 54), .ref (ad 55), .ref (ad 61), .ref (ad 70)])))) u)) (va_A ((jS (xW ad ca) 18 (ad 18, .inr (6, [.ref (ad 11), .int 4, .int 0, .int 1, .int 1, .int 1])))) sz)) 2 0 (va_A ((jS (xW ad ca) 18 (ad 18, .inr (6, [.ref (ad 11), .int 4, .int 0, .int 1, .int 1, .int 1])))) sz) := by
  sorry
theorem s_tX12_set_v4_0  : 0 = sp_set 4 := by
  unfold sp_set
  rw [show (4 : Int32).toInt = 4 from rfl]
  split <;> first | rfl | (exfalso; omega)
set_option maxHeartbeats 500000 in
set_option maxRecDepth 100000 in
theorem tX12_set_v4 (l : Launch) (dC : Nat → ClassId) (dI : Nat → Nat → Nat) (sz : Nat) (ad : Nat → Nat) (ca : Nat → ClassId) (tW : Nat) : Met l yX12_set (jk yX12_set cX12_set 3 (some .int)) ({ frames := 4, cells := 2, slots := 0, locals := 126 }) (va_Pc [.ref (ad 0), .int 4] (jw_PZ (dC, dI) (xW ad ca) (xT ca) sz tW)) (va_Qi (fun (r : Int32) (_ : Unit) => r = sp_set 4) (fun _ _ => True) (va_A (xW ad ca) sz)) 2 0 (va_A (xW ad ca) sz) := by
  sorry
set_option maxHeartbeats 500000 in
set_option maxRecDepth 100000 in
theorem kX12_rowMayBeSet_7 (l : Launch) (dC : Nat → ClassId) (dI : Nat → Nat → Nat) (sz : Nat) (ad : Nat → Nat) (ca : Nat → ClassId) : Met l yX12_rowMayBeSet (jk yX12_rowMayBeSet cX12_rowMayBeSet 3 (some .boolean)) ({ frames := 0, cells := 0, slots := 0, locals := 0 }) (va_Pc [.ref (ad 0)] (jw_P (dC, dI) ((jS (xW ad ca) 18 (ad 18, .inr (6, [.ref (ad 11), .int 5, .int 0, .int 1, .int 1, .int 1])))) (xT ca) sz)) (va_Qi (fun (r : Int32) (_ : Unit) => (r = 1)) (fun _ _ => True) (va_A [] sz)) 0 0 (va_A [] sz) := by
  refine Met.ofW (cc := cX12_rowMayBeSet) (maxL := 3) (ret := (some .boolean)) (by decide) rfl ?_
  intro p e s m args below meth c s₁ B hml hv
  obtain ⟨rfl, hsz, hP, hK, hD0⟩ := hv
  have hx := B.exec
  have hb := B.bytes
  have hr := B.returns
  have hts := atoms_spec (ws := (jk yX12_rowMayBeSet cX12_rowMayBeSet 3 (some .boolean))) B.pre
  have hown : s.vm.findClass RX12 = some m.cls := findClass_of_methodNamed B.named
  have hlocks := B.notSynchronized
  subst hsz
  have hD := hD0
  generalize hAe : (va_A [] s.heap.size) = A
  have hA : ∀ q : Nat, s.heap.size ≤ q → A q := fun q h => by rw [← hAe]; exact Or.inr h
  have hS : va_S A s.heap s.heap [] := va_S.rf
  have hP : va_P (dC, dI) vwCl ((jS (xW ad ca) 18 (ad 18, .inr (6, [.ref (ad 11), .int 5, .int 0, .int 1, .int 1, .int 1])))) s.heap := hP
  have hl := lv_entry ([.ref (ad 0)]) (n := 3) (Nat.le_of_ble_eq_true rfl)
  rw [lg_entry_eq]
  generalize (lg_sl ([.ref (ad 0)]) ++ List.replicate (3 - (lg_sl ([.ref (ad 0)])).length) Slot.unset).toArray = ls at hl ⊢
  have hl : lv_has ls 3 [(0, .ref (ad 0))] := hl
  refine lv_iconst (v := 0) hx hb dX12_rowMayBeSet_0 (by decide) ?_
  refine lv_istore_n (lv' := [(1, .int 0), (0, .ref (ad 0))]) hx hb dX12_rowMayBeSet_1 rfl hl (by decide) rfl (fun ls hl => ?_)
  refine lv_iload_n hx hb dX12_rowMayBeSet_2 rfl (lv_at hl 0 rfl) ?_
  refine lv_aload_n hx hb dX12_rowMayBeSet_3 rfl (lv_at hl 1 rfl) ?_
  refine va_get (D := (dC, dI)) (ci := 12) (v := .int 0) (C := RX12) (T := TX12) (N := 20) hx hb hts (jh hin_RX12) hown hK hP 0 rfl rfl 9 (by decide) (hts (.fieldLink RX12 268 "BookOfAll" "rowSize" "I") (jm m_333)) (fun _ h9 => h9) rfl dX12_rowMayBeSet_4 ?_
  refine lv_icmp_ge (tgt := 66) hx hb dX12_rowMayBeSet_7 (by decide) (fun _ => ?_) (fun z => absurd (by decide) z)
  refine lv_iconst (v := 1) hx hb dX12_rowMayBeSet_66 (by decide) ?_
  exact W.zret (v := 1) (ty := .boolean) hx hb hr rfl (fun t ht hW => ⟨⟨1, (), rfl, rfl, trivial⟩, hS.F ht⟩) hS.2.2 dX12_rowMayBeSet_67
set_option maxHeartbeats 500000 in
set_option maxRecDepth 100000 in
theorem kX12_linesInRow_7 (l : Launch) (dC : Nat → ClassId) (dI : Nat → Nat → Nat) (sz : Nat) (ad : Nat → Nat) (ca : Nat → ClassId) : Met l yX12_linesInRow (jk yX12_linesInRow cX12_linesInRow 4 (some .int)) ({ frames := 0, cells := 0, slots := 0, locals := 0 }) (va_Pc [.ref (ad 0)] (jw_P (dC, dI) ((jS (xW ad ca) 18 (ad 18, .inr (6, [.ref (ad 11), .int 5, .int 0, .int 1, .int 1, .int 1])))) (xT ca) sz)) (va_Qi (fun (r : Int32) (_ : Unit) => (r = 0)) (fun _ _ => True) (va_A [] sz)) 0 0 (va_A [] sz) := by
  refine Met.ofW (cc := cX12_linesInRow) (maxL := 4) (ret := (some .int)) (by decide) rfl ?_
  intro p e s m args below meth c s₁ B hml hv
  obtain ⟨rfl, hsz, hP, hK, hD0⟩ := hv
  have hx := B.exec
  have hb := B.bytes
  have hr := B.returns
  have hts := atoms_spec (ws := (jk yX12_linesInRow cX12_linesInRow 4 (some .int))) B.pre
  have hown : s.vm.findClass RX12 = some m.cls := findClass_of_methodNamed B.named
  have hlocks := B.notSynchronized
  subst hsz
  have hD := hD0
  generalize hAe : (va_A [] s.heap.size) = A
  have hA : ∀ q : Nat, s.heap.size ≤ q → A q := fun q h => by rw [← hAe]; exact Or.inr h
  have hS : va_S A s.heap s.heap [] := va_S.rf
  have hP : va_P (dC, dI) vwCl ((jS (xW ad ca) 18 (ad 18, .inr (6, [.ref (ad 11), .int 5, .int 0, .int 1, .int 1, .int 1])))) s.heap := hP
  have hl := lv_entry ([.ref (ad 0)]) (n := 4) (Nat.le_of_ble_eq_true rfl)
  rw [lg_entry_eq]
  generalize (lg_sl ([.ref (ad 0)]) ++ List.replicate (4 - (lg_sl ([.ref (ad 0)])).length) Slot.unset).toArray = ls at hl ⊢
  have hl : lv_has ls 4 [(0, .ref (ad 0))] := hl
  refine lv_iconst (v := 0) hx hb dX12_linesInRow_0 (by decide) ?_
  refine lv_istore_n (lv' := [(1, .int 0), (0, .ref (ad 0))]) hx hb dX12_linesInRow_1 rfl hl (by decide) rfl (fun ls hl => ?_)
  refine lv_iconst (v := 0) hx hb dX12_linesInRow_2 (by decide) ?_
  refine lv_istore_n (lv' := [(2, .int 0), (1, .int 0), (0, .ref (ad 0))]) hx hb dX12_linesInRow_3 rfl hl (by decide) rfl (fun ls hl => ?_)
  refine lv_iload_n hx hb dX12_linesInRow_4 rfl (lv_at hl 0 rfl) ?_
  refine lv_aload_n hx hb dX12_linesInRow_5 rfl (lv_at hl 2 rfl) ?_
  refine va_get (D := (dC, dI)) (ci := 12) (v := .int 0) (C := RX12) (T := TX12) (N := 20) hx hb hts (jh hin_RX12) hown hK hP 0 rfl rfl 9 (by decide) (hts (.fieldLink RX12 268 "BookOfAll" "rowSize" "I") (jm m_333)) (fun _ h9 => h9) rfl dX12_linesInRow_6 ?_
  refine lv_icmp_ge (tgt := 43) hx hb dX12_linesInRow_9 (by decide) (fun _ => ?_) (fun z => absurd (by decide) z)
  refine lv_iload_n hx hb dX12_linesInRow_43 rfl (lv_at hl 1 rfl) ?_
  exact W.iret (v := 0) hx hb hr (fun t ht hW => ⟨⟨0, (), rfl, rfl, trivial⟩, hS.F ht⟩) hS.2.2 dX12_linesInRow_44
set_option maxHeartbeats 500000 in
set_option maxRecDepth 100000 in
theorem kJ7_copyOf_59c91_8 (l : Launch) (dC : Nat → ClassId) (dI : Nat → Nat → Nat) (sz : Nat) (ad : Nat → Nat) (ca : Nat → ClassId) (w0 : Nat) (w1 : ClassId) : Met l yJ7_copyOf_59c91 (jk yJ7_copyOf_59c91 cJ7_copyOf_59c91 3 (some (.array .int))) ({ frames := 1, cells := 1, slots := 0, locals := 80 }) (va_Pc [.ref (ad 39), .int 0] (jw_P (dC, dI) ((jS (jA (jS (xW ad ca) 18 (ad 18, .inr (6, [.ref (ad 11), .int 5, .int 0, .int 1, .int 1, .int 1]))) [(w0, .inl (w1, 0, .inl (fun _ => 0)))]) 35 (ad 35, .inr (11, [.int 25, .int (-1), .ref (ad 36), .ref w0, .int 0, .int 0, .int 0])))) ((xT ca ++ [(w1, .int)])) sz)) (va_Qq (fun (r : Option Nat) (u : Nat × (Nat → Nat) × (Nat → ClassId)) => (u.1 = 0 ∧ r = some ((u.2.1 0)))) (fun u t => va_P (dC, dI) vwCl ((fun (u : Nat × (Nat → Nat) × (Nat → ClassId)) => (jS (jA (jS (jA (jS (xW ad ca) 18 (ad 18, .inr (6, [.ref (ad 11), .int 5, .int 0, .int 1, .int 1, .int 1]))) [(w0, .inl (w1, 0, .inl (fun _ => 0)))]) 35 (ad 35, .inr (11, [.int 25, .int (-1), .ref (ad 36), .ref w0, .int 0, .int 0, .int 0]))) [((u.2.1 0), .inl ((u.2.2 0), 0, .inl (fun _ => 0)))]) 74 ((u.2.1 0), .inl ((u.2.2 0), 0, .inl (va_cpy (fun _ => 0) (fun _ => 0) 0 0 0))))) u) t.heap ∧ va_K (dC, dI) vwCl ((fun (u : Nat × (Nat → Nat) × (Nat → ClassId)) => ((xT ca ++ [(w1, .int)]) ++ [((u.2.2 0), .int)])) u) t ∧ va_D (va_A ((jS (jA (jS (xW ad ca) 18 (ad 18, .inr (6, [.ref (ad 11), .int 5, .int 0, .int 1, .int 1, .int 1]))) [(w0, .inl (w1, 0, .inl (fun _ => 0)))]) 35 (ad 35, .inr (11, [.int 25, .int (-1), .ref (ad 36), .ref w0, .int 0, .int 0, .int 0])))) sz) ((fun (u : Nat × (Nat → Nat) × (Nat → ClassId)) => (jS (jA (jS (jA (jS (xW ad ca) 18 (ad 18, .inr (6, [.ref (ad 11), .int 5, .int 0, .int 1, .int 1, .int 1]))) [(w0, .inl (w1, 0, .inl (fun _ => 0)))]) 35 (ad 35, .inr (11, [.int 25, .int (-1), .ref (ad 36), .ref w0, .int 0, .int 0, .int 0]))) [((u.2.1 0), .inl ((u.2.2 0), 0, .inl (fun _ => 0)))]) 74 ((u.2.1 0), .inl ((u.2.2 0), 0, .inl (va_cpy (fun _ => 0) (fun _ => 0) 0 0 0))))) u)) (va_A ((jS (jA (jS (xW ad ca) 18 (ad 18, .inr (6, [.ref (ad 11), .int 5, .int 0, .int 1, .int 1, .int 1]))) [(w0, .inl (w1, 0, .inl (fun _ => 0)))]) 35 (ad 35, .inr (11, [.int 25, .int (-1), .ref (ad 36), .ref w0, .int 0, .int 0, .int 0])))) sz)) 1 0 (va_A ((jS (jA (jS (xW ad ca) 18 (ad 18, .inr (6, [.ref (ad 11), .int 5, .int 0, .int 1, .int 1, .int 1]))) [(w0, .inl (w1, 0, .inl (fun _ => 0)))]) 35 (ad 35, .inr (11, [.int 25, .int (-1), .ref (ad 36), .ref w0, .int 0, .int 0, .int 0])))) sz) := by
  sorry
set_option maxHeartbeats 500000 in
set_option maxRecDepth 100000 in
theorem kX12_lay_12 (l : Launch) (dC : Nat → ClassId) (dI : Nat → Nat → Nat) (sz : Nat) (ad : Nat → Nat) (ca : Nat → ClassId) : Met l yX12_lay (jk yX12_lay cX12_lay 5 none) ({ frames := 2, cells := 2, slots := 0, locals := 102 }) (va_Pc [.ref (ad 0), .ref (ad 35), .int 5] (jw_P (dC, dI) ((jS (xW ad ca) 18 (ad 18, .inr (6, [.ref (ad 11), .int 5, .int 0, .int 1, .int 1, .int 1])))) (xT ca) sz)) (va_Qv (fun (u : Nat × (Nat → Nat) × (Nat → ClassId)) => (u.1 = 0)) (fun u t => va_P (dC, dI) vwCl ((fun (u : Nat × (Nat → Nat) × (Nat → ClassId)) => (jS (jS (jS (jS (jA (jS (jA (jS (xW ad ca) 18 (ad 18, .inr (6, [.ref (ad 11), .int 5, .int 0, .int 1, .int 1, .int 1]))) [((u.2.1 0), .inl ((u.2.2 0), 0, .inl (fun _ => 0)))]) 35 (ad 35, .inr (11, [.int 25, .int (-1), .ref (ad 36), .ref (u.2.1 0), .int 0, .int 0, .int 0]))) [((u.2.1 1), .inl ((u.2.2 1), 0, .inl (fun _ => 0)))]) 74 ((u.2.1 1), .inl ((u.2.2 1), 0, .inl (va_cpy (fun _ => 0) (fun _ => 0) 0 0 0)))) 35 (ad 35, .inr (11, [.int 25, .int (-1), .ref ((u.2.1 1)), .ref (u.2.1 0), .int 0, .int 0, .int 0]))) 35 (ad 35, .inr (11, [.int 25, .int 0, .ref ((u.2.1 1)), .ref (u.2.1 0), .int 0, .int 0, .int 0]))) 0 (ad 0, .inr (12, [.int 0, .int 32, .ref (ad 1), .ref (ad 11), .ref (ad 18), .ref (ad 19), .ref (ad 38), .int 0, .ref (ad 39), .int 0, .ref (ad 40), .int 0, .ref (ad 41), .int 0, .ref (ad 42), .ref (ad 53), .ref (ad 54), .ref (ad 55), .ref (ad 61), .ref (ad 70)])))) u) t.heap ∧ va_K (dC, dI) vwCl ((fun (u : Nat × (Nat → Nat) × (Nat → ClassId)) => (xT ca ++ [((u.2.2 0), .int), ((u.2.2 1), .int)])) u) t ∧ va_D (va_A ((jS (xW ad ca) 18 (ad 18, .inr (6, [.ref (ad 11), .int 5, .int 0, .int 1, .int 1, .int 1])))) sz) ((fun (u : Nat × (Nat → Nat) × (Nat → ClassId)) => (jS (jS (jS (jS (jA (jS (jA (jS (xW ad ca) 18 (ad 18, .inr (6, [.ref (ad 11), .int 5, .int 0, .int 1, .int 1, .int 1]))) [((u.2.1 0), .inl ((u.2.2 0), 0, .inl (fun _ => 0)))]) 35 (ad 35, .inr (11, [.int 25, .int (-1), .ref (ad 36), .ref (u.2.1 0), .int 0, .int 0, .int 0]))) [((u.2.1 1), .inl ((u.2.2 1), 0, .inl (fun _ => 0)))]) 74 ((u.2.1 1), .inl ((u.2.2 1), 0, .inl (va_cpy (fun _ => 0) (fun _ => 0) 0 0 0)))) 35 (ad 35, .inr (11, [.int 25, .int (-1), .ref ((u.2.1 1)), .ref (u.2.1 0), .int 0, .int 0, .int 0]))) 35 (ad 35, .inr (11, [.int 25, .int 0, .ref ((u.2.1 1)), .ref (u.2.1 0), .int 0, .int 0, .int 0]))) 0 (ad 0, .inr (12, [.int 0, .int 32, .ref (ad 1), .ref (ad 11), .ref (ad 18), .ref (ad 19), .ref (ad 38), .int 0, .ref (ad 39), .int 0, .ref (ad 40), .int 0, .ref (ad 41), .int 0, .ref (ad 42), .ref (ad 53), .ref (ad 54), .ref (ad 55), .ref (ad 61), .ref (ad 70)])))) u)) (va_A ((jS (xW ad ca) 18 (ad 18, .inr (6, [.ref (ad 11), .int 5, .int 0, .int 1, .int 1, .int 1])))) sz)) 2 0 (va_A ((jS (xW ad ca) 18 (ad 18, .inr (6, [.ref (ad 11), .int 5, .int 0, .int 1, .int 1, .int 1])))) sz) := by
  sorry
theorem s_tX12_set_v5_0  : 0 = sp_set 5 := by
  unfold sp_set
  rw [show (5 : Int32).toInt = 5 from rfl]
  split <;> first | rfl | (exfalso; omega)
set_option maxHeartbeats 500000 in
set_option maxRecDepth 100000 in
theorem tX12_set_v5 (l : Launch) (dC : Nat → ClassId) (dI : Nat → Nat → Nat) (sz : Nat) (ad : Nat → Nat) (ca : Nat → ClassId) (tW : Nat) : Met l yX12_set (jk yX12_set cX12_set 3 (some .int)) ({ frames := 4, cells := 2, slots := 0, locals := 126 }) (va_Pc [.ref (ad 0), .int 5] (jw_PZ (dC, dI) (xW ad ca) (xT ca) sz tW)) (va_Qi (fun (r : Int32) (_ : Unit) => r = sp_set 5) (fun _ _ => True) (va_A (xW ad ca) sz)) 2 0 (va_A (xW ad ca) sz) := by
  sorry
theorem s_tX12_set_lo_0 {p1 : Int32} (fh_p1 : p1 ≤ (-1)) : (-1) = sp_set p1 := by
  unfold sp_set
  have g0 : p1.toInt ≤ (-1) := ji_le.mp fh_p1
  split <;> first | rfl | (exfalso; omega)
set_option maxHeartbeats 500000 in
set_option maxRecDepth 100000 in
theorem tX12_set_lo (l : Launch) (dC : Nat → ClassId) (dI : Nat → Nat → Nat) (sz : Nat) (ad : Nat → Nat) (ca : Nat → ClassId) (p1 : Int32) (fh_p1 : p1 ≤ (-1)) : Met l yX12_set (jk yX12_set cX12_set 3 (some .int)) ({ frames := 2, cells := 0, slots := 0, locals := 42 }) (va_Pc [.ref (ad 0), .int p1] (jw_P (dC, dI) (xW ad ca) (xT ca) sz)) (va_Qi (fun (r : Int32) (_ : Unit) => r = sp_set p1) (fun _ _ => True) (va_A [] sz)) 0 0 (va_A [] sz) := by
  refine Met.ofW (cc := cX12_set) (maxL := 3) (ret := (some .int)) (by decide) rfl ?_
  intro p e s m args below meth c s₁ B hml hv
  obtain ⟨rfl, hsz, hP, hK, hD0⟩ := hv
  have hx := B.exec
  have hb := B.bytes
  have hr := B.returns
  have hts := atoms_spec (ws := (jk yX12_set cX12_set 3 (some .int))) B.pre
  have hown : s.vm.findClass RX12 = some m.cls := findClass_of_methodNamed B.named
  have hlocks := B.notSynchronized
  subst hsz
  have hD := hD0
  generalize hAe : (va_A [] s.heap.size) = A
  have hA : ∀ q : Nat, s.heap.size ≤ q → A q := fun q h => by rw [← hAe]; exact Or.inr h
  have hS : va_S A s.heap s.heap [] := va_S.rf
  have hP : va_P (dC, dI) vwCl (xW ad ca) s.heap := hP
  have hl := lv_entry ([.ref (ad 0), .int p1]) (n := 3) (Nat.le_of_ble_eq_true rfl)
  rw [lg_entry_eq]
  generalize (lg_sl ([.ref (ad 0), .int p1]) ++ List.replicate (3 - (lg_sl ([.ref (ad 0), .int p1])).length) Slot.unset).toArray = ls at hl ⊢
  have hl : lv_has ls 3 [(0, .ref (ad 0)), (1, .int p1)] := hl
  refine lv_aload_n hx hb dX12_set_0 rfl (lv_at hl 0 rfl) ?_
  refine lv_iload_n hx hb dX12_set_1 rfl (lv_at hl 1 rfl) ?_
  refine jc_q (va_runV (As := [.int p1]) (rest := []) ⟨hx, hb, hml, hown, hts⟩ (kX12_volumeAt_23 l dC dI _ ad ca p1 fh_p1) (cwV 1 hts (jgoodV m_232 m_233 m_234 m_210 m_235) rfl rfl rfl (by decide +kernel) ⟨Nat.le_of_ble_eq_true rfl, Nat.le_of_ble_eq_true rfl⟩) ⟨jw_blind, va_recv hK hP (ci := 12) (q0 := 0) rfl rfl, fun U hU hW => ⟨rfl, jw_of hU hW hP hK hD⟩⟩ rfl rfl hl.1 rfl (lv_room (Nat.le_of_ble_eq_true rfl)) dX12_set_2 ⟨Nat.le_of_ble_eq_true rfl, Nat.le_of_ble_eq_true rfl⟩) hP hS hA (fun r_1 H locs hw_1 hP hS => ?_)
  have hw_1 : none = r_1 := Eq.symm hw_1
  subst hw_1
  refine jt_q Value.null rfl ?_
  refine lv_astore_nN (lv' := [(2, .null), (0, .ref (ad 0)), (1, .int p1)]) hx hb dX12_set_5 rfl hl (by decide) rfl (fun ls hl => ?_)
  refine lv_aload_nN hx hb dX12_set_6 rfl (lv_at hl 0 rfl) ?_
  refine lv_ifnullN (tgt := 18) hx hb dX12_set_7 (by decide) ?_
  refine lv_iconst (v := (-1)) hx hb dX12_set_18 (by decide) ?_
  exact W.iret (v := (-1)) hx hb hr (fun t ht hW => ⟨⟨(-1), (), rfl, (s_tX12_set_lo_0 (p1 := p1) fh_p1), trivial⟩, hS.F ht⟩) hS.2.2 dX12_set_19
theorem s_tX12_set_hi_0 {p1 : Int32} (fl_p1 : 6 ≤ p1) : (-1) = sp_set p1 := by
  unfold sp_set
  have g0 : 6 ≤ p1.toInt := ji_le.mp fl_p1
  split <;> first | rfl | (exfalso; omega)
set_option maxHeartbeats 500000 in
set_option maxRecDepth 100000 in
theorem tX12_set_hi (l : Launch) (dC : Nat → ClassId) (dI : Nat → Nat → Nat) (sz : Nat) (ad : Nat → Nat) (ca : Nat → ClassId) (p1 : Int32) (fl_p1 : 6 ≤ p1) : Met l yX12_set (jk yX12_set cX12_set 3 (some .int)) ({ frames := 2, cells := 0, slots := 0, locals := 42 }) (va_Pc [.ref (ad 0), .int p1] (jw_P (dC, dI) (xW ad ca) (xT ca) sz)) (va_Qi (fun (r : Int32) (_ : Unit) => r = sp_set p1) (fun _ _ => True) (va_A [] sz)) 0 0 (va_A [] sz) := by
  refine Met.ofW (cc := cX12_set) (maxL := 3) (ret := (some .int)) (by decide) rfl ?_
  intro p e s m args below meth c s₁ B hml hv
  obtain ⟨rfl, hsz, hP, hK, hD0⟩ := hv
  have hx := B.exec
  have hb := B.bytes
  have hr := B.returns
  have hts := atoms_spec (ws := (jk yX12_set cX12_set 3 (some .int))) B.pre
  have hown : s.vm.findClass RX12 = some m.cls := findClass_of_methodNamed B.named
  have hlocks := B.notSynchronized
  subst hsz
  have hD := hD0
  generalize hAe : (va_A [] s.heap.size) = A
  have hA : ∀ q : Nat, s.heap.size ≤ q → A q := fun q h => by rw [← hAe]; exact Or.inr h
  have hS : va_S A s.heap s.heap [] := va_S.rf
  have hP : va_P (dC, dI) vwCl (xW ad ca) s.heap := hP
  have hl := lv_entry ([.ref (ad 0), .int p1]) (n := 3) (Nat.le_of_ble_eq_true rfl)
  rw [lg_entry_eq]
  generalize (lg_sl ([.ref (ad 0), .int p1]) ++ List.replicate (3 - (lg_sl ([.ref (ad 0), .int p1])).length) Slot.unset).toArray = ls at hl ⊢
  have hl : lv_has ls 3 [(0, .ref (ad 0)), (1, .int p1)] := hl
  refine lv_aload_n hx hb dX12_set_0 rfl (lv_at hl 0 rfl) ?_
  refine lv_iload_n hx hb dX12_set_1 rfl (lv_at hl 1 rfl) ?_
  refine jc_q (va_runV (As := [.int p1]) (rest := []) ⟨hx, hb, hml, hown, hts⟩ (kX12_volumeAt_25 l dC dI _ ad ca p1 fl_p1) (cwV 1 hts (jgoodV m_232 m_233 m_234 m_210 m_235) rfl rfl rfl (by decide +kernel) ⟨Nat.le_of_ble_eq_true rfl, Nat.le_of_ble_eq_true rfl⟩) ⟨jw_blind, va_recv hK hP (ci := 12) (q0 := 0) rfl rfl, fun U hU hW => ⟨rfl, jw_of hU hW hP hK hD⟩⟩ rfl rfl hl.1 rfl (lv_room (Nat.le_of_ble_eq_true rfl)) dX12_set_2 ⟨Nat.le_of_ble_eq_true rfl, Nat.le_of_ble_eq_true rfl⟩) hP hS hA (fun r_1 H locs hw_1 hP hS => ?_)
  have hw_1 : none = r_1 := Eq.symm hw_1
  subst hw_1
  refine jt_q Value.null rfl ?_
  refine lv_astore_nN (lv' := [(2, .null), (0, .ref (ad 0)), (1, .int p1)]) hx hb dX12_set_5 rfl hl (by decide) rfl (fun ls hl => ?_)
  refine lv_aload_nN hx hb dX12_set_6 rfl (lv_at hl 0 rfl) ?_
  refine lv_ifnullN (tgt := 18) hx hb dX12_set_7 (by decide) ?_
  refine lv_iconst (v := (-1)) hx hb dX12_set_18 (by decide) ?_
  exact W.iret (v := (-1)) hx hb hr (fun t ht hW => ⟨⟨(-1), (), rfl, (s_tX12_set_hi_0 (p1 := p1) fl_p1), trivial⟩, hS.F ht⟩) hS.2.2 dX12_set_19
set_option maxHeartbeats 500000 in
set_option maxRecDepth 100000 in
theorem tX12_page (l : Launch) (dC : Nat → ClassId) (dI : Nat → Nat → Nat) (sz : Nat) (ad : Nat → Nat) (ca : Nat → ClassId) (p1 : Int32) : Met l yX12_page (jk yX12_page cX12_page 3 (some .int)) ({ frames := 1, cells := 0, slots := 0, locals := 21 }) (va_Pc [.ref (ad 0), .int p1] (jw_P (dC, dI) (xW ad ca) (xT ca) sz)) (va_Qi (fun (r : Int32) (_ : Unit) => (r = (-1))) (fun _ _ => True) (va_A [] sz)) 0 0 (va_A [] sz) := by
  refine Met.ofW (cc := cX12_page) (maxL := 3) (ret := (some .int)) (by decide) rfl ?_
  intro p e s m args below meth c s₁ B hml hv
  obtain ⟨rfl, hsz, hP, hK, hD0⟩ := hv
  have hx := B.exec
  have hb := B.bytes
  have hr := B.returns
  have hts := atoms_spec (ws := (jk yX12_page cX12_page 3 (some .int))) B.pre
  have hown : s.vm.findClass RX12 = some m.cls := findClass_of_methodNamed B.named
  have hlocks := B.notSynchronized
  subst hsz
  have hD := hD0
  generalize hAe : (va_A [] s.heap.size) = A
  have hA : ∀ q : Nat, s.heap.size ≤ q → A q := fun q h => by rw [← hAe]; exact Or.inr h
  have hS : va_S A s.heap s.heap [] := va_S.rf
  have hP : va_P (dC, dI) vwCl (xW ad ca) s.heap := hP
  have hl := lv_entry ([.ref (ad 0), .int p1]) (n := 3) (Nat.le_of_ble_eq_true rfl)
  rw [lg_entry_eq]
  generalize (lg_sl ([.ref (ad 0), .int p1]) ++ List.replicate (3 - (lg_sl ([.ref (ad 0), .int p1])).length) Slot.unset).toArray = ls at hl ⊢
  have hl : lv_has ls 3 [(0, .ref (ad 0)), (1, .int p1)] := hl
  refine lv_aload_n hx hb dX12_page_0 rfl (lv_at hl 0 rfl) ?_
  refine lv_iload_n hx hb dX12_page_1 rfl (lv_at hl 1 rfl) ?_
  refine jc_q (va_runV (As := [.int p1]) (rest := []) ⟨hx, hb, hml, hown, hts⟩ (kX12_entryAt_2 l dC dI _ ad ca p1) (cwV 1 hts (jgoodV m_316 m_317 m_318 m_210 m_319) rfl rfl rfl (by decide +kernel) ⟨Nat.le_of_ble_eq_true rfl, Nat.le_of_ble_eq_true rfl⟩) ⟨jw_blind, va_recv hK hP (ci := 12) (q0 := 0) rfl rfl, fun U hU hW => ⟨rfl, jw_of hU hW hP hK hD⟩⟩ rfl rfl hl.1 rfl (lv_room (Nat.le_of_ble_eq_true rfl)) dX12_page_2 ⟨Nat.le_of_ble_eq_true rfl, Nat.le_of_ble_eq_true rfl⟩) hP hS hA (fun r_1 H locs hw_1 hP hS => ?_)
  have hw_1 : none = r_1 := Eq.symm hw_1
  subst hw_1
  refine jt_q Value.null rfl ?_
  refine lv_astore_nN (lv' := [(2, .null), (0, .ref (ad 0)), (1, .int p1)]) hx hb dX12_page_5 rfl hl (by decide) rfl (fun ls hl => ?_)
  refine lv_aload_nN hx hb dX12_page_6 rfl (lv_at hl 0 rfl) ?_
  refine lv_ifnonnullN hx hb dX12_page_7 ?_
  refine lv_iconst (v := (-1)) hx hb dX12_page_10 (by decide) ?_
  refine lv_goto (tgt := 22) hx hb dX12_page_11 (by decide) ?_
  exact W.iret (v := (-1)) hx hb hr (fun t ht hW => ⟨⟨(-1), (), rfl, rfl, trivial⟩, hS.F ht⟩) hS.2.2 dX12_page_22
