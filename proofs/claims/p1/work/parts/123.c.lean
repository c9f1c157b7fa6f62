set_option maxHeartbeats 500000 in
set_option maxRecDepth 100000 in
theorem kX12_rowMayBeSet_4 (l : Launch) (dC : Nat → ClassId) (dI : Nat → Nat → Nat) (sz : Nat) (ad : Nat → Nat) (ca : Nat → ClassId) : Met l yX12_rowMayBeSet (jk yX12_rowMayBeSet cX12_rowMayBeSet 3 (some .boolean)) ({ frames := 0, cells := 0, slots := 0, locals := 0 }) (va_Pc [.ref (ad 0)] (jw_P (dC, dI) ((jS (xW ad ca) 18 (ad 18, .inr (6, [.ref (ad 11), .int 2, .int 0, .int 1, .int 1, .int 1])))) (xT ca) sz)) (va_Qi (fun (r : Int32) (_ : Unit) => (r = 1)) (fun _ _ => True) (va_A [] sz)) 0 0 (va_A [] sz) := by
  refine Met.ofW (cc := cX12_rowMayBeSet) (maxL := 3) (ret := (some .boolean)) (by decide) rfl ?_
  intro p e s m args below meth c s₁ B hml hv
  obtain ⟨rfl, hsz, hP, hK, hD0⟩ := hv
  have hx := B.exec
  have hb := B.bytes
  have hr := B.returns
  have hts := atoms_spec (ws := (jk yX12_rowMayBeSet cX12_rowMayBeSet 3 (some .boolean))) B.pre
  have hown : s.vm.findClass RX12 = some m.cls := findClass_of_methodNamed B.named
  have hlocks := B.notSynchronized
  subst hsz
  have hD := hD0
  generalize hAe : (va_A [] s.heap.size) = A
  have hA : ∀ q : Nat, s.heap.size ≤ q → A q := fun q h => by rw [← hAe]; exact Or.inr h
  have hS : va_S A s.heap s.heap [] := va_S.rf
  have hP : va_P (dC, dI) vwCl ((jS (xW ad ca) 18 (ad 18, .inr (6, [.ref (ad 11), .int 2, .int 0, .int 1, .int 1, .int 1])))) s.heap := hP
  have hl := lv_entry ([.ref (ad 0)]) (n := 3) (Nat.le_of_ble_eq_true rfl)
  rw [lg_entry_eq]
  generalize (lg_sl ([.ref (ad 0)]) ++ List.replicate (3 - (lg_sl ([.ref (ad 0)])).length) Slot.unset).toArray = ls at hl ⊢
  have hl : lv_has ls 3 [(0, .ref (ad 0))] := hl
  refine lv_iconst (v := 0) hx hb dX12_rowMayBeSet_0 (by decide) ?_
  refine lv_istore_n (lv' := [(1, .int 0), (0, .ref (ad 0))]) hx hb dX12_rowMayBeSet_1 rfl hl (by decide) rfl (fun ls hl => ?_)
  refine lv_iload_n hx hb dX12_rowMayBeSet_2 rfl (lv_at hl 0 rfl) ?_
  refine lv_aload_n hx hb dX12_rowMayBeSet_3 rfl (lv_at hl 1 rfl) ?_
  refine va_get (D := (dC, dI)) (ci := 12) (v := .int 0) (C := RX12) (T := TX12) (N := 20) hx hb hts (jh hin_RX12) hown hK hP 0 rfl rfl 9 (by decide) (hts (.fieldLink RX12 268 "BookOfAll" "rowSize" "I") (jm m_333)) (fun _ h9 => h9) rfl dX12_rowMayBeSet_4 ?_
  refine lv_icmp_ge (tgt := 66) hx hb dX12_rowMayBeSet_7 (by decide) (fun _ => ?_) (fun z => absurd (by decide) z)
  refine lv_iconst (v := 1) hx hb dX12_rowMayBeSet_66 (by decide) ?_
  exact W.zret (v := 1) (ty := .boolean) hx hb hr rfl (fun t ht hW => ⟨⟨1, (), rfl, rfl, trivial⟩, hS.F ht⟩) hS.2.2 dX12_rowMayBeSet_67
set_option maxHeartbeats 500000 in
set_option maxRecDepth 100000 in
theorem kX12_linesInRow_4 (l : Launch) (dC : Nat → ClassId) (dI : Nat → Nat → Nat) (sz : Nat) (ad : Nat → Nat) (ca : Nat → ClassId) : Met l yX12_linesInRow (jk yX12_linesInRow cX12_linesInRow 4 (some .int)) ({ frames := 0, cells := 0, slots := 0, locals := 0 }) (va_Pc [.ref (ad 0)] (jw_P (dC, dI) ((jS (xW ad ca) 18 (ad 18, .inr (6, [.ref (ad 11), .int 2, .int 0, .int 1, .int 1, .int 1])))) (xT ca) sz)) (va_Qi (fun (r : Int32) (_ : Unit) => (r = 0)) (fun _ _ => True) (va_A [] sz)) 0 0 (va_A [] sz) := by
  refine Met.ofW (cc := cX12_linesInRow) (maxL := 4) (ret := (some .int)) (by decide) rfl ?_
  intro p e s m args below meth c s₁ B hml hv
  obtain ⟨rfl, hsz, hP, hK, hD0⟩ := hv
  have hx := B.exec
  have hb := B.bytes
  have hr := B.returns
  have hts := atoms_spec (ws := (jk yX12_linesInRow cX12_linesInRow 4 (some .int))) B.pre
  have hown : s.vm.findClass RX12 = some m.cls := findClass_of_methodNamed B.named
  have hlocks := B.notSynchronized
  subst hsz
  have hD := hD0
  generalize hAe : (va_A [] s.heap.size) = A
  have hA : ∀ q : Nat, s.heap.size ≤ q → A q := fun q h => by rw [← hAe]; exact Or.inr h
  have hS : va_S A s.heap s.heap [] := va_S.rf
  have hP : va_P (dC, dI) vwCl ((jS (xW ad ca) 18 (ad 18, .inr (6, [.ref (ad 11), .int 2, .int 0, .int 1, .int 1, .int 1])))) s.heap := hP
  have hl := lv_entry ([.ref (ad 0)]) (n := 4) (Nat.le_of_ble_eq_true rfl)
  rw [lg_entry_eq]
  generalize (lg_sl ([.ref (ad 0)]) ++ List.replicate (4 - (lg_sl ([.ref (ad 0)])).length) Slot.unset).toArray = ls at hl ⊢
  have hl : lv_has ls 4 [(0, .ref (ad 0))] := hl
  refine lv_iconst (v := 0) hx hb dX12_linesInRow_0 (by decide) ?_
  refine lv_istore_n (lv' := [(1, .int 0), (0, .ref (ad 0))]) hx hb dX12_linesInRow_1 rfl hl (by decide) rfl (fun ls hl => ?_)
  refine lv_iconst (v := 0) hx hb dX12_linesInRow_2 (by decide) ?_
  refine lv_istore_n (lv' := [(2, .int 0), (1, .int 0), (0, .ref (ad 0))]) hx hb dX12_linesInRow_3 rfl hl (by decide) rfl (fun ls hl => ?_)
  refine lv_iload_n hx hb dX12_linesInRow_4 rfl (lv_at hl 0 rfl) ?_
  refine lv_aload_n hx hb dX12_linesInRow_5 rfl (lv_at hl 2 rfl) ?_
  refine va_get (D := (dC, dI)) (ci := 12) (v := .int 0) (C := RX12) (T := TX12) (N := 20) hx hb hts (jh hin_RX12) hown hK hP 0 rfl rfl 9 (by decide) (hts (.fieldLink RX12 268 "BookOfAll" "rowSize" "I") (jm m_333)) (fun _ h9 => h9) rfl dX12_linesInRow_6 ?_
  refine lv_icmp_ge (tgt := 43) hx hb dX12_linesInRow_9 (by decide) (fun _ => ?_) (fun z => absurd (by decide) z)
  refine lv_iload_n hx hb dX12_linesInRow_43 rfl (lv_at hl 1 rfl) ?_
  exact W.iret (v := 0) hx hb hr (fun t ht hW => ⟨⟨0, (), rfl, rfl, trivial⟩, hS.F ht⟩) hS.2.2 dX12_linesInRow_44
set_option maxHeartbeats 1000000 in
set_option maxRecDepth 100000 in
theorem kJ7_copyOf_59c91_5 (l : Launch) (dC : Nat → ClassId) (dI : Nat → Nat → Nat) (sz : Nat) (ad : Nat → Nat) (ca : Nat → ClassId) (w0 : Nat) (w1 : ClassId) : Met l yJ7_copyOf_59c91 (jk yJ7_copyOf_59c91 cJ7_copyOf_59c91 3 (some (.array .int))) ({ frames := 1, cells := 1, slots := 0, locals := 80 }) (va_Pc [.ref (ad 39), .int 0] (jw_P (dC, dI) ((jS (jA (jS (xW ad ca) 18 (ad 18, .inr (6, [.ref (ad 11), .int 2, .int 0, .int 1, .int 1, .int 1]))) [(w0, .inl (w1, 0, .inl (fun _ => 0)))]) 26 (ad 26, .inr (11, [.int 14, .int (-1), .ref (ad 27), .ref w0, .int 0, .int 0, .int 0])))) ((xT ca ++ [(w1, .int)])) sz)) (va_Qq (fun (r : Option Nat) (u : Nat × (Nat → Nat) × (Nat → ClassId)) => (u.1 = 0 ∧ r = some ((u.2.1 0)))) (fun u t => va_P (dC, dI) vwCl ((fun (u : Nat × (Nat → Nat) × (Nat → ClassId)) => (jS (jA (jS (jA (jS (xW ad ca) 18 (ad 18, .inr (6, [.ref (ad 11), .int 2, .int 0, .int 1, .int 1, .int 1]))) [(w0, .inl (w1, 0, .inl (fun _ => 0)))]) 26 (ad 26, .inr (11, [.int 14, .int (-1), .ref (ad 27), .ref w0, .int 0, .int 0, .int 0]))) [((u.2.1 0), .inl ((u.2.2 0), 0, .inl (fun _ => 0)))]) 74 ((u.2.1 0), .inl ((u.2.2 0), 0, .inl (va_cpy (fun _ => 0) (fun _ => 0) 0 0 0))))) u) t.heap ∧ va_K (dC, dI) vwCl ((fun (u : Nat × (Nat → Nat) × (Nat → ClassId)) => ((xT ca ++ [(w1, .int)]) ++ [((u.2.2 0), .int)])) u) t ∧ va_D (va_A ((jS (jA (jS (xW ad ca) 18 (ad 18, .inr (6, [.ref (ad 11), .int 2, .int 0, .int 1, .int 1, .int 1]))) [(w0, .inl (w1, 0, .inl (fun _ => 0)))]) 26 (ad 26, .inr (11, [.int 14, .int (-1), .ref (ad 27), .ref w0, .int 0, .int 0, .int 0])))) sz) ((fun (u : Nat × (Nat → Nat) × (Nat → ClassId)) => (jS (jA (jS (jA (jS (xW ad ca) 18 (ad 18, .inr (6, [.ref (ad 11), .int 2, .int 0, .int 1, .int 1, .int 1]))) [(w0, .inl (w1, 0, .inl (fun _ => 0)))]) 26 (ad 26, .inr (11, [.int 14, .int (-1), .ref (ad 27), .ref w0, .int 0, .int 0, .int 0]))) [((u.2.1 0), .inl ((u.2.2 0), 0, .inl (fun _ => 0)))]) 74 ((u.2.1 0), .inl ((u.2.2 0), 0, .inl (va_cpy (fun _ => 0) (fun _ => 0) 0 0 0))))) u)) (va_A ((jS (jA (jS (xW ad ca) 18 (ad 18, .inr (6, [.ref (ad 11), .int 2, .int 0, .int 1, .int 1, .int 1]))) [(w0, .inl (w1, 0, .inl (fun _ => 0)))]) 26 (ad 26, .inr (11, [.int 14, .int (-1), .ref (ad 27), .ref w0, .int 0, .int 0, .int 0])))) sz)) 1 0 (va_A ((jS (jA (jS (xW ad ca) 18 (ad 18, .inr (6, [.ref (ad 11), .int 2, .int 0, .int 1, .int 1, .int 1]))) [(w0, .inl (w1, 0, .inl (fun _ => 0)))]) 26 (ad 26, .inr (11, [.int 14, .int (-1), .ref (ad 27), .ref w0, .int 0, .int 0, .int 0])))) sz) := by
  refine Met.ofW (cc := cJ7_copyOf_59c91) (maxL := 3) (ret := (some (.array .int))) (by decide) rfl ?_
  intro p e s m args below meth c s₁ B hml hv
  obtain ⟨rfl, hsz, hP, hK, hD0⟩ := hv
  have hx := B.exec
  have hb := B.bytes
  have hr := B.returns
  have hts := atoms_spec (ws := (jk yJ7_copyOf_59c91 cJ7_copyOf_59c91 3 (some (.array .int)))) B.pre
  have hown : s.vm.findClass RJ7 = some m.cls := findClass_of_methodNamed B.named
  have hlocks := B.notSynchronized
  subst hsz
  have hD := hD0.self (sz := s.heap.size)
  generalize hAe : (va_A ((jS (jA (jS (xW ad ca) 18 (ad 18, .inr (6, [.ref (ad 11), .int 2, .int 0, .int 1, .int 1, .int 1]))) [(w0, .inl (w1, 0, .inl (fun _ => 0)))]) 26 (ad 26, .inr (11, [.int 14, .int (-1), .ref (ad 27), .ref w0, .int 0, .int 0, .int 0])))) s.heap.size) = A at hD ⊢
  have hA : ∀ q : Nat, s.heap.size ≤ q → A q := fun q h => by rw [← hAe]; exact Or.inr h
  have hS : va_S A s.heap s.heap [] := va_S.rf
  have hP : va_P (dC, dI) vwCl ((jS (jA (jS (xW ad ca) 18 (ad 18, .inr (6, [.ref (ad 11), .int 2, .int 0, .int 1, .int 1, .int 1]))) [(w0, .inl (w1, 0, .inl (fun _ => 0)))]) 26 (ad 26, .inr (11, [.int 14, .int (-1), .ref (ad 27), .ref w0, .int 0, .int 0, .int 0])))) s.heap := hP
  have hl := lv_entry ([.ref (ad 39), .int 0]) (n := 3) (Nat.le_of_ble_eq_true rfl)
  rw [lg_entry_eq]
  generalize (lg_sl ([.ref (ad 39), .int 0]) ++ List.replicate (3 - (lg_sl ([.ref (ad 39), .int 0])).length) Slot.unset).toArray = ls at hl ⊢
  have hl : lv_has ls 3 [(0, .ref (ad 39)), (1, .int 0)] := hl
  refine lv_iload_n hx hb dJ7_copyOf_59c91_0 rfl (lv_at hl 1 rfl) ?_
  refine lv_aload_n hx hb dJ7_copyOf_59c91_1 rfl (lv_at hl 0 rfl) ?_
  refine va_alen (v := 60) hx hb hK hP 39 29 (jg_n (Nat.ne_of_beq_eq_false rfl) (jg_l (jg_n (Nat.ne_of_beq_eq_false rfl) rfl))) rfl (by decide) dJ7_copyOf_59c91_2 ?_
  refine lv_icmp_ne (tgt := 14) hx hb dJ7_copyOf_59c91_3 (by decide) (fun _ => ?_) (fun z => absurd z (by decide))
  refine lv_iload_n hx hb dJ7_copyOf_59c91_14 rfl (lv_at hl 1 rfl) ?_
  refine va_newa (atype := .int) (N' := 0) (a0 := (0, .inl (fun _ => 0))) (ty := .int) hx hb (hts (.arrayClass .int) (jm m_2)) rfl hK hP hD hS hA (fun _ => rfl) (by decide) (by decide) (by decide) (Nat.le_of_ble_eq_true rfl) (Nat.le_of_ble_eq_true rfl) dJ7_copyOf_59c91_15 (fun q1 y1 H hK hP hD hS => ?_)
  refine W.widen (k := 1) (n := 0) (Nat.le_of_ble_eq_true rfl) (Nat.le_of_ble_eq_true rfl) ?_
  refine lv_astore_n (lv' := [(2, .ref q1), (0, .ref (ad 39)), (1, .int 0)]) hx hb dJ7_copyOf_59c91_17 rfl hl (by decide) rfl (fun ls hl => ?_)
  refine lv_aload_n hx hb dJ7_copyOf_59c91_18 rfl (lv_at hl 1 rfl) ?_
  refine lv_iconst (v := 0) hx hb dJ7_copyOf_59c91_19 (by decide) ?_
  refine lv_aload_n hx hb dJ7_copyOf_59c91_20 rfl (lv_at hl 0 rfl) ?_
  refine lv_iconst (v := 0) hx hb dJ7_copyOf_59c91_21 (by decide) ?_
  refine lv_aload_n hx hb dJ7_copyOf_59c91_22 rfl (lv_at hl 1 rfl) ?_
  refine va_alen (v := 60) hx hb hK hP 39 29 (jg_l (jg_n (Nat.ne_of_beq_eq_false rfl) (jg_l (jg_n (Nat.ne_of_beq_eq_false rfl) rfl)))) rfl (by decide) dJ7_copyOf_59c91_23 ?_
  refine lv_iload_n hx hb dJ7_copyOf_59c91_24 rfl (lv_at hl 2 rfl) ?_
  refine va_mmin hx hb (by rw [hml]; exact hl.1.symm) hown (hts (.methodLink RJ7 304 Lib.Math.min.name) (jm m_172)) (hts (.static Lib.Math.min.name) (jm m_173)) (hts (.initialized "java/lang/Math") (jm m_170)) (hts (.code Lib.Math.min.name Lib.Math.min.code 2 (some .int)) (jm m_174)) (Nat.le_of_ble_eq_true rfl) (Nat.le_of_ble_eq_true rfl) (Nat.le_of_ble_eq_true rfl) (Nat.le_of_ble_eq_true rfl) dJ7_copyOf_59c91_25 ?_
  refine jt_i 0 (by decide) ?_
  refine va_copyi hx hb (by rw [hml]; exact hl.1.symm) hown (hts (.methodLink RJ7 150 arraycopyName) (jm m_175)) (hts (.native arraycopyName) (jm m_176)) (hts (.static arraycopyName) (jm m_177)) (hts (.initialized "java/lang/System") (jm m_178)) hK hP hD hS 39 74 29 60 (jg_l (jg_n (Nat.ne_of_beq_eq_false rfl) (jg_l (jg_n (Nat.ne_of_beq_eq_false rfl) rfl)))) (jg_r (n := 74) (i := 0) (jn_s (jn_a (n := 73) (m := 1) (jn_s rfl) rfl)) rfl rfl) rfl rfl rfl (by decide) (by decide) (by decide) (by decide) (by decide) (fun i h => absurd h (Nat.not_lt_zero i)) (Nat.le_of_ble_eq_true rfl) (by decide) dJ7_copyOf_59c91_28 (fun H locs hP hD hS => ?_)
  refine lv_aload_n hx hb dJ7_copyOf_59c91_31 rfl (lv_at hl 0 rfl) ?_
  refine W.widen (k := 1) (n := 0) (Nat.le_of_ble_eq_true rfl) (Nat.le_of_ble_eq_true rfl) ?_
  exact W.aret (v := .ref q1) hx hb hr (Or.inr ⟨_, rfl⟩) (Or.inr ⟨_, rfl⟩) (fun t ht hW => ⟨⟨some (q1), (0, fun k => [q1].getD k 0, fun k => [y1].getD k (dC 0)), rfl, ⟨rfl, rfl⟩, by rw [ht]; exact hP, va_K.moved hW.alike hK, hD⟩, hS.F ht⟩) hS.2.2 dJ7_copyOf_59c91_32
set_option maxHeartbeats 1000000 in
set_option maxRecDepth 100000 in
theorem kX12_lay_6 (l : Launch) (dC : Nat → ClassId) (dI : Nat → Nat → Nat) (sz : Nat) (ad : Nat → Nat) (ca : Nat → ClassId) : Met l yX12_lay (jk yX12_lay cX12_lay 5 none) ({ frames := 2, cells := 2, slots := 0, locals := 102 }) (va_Pc [.ref (ad 0), .ref (ad 26), .int 2] (jw_P (dC, dI) ((jS (xW ad ca) 18 (ad 18, .inr (6, [.ref (ad 11), .int 2, .int 0, .int 1, .int 1, .int 1])))) (xT ca) sz)) (va_Qv (fun (u : Nat × (Nat → Nat) × (Nat → ClassId)) => (u.1 = 0)) (fun u t => va_P (dC, dI) vwCl ((fun (u : Nat × (Nat → Nat) × (Nat → ClassId)) => (jS (jS (jS (jS (jA (jS (jA (jS (xW ad ca) 18 (ad 18, .inr (6, [.ref (ad 11), .int 2, .int 0, .int 1, .int 1, .int 1]))) [((u.2.1 0), .inl ((u.2.2 0), 0, .inl (fun _ => 0)))]) 26 (ad 26, .inr (11, [.int 14, .int (-1), .ref (ad 27), .ref (u.2.1 0), .int 0, .int 0, .int 0]))) [((u.2.1 1), .inl ((u.2.2 1), 0, .inl (fun _ => 0)))]) 74 ((u.2.1 1), .inl ((u.2.2 1), 0, .inl (va_cpy (fun _ => 0) (fun _ => 0) 0 0 0)))) 26 (ad 26, .inr (11, [.int 14, .int (-1), .ref ((u.2.1 1)), .ref (u.2.1 0), .int 0, .int 0, .int 0]))) 26 (ad 26, .inr (11, [.int 14, .int 0, .ref ((u.2.1 1)), .ref (u.2.1 0), .int 0, .int 0, .int 0]))) 0 (ad 0, .inr (12, [.int 0, .int 4, .ref (ad 1), .ref (ad 11), .ref (ad 18), .ref (ad 19), .ref (ad 38), .int 0, .ref (ad 39), .int 0, .ref (ad 40), .int 0, .ref (ad 41), .int 0, .ref (ad 42), .ref (ad 53), .ref (ad 54), .ref (ad 55), .ref (ad 61), .ref (ad 70)])))) u) t.heap ∧ va_K (dC, dI) vwCl ((fun (u : Nat × (Nat → Nat) × (Nat → ClassId)) => (xT ca ++ [((u.2.2 0), .int), ((u.2.2 1), .int)])) u) t ∧ va_D (va_A ((jS (xW ad ca) 18 (ad 18, .inr (6, [.ref (ad 11), .int 2, .int 0, .int 1, .int 1, .int 1])))) sz) ((fun (u : Nat × (Nat → Nat) × (Nat → ClassId)) => (jS (jS (jS (jS (jA (jS (jA (jS (xW ad ca) 18 (ad 18, .inr (6, [.ref (ad 11), .int 2, .int 0, .int 1, .int 1, .int 1]))) [((u.2.1 0), .inl ((u.2.2 0), 0, .inl (fun _ => 0)))]) 26 (ad 26, .inr (11, [.int 14, .int (-1), .ref (ad 27), .ref (u.2.1 0), .int 0, .int 0, .int 0]))) [((u.2.1 1), .inl ((u.2.2 1), 0, .inl (fun _ => 0)))]) 74 ((u.2.1 1), .inl ((u.2.2 1), 0, .inl (va_cpy (fun _ => 0) (fun _ => 0) 0 0 0)))) 26 (ad 26, .inr (11, [.int 14, .int (-1), .ref ((u.2.1 1)), .ref (u.2.1 0), .int 0, .int 0, .int 0]))) 26 (ad 26, .inr (11, [.int 14, .int 0, .ref ((u.2.1 1)), .ref (u.2.1 0), .int 0, .int 0, .int 0]))) 0 (ad 0, .inr (12, [.int 0, .int 4, .ref (ad 1), .ref (ad 11), .ref (ad 18), .ref (ad 19), .ref (ad 38), .int 0, .ref (ad 39), .int 0, .ref (ad 40), .int 0, .ref (ad 41), .int 0, .ref (ad 42), .ref (ad 53), .ref (ad 54), .ref (ad 55), .ref (ad 61), .ref (ad 70)])))) u)) (va_A ((jS (xW ad ca) 18 (ad 18, .inr (6, [.ref (ad 11), .int 2, .int 0, .int 1, .int 1, .int 1])))) sz)) 2 0 (va_A ((jS (xW ad ca) 18 (ad 18, .inr (6, [.ref (ad 11), .int 2, .int 0, .int 1, .int 1, .int 1])))) sz) := by
  refine Met.ofW (cc := cX12_lay) (maxL := 5) (ret := none) (by decide) rfl ?_
  intro p e s m args below meth c s₁ B hml hv
  obtain ⟨rfl, hsz, hP, hK, hD0⟩ := hv
  have hx := B.exec
  have hb := B.bytes
  have hr := B.returns
  have hts := atoms_spec (ws := (jk yX12_lay cX12_lay 5 none)) B.pre
  have hown : s.vm.findClass RX12 = some m.cls := findClass_of_methodNamed B.named
  have hlocks := B.notSynchronized
  subst hsz
  have hD := hD0.self (sz := s.heap.size)
  generalize hAe : (va_A ((jS (xW ad ca) 18 (ad 18, .inr (6, [.ref (ad 11), .int 2, .int 0, .int 1, .int 1, .int 1])))) s.heap.size) = A at hD ⊢
  have hA : ∀ q : Nat, s.heap.size ≤ q → A q := fun q h => by rw [← hAe]; exact Or.inr h
  have hS : va_S A s.heap s.heap [] := va_S.rf
  have hP : va_P (dC, dI) vwCl ((jS (xW ad ca) 18 (ad 18, .inr (6, [.ref (ad 11), .int 2, .int 0, .int 1, .int 1, .int 1])))) s.heap := hP
  have hl := lv_entry ([.ref (ad 0), .ref (ad 26), .int 2]) (n := 5) (Nat.le_of_ble_eq_true rfl)
  rw [lg_entry_eq]
  generalize (lg_sl ([.ref (ad 0), .ref (ad 26), .int 2]) ++ List.replicate (5 - (lg_sl ([.ref (ad 0), .ref (ad 26), .int 2])).length) Slot.unset).toArray = ls at hl ⊢
  have hl : lv_has ls 5 [(0, .ref (ad 0)), (1, .ref (ad 26)), (2, .int 2)] := hl
  refine lv_aload_n hx hb dX12_lay_0 rfl (lv_at hl 1 rfl) ?_
  refine lv_aload_n hx hb dX12_lay_1 rfl (lv_at hl 0 rfl) ?_
  refine jc_i (va_runV (As := []) (rest := [.ref (ad 26)]) ⟨hx, hb, hml, hown, hts⟩ (kX12_linesInRow_4 l dC dI _ ad ca) (cwV 0 hts (jgoodV m_398 m_399 m_400 m_210 m_401) rfl rfl rfl (by decide +kernel) ⟨Nat.le_of_ble_eq_true rfl, Nat.le_of_ble_eq_true rfl⟩) ⟨jw_blind, va_recv hK hP (ci := 12) (q0 := 0) rfl rfl, fun U hU hW => ⟨rfl, jw_of hU hW hP hK hD⟩⟩ rfl rfl hl.1 rfl (lv_room (Nat.le_of_ble_eq_true rfl)) dX12_lay_2 ⟨Nat.le_of_ble_eq_true rfl, Nat.le_of_ble_eq_true rfl⟩) hP hS hA (fun r_1 H locs hw_1 hP hS => ?_)
  have hw_1 : 0 = r_1 := Eq.symm hw_1
  subst hw_1
  refine va_newa (atype := .int) (N' := 0) (a0 := (0, .inl (fun _ => 0))) (ty := .int) hx hb (hts (.arrayClass .int) (jm m_2)) rfl hK hP hD hS hA (fun _ => rfl) (by decide) (by decide) (by decide) (Nat.le_of_ble_eq_true rfl) (Nat.le_of_ble_eq_true rfl) dX12_lay_5 (fun q1 y1 H hK hP hD hS => ?_)
  refine W.widen (k := 1) (n := 0) (Nat.le_of_ble_eq_true rfl) (Nat.le_of_ble_eq_true rfl) ?_
  refine va_put (D := (dC, dI)) (ci := 11) (v := .ref q1) (ty := .array .int) (C := RX11) (T := TX11) (N := 7) hx hb hts (jh hin_RX11) tyX11 tyX11_ok nmX11 hown hK hP hD hS 26 (jg_l (jg_n (Nat.ne_of_beq_eq_false rfl) rfl)) rfl 3 (by decide) (hts (.fieldLink RX12 458 "BookOfAll$Volume" "laid" "[I") (jm m_402)) (fun _ h9 => h9) rfl (by decide +kernel) rfl rfl (Nat.le_of_ble_eq_true rfl) dX12_lay_7 (fun H locs hP hD hS => ?_)
  refine lv_aload_n hx hb dX12_lay_10 rfl (lv_at hl 1 rfl) ?_
  refine lv_aload_n hx hb dX12_lay_11 rfl (lv_at hl 0 rfl) ?_
  refine va_get (D := (dC, dI)) (ci := 12) (v := .ref (ad 39)) (C := RX12) (T := TX12) (N := 20) hx hb hts (jh hin_RX12) hown hK hP 0 (jg_n (Nat.ne_of_beq_eq_false rfl) (jg_l (jg_n (Nat.ne_of_beq_eq_false rfl) rfl))) rfl 8 (by decide) (hts (.fieldLink RX12 47 "BookOfAll" "row" "[I") (jm m_403)) (fun _ h9 => h9) rfl dX12_lay_12 ?_
  refine lv_iconst (v := 0) hx hb dX12_lay_15 (by decide) ?_
  refine lv_aload_n hx hb dX12_lay_16 rfl (lv_at hl 0 rfl) ?_
  refine va_get (D := (dC, dI)) (ci := 12) (v := .int 0) (C := RX12) (T := TX12) (N := 20) hx hb hts (jh hin_RX12) hown hK hP 0 (jg_n (Nat.ne_of_beq_eq_false rfl) (jg_l (jg_n (Nat.ne_of_beq_eq_false rfl) rfl))) rfl 9 (by decide) (hts (.fieldLink RX12 268 "BookOfAll" "rowSize" "I") (jm m_333)) (fun _ h9 => h9) rfl dX12_lay_17 ?_
  refine va_mmax hx hb (by rw [hml]; exact hl.1.symm) hown (hts (.methodLink RX12 379 Lib.Math.max.name) (jm m_404)) (hts (.static Lib.Math.max.name) (jm m_169)) (hts (.initialized "java/lang/Math") (jm m_170)) (hts (.code Lib.Math.max.name Lib.Math.max.code 2 (some .int)) (jm m_171)) (Nat.le_of_ble_eq_true rfl) (Nat.le_of_ble_eq_true rfl) (Nat.le_of_ble_eq_true rfl) (Nat.le_of_ble_eq_true rfl) dX12_lay_20 ?_
  refine jt_i 0 (by decide) ?_
  refine jcg_q (va_runS (As := [.ref (ad 39), .int 0]) (rest := [.ref (ad 26)]) ⟨hx, hb, hml, hown, hts⟩ (kJ7_copyOf_59c91_5 l dC dI _ ad ca q1 y1) (va_cwS 2 hts (jgoodS m_405 m_180 m_142 m_181) rfl rfl rfl (by decide +kernel) ⟨Nat.le_of_ble_eq_true rfl, Nat.le_of_ble_eq_true rfl⟩) ⟨jw_blind, fun U hU hW => ⟨rfl, jw_of hU hW hP hK hD⟩⟩ rfl rfl hl.1 rfl (lv_room (Nat.le_of_ble_eq_true rfl)) dX12_lay_23 ⟨Nat.le_of_ble_eq_true rfl, Nat.le_of_ble_eq_true rfl⟩) hD hS hA (fun r_2 u_2 H locs hw_2 hP hK hD hS => ?_)
  obtain ⟨w_2, a_2, y_2⟩ := u_2
  obtain ⟨rfl, rfl⟩ : w_2 = 0 ∧ r_2 = some ((a_2 0)) := hw_2
  have hP : va_P (dC, dI) vwCl ((jS (jA (jS (jA (jS (xW ad ca) 18 (ad 18, .inr (6, [.ref (ad 11), .int 2, .int 0, .int 1, .int 1, .int 1]))) [(q1, .inl (y1, 0, .inl (fun _ => 0)))]) 26 (ad 26, .inr (11, [.int 14, .int (-1), .ref (ad 27), .ref q1, .int 0, .int 0, .int 0]))) [((a_2 0), .inl ((y_2 0), 0, .inl (fun _ => 0)))]) 74 ((a_2 0), .inl ((y_2 0), 0, .inl (va_cpy (fun _ => 0) (fun _ => 0) 0 0 0))))) H := hP
  have hK : va_K (dC, dI) vwCl ((xT ca ++ [(y1, .int), ((y_2 0), .int)])) s := hK
  have hD : va_D A ((jS (jA (jS (jA (jS (xW ad ca) 18 (ad 18, .inr (6, [.ref (ad 11), .int 2, .int 0, .int 1, .int 1, .int 1]))) [(q1, .inl (y1, 0, .inl (fun _ => 0)))]) 26 (ad 26, .inr (11, [.int 14, .int (-1), .ref (ad 27), .ref q1, .int 0, .int 0, .int 0]))) [((a_2 0), .inl ((y_2 0), 0, .inl (fun _ => 0)))]) 74 ((a_2 0), .inl ((y_2 0), 0, .inl (va_cpy (fun _ => 0) (fun _ => 0) 0 0 0))))) := hD
  refine jt_q (Value.ref ((a_2 0))) rfl ?_
  refine va_put (D := (dC, dI)) (ci := 11) (v := .ref ((a_2 0))) (ty := .array .int) (C := RX11) (T := TX11) (N := 7) hx hb hts (jh hin_RX11) tyX11 tyX11_ok nmX11 hown hK hP hD hS 26 (jg_n (Nat.ne_of_beq_eq_false rfl) (jg_l (jg_s (n := 74) (jn_a (n := 73) (m := 1) (jn_s rfl) rfl) (Nat.le_of_ble_eq_true rfl)))) rfl 2 (by decide) (hts (.fieldLink RX12 263 "BookOfAll$Volume" "order" "[I") (jm m_406)) (fun _ h9 => h9) rfl (by decide +kernel) rfl rfl (Nat.le_of_ble_eq_true rfl) dX12_lay_26 (fun H locs hP hD hS => ?_)
  refine lv_aload_n hx hb dX12_lay_29 rfl (lv_at hl 1 rfl) ?_
  refine lv_aload_n hx hb dX12_lay_30 rfl (lv_at hl 0 rfl) ?_
  refine va_get (D := (dC, dI)) (ci := 12) (v := .int 0) (C := RX12) (T := TX12) (N := 20) hx hb hts (jh hin_RX12) hown hK hP 0 (jg_n (Nat.ne_of_beq_eq_false rfl) (jg_n (Nat.ne_of_beq_eq_false rfl) (jg_l (jg_n (Nat.ne_of_beq_eq_false rfl) (jg_l (jg_n (Nat.ne_of_beq_eq_false rfl) rfl)))))) rfl 0 (by decide) (hts (.fieldLink RX12 133 "BookOfAll" "now" "I") (jm m_217)) (fun _ h9 => h9) rfl dX12_lay_31 ?_
  refine va_put (D := (dC, dI)) (ci := 11) (v := .int 0) (ty := .int) (C := RX11) (T := TX11) (N := 7) hx hb hts (jh hin_RX11) tyX11 tyX11_ok nmX11 hown hK hP hD hS 26 (jg_s (n := 75) (jn_s (jn_a (n := 74) (m := 1) (jn_s (jn_a (n := 73) (m := 1) (jn_s rfl) rfl)) rfl)) (Nat.le_of_ble_eq_true rfl)) rfl 1 (by decide) (hts (.fieldLink RX12 170 "BookOfAll$Volume" "setDay" "I") (jm m_332)) (fun _ h9 => h9) rfl (by decide +kernel) rfl rfl (Nat.le_of_ble_eq_true rfl) dX12_lay_34 (fun H locs hP hD hS => ?_)
  refine lv_aload_n hx hb dX12_lay_37 rfl (lv_at hl 0 rfl) ?_
  refine lv_dup hx hb dX12_lay_38 rfl ?_
  refine va_get (D := (dC, dI)) (ci := 12) (v := .int 0) (C := RX12) (T := TX12) (N := 20) hx hb hts (jh hin_RX12) hown hK hP 0 (jg_n (Nat.ne_of_beq_eq_false rfl) (jg_n (Nat.ne_of_beq_eq_false rfl) (jg_n (Nat.ne_of_beq_eq_false rfl) (jg_l (jg_n (Nat.ne_of_beq_eq_false rfl) (jg_l (jg_n (Nat.ne_of_beq_eq_false rfl) rfl))))))) rfl 1 (by decide) (hts (.fieldLink RX12 158 "BookOfAll" "setBits" "I") (jm m_212)) (fun _ h9 => h9) rfl dX12_lay_39 ?_
  refine lv_iconst (v := 1) hx hb dX12_lay_42 (by decide) ?_
  refine lv_iload_n hx hb dX12_lay_43 rfl (lv_at hl 2 rfl) ?_
  refine lv_ishl hx hb dX12_lay_44 ?_
  refine jt_i 4 (by decide) ?_
  refine lv_ior hx hb dX12_lay_45 ?_
  refine jt_i 4 (by decide) ?_
  refine va_put (D := (dC, dI)) (ci := 12) (v := .int 4) (ty := .int) (C := RX12) (T := TX12) (N := 20) hx hb hts (jh hin_RX12) tyX12 tyX12_ok nmX12 hown hK hP hD hS 0 (jg_n (Nat.ne_of_beq_eq_false rfl) (jg_n (Nat.ne_of_beq_eq_false rfl) (jg_n (Nat.ne_of_beq_eq_false rfl) (jg_l (jg_n (Nat.ne_of_beq_eq_false rfl) (jg_l (jg_n (Nat.ne_of_beq_eq_false rfl) rfl))))))) rfl 1 (by decide) (hts (.fieldLink RX12 158 "BookOfAll" "setBits" "I") (jm m_212)) (fun _ h9 => h9) rfl (by decide +kernel) rfl rfl (Nat.le_of_ble_eq_true rfl) dX12_lay_46 (fun H locs hP hD hS => ?_)
  refine lv_iconst (v := 0) hx hb dX12_lay_49 (by decide) ?_
  refine lv_istore_n (lv' := [(3, .int 0), (0, .ref (ad 0)), (1, .ref (ad 26)), (2, .int 2)]) hx hb dX12_lay_50 rfl hl (by decide) rfl (fun ls hl => ?_)
  refine lv_iload_n hx hb dX12_lay_51 rfl (lv_at hl 0 rfl) ?_
  refine lv_aload_n hx hb dX12_lay_52 rfl (lv_at hl 1 rfl) ?_
  refine va_get (D := (dC, dI)) (ci := 12) (v := .int 0) (C := RX12) (T := TX12) (N := 20) hx hb hts (jh hin_RX12) hown hK hP 0 (jg_s (n := 75) (jn_s (jn_s (jn_s (jn_a (n := 74) (m := 1) (jn_s (jn_a (n := 73) (m := 1) (jn_s rfl) rfl)) rfl)))) (Nat.le_of_ble_eq_true rfl)) rfl 9 (by decide) (hts (.fieldLink RX12 268 "BookOfAll" "rowSize" "I") (jm m_333)) (fun _ h9 => h9) rfl dX12_lay_53 ?_
  refine lv_icmp_ge (tgt := 139) hx hb dX12_lay_56 (by decide) (fun _ => ?_) (fun z => absurd (by decide) z)
  refine W.widen (k := 2) (n := 0) (Nat.le_of_ble_eq_true rfl) (Nat.le_of_ble_eq_true rfl) ?_
  exact W.vret hx hb hr (fun t ht hW => ⟨⟨(0, fun k => [q1, (a_2 0)].getD k 0, fun k => [y1, (y_2 0)].getD k (dC 0)), rfl, rfl, by rw [ht]; exact hP, va_K.moved hW.alike hK, hD⟩, hS.F ht⟩) hS.2.2 dX12_lay_139
theorem s_tX12_set_v2_0  : 0 = sp_set 2 := by
  unfold sp_set
  rw [show (2 : Int32).toInt = 2 from rfl]
  split <;> first | rfl | (exfalso; omega)
set_option maxHeartbeats 1000000 in
set_option maxRecDepth 100000 in
theorem tX12_set_v2 (l : Launch) (dC : Nat → ClassId) (dI : Nat → Nat → Nat) (sz : Nat) (ad : Nat → Nat) (ca : Nat → ClassId) (tW : Nat) : Met l yX12_set (jk yX12_set cX12_set 3 (some .int)) ({ frames := 4, cells := 2, slots := 0, locals := 126 }) (va_Pc [.ref (ad 0), .int 2] (jw_PZ (dC, dI) (xW ad ca) (xT ca) sz tW)) (va_Qi (fun (r : Int32) (_ : Unit) => r = sp_set 2) (fun _ _ => True) (va_A (xW ad ca) sz)) 2 0 (va_A (xW ad ca) sz) := by
  refine Met.ofW (cc := cX12_set) (maxL := 3) (ret := (some .int)) (by decide) rfl ?_
  intro p e s m args below meth c s₁ B hml hv
  obtain ⟨rfl, ⟨hsz, hP, hK, hD0⟩, hZ, hT⟩ := hv
  have hx := B.exec
  have hb := B.bytes
  have hr := B.returns
  have hts := atoms_spec (ws := (jk yX12_set cX12_set 3 (some .int))) B.pre
  have hown : s.vm.findClass RX12 = some m.cls := findClass_of_methodNamed B.named
  have hlocks := B.notSynchronized
  subst hsz
  have hD := hD0.self (sz := s.heap.size)
  generalize hAe : (va_A (xW ad ca) s.heap.size) = A at hD hZ hT ⊢
  have hA : ∀ q : Nat, s.heap.size ≤ q → A q := fun q h => by rw [← hAe]; exact Or.inr h
  have hS : va_S A s.heap s.heap [] := va_S.rf
  have hP : va_P (dC, dI) vwCl (xW ad ca) s.heap := hP
  have hl := lv_entry ([.ref (ad 0), .int 2]) (n := 3) (Nat.le_of_ble_eq_true rfl)
  rw [lg_entry_eq]
  generalize (lg_sl ([.ref (ad 0), .int 2]) ++ List.replicate (3 - (lg_sl ([.ref (ad 0), .int 2])).length) Slot.unset).toArray = ls at hl ⊢
  have hl : lv_has ls 3 [(0, .ref (ad 0)), (1, .int 2)] := hl
  refine lv_aload_n hx hb dX12_set_0 rfl (lv_at hl 0 rfl) ?_
  refine lv_iload_n hx hb dX12_set_1 rfl (lv_at hl 1 rfl) ?_
  refine jc_q (va_runV (As := [.int 2]) (rest := []) ⟨hx, hb, hml, hown, hts⟩ (kX12_volumeAt_8 l dC dI _ ad ca) (cwV 1 hts (jgoodV m_232 m_233 m_234 m_210 m_235) rfl rfl rfl (by decide +kernel) ⟨Nat.le_of_ble_eq_true rfl, Nat.le_of_ble_eq_true rfl⟩) ⟨jw_blind, va_recv hK hP (ci := 12) (q0 := 0) rfl rfl, fun U hU hW => ⟨rfl, jw_of hU hW hP hK hD⟩⟩ rfl rfl hl.1 rfl (lv_room (Nat.le_of_ble_eq_true rfl)) dX12_set_2 ⟨Nat.le_of_ble_eq_true rfl, Nat.le_of_ble_eq_true rfl⟩) hP hS hA (fun r_1 H locs hw_1 hP hS => ?_)
  have hw_1 : some (ad 26) = r_1 := Eq.symm hw_1
  subst hw_1
  refine jt_q (Value.ref (ad 26)) rfl ?_
  refine lv_astore_n (lv' := [(2, .ref (ad 26)), (0, .ref (ad 0)), (1, .int 2)]) hx hb dX12_set_5 rfl hl (by decide) rfl (fun ls hl => ?_)
  refine lv_aload_n hx hb dX12_set_6 rfl (lv_at hl 0 rfl) ?_
  refine lv_ifnull hx hb dX12_set_7 ?_
  refine lv_aload_n hx hb dX12_set_10 rfl (lv_at hl 0 rfl) ?_
  refine va_get (D := (dC, dI)) (ci := 11) (v := .int (-1)) (C := RX11) (T := TX11) (N := 7) hx hb hts (jh hin_RX11) hown hK hP 26 rfl rfl 1 (by decide) (hts (.fieldLink RX12 170 "BookOfAll$Volume" "setDay" "I") (jm m_332)) (fun _ h9 => h9) rfl dX12_set_11 ?_
  refine lv_iconst (v := (-1)) hx hb dX12_set_14 (by decide) ?_
  refine lv_icmp_eq (tgt := 20) hx hb dX12_set_15 (by decide) (fun _ => ?_) (fun z => absurd (by decide) z)
  refine lv_aload_n hx hb dX12_set_20 rfl (lv_at hl 1 rfl) ?_
  refine lv_iload_n hx hb dX12_set_21 rfl (lv_at hl 2 rfl) ?_
  refine jcw_v (va_runV (As := [.int 2]) (rest := []) ⟨hx, hb, hml, hown, hts⟩ (kX12_arrange_6 l dC dI _ ad ca tW) (cwV 1 hts (jgoodV m_334 m_335 m_336 m_210 m_337) rfl rfl rfl (by decide +kernel) ⟨Nat.le_of_ble_eq_true rfl, Nat.le_of_ble_eq_true rfl⟩) ⟨jw_blindZ, va_recv hK hP (ci := 12) (q0 := 0) rfl rfl, fun U hU hW => ⟨rfl, jw_of hU hW hP hK hD, jz_of hU hW hD hS hA hZ hT⟩⟩ rfl rfl hl.1 rfl (lv_room (Nat.le_of_ble_eq_true rfl)) dX12_set_22 ⟨Nat.le_of_ble_eq_true rfl, Nat.le_of_ble_eq_true rfl⟩) hD hS hA (fun H locs hw_2 hP hK hD hS => ?_)
  refine lv_aload_n hx hb dX12_set_25 rfl (lv_at hl 1 rfl) ?_
  refine jc_i (va_runV (As := []) (rest := []) ⟨hx, hb, hml, hown, hts⟩ (kX12_rowMayBeSet_4 l dC dI _ ad ca) (cwV 0 hts (jgoodV m_394 m_395 m_396 m_210 m_397) rfl rfl rfl (by decide +kernel) ⟨Nat.le_of_ble_eq_true rfl, Nat.le_of_ble_eq_true rfl⟩) ⟨jw_blind, va_recv hK hP (ci := 12) (q0 := 0) rfl rfl, fun U hU hW => ⟨rfl, jw_of hU hW hP hK hD⟩⟩ rfl rfl hl.1 rfl (lv_room (Nat.le_of_ble_eq_true rfl)) dX12_set_26 ⟨Nat.le_of_ble_eq_true rfl, Nat.le_of_ble_eq_true rfl⟩) hP hS hA (fun r_3 H locs hw_3 hP hS => ?_)
  have hw_3 : 1 = r_3 := Eq.symm hw_3
  subst hw_3
  refine lv_if_ne (tgt := 34) hx hb dX12_set_29 (by decide) (fun _ => ?_) (fun z => absurd z (by decide))
  refine lv_aload_n hx hb dX12_set_34 rfl (lv_at hl 1 rfl) ?_
  refine lv_aload_n hx hb dX12_set_35 rfl (lv_at hl 0 rfl) ?_
  refine lv_iload_n hx hb dX12_set_36 rfl (lv_at hl 2 rfl) ?_
  refine jcg_v (va_runV (As := [.ref (ad 26), .int 2]) (rest := []) ⟨hx, hb, hml, hown, hts⟩ (kX12_lay_6 l dC dI _ ad ca) (cwV 2 hts (jgoodV m_407 m_408 m_409 m_210 m_410) rfl rfl rfl (by decide +kernel) ⟨Nat.le_of_ble_eq_true rfl, Nat.le_of_ble_eq_true rfl⟩) ⟨jw_blind, va_recv hK hP (ci := 12) (q0 := 0) rfl rfl, fun U hU hW => ⟨rfl, jw_of hU hW hP hK hD⟩⟩ rfl rfl hl.1 rfl (lv_room (Nat.le_of_ble_eq_true rfl)) dX12_set_37 ⟨Nat.le_of_ble_eq_true rfl, Nat.le_of_ble_eq_true rfl⟩) hD hS hA (fun u_4 H locs hw_4 hP hK hD hS => ?_)
  obtain ⟨w_4, a_4, y_4⟩ := u_4
  obtain rfl : w_4 = 0 := hw_4
  have hP : va_P (dC, dI) vwCl ((jS (jS (jS (jS (jA (jS (jA (jS (xW ad ca) 18 (ad 18, .inr (6, [.ref (ad 11), .int 2, .int 0, .int 1, .int 1, .int 1]))) [((a_4 0), .inl ((y_4 0), 0, .inl (fun _ => 0)))]) 26 (ad 26, .inr (11, [.int 14, .int (-1), .ref (ad 27), .ref (a_4 0), .int 0, .int 0, .int 0]))) [((a_4 1), .inl ((y_4 1), 0, .inl (fun _ => 0)))]) 74 ((a_4 1), .inl ((y_4 1), 0, .inl (va_cpy (fun _ => 0) (fun _ => 0) 0 0 0)))) 26 (ad 26, .inr (11, [.int 14, .int (-1), .ref ((a_4 1)), .ref (a_4 0), .int 0, .int 0, .int 0]))) 26 (ad 26, .inr (11, [.int 14, .int 0, .ref ((a_4 1)), .ref (a_4 0), .int 0, .int 0, .int 0]))) 0 (ad 0, .inr (12, [.int 0, .int 4, .ref (ad 1), .ref (ad 11), .ref (ad 18), .ref (ad 19), .ref (ad 38), .int 0, .ref (ad 39), .int 0, .ref (ad 40), .int 0, .ref (ad 41), .int 0, .ref (ad 42), .ref (ad 53), .ref (ad 54), .ref (ad 55), .ref (ad 61), .ref (ad 70)])))) H := hP
  have hK : va_K (dC, dI) vwCl ((xT ca ++ [((y_4 0), .int), ((y_4 1), .int)])) s := hK
  have hD : va_D A ((jS (jS (jS (jS (jA (jS (jA (jS (xW ad ca) 18 (ad 18, .inr (6, [.ref (ad 11), .int 2, .int 0, .int 1, .int 1, .int 1]))) [((a_4 0), .inl ((y_4 0), 0, .inl (fun _ => 0)))]) 26 (ad 26, .inr (11, [.int 14, .int (-1), .ref (ad 27), .ref (a_4 0), .int 0, .int 0, .int 0]))) [((a_4 1), .inl ((y_4 1), 0, .inl (fun _ => 0)))]) 74 ((a_4 1), .inl ((y_4 1), 0, .inl (va_cpy (fun _ => 0) (fun _ => 0) 0 0 0)))) 26 (ad 26, .inr (11, [.int 14, .int (-1), .ref ((a_4 1)), .ref (a_4 0), .int 0, .int 0, .int 0]))) 26 (ad 26, .inr (11, [.int 14, .int 0, .ref ((a_4 1)), .ref (a_4 0), .int 0, .int 0, .int 0]))) 0 (ad 0, .inr (12, [.int 0, .int 4, .ref (ad 1), .ref (ad 11), .ref (ad 18), .ref (ad 19), .ref (ad 38), .int 0, .ref (ad 39), .int 0, .ref (ad 40), .int 0, .ref (ad 41), .int 0, .ref (ad 42), .ref (ad 53), .ref (ad 54), .ref (ad 55), .ref (ad 61), .ref (ad 70)])))) := hD
  refine lv_aload_n hx hb dX12_set_40 rfl (lv_at hl 0 rfl) ?_
  refine va_get (D := (dC, dI)) (ci := 11) (v := .int 0) (C := RX11) (T := TX11) (N := 7) hx hb hts (jh hin_RX11) hown hK hP 26 (jg_n (Nat.ne_of_beq_eq_false rfl) (jg_s (n := 75) (jn_s (jn_s (jn_a (n := 74) (m := 1) (jn_s (jn_a (n := 73) (m := 1) (jn_s rfl) rfl)) rfl))) (Nat.le_of_ble_eq_true rfl))) rfl 5 (by decide) (hts (.fieldLink RX12 450 "BookOfAll$Volume" "lines" "I") (jm m_411)) (fun _ h9 => h9) rfl dX12_set_41 ?_
  refine lv_bipush (v := 40) hx hb dX12_set_44 (by decide) ?_
  refine lv_iadd hx hb dX12_set_46 ?_
  refine jt_i 40 (by decide) ?_
  refine lv_iconst (v := 1) hx hb dX12_set_47 (by decide) ?_
  refine lv_isub hx hb dX12_set_48 ?_
  refine jt_i 39 (by decide) ?_
  refine lv_bipush (v := 40) hx hb dX12_set_49 (by decide) ?_
  refine lv_idiv hx hb dX12_set_51 (by decide) ?_
  refine jt_i 0 (by decide) ?_
  refine W.widen (k := 2) (n := 0) (Nat.le_of_ble_eq_true rfl) (Nat.le_of_ble_eq_true rfl) ?_
  exact W.iret (v := 0) hx hb hr (fun t ht hW => ⟨⟨0, (), rfl, s_tX12_set_v2_0, trivial⟩, hS.F ht⟩) hS.2.2 dX12_set_52
set_option maxHeartbeats 500000 in
set_option maxRecDepth 100000 in
theorem kX12_rowMayBeSet_5 (l : Launch) (dC : Nat → ClassId) (dI : Nat → Nat → Nat) (sz : Nat) (ad : Nat → Nat) (ca : Nat → ClassId) : Met l yX12_rowMayBeSet (jk yX12_rowMayBeSet cX12_rowMayBeSet 3 (some .boolean)) ({ frames := 0, cells := 0, slots := 0, locals := 0 }) (va_Pc [.ref (ad 0)] (jw_P (dC, dI) ((jS (xW ad ca) 18 (ad 18, .inr (6, [.ref (ad 11), .int 3, .int 0, .int 1, .int 1, .int 1])))) (xT ca) sz)) (va_Qi (fun (r : Int32) (_ : Unit) => (r = 1)) (fun _ _ => True) (va_A [] sz)) 0 0 (va_A [] sz) := by
  refine Met.ofW (cc := cX12_rowMayBeSet) (maxL := 3) (ret := (some .boolean)) (by decide) rfl ?_
  intro p e s m args below meth c s₁ B hml hv
  obtain ⟨rfl, hsz, hP, hK, hD0⟩ := hv
  have hx := B.exec
  have hb := B.bytes
  have hr := B.returns
  have hts := atoms_spec (ws := (jk yX12_rowMayBeSet cX12_rowMayBeSet 3 (some .boolean))) B.pre
  have hown : s.vm.findClass RX12 = some m.cls := findClass_of_methodNamed B.named
  have hlocks := B.notSynchronized
  subst hsz
  have hD := hD0
  generalize hAe : (va_A [] s.heap.size) = A
  have hA : ∀ q : Nat, s.heap.size ≤ q → A q := fun q h => by rw [← hAe]; exact Or.inr h
  have hS : va_S A s.heap s.heap [] := va_S.rf
  have hP : va_P (dC, dI) vwCl ((jS (xW ad ca) 18 (ad 18, .inr (6, [.ref (ad 11), .int 3, .int 0, .int 1, .int 1, .int 1])))) s.heap := hP
  have hl := lv_entry ([.ref (ad 0)]) (n := 3) (Nat.le_of_ble_eq_true rfl)
  rw [lg_entry_eq]
  generalize (lg_sl ([.ref (ad 0)]) ++ List.replicate (3 - (lg_sl ([.ref (ad 0)])).length) Slot.unset).toArray = ls at hl ⊢
  have hl : lv_has ls 3 [(0, .ref (ad 0))] := hl
  refine lv_iconst (v := 0) hx hb dX12_rowMayBeSet_0 (by decide) ?_
  refine lv_istore_n (lv' := [(1, .int 0), (0, .ref (ad 0))]) hx hb dX12_rowMayBeSet_1 rfl hl (by decide) rfl (fun ls hl => ?_)
  refine lv_iload_n hx hb dX12_rowMayBeSet_2 rfl (lv_at hl 0 rfl) ?_
  refine lv_aload_n hx hb dX12_rowMayBeSet_3 rfl (lv_at hl 1 rfl) ?_
  refine va_get (D := (dC, dI)) (ci := 12) (v := .int 0) (C := RX12) (T := TX12) (N := 20) hx hb hts (jh hin_RX12) hown hK hP 0 rfl rfl 9 (by decide) (hts (.fieldLink RX12 268 "BookOfAll" "rowSize" "I") (jm m_333)) (fun _ h9 => h9) rfl dX12_rowMayBeSet_4 ?_
  refine lv_icmp_ge (tgt := 66) hx hb dX12_rowMayBeSet_7 (by decide) (fun _ => ?_) (fun z => absurd (by decide) z)
  refine lv_iconst (v := 1) hx hb dX12_rowMayBeSet_66 (by decide) ?_
  exact W.zret (v := 1) (ty := .boolean) hx hb hr rfl (fun t ht hW => ⟨⟨1, (), rfl, rfl, trivial⟩, hS.F ht⟩) hS.2.2 dX12_rowMayBeSet_67
set_option maxHeartbeats 500000 in
set_option maxRecDepth 100000 in
theorem kX12_linesInRow_5 (l : Launch) (dC : Nat → ClassId) (dI : Nat → Nat → Nat) (sz : Nat) (ad : Nat → Nat) (ca : Nat → ClassId) : Met l yX12_linesInRow (jk yX12_linesInRow cX12_linesInRow 4 (some .int)) ({ frames := 0, cells := 0, slots := 0, locals := 0 }) (va_Pc [.ref (ad 0)] (jw_P (dC, dI) ((jS (xW ad ca) 18 (ad 18, .inr (6, [.ref (ad 11), .int 3, .int 0, .int 1, .int 1, .int 1])))) (xT ca) sz)) (va_Qi (fun (r : Int32) (_ : Unit) => (r = 0)) (fun _ _ => True) (va_A [] sz)) 0 0 (va_A [] sz) := by
  refine Met.ofW (cc := cX12_linesInRow) (maxL := 4) (ret := (some .int)) (by decide) rfl ?_
  intro p e s m args below meth c s₁ B hml hv
  obtain ⟨rfl, hsz, hP, hK, hD0⟩ := hv
  have hx := B.exec
  have hb := B.bytes
  have hr := B.returns
  have hts := atoms_spec (ws := (jk yX12_linesInRow cX12_linesInRow 4 (some .int))) B.pre
  have hown : s.vm.findClass RX12 = some m.cls := findClass_of_methodNamed B.named
  have hlocks := B.notSynchronized
  subst hsz
  have hD := hD0
  generalize hAe : (va_A [] s.heap.size) = A
  have hA : ∀ q : Nat, s.heap.size ≤ q → A q := fun q h => by rw [← hAe]; exact Or.inr h
  have hS : va_S A s.heap s.heap [] := va_S.rf
  have hP : va_P (dC, dI) vwCl ((jS (xW ad ca) 18 (ad 18, .inr (6, [.ref (ad 11), .int 3, .int 0, .int 1, .int 1, .int 1])))) s.heap := hP
  have hl := lv_entry ([.ref (ad 0)]) (n := 4) (Nat.le_of_ble_eq_true rfl)
  rw [lg_entry_eq]
  generalize (lg_sl ([.ref (ad 0)]) ++ List.replicate (4 - (lg_sl ([.ref (ad 0)])).length) Slot.unset).toArray = ls at hl ⊢
  have hl : lv_has ls 4 [(0, .ref (ad 0))] := hl
  refine lv_iconst (v := 0) hx hb dX12_linesInRow_0 (by decide) ?_
  refine lv_istore_n (lv' := [(1, .int 0), (0, .ref (ad 0))]) hx hb dX12_linesInRow_1 rfl hl (by decide) rfl (fun ls hl => ?_)
  refine lv_iconst (v := 0) hx hb dX12_linesInRow_2 (by decide) ?_
  refine lv_istore_n (lv' := [(2, .int 0), (1, .int 0), (0, .ref (ad 0))]) hx hb dX12_linesInRow_3 rfl hl (by decide) rfl (fun ls hl => ?_)
  refine lv_iload_n hx hb dX12_linesInRow_4 rfl (lv_at hl 0 rfl) ?_
  refine lv_aload_n hx hb dX12_linesInRow_5 rfl (lv_at hl 2 rfl) ?_
  refine va_get (D := (dC, dI)) (ci := 12) (v := .int 0) (C := RX12) (T := TX12) (N := 20) hx hb hts (jh hin_RX12) hown hK hP 0 rfl rfl 9 (by decide) (hts (.fieldLink RX12 268 "BookOfAll" "rowSize" "I") (jm m_333)) (fun _ h9 => h9) rfl dX12_linesInRow_6 ?_
  refine lv_icmp_ge (tgt := 43) hx hb dX12_linesInRow_9 (by decide) (fun _ => ?_) (fun z => absurd (by decide) z)
  refine lv_iload_n hx hb dX12_linesInRow_43 rfl (lv_at hl 1 rfl) ?_
  exact W.iret (v := 0) hx hb hr (fun t ht hW => ⟨⟨0, (), rfl, rfl, trivial⟩, hS.F ht⟩) hS.2.2 dX12_linesInRow_44
set_option maxHeartbeats 1000000 in
set_option maxRecDepth 100000 in
theorem kJ7_copyOf_59c91_6 (l : Launch) (dC : Nat → ClassId) (dI : Nat → Nat → Nat) (sz : Nat) (ad : Nat → Nat) (ca : Nat → ClassId) (w0 : Nat) (w1 : ClassId) : Met l yJ7_copyOf_59c91 (jk yJ7_copyOf_59c91 cJ7_copyOf_59c91 3 (some (.array .int))) ({ frames := 1, cells := 1, slots := 0, locals := 80 }) (va_Pc [.ref (ad 39), .int 0] (jw_P (dC, dI) ((jS (jA (jS (xW ad ca) 18 (ad 18, .inr (6, [.ref (ad 11), .int 3, .int 0, .int 1, .int 1, .int 1]))) [(w0, .inl (w1, 0, .inl (fun _ => 0)))]) 29 (ad 29, .inr (11, [.int 19, .int (-1), .ref (ad 30), .ref w0, .int 0, .int 0, .int 0])))) ((xT ca ++ [(w1, .int)])) sz)) (va_Qq (fun (r : Option Nat) (u : Nat × (Nat → Nat) × (Nat → ClassId)) => (u.1 = 0 ∧ r = some ((u.2.1 0)))) (fun u t => va_P (dC, dI) vwCl ((fun (u : Nat × (Nat → Nat) × (Nat → ClassId)) => (jS (jA (jS (jA (jS (xW ad ca) 18 (ad 18, .inr (6, [.ref (ad 11), .int 3, .int 0, .int 1, .int 1, .int 1]))) [(w0, .inl (w1, 0, .inl (fun _ => 0)))]) 29 (ad 29, .inr (11, [.int 19, .int (-1), .ref (ad 30), .ref w0, .int 0, .int 0, .int 0]))) [((u.2.1 0), .inl ((u.2.2 0), 0, .inl (fun _ => 0)))]) 74 ((u.2.1 0), .inl ((u.2.2 0), 0, .inl (va_cpy (fun _ => 0) (fun _ => 0) 0 0 0))))) u) t.heap ∧ va_K (dC, dI) vwCl ((fun (u : Nat × (Nat → Nat) × (Nat → ClassId)) => ((xT ca ++ [(w1, .int)]) ++ [((u.2.2 0), .int)])) u) t ∧ va_D (va_A ((jS (jA (jS (xW ad ca) 18 (ad 18, .inr (6, [.ref (ad 11), .int 3, .int 0, .int 1, .int 1, .int 1]))) [(w0, .inl (w1, 0, .inl (fun _ => 0)))]) 29 (ad 29, .inr (11, [.int 19, .int (-1), .ref (ad 30), .ref w0, .int 0, .int 0, .int 0])))) sz) ((fun (u : Nat × (Nat → Nat) × (Nat → ClassId)) => (jS (jA (jS (jA (jS (xW ad ca) 18 (ad 18, .inr (6, [.ref (ad 11), .int 3, .int 0, .int 1, .int 1, .int 1]))) [(w0, .inl (w1, 0, .inl (fun _ => 0)))]) 29 (ad 29, .inr (11, [.int 19, .int (-1), .ref (ad 30), .ref w0, .int 0, .int 0, .int 0]))) [((u.2.1 0), .inl ((u.2.2 0), 0, .inl (fun _ => 0)))]) 74 ((u.2.1 0), .inl ((u.2.2 0), 0, .inl (va_cpy (fun _ => 0) (fun _ => 0) 0 0 0))))) u)) (va_A ((jS (jA (jS (xW ad ca) 18 (ad 18, .inr (6, [.ref (ad 11), .int 3, .int 0, .int 1, .int 1, .int 1]))) [(w0, .inl (w1, 0, .inl (fun _ => 0)))]) 29 (ad 29, .inr (11, [.int 19, .int (-1), .ref (ad 30), .ref w0, .int 0, .int 0, .int 0])))) sz)) 1 0 (va_A ((jS (jA (jS (xW ad ca) 18 (ad 18, .inr (6, [.ref (ad 11), .int 3, .int 0, .int 1, .int 1, .int 1]))) [(w0, .inl (w1, 0, .inl (fun _ => 0)))]) 29 (ad 29, .inr (11, [.int 19, .int (-1), .ref (ad 30), .ref w0, .int 0, .int 0, .int 0])))) sz) := by
  refine Met.ofW (cc := cJ7_copyOf_59c91) (maxL := 3) (ret := (some (.array .int))) (by decide) rfl ?_
  intro p e s m args below meth c s₁ B hml hv
  obtain ⟨rfl, hsz, hP, hK, hD0⟩ := hv
  have hx := B.exec
  have hb := B.bytes
  have hr := B.returns
  have hts := atoms_spec (ws := (jk yJ7_copyOf_59c91 cJ7_copyOf_59c91 3 (some (.array .int)))) B.pre
  have hown : s.vm.findClass RJ7 = some m.cls := findClass_of_methodNamed B.named
  have hlocks := B.notSynchronized
  subst hsz
  have hD := hD0.self (sz := s.heap.size)
  generalize hAe : (va_A ((jS (jA (jS (xW ad ca) 18 (ad 18, .inr (6, [.ref (ad 11), .int 3, .int 0, .int 1, .int 1, .int 1]))) [(w0, .inl (w1, 0, .inl (fun _ => 0)))]) 29 (ad 29, .inr (11, [.int 19, .int (-1), .ref (ad 30), .ref w0, .int 0, .int 0, .int 0])))) s.heap.size) = A at hD ⊢
  have hA : ∀ q : Nat, s.heap.size ≤ q → A q := fun q h => by rw [← hAe]; exact Or.inr h
  have hS : va_S A s.heap s.heap [] := va_S.rf
  have hP : va_P (dC, dI) vwCl ((jS (jA (jS (xW ad ca) 18 (ad 18, .inr (6, [.ref (ad 11), .int 3, .int 0, .int 1, .int 1, .int 1]))) [(w0, .inl (w1, 0, .inl (fun _ => 0)))]) 29 (ad 29, .inr (11, [.int 19, .int (-1), .ref (ad 30), .ref w0, .int 0, .int 0, .int 0])))) s.heap := hP
  have hl := lv_entry ([.ref (ad 39), .int 0]) (n := 3) (Nat.le_of_ble_eq_true rfl)
  rw [lg_entry_eq]
  generalize (lg_sl ([.ref (ad 39), .int 0]) ++ List.replicate (3 - (lg_sl ([.ref (ad 39), .int 0])).length) Slot.unset).toArray = ls at hl ⊢
  have hl : lv_has ls 3 [(0, .ref (ad 39)), (1, .int 0)] := hl
  refine lv_iload_n hx hb dJ7_copyOf_59c91_0 rfl (lv_at hl 1 rfl) ?_
  refine lv_aload_n hx hb dJ7_copyOf_59c91_1 rfl (lv_at hl 0 rfl) ?_
  refine va_alen (v := 60) hx hb hK hP 39 29 (jg_n (Nat.ne_of_beq_eq_false rfl) (jg_l (jg_n (Nat.ne_of_beq_eq_false rfl) rfl))) rfl (by decide) dJ7_copyOf_59c91_2 ?_
  refine lv_icmp_ne (tgt := 14) hx hb dJ7_copyOf_59c91_3 (by decide) (fun _ => ?_) (fun z => absurd z (by decide))
  refine lv_iload_n hx hb dJ7_copyOf_59c91_14 rfl (lv_at hl 1 rfl) ?_
  refine va_newa (atype := .int) (N' := 0) (a0 := (0, .inl (fun _ => 0))) (ty := .int) hx hb (hts (.arrayClass .int) (jm m_2)) rfl hK hP hD hS hA (fun _ => rfl) (by decide) (by decide) (by decide) (Nat.le_of_ble_eq_true rfl) (Nat.le_of_ble_eq_true rfl) dJ7_copyOf_59c91_15 (fun q1 y1 H hK hP hD hS => ?_)
  refine W.widen (k := 1) (n := 0) (Nat.le_of_ble_eq_true rfl) (Nat.le_of_ble_eq_true rfl) ?_
  refine lv_astore_n (lv' := [(2, .ref q1), (0, .ref (ad 39)), (1, .int 0)]) hx hb dJ7_copyOf_59c91_17 rfl hl (by decide) rfl (fun ls hl => ?_)
  refine lv_aload_n hx hb dJ7_copyOf_59c91_18 rfl (lv_at hl 1 rfl) ?_
  refine lv_iconst (v := 0) hx hb dJ7_copyOf_59c91_19 (by decide) ?_
  refine lv_aload_n hx hb dJ7_copyOf_59c91_20 rfl (lv_at hl 0 rfl) ?_
  refine lv_iconst (v := 0) hx hb dJ7_copyOf_59c91_21 (by decide) ?_
  refine lv_aload_n hx hb dJ7_copyOf_59c91_22 rfl (lv_at hl 1 rfl) ?_
  refine va_alen (v := 60) hx hb hK hP 39 29 (jg_l (jg_n (Nat.ne_of_beq_eq_false rfl) (jg_l (jg_n (Nat.ne_of_beq_eq_false rfl) rfl)))) rfl (by decide) dJ7_copyOf_59c91_23 ?_
  refine lv_iload_n hx hb dJ7_copyOf_59c91_24 rfl (lv_at hl 2 rfl) ?_
  refine va_mmin hx hb (by rw [hml]; exact hl.1.symm) hown (hts (.methodLink RJ7 304 Lib.Math.min.name) (jm m_172)) (hts (.static Lib.Math.min.name) (jm m_173)) (hts (.initialized "java/lang/Math") (jm m_170)) (hts (.code Lib.Math.min.name Lib.Math.min.code 2 (some .int)) (jm m_174)) (Nat.le_of_ble_eq_true rfl) (Nat.le_of_ble_eq_true rfl) (Nat.le_of_ble_eq_true rfl) (Nat.le_of_ble_eq_true rfl) dJ7_copyOf_59c91_25 ?_
  refine jt_i 0 (by decide) ?_
  refine va_copyi hx hb (by rw [hml]; exact hl.1.symm) hown (hts (.methodLink RJ7 150 arraycopyName) (jm m_175)) (hts (.native arraycopyName) (jm m_176)) (hts (.static arraycopyName) (jm m_177)) (hts (.initialized "java/lang/System") (jm m_178)) hK hP hD hS 39 74 29 60 (jg_l (jg_n (Nat.ne_of_beq_eq_false rfl) (jg_l (jg_n (Nat.ne_of_beq_eq_false rfl) rfl)))) (jg_r (n := 74) (i := 0) (jn_s (jn_a (n := 73) (m := 1) (jn_s rfl) rfl)) rfl rfl) rfl rfl rfl (by decide) (by decide) (by decide) (by decide) (by decide) (fun i h => absurd h (Nat.not_lt_zero i)) (Nat.le_of_ble_eq_true rfl) (by decide) dJ7_copyOf_59c91_28 (fun H locs hP hD hS => ?_)
  refine lv_aload_n hx hb dJ7_copyOf_59c91_31 rfl (lv_at hl 0 rfl) ?_
  refine W.widen (k := 1) (n := 0) (Nat.le_of_ble_eq_true rfl) (Nat.le_of_ble_eq_true rfl) ?_
  exact W.aret (v := .ref q1) hx hb hr (Or.inr ⟨_, rfl⟩) (Or.inr ⟨_, rfl⟩) (fun t ht hW => ⟨⟨some (q1), (0, fun k => [q1].getD k 0, fun k => [y1].getD k (dC 0)), rfl, ⟨rfl, rfl⟩, by rw [ht]; exact hP, va_K.moved hW.alike hK, hD⟩, hS.F ht⟩) hS.2.2 dJ7_copyOf_59c91_32
set_option maxHeartbeats 1000000 in
set_option maxRecDepth 100000 in
theorem kX12_lay_8 (l : Launch) (dC : Nat → ClassId) (dI : Nat → Nat → Nat) (sz : Nat) (ad : Nat → Nat) (ca : Nat → ClassId) : Met l yX12_lay (jk yX12_lay cX12_lay 5 none) ({ frames := 2, cells := 2, slots := 0, locals := 102 }) (va_Pc [.ref (ad 0), .ref (ad 29), .int 3] (jw_P (dC, dI) ((jS (xW ad ca) 18 (ad 18, .inr (6, [.ref (ad 11), .int 3, .int 0, .int 1, .int 1, .int 1])))) (xT ca) sz)) (va_Qv (fun (u : Nat × (Nat → Nat) × (Nat → ClassId)) => (u.1 = 0)) (fun u t => va_P (dC, dI) vwCl ((fun (u : Nat × (Nat → Nat) × (Nat → ClassId)) => (jS (jS (jS (jS (jA (jS (jA (jS (xW ad ca) 18 (ad 18, .inr (6, [.ref (ad 11), .int 3, .int 0, .int 1, .int 1, .int 1]))) [((u.2.1 0), .inl ((u.2.2 0), 0, .inl (fun _ => 0)))]) 29 (ad 29, .inr (11, [.int 19, .int (-1), .ref (ad 30), .ref (u.2.1 0), .int 0, .int 0, .int 0]))) [((u.2.1 1), .inl ((u.2.2 1), 0, .inl (fun _ => 0)))]) 74 ((u.2.1 1), .inl ((u.2.2 1), 0, .inl (va_cpy (fun _ => 0) (fun _ => 0) 0 0 0)))) 29 (ad 29, .inr (11, [.int 19, .int (-1), .ref ((u.2.1 1)), .ref (u.2.1 0), .int 0, .int 0, .int 0]))) 29 (ad 29, .inr (11, [.int 19, .int 0, .ref ((u.2.1 1)), .ref (u.2.1 0), .int 0, .int 0, .int 0]))) 0 (ad 0, .inr (12, [.int 0, .int 8, .ref (ad 1), .ref (ad 11), .ref (ad 18), .ref (ad 19), .ref (ad 38), .int 0, .ref (ad 39), .int 0, .ref (ad 40), .int 0, .ref (ad 41), .int 0, .ref (ad 42), .ref (ad 53), .ref (ad 54), .ref (ad 55), .ref (ad 61), .ref (ad 70)])))) u) t.heap ∧ va_K (dC, dI) vwCl ((fun (u : Nat × (Nat → Nat) × (Nat → ClassId)) => (xT ca ++ [((u.2.2 0), .int), ((u.2.2 1), .int)])) u) t ∧ va_D (va_A ((jS (xW ad ca) 18 (ad 18, .inr (6, [.ref (ad 11), .int 3, .int 0, .int 1, .int 1, .int 1])))) sz) ((fun (u : Nat × (Nat → Nat) × (Nat → ClassId)) => (jS (jS (jS (jS (jA (jS (jA (jS (xW ad ca) 18 (ad 18, .inr (6, [.ref (ad 11), .int 3, .int 0, .int 1, .int 1, .int 1]))) [((u.2.1 0), .inl ((u.2.2 0), 0, .inl (fun _ => 0)))]) 29 (ad 29, .inr (11, [.int 19, .int (-1), .ref (ad 30), .ref (u.2.1 0), .int 0, .int 0, .int 0]))) [((u.2.1 1), .inl ((u.2.2 1), 0, .inl (fun _ => 0)))]) 74 ((u.2.1 1), .inl ((u.2.2 1), 0, .inl (va_cpy (fun _ => 0) (fun _ => 0) 0 0 0)))) 29 (ad 29, .inr (11, [.int 19, .int (-1), .ref ((u.2.1 1)), .ref (u.2.1 0), .int 0, .int 0, .int 0]))) 29 (ad 29, .inr (11, [.int 19, .int 0, .ref ((u.2.1 1)), .ref (u.2.1 0), .int 0, .int 0, .int 0]))) 0 (ad 0, .inr (12, [.int 0, .int 8, .ref (ad 1), .ref (ad 11), .ref (ad 18), .ref (ad 19), .ref (ad 38), .int 0, .ref (ad 39), .int 0, .ref (ad 40), .int 0, .ref (ad 41), .int 0, .ref (ad 42), .ref (ad 53), .ref (ad 54), .ref (ad 55), .ref (ad 61), .ref (ad 70)])))) u)) (va_A ((jS (xW ad ca) 18 (ad 18, .inr (6, [.ref (ad 11), .int 3, .int 0, .int 1, .int 1, .int 1])))) sz)) 2 0 (va_A ((jS (xW ad ca) 18 (ad 18, .inr (6, [.ref (ad 11), .int 3, .int 0, .int 1, .int 1, .int 1])))) sz) := by
  refine Met.ofW (cc := cX12_lay) (maxL := 5) (ret := none) (by decide) rfl ?_
  intro p e s m args below meth c s₁ B hml hv
  obtain ⟨rfl, hsz, hP, hK, hD0⟩ := hv
  have hx := B.exec
  have hb := B.bytes
  have hr := B.returns
  have hts := atoms_spec (ws := (jk yX12_lay cX12_lay 5 none)) B.pre
  have hown : s.vm.findClass RX12 = some m.cls := findClass_of_methodNamed B.named
  have hlocks := B.notSynchronized
  subst hsz
  have hD := hD0.self (sz := s.heap.size)
  generalize hAe : (va_A ((jS (xW ad ca) 18 (ad 18, .inr (6, [.ref (ad 11), .int 3, .int 0, .int 1, .int 1, .int 1])))) s.heap.size) = A at hD ⊢
  have hA : ∀ q : Nat, s.heap.size ≤ q → A q := fun q h => by rw [← hAe]; exact Or.inr h
  have hS : va_S A s.heap s.heap [] := va_S.rf
  have hP : va_P (dC, dI) vwCl ((jS (xW ad ca) 18 (ad 18, .inr (6, [.ref (ad 11), .int 3, .int 0, .int 1, .int 1, .int 1])))) s.heap := hP
  have hl := lv_entry ([.ref (ad 0), .ref (ad 29), .int 3]) (n := 5) (Nat.le_of_ble_eq_true rfl)
  rw [lg_entry_eq]
  generalize (lg_sl ([.ref (ad 0), .ref (ad 29), .int 3]) ++ List.replicate (5 - (lg_sl ([.ref (ad 0), .ref (ad 29), .int 3])).length) Slot.unset).toArray = ls at hl ⊢
  have hl : lv_has ls 5 [(0, .ref (ad 0)), (1, .ref (ad 29)), (2, .int 3)] := hl
  refine lv_aload_n hx hb dX12_lay_0 rfl (lv_at hl 1 rfl) ?_
  refine lv_aload_n hx hb dX12_lay_1 rfl (lv_at hl 0 rfl) ?_
  refine jc_i (va_runV (As := []) (rest := [.ref (ad 29)]) ⟨hx, hb, hml, hown, hts⟩ (kX12_linesInRow_5 l dC dI _ ad ca) (cwV 0 hts (jgoodV m_398 m_399 m_400 m_210 m_401) rfl rfl rfl (by decide +kernel) ⟨Nat.le_of_ble_eq_true rfl, Nat.le_of_ble_eq_true rfl⟩) ⟨jw_blind, va_recv hK hP (ci := 12) (q0 := 0) rfl rfl, fun U hU hW => ⟨rfl, jw_of hU hW hP hK hD⟩⟩ rfl rfl hl.1 rfl (lv_room (Nat.le_of_ble_eq_true rfl)) dX12_lay_2 ⟨Nat.le_of_ble_eq_true rfl, Nat.le_of_ble_eq_true rfl⟩) hP hS hA (fun r_1 H locs hw_1 hP hS => ?_)
  have hw_1 : 0 = r_1 := Eq.symm hw_1
  subst hw_1
  refine va_newa (atype := .int) (N' := 0) (a0 := (0, .inl (fun _ => 0))) (ty := .int) hx hb (hts (.arrayClass .int) (jm m_2)) rfl hK hP hD hS hA (fun _ => rfl) (by decide) (by decide) (by decide) (Nat.le_of_ble_eq_true rfl) (Nat.le_of_ble_eq_true rfl) dX12_lay_5 (fun q1 y1 H hK hP hD hS => ?_)
  refine W.widen (k := 1) (n := 0) (Nat.le_of_ble_eq_true rfl) (Nat.le_of_ble_eq_true rfl) ?_
  refine va_put (D := (dC, dI)) (ci := 11) (v := .ref q1) (ty := .array .int) (C := RX11) (T := TX11) (N := 7) hx hb hts (jh hin_RX11) tyX11 tyX11_ok nmX11 hown hK hP hD hS 29 (jg_l (jg_n (Nat.ne_of_beq_eq_false rfl) rfl)) rfl 3 (by decide) (hts (.fieldLink RX12 458 "BookOfAll$Volume" "laid" "[I") (jm m_402)) (fun _ h9 => h9) rfl (by decide +kernel) rfl rfl (Nat.le_of_ble_eq_true rfl) dX12_lay_7 (fun H locs hP hD hS => ?_)
  refine lv_aload_n hx hb dX12_lay_10 rfl (lv_at hl 1 rfl) ?_
  refine lv_aload_n hx hb dX12_lay_11 rfl (lv_at hl 0 rfl) ?_
  refine va_get (D := (dC, dI)) (ci := 12) (v := .ref (ad 39)) (C := RX12) (T := TX12) (N := 20) hx hb hts (jh hin_RX12) hown hK hP 0 (jg_n (Nat.ne_of_beq_eq_false rfl) (jg_l (jg_n (Nat.ne_of_beq_eq_false rfl) rfl))) rfl 8 (by decide) (hts (.fieldLink RX12 47 "BookOfAll" "row" "[I") (jm m_403)) (fun _ h9 => h9) rfl dX12_lay_12 ?_
  refine lv_iconst (v := 0) hx hb dX12_lay_15 (by decide) ?_
  refine lv_aload_n hx hb dX12_lay_16 rfl (lv_at hl 0 rfl) ?_
  refine va_get (D := (dC, dI)) (ci := 12) (v := .int 0) (C := RX12) (T := TX12) (N := 20) hx hb hts (jh hin_RX12) hown hK hP 0 (jg_n (Nat.ne_of_beq_eq_false rfl) (jg_l (jg_n (Nat.ne_of_beq_eq_false rfl) rfl))) rfl 9 (by decide) (hts (.fieldLink RX12 268 "BookOfAll" "rowSize" "I") (jm m_333)) (fun _ h9 => h9) rfl dX12_lay_17 ?_
  refine va_mmax hx hb (by rw [hml]; exact hl.1.symm) hown (hts (.methodLink RX12 379 Lib.Math.max.name) (jm m_404)) (hts (.static Lib.Math.max.name) (jm m_169)) (hts (.initialized "java/lang/Math") (jm m_170)) (hts (.code Lib.Math.max.name Lib.Math.max.code 2 (some .int)) (jm m_171)) (Nat.le_of_ble_eq_true rfl) (Nat.le_of_ble_eq_true rfl) (Nat.le_of_ble_eq_true rfl) (Nat.le_of_ble_eq_true rfl) dX12_lay_20 ?_
  refine jt_i 0 (by decide) ?_
  refine jcg_q (va_runS (As := [.ref (ad 39), .int 0]) (rest := [.ref (ad 29)]) ⟨hx, hb, hml, hown, hts⟩ (kJ7_copyOf_59c91_6 l dC dI _ ad ca q1 y1) (va_cwS 2 hts (jgoodS m_405 m_180 m_142 m_181) rfl rfl rfl (by decide +kernel) ⟨Nat.le_of_ble_eq_true rfl, Nat.le_of_ble_eq_true rfl⟩) ⟨jw_blind, fun U hU hW => ⟨rfl, jw_of hU hW hP hK hD⟩⟩ rfl rfl hl.1 rfl (lv_room (Nat.le_of_ble_eq_true rfl)) dX12_lay_23 ⟨Nat.le_of_ble_eq_true rfl, Nat.le_of_ble_eq_true rfl⟩) hD hS hA (fun r_2 u_2 H locs hw_2 hP hK hD hS => ?_)
  obtain ⟨w_2, a_2, y_2⟩ := u_2
  obtain ⟨rfl, rfl⟩ : w_2 = 0 ∧ r_2 = some ((a_2 0)) := hw_2
  have hP : va_P (dC, dI) vwCl ((jS (jA (jS (jA (jS (xW ad ca) 18 (ad 18, .inr (6, [.ref (ad 11), .int 3, .int 0, .int 1, .int 1, .int 1]))) [(q1, .inl (y1, 0, .inl (fun _ => 0)))]) 29 (ad 29, .inr (11, [.int 19, .int (-1), .ref (ad 30), .ref q1, .int 0, .int 0, .int 0]))) [((a_2 0), .inl ((y_2 0), 0, .inl (fun _ => 0)))]) 74 ((a_2 0), .inl ((y_2 0), 0, .inl (va_cpy (fun _ => 0) (fun _ => 0) 0 0 0))))) H := hP
  have hK : va_K (dC, dI) vwCl ((xT ca ++ [(y1, .int), ((y_2 0), .int)])) s := hK
  have hD : va_D A ((jS (jA (jS (jA (jS (xW ad ca) 18 (ad 18, .inr (6, [.ref (ad 11), .int 3, .int 0, .int 1, .int 1, .int 1]))) [(q1, .inl (y1, 0, .inl (fun _ => 0)))]) 29 (ad 29, .inr (11, [.int 19, .int (-1), .ref (ad 30), .ref q1, .int 0, .int 0, .int 0]))) [((a_2 0), .inl ((y_2 0), 0, .inl (fun _ => 0)))]) 74 ((a_2 0), .inl ((y_2 0), 0, .inl (va_cpy (fun _ => 0) (fun _ => 0) 0 0 0))))) := hD
  refine jt_q (Value.ref ((a_2 0))) rfl ?_
  refine va_put (D := (dC, dI)) (ci := 11) (v := .ref ((a_2 0))) (ty := .array .int) (C := RX11) (T := TX11) (N := 7) hx hb hts (jh hin_RX11) tyX11 tyX11_ok nmX11 hown hK hP hD hS 29 (jg_n (Nat.ne_of_beq_eq_false rfl) (jg_l (jg_s (n := 74) (jn_a (n := 73) (m := 1) (jn_s rfl) rfl) (Nat.le_of_ble_eq_true rfl)))) rfl 2 (by decide) (hts (.fieldLink RX12 263 "BookOfAll$Volume" "order" "[I") (jm m_406)) (fun _ h9 => h9) rfl (by decide +kernel) rfl rfl (Nat.le_of_ble_eq_true rfl) dX12_lay_26 (fun H locs hP hD hS => ?_)
  refine lv_aload_n hx hb dX12_lay_29 rfl (lv_at hl 1 rfl) ?_
  refine lv_aload_n hx hb dX12_lay_30 rfl (lv_at hl 0 rfl) ?_
  refine va_get (D := (dC, dI)) (ci := 12) (v := .int 0) (C := RX12) (T := TX12) (N := 20) hx hb hts (jh hin_RX12) hown hK hP 0 (jg_n (Nat.ne_of_beq_eq_false rfl) (jg_n (Nat.ne_of_beq_eq_false rfl) (jg_l (jg_n (Nat.ne_of_beq_eq_false rfl) (jg_l (jg_n (Nat.ne_of_beq_eq_false rfl) rfl)))))) rfl 0 (by decide) (hts (.fieldLink RX12 133 "BookOfAll" "now" "I") (jm m_217)) (fun _ h9 => h9) rfl dX12_lay_31 ?_
  refine va_put (D := (dC, dI)) (ci := 11) (v := .int 0) (ty := .int) (C := RX11) (T := TX11) (N := 7) hx hb hts (jh hin_RX11) tyX11 tyX11_ok nmX11 hown hK hP hD hS 29 (jg_s (n := 75) (jn_s (jn_a (n := 74) (m := 1) (jn_s (jn_a (n := 73) (m := 1) (jn_s rfl) rfl)) rfl)) (Nat.le_of_ble_eq_true rfl)) rfl 1 (by decide) (hts (.fieldLink RX12 170 "BookOfAll$Volume" "setDay" "I") (jm m_332)) (fun _ h9 => h9) rfl (by decide +kernel) rfl rfl (Nat.le_of_ble_eq_true rfl) dX12_lay_34 (fun H locs hP hD hS => ?_)
  refine lv_aload_n hx hb dX12_lay_37 rfl (lv_at hl 0 rfl) ?_
  refine lv_dup hx hb dX12_lay_38 rfl ?_
  refine va_get (D := (dC, dI)) (ci := 12) (v := .int 0) (C := RX12) (T := TX12) (N := 20) hx hb hts (jh hin_RX12) hown hK hP 0 (jg_n (Nat.ne_of_beq_eq_false rfl) (jg_n (Nat.ne_of_beq_eq_false rfl) (jg_n (Nat.ne_of_beq_eq_false rfl) (jg_l (jg_n (Nat.ne_of_beq_eq_false rfl) (jg_l (jg_n (Nat.ne_of_beq_eq_false rfl) rfl))))))) rfl 1 (by decide) (hts (.fieldLink RX12 158 "BookOfAll" "setBits" "I") (jm m_212)) (fun _ h9 => h9) rfl dX12_lay_39 ?_
  refine lv_iconst (v := 1) hx hb dX12_lay_42 (by decide) ?_
  refine lv_iload_n hx hb dX12_lay_43 rfl (lv_at hl 2 rfl) ?_
  refine lv_ishl hx hb dX12_lay_44 ?_
  refine jt_i 8 (by decide) ?_
  refine lv_ior hx hb dX12_lay_45 ?_
  refine jt_i 8 (by decide) ?_
  refine va_put (D := (dC, dI)) (ci := 12) (v := .int 8) (ty := .int) (C := RX12) (T := TX12) (N := 20) hx hb hts (jh hin_RX12) tyX12 tyX12_ok nmX12 hown hK hP hD hS 0 (jg_n (Nat.ne_of_beq_eq_false rfl) (jg_n (Nat.ne_of_beq_eq_false rfl) (jg_n (Nat.ne_of_beq_eq_false rfl) (jg_l (jg_n (Nat.ne_of_beq_eq_false rfl) (jg_l (jg_n (Nat.ne_of_beq_eq_false rfl) rfl))))))) rfl 1 (by decide) (hts (.fieldLink RX12 158 "BookOfAll" "setBits" "I") (jm m_212)) (fun _ h9 => h9) rfl (by decide +kernel) rfl rfl (Nat.le_of_ble_eq_true rfl) dX12_lay_46 (fun H locs hP hD hS => ?_)
  refine lv_iconst (v := 0) hx hb dX12_lay_49 (by decide) ?_
  refine lv_istore_n (lv' := [(3, .int 0), (0, .ref (ad 0)), (1, .ref (ad 29)), (2, .int 3)]) hx hb dX12_lay_50 rfl hl (by decide) rfl (fun ls hl => ?_)
  refine lv_iload_n hx hb dX12_lay_51 rfl (lv_at hl 0 rfl) ?_
  refine lv_aload_n hx hb dX12_lay_52 rfl (lv_at hl 1 rfl) ?_
  refine va_get (D := (dC, dI)) (ci := 12) (v := .int 0) (C := RX12) (T := TX12) (N := 20) hx hb hts (jh hin_RX12) hown hK hP 0 (jg_s (n := 75) (jn_s (jn_s (jn_s (jn_a (n := 74) (m := 1) (jn_s (jn_a (n := 73) (m := 1) (jn_s rfl) rfl)) rfl)))) (Nat.le_of_ble_eq_true rfl)) rfl 9 (by decide) (hts (.fieldLink RX12 268 "BookOfAll" "rowSize" "I") (jm m_333)) (fun _ h9 => h9) rfl dX12_lay_53 ?_
  refine lv_icmp_ge (tgt := 139) hx hb dX12_lay_56 (by decide) (fun _ => ?_) (fun z => absurd (by decide) z)
  refine W.widen (k := 2) (n := 0) (Nat.le_of_ble_eq_true rfl) (Nat.le_of_ble_eq_true rfl) ?_
  exact W.vret hx hb hr (fun t ht hW => ⟨⟨(0, fun k => [q1, (a_2 0)].getD k 0, fun k => [y1, (y_2 0)].getD k (dC 0)), rfl, rfl, by rw [ht]; exact hP, va_K.moved hW.alike hK, hD⟩, hS.F ht⟩) hS.2.2 dX12_lay_139
