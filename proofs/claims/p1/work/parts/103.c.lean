set_option maxHeartbeats 500000 in
set_option maxRecDepth 100000 in
theorem kX8_hasRoomForSheet_2 (l : Launch) (dC : Nat → ClassId) (dI : Nat → Nat → Nat) (sz : Nat) (ad : Nat → Nat) (ca : Nat → ClassId) : Met l yX8_hasRoomForSheet (jk yX8_hasRoomForSheet cX8_hasRoomForSheet 1 (some .boolean)) ({ frames := 0, cells := 0, slots := 0, locals := 0 }) (va_Pc [.ref (ad 11)] (jw_P (dC, dI) (xW ad ca) (xT ca) sz)) (va_Qi (fun (r : Int32) (_ : Unit) => (r = 1)) (fun _ _ => True) (va_A [] sz)) 0 0 (va_A [] sz) := by
  refine Met.ofW (cc := cX8_hasRoomForSheet) (maxL := 1) (ret := (some .boolean)) (by decide) rfl ?_
  intro p e s m args below meth c s₁ B hml hv
  obtain ⟨rfl, hsz, hP, hK, hD0⟩ := hv
  have hx := B.exec
  have hb := B.bytes
  have hr := B.returns
  have hts := atoms_spec (ws := (jk yX8_hasRoomForSheet cX8_hasRoomForSheet 1 (some .boolean))) B.pre
  have hown : s.vm.findClass RX8 = some m.cls := findClass_of_methodNamed B.named
  have hlocks := B.notSynchronized
  subst hsz
  have hD := hD0
  generalize hAe : (va_A [] s.heap.size) = A
  have hA : ∀ q : Nat, s.heap.size ≤ q → A q := fun q h => by rw [← hAe]; exact Or.inr h
  have hS : va_S A s.heap s.heap [] := va_S.rf
  have hP : va_P (dC, dI) vwCl (xW ad ca) s.heap := hP
  have hl := lv_entry ([.ref (ad 11)]) (n := 1) (Nat.le_of_ble_eq_true rfl)
  rw [lg_entry_eq]
  generalize (lg_sl ([.ref (ad 11)]) ++ List.replicate (1 - (lg_sl ([.ref (ad 11)])).length) Slot.unset).toArray = ls at hl ⊢
  have hl : lv_has ls 1 [(0, .ref (ad 11))] := hl
  refine lv_aload_n hx hb dX8_hasRoomForSheet_0 rfl (lv_at hl 0 rfl) ?_
  refine va_get (D := (dC, dI)) (ci := 8) (v := .int 0) (C := RX8) (T := TX8) (N := 8) hx hb hts (jh hin_RX8) hown hK hP 11 rfl rfl 1 (by decide) (hts (.fieldLink RX8 33 "BookOfAll$Rules" "sheetCount" "I") (jm m_153)) (fun _ h9 => h9) rfl dX8_hasRoomForSheet_1 ?_
  refine lv_bipush (v := 12) hx hb dX8_hasRoomForSheet_4 (by decide) ?_
  refine lv_icmp_ge (tgt := 13) hx hb dX8_hasRoomForSheet_6 (by decide) (fun z => absurd z (by decide)) (fun _ => ?_)
  refine lv_iconst (v := 1) hx hb dX8_hasRoomForSheet_9 (by decide) ?_
  refine lv_goto (tgt := 14) hx hb dX8_hasRoomForSheet_10 (by decide) ?_
  exact W.zret (v := 1) (ty := .boolean) hx hb hr rfl (fun t ht hW => ⟨⟨1, (), rfl, rfl, trivial⟩, hS.F ht⟩) hS.2.2 dX8_hasRoomForSheet_14
set_option maxHeartbeats 500000 in
set_option maxRecDepth 100000 in
theorem iX9_init_1 (l : Launch) (dC : Nat → ClassId) (dI : Nat → Nat → Nat) (sz h0 : Nat) : Met l yX9_init (jk yX9_init cX9_init 1 none) ({ frames := 1, cells := 0, slots := 0, locals := 40 }) (va_Pc [.ref h0] (jw_P (dC, dI) [(h0, .inr (9, [.null, .null, .null, .null]))] [] sz)) (va_Qv (fun (_ : ((Nat → Nat) × (Nat → ClassId))) => True) (fun u t => va_P (dC, dI) vwCl [(h0, .inr (9, [.null, .null, .null, .null]))] t.heap ∧ va_K (dC, dI) vwCl [] t ∧ va_D (va_A [(h0, .inr (9, [.null, .null, .null, .null]))] sz) [(h0, .inr (9, [.null, .null, .null, .null]))]) (va_A [(h0, .inr (9, [.null, .null, .null, .null]))] sz)) 0 0 (va_A [(h0, .inr (9, [.null, .null, .null, .null]))] sz) := by
  refine Met.ofW (cc := cX9_init) (maxL := 1) (ret := none) (by decide) rfl ?_
  intro p e s m args below meth c s₁ B hml hv
  obtain ⟨rfl, hsz, hP, hK, hD0⟩ := hv
  have hx := B.exec
  have hb := B.bytes
  have hr := B.returns
  have hts := atoms_spec (ws := (jk yX9_init cX9_init 1 none)) B.pre
  have hown : s.vm.findClass RX9 = some m.cls := findClass_of_methodNamed B.named
  have hlocks := B.notSynchronized
  have hin : meth.name = "<init>" := (name_of_methodNamed B.named B.method).1
  subst hsz
  have hD := hD0.self (sz := s.heap.size)
  generalize hAe : (va_A [(h0, .inr (9, [.null, .null, .null, .null]))] s.heap.size) = A at hD ⊢
  have hA : ∀ q : Nat, s.heap.size ≤ q → A q := fun q h => by rw [← hAe]; exact Or.inr h
  have hS : va_S A s.heap s.heap [] := va_S.rf
  have hP : va_P (dC, dI) vwCl [(h0, .inr (9, [.null, .null, .null, .null]))] s.heap := hP
  have hl := lv_entry ([.ref h0]) (n := 1) (Nat.le_of_ble_eq_true rfl)
  rw [lg_entry_eq]
  generalize (lg_sl ([.ref h0]) ++ List.replicate (1 - (lg_sl ([.ref h0])).length) Slot.unset).toArray = ls at hl ⊢
  have hl : lv_has ls 1 [(0, .ref h0)] := hl
  refine lv_aload_n hx hb dX9_init_0 rfl (lv_at hl 0 rfl) ?_
  refine W.objInit hx hb hown (hts (.methodLink RX9 3 objectInit) (jm m_162)) (hts (.instanceMethod objectInit) (jm m_163)) (hts (.code objectInit ⟨#[0xb1]⟩ 1 none) (jm m_164)) rfl (by rw [hml]; exact hl.1) rfl dX9_init_1 (Nat.le_of_ble_eq_true rfl) (Nat.le_of_ble_eq_true rfl) ?_
  refine W.eq (g2 := F0 m 4 ls []) rfl ?_
  exact W.vret hx hb hr (fun t ht hW => ⟨⟨(fun k => [0].getD k 0, fun k => [dC 0].getD k (dC 0)), rfl, trivial, by rw [ht]; exact hP, va_K.moved hW.alike hK, hD⟩, hS.F ht⟩) hS.2.2 dX9_init_4
set_option maxHeartbeats 500000 in
set_option maxRecDepth 100000 in
theorem kJ7_copyOf_59c91_2 (l : Launch) (dC : Nat → ClassId) (dI : Nat → Nat → Nat) (sz : Nat) (ad : Nat → Nat) (ca : Nat → ClassId) (w0 : Nat) : Met l yJ7_copyOf_59c91 (jk yJ7_copyOf_59c91 cJ7_copyOf_59c91 3 (some (.array .int))) ({ frames := 1, cells := 1, slots := 0, locals := 80 }) (va_Pc [.ref (ad 7), .int 0] (jw_P (dC, dI) ((jA (jS (jS (jS (jS (jS (jS (xW ad ca) 1 (ad 1, .inr (7, [.ref (ad 2), .int 0, .ref (ad 3), .ref (ad 4), .ref (ad 5), .ref (ad 6), .int 1, .int 0, .int (-1), .ref (ad 7), .int 0, .ref (ad 8), .ref (ad 9), .ref (ad 10), .int 0]))) 3 (ad 3, .inl ((ca 3), 601, .inl (upd (fun _ => 0) 0 0)))) 4 (ad 4, .inl ((ca 4), 601, .inl (upd (fun _ => 0) 0 0)))) 5 (ad 5, .inl ((ca 5), 601, .inl (upd (fun _ => 0) 0 1)))) 6 (ad 6, .inl ((ca 6), 601, .inl (upd (fun _ => 0) 0 (-1))))) 8 (ad 8, .inl ((ca 8), 14, .inl (jfill (fun _ => 0) 14 (-1))))) [(w0, .inr (9, [.null, .null, .null, .null]))])) (xT ca) sz)) (va_Qq (fun (r : Option Nat) (u : Nat × (Nat → Nat) × (Nat → ClassId)) => (u.1 = 0 ∧ r = some ((u.2.1 0)))) (fun u t => va_P (dC, dI) vwCl ((fun (u : Nat × (Nat → Nat) × (Nat → ClassId)) => (jS (jA (jA (jS (jS (jS (jS (jS (jS (xW ad ca) 1 (ad 1, .inr (7, [.ref (ad 2), .int 0, .ref (ad 3), .ref (ad 4), .ref (ad 5), .ref (ad 6), .int 1, .int 0, .int (-1), .ref (ad 7), .int 0, .ref (ad 8), .ref (ad 9), .ref (ad 10), .int 0]))) 3 (ad 3, .inl ((ca 3), 601, .inl (upd (fun _ => 0) 0 0)))) 4 (ad 4, .inl ((ca 4), 601, .inl (upd (fun _ => 0) 0 0)))) 5 (ad 5, .inl ((ca 5), 601, .inl (upd (fun _ => 0) 0 1)))) 6 (ad 6, .inl ((ca 6), 601, .inl (upd (fun _ => 0) 0 (-1))))) 8 (ad 8, .inl ((ca 8), 14, .inl (jfill (fun _ => 0) 14 (-1))))) [(w0, .inr (9, [.null, .null, .null, .null]))]) [((u.2.1 0), .inl ((u.2.2 0), 0, .inl (fun _ => 0)))]) 74 ((u.2.1 0), .inl ((u.2.2 0), 0, .inl (va_cpy (fun _ => 0) (fun _ => 0) 0 0 0))))) u) t.heap ∧ va_K (dC, dI) vwCl ((fun (u : Nat × (Nat → Nat) × (Nat → ClassId)) => (xT ca ++ [((u.2.2 0), .int)])) u) t ∧ va_D (va_A ((jA (jS (jS (jS (jS (jS (jS (xW ad ca) 1 (ad 1, .inr (7, [.ref (ad 2), .int 0, .ref (ad 3), .ref (ad 4), .ref (ad 5), .ref (ad 6), .int 1, .int 0, .int (-1), .ref (ad 7), .int 0, .ref (ad 8), .ref (ad 9), .ref (ad 10), .int 0]))) 3 (ad 3, .inl ((ca 3), 601, .inl (upd (fun _ => 0) 0 0)))) 4 (ad 4, .inl ((ca 4), 601, .inl (upd (fun _ => 0) 0 0)))) 5 (ad 5, .inl ((ca 5), 601, .inl (upd (fun _ => 0) 0 1)))) 6 (ad 6, .inl ((ca 6), 601, .inl (upd (fun _ => 0) 0 (-1))))) 8 (ad 8, .inl ((ca 8), 14, .inl (jfill (fun _ => 0) 14 (-1))))) [(w0, .inr (9, [.null, .null, .null, .null]))])) sz) ((fun (u : Nat × (Nat → Nat) × (Nat → ClassId)) => (jS (jA (jA (jS (jS (jS (jS (jS (jS (xW ad ca) 1 (ad 1, .inr (7, [.ref (ad 2), .int 0, .ref (ad 3), .ref (ad 4), .ref (ad 5), .ref (ad 6), .int 1, .int 0, .int (-1), .ref (ad 7), .int 0, .ref (ad 8), .ref (ad 9), .ref (ad 10), .int 0]))) 3 (ad 3, .inl ((ca 3), 601, .inl (upd (fun _ => 0) 0 0)))) 4 (ad 4, .inl ((ca 4), 601, .inl (upd (fun _ => 0) 0 0)))) 5 (ad 5, .inl ((ca 5), 601, .inl (upd (fun _ => 0) 0 1)))) 6 (ad 6, .inl ((ca 6), 601, .inl (upd (fun _ => 0) 0 (-1))))) 8 (ad 8, .inl ((ca 8), 14, .inl (jfill (fun _ => 0) 14 (-1))))) [(w0, .inr (9, [.null, .null, .null, .null]))]) [((u.2.1 0), .inl ((u.2.2 0), 0, .inl (fun _ => 0)))]) 74 ((u.2.1 0), .inl ((u.2.2 0), 0, .inl (va_cpy (fun _ => 0) (fun _ => 0) 0 0 0))))) u)) (va_A ((jA (jS (jS (jS (jS (jS (jS (xW ad ca) 1 (ad 1, .inr (7, [.ref (ad 2), .int 0, .ref (ad 3), .ref (ad 4), .ref (ad 5), .ref (ad 6), .int 1, .int 0, .int (-1), .ref (ad 7), .int 0, .ref (ad 8), .ref (ad 9), .ref (ad 10), .int 0]))) 3 (ad 3, .inl ((ca 3), 601, .inl (upd (fun _ => 0) 0 0)))) 4 (ad 4, .inl ((ca 4), 601, .inl (upd (fun _ => 0) 0 0)))) 5 (ad 5, .inl ((ca 5), 601, .inl (upd (fun _ => 0) 0 1)))) 6 (ad 6, .inl ((ca 6), 601, .inl (upd (fun _ => 0) 0 (-1))))) 8 (ad 8, .inl ((ca 8), 14, .inl (jfill (fun _ => 0) 14 (-1))))) [(w0, .inr (9, [.null, .null, .null, .null]))])) sz)) 1 0 (va_A ((jA (jS (jS (jS (jS (jS (jS (xW ad ca) 1 (ad 1, .inr (7, [.ref (ad 2), .int 0, .ref (ad 3), .ref (ad 4), .ref (ad 5), .ref (ad 6), .int 1, .int 0, .int (-1), .ref (ad 7), .int 0, .ref (ad 8), .ref (ad 9), .ref (ad 10), .int 0]))) 3 (ad 3, .inl ((ca 3), 601, .inl (upd (fun _ => 0) 0 0)))) 4 (ad 4, .inl ((ca 4), 601, .inl (upd (fun _ => 0) 0 0)))) 5 (ad 5, .inl ((ca 5), 601, .inl (upd (fun _ => 0) 0 1)))) 6 (ad 6, .inl ((ca 6), 601, .inl (upd (fun _ => 0) 0 (-1))))) 8 (ad 8, .inl ((ca 8), 14, .inl (jfill (fun _ => 0) 14 (-1))))) [(w0, .inr (9, [.null, .null, .null, .null]))])) sz) := by
  sorry
set_option maxHeartbeats 500000 in
set_option maxRecDepth 100000 in
theorem kJ7_copyOf_c38d5_2 (l : Launch) (dC : Nat → ClassId) (dI : Nat → Nat → Nat) (sz : Nat) (ad : Nat → Nat) (ca : Nat → ClassId) (w0 : Nat) (w1 : Nat → Nat) (w2 : Nat → ClassId) (w3 : Nat) (w4 : Nat) : Met l yJ7_copyOf_c38d5 (jk yJ7_copyOf_c38d5 cJ7_copyOf_c38d5 3 (some (.array .long))) ({ frames := 1, cells := 1, slots := 0, locals := 80 }) (va_Pc [.ref (ad 10), .int 0] (jw_P (dC, dI) ((jS (jA (jS (jA (jS (jS (jA (jA (jS (jS (jS (jS (jS (jS (xW ad ca) 1 (ad 1, .inr (7, [.ref (ad 2), .int 0, .ref (ad 3), .ref (ad 4), .ref (ad 5), .ref (ad 6), .int 1, .int 0, .int (-1), .ref (ad 7), .int 0, .ref (ad 8), .ref (ad 9), .ref (ad 10), .int 0]))) 3 (ad 3, .inl ((ca 3), 601, .inl (upd (fun _ => 0) 0 0)))) 4 (ad 4, .inl ((ca 4), 601, .inl (upd (fun _ => 0) 0 0)))) 5 (ad 5, .inl ((ca 5), 601, .inl (upd (fun _ => 0) 0 1)))) 6 (ad 6, .inl ((ca 6), 601, .inl (upd (fun _ => 0) 0 (-1))))) 8 (ad 8, .inl ((ca 8), 14, .inl (jfill (fun _ => 0) 14 (-1))))) [(w0, .inr (9, [.null, .null, .null, .null]))]) [((w1 0), .inl ((w2 0), 0, .inl (fun _ => 0)))]) 74 ((w1 0), .inl ((w2 0), 0, .inl (va_cpy (fun _ => 0) (fun _ => 0) 0 0 0)))) 73 (w0, .inr (9, [.ref ((w1 0)), .null, .null, .null]))) [(w3, .inl ((ca 8), 14, .inl (jfill (fun _ => 0) 14 (-1))))]) 73 (w0, .inr (9, [.ref ((w1 0)), .ref w3, .null, .null]))) [(w4, .inl ((ca 9), 14, .inl (fun _ => 0)))]) 73 (w0, .inr (9, [.ref ((w1 0)), .ref w3, .ref w4, .null])))) ((xT ca ++ [((w2 0), .int), ((ca 8), .int), ((ca 9), .int)])) sz)) (va_Qq (fun (r : Option Nat) (u : Nat × (Nat → Nat) × (Nat → ClassId)) => (u.1 = 0 ∧ r = some ((u.2.1 0)))) (fun u t => va_P (dC, dI) vwCl ((fun (u : Nat × (Nat → Nat) × (Nat → ClassId)) => (jS (jA (jS (jA (jS (jA (jS (jS (jA (jA (jS (jS (jS (jS (jS (jS (xW ad ca) 1 (ad 1, .inr (7, [.ref (ad 2), .int 0, .ref (ad 3), .ref (ad 4), .ref (ad 5), .ref (ad 6), .int 1, .int 0, .int (-1), .ref (ad 7), .int 0, .ref (ad 8), .ref (ad 9), .ref (ad 10), .int 0]))) 3 (ad 3, .inl ((ca 3), 601, .inl (upd (fun _ => 0) 0 0)))) 4 (ad 4, .inl ((ca 4), 601, .inl (upd (fun _ => 0) 0 0)))) 5 (ad 5, .inl ((ca 5), 601, .inl (upd (fun _ => 0) 0 1)))) 6 (ad 6, .inl ((ca 6), 601, .inl (upd (fun _ => 0) 0 (-1))))) 8 (ad 8, .inl ((ca 8), 14, .inl (jfill (fun _ => 0) 14 (-1))))) [(w0, .inr (9, [.null, .null, .null, .null]))]) [((w1 0), .inl ((w2 0), 0, .inl (fun _ => 0)))]) 74 ((w1 0), .inl ((w2 0), 0, .inl (va_cpy (fun _ => 0) (fun _ => 0) 0 0 0)))) 73 (w0, .inr (9, [.ref ((w1 0)), .null, .null, .null]))) [(w3, .inl ((ca 8), 14, .inl (jfill (fun _ => 0) 14 (-1))))]) 73 (w0, .inr (9, [.ref ((w1 0)), .ref w3, .null, .null]))) [(w4, .inl ((ca 9), 14, .inl (fun _ => 0)))]) 73 (w0, .inr (9, [.ref ((w1 0)), .ref w3, .ref w4, .null]))) [((u.2.1 0), .inl ((u.2.2 0), 0, .inr (.inl (fun _ => 0))))]) 77 ((u.2.1 0), .inl ((u.2.2 0), 0, .inr (.inl (va_cpy (fun _ => 0) (fun _ => 0) 0 0 0)))))) u) t.heap ∧ va_K (dC, dI) vwCl ((fun (u : Nat × (Nat → Nat) × (Nat → ClassId)) => ((xT ca ++ [((w2 0), .int), ((ca 8), .int), ((ca 9), .int)]) ++ [((u.2.2 0), .long)])) u) t ∧ va_D (va_A ((jS (jA (jS (jA (jS (jS (jA (jA (jS (jS (jS (jS (jS (jS (xW ad ca) 1 (ad 1, .inr (7, [.ref (ad 2), .int 0, .ref (ad 3), .ref (ad 4), .ref (ad 5), .ref (ad 6), .int 1, .int 0, .int (-1), .ref (ad 7), .int 0, .ref (ad 8), .ref (ad 9), .ref (ad 10), .int 0]))) 3 (ad 3, .inl ((ca 3), 601, .inl (upd (fun _ => 0) 0 0)))) 4 (ad 4, .inl ((ca 4), 601, .inl (upd (fun _ => 0) 0 0)))) 5 (ad 5, .inl ((ca 5), 601, .inl (upd (fun _ => 0) 0 1)))) 6 (ad 6, .inl ((ca 6), 601, .inl (upd (fun _ => 0) 0 (-1))))) 8 (ad 8, .inl ((ca 8), 14, .inl (jfill (fun _ => 0) 14 (-1))))) [(w0, .inr (9, [.null, .null, .null, .null]))]) [((w1 0), .inl ((w2 0), 0, .inl (fun _ => 0)))]) 74 ((w1 0), .inl ((w2 0), 0, .inl (va_cpy (fun _ => 0) (fun _ => 0) 0 0 0)))) 73 (w0, .inr (9, [.ref ((w1 0)), .null, .null, .null]))) [(w3, .inl ((ca 8), 14, .inl (jfill (fun _ => 0) 14 (-1))))]) 73 (w0, .inr (9, [.ref ((w1 0)), .ref w3, .null, .null]))) [(w4, .inl ((ca 9), 14, .inl (fun _ => 0)))]) 73 (w0, .inr (9, [.ref ((w1 0)), .ref w3, .ref w4, .null])))) sz) ((fun (u : Nat × (Nat → Nat) × (Nat → ClassId)) => (jS (jA (jS (jA (jS (jA (jS (jS (jA (jA (jS (jS (jS (jS (jS (jS (xW ad ca) 1 (ad 1, .inr (7, [.ref (ad 2), .int 0, .ref (ad 3), .ref (ad 4), .ref (ad 5), .ref (ad 6), .int 1, .int 0, .int (-1), .ref (ad 7), .int 0, .ref (ad 8), .ref (ad 9), .ref (ad 10), .int 0]))) 3 (ad 3, .inl ((ca 3), 601, .inl (upd (fun _ => 0) 0 0)))) 4 (ad 4, .inl ((ca 4), 601, .inl (upd (fun _ => 0) 0 0)))) 5 (ad 5, .inl ((ca 5), 601, .inl (upd (fun _ => 0) 0 1)))) 6 (ad 6, .inl ((ca 6), 601, .inl (upd (fun _ => 0) 0 (-1))))) 8 (ad 8, .inl ((ca 8), 14, .inl (jfill (fun _ => 0) 14 (-1))))) [(w0, .inr (9, [.null, .null, .null, .null]))]) [((w1 0), .inl ((w2 0), 0, .inl (fun _ => 0)))]) 74 ((w1 0), .inl ((w2 0), 0, .inl (va_cpy (fun _ => 0) (fun _ => 0) 0 0 0)))) 73 (w0, .inr (9, [.ref ((w1 0)), .null, .null, .null]))) [(w3, .inl ((ca 8), 14, .inl (jfill (fun _ => 0) 14 (-1))))]) 73 (w0, .inr (9, [.ref ((w1 0)), .ref w3, .null, .null]))) [(w4, .inl ((ca 9), 14, .inl (fun _ => 0)))]) 73 (w0, .inr (9, [.ref ((w1 0)), .ref w3, .ref w4, .null]))) [((u.2.1 0), .inl ((u.2.2 0), 0, .inr (.inl (fun _ => 0))))]) 77 ((u.2.1 0), .inl ((u.2.2 0), 0, .inr (.inl (va_cpy (fun _ => 0) (fun _ => 0) 0 0 0)))))) u)) (va_A ((jS (jA (jS (jA (jS (jS (jA (jA (jS (jS (jS (jS (jS (jS (xW ad ca) 1 (ad 1, .inr (7, [.ref (ad 2), .int 0, .ref (ad 3), .ref (ad 4), .ref (ad 5), .ref (ad 6), .int 1, .int 0, .int (-1), .ref (ad 7), .int 0, .ref (ad 8), .ref (ad 9), .ref (ad 10), .int 0]))) 3 (ad 3, .inl ((ca 3), 601, .inl (upd (fun _ => 0) 0 0)))) 4 (ad 4, .inl ((ca 4), 601, .inl (upd (fun _ => 0) 0 0)))) 5 (ad 5, .inl ((ca 5), 601, .inl (upd (fun _ => 0) 0 1)))) 6 (ad 6, .inl ((ca 6), 601, .inl (upd (fun _ => 0) 0 (-1))))) 8 (ad 8, .inl ((ca 8), 14, .inl (jfill (fun _ => 0) 14 (-1))))) [(w0, .inr (9, [.null, .null, .null, .null]))]) [((w1 0), .inl ((w2 0), 0, .inl (fun _ => 0)))]) 74 ((w1 0), .inl ((w2 0), 0, .inl (va_cpy (fun _ => 0) (fun _ => 0) 0 0 0)))) 73 (w0, .inr (9, [.ref ((w1 0)), .null, .null, .null]))) [(w3, .inl ((ca 8), 14, .inl (jfill (fun _ => 0) 14 (-1))))]) 73 (w0, .inr (9, [.ref ((w1 0)), .ref w3, .null, .null]))) [(w4, .inl ((ca 9), 14, .inl (fun _ => 0)))]) 73 (w0, .inr (9, [.ref ((w1 0)), .ref w3, .ref w4, .null])))) sz)) 1 0 (va_A ((jS (jA (jS (jA (jS (jS (jA (jA (jS (jS (jS (jS (jS (jS (xW ad ca) 1 (ad 1, .inr (7, [.ref (ad 2), .int 0, .ref (ad 3), .ref (ad 4), .ref (ad 5), .ref (ad 6), .int 1, .int 0, .int (-1), .ref (ad 7), .int 0, .ref (ad 8), .ref (ad 9), .ref (ad 10), .int 0]))) 3 (ad 3, .inl ((ca 3), 601, .inl (upd (fun _ => 0) 0 0)))) 4 (ad 4, .inl ((ca 4), 601, .inl (upd (fun _ => 0) 0 0)))) 5 (ad 5, .inl ((ca 5), 601, .inl (upd (fun _ => 0) 0 1)))) 6 (ad 6, .inl ((ca 6), 601, .inl (upd (fun _ => 0) 0 (-1))))) 8 (ad 8, .inl ((ca 8), 14, .inl (jfill (fun _ => 0) 14 (-1))))) [(w0, .inr (9, [.null, .null, .null, .null]))]) [((w1 0), .inl ((w2 0), 0, .inl (fun _ => 0)))]) 74 ((w1 0), .inl ((w2 0), 0, .inl (va_cpy (fun _ => 0) (fun _ => 0) 0 0 0)))) 73 (w0, .inr (9, [.ref ((w1 0)), .null, .null, .null]))) [(w3, .inl ((ca 8), 14, .inl (jfill (fun _ => 0) 14 (-1))))]) 73 (w0, .inr (9, [.ref ((w1 0)), .ref w3, .null, .null]))) [(w4, .inl ((ca 9), 14, .inl (fun _ => 0)))]) 73 (w0, .inr (9, [.ref ((w1 0)), .ref w3, .ref w4, .null])))) sz) := by
  sorry
set_option maxHeartbeats 500000 in
set_option maxRecDepth 100000 in
theorem kX7_compiled_2 (l : Launch) (dC : Nat → ClassId) (dI : Nat → Nat → Nat) (sz : Nat) (ad : Nat → Nat) (ca : Nat → ClassId) : Met l yX7_compiled (jk yX7_compiled cX7_compiled 2 (some (.object "BookOfAll$Sheet"))) ({ frames := 2, cells := 5, slots := 32, locals := 102 }) (va_Pc [.ref (ad 1)] (jw_PE (dC, dI) ((jS (jS (jS (jS (jS (jS (xW ad ca) 1 (ad 1, .inr (7, [.ref (ad 2), .int 0, .ref (ad 3), .ref (ad 4), .ref (ad 5), .ref (ad 6), .int 1, .int 0, .int (-1), .ref (ad 7), .int 0, .ref (ad 8), .ref (ad 9), .ref (ad 10), .int 0]))) 3 (ad 3, .inl ((ca 3), 601, .inl (upd (fun _ => 0) 0 0)))) 4 (ad 4, .inl ((ca 4), 601, .inl (upd (fun _ => 0) 0 0)))) 5 (ad 5, .inl ((ca 5), 601, .inl (upd (fun _ => 0) 0 1)))) 6 (ad 6, .inl ((ca 6), 601, .inl (upd (fun _ => 0) 0 (-1))))) 8 (ad 8, .inl ((ca 8), 14, .inl (jfill (fun _ => 0) 14 (-1)))))) (xT ca) sz)) (va_Qq (fun (r : Option Nat) (u : Nat × (Nat → Nat) × (Nat → ClassId)) => (u.1 = 0 ∧ r = some ((u.2.1 0)))) (fun u t => va_P (dC, dI) vwCl ((fun (u : Nat × (Nat → Nat) × (Nat → ClassId)) => (jS (jS (jA (jS (jA (jS (jA (jS (jS (jA (jA (jS (jS (jS (jS (jS (jS (xW ad ca) 1 (ad 1, .inr (7, [.ref (ad 2), .int 0, .ref (ad 3), .ref (ad 4), .ref (ad 5), .ref (ad 6), .int 1, .int 0, .int (-1), .ref (ad 7), .int 0, .ref (ad 8), .ref (ad 9), .ref (ad 10), .int 0]))) 3 (ad 3, .inl ((ca 3), 601, .inl (upd (fun _ => 0) 0 0)))) 4 (ad 4, .inl ((ca 4), 601, .inl (upd (fun _ => 0) 0 0)))) 5 (ad 5, .inl ((ca 5), 601, .inl (upd (fun _ => 0) 0 1)))) 6 (ad 6, .inl ((ca 6), 601, .inl (upd (fun _ => 0) 0 (-1))))) 8 (ad 8, .inl ((u.2.2 2), 14, .inl (jfill (fun _ => 0) 14 (-1))))) [((u.2.1 0), .inr (9, [.null, .null, .null, .null]))]) [((u.2.1 1), .inl ((u.2.2 1), 0, .inl (fun _ => 0)))]) 74 ((u.2.1 1), .inl ((u.2.2 1), 0, .inl (va_cpy (fun _ => 0) (fun _ => 0) 0 0 0)))) 73 ((u.2.1 0), .inr (9, [.ref ((u.2.1 1)), .null, .null, .null]))) [((u.2.1 2), .inl ((u.2.2 2), 14, .inl (jfill (fun _ => 0) 14 (-1))))]) 73 ((u.2.1 0), .inr (9, [.ref ((u.2.1 1)), .ref (u.2.1 2), .null, .null]))) [((u.2.1 3), .inl ((u.2.2 3), 14, .inl (fun _ => 0)))]) 73 ((u.2.1 0), .inr (9, [.ref ((u.2.1 1)), .ref (u.2.1 2), .ref (u.2.1 3), .null]))) [((u.2.1 4), .inl ((u.2.2 4), 0, .inr (.inl (fun _ => 0))))]) 77 ((u.2.1 4), .inl ((u.2.2 4), 0, .inr (.inl (va_cpy (fun _ => 0) (fun _ => 0) 0 0 0))))) 73 ((u.2.1 0), .inr (9, [.ref ((u.2.1 1)), .ref (u.2.1 2), .ref (u.2.1 3), .ref ((u.2.1 4))])))) u) t.heap ∧ va_K (dC, dI) vwCl ((fun (u : Nat × (Nat → Nat) × (Nat → ClassId)) => (xT ca ++ [((u.2.2 1), .int), ((u.2.2 2), .int), ((u.2.2 3), .int), ((u.2.2 4), .long)])) u) t ∧ va_D (va_A ((jS (jS (jS (jS (jS (jS (xW ad ca) 1 (ad 1, .inr (7, [.ref (ad 2), .int 0, .ref (ad 3), .ref (ad 4), .ref (ad 5), .ref (ad 6), .int 1, .int 0, .int (-1), .ref (ad 7), .int 0, .ref (ad 8), .ref (ad 9), .ref (ad 10), .int 0]))) 3 (ad 3, .inl ((ca 3), 601, .inl (upd (fun _ => 0) 0 0)))) 4 (ad 4, .inl ((ca 4), 601, .inl (upd (fun _ => 0) 0 0)))) 5 (ad 5, .inl ((ca 5), 601, .inl (upd (fun _ => 0) 0 1)))) 6 (ad 6, .inl ((ca 6), 601, .inl (upd (fun _ => 0) 0 (-1))))) 8 (ad 8, .inl ((ca 8), 14, .inl (jfill (fun _ => 0) 14 (-1)))))) sz) ((fun (u : Nat × (Nat → Nat) × (Nat → ClassId)) => (jS (jS (jA (jS (jA (jS (jA (jS (jS (jA (jA (jS (jS (jS (jS (jS (jS (xW ad ca) 1 (ad 1, .inr (7, [.ref (ad 2), .int 0, .ref (ad 3), .ref (ad 4), .ref (ad 5), .ref (ad 6), .int 1, .int 0, .int (-1), .ref (ad 7), .int 0, .ref (ad 8), .ref (ad 9), .ref (ad 10), .int 0]))) 3 (ad 3, .inl ((ca 3), 601, .inl (upd (fun _ => 0) 0 0)))) 4 (ad 4, .inl ((ca 4), 601, .inl (upd (fun _ => 0) 0 0)))) 5 (ad 5, .inl ((ca 5), 601, .inl (upd (fun _ => 0) 0 1)))) 6 (ad 6, .inl ((ca 6), 601, .inl (upd (fun _ => 0) 0 (-1))))) 8 (ad 8, .inl ((u.2.2 2), 14, .inl (jfill (fun _ => 0) 14 (-1))))) [((u.2.1 0), .inr (9, [.null, .null, .null, .null]))]) [((u.2.1 1), .inl ((u.2.2 1), 0, .inl (fun _ => 0)))]) 74 ((u.2.1 1), .inl ((u.2.2 1), 0, .inl (va_cpy (fun _ => 0) (fun _ => 0) 0 0 0)))) 73 ((u.2.1 0), .inr (9, [.ref ((u.2.1 1)), .null, .null, .null]))) [((u.2.1 2), .inl ((u.2.2 2), 14, .inl (jfill (fun _ => 0) 14 (-1))))]) 73 ((u.2.1 0), .inr (9, [.ref ((u.2.1 1)), .ref (u.2.1 2), .null, .null]))) [((u.2.1 3), .inl ((u.2.2 3), 14, .inl (fun _ => 0)))]) 73 ((u.2.1 0), .inr (9, [.ref ((u.2.1 1)), .ref (u.2.1 2), .ref (u.2.1 3), .null]))) [((u.2.1 4), .inl ((u.2.2 4), 0, .inr (.inl (fun _ => 0))))]) 77 ((u.2.1 4), .inl ((u.2.2 4), 0, .inr (.inl (va_cpy (fun _ => 0) (fun _ => 0) 0 0 0))))) 73 ((u.2.1 0), .inr (9, [.ref ((u.2.1 1)), .ref (u.2.1 2), .ref (u.2.1 3), .ref ((u.2.1 4))])))) u)) (va_A ((jS (jS (jS (jS (jS (jS (xW ad ca) 1 (ad 1, .inr (7, [.ref (ad 2), .int 0, .ref (ad 3), .ref (ad 4), .ref (ad 5), .ref (ad 6), .int 1, .int 0, .int (-1), .ref (ad 7), .int 0, .ref (ad 8), .ref (ad 9), .ref (ad 10), .int 0]))) 3 (ad 3, .inl ((ca 3), 601, .inl (upd (fun _ => 0) 0 0)))) 4 (ad 4, .inl ((ca 4), 601, .inl (upd (fun _ => 0) 0 0)))) 5 (ad 5, .inl ((ca 5), 601, .inl (upd (fun _ => 0) 0 1)))) 6 (ad 6, .inl ((ca 6), 601, .inl (upd (fun _ => 0) 0 (-1))))) 8 (ad 8, .inl ((ca 8), 14, .inl (jfill (fun _ => 0) 14 (-1)))))) sz)) 5 32 (va_A ((jS (jS (jS (jS (jS (jS (xW ad ca) 1 (ad 1, .inr (7, [.ref (ad 2), .int 0, .ref (ad 3), .ref (ad 4), .ref (ad 5), .ref (ad 6), .int 1, .int 0, .int (-1), .ref (ad 7), .int 0, .ref (ad 8), .ref (ad 9), .ref (ad 10), .int 0]))) 3 (ad 3, .inl ((ca 3), 601, .inl (upd (fun _ => 0) 0 0)))) 4 (ad 4, .inl ((ca 4), 601, .inl (upd (fun _ => 0) 0 0)))) 5 (ad 5, .inl ((ca 5), 601, .inl (upd (fun _ => 0) 0 1)))) 6 (ad 6, .inl ((ca 6), 601, .inl (upd (fun _ => 0) 0 (-1))))) 8 (ad 8, .inl ((ca 8), 14, .inl (jfill (fun _ => 0) 14 (-1)))))) sz) := by
  sorry
set_option maxHeartbeats 500000 in
set_option maxRecDepth 100000 in
theorem kX8_keep_2 (l : Launch) (dC : Nat → ClassId) (dI : Nat → Nat → Nat) (sz : Nat) (ad : Nat → Nat) (ca : Nat → ClassId) (w0 : Nat → Nat) (w1 : Nat → ClassId) : Met l yX8_keep (jk yX8_keep cX8_keep 2 (some .int)) ({ frames := 0, cells := 0, slots := 0, locals := 0 }) (va_Pc [.ref (ad 11), .ref ((w0 0))] (jw_P (dC, dI) ((jS (jS (jA (jS (jA (jS (jA (jS (jS (jA (jA (jS (jS (jS (jS (jS (jS (xW ad ca) 1 (ad 1, .inr (7, [.ref (ad 2), .int 0, .ref (ad 3), .ref (ad 4), .ref (ad 5), .ref (ad 6), .int 1, .int 0, .int (-1), .ref (ad 7), .int 0, .ref (ad 8), .ref (ad 9), .ref (ad 10), .int 0]))) 3 (ad 3, .inl ((ca 3), 601, .inl (upd (fun _ => 0) 0 0)))) 4 (ad 4, .inl ((ca 4), 601, .inl (upd (fun _ => 0) 0 0)))) 5 (ad 5, .inl ((ca 5), 601, .inl (upd (fun _ => 0) 0 1)))) 6 (ad 6, .inl ((ca 6), 601, .inl (upd (fun _ => 0) 0 (-1))))) 8 (ad 8, .inl ((w1 2), 14, .inl (jfill (fun _ => 0) 14 (-1))))) [((w0 0), .inr (9, [.null, .null, .null, .null]))]) [((w0 1), .inl ((w1 1), 0, .inl (fun _ => 0)))]) 74 ((w0 1), .inl ((w1 1), 0, .inl (va_cpy (fun _ => 0) (fun _ => 0) 0 0 0)))) 73 ((w0 0), .inr (9, [.ref ((w0 1)), .null, .null, .null]))) [((w0 2), .inl ((w1 2), 14, .inl (jfill (fun _ => 0) 14 (-1))))]) 73 ((w0 0), .inr (9, [.ref ((w0 1)), .ref (w0 2), .null, .null]))) [((w0 3), .inl ((w1 3), 14, .inl (fun _ => 0)))]) 73 ((w0 0), .inr (9, [.ref ((w0 1)), .ref (w0 2), .ref (w0 3), .null]))) [((w0 4), .inl ((w1 4), 0, .inr (.inl (fun _ => 0))))]) 77 ((w0 4), .inl ((w1 4), 0, .inr (.inl (va_cpy (fun _ => 0) (fun _ => 0) 0 0 0))))) 73 ((w0 0), .inr (9, [.ref ((w0 1)), .ref (w0 2), .ref (w0 3), .ref ((w0 4))])))) ((xT ca ++ [((w1 1), .int), ((w1 2), .int), ((w1 3), .int), ((w1 4), .long)])) sz)) (va_Qi (fun (r : Int32) (_ : Unit) => (r = 0)) (fun _ t => va_P (dC, dI) vwCl ((jS (jS (jS (jS (jA (jS (jA (jS (jA (jS (jS (jA (jA (jS (jS (jS (jS (jS (jS (xW ad ca) 1 (ad 1, .inr (7, [.ref (ad 2), .int 0, .ref (ad 3), .ref (ad 4), .ref (ad 5), .ref (ad 6), .int 1, .int 0, .int (-1), .ref (ad 7), .int 0, .ref (ad 8), .ref (ad 9), .ref (ad 10), .int 0]))) 3 (ad 3, .inl ((ca 3), 601, .inl (upd (fun _ => 0) 0 0)))) 4 (ad 4, .inl ((ca 4), 601, .inl (upd (fun _ => 0) 0 0)))) 5 (ad 5, .inl ((ca 5), 601, .inl (upd (fun _ => 0) 0 1)))) 6 (ad 6, .inl ((ca 6), 601, .inl (upd (fun _ => 0) 0 (-1))))) 8 (ad 8, .inl ((w1 2), 14, .inl (jfill (fun _ => 0) 14 (-1))))) [((w0 0), .inr (9, [.null, .null, .null, .null]))]) [((w0 1), .inl ((w1 1), 0, .inl (fun _ => 0)))]) 74 ((w0 1), .inl ((w1 1), 0, .inl (va_cpy (fun _ => 0) (fun _ => 0) 0 0 0)))) 73 ((w0 0), .inr (9, [.ref ((w0 1)), .null, .null, .null]))) [((w0 2), .inl ((w1 2), 14, .inl (jfill (fun _ => 0) 14 (-1))))]) 73 ((w0 0), .inr (9, [.ref ((w0 1)), .ref (w0 2), .null, .null]))) [((w0 3), .inl ((w1 3), 14, .inl (fun _ => 0)))]) 73 ((w0 0), .inr (9, [.ref ((w0 1)), .ref (w0 2), .ref (w0 3), .null]))) [((w0 4), .inl ((w1 4), 0, .inr (.inl (fun _ => 0))))]) 77 ((w0 4), .inl ((w1 4), 0, .inr (.inl (va_cpy (fun _ => 0) (fun _ => 0) 0 0 0))))) 73 ((w0 0), .inr (9, [.ref ((w0 1)), .ref (w0 2), .ref (w0 3), .ref ((w0 4))]))) 12 (ad 12, .inl ((ca 12), 12, .inr (.inr (.inr (.inr (va_up (fun _ => none) 0 (some ((w0 0)))))))))) 11 (ad 11, .inr (8, [.ref (ad 12), .int 1, .ref (ad 13), .ref (ad 14), .ref (ad 15), .int 0, .ref (ad 16), .ref (ad 17)])))) t.heap ∧ va_K (dC, dI) vwCl ((xT ca ++ [((w1 1), .int), ((w1 2), .int), ((w1 3), .int), ((w1 4), .long)])) t ∧ va_D (va_A ((jS (jS (jA (jS (jA (jS (jA (jS (jS (jA (jA (jS (jS (jS (jS (jS (jS (xW ad ca) 1 (ad 1, .inr (7, [.ref (ad 2), .int 0, .ref (ad 3), .ref (ad 4), .ref (ad 5), .ref (ad 6), .int 1, .int 0, .int (-1), .ref (ad 7), .int 0, .ref (ad 8), .ref (ad 9), .ref (ad 10), .int 0]))) 3 (ad 3, .inl ((ca 3), 601, .inl (upd (fun _ => 0) 0 0)))) 4 (ad 4, .inl ((ca 4), 601, .inl (upd (fun _ => 0) 0 0)))) 5 (ad 5, .inl ((ca 5), 601, .inl (upd (fun _ => 0) 0 1)))) 6 (ad 6, .inl ((ca 6), 601, .inl (upd (fun _ => 0) 0 (-1))))) 8 (ad 8, .inl ((w1 2), 14, .inl (jfill (fun _ => 0) 14 (-1))))) [((w0 0), .inr (9, [.null, .null, .null, .null]))]) [((w0 1), .inl ((w1 1), 0, .inl (fun _ => 0)))]) 74 ((w0 1), .inl ((w1 1), 0, .inl (va_cpy (fun _ => 0) (fun _ => 0) 0 0 0)))) 73 ((w0 0), .inr (9, [.ref ((w0 1)), .null, .null, .null]))) [((w0 2), .inl ((w1 2), 14, .inl (jfill (fun _ => 0) 14 (-1))))]) 73 ((w0 0), .inr (9, [.ref ((w0 1)), .ref (w0 2), .null, .null]))) [((w0 3), .inl ((w1 3), 14, .inl (fun _ => 0)))]) 73 ((w0 0), .inr (9, [.ref ((w0 1)), .ref (w0 2), .ref (w0 3), .null]))) [((w0 4), .inl ((w1 4), 0, .inr (.inl (fun _ => 0))))]) 77 ((w0 4), .inl ((w1 4), 0, .inr (.inl (va_cpy (fun _ => 0) (fun _ => 0) 0 0 0))))) 73 ((w0 0), .inr (9, [.ref ((w0 1)), .ref (w0 2), .ref (w0 3), .ref ((w0 4))])))) sz) ((jS (jS (jS (jS (jA (jS (jA (jS (jA (jS (jS (jA (jA (jS (jS (jS (jS (jS (jS (xW ad ca) 1 (ad 1, .inr (7, [.ref (ad 2), .int 0, .ref (ad 3), .ref (ad 4), .ref (ad 5), .ref (ad 6), .int 1, .int 0, .int (-1), .ref (ad 7), .int 0, .ref (ad 8), .ref (ad 9), .ref (ad 10), .int 0]))) 3 (ad 3, .inl ((ca 3), 601, .inl (upd (fun _ => 0) 0 0)))) 4 (ad 4, .inl ((ca 4), 601, .inl (upd (fun _ => 0) 0 0)))) 5 (ad 5, .inl ((ca 5), 601, .inl (upd (fun _ => 0) 0 1)))) 6 (ad 6, .inl ((ca 6), 601, .inl (upd (fun _ => 0) 0 (-1))))) 8 (ad 8, .inl ((w1 2), 14, .inl (jfill (fun _ => 0) 14 (-1))))) [((w0 0), .inr (9, [.null, .null, .null, .null]))]) [((w0 1), .inl ((w1 1), 0, .inl (fun _ => 0)))]) 74 ((w0 1), .inl ((w1 1), 0, .inl (va_cpy (fun _ => 0) (fun _ => 0) 0 0 0)))) 73 ((w0 0), .inr (9, [.ref ((w0 1)), .null, .null, .null]))) [((w0 2), .inl ((w1 2), 14, .inl (jfill (fun _ => 0) 14 (-1))))]) 73 ((w0 0), .inr (9, [.ref ((w0 1)), .ref (w0 2), .null, .null]))) [((w0 3), .inl ((w1 3), 14, .inl (fun _ => 0)))]) 73 ((w0 0), .inr (9, [.ref ((w0 1)), .ref (w0 2), .ref (w0 3), .null]))) [((w0 4), .inl ((w1 4), 0, .inr (.inl (fun _ => 0))))]) 77 ((w0 4), .inl ((w1 4), 0, .inr (.inl (va_cpy (fun _ => 0) (fun _ => 0) 0 0 0))))) 73 ((w0 0), .inr (9, [.ref ((w0 1)), .ref (w0 2), .ref (w0 3), .ref ((w0 4))]))) 12 (ad 12, .inl ((ca 12), 12, .inr (.inr (.inr (.inr (va_up (fun _ => none) 0 (some ((w0 0)))))))))) 11 (ad 11, .inr (8, [.ref (ad 12), .int 1, .ref (ad 13), .ref (ad 14), .ref (ad 15), .int 0, .ref (ad 16), .ref (ad 17)]))))) (va_A ((jS (jS (jA (jS (jA (jS (jA (jS (jS (jA (jA (jS (jS (jS (jS (jS (jS (xW ad ca) 1 (ad 1, .inr (7, [.ref (ad 2), .int 0, .ref (ad 3), .ref (ad 4), .ref (ad 5), .ref (ad 6), .int 1, .int 0, .int (-1), .ref (ad 7), .int 0, .ref (ad 8), .ref (ad 9), .ref (ad 10), .int 0]))) 3 (ad 3, .inl ((ca 3), 601, .inl (upd (fun _ => 0) 0 0)))) 4 (ad 4, .inl ((ca 4), 601, .inl (upd (fun _ => 0) 0 0)))) 5 (ad 5, .inl ((ca 5), 601, .inl (upd (fun _ => 0) 0 1)))) 6 (ad 6, .inl ((ca 6), 601, .inl (upd (fun _ => 0) 0 (-1))))) 8 (ad 8, .inl ((w1 2), 14, .inl (jfill (fun _ => 0) 14 (-1))))) [((w0 0), .inr (9, [.null, .null, .null, .null]))]) [((w0 1), .inl ((w1 1), 0, .inl (fun _ => 0)))]) 74 ((w0 1), .inl ((w1 1), 0, .inl (va_cpy (fun _ => 0) (fun _ => 0) 0 0 0)))) 73 ((w0 0), .inr (9, [.ref ((w0 1)), .null, .null, .null]))) [((w0 2), .inl ((w1 2), 14, .inl (jfill (fun _ => 0) 14 (-1))))]) 73 ((w0 0), .inr (9, [.ref ((w0 1)), .ref (w0 2), .null, .null]))) [((w0 3), .inl ((w1 3), 14, .inl (fun _ => 0)))]) 73 ((w0 0), .inr (9, [.ref ((w0 1)), .ref (w0 2), .ref (w0 3), .null]))) [((w0 4), .inl ((w1 4), 0, .inr (.inl (fun _ => 0))))]) 77 ((w0 4), .inl ((w1 4), 0, .inr (.inl (va_cpy (fun _ => 0) (fun _ => 0) 0 0 0))))) 73 ((w0 0), .inr (9, [.ref ((w0 1)), .ref (w0 2), .ref (w0 3), .ref ((w0 4))])))) sz)) 0 0 (va_A ((jS (jS (jA (jS (jA (jS (jA (jS (jS (jA (jA (jS (jS (jS (jS (jS (jS (xW ad ca) 1 (ad 1, .inr (7, [.ref (ad 2), .int 0, .ref (ad 3), .ref (ad 4), .ref (ad 5), .ref (ad 6), .int 1, .int 0, .int (-1), .ref (ad 7), .int 0, .ref (ad 8), .ref (ad 9), .ref (ad 10), .int 0]))) 3 (ad 3, .inl ((ca 3), 601, .inl (upd (fun _ => 0) 0 0)))) 4 (ad 4, .inl ((ca 4), 601, .inl (upd (fun _ => 0) 0 0)))) 5 (ad 5, .inl ((ca 5), 601, .inl (upd (fun _ => 0) 0 1)))) 6 (ad 6, .inl ((ca 6), 601, .inl (upd (fun _ => 0) 0 (-1))))) 8 (ad 8, .inl ((w1 2), 14, .inl (jfill (fun _ => 0) 14 (-1))))) [((w0 0), .inr (9, [.null, .null, .null, .null]))]) [((w0 1), .inl ((w1 1), 0, .inl (fun _ => 0)))]) 74 ((w0 1), .inl ((w1 1), 0, .inl (va_cpy (fun _ => 0) (fun _ => 0) 0 0 0)))) 73 ((w0 0), .inr (9, [.ref ((w0 1)), .null, .null, .null]))) [((w0 2), .inl ((w1 2), 14, .inl (jfill (fun _ => 0) 14 (-1))))]) 73 ((w0 0), .inr (9, [.ref ((w0 1)), .ref (w0 2), .null, .null]))) [((w0 3), .inl ((w1 3), 14, .inl (fun _ => 0)))]) 73 ((w0 0), .inr (9, [.ref ((w0 1)), .ref (w0 2), .ref (w0 3), .null]))) [((w0 4), .inl ((w1 4), 0, .inr (.inl (fun _ => 0))))]) 77 ((w0 4), .inl ((w1 4), 0, .inr (.inl (va_cpy (fun _ => 0) (fun _ => 0) 0 0 0))))) 73 ((w0 0), .inr (9, [.ref ((w0 1)), .ref (w0 2), .ref (w0 3), .ref ((w0 4))])))) sz) := by
  sorry
set_option maxHeartbeats 500000 in
set_option maxRecDepth 100000 in
theorem tX12_sheet (l : Launch) (dC : Nat → ClassId) (dI : Nat → Nat → Nat) (sz : Nat) (ad : Nat → Nat) (ca : Nat → ClassId) : Met l yX12_sheet (jk yX12_sheet cX12_sheet 2 (some .int)) ({ frames := 4, cells := 5, slots := 32, locals := 123 }) (va_Pc [.ref (ad 0)] (jw_PE (dC, dI) (xW ad ca) (xT ca) sz)) (va_Qi (fun (r : Int32) (_ : Unit) => (r = 0)) (fun _ _ => True) (va_A (xW ad ca) sz)) 5 32 (va_A (xW ad ca) sz) := by
  sorry
set_option maxHeartbeats 500000 in
set_option maxRecDepth 100000 in
theorem kX12_isVolume_1 (l : Launch) (dC : Nat → ClassId) (dI : Nat → Nat → Nat) (sz : Nat) (h0 : Nat) (p1 : Int32) : Met l yX12_isVolume (jk yX12_isVolume cX12_isVolume 2 (some .boolean)) ({ frames := 0, cells := 0, slots := 0, locals := 0 }) (va_Pc [.ref h0, .int p1] (fun U => U.heap.size = sz)) (va_Qi (fun (r : Int32) (_ : Unit) => (p1 < 0 ∧ r = 0) ∨ (¬ (p1 < 0) ∧ 6 ≤ p1 ∧ r = 0) ∨ (¬ (p1 < 0) ∧ ¬ (6 ≤ p1) ∧ r = 1)) (fun _ _ => True) (va_A [] sz)) 0 0 (va_A [] sz) := by
  refine Met.ofW (cc := cX12_isVolume) (maxL := 2) (ret := (some .boolean)) (by decide) rfl ?_
  intro p e s m args below meth c s₁ B hml hv
  obtain ⟨rfl, hsz⟩ := hv
  have hx := B.exec
  have hb := B.bytes
  have hr := B.returns
  have hts := atoms_spec (ws := (jk yX12_isVolume cX12_isVolume 2 (some .boolean))) B.pre
  have hown : s.vm.findClass RX12 = some m.cls := findClass_of_methodNamed B.named
  have hlocks := B.notSynchronized
  subst hsz
  have hP : va_P (dC, dI) vwCl [] s.heap := fun k q h => by simp at h
  generalize hAe : (va_A [] s.heap.size) = A
  have hA : ∀ q : Nat, s.heap.size ≤ q → A q := fun q h => by rw [← hAe]; exact Or.inr h
  have hS : va_S A s.heap s.heap [] := va_S.rf
  have hl := lv_entry ([.ref h0, .int p1]) (n := 2) (Nat.le_of_ble_eq_true rfl)
  rw [lg_entry_eq]
  generalize (lg_sl ([.ref h0, .int p1]) ++ List.replicate (2 - (lg_sl ([.ref h0, .int p1])).length) Slot.unset).toArray = ls at hl ⊢
  have hl : lv_has ls 2 [(0, .ref h0), (1, .int p1)] := hl
  refine lv_iload_n hx hb dX12_isVolume_0 rfl (lv_at hl 1 rfl) ?_
  refine lv_if_lt (tgt := 14) hx hb dX12_isVolume_1 (by decide) (fun c_1 => ?_) (fun c_1 => ?_)
  · refine lv_iconst (v := 0) hx hb dX12_isVolume_14 (by decide) ?_
    exact W.zret (v := 0) (ty := .boolean) hx hb hr rfl (fun t ht hW => ⟨⟨0, (), rfl, (Or.inl ⟨c_1, rfl⟩), trivial⟩, hS.F ht⟩) hS.2.2 dX12_isVolume_15
  · refine lv_iload_n hx hb dX12_isVolume_4 rfl (lv_at hl 1 rfl) ?_
    refine lv_bipush (v := 6) hx hb dX12_isVolume_5 (by decide) ?_
    refine lv_icmp_ge (tgt := 14) hx hb dX12_isVolume_7 (by decide) (fun c_2 => ?_) (fun c_2 => ?_)
    · refine lv_iconst (v := 0) hx hb dX12_isVolume_14 (by decide) ?_
      exact W.zret (v := 0) (ty := .boolean) hx hb hr rfl (fun t ht hW => ⟨⟨0, (), rfl, (Or.inr (Or.inl ⟨c_1, c_2, rfl⟩)), trivial⟩, hS.F ht⟩) hS.2.2 dX12_isVolume_15
    · refine lv_iconst (v := 1) hx hb dX12_isVolume_10 (by decide) ?_
      refine lv_goto (tgt := 15) hx hb dX12_isVolume_11 (by decide) ?_
      exact W.zret (v := 1) (ty := .boolean) hx hb hr rfl (fun t ht hW => ⟨⟨1, (), rfl, (Or.inr (Or.inr ⟨c_1, c_2, rfl⟩)), trivial⟩, hS.F ht⟩) hS.2.2 dX12_isVolume_15
set_option maxHeartbeats 500000 in
set_option maxRecDepth 100000 in
theorem kX12_isSet_3 (l : Launch) (dC : Nat → ClassId) (dI : Nat → Nat → Nat) (sz : Nat) (ad : Nat → Nat) (ca : Nat → ClassId) (p1 : Int32) : Met l yX12_isSet (jk yX12_isSet cX12_isSet 2 (some .boolean)) ({ frames := 0, cells := 0, slots := 0, locals := 0 }) (va_Pc [.ref (ad 0), .int p1] (jw_P (dC, dI) (xW ad ca) (xT ca) sz)) (va_Qi (fun (r : Int32) (_ : Unit) => (r = 0) ∨ (¬ (p1 < 0) ∧ ¬ (((0 >>> (p1 &&& 31)) &&& 1) = 0) ∧ r = 1)) (fun _ _ => True) (va_A [] sz)) 0 0 (va_A [] sz) := by
  refine Met.ofW (cc := cX12_isSet) (maxL := 2) (ret := (some .boolean)) (by decide) rfl ?_
  intro p e s m args below meth c s₁ B hml hv
  obtain ⟨rfl, hsz, hP, hK, hD0⟩ := hv
  have hx := B.exec
  have hb := B.bytes
  have hr := B.returns
  have hts := atoms_spec (ws := (jk yX12_isSet cX12_isSet 2 (some .boolean))) B.pre
  have hown : s.vm.findClass RX12 = some m.cls := findClass_of_methodNamed B.named
  have hlocks := B.notSynchronized
  subst hsz
  have hD := hD0
  generalize hAe : (va_A [] s.heap.size) = A
  have hA : ∀ q : Nat, s.heap.size ≤ q → A q := fun q h => by rw [← hAe]; exact Or.inr h
  have hS : va_S A s.heap s.heap [] := va_S.rf
  have hP : va_P (dC, dI) vwCl (xW ad ca) s.heap := hP
  have hl := lv_entry ([.ref (ad 0), .int p1]) (n := 2) (Nat.le_of_ble_eq_true rfl)
  rw [lg_entry_eq]
  generalize (lg_sl ([.ref (ad 0), .int p1]) ++ List.replicate (2 - (lg_sl ([.ref (ad 0), .int p1])).length) Slot.unset).toArray = ls at hl ⊢
  have hl : lv_has ls 2 [(0, .ref (ad 0)), (1, .int p1)] := hl
  refine lv_iload_n hx hb dX12_isSet_0 rfl (lv_at hl 1 rfl) ?_
  refine lv_if_lt (tgt := 19) hx hb dX12_isSet_1 (by decide) (fun c_1 => ?_) (fun c_1 => ?_)
  · refine lv_iconst (v := 0) hx hb dX12_isSet_19 (by decide) ?_
    exact W.zret (v := 0) (ty := .boolean) hx hb hr rfl (fun t ht hW => ⟨⟨0, (), rfl, (Or.inl rfl), trivial⟩, hS.F ht⟩) hS.2.2 dX12_isSet_20
  · refine lv_aload_n hx hb dX12_isSet_4 rfl (lv_at hl 0 rfl) ?_
    refine va_get (D := (dC, dI)) (ci := 12) (v := .int 0) (C := RX12) (T := TX12) (N := 20) hx hb hts (jh hin_RX12) hown hK hP 0 rfl rfl 1 (by decide) (hts (.fieldLink RX12 158 "BookOfAll" "setBits" "I") (jm m_212)) (fun _ h9 => h9) rfl dX12_isSet_5 ?_
    refine lv_iload_n hx hb dX12_isSet_8 rfl (lv_at hl 1 rfl) ?_
    refine lv_ishr hx hb dX12_isSet_9 ?_
    refine lv_iconst (v := 1) hx hb dX12_isSet_10 (by decide) ?_
    refine lv_iand hx hb dX12_isSet_11 ?_
    refine lv_if_eq (tgt := 19) hx hb dX12_isSet_12 (by decide) (fun c_2 => ?_) (fun c_2 => ?_)
    · refine lv_iconst (v := 0) hx hb dX12_isSet_19 (by decide) ?_
      exact W.zret (v := 0) (ty := .boolean) hx hb hr rfl (fun t ht hW => ⟨⟨0, (), rfl, (Or.inl rfl), trivial⟩, hS.F ht⟩) hS.2.2 dX12_isSet_20
    · refine lv_iconst (v := 1) hx hb dX12_isSet_15 (by decide) ?_
      refine lv_goto (tgt := 20) hx hb dX12_isSet_16 (by decide) ?_
      exact W.zret (v := 1) (ty := .boolean) hx hb hr rfl (fun t ht hW => ⟨⟨1, (), rfl, (Or.inr ⟨c_1, c_2, rfl⟩), trivial⟩, hS.F ht⟩) hS.2.2 dX12_isSet_20
set_option maxHeartbeats 500000 in
set_option maxRecDepth 100000 in
theorem kX8_put_3 (l : Launch) (dC : Nat → ClassId) (dI : Nat → Nat → Nat) (sz : Nat) (ad : Nat → Nat) (ca : Nat → ClassId) (p1 : Int32) (p2 : Int32) : Met l yX8_put (jk yX8_put cX8_put 4 (some .int)) ({ frames := 0, cells := 0, slots := 0, locals := 0 }) (va_Pc [.ref (ad 11), .int p1, .int p2, .int 0] (jw_P (dC, dI) (xW ad ca) (xT ca) sz)) (va_Qi (fun (r : Int32) (_ : Unit) => (r = (-1))) (fun _ _ => True) (va_A [] sz)) 0 0 (va_A [] sz) := by
  refine Met.ofW (cc := cX8_put) (maxL := 4) (ret := (some .int)) (by decide) rfl ?_
  intro p e s m args below meth c s₁ B hml hv
  obtain ⟨rfl, hsz, hP, hK, hD0⟩ := hv
  have hx := B.exec
  have hb := B.bytes
  have hr := B.returns
  have hts := atoms_spec (ws := (jk yX8_put cX8_put 4 (some .int))) B.pre
  have hown : s.vm.findClass RX8 = some m.cls := findClass_of_methodNamed B.named
  have hlocks := B.notSynchronized
  subst hsz
  have hD := hD0
  generalize hAe : (va_A [] s.heap.size) = A
  have hA : ∀ q : Nat, s.heap.size ≤ q → A q := fun q h => by rw [← hAe]; exact Or.inr h
  have hS : va_S A s.heap s.heap [] := va_S.rf
  have hP : va_P (dC, dI) vwCl (xW ad ca) s.heap := hP
  have hl := lv_entry ([.ref (ad 11), .int p1, .int p2, .int 0]) (n := 4) (Nat.le_of_ble_eq_true rfl)
  rw [lg_entry_eq]
  generalize (lg_sl ([.ref (ad 11), .int p1, .int p2, .int 0]) ++ List.replicate (4 - (lg_sl ([.ref (ad 11), .int p1, .int p2, .int 0])).length) Slot.unset).toArray = ls at hl ⊢
  have hl : lv_has ls 4 [(0, .ref (ad 11)), (1, .int p1), (2, .int p2), (3, .int 0)] := hl
  refine lv_iload_n hx hb dX8_put_0 rfl (lv_at hl 1 rfl) ?_
  refine lv_if_lt (tgt := 28) hx hb dX8_put_1 (by decide) (fun c_1 => ?_) (fun c_1 => ?_)
  · refine lv_iconst (v := (-1)) hx hb dX8_put_28 (by decide) ?_
    exact W.iret (v := (-1)) hx hb hr (fun t ht hW => ⟨⟨(-1), (), rfl, rfl, trivial⟩, hS.F ht⟩) hS.2.2 dX8_put_29
  · refine lv_iload_n hx hb dX8_put_4 rfl (lv_at hl 1 rfl) ?_
    refine lv_aload_n hx hb dX8_put_5 rfl (lv_at hl 0 rfl) ?_
    refine va_get (D := (dC, dI)) (ci := 8) (v := .int 0) (C := RX8) (T := TX8) (N := 8) hx hb hts (jh hin_RX8) hown hK hP 11 rfl rfl 1 (by decide) (hts (.fieldLink RX8 33 "BookOfAll$Rules" "sheetCount" "I") (jm m_153)) (fun _ h9 => h9) rfl dX8_put_6 ?_
    refine lv_icmp_ge (tgt := 28) hx hb dX8_put_9 (by decide) (fun _ => ?_) (fun z => absurd (jb_ge (jl_nlt c_1) (by decide)) z)
    refine lv_iconst (v := (-1)) hx hb dX8_put_28 (by decide) ?_
    exact W.iret (v := (-1)) hx hb hr (fun t ht hW => ⟨⟨(-1), (), rfl, rfl, trivial⟩, hS.F ht⟩) hS.2.2 dX8_put_29
set_option maxHeartbeats 500000 in
set_option maxRecDepth 100000 in
theorem tX12_force (l : Launch) (dC : Nat → ClassId) (dI : Nat → Nat → Nat) (sz : Nat) (ad : Nat → Nat) (ca : Nat → ClassId) (p1 : Int32) (p2 : Int32) : Met l yX12_force (jk yX12_force cX12_force 5 (some .int)) ({ frames := 1, cells := 0, slots := 0, locals := 23 }) (va_Pc [.ref (ad 0), .int p1, .int p2] (jw_P (dC, dI) (xW ad ca) (xT ca) sz)) (va_Qi (fun (r : Int32) (_ : Unit) => (r = (-1))) (fun _ _ => True) (va_A [] sz)) 0 0 (va_A [] sz) := by
  refine Met.ofW (cc := cX12_force) (maxL := 5) (ret := (some .int)) (by decide) rfl ?_
  intro p e s m args below meth c s₁ B hml hv
  obtain ⟨rfl, hsz, hP, hK, hD0⟩ := hv
  have hx := B.exec
  have hb := B.bytes
  have hr := B.returns
  have hts := atoms_spec (ws := (jk yX12_force cX12_force 5 (some .int))) B.pre
  have hown : s.vm.findClass RX12 = some m.cls := findClass_of_methodNamed B.named
  have hlocks := B.notSynchronized
  subst hsz
  have hD := hD0
  generalize hAe : (va_A [] s.heap.size) = A
  have hA : ∀ q : Nat, s.heap.size ≤ q → A q := fun q h => by rw [← hAe]; exact Or.inr h
  have hS : va_S A s.heap s.heap [] := va_S.rf
  have hP : va_P (dC, dI) vwCl (xW ad ca) s.heap := hP
  have hl := lv_entry ([.ref (ad 0), .int p1, .int p2]) (n := 5) (Nat.le_of_ble_eq_true rfl)
  rw [lg_entry_eq]
  generalize (lg_sl ([.ref (ad 0), .int p1, .int p2]) ++ List.replicate (5 - (lg_sl ([.ref (ad 0), .int p1, .int p2])).length) Slot.unset).toArray = ls at hl ⊢
  have hl : lv_has ls 5 [(0, .ref (ad 0)), (1, .int p1), (2, .int p2)] := hl
  refine lv_iload_n hx hb dX12_force_0 rfl (lv_at hl 2 rfl) ?_
  refine lv_iconst (v := (-1)) hx hb dX12_force_1 (by decide) ?_
  refine lv_icmp_ne (tgt := 9) hx hb dX12_force_2 (by decide) (fun c_1 => ?_) (fun c_1 => ?_)
  · refine lv_iconst (v := 0) hx hb dX12_force_9 (by decide) ?_
    refine lv_istore_n (lv' := [(3, .int 0), (0, .ref (ad 0)), (1, .int p1), (2, .int p2)]) hx hb dX12_force_10 rfl hl (by decide) rfl (fun ls hl => ?_)
    refine lv_iload_n hx hb dX12_force_11 rfl (lv_at hl 0 rfl) ?_
    refine lv_if_ne (tgt := 33) hx hb dX12_force_12 (by decide) (fun z => absurd (by decide) z) (fun _ => ?_)
    refine lv_aload_n hx hb dX12_force_15 rfl (lv_at hl 1 rfl) ?_
    refine lv_iload_n hx hb dX12_force_16 rfl (lv_at hl 3 rfl) ?_
    refine jc_i (va_runV (As := [.int p2]) (rest := []) ⟨hx, hb, hml, hown, hts⟩ (kX12_isVolume_1 l dC dI _ (ad 0) p2) (cwV 1 hts (jgoodV m_207 m_208 m_209 m_210 m_211) rfl rfl rfl (by decide +kernel) ⟨Nat.le_of_ble_eq_true rfl, Nat.le_of_ble_eq_true rfl⟩) ⟨jw_blind0, va_recv hK hP (ci := 12) (q0 := 0) rfl rfl, fun U hU hW => ⟨rfl, congrArg Array.size hU⟩⟩ rfl rfl hl.1 rfl (lv_room (Nat.le_of_ble_eq_true rfl)) dX12_force_17 ⟨Nat.le_of_ble_eq_true rfl, Nat.le_of_ble_eq_true rfl⟩) hP hS hA (fun r_2 H locs hw_2 hP hS => ?_)
    rcases (show (p2 < 0 ∧ r_2 = 0) ∨ (¬ (p2 < 0) ∧ 6 ≤ p2 ∧ r_2 = 0) ∨ (¬ (p2 < 0) ∧ ¬ (6 ≤ p2) ∧ r_2 = 1) from hw_2) with ⟨c_3, e_3_0⟩ | ⟨c_4, c_5, e_5_1⟩ | ⟨c_6, c_7, e_7_2⟩
    · have e_3_0 := e_3_0.symm
      subst e_3_0
      refine lv_if_eq (tgt := 31) hx hb dX12_force_20 (by decide) (fun _ => ?_) (fun z => absurd (by decide) z)
      refine lv_iconst (v := (-1)) hx hb dX12_force_31 (by decide) ?_
      exact W.iret (v := (-1)) hx hb hr (fun t ht hW => ⟨⟨(-1), (), rfl, rfl, trivial⟩, hS.F ht⟩) hS.2.2 dX12_force_32
    · have e_5_1 := e_5_1.symm
      subst e_5_1
      refine lv_if_eq (tgt := 31) hx hb dX12_force_20 (by decide) (fun _ => ?_) (fun z => absurd (by decide) z)
      refine lv_iconst (v := (-1)) hx hb dX12_force_31 (by decide) ?_
      exact W.iret (v := (-1)) hx hb hr (fun t ht hW => ⟨⟨(-1), (), rfl, rfl, trivial⟩, hS.F ht⟩) hS.2.2 dX12_force_32
    · have e_7_2 := e_7_2.symm
      subst e_7_2
      refine lv_if_eq (tgt := 31) hx hb dX12_force_20 (by decide) (fun z => absurd z (by decide)) (fun _ => ?_)
      refine lv_aload_n hx hb dX12_force_23 rfl (lv_at hl 1 rfl) ?_
      refine lv_iload_n hx hb dX12_force_24 rfl (lv_at hl 3 rfl) ?_
      refine jc_i (va_runV (As := [.int p2]) (rest := []) ⟨hx, hb, hml, hown, hts⟩ (kX12_isSet_3 l dC dI _ ad ca p2) (cwV 1 hts (jgoodV m_213 m_214 m_215 m_210 m_216) rfl rfl rfl (by decide +kernel) ⟨Nat.le_of_ble_eq_true rfl, Nat.le_of_ble_eq_true rfl⟩) ⟨jw_blind, va_recv hK hP (ci := 12) (q0 := 0) rfl rfl, fun U hU hW => ⟨rfl, jw_of hU hW hP hK hD⟩⟩ rfl rfl hl.1 rfl (lv_room (Nat.le_of_ble_eq_true rfl)) dX12_force_25 ⟨Nat.le_of_ble_eq_true rfl, Nat.le_of_ble_eq_true rfl⟩) hP hS hA (fun r_8 H locs hw_8 hP hS => ?_)
      rcases (show (r_8 = 0) ∨ (¬ (p2 < 0) ∧ ¬ (((0 >>> (p2 &&& 31)) &&& 1) = 0) ∧ r_8 = 1) from hw_8) with e_8_0 | ⟨c_9, c_10, e_10_1⟩
      · have e_8_0 := e_8_0.symm
        subst e_8_0
        refine lv_if_eq (tgt := 33) hx hb dX12_force_28 (by decide) (fun _ => ?_) (fun z => absurd (by decide) z)
        refine lv_aload_n hx hb dX12_force_33 rfl (lv_at hl 1 rfl) ?_
        refine va_get (D := (dC, dI)) (ci := 12) (v := .ref (ad 11)) (C := RX12) (T := TX12) (N := 20) hx hb hts (jh hin_RX12) hown hK hP 0 rfl rfl 3 (by decide) (hts (.fieldLink RX12 19 "BookOfAll" "rules" "LBookOfAll$Rules;") (jm m_152)) (fun _ h9 => h9) rfl dX12_force_34 ?_
        refine lv_iload_n hx hb dX12_force_37 rfl (lv_at hl 2 rfl) ?_
        refine lv_iload_n hx hb dX12_force_38 rfl (lv_at hl 3 rfl) ?_
        refine lv_aload_n hx hb dX12_force_39 rfl (lv_at hl 1 rfl) ?_
        refine va_get (D := (dC, dI)) (ci := 12) (v := .int 0) (C := RX12) (T := TX12) (N := 20) hx hb hts (jh hin_RX12) hown hK hP 0 rfl rfl 0 (by decide) (hts (.fieldLink RX12 133 "BookOfAll" "now" "I") (jm m_217)) (fun _ h9 => h9) rfl dX12_force_40 ?_
        refine jc_i (va_runV (As := [.int p1, .int p2, .int 0]) (rest := []) ⟨hx, hb, hml, hown, hts⟩ (kX8_put_3 l dC dI _ ad ca p1 p2) (cwV 3 hts (jgoodV m_218 m_219 m_220 m_157 m_221) rfl rfl rfl (by decide +kernel) ⟨Nat.le_of_ble_eq_true rfl, Nat.le_of_ble_eq_true rfl⟩) ⟨jw_blind, va_recv hK hP (ci := 8) (q0 := 11) rfl rfl, fun U hU hW => ⟨rfl, jw_of hU hW hP hK hD⟩⟩ rfl rfl hl.1 rfl (lv_room (Nat.le_of_ble_eq_true rfl)) dX12_force_43 ⟨Nat.le_of_ble_eq_true rfl, Nat.le_of_ble_eq_true rfl⟩) hP hS hA (fun r_11 H locs hw_11 hP hS => ?_)
        have hw_11 : (-1) = r_11 := Eq.symm hw_11
        subst hw_11
        refine lv_istore (lv' := [(4, .int (-1)), (3, .int 0), (0, .ref (ad 0)), (1, .int p1), (2, .int p2)]) hx hb dX12_force_46 hl (by decide) rfl (fun ls hl => ?_)
        refine lv_iload hx hb dX12_force_48 (lv_at hl 0 rfl) ?_
        refine lv_iconst (v := (-1)) hx hb dX12_force_50 (by decide) ?_
        refine lv_icmp_eq (tgt := 62) hx hb dX12_force_51 (by decide) (fun _ => ?_) (fun z => absurd (by decide) z)
        refine lv_iload hx hb dX12_force_62 (lv_at hl 0 rfl) ?_
        exact W.iret (v := (-1)) hx hb hr (fun t ht hW => ⟨⟨(-1), (), rfl, rfl, trivial⟩, hS.F ht⟩) hS.2.2 dX12_force_64
      · have e_10_1 := e_10_1.symm
        subst e_10_1
        refine lv_if_eq (tgt := 33) hx hb dX12_force_28 (by decide) (fun z => absurd z (by decide)) (fun _ => ?_)
        refine lv_iconst (v := (-1)) hx hb dX12_force_31 (by decide) ?_
        exact W.iret (v := (-1)) hx hb hr (fun t ht hW => ⟨⟨(-1), (), rfl, rfl, trivial⟩, hS.F ht⟩) hS.2.2 dX12_force_32
  · refine lv_iconst (v := 1) hx hb dX12_force_5 (by decide) ?_
    refine lv_goto (tgt := 10) hx hb dX12_force_6 (by decide) ?_
    refine lv_istore_n (lv' := [(3, .int 1), (0, .ref (ad 0)), (1, .int p1), (2, .int p2)]) hx hb dX12_force_10 rfl hl (by decide) rfl (fun ls hl => ?_)
    refine lv_iload_n hx hb dX12_force_11 rfl (lv_at hl 0 rfl) ?_
    refine lv_if_ne (tgt := 33) hx hb dX12_force_12 (by decide) (fun _ => ?_) (fun z => absurd z (by decide))
    refine lv_aload_n hx hb dX12_force_33 rfl (lv_at hl 1 rfl) ?_
    refine va_get (D := (dC, dI)) (ci := 12) (v := .ref (ad 11)) (C := RX12) (T := TX12) (N := 20) hx hb hts (jh hin_RX12) hown hK hP 0 rfl rfl 3 (by decide) (hts (.fieldLink RX12 19 "BookOfAll" "rules" "LBookOfAll$Rules;") (jm m_152)) (fun _ h9 => h9) rfl dX12_force_34 ?_
    refine lv_iload_n hx hb dX12_force_37 rfl (lv_at hl 2 rfl) ?_
    refine lv_iload_n hx hb dX12_force_38 rfl (lv_at hl 3 rfl) ?_
    refine lv_aload_n hx hb dX12_force_39 rfl (lv_at hl 1 rfl) ?_
    refine va_get (D := (dC, dI)) (ci := 12) (v := .int 0) (C := RX12) (T := TX12) (N := 20) hx hb hts (jh hin_RX12) hown hK hP 0 rfl rfl 0 (by decide) (hts (.fieldLink RX12 133 "BookOfAll" "now" "I") (jm m_217)) (fun _ h9 => h9) rfl dX12_force_40 ?_
    refine jc_i (va_runV (As := [.int p1, .int p2, .int 0]) (rest := []) ⟨hx, hb, hml, hown, hts⟩ (kX8_put_3 l dC dI _ ad ca p1 p2) (cwV 3 hts (jgoodV m_218 m_219 m_220 m_157 m_221) rfl rfl rfl (by decide +kernel) ⟨Nat.le_of_ble_eq_true rfl, Nat.le_of_ble_eq_true rfl⟩) ⟨jw_blind, va_recv hK hP (ci := 8) (q0 := 11) rfl rfl, fun U hU hW => ⟨rfl, jw_of hU hW hP hK hD⟩⟩ rfl rfl hl.1 rfl (lv_room (Nat.le_of_ble_eq_true rfl)) dX12_force_43 ⟨Nat.le_of_ble_eq_true rfl, Nat.le_of_ble_eq_true rfl⟩) hP hS hA (fun r_12 H locs hw_12 hP hS => ?_)
    have hw_12 : (-1) = r_12 := Eq.symm hw_12
    subst hw_12
    refine lv_istore (lv' := [(4, .int (-1)), (3, .int 1), (0, .ref (ad 0)), (1, .int p1), (2, .int p2)]) hx hb dX12_force_46 hl (by decide) rfl (fun ls hl => ?_)
    refine lv_iload hx hb dX12_force_48 (lv_at hl 0 rfl) ?_
    refine lv_iconst (v := (-1)) hx hb dX12_force_50 (by decide) ?_
    refine lv_icmp_eq (tgt := 62) hx hb dX12_force_51 (by decide) (fun _ => ?_) (fun z => absurd (by decide) z)
    refine lv_iload hx hb dX12_force_62 (lv_at hl 0 rfl) ?_
    exact W.iret (v := (-1)) hx hb hr (fun t ht hW => ⟨⟨(-1), (), rfl, rfl, trivial⟩, hS.F ht⟩) hS.2.2 dX12_force_64
set_option maxHeartbeats 500000 in
set_option maxRecDepth 100000 in
theorem kX9_sortOf_1 (l : Launch) (dC : Nat → ClassId) (dI : Nat → Nat → Nat) (sz : Nat) (p0 : Int32) : Met l yX9_sortOf (jk yX9_sortOf cX9_sortOf 3 (some .int)) ({ frames := 0, cells := 0, slots := 0, locals := 0 }) (va_Pc [.int p0] (fun U => U.heap.size = sz)) (va_Qi (fun (r : Int32) (_ : Unit) => (r = (-1)) ∨ (¬ (p0 < 0) ∧ 4 < p0 ∧ ¬ (p0 < 10) ∧ ¬ (3 < (p0 / 10)) ∧ ¬ (2 < (p0 - p0 / 10 * 10)) ∧ r = ((5 + (3 * ((p0 / 10) - 1))) + (p0 - p0 / 10 * 10))) ∨ (¬ (p0 < 0) ∧ ¬ (4 < p0) ∧ r = p0)) (fun _ _ => True) (va_A [] sz)) 0 0 (va_A [] sz) := by
  refine Met.ofW (cc := cX9_sortOf) (maxL := 3) (ret := (some .int)) (by decide) rfl ?_
  intro p e s m args below meth c s₁ B hml hv
  obtain ⟨rfl, hsz⟩ := hv
  have hx := B.exec
  have hb := B.bytes
  have hr := B.returns
  have hts := atoms_spec (ws := (jk yX9_sortOf cX9_sortOf 3 (some .int))) B.pre
  have hown : s.vm.findClass RX9 = some m.cls := findClass_of_methodNamed B.named
  have hlocks := B.notSynchronized
  subst hsz
  have hP : va_P (dC, dI) vwCl [] s.heap := fun k q h => by simp at h
  generalize hAe : (va_A [] s.heap.size) = A
  have hA : ∀ q : Nat, s.heap.size ≤ q → A q := fun q h => by rw [← hAe]; exact Or.inr h
  have hS : va_S A s.heap s.heap [] := va_S.rf
  have hl := lv_entry ([.int p0]) (n := 3) (Nat.le_of_ble_eq_true rfl)
  rw [lg_entry_eq]
  generalize (lg_sl ([.int p0]) ++ List.replicate (3 - (lg_sl ([.int p0])).length) Slot.unset).toArray = ls at hl ⊢
  have hl : lv_has ls 3 [(0, .int p0)] := hl
  refine lv_iload_n hx hb dX9_sortOf_0 rfl (lv_at hl 0 rfl) ?_
  refine lv_if_lt (tgt := 11) hx hb dX9_sortOf_1 (by decide) (fun c_1 => ?_) (fun c_1 => ?_)
  · refine lv_iload_n hx hb dX9_sortOf_11 rfl (lv_at hl 0 rfl) ?_
    refine lv_bipush (v := 10) hx hb dX9_sortOf_12 (by decide) ?_
    refine lv_idiv hx hb dX9_sortOf_14 (by decide) ?_
    refine lv_istore_n (lv' := [(1, .int (p0 / 10)), (0, .int p0)]) hx hb dX9_sortOf_15 rfl hl (by decide) rfl (fun ls hl => ?_)
    refine lv_iload_n hx hb dX9_sortOf_16 rfl (lv_at hl 1 rfl) ?_
    refine lv_bipush (v := 10) hx hb dX9_sortOf_17 (by decide) ?_
    refine lv_irem hx hb dX9_sortOf_19 (by decide) ?_
    refine lv_istore_n (lv' := [(2, .int (p0 - p0 / 10 * 10)), (1, .int (p0 / 10)), (0, .int p0)]) hx hb dX9_sortOf_20 rfl hl (by decide) rfl (fun ls hl => ?_)
    refine lv_iload_n hx hb dX9_sortOf_21 rfl (lv_at hl 2 rfl) ?_
    refine lv_bipush (v := 10) hx hb dX9_sortOf_22 (by decide) ?_
    refine lv_icmp_lt (tgt := 49) hx hb dX9_sortOf_24 (by decide) (fun _ => ?_) (fun z => absurd (jb_lt (jl_lt (d := (-1)) c_1 (by decide)) (by decide)) z)
    refine lv_iconst (v := (-1)) hx hb dX9_sortOf_49 (by decide) ?_
    exact W.iret (v := (-1)) hx hb hr (fun t ht hW => ⟨⟨(-1), (), rfl, (Or.inl rfl), trivial⟩, hS.F ht⟩) hS.2.2 dX9_sortOf_50
  · refine lv_iload_n hx hb dX9_sortOf_4 rfl (lv_at hl 0 rfl) ?_
    refine lv_iconst (v := 4) hx hb dX9_sortOf_5 (by decide) ?_
    refine lv_icmp_gt (tgt := 11) hx hb dX9_sortOf_6 (by decide) (fun c_2 => ?_) (fun c_2 => ?_)
    · refine lv_iload_n hx hb dX9_sortOf_11 rfl (lv_at hl 0 rfl) ?_
      refine lv_bipush (v := 10) hx hb dX9_sortOf_12 (by decide) ?_
      refine lv_idiv hx hb dX9_sortOf_14 (by decide) ?_
      refine lv_istore_n (lv' := [(1, .int (p0 / 10)), (0, .int p0)]) hx hb dX9_sortOf_15 rfl hl (by decide) rfl (fun ls hl => ?_)
      refine lv_iload_n hx hb dX9_sortOf_16 rfl (lv_at hl 1 rfl) ?_
      refine lv_bipush (v := 10) hx hb dX9_sortOf_17 (by decide) ?_
      refine lv_irem hx hb dX9_sortOf_19 (by decide) ?_
      refine lv_istore_n (lv' := [(2, .int (p0 - p0 / 10 * 10)), (1, .int (p0 / 10)), (0, .int p0)]) hx hb dX9_sortOf_20 rfl hl (by decide) rfl (fun ls hl => ?_)
      refine lv_iload_n hx hb dX9_sortOf_21 rfl (lv_at hl 2 rfl) ?_
      refine lv_bipush (v := 10) hx hb dX9_sortOf_22 (by decide) ?_
      refine lv_icmp_lt (tgt := 49) hx hb dX9_sortOf_24 (by decide) (fun c_3 => ?_) (fun c_3 => ?_)
      · refine lv_iconst (v := (-1)) hx hb dX9_sortOf_49 (by decide) ?_
        exact W.iret (v := (-1)) hx hb hr (fun t ht hW => ⟨⟨(-1), (), rfl, (Or.inl rfl), trivial⟩, hS.F ht⟩) hS.2.2 dX9_sortOf_50
      · refine lv_iload_n hx hb dX9_sortOf_27 rfl (lv_at hl 1 rfl) ?_
        refine lv_iconst (v := 3) hx hb dX9_sortOf_28 (by decide) ?_
        refine lv_icmp_gt (tgt := 49) hx hb dX9_sortOf_29 (by decide) (fun c_4 => ?_) (fun c_4 => ?_)
        · refine lv_iconst (v := (-1)) hx hb dX9_sortOf_49 (by decide) ?_
          exact W.iret (v := (-1)) hx hb hr (fun t ht hW => ⟨⟨(-1), (), rfl, (Or.inl rfl), trivial⟩, hS.F ht⟩) hS.2.2 dX9_sortOf_50
        · refine lv_iload_n hx hb dX9_sortOf_32 rfl (lv_at hl 0 rfl) ?_
          refine lv_iconst (v := 2) hx hb dX9_sortOf_33 (by decide) ?_
          refine lv_icmp_gt (tgt := 49) hx hb dX9_sortOf_34 (by decide) (fun c_5 => ?_) (fun c_5 => ?_)
          · refine lv_iconst (v := (-1)) hx hb dX9_sortOf_49 (by decide) ?_
            exact W.iret (v := (-1)) hx hb hr (fun t ht hW => ⟨⟨(-1), (), rfl, (Or.inl rfl), trivial⟩, hS.F ht⟩) hS.2.2 dX9_sortOf_50
          · refine lv_iconst (v := 5) hx hb dX9_sortOf_37 (by decide) ?_
            refine lv_iconst (v := 3) hx hb dX9_sortOf_38 (by decide) ?_
            refine lv_iload_n hx hb dX9_sortOf_39 rfl (lv_at hl 1 rfl) ?_
            refine lv_iconst (v := 1) hx hb dX9_sortOf_40 (by decide) ?_
            refine lv_isub hx hb dX9_sortOf_41 ?_
            refine lv_imul hx hb dX9_sortOf_42 ?_
            refine lv_iadd hx hb dX9_sortOf_43 ?_
            refine lv_iload_n hx hb dX9_sortOf_44 rfl (lv_at hl 0 rfl) ?_
            refine lv_iadd hx hb dX9_sortOf_45 ?_
            refine lv_goto (tgt := 50) hx hb dX9_sortOf_46 (by decide) ?_
            exact W.iret (v := ((5 + (3 * ((p0 / 10) - 1))) + (p0 - p0 / 10 * 10))) hx hb hr (fun t ht hW => ⟨⟨((5 + (3 * ((p0 / 10) - 1))) + (p0 - p0 / 10 * 10)), (), rfl, (Or.inr (Or.inl ⟨c_1, c_2, c_3, c_4, c_5, rfl⟩)), trivial⟩, hS.F ht⟩) hS.2.2 dX9_sortOf_50
    · refine lv_iload_n hx hb dX9_sortOf_9 rfl (lv_at hl 0 rfl) ?_
      exact W.iret (v := p0) hx hb hr (fun t ht hW => ⟨⟨p0, (), rfl, (Or.inr (Or.inr ⟨c_1, c_2, rfl⟩)), trivial⟩, hS.F ht⟩) hS.2.2 dX9_sortOf_10
set_option maxHeartbeats 500000 in
set_option maxRecDepth 100000 in
theorem kX8_inForce_3 (l : Launch) (dC : Nat → ClassId) (dI : Nat → Nat → Nat) (sz : Nat) (ad : Nat → Nat) (ca : Nat → ClassId) (p1 : Int32) (p2 : Int32) (p3 : Int32) : Met l yX8_inForce (jk yX8_inForce cX8_inForce 6 (some .int)) ({ frames := 0, cells := 0, slots := 0, locals := 0 }) (va_Pc [.ref (ad 11), .int p1, .int p2, .int p3] (jw_P (dC, dI) (xW ad ca) (xT ca) sz)) (va_Qi (fun (r : Int32) (_ : Unit) => (r = (-1))) (fun _ _ => True) (va_A [] sz)) 0 0 (va_A [] sz) := by
  refine Met.ofW (cc := cX8_inForce) (maxL := 6) (ret := (some .int)) (by decide) rfl ?_
  intro p e s m args below meth c s₁ B hml hv
  obtain ⟨rfl, hsz, hP, hK, hD0⟩ := hv
  have hx := B.exec
  have hb := B.bytes
  have hr := B.returns
  have hts := atoms_spec (ws := (jk yX8_inForce cX8_inForce 6 (some .int))) B.pre
  have hown : s.vm.findClass RX8 = some m.cls := findClass_of_methodNamed B.named
  have hlocks := B.notSynchronized
  subst hsz
  have hD := hD0
  generalize hAe : (va_A [] s.heap.size) = A
  have hA : ∀ q : Nat, s.heap.size ≤ q → A q := fun q h => by rw [← hAe]; exact Or.inr h
  have hS : va_S A s.heap s.heap [] := va_S.rf
  have hP : va_P (dC, dI) vwCl (xW ad ca) s.heap := hP
  have hl := lv_entry ([.ref (ad 11), .int p1, .int p2, .int p3]) (n := 6) (Nat.le_of_ble_eq_true rfl)
  rw [lg_entry_eq]
  generalize (lg_sl ([.ref (ad 11), .int p1, .int p2, .int p3]) ++ List.replicate (6 - (lg_sl ([.ref (ad 11), .int p1, .int p2, .int p3])).length) Slot.unset).toArray = ls at hl ⊢
  have hl : lv_has ls 6 [(0, .ref (ad 11)), (1, .int p1), (2, .int p2), (3, .int p3)] := hl
  refine lv_aload_n hx hb dX8_inForce_0 rfl (lv_at hl 0 rfl) ?_
  refine va_get (D := (dC, dI)) (ci := 8) (v := .int 0) (C := RX8) (T := TX8) (N := 8) hx hb hts (jh hin_RX8) hown hK hP 11 rfl rfl 5 (by decide) (hts (.fieldLink RX8 37 "BookOfAll$Rules" "puts" "I") (jm m_225)) (fun _ h9 => h9) rfl dX8_inForce_1 ?_
  refine lv_iconst (v := 1) hx hb dX8_inForce_4 (by decide) ?_
  refine lv_isub hx hb dX8_inForce_5 ?_
  refine jt_i (-1) (by decide) ?_
  refine lv_istore (lv' := [(4, .int (-1)), (0, .ref (ad 11)), (1, .int p1), (2, .int p2), (3, .int p3)]) hx hb dX8_inForce_6 hl (by decide) rfl (fun ls hl => ?_)
  refine lv_iload hx hb dX8_inForce_8 (lv_at hl 0 rfl) ?_
  refine lv_if_lt (tgt := 51) hx hb dX8_inForce_10 (by decide) (fun _ => ?_) (fun z => absurd (by decide) z)
  refine lv_iconst (v := (-1)) hx hb dX8_inForce_51 (by decide) ?_
  exact W.iret (v := (-1)) hx hb hr (fun t ht hW => ⟨⟨(-1), (), rfl, rfl, trivial⟩, hS.F ht⟩) hS.2.2 dX8_inForce_52
set_option maxHeartbeats 500000 in
set_option maxRecDepth 100000 in
theorem tX12_rule (l : Launch) (dC : Nat → ClassId) (dI : Nat → Nat → Nat) (sz : Nat) (ad : Nat → Nat) (ca : Nat → ClassId) (p1 : Int32) (p2 : Int32) (p3 : Int32) : Met l yX12_rule (jk yX12_rule cX12_rule 5 (some .int)) ({ frames := 1, cells := 0, slots := 0, locals := 25 }) (va_Pc [.ref (ad 0), .int p1, .int p2, .int p3] (jw_P (dC, dI) (xW ad ca) (xT ca) sz)) (va_Qi (fun (r : Int32) (_ : Unit) => (r = (-1))) (fun _ _ => True) (va_A [] sz)) 0 0 (va_A [] sz) := by
  refine Met.ofW (cc := cX12_rule) (maxL := 5) (ret := (some .int)) (by decide) rfl ?_
  intro p e s m args below meth c s₁ B hml hv
  obtain ⟨rfl, hsz, hP, hK, hD0⟩ := hv
  have hx := B.exec
  have hb := B.bytes
  have hr := B.returns
  have hts := atoms_spec (ws := (jk yX12_rule cX12_rule 5 (some .int))) B.pre
  have hown : s.vm.findClass RX12 = some m.cls := findClass_of_methodNamed B.named
  have hlocks := B.notSynchronized
  subst hsz
  have hD := hD0
  generalize hAe : (va_A [] s.heap.size) = A
  have hA : ∀ q : Nat, s.heap.size ≤ q → A q := fun q h => by rw [← hAe]; exact Or.inr h
  have hS : va_S A s.heap s.heap [] := va_S.rf
  have hP : va_P (dC, dI) vwCl (xW ad ca) s.heap := hP
  have hl := lv_entry ([.ref (ad 0), .int p1, .int p2, .int p3]) (n := 5) (Nat.le_of_ble_eq_true rfl)
  rw [lg_entry_eq]
  generalize (lg_sl ([.ref (ad 0), .int p1, .int p2, .int p3]) ++ List.replicate (5 - (lg_sl ([.ref (ad 0), .int p1, .int p2, .int p3])).length) Slot.unset).toArray = ls at hl ⊢
  have hl : lv_has ls 5 [(0, .ref (ad 0)), (1, .int p1), (2, .int p2), (3, .int p3)] := hl
  refine lv_iload_n hx hb dX12_rule_0 rfl (lv_at hl 1 rfl) ?_
  refine jc_i (va_runS (As := [.int p1]) (rest := []) ⟨hx, hb, hml, hown, hts⟩ (kX9_sortOf_1 l dC dI _ p1) (va_cwS 1 hts (jgoodS m_222 m_223 m_161 m_224) rfl rfl rfl (by decide +kernel) ⟨Nat.le_of_ble_eq_true rfl, Nat.le_of_ble_eq_true rfl⟩) ⟨jw_blind0, fun U hU hW => ⟨rfl, congrArg Array.size hU⟩⟩ rfl rfl hl.1 rfl (lv_room (Nat.le_of_ble_eq_true rfl)) dX12_rule_1 ⟨Nat.le_of_ble_eq_true rfl, Nat.le_of_ble_eq_true rfl⟩) hP hS hA (fun r_1 H locs hw_1 hP hS => ?_)
  rcases (show (r_1 = (-1)) ∨ (¬ (p1 < 0) ∧ 4 < p1 ∧ ¬ (p1 < 10) ∧ ¬ (3 < (p1 / 10)) ∧ ¬ (2 < (p1 - p1 / 10 * 10)) ∧ r_1 = ((5 + (3 * ((p1 / 10) - 1))) + (p1 - p1 / 10 * 10))) ∨ (¬ (p1 < 0) ∧ ¬ (4 < p1) ∧ r_1 = p1) from hw_1) with e_1_0 | ⟨c_2, c_3, c_4, c_5, c_6, e_6_1⟩ | ⟨c_7, c_8, e_8_2⟩
  · have e_1_0 := e_1_0.symm
    subst e_1_0
    refine lv_istore (lv' := [(4, .int (-1)), (0, .ref (ad 0)), (1, .int p1), (2, .int p2), (3, .int p3)]) hx hb dX12_rule_4 hl (by decide) rfl (fun ls hl => ?_)
    refine lv_iload hx hb dX12_rule_6 (lv_at hl 0 rfl) ?_
    refine lv_iconst (v := (-1)) hx hb dX12_rule_8 (by decide) ?_
    refine lv_icmp_eq (tgt := 32) hx hb dX12_rule_9 (by decide) (fun _ => ?_) (fun z => absurd (by decide) z)
    refine lv_iconst (v := (-1)) hx hb dX12_rule_32 (by decide) ?_
    exact W.iret (v := (-1)) hx hb hr (fun t ht hW => ⟨⟨(-1), (), rfl, rfl, trivial⟩, hS.F ht⟩) hS.2.2 dX12_rule_33
  · have e_6_1 := e_6_1.symm
    subst e_6_1
    refine lv_istore (lv' := [(4, .int ((5 + (3 * ((p1 / 10) - 1))) + (p1 - p1 / 10 * 10))), (0, .ref (ad 0)), (1, .int p1), (2, .int p2), (3, .int p3)]) hx hb dX12_rule_4 hl (by decide) rfl (fun ls hl => ?_)
    refine lv_iload hx hb dX12_rule_6 (lv_at hl 0 rfl) ?_
    refine lv_iconst (v := (-1)) hx hb dX12_rule_8 (by decide) ?_
    refine lv_icmp_eq (tgt := 32) hx hb dX12_rule_9 (by decide) (fun c_9 => ?_) (fun c_9 => ?_)
    · refine lv_iconst (v := (-1)) hx hb dX12_rule_32 (by decide) ?_
      exact W.iret (v := (-1)) hx hb hr (fun t ht hW => ⟨⟨(-1), (), rfl, rfl, trivial⟩, hS.F ht⟩) hS.2.2 dX12_rule_33
    · refine lv_aload_n hx hb dX12_rule_12 rfl (lv_at hl 1 rfl) ?_
      refine lv_iload_n hx hb dX12_rule_13 rfl (lv_at hl 3 rfl) ?_
      refine jc_i (va_runV (As := [.int p2]) (rest := []) ⟨hx, hb, hml, hown, hts⟩ (kX12_isVolume_1 l dC dI _ (ad 0) p2) (cwV 1 hts (jgoodV m_207 m_208 m_209 m_210 m_211) rfl rfl rfl (by decide +kernel) ⟨Nat.le_of_ble_eq_true rfl, Nat.le_of_ble_eq_true rfl⟩) ⟨jw_blind0, va_recv hK hP (ci := 12) (q0 := 0) rfl rfl, fun U hU hW => ⟨rfl, congrArg Array.size hU⟩⟩ rfl rfl hl.1 rfl (lv_room (Nat.le_of_ble_eq_true rfl)) dX12_rule_14 ⟨Nat.le_of_ble_eq_true rfl, Nat.le_of_ble_eq_true rfl⟩) hP hS hA (fun r_10 H locs hw_10 hP hS => ?_)
      rcases (show (p2 < 0 ∧ r_10 = 0) ∨ (¬ (p2 < 0) ∧ 6 ≤ p2 ∧ r_10 = 0) ∨ (¬ (p2 < 0) ∧ ¬ (6 ≤ p2) ∧ r_10 = 1) from hw_10) with ⟨c_11, e_11_0⟩ | ⟨c_12, c_13, e_13_1⟩ | ⟨c_14, c_15, e_15_2⟩
      · have e_11_0 := e_11_0.symm
        subst e_11_0
        refine lv_if_eq (tgt := 32) hx hb dX12_rule_17 (by decide) (fun _ => ?_) (fun z => absurd (by decide) z)
        refine lv_iconst (v := (-1)) hx hb dX12_rule_32 (by decide) ?_
        exact W.iret (v := (-1)) hx hb hr (fun t ht hW => ⟨⟨(-1), (), rfl, rfl, trivial⟩, hS.F ht⟩) hS.2.2 dX12_rule_33
      · have e_13_1 := e_13_1.symm
        subst e_13_1
        refine lv_if_eq (tgt := 32) hx hb dX12_rule_17 (by decide) (fun _ => ?_) (fun z => absurd (by decide) z)
        refine lv_iconst (v := (-1)) hx hb dX12_rule_32 (by decide) ?_
        exact W.iret (v := (-1)) hx hb hr (fun t ht hW => ⟨⟨(-1), (), rfl, rfl, trivial⟩, hS.F ht⟩) hS.2.2 dX12_rule_33
      · have e_15_2 := e_15_2.symm
        subst e_15_2
        refine lv_if_eq (tgt := 32) hx hb dX12_rule_17 (by decide) (fun z => absurd z (by decide)) (fun _ => ?_)
        refine lv_iload_n hx hb dX12_rule_20 rfl (lv_at hl 4 rfl) ?_
        refine lv_if_lt (tgt := 32) hx hb dX12_rule_21 (by decide) (fun c_16 => ?_) (fun c_16 => ?_)
        · refine lv_iconst (v := (-1)) hx hb dX12_rule_32 (by decide) ?_
          exact W.iret (v := (-1)) hx hb hr (fun t ht hW => ⟨⟨(-1), (), rfl, rfl, trivial⟩, hS.F ht⟩) hS.2.2 dX12_rule_33
        · refine lv_iload_n hx hb dX12_rule_24 rfl (lv_at hl 4 rfl) ?_
          refine lv_aload_n hx hb dX12_rule_25 rfl (lv_at hl 1 rfl) ?_
          refine va_get (D := (dC, dI)) (ci := 12) (v := .int 0) (C := RX12) (T := TX12) (N := 20) hx hb hts (jh hin_RX12) hown hK hP 0 rfl rfl 0 (by decide) (hts (.fieldLink RX12 133 "BookOfAll" "now" "I") (jm m_217)) (fun _ h9 => h9) rfl dX12_rule_26 ?_
          refine lv_icmp_le (tgt := 34) hx hb dX12_rule_29 (by decide) (fun c_17 => ?_) (fun c_17 => ?_)
          · refine lv_aload_n hx hb dX12_rule_34 rfl (lv_at hl 1 rfl) ?_
            refine va_get (D := (dC, dI)) (ci := 12) (v := .ref (ad 11)) (C := RX12) (T := TX12) (N := 20) hx hb hts (jh hin_RX12) hown hK hP 0 rfl rfl 3 (by decide) (hts (.fieldLink RX12 19 "BookOfAll" "rules" "LBookOfAll$Rules;") (jm m_152)) (fun _ h9 => h9) rfl dX12_rule_35 ?_
            refine lv_iload hx hb dX12_rule_38 (lv_at hl 0 rfl) ?_
            refine lv_iload_n hx hb dX12_rule_40 rfl (lv_at hl 3 rfl) ?_
            refine lv_iload_n hx hb dX12_rule_41 rfl (lv_at hl 4 rfl) ?_
            refine jc_i (va_runV (As := [.int ((5 + (3 * ((p1 / 10) - 1))) + (p1 - p1 / 10 * 10)), .int p2, .int p3]) (rest := []) ⟨hx, hb, hml, hown, hts⟩ (kX8_inForce_3 l dC dI _ ad ca ((5 + (3 * ((p1 / 10) - 1))) + (p1 - p1 / 10 * 10)) p2 p3) (cwV 3 hts (jgoodV m_226 m_227 m_228 m_157 m_229) rfl rfl rfl (by decide +kernel) ⟨Nat.le_of_ble_eq_true rfl, Nat.le_of_ble_eq_true rfl⟩) ⟨jw_blind, va_recv hK hP (ci := 8) (q0 := 11) rfl rfl, fun U hU hW => ⟨rfl, jw_of hU hW hP hK hD⟩⟩ rfl rfl hl.1 rfl (lv_room (Nat.le_of_ble_eq_true rfl)) dX12_rule_42 ⟨Nat.le_of_ble_eq_true rfl, Nat.le_of_ble_eq_true rfl⟩) hP hS hA (fun r_18 H locs hw_18 hP hS => ?_)
            have hw_18 : (-1) = r_18 := Eq.symm hw_18
            subst hw_18
            exact W.iret (v := (-1)) hx hb hr (fun t ht hW => ⟨⟨(-1), (), rfl, rfl, trivial⟩, hS.F ht⟩) hS.2.2 dX12_rule_45
          · refine lv_iconst (v := (-1)) hx hb dX12_rule_32 (by decide) ?_
            exact W.iret (v := (-1)) hx hb hr (fun t ht hW => ⟨⟨(-1), (), rfl, rfl, trivial⟩, hS.F ht⟩) hS.2.2 dX12_rule_33
  · have e_8_2 := e_8_2.symm
    subst e_8_2
    refine lv_istore (lv' := [(4, .int p1), (0, .ref (ad 0)), (1, .int p1), (2, .int p2), (3, .int p3)]) hx hb dX12_rule_4 hl (by decide) rfl (fun ls hl => ?_)
    refine lv_iload hx hb dX12_rule_6 (lv_at hl 0 rfl) ?_
    refine lv_iconst (v := (-1)) hx hb dX12_rule_8 (by decide) ?_
    refine lv_icmp_eq (tgt := 32) hx hb dX12_rule_9 (by decide) (fun z => absurd z (jb_ne2 (jl_nlt c_7) (by decide))) (fun _ => ?_)
    refine lv_aload_n hx hb dX12_rule_12 rfl (lv_at hl 1 rfl) ?_
    refine lv_iload_n hx hb dX12_rule_13 rfl (lv_at hl 3 rfl) ?_
    refine jc_i (va_runV (As := [.int p2]) (rest := []) ⟨hx, hb, hml, hown, hts⟩ (kX12_isVolume_1 l dC dI _ (ad 0) p2) (cwV 1 hts (jgoodV m_207 m_208 m_209 m_210 m_211) rfl rfl rfl (by decide +kernel) ⟨Nat.le_of_ble_eq_true rfl, Nat.le_of_ble_eq_true rfl⟩) ⟨jw_blind0, va_recv hK hP (ci := 12) (q0 := 0) rfl rfl, fun U hU hW => ⟨rfl, congrArg Array.size hU⟩⟩ rfl rfl hl.1 rfl (lv_room (Nat.le_of_ble_eq_true rfl)) dX12_rule_14 ⟨Nat.le_of_ble_eq_true rfl, Nat.le_of_ble_eq_true rfl⟩) hP hS hA (fun r_19 H locs hw_19 hP hS => ?_)
    rcases (show (p2 < 0 ∧ r_19 = 0) ∨ (¬ (p2 < 0) ∧ 6 ≤ p2 ∧ r_19 = 0) ∨ (¬ (p2 < 0) ∧ ¬ (6 ≤ p2) ∧ r_19 = 1) from hw_19) with ⟨c_20, e_20_0⟩ | ⟨c_21, c_22, e_22_1⟩ | ⟨c_23, c_24, e_24_2⟩
    · have e_20_0 := e_20_0.symm
      subst e_20_0
      refine lv_if_eq (tgt := 32) hx hb dX12_rule_17 (by decide) (fun _ => ?_) (fun z => absurd (by decide) z)
      refine lv_iconst (v := (-1)) hx hb dX12_rule_32 (by decide) ?_
      exact W.iret (v := (-1)) hx hb hr (fun t ht hW => ⟨⟨(-1), (), rfl, rfl, trivial⟩, hS.F ht⟩) hS.2.2 dX12_rule_33
    · have e_22_1 := e_22_1.symm
      subst e_22_1
      refine lv_if_eq (tgt := 32) hx hb dX12_rule_17 (by decide) (fun _ => ?_) (fun z => absurd (by decide) z)
      refine lv_iconst (v := (-1)) hx hb dX12_rule_32 (by decide) ?_
      exact W.iret (v := (-1)) hx hb hr (fun t ht hW => ⟨⟨(-1), (), rfl, rfl, trivial⟩, hS.F ht⟩) hS.2.2 dX12_rule_33
    · have e_24_2 := e_24_2.symm
      subst e_24_2
      refine lv_if_eq (tgt := 32) hx hb dX12_rule_17 (by decide) (fun z => absurd z (by decide)) (fun _ => ?_)
      refine lv_iload_n hx hb dX12_rule_20 rfl (lv_at hl 4 rfl) ?_
      refine lv_if_lt (tgt := 32) hx hb dX12_rule_21 (by decide) (fun c_25 => ?_) (fun c_25 => ?_)
      · refine lv_iconst (v := (-1)) hx hb dX12_rule_32 (by decide) ?_
        exact W.iret (v := (-1)) hx hb hr (fun t ht hW => ⟨⟨(-1), (), rfl, rfl, trivial⟩, hS.F ht⟩) hS.2.2 dX12_rule_33
      · refine lv_iload_n hx hb dX12_rule_24 rfl (lv_at hl 4 rfl) ?_
        refine lv_aload_n hx hb dX12_rule_25 rfl (lv_at hl 1 rfl) ?_
        refine va_get (D := (dC, dI)) (ci := 12) (v := .int 0) (C := RX12) (T := TX12) (N := 20) hx hb hts (jh hin_RX12) hown hK hP 0 rfl rfl 0 (by decide) (hts (.fieldLink RX12 133 "BookOfAll" "now" "I") (jm m_217)) (fun _ h9 => h9) rfl dX12_rule_26 ?_
        refine lv_icmp_le (tgt := 34) hx hb dX12_rule_29 (by decide) (fun c_26 => ?_) (fun c_26 => ?_)
        · refine lv_aload_n hx hb dX12_rule_34 rfl (lv_at hl 1 rfl) ?_
          refine va_get (D := (dC, dI)) (ci := 12) (v := .ref (ad 11)) (C := RX12) (T := TX12) (N := 20) hx hb hts (jh hin_RX12) hown hK hP 0 rfl rfl 3 (by decide) (hts (.fieldLink RX12 19 "BookOfAll" "rules" "LBookOfAll$Rules;") (jm m_152)) (fun _ h9 => h9) rfl dX12_rule_35 ?_
          refine lv_iload hx hb dX12_rule_38 (lv_at hl 0 rfl) ?_
          refine lv_iload_n hx hb dX12_rule_40 rfl (lv_at hl 3 rfl) ?_
          refine lv_iload_n hx hb dX12_rule_41 rfl (lv_at hl 4 rfl) ?_
          refine jc_i (va_runV (As := [.int p1, .int p2, .int p3]) (rest := []) ⟨hx, hb, hml, hown, hts⟩ (kX8_inForce_3 l dC dI _ ad ca p1 p2 p3) (cwV 3 hts (jgoodV m_226 m_227 m_228 m_157 m_229) rfl rfl rfl (by decide +kernel) ⟨Nat.le_of_ble_eq_true rfl, Nat.le_of_ble_eq_true rfl⟩) ⟨jw_blind, va_recv hK hP (ci := 8) (q0 := 11) rfl rfl, fun U hU hW => ⟨rfl, jw_of hU hW hP hK hD⟩⟩ rfl rfl hl.1 rfl (lv_room (Nat.le_of_ble_eq_true rfl)) dX12_rule_42 ⟨Nat.le_of_ble_eq_true rfl, Nat.le_of_ble_eq_true rfl⟩) hP hS hA (fun r_27 H locs hw_27 hP hS => ?_)
          have hw_27 : (-1) = r_27 := Eq.symm hw_27
          subst hw_27
          exact W.iret (v := (-1)) hx hb hr (fun t ht hW => ⟨⟨(-1), (), rfl, rfl, trivial⟩, hS.F ht⟩) hS.2.2 dX12_rule_45
        · refine lv_iconst (v := (-1)) hx hb dX12_rule_32 (by decide) ?_
          exact W.iret (v := (-1)) hx hb hr (fun t ht hW => ⟨⟨(-1), (), rfl, rfl, trivial⟩, hS.F ht⟩) hS.2.2 dX12_rule_33
