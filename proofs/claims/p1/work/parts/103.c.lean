set_option maxHeartbeats 500000 in
set_option maxRecDepth 100000 in
theorem kX8_hasRoomForSheet_2 (l : Launch) (dC : Nat → ClassId) (dI : Nat → Nat → Nat) (sz : Nat) (ad : Nat → Nat) (ca : Nat → ClassId) : Met l yX8_hasRoomForSheet (jk yX8_hasRoomForSheet cX8_hasRoomForSheet 1 (some .boolean)) ({ frames := 0, cells := 0, slots := 0, locals := 0 }) (va_Pc [.ref (ad 11)] (jw_P (dC, dI) (xW ad ca) (xT ca) sz)) (va_Qi (fun (r : Int32) (_ : Unit) => (r = 1)) (fun _ _ => True) (va_A [] sz)) 0 0 (va_A [] sz) := by
  refine Met.ofW (cc := cX8_hasRoomForSheet) (maxL := 1) (ret := (some .boolean)) (by decide) rfl ?_
  intro p e s m args below meth c s₁ B hml hv
  obtain ⟨rfl, hsz, hP, hK, hD0⟩ := hv
  have hx := B.exec
  have hb := B.bytes
  have hr := B.returns
  have hts := atoms_spec (ws := (jk yX8_hasRoomForSheet cX8_hasRoomForSheet 1 (some .boolean))) B.pre
  have hown : s.vm.findClass RX8 = some m.cls := findClass_of_methodNamed B.named
  have hlocks := B.notSynchronized
  subst hsz
  have hD := hD0
  generalize hAe : (va_A [] s.heap.size) = A
  have hA : ∀ q : Nat, s.heap.size ≤ q → A q := fun q h => by rw [← hAe]; exact Or.inr h
  have hS : va_S A s.heap s.heap [] := va_S.rf
  have hP : va_P (dC, dI) vwCl (xW ad ca) s.heap := hP
  have hl := lv_entry ([.ref (ad 11)]) (n := 1) (Nat.le_of_ble_eq_true rfl)
  rw [lg_entry_eq]
  generalize (lg_sl ([.ref (ad 11)]) ++ List.replicate (1 - (lg_sl ([.ref (ad 11)])).length) Slot.unset).toArray = ls at hl ⊢
  have hl : lv_has ls 1 [(0, .ref (ad 11))] := hl
  refine lv_aload_n hx hb dX8_hasRoomForSheet_0 rfl (lv_at hl 0 rfl) ?_
  refine va_get (D := (dC, dI)) (ci := 8) (v := .int 0) (C := RX8) (T := TX8) (N := 8) hx hb hts (jh hin_RX8) hown hK hP 11 rfl rfl 1 (by decide) (hts (.fieldLink RX8 33 "BookOfAll$Rules" "sheetCount" "I") (jm m_153)) (fun _ h9 => h9) rfl dX8_hasRoomForSheet_1 ?_
  refine lv_bipush (v := 12) hx hb dX8_hasRoomForSheet_4 (by decide) ?_
  refine lv_icmp_ge (tgt := 13) hx hb dX8_hasRoomForSheet_6 (by decide) (fun z => absurd z (by decide)) (fun _ => ?_)
  refine lv_iconst (v := 1) hx hb dX8_hasRoomForSheet_9 (by decide) ?_
  refine lv_goto (tgt := 14) hx hb dX8_hasRoomForSheet_10 (by decide) ?_
  exact W.zret (v := 1) (ty := .boolean) hx hb hr rfl (fun t ht hW => ⟨⟨1, (), rfl, rfl, trivial⟩, hS.F ht⟩) hS.2.2 dX8_hasRoomForSheet_14
set_option maxHeartbeats 500000 in
set_option maxRecDepth 100000 in
theorem iX9_init_1 (l : Launch) (dC : Nat → ClassId) (dI : Nat → Nat → Nat) (sz h0 : Nat) : Met l yX9_init (jk yX9_init cX9_init 1 none) ({ frames := 1, cells := 0, slots := 0, locals := 40 }) (va_Pc [.ref h0] (jw_P (dC, dI) [(h0, .inr (9, [.null, .null, .null, .null]))] [] sz)) (va_Qv (fun (_ : ((Nat → Nat) × (Nat → ClassId))) => True) (fun u t => va_P (dC, dI) vwCl [(h0, .inr (9, [.null, .null, .null, .null]))] t.heap ∧ va_K (dC, dI) vwCl [] t ∧ va_D (va_A [(h0, .inr (9, [.null, .null, .null, .null]))] sz) [(h0, .inr (9, [.null, .null, .null, .null]))]) (va_A [(h0, .inr (9, [.null, .null, .null, .null]))] sz)) 0 0 (va_A [(h0, .inr (9, [.null, .null, .null, .null]))] sz) := by
  refine Met.ofW (cc := cX9_init) (maxL := 1) (ret := none) (by decide) rfl ?_
  intro p e s m args below meth c s₁ B hml hv
  obtain ⟨rfl, hsz, hP, hK, hD0⟩ := hv
  have hx := B.exec
  have hb := B.bytes
  have hr := B.returns
  have hts := atoms_spec (ws := (jk yX9_init cX9_init 1 none)) B.pre
  have hown : s.vm.findClass RX9 = some m.cls := findClass_of_methodNamed B.named
  have hlocks := B.notSynchronized
  have hin : meth.name = "<init>" := (name_of_methodNamed B.named B.method).1
  subst hsz
  have hD := hD0.self (sz := s.heap.size)
  generalize hAe : (va_A [(h0, .inr (9, [.null, .null, .null, .null]))] s.heap.size) = A at hD ⊢
  have hA : ∀ q : Nat, s.heap.size ≤ q → A q := fun q h => by rw [← hAe]; exact Or.inr h
  have hS : va_S A s.heap s.heap [] := va_S.rf
  have hP : va_P (dC, dI) vwCl [(h0, .inr (9, [.null, .null, .null, .null]))] s.heap := hP
  have hl := lv_entry ([.ref h0]) (n := 1) (Nat.le_of_ble_eq_true rfl)
  rw [lg_entry_eq]
  generalize (lg_sl ([.ref h0]) ++ List.replicate (1 - (lg_sl ([.ref h0])).length) Slot.unset).toArray = ls at hl ⊢
  have hl : lv_has ls 1 [(0, .ref h0)] := hl
  refine lv_aload_n hx hb dX9_init_0 rfl (lv_at hl 0 rfl) ?_
  refine W.objInit hx hb hown (hts (.methodLink RX9 3 objectInit) (jm m_162)) (hts (.instanceMethod objectInit) (jm m_163)) (hts (.code objectInit ⟨#[0xb1]⟩ 1 none) (jm m_164)) rfl (by rw [hml]; exact hl.1) rfl dX9_init_1 (Nat.le_of_ble_eq_true rfl) (Nat.le_of_ble_eq_true rfl) ?_
  refine W.eq (g2 := F0 m 4 ls []) rfl ?_
  exact W.vret hx hb hr (fun t ht hW => ⟨⟨(fun k => [0].getD k 0, fun k => [dC 0].getD k (dC 0)), rfl, trivial, by rw [ht]; exact hP, va_K.moved hW.alike hK, hD⟩, hS.F ht⟩) hS.2.2 dX9_init_4
set_option maxHeartbeats 500000 in
set_option maxRecDepth 100000 in
theorem kJ7_copyOf_59c91_2 (l : Launch) (dC : Nat → ClassId) (dI : Nat → Nat → Nat) (sz : Nat) (ad : Nat → Nat) (ca : Nat → ClassId) (w0 : Nat) : Met l yJ7_copyOf_59c91 (jk yJ7_copyOf_59c91 cJ7_copyOf_59c91 3 (some (.array .int))) ({ frames := 1, cells := 1, slots := 0, locals := 80 }) (va_Pc [.ref (ad 7), .int 0] (jw_P (dC, dI) ((jA (jS (jS (jS (jS (jS (jS (xW ad ca) 1 (ad 1, .inr (7, [.ref (ad 2), .int 0, .ref (ad 3), .ref (ad 4), .ref (ad 5), .ref (ad 6), .int 1, .int 0, .int (-1), .ref (ad 7), .int 0, .ref (ad 8), .ref (ad 9), .ref (ad 10), .int 0]))) 3 (ad 3, .inl ((ca 3), 601, .inl (upd (fun _ => 0) 0 0)))) 4 (ad 4, .inl ((ca 4), 601, .inl (upd (fun _ => 0) 0 0)))) 5 (ad 5, .inl ((ca 5), 601, .inl (upd (fun _ => 0) 0 1)))) 6 (ad 6, .inl ((ca 6), 601, .inl (upd (fun _ => 0) 0 (-1))))) 8 (ad 8, .inl ((ca 8), 14, .inl (jfill (fun _ => 0) 14 (-1))))) [(w0, .inr (9, [.null, .null, .null, .null]))])) (xT ca) sz)) (va_Qq (fun (r : Option Nat) (u : Nat × (Nat → Nat) × (Nat → ClassId)) => (u.1 = 0 ∧ r = some ((u.2.1 0)))) (fun u t => va_P (dC, dI) vwCl ((fun (u : Nat × (Nat → Nat) × (Nat → ClassId)) => (jS (jA (jA (jS (jS (jS (jS (jS (jS (xW ad ca) 1 (ad 1, .inr (7, [.ref (ad 2), .int 0, .ref (ad 3), .ref (ad 4), .ref (ad 5), .ref (ad 6), .int 1, .int 0, .int (-1), .ref (ad 7), .int 0, .ref (ad 8), .ref (ad 9), .ref (ad 10), .int 0]))) 3 (ad 3, .inl ((ca 3), 601, .inl (upd (fun _ => 0) 0 0)))) 4 (ad 4, .inl ((ca 4), 601, .inl (upd (fun _ => 0) 0 0)))) 5 (ad 5, .inl ((ca 5), 601, .inl (upd (fun _ => 0) 0 1)))) 6 (ad 6, .inl ((ca 6), 601, .inl (upd (fun _ => 0) 0 (-1))))) 8 (ad 8, .inl ((ca 8), 14, .inl (jfill (fun _ => 0) 14 (-1))))) [(w0, .inr (9, [.null, .null, .null, .null]))]) [((u.2.1 0), .inl ((u.2.2 0), 0, .inl (fun _ => 0)))]) 74 ((u.2.1 0), .inl ((u.2.2 0), 0, .inl (va_cpy (fun _ => 0) (fun _ => 0) 0 0 0))))) u) t.heap ∧ va_K (dC, dI) vwCl ((fun (u : Nat × (Nat → Nat) × (Nat → ClassId)) => (xT ca ++ [((u.2.2 0), .int)])) u) t ∧ va_D (va_A ((jA (jS (jS (jS (jS (jS (jS (xW ad ca) 1 (ad 1, .inr (7, [.ref (ad 2), .int 0, .ref (ad 3), .ref (ad 4), .ref (ad 5), .ref (ad 6), .int 1, .int 0, .int (-1), .ref (ad 7), .int 0, .ref (ad 8), .ref (ad 9), .ref (ad 10), .int 0]))) 3 (ad 3, .inl ((ca 3), 601, .inl (upd (fun _ => 0) 0 0)))) 4 (ad 4, .inl ((ca 4), 601, .inl (upd (fun _ => 0) 0 0)))) 5 (ad 5, .inl ((ca 5), 601, .inl (upd (fun _ => 0) 0 1)))) 6 (ad 6, .inl ((ca 6), 601, .inl (upd (fun _ => 0) 0 (-1))))) 8 (ad 8, .inl ((ca 8), 14, .inl (jfill (fun _ => 0) 14 (-1))))) [(w0, .inr (9, [.null, .null, .null, .null]))])) sz) ((fun (u : Nat × (Nat → Nat) × (Nat → ClassId)) => (jS (jA (jA (jS (jS (jS (jS (jS (jS (xW ad ca) 1 (ad 1, .inr (7, [.ref (ad 2), .int 0, .ref (ad 3), .ref (ad 4), .ref (ad 5), .ref (ad 6), .int 1, .int 0, .int (-1), .ref (ad 7), .int 0, .ref (ad 8), .ref (ad 9), .ref (ad 10), .int 0]))) 3 (ad 3, .inl ((ca 3), 601, .inl (upd (fun _ => 0) 0 0)))) 4 (ad 4, .inl ((ca 4), 601, .inl (upd (fun _ => 0) 0 0)))) 5 (ad 5, .inl ((ca 5), 601, .inl (upd (fun _ => 0) 0 1)))) 6 (ad 6, .inl ((ca 6), 601, .inl (upd (fun _ => 0) 0 (-1))))) 8 (ad 8, .inl ((ca 8), 14, .inl (jfill (fun _ => 0) 14 (-1))))) [(w0, .inr (9, [.null, .null, .null, .null]))]) [((u.2.1 0), .inl ((u.2.2 0), 0, .inl (fun _ => 0)))]) 74 ((u.2.1 0), .inl ((u.2.2 0), 0, .inl (va_cpy (fun _ => 0) (fun _ => 0) 0 0 0))))) u)) (va_A ((jA (jS (jS (jS (jS (jS (jS (xW ad ca) 1 (ad 1, .inr (7, [.ref (ad 2), .int 0, .ref (ad 3), .ref (ad 4), .ref (ad 5), .ref (ad 6), .int 1, .int 0, .int (-1), .ref (ad 7), .int 0, .ref (ad 8), .ref (ad 9), .ref (ad 10), .int 0]))) 3 (ad 3, .inl ((ca 3), 601, .inl (upd (fun _ => 0) 0 0)))) 4 (ad 4, .inl ((ca 4), 601, .inl (upd (fun _ => 0) 0 0)))) 5 (ad 5, .inl ((ca 5), 601, .inl (upd (fun _ => 0) 0 1)))) 6 (ad 6, .inl ((ca 6), 601, .inl (upd (fun _ => 0) 0 (-1))))) 8 (ad 8, .inl ((ca 8), 14, .inl (jfill (fun _ => 0) 14 (-1))))) [(w0, .inr (9, [.null, .null, .null, .null]))])) sz)) 1 0 (va_A ((jA (jS (jS (jS (jS (jS (jS (xW ad ca) 1 (ad 1, .inr (7, [.ref (ad 2), .int 0, .ref (ad 3), .ref (ad 4), .ref (ad 5), .ref (ad 6), .int 1, .int 0, .int (-1), .ref (ad 7), .int 0, .ref (ad 8), .ref (ad 9), .ref (ad 10), .int 0]))) 3 (ad 3, .inl ((ca 3), 601, .inl (upd (fun _ => 0) 0 0)))) 4 (ad 4, .inl ((ca 4), 601, .inl (upd (fun _ => 0) 0 0)))) 5 (ad 5, .inl ((ca 5), 601, .inl (upd (fun _ => 0) 0 1)))) 6 (ad 6, .inl ((ca 6), 601, .inl (upd (fun _ => 0) 0 (-1))))) 8 (ad 8, .inl ((ca 8), 14, .inl (jfill (fun _ => 0) 14 (-1))))) [(w0, .inr (9, [.null, .null, .null, .null]))])) sz) := by
  refine Met.ofW (cc := cJ7_copyOf_59c91) (maxL := 3) (ret := (some (.array .int))) (by decide) rfl ?_
  intro p e s m args below meth c s₁ B hml hv
  obtain ⟨rfl, hsz, hP, hK, hD0⟩ := hv
  have hx := B.exec
  have hb := B.bytes
  have hr := B.returns
  have hts := atoms_spec (ws := (jk yJ7_copyOf_59c91 cJ7_copyOf_59c91 3 (some (.array .int)))) B.pre
  have hown : s.vm.findClass RJ7 = some m.cls := findClass_of_methodNamed B.named
  have hlocks := B.notSynchronized
  subst hsz
  have hD := hD0.self (sz := s.heap.size)
  generalize hAe : (va_A ((jA (jS (jS (jS (jS (jS (jS (xW ad ca) 1 (ad 1, .inr (7, [.ref (ad 2), .int 0, .ref (ad 3), .ref (ad 4), .ref (ad 5), .ref (ad 6), .int 1, .int 0, .int (-1), .ref (ad 7), .int 0, .ref (ad 8), .ref (ad 9), .ref (ad 10), .int 0]))) 3 (ad 3, .inl ((ca 3), 601, .inl (upd (fun _ => 0) 0 0)))) 4 (ad 4, .inl ((ca 4), 601, .inl (upd (fun _ => 0) 0 0)))) 5 (ad 5, .inl ((ca 5), 601, .inl (upd (fun _ => 0) 0 1)))) 6 (ad 6, .inl ((ca 6), 601, .inl (upd (fun _ => 0) 0 (-1))))) 8 (ad 8, .inl ((ca 8), 14, .inl (jfill (fun _ => 0) 14 (-1))))) [(w0, .inr (9, [.null, .null, .null, .null]))])) s.heap.size) = A at hD ⊢
  have hA : ∀ q : Nat, s.heap.size ≤ q → A q := fun q h => by rw [← hAe]; exact Or.inr h
  have hS : va_S A s.heap s.heap [] := va_S.rf
  have hP : va_P (dC, dI) vwCl ((jA (jS (jS (jS (jS (jS (jS (xW ad ca) 1 (ad 1, .inr (7, [.ref (ad 2), .int 0, .ref (ad 3), .ref (ad 4), .ref (ad 5), .ref (ad 6), .int 1, .int 0, .int (-1), .ref (ad 7), .int 0, .ref (ad 8), .ref (ad 9), .ref (ad 10), .int 0]))) 3 (ad 3, .inl ((ca 3), 601, .inl (upd (fun _ => 0) 0 0)))) 4 (ad 4, .inl ((ca 4), 601, .inl (upd (fun _ => 0) 0 0)))) 5 (ad 5, .inl ((ca 5), 601, .inl (upd (fun _ => 0) 0 1)))) 6 (ad 6, .inl ((ca 6), 601, .inl (upd (fun _ => 0) 0 (-1))))) 8 (ad 8, .inl ((ca 8), 14, .inl (jfill (fun _ => 0) 14 (-1))))) [(w0, .inr (9, [.null, .null, .null, .null]))])) s.heap := hP
  have hl := lv_entry ([.ref (ad 7), .int 0]) (n := 3) (Nat.le_of_ble_eq_true rfl)
  rw [lg_entry_eq]
  generalize (lg_sl ([.ref (ad 7), .int 0]) ++ List.replicate (3 - (lg_sl ([.ref (ad 7), .int 0])).length) Slot.unset).toArray = ls at hl ⊢
  have hl : lv_has ls 3 [(0, .ref (ad 7)), (1, .int 0)] := hl
  refine lv_iload_n hx hb dJ7_copyOf_59c91_0 rfl (lv_at hl 1 rfl) ?_
  refine lv_aload_n hx hb dJ7_copyOf_59c91_1 rfl (lv_at hl 0 rfl) ?_
  refine va_alen (v := 600) hx hb hK hP 7 5 rfl rfl (by decide) dJ7_copyOf_59c91_2 ?_
  refine lv_icmp_ne (tgt := 14) hx hb dJ7_copyOf_59c91_3 (by decide) (fun _ => ?_) (fun z => absurd z (by decide))
  refine lv_iload_n hx hb dJ7_copyOf_59c91_14 rfl (lv_at hl 1 rfl) ?_
  refine va_newa (N' := 0) (a0 := (0, .inl (fun _ => 0))) (ty := .int) hx hb (hts (.arrayClass .int) (jm m_2)) rfl hK hP hD hS hA (fun _ => rfl) (by decide) (by decide) (by decide) (Nat.le_of_ble_eq_true rfl) (Nat.le_of_ble_eq_true rfl) dJ7_copyOf_59c91_15 (fun q1 y1 H hK hP hD hS => ?_)
  refine W.widen (k := 1) (n := 0) (Nat.le_of_ble_eq_true rfl) (Nat.le_of_ble_eq_true rfl) ?_
  refine lv_astore_n (lv' := [(2, .ref q1), (0, .ref (ad 7)), (1, .int 0)]) hx hb dJ7_copyOf_59c91_17 rfl hl (by decide) rfl (fun ls hl => ?_)
  refine lv_aload_n hx hb dJ7_copyOf_59c91_18 rfl (lv_at hl 1 rfl) ?_
  refine lv_iconst (v := 0) hx hb dJ7_copyOf_59c91_19 (by decide) ?_
  refine lv_aload_n hx hb dJ7_copyOf_59c91_20 rfl (lv_at hl 0 rfl) ?_
  refine lv_iconst (v := 0) hx hb dJ7_copyOf_59c91_21 (by decide) ?_
  refine lv_aload_n hx hb dJ7_copyOf_59c91_22 rfl (lv_at hl 1 rfl) ?_
  refine va_alen (v := 600) hx hb hK hP 7 5 rfl rfl (by decide) dJ7_copyOf_59c91_23 ?_
  refine lv_iload_n hx hb dJ7_copyOf_59c91_24 rfl (lv_at hl 2 rfl) ?_
  refine va_mmin hx hb (by rw [hml]; exact hl.1.symm) hown (hts (.methodLink RJ7 304 Lib.Math.min.name) (jm m_172)) (hts (.static Lib.Math.min.name) (jm m_173)) (hts (.initialized "java/lang/Math") (jm m_170)) (hts (.code Lib.Math.min.name Lib.Math.min.code 2 (some .int)) (jm m_174)) (Nat.le_of_ble_eq_true rfl) (Nat.le_of_ble_eq_true rfl) (Nat.le_of_ble_eq_true rfl) (Nat.le_of_ble_eq_true rfl) dJ7_copyOf_59c91_25 ?_
  refine jt_i 0 (by decide) ?_
  refine va_copyi hx hb (by rw [hml]; exact hl.1.symm) hown (hts (.methodLink RJ7 150 arraycopyName) (jm m_175)) (hts (.native arraycopyName) (jm m_176)) (hts (.static arraycopyName) (jm m_177)) (hts (.initialized "java/lang/System") (jm m_178)) hK hP hD hS 7 74 5 59 rfl rfl rfl rfl rfl (by decide) (by decide) (by decide) (by decide) (by decide) (fun i h => absurd h (Nat.not_lt_zero i)) (Nat.le_of_ble_eq_true rfl) (by decide) dJ7_copyOf_59c91_28 (fun H locs hP hD hS => ?_)
  refine lv_aload_n hx hb dJ7_copyOf_59c91_31 rfl (lv_at hl 0 rfl) ?_
  refine W.widen (k := 1) (n := 0) (Nat.le_of_ble_eq_true rfl) (Nat.le_of_ble_eq_true rfl) ?_
  exact W.aret (v := .ref q1) hx hb hr (Or.inr ⟨_, rfl⟩) (Or.inr ⟨_, rfl⟩) (fun t ht hW => ⟨⟨some (q1), (0, fun k => [q1].getD k 0, fun k => [y1].getD k (dC 0)), rfl, ⟨rfl, rfl⟩, by rw [ht]; exact hP, va_K.moved hW.alike hK, hD⟩, hS.F ht⟩) hS.2.2 dJ7_copyOf_59c91_32
set_option maxHeartbeats 500000 in
set_option maxRecDepth 100000 in
theorem kJ7_copyOf_c38d5_2 (l : Launch) (dC : Nat → ClassId) (dI : Nat → Nat → Nat) (sz : Nat) (ad : Nat → Nat) (ca : Nat → ClassId) (w0 : Nat) (w1 : Nat → Nat) (w2 : Nat → ClassId) (w3 : Nat) (w4 : Nat) : Met l yJ7_copyOf_c38d5 (jk yJ7_copyOf_c38d5 cJ7_copyOf_c38d5 3 (some (.array .long))) ({ frames := 1, cells := 1, slots := 0, locals := 80 }) (va_Pc [.ref (ad 10), .int 0] (jw_P (dC, dI) ((jS (jA (jS (jA (jS (jS (jA (jA (jS (jS (jS (jS (jS (jS (xW ad ca) 1 (ad 1, .inr (7, [.ref (ad 2), .int 0, .ref (ad 3), .ref (ad 4), .ref (ad 5), .ref (ad 6), .int 1, .int 0, .int (-1), .ref (ad 7), .int 0, .ref (ad 8), .ref (ad 9), .ref (ad 10), .int 0]))) 3 (ad 3, .inl ((ca 3), 601, .inl (upd (fun _ => 0) 0 0)))) 4 (ad 4, .inl ((ca 4), 601, .inl (upd (fun _ => 0) 0 0)))) 5 (ad 5, .inl ((ca 5), 601, .inl (upd (fun _ => 0) 0 1)))) 6 (ad 6, .inl ((ca 6), 601, .inl (upd (fun _ => 0) 0 (-1))))) 8 (ad 8, .inl ((ca 8), 14, .inl (jfill (fun _ => 0) 14 (-1))))) [(w0, .inr (9, [.null, .null, .null, .null]))]) [((w1 0), .inl ((w2 0), 0, .inl (fun _ => 0)))]) 74 ((w1 0), .inl ((w2 0), 0, .inl (va_cpy (fun _ => 0) (fun _ => 0) 0 0 0)))) 73 (w0, .inr (9, [.ref ((w1 0)), .null, .null, .null]))) [(w3, .inl ((ca 8), 14, .inl (jfill (fun _ => 0) 14 (-1))))]) 73 (w0, .inr (9, [.ref ((w1 0)), .ref w3, .null, .null]))) [(w4, .inl ((ca 9), 14, .inl (fun _ => 0)))]) 73 (w0, .inr (9, [.ref ((w1 0)), .ref w3, .ref w4, .null])))) ((xT ca ++ [((w2 0), .int), ((ca 8), .int), ((ca 9), .int)])) sz)) (va_Qq (fun (r : Option Nat) (u : Nat × (Nat → Nat) × (Nat → ClassId)) => (u.1 = 0 ∧ r = some ((u.2.1 0)))) (fun u t => va_P (dC, dI) vwCl ((fun (u : Nat × (Nat → Nat) × (Nat → ClassId)) => (jS (jA (jS (jA (jS (jA (jS (jS (jA (jA (jS (jS (jS (jS (jS (jS (xW ad ca) 1 (ad 1, .inr (7, [.ref (ad 2), .int 0, .ref (ad 3), .ref (ad 4), .ref (ad 5), .ref (ad 6), .int 1, .int 0, .int (-1), .ref (ad 7), .int 0, .ref (ad 8), .ref (ad 9), .ref (ad 10), .int 0]))) 3 (ad 3, .inl ((ca 3), 601, .inl (upd (fun _ => 0) 0 0)))) 4 (ad 4, .inl ((ca 4), 601, .inl (upd (fun _ => 0) 0 0)))) 5 (ad 5, .inl ((ca 5), 601, .inl (upd (fun _ => 0) 0 1)))) 6 (ad 6, .inl ((ca 6), 601, .inl (upd (fun _ => 0) 0 (-1))))) 8 (ad 8, .inl ((ca 8), 14, .inl (jfill (fun _ => 0) 14 (-1))))) [(w0, .inr (9, [.null, .null, .null, .null]))]) [((w1 0), .inl ((w2 0), 0, .inl (fun _ => 0)))]) 74 ((w1 0), .inl ((w2 0), 0, .inl (va_cpy (fun _ => 0) (fun _ => 0) 0 0 0)))) 73 (w0, .inr (9, [.ref ((w1 0)), .null, .null, .null]))) [(w3, .inl ((ca 8), 14, .inl (jfill (fun _ => 0) 14 (-1))))]) 73 (w0, .inr (9, [.ref ((w1 0)), .ref w3, .null, .null]))) [(w4, .inl ((ca 9), 14, .inl (fun _ => 0)))]) 73 (w0, .inr (9, [.ref ((w1 0)), .ref w3, .ref w4, .null]))) [((u.2.1 0), .inl ((u.2.2 0), 0, .inr (.inl (fun _ => 0))))]) 77 ((u.2.1 0), .inl ((u.2.2 0), 0, .inr (.inl (va_cpy (fun _ => 0) (fun _ => 0) 0 0 0)))))) u) t.heap ∧ va_K (dC, dI) vwCl ((fun (u : Nat × (Nat → Nat) × (Nat → ClassId)) => ((xT ca ++ [((w2 0), .int), ((ca 8), .int), ((ca 9), .int)]) ++ [((u.2.2 0), .long)])) u) t ∧ va_D (va_A ((jS (jA (jS (jA (jS (jS (jA (jA (jS (jS (jS (jS (jS (jS (xW ad ca) 1 (ad 1, .inr (7, [.ref (ad 2), .int 0, .ref (ad 3), .ref (ad 4), .ref (ad 5), .ref (ad 6), .int 1, .int 0, .int (-1), .ref (ad 7), .int 0, .ref (ad 8), .ref (ad 9), .ref (ad 10), .int 0]))) 3 (ad 3, .inl ((ca 3), 601, .inl (upd (fun _ => 0) 0 0)))) 4 (ad 4, .inl ((ca 4), 601, .inl (upd (fun _ => 0) 0 0)))) 5 (ad 5, .inl ((ca 5), 601, .inl (upd (fun _ => 0) 0 1)))) 6 (ad 6, .inl ((ca 6), 601, .inl (upd (fun _ => 0) 0 (-1))))) 8 (ad 8, .inl ((ca 8), 14, .inl (jfill (fun _ => 0) 14 (-1))))) [(w0, .inr (9, [.null, .null, .null, .null]))]) [((w1 0), .inl ((w2 0), 0, .inl (fun _ => 0)))]) 74 ((w1 0), .inl ((w2 0), 0, .inl (va_cpy (fun _ => 0) (fun _ => 0) 0 0 0)))) 73 (w0, .inr (9, [.ref ((w1 0)), .null, .null, .null]))) [(w3, .inl ((ca 8), 14, .inl (jfill (fun _ => 0) 14 (-1))))]) 73 (w0, .inr (9, [.ref ((w1 0)), .ref w3, .null, .null]))) [(w4, .inl ((ca 9), 14, .inl (fun _ => 0)))]) 73 (w0, .inr (9, [.ref ((w1 0)), .ref w3, .ref w4, .null])))) sz) ((fun (u : Nat × (Nat → Nat) × (Nat → ClassId)) => (jS (jA (jS (jA (jS (jA (jS (jS (jA (jA (jS (jS (jS (jS (jS (jS (xW ad ca) 1 (ad 1, .inr (7, [.ref (ad 2), .int 0, .ref (ad 3), .ref (ad 4), .ref (ad 5), .ref (ad 6), .int 1, .int 0, .int (-1), .ref (ad 7), .int 0, .ref (ad 8), .ref (ad 9), .ref (ad 10), .int 0]))) 3 (ad 3, .inl ((ca 3), 601, .inl (upd (fun _ => 0) 0 0)))) 4 (ad 4, .inl ((ca 4), 601, .inl (upd (fun _ => 0) 0 0)))) 5 (ad 5, .inl ((ca 5), 601, .inl (upd (fun _ => 0) 0 1)))) 6 (ad 6, .inl ((ca 6), 601, .inl (upd (fun _ => 0) 0 (-1))))) 8 (ad 8, .inl ((ca 8), 14, .inl (jfill (fun _ => 0) 14 (-1))))) [(w0, .inr (9, [.null, .null, .null, .null]))]) [((w1 0), .inl ((w2 0), 0, .inl (fun _ => 0)))]) 74 ((w1 0), .inl ((w2 0), 0, .inl (va_cpy (fun _ => 0) (fun _ => 0) 0 0 0)))) 73 (w0, .inr (9, [.ref ((w1 0)), .null, .null, .null]))) [(w3, .inl ((ca 8), 14, .inl (jfill (fun _ => 0) 14 (-1))))]) 73 (w0, .inr (9, [.ref ((w1 0)), .ref w3, .null, .null]))) [(w4, .inl ((ca 9), 14, .inl (fun _ => 0)))]) 73 (w0, .inr (9, [.ref ((w1 0)), .ref w3, .ref w4, .null]))) [((u.2.1 0), .inl ((u.2.2 0), 0, .inr (.inl (fun _ => 0))))]) 77 ((u.2.1 0), .inl ((u.2.2 0), 0, .inr (.inl (va_cpy (fun _ => 0) (fun _ => 0) 0 0 0)))))) u)) (va_A ((jS (jA (jS (jA (jS (jS (jA (jA (jS (jS (jS (jS (jS (jS (xW ad ca) 1 (ad 1, .inr (7, [.ref (ad 2), .int 0, .ref (ad 3), .ref (ad 4), .ref (ad 5), .ref (ad 6), .int 1, .int 0, .int (-1), .ref (ad 7), .int 0, .ref (ad 8), .ref (ad 9), .ref (ad 10), .int 0]))) 3 (ad 3, .inl ((ca 3), 601, .inl (upd (fun _ => 0) 0 0)))) 4 (ad 4, .inl ((ca 4), 601, .inl (upd (fun _ => 0) 0 0)))) 5 (ad 5, .inl ((ca 5), 601, .inl (upd (fun _ => 0) 0 1)))) 6 (ad 6, .inl ((ca 6), 601, .inl (upd (fun _ => 0) 0 (-1))))) 8 (ad 8, .inl ((ca 8), 14, .inl (jfill (fun _ => 0) 14 (-1))))) [(w0, .inr (9, [.null, .null, .null, .null]))]) [((w1 0), .inl ((w2 0), 0, .inl (fun _ => 0)))]) 74 ((w1 0), .inl ((w2 0), 0, .inl (va_cpy (fun _ => 0) (fun _ => 0) 0 0 0)))) 73 (w0, .inr (9, [.ref ((w1 0)), .null, .null, .null]))) [(w3, .inl ((ca 8), 14, .inl (jfill (fun _ => 0) 14 (-1))))]) 73 (w0, .inr (9, [.ref ((w1 0)), .ref w3, .null, .null]))) [(w4, .inl ((ca 9), 14, .inl (fun _ => 0)))]) 73 (w0, .inr (9, [.ref ((w1 0)), .ref w3, .ref w4, .null])))) sz)) 1 0 (va_A ((jS (jA (jS (jA (jS (jS (jA (jA (jS (jS (jS (jS (jS (jS (xW ad ca) 1 (ad 1, .inr (7, [.ref (ad 2), .int 0, .ref (ad 3), .ref (ad 4), .ref (ad 5), .ref (ad 6), .int 1, .int 0, .int (-1), .ref (ad 7), .int 0, .ref (ad 8), .ref (ad 9), .ref (ad 10), .int 0]))) 3 (ad 3, .inl ((ca 3), 601, .inl (upd (fun _ => 0) 0 0)))) 4 (ad 4, .inl ((ca 4), 601, .inl (upd (fun _ => 0) 0 0)))) 5 (ad 5, .inl ((ca 5), 601, .inl (upd (fun _ => 0) 0 1)))) 6 (ad 6, .inl ((ca 6), 601, .inl (upd (fun _ => 0) 0 (-1))))) 8 (ad 8, .inl ((ca 8), 14, .inl (jfill (fun _ => 0) 14 (-1))))) [(w0, .inr (9, [.null, .null, .null, .null]))]) [((w1 0), .inl ((w2 0), 0, .inl (fun _ => 0)))]) 74 ((w1 0), .inl ((w2 0), 0, .inl (va_cpy (fun _ => 0) (fun _ => 0) 0 0 0)))) 73 (w0, .inr (9, [.ref ((w1 0)), .null, .null, .null]))) [(w3, .inl ((ca 8), 14, .inl (jfill (fun _ => 0) 14 (-1))))]) 73 (w0, .inr (9, [.ref ((w1 0)), .ref w3, .null, .null]))) [(w4, .inl ((ca 9), 14, .inl (fun _ => 0)))]) 73 (w0, .inr (9, [.ref ((w1 0)), .ref w3, .ref w4, .null])))) sz) := by
  refine Met.ofW (cc := cJ7_copyOf_c38d5) (maxL := 3) (ret := (some (.array .long))) (by decide) rfl ?_
  intro p e s m args below meth c s₁ B hml hv
  obtain ⟨rfl, hsz, hP, hK, hD0⟩ := hv
  have hx := B.exec
  have hb := B.bytes
  have hr := B.returns
  have hts := atoms_spec (ws := (jk yJ7_copyOf_c38d5 cJ7_copyOf_c38d5 3 (some (.array .long)))) B.pre
  have hown : s.vm.findClass RJ7 = some m.cls := findClass_of_methodNamed B.named
  have hlocks := B.notSynchronized
  subst hsz
  have hD := hD0.self (sz := s.heap.size)
  generalize hAe : (va_A ((jS (jA (jS (jA (jS (jS (jA (jA (jS (jS (jS (jS (jS (jS (xW ad ca) 1 (ad 1, .inr (7, [.ref (ad 2), .int 0, .ref (ad 3), .ref (ad 4), .ref (ad 5), .ref (ad 6), .int 1, .int 0, .int (-1), .ref (ad 7), .int 0, .ref (ad 8), .ref (ad 9), .ref (ad 10), .int 0]))) 3 (ad 3, .inl ((ca 3), 601, .inl (upd (fun _ => 0) 0 0)))) 4 (ad 4, .inl ((ca 4), 601, .inl (upd (fun _ => 0) 0 0)))) 5 (ad 5, .inl ((ca 5), 601, .inl (upd (fun _ => 0) 0 1)))) 6 (ad 6, .inl ((ca 6), 601, .inl (upd (fun _ => 0) 0 (-1))))) 8 (ad 8, .inl ((ca 8), 14, .inl (jfill (fun _ => 0) 14 (-1))))) [(w0, .inr (9, [.null, .null, .null, .null]))]) [((w1 0), .inl ((w2 0), 0, .inl (fun _ => 0)))]) 74 ((w1 0), .inl ((w2 0), 0, .inl (va_cpy (fun _ => 0) (fun _ => 0) 0 0 0)))) 73 (w0, .inr (9, [.ref ((w1 0)), .null, .null, .null]))) [(w3, .inl ((ca 8), 14, .inl (jfill (fun _ => 0) 14 (-1))))]) 73 (w0, .inr (9, [.ref ((w1 0)), .ref w3, .null, .null]))) [(w4, .inl ((ca 9), 14, .inl (fun _ => 0)))]) 73 (w0, .inr (9, [.ref ((w1 0)), .ref w3, .ref w4, .null])))) s.heap.size) = A at hD ⊢
  have hA : ∀ q : Nat, s.heap.size ≤ q → A q := fun q h => by rw [← hAe]; exact Or.inr h
  have hS : va_S A s.heap s.heap [] := va_S.rf
  have hP : va_P (dC, dI) vwCl ((jS (jA (jS (jA (jS (jS (jA (jA (jS (jS (jS (jS (jS (jS (xW ad ca) 1 (ad 1, .inr (7, [.ref (ad 2), .int 0, .ref (ad 3), .ref (ad 4), .ref (ad 5), .ref (ad 6), .int 1, .int 0, .int (-1), .ref (ad 7), .int 0, .ref (ad 8), .ref (ad 9), .ref (ad 10), .int 0]))) 3 (ad 3, .inl ((ca 3), 601, .inl (upd (fun _ => 0) 0 0)))) 4 (ad 4, .inl ((ca 4), 601, .inl (upd (fun _ => 0) 0 0)))) 5 (ad 5, .inl ((ca 5), 601, .inl (upd (fun _ => 0) 0 1)))) 6 (ad 6, .inl ((ca 6), 601, .inl (upd (fun _ => 0) 0 (-1))))) 8 (ad 8, .inl ((ca 8), 14, .inl (jfill (fun _ => 0) 14 (-1))))) [(w0, .inr (9, [.null, .null, .null, .null]))]) [((w1 0), .inl ((w2 0), 0, .inl (fun _ => 0)))]) 74 ((w1 0), .inl ((w2 0), 0, .inl (va_cpy (fun _ => 0) (fun _ => 0) 0 0 0)))) 73 (w0, .inr (9, [.ref ((w1 0)), .null, .null, .null]))) [(w3, .inl ((ca 8), 14, .inl (jfill (fun _ => 0) 14 (-1))))]) 73 (w0, .inr (9, [.ref ((w1 0)), .ref w3, .null, .null]))) [(w4, .inl ((ca 9), 14, .inl (fun _ => 0)))]) 73 (w0, .inr (9, [.ref ((w1 0)), .ref w3, .ref w4, .null])))) s.heap := hP
  have hl := lv_entry ([.ref (ad 10), .int 0]) (n := 3) (Nat.le_of_ble_eq_true rfl)
  rw [lg_entry_eq]
  generalize (lg_sl ([.ref (ad 10), .int 0]) ++ List.replicate (3 - (lg_sl ([.ref (ad 10), .int 0])).length) Slot.unset).toArray = ls at hl ⊢
  have hl : lv_has ls 3 [(0, .ref (ad 10)), (1, .int 0)] := hl
  refine lv_iload_n hx hb dJ7_copyOf_c38d5_0 rfl (lv_at hl 1 rfl) ?_
  refine lv_aload_n hx hb dJ7_copyOf_c38d5_1 rfl (lv_at hl 0 rfl) ?_
  refine va_alen (v := 4) hx hb hK hP 10 8 rfl rfl (by decide) dJ7_copyOf_c38d5_2 ?_
  refine lv_icmp_ne (tgt := 14) hx hb dJ7_copyOf_c38d5_3 (by decide) (fun _ => ?_) (fun z => absurd z (by decide))
  refine lv_iload_n hx hb dJ7_copyOf_c38d5_14 rfl (lv_at hl 1 rfl) ?_
  refine va_newa (N' := 0) (a0 := (0, .inr (.inl (fun _ => 0)))) (ty := .long) hx hb (hts (.arrayClass .long) (jm m_193)) rfl hK hP hD hS hA (fun _ => rfl) (by decide) (by decide) (by decide) (Nat.le_of_ble_eq_true rfl) (Nat.le_of_ble_eq_true rfl) dJ7_copyOf_c38d5_15 (fun q1 y1 H hK hP hD hS => ?_)
  refine W.widen (k := 1) (n := 0) (Nat.le_of_ble_eq_true rfl) (Nat.le_of_ble_eq_true rfl) ?_
  refine lv_astore_n (lv' := [(2, .ref q1), (0, .ref (ad 10)), (1, .int 0)]) hx hb dJ7_copyOf_c38d5_17 rfl hl (by decide) rfl (fun ls hl => ?_)
  refine lv_aload_n hx hb dJ7_copyOf_c38d5_18 rfl (lv_at hl 1 rfl) ?_
  refine lv_iconst (v := 0) hx hb dJ7_copyOf_c38d5_19 (by decide) ?_
  refine lv_aload_n hx hb dJ7_copyOf_c38d5_20 rfl (lv_at hl 0 rfl) ?_
  refine lv_iconst (v := 0) hx hb dJ7_copyOf_c38d5_21 (by decide) ?_
  refine lv_aload_n hx hb dJ7_copyOf_c38d5_22 rfl (lv_at hl 1 rfl) ?_
  refine va_alen (v := 4) hx hb hK hP 10 8 rfl rfl (by decide) dJ7_copyOf_c38d5_23 ?_
  refine lv_iload_n hx hb dJ7_copyOf_c38d5_24 rfl (lv_at hl 2 rfl) ?_
  refine va_mmin hx hb (by rw [hml]; exact hl.1.symm) hown (hts (.methodLink RJ7 304 Lib.Math.min.name) (jm m_172)) (hts (.static Lib.Math.min.name) (jm m_173)) (hts (.initialized "java/lang/Math") (jm m_170)) (hts (.code Lib.Math.min.name Lib.Math.min.code 2 (some .int)) (jm m_174)) (Nat.le_of_ble_eq_true rfl) (Nat.le_of_ble_eq_true rfl) (Nat.le_of_ble_eq_true rfl) (Nat.le_of_ble_eq_true rfl) dJ7_copyOf_c38d5_25 ?_
  refine jt_i 0 (by decide) ?_
  refine va_copyl hx hb (by rw [hml]; exact hl.1.symm) hown (hts (.methodLink RJ7 150 arraycopyName) (jm m_175)) (hts (.native arraycopyName) (jm m_176)) (hts (.static arraycopyName) (jm m_177)) (hts (.initialized "java/lang/System") (jm m_178)) hK hP hD hS 10 77 8 62 rfl rfl rfl rfl (by decide) (by decide) (by decide) (by decide) (by decide) (Nat.le_of_ble_eq_true rfl) (by decide) dJ7_copyOf_c38d5_28 (fun H locs hP hD hS => ?_)
  refine lv_aload_n hx hb dJ7_copyOf_c38d5_31 rfl (lv_at hl 0 rfl) ?_
  refine W.widen (k := 1) (n := 0) (Nat.le_of_ble_eq_true rfl) (Nat.le_of_ble_eq_true rfl) ?_
  exact W.aret (v := .ref q1) hx hb hr (Or.inr ⟨_, rfl⟩) (Or.inr ⟨_, rfl⟩) (fun t ht hW => ⟨⟨some (q1), (0, fun k => [q1].getD k 0, fun k => [y1].getD k (dC 0)), rfl, ⟨rfl, rfl⟩, by rw [ht]; exact hP, va_K.moved hW.alike hK, hD⟩, hS.F ht⟩) hS.2.2 dJ7_copyOf_c38d5_32
set_option maxHeartbeats 500000 in
set_option maxRecDepth 100000 in
theorem kX7_compiled_2 (l : Launch) (dC : Nat → ClassId) (dI : Nat → Nat → Nat) (sz : Nat) (ad : Nat → Nat) (ca : Nat → ClassId) : Met l yX7_compiled (jk yX7_compiled cX7_compiled 2 (some (.object "BookOfAll$Sheet"))) ({ frames := 2, cells := 5, slots := 32, locals := 102 }) (va_Pc [.ref (ad 1)] (jw_PE (dC, dI) ((jS (jS (jS (jS (jS (jS (xW ad ca) 1 (ad 1, .inr (7, [.ref (ad 2), .int 0, .ref (ad 3), .ref (ad 4), .ref (ad 5), .ref (ad 6), .int 1, .int 0, .int (-1), .ref (ad 7), .int 0, .ref (ad 8), .ref (ad 9), .ref (ad 10), .int 0]))) 3 (ad 3, .inl ((ca 3), 601, .inl (upd (fun _ => 0) 0 0)))) 4 (ad 4, .inl ((ca 4), 601, .inl (upd (fun _ => 0) 0 0)))) 5 (ad 5, .inl ((ca 5), 601, .inl (upd (fun _ => 0) 0 1)))) 6 (ad 6, .inl ((ca 6), 601, .inl (upd (fun _ => 0) 0 (-1))))) 8 (ad 8, .inl ((ca 8), 14, .inl (jfill (fun _ => 0) 14 (-1)))))) (xT ca) sz)) (va_Qq (fun (r : Option Nat) (u : Nat × (Nat → Nat) × (Nat → ClassId)) => (u.1 = 0 ∧ r = some ((u.2.1 0)))) (fun u t => va_P (dC, dI) vwCl ((fun (u : Nat × (Nat → Nat) × (Nat → ClassId)) => (jS (jS (jA (jS (jA (jS (jA (jS (jS (jA (jA (jS (jS (jS (jS (jS (jS (xW ad ca) 1 (ad 1, .inr (7, [.ref (ad 2), .int 0, .ref (ad 3), .ref (ad 4), .ref (ad 5), .ref (ad 6), .int 1, .int 0, .int (-1), .ref (ad 7), .int 0, .ref (ad 8), .ref (ad 9), .ref (ad 10), .int 0]))) 3 (ad 3, .inl ((ca 3), 601, .inl (upd (fun _ => 0) 0 0)))) 4 (ad 4, .inl ((ca 4), 601, .inl (upd (fun _ => 0) 0 0)))) 5 (ad 5, .inl ((ca 5), 601, .inl (upd (fun _ => 0) 0 1)))) 6 (ad 6, .inl ((ca 6), 601, .inl (upd (fun _ => 0) 0 (-1))))) 8 (ad 8, .inl ((u.2.2 2), 14, .inl (jfill (fun _ => 0) 14 (-1))))) [((u.2.1 0), .inr (9, [.null, .null, .null, .null]))]) [((u.2.1 1), .inl ((u.2.2 1), 0, .inl (fun _ => 0)))]) 74 ((u.2.1 1), .inl ((u.2.2 1), 0, .inl (va_cpy (fun _ => 0) (fun _ => 0) 0 0 0)))) 73 ((u.2.1 0), .inr (9, [.ref ((u.2.1 1)), .null, .null, .null]))) [((u.2.1 2), .inl ((u.2.2 2), 14, .inl (jfill (fun _ => 0) 14 (-1))))]) 73 ((u.2.1 0), .inr (9, [.ref ((u.2.1 1)), .ref (u.2.1 2), .null, .null]))) [((u.2.1 3), .inl ((u.2.2 3), 14, .inl (fun _ => 0)))]) 73 ((u.2.1 0), .inr (9, [.ref ((u.2.1 1)), .ref (u.2.1 2), .ref (u.2.1 3), .null]))) [((u.2.1 4), .inl ((u.2.2 4), 0, .inr (.inl (fun _ => 0))))]) 77 ((u.2.1 4), .inl ((u.2.2 4), 0, .inr (.inl (va_cpy (fun _ => 0) (fun _ => 0) 0 0 0))))) 73 ((u.2.1 0), .inr (9, [.ref ((u.2.1 1)), .ref (u.2.1 2), .ref (u.2.1 3), .ref ((u.2.1 4))])))) u) t.heap ∧ va_K (dC, dI) vwCl ((fun (u : Nat × (Nat → Nat) × (Nat → ClassId)) => (xT ca ++ [((u.2.2 1), .int), ((u.2.2 2), .int), ((u.2.2 3), .int), ((u.2.2 4), .long)])) u) t ∧ va_D (va_A ((jS (jS (jS (jS (jS (jS (xW ad ca) 1 (ad 1, .inr (7, [.ref (ad 2), .int 0, .ref (ad 3), .ref (ad 4), .ref (ad 5), .ref (ad 6), .int 1, .int 0, .int (-1), .ref (ad 7), .int 0, .ref (ad 8), .ref (ad 9), .ref (ad 10), .int 0]))) 3 (ad 3, .inl ((ca 3), 601, .inl (upd (fun _ => 0) 0 0)))) 4 (ad 4, .inl ((ca 4), 601, .inl (upd (fun _ => 0) 0 0)))) 5 (ad 5, .inl ((ca 5), 601, .inl (upd (fun _ => 0) 0 1)))) 6 (ad 6, .inl ((ca 6), 601, .inl (upd (fun _ => 0) 0 (-1))))) 8 (ad 8, .inl ((ca 8), 14, .inl (jfill (fun _ => 0) 14 (-1)))))) sz) ((fun (u : Nat × (Nat → Nat) × (Nat → ClassId)) => (jS (jS (jA (jS (jA (jS (jA (jS (jS (jA (jA (jS (jS (jS (jS (jS (jS (xW ad ca) 1 (ad 1, .inr (7, [.ref (ad 2), .int 0, .ref (ad 3), .ref (ad 4), .ref (ad 5), .ref (ad 6), .int 1, .int 0, .int (-1), .ref (ad 7), .int 0, .ref (ad 8), .ref (ad 9), .ref (ad 10), .int 0]))) 3 (ad 3, .inl ((ca 3), 601, .inl (upd (fun _ => 0) 0 0)))) 4 (ad 4, .inl ((ca 4), 601, .inl (upd (fun _ => 0) 0 0)))) 5 (ad 5, .inl ((ca 5), 601, .inl (upd (fun _ => 0) 0 1)))) 6 (ad 6, .inl ((ca 6), 601, .inl (upd (fun _ => 0) 0 (-1))))) 8 (ad 8, .inl ((u.2.2 2), 14, .inl (jfill (fun _ => 0) 14 (-1))))) [((u.2.1 0), .inr (9, [.null, .null, .null, .null]))]) [((u.2.1 1), .inl ((u.2.2 1), 0, .inl (fun _ => 0)))]) 74 ((u.2.1 1), .inl ((u.2.2 1), 0, .inl (va_cpy (fun _ => 0) (fun _ => 0) 0 0 0)))) 73 ((u.2.1 0), .inr (9, [.ref ((u.2.1 1)), .null, .null, .null]))) [((u.2.1 2), .inl ((u.2.2 2), 14, .inl (jfill (fun _ => 0) 14 (-1))))]) 73 ((u.2.1 0), .inr (9, [.ref ((u.2.1 1)), .ref (u.2.1 2), .null, .null]))) [((u.2.1 3), .inl ((u.2.2 3), 14, .inl (fun _ => 0)))]) 73 ((u.2.1 0), .inr (9, [.ref ((u.2.1 1)), .ref (u.2.1 2), .ref (u.2.1 3), .null]))) [((u.2.1 4), .inl ((u.2.2 4), 0, .inr (.inl (fun _ => 0))))]) 77 ((u.2.1 4), .inl ((u.2.2 4), 0, .inr (.inl (va_cpy (fun _ => 0) (fun _ => 0) 0 0 0))))) 73 ((u.2.1 0), .inr (9, [.ref ((u.2.1 1)), .ref (u.2.1 2), .ref (u.2.1 3), .ref ((u.2.1 4))])))) u)) (va_A ((jS (jS (jS (jS (jS (jS (xW ad ca) 1 (ad 1, .inr (7, [.ref (ad 2), .int 0, .ref (ad 3), .ref (ad 4), .ref (ad 5), .ref (ad 6), .int 1, .int 0, .int (-1), .ref (ad 7), .int 0, .ref (ad 8), .ref (ad 9), .ref (ad 10), .int 0]))) 3 (ad 3, .inl ((ca 3), 601, .inl (upd (fun _ => 0) 0 0)))) 4 (ad 4, .inl ((ca 4), 601, .inl (upd (fun _ => 0) 0 0)))) 5 (ad 5, .inl ((ca 5), 601, .inl (upd (fun _ => 0) 0 1)))) 6 (ad 6, .inl ((ca 6), 601, .inl (upd (fun _ => 0) 0 (-1))))) 8 (ad 8, .inl ((ca 8), 14, .inl (jfill (fun _ => 0) 14 (-1)))))) sz)) 5 32 (va_A ((jS (jS (jS (jS (jS (jS (xW ad ca) 1 (ad 1, .inr (7, [.ref (ad 2), .int 0, .ref (ad 3), .ref (ad 4), .ref (ad 5), .ref (ad 6), .int 1, .int 0, .int (-1), .ref (ad 7), .int 0, .ref (ad 8), .ref (ad 9), .ref (ad 10), .int 0]))) 3 (ad 3, .inl ((ca 3), 601, .inl (upd (fun _ => 0) 0 0)))) 4 (ad 4, .inl ((ca 4), 601, .inl (upd (fun _ => 0) 0 0)))) 5 (ad 5, .inl ((ca 5), 601, .inl (upd (fun _ => 0) 0 1)))) 6 (ad 6, .inl ((ca 6), 601, .inl (upd (fun _ => 0) 0 (-1))))) 8 (ad 8, .inl ((ca 8), 14, .inl (jfill (fun _ => 0) 14 (-1)))))) sz) := by
  refine Met.ofW (cc := cX7_compiled) (maxL := 2) (ret := (some (.object "BookOfAll$Sheet"))) (by decide) rfl ?_
  intro p e s m args below meth c s₁ B hml hv
  obtain ⟨rfl, ⟨hsz, hP, hK, hD0⟩, hE⟩ := hv
  have hx := B.exec
  have hb := B.bytes
  have hr := B.returns
  have hts := atoms_spec (ws := (jk yX7_compiled cX7_compiled 2 (some (.object "BookOfAll$Sheet")))) B.pre
  have hown : s.vm.findClass RX7 = some m.cls := findClass_of_methodNamed B.named
  have hlocks := B.notSynchronized
  subst hsz
  have hD := hD0.self (sz := s.heap.size)
  generalize hAe : (va_A ((jS (jS (jS (jS (jS (jS (xW ad ca) 1 (ad 1, .inr (7, [.ref (ad 2), .int 0, .ref (ad 3), .ref (ad 4), .ref (ad 5), .ref (ad 6), .int 1, .int 0, .int (-1), .ref (ad 7), .int 0, .ref (ad 8), .ref (ad 9), .ref (ad 10), .int 0]))) 3 (ad 3, .inl ((ca 3), 601, .inl (upd (fun _ => 0) 0 0)))) 4 (ad 4, .inl ((ca 4), 601, .inl (upd (fun _ => 0) 0 0)))) 5 (ad 5, .inl ((ca 5), 601, .inl (upd (fun _ => 0) 0 1)))) 6 (ad 6, .inl ((ca 6), 601, .inl (upd (fun _ => 0) 0 (-1))))) 8 (ad 8, .inl ((ca 8), 14, .inl (jfill (fun _ => 0) 14 (-1)))))) s.heap.size) = A at hD ⊢
  have hA : ∀ q : Nat, s.heap.size ≤ q → A q := fun q h => by rw [← hAe]; exact Or.inr h
  have hS : va_S A s.heap s.heap [] := va_S.rf
  have hP : va_P (dC, dI) vwCl ((jS (jS (jS (jS (jS (jS (xW ad ca) 1 (ad 1, .inr (7, [.ref (ad 2), .int 0, .ref (ad 3), .ref (ad 4), .ref (ad 5), .ref (ad 6), .int 1, .int 0, .int (-1), .ref (ad 7), .int 0, .ref (ad 8), .ref (ad 9), .ref (ad 10), .int 0]))) 3 (ad 3, .inl ((ca 3), 601, .inl (upd (fun _ => 0) 0 0)))) 4 (ad 4, .inl ((ca 4), 601, .inl (upd (fun _ => 0) 0 0)))) 5 (ad 5, .inl ((ca 5), 601, .inl (upd (fun _ => 0) 0 1)))) 6 (ad 6, .inl ((ca 6), 601, .inl (upd (fun _ => 0) 0 (-1))))) 8 (ad 8, .inl ((ca 8), 14, .inl (jfill (fun _ => 0) 14 (-1)))))) s.heap := hP
  have hl := lv_entry ([.ref (ad 1)]) (n := 2) (Nat.le_of_ble_eq_true rfl)
  rw [lg_entry_eq]
  generalize (lg_sl ([.ref (ad 1)]) ++ List.replicate (2 - (lg_sl ([.ref (ad 1)])).length) Slot.unset).toArray = ls at hl ⊢
  have hl : lv_has ls 2 [(0, .ref (ad 1))] := hl
  refine va_new (ci := 9) (fs := [.null, .null, .null, .null]) (C := RX9) (T := TX9) (N := 4) hx hb hts (jh hin_RX9) tyX9 tyX9_ok hown (hts (.classLink RX7 31 RX9) (jm m_159)) (hts (.instantiable RX9 4) (jm m_160)) (hts (.initialized RX9) (jm m_161)) hK hP hD hS hA rfl jd_RX9 (Nat.le_of_ble_eq_true rfl) (Nat.le_of_ble_eq_true rfl) dX7_compiled_0 (fun q1 H hP hD hS => ?_)
  refine W.widen (k := 1) (n := 4) (Nat.le_of_ble_eq_true rfl) (Nat.le_of_ble_eq_true rfl) ?_
  refine lv_dup hx hb dX7_compiled_3 rfl ?_
  refine jci_v (va_runIN (As := []) (rest := [.ref q1]) ⟨hx, hb, hml, hown, hts⟩ (iX9_init_1 l dC dI _ (q1)) ⟨va_cnB (host := RX12) 0 hts (jgoodI m_165) rfl rfl rfl (hE.2.1 (RX7, 75, yX9_init) (by decide +kernel)) (hts (.initialized RX9) (jm m_161)) (by decide +kernel) ⟨(Nat.le_of_ble_eq_true rfl), (Nat.le_of_ble_eq_true rfl)⟩, rfl, hts (.instanceMethod yX9_init) (jm m_166)⟩ ⟨jw_blind, fun U hU hW => ⟨rfl, jw_of hU hW (jp_last hP) (hK.sub [] rfl) (jd_last hD)⟩⟩ rfl rfl hl.1 rfl (lv_room (Nat.le_of_ble_eq_true rfl)) dX7_compiled_4 ⟨(Nat.le_of_ble_eq_true rfl), (Nat.le_of_ble_eq_true rfl)⟩) hP hD hS hA (fun u_1 H locs hP hK2 hD hS => ?_)
  have hK := hK.app hK2
  refine W.widen (k := 1) (n := 4) (Nat.le_of_ble_eq_true rfl) (Nat.le_of_ble_eq_true rfl) ?_
  refine lv_astore_n (lv' := [(1, .ref q1), (0, .ref (ad 1))]) hx hb dX7_compiled_7 rfl hl (by decide) rfl (fun ls hl => ?_)
  refine lv_aload_n hx hb dX7_compiled_8 rfl (lv_at hl 0 rfl) ?_
  refine lv_aload_n hx hb dX7_compiled_9 rfl (lv_at hl 1 rfl) ?_
  refine va_get (D := (dC, dI)) (ci := 7) (v := .ref (ad 7)) (C := RX7) (T := TX7) (N := 15) hx hb hts (jh hin_RX7) hown hK hP 1 rfl rfl 9 (by decide) (hts (.fieldLink RX7 28 "BookOfAll$Reader" "code" "[I") (jm m_167)) (fun _ h9 => h9) rfl dX7_compiled_10 ?_
  refine lv_iconst (v := 0) hx hb dX7_compiled_13 (by decide) ?_
  refine lv_aload_n hx hb dX7_compiled_14 rfl (lv_at hl 1 rfl) ?_
  refine va_get (D := (dC, dI)) (ci := 7) (v := .int 0) (C := RX7) (T := TX7) (N := 15) hx hb hts (jh hin_RX7) hown hK hP 1 rfl rfl 10 (by decide) (hts (.fieldLink RX7 56 "BookOfAll$Reader" "codeSize" "I") (jm m_137)) (fun _ h9 => h9) rfl dX7_compiled_15 ?_
  refine va_mmax hx hb (by rw [hml]; exact hl.1.symm) hown (hts (.methodLink RX7 76 Lib.Math.max.name) (jm m_168)) (hts (.static Lib.Math.max.name) (jm m_169)) (hts (.initialized "java/lang/Math") (jm m_170)) (hts (.code Lib.Math.max.name Lib.Math.max.code 2 (some .int)) (jm m_171)) (Nat.le_of_ble_eq_true rfl) (Nat.le_of_ble_eq_true rfl) (Nat.le_of_ble_eq_true rfl) (Nat.le_of_ble_eq_true rfl) dX7_compiled_18 ?_
  refine jt_i 0 (by decide) ?_
  refine jcg_q (va_runS (As := [.ref (ad 7), .int 0]) (rest := [.ref q1]) ⟨hx, hb, hml, hown, hts⟩ (kJ7_copyOf_59c91_2 l dC dI _ ad ca q1) (va_cwS 2 hts (jgoodS m_179 m_180 m_142 m_181) rfl rfl rfl (by decide +kernel) ⟨Nat.le_of_ble_eq_true rfl, Nat.le_of_ble_eq_true rfl⟩) ⟨jw_blind, fun U hU hW => ⟨rfl, jw_of hU hW hP hK hD⟩⟩ rfl rfl hl.1 rfl (lv_room (Nat.le_of_ble_eq_true rfl)) dX7_compiled_21 ⟨Nat.le_of_ble_eq_true rfl, Nat.le_of_ble_eq_true rfl⟩) hD hS hA (fun r_2 u_2 H locs hw_2 hP hK hD hS => ?_)
  obtain ⟨w_2, a_2, y_2⟩ := u_2
  obtain ⟨rfl, rfl⟩ : w_2 = 0 ∧ r_2 = some ((a_2 0)) := hw_2
  have hP : va_P (dC, dI) vwCl ((jS (jA (jA (jS (jS (jS (jS (jS (jS (xW ad ca) 1 (ad 1, .inr (7, [.ref (ad 2), .int 0, .ref (ad 3), .ref (ad 4), .ref (ad 5), .ref (ad 6), .int 1, .int 0, .int (-1), .ref (ad 7), .int 0, .ref (ad 8), .ref (ad 9), .ref (ad 10), .int 0]))) 3 (ad 3, .inl ((ca 3), 601, .inl (upd (fun _ => 0) 0 0)))) 4 (ad 4, .inl ((ca 4), 601, .inl (upd (fun _ => 0) 0 0)))) 5 (ad 5, .inl ((ca 5), 601, .inl (upd (fun _ => 0) 0 1)))) 6 (ad 6, .inl ((ca 6), 601, .inl (upd (fun _ => 0) 0 (-1))))) 8 (ad 8, .inl ((ca 8), 14, .inl (jfill (fun _ => 0) 14 (-1))))) [(q1, .inr (9, [.null, .null, .null, .null]))]) [((a_2 0), .inl ((y_2 0), 0, .inl (fun _ => 0)))]) 74 ((a_2 0), .inl ((y_2 0), 0, .inl (va_cpy (fun _ => 0) (fun _ => 0) 0 0 0))))) H := hP
  have hK : va_K (dC, dI) vwCl ((xT ca ++ [((y_2 0), .int)])) s := hK
  have hD : va_D A ((jS (jA (jA (jS (jS (jS (jS (jS (jS (xW ad ca) 1 (ad 1, .inr (7, [.ref (ad 2), .int 0, .ref (ad 3), .ref (ad 4), .ref (ad 5), .ref (ad 6), .int 1, .int 0, .int (-1), .ref (ad 7), .int 0, .ref (ad 8), .ref (ad 9), .ref (ad 10), .int 0]))) 3 (ad 3, .inl ((ca 3), 601, .inl (upd (fun _ => 0) 0 0)))) 4 (ad 4, .inl ((ca 4), 601, .inl (upd (fun _ => 0) 0 0)))) 5 (ad 5, .inl ((ca 5), 601, .inl (upd (fun _ => 0) 0 1)))) 6 (ad 6, .inl ((ca 6), 601, .inl (upd (fun _ => 0) 0 (-1))))) 8 (ad 8, .inl ((ca 8), 14, .inl (jfill (fun _ => 0) 14 (-1))))) [(q1, .inr (9, [.null, .null, .null, .null]))]) [((a_2 0), .inl ((y_2 0), 0, .inl (fun _ => 0)))]) 74 ((a_2 0), .inl ((y_2 0), 0, .inl (va_cpy (fun _ => 0) (fun _ => 0) 0 0 0))))) := hD
  refine jt_q (Value.ref ((a_2 0))) rfl ?_
  refine va_put (D := (dC, dI)) (ci := 9) (v := .ref ((a_2 0))) (ty := .array .int) (C := RX9) (T := TX9) (N := 4) hx hb hts (jh hin_RX9) tyX9 tyX9_ok nmX9 hown hK hP hD hS 73 rfl rfl 0 (by decide) (hts (.fieldLink RX7 86 "BookOfAll$Sheet" "code" "[I") (jm m_182)) (fun _ h9 => h9) rfl (by decide +kernel) rfl rfl (Nat.le_of_ble_eq_true rfl) dX7_compiled_24 (fun H locs hP hD hS => ?_)
  refine lv_aload_n hx hb dX7_compiled_27 rfl (lv_at hl 0 rfl) ?_
  refine lv_aload_n hx hb dX7_compiled_28 rfl (lv_at hl 1 rfl) ?_
  refine va_get (D := (dC, dI)) (ci := 7) (v := .ref (ad 8)) (C := RX7) (T := TX7) (N := 15) hx hb hts (jh hin_RX7) hown hK hP 1 rfl rfl 11 (by decide) (hts (.fieldLink RX7 33 "BookOfAll$Reader" "from" "[I") (jm m_139)) (fun _ h9 => h9) rfl dX7_compiled_29 ?_
  refine va_clone (ad := "[I") hx hb (by rw [hml]; exact hl.1.symm) hown (hts (.methodLink RX7 87 ⟨"[I", "clone", "()Ljava/lang/Object;"⟩) (jm m_183)) (hts (.sameMethod "[I" "java/lang/Object" "clone" "()Ljava/lang/Object;") (jm m_184)) (hts (.native ⟨"java/lang/Object", "clone", "()Ljava/lang/Object;"⟩) (jm m_185)) (hts (.instanceMethod ⟨"java/lang/Object", "clone", "()Ljava/lang/Object;"⟩) (jm m_186)) (hts (.selects "[I" ⟨"[I", "clone", "()Ljava/lang/Object;"⟩ ⟨"java/lang/Object", "clone", "()Ljava/lang/Object;"⟩) (jm m_187)) hE.2.2 hK hP hD hS hA 8 6 rfl rfl (hK.2 6 _ rfl).2 (jfits_int _ _ _) (Nat.le_of_ble_eq_true rfl) (Nat.le_of_ble_eq_true rfl) (Nat.le_of_ble_eq_true rfl) (Nat.le_of_ble_eq_true rfl) dX7_compiled_32 (fun q2 H hK hP hD hS => ?_)
  refine W.widen (k := 3) (n := 18) (Nat.le_of_ble_eq_true rfl) (Nat.le_of_ble_eq_true rfl) ?_
  refine va_castA (nm := "[I") hx hb hown (hts (.classLink RX7 88 "[I") (jm m_188)) hP 75 rfl (hK.2 6 _ rfl).2 dX7_compiled_35 ?_
  refine va_put (D := (dC, dI)) (ci := 9) (v := .ref q2) (ty := .array .int) (C := RX9) (T := TX9) (N := 4) hx hb hts (jh hin_RX9) tyX9 tyX9_ok nmX9 hown hK hP hD hS 73 rfl rfl 1 (by decide) (hts (.fieldLink RX7 92 "BookOfAll$Sheet" "from" "[I") (jm m_189)) (fun _ h9 => h9) rfl (by decide +kernel) rfl rfl (Nat.le_of_ble_eq_true rfl) dX7_compiled_38 (fun H locs hP hD hS => ?_)
  refine lv_aload_n hx hb dX7_compiled_41 rfl (lv_at hl 0 rfl) ?_
  refine lv_aload_n hx hb dX7_compiled_42 rfl (lv_at hl 1 rfl) ?_
  refine va_get (D := (dC, dI)) (ci := 7) (v := .ref (ad 9)) (C := RX7) (T := TX7) (N := 15) hx hb hts (jh hin_RX7) hown hK hP 1 rfl rfl 12 (by decide) (hts (.fieldLink RX7 36 "BookOfAll$Reader" "to" "[I") (jm m_190)) (fun _ h9 => h9) rfl dX7_compiled_43 ?_
  refine va_clone (ad := "[I") hx hb (by rw [hml]; exact hl.1.symm) hown (hts (.methodLink RX7 87 ⟨"[I", "clone", "()Ljava/lang/Object;"⟩) (jm m_183)) (hts (.sameMethod "[I" "java/lang/Object" "clone" "()Ljava/lang/Object;") (jm m_184)) (hts (.native ⟨"java/lang/Object", "clone", "()Ljava/lang/Object;"⟩) (jm m_185)) (hts (.instanceMethod ⟨"java/lang/Object", "clone", "()Ljava/lang/Object;"⟩) (jm m_186)) (hts (.selects "[I" ⟨"[I", "clone", "()Ljava/lang/Object;"⟩ ⟨"java/lang/Object", "clone", "()Ljava/lang/Object;"⟩) (jm m_187)) hE.2.2 hK hP hD hS hA 9 7 rfl rfl (hK.2 7 _ rfl).2 (jfits_int _ _ _) (Nat.le_of_ble_eq_true rfl) (Nat.le_of_ble_eq_true rfl) (Nat.le_of_ble_eq_true rfl) (Nat.le_of_ble_eq_true rfl) dX7_compiled_46 (fun q3 H hK hP hD hS => ?_)
  refine W.widen (k := 4) (n := 32) (Nat.le_of_ble_eq_true rfl) (Nat.le_of_ble_eq_true rfl) ?_
  refine va_castA (nm := "[I") hx hb hown (hts (.classLink RX7 88 "[I") (jm m_188)) hP 76 rfl (hK.2 7 _ rfl).2 dX7_compiled_49 ?_
  refine va_put (D := (dC, dI)) (ci := 9) (v := .ref q3) (ty := .array .int) (C := RX9) (T := TX9) (N := 4) hx hb hts (jh hin_RX9) tyX9 tyX9_ok nmX9 hown hK hP hD hS 73 rfl rfl 2 (by decide) (hts (.fieldLink RX7 93 "BookOfAll$Sheet" "to" "[I") (jm m_191)) (fun _ h9 => h9) rfl (by decide +kernel) rfl rfl (Nat.le_of_ble_eq_true rfl) dX7_compiled_52 (fun H locs hP hD hS => ?_)
  refine lv_aload_n hx hb dX7_compiled_55 rfl (lv_at hl 0 rfl) ?_
  refine lv_aload_n hx hb dX7_compiled_56 rfl (lv_at hl 1 rfl) ?_
  refine va_get (D := (dC, dI)) (ci := 7) (v := .ref (ad 10)) (C := RX7) (T := TX7) (N := 15) hx hb hts (jh hin_RX7) hown hK hP 1 rfl rfl 13 (by decide) (hts (.fieldLink RX7 39 "BookOfAll$Reader" "words" "[J") (jm m_192)) (fun _ h9 => h9) rfl dX7_compiled_57 ?_
  refine lv_iconst (v := 0) hx hb dX7_compiled_60 (by decide) ?_
  refine lv_aload_n hx hb dX7_compiled_61 rfl (lv_at hl 1 rfl) ?_
  refine va_get (D := (dC, dI)) (ci := 7) (v := .int 0) (C := RX7) (T := TX7) (N := 15) hx hb hts (jh hin_RX7) hown hK hP 1 rfl rfl 14 (by decide) (hts (.fieldLink RX7 59 "BookOfAll$Reader" "wordCount" "I") (jm m_138)) (fun _ h9 => h9) rfl dX7_compiled_62 ?_
  refine va_mmax hx hb (by rw [hml]; exact hl.1.symm) hown (hts (.methodLink RX7 76 Lib.Math.max.name) (jm m_168)) (hts (.static Lib.Math.max.name) (jm m_169)) (hts (.initialized "java/lang/Math") (jm m_170)) (hts (.code Lib.Math.max.name Lib.Math.max.code 2 (some .int)) (jm m_171)) (Nat.le_of_ble_eq_true rfl) (Nat.le_of_ble_eq_true rfl) (Nat.le_of_ble_eq_true rfl) (Nat.le_of_ble_eq_true rfl) dX7_compiled_65 ?_
  refine jt_i 0 (by decide) ?_
  refine jcg_q (va_runS (As := [.ref (ad 10), .int 0]) (rest := [.ref q1]) ⟨hx, hb, hml, hown, hts⟩ (kJ7_copyOf_c38d5_2 l dC dI _ ad ca q1 a_2 y_2 q2 q3) (va_cwS 2 hts (jgoodS m_194 m_195 m_142 m_196) rfl rfl rfl (by decide +kernel) ⟨Nat.le_of_ble_eq_true rfl, Nat.le_of_ble_eq_true rfl⟩) ⟨jw_blind, fun U hU hW => ⟨rfl, jw_of hU hW hP hK hD⟩⟩ rfl rfl hl.1 rfl (lv_room (Nat.le_of_ble_eq_true rfl)) dX7_compiled_68 ⟨Nat.le_of_ble_eq_true rfl, Nat.le_of_ble_eq_true rfl⟩) hD hS hA (fun r_3 u_3 H locs hw_3 hP hK hD hS => ?_)
  obtain ⟨w_3, a_3, y_3⟩ := u_3
  obtain ⟨rfl, rfl⟩ : w_3 = 0 ∧ r_3 = some ((a_3 0)) := hw_3
  have hP : va_P (dC, dI) vwCl ((jS (jA (jS (jA (jS (jA (jS (jS (jA (jA (jS (jS (jS (jS (jS (jS (xW ad ca) 1 (ad 1, .inr (7, [.ref (ad 2), .int 0, .ref (ad 3), .ref (ad 4), .ref (ad 5), .ref (ad 6), .int 1, .int 0, .int (-1), .ref (ad 7), .int 0, .ref (ad 8), .ref (ad 9), .ref (ad 10), .int 0]))) 3 (ad 3, .inl ((ca 3), 601, .inl (upd (fun _ => 0) 0 0)))) 4 (ad 4, .inl ((ca 4), 601, .inl (upd (fun _ => 0) 0 0)))) 5 (ad 5, .inl ((ca 5), 601, .inl (upd (fun _ => 0) 0 1)))) 6 (ad 6, .inl ((ca 6), 601, .inl (upd (fun _ => 0) 0 (-1))))) 8 (ad 8, .inl ((ca 8), 14, .inl (jfill (fun _ => 0) 14 (-1))))) [(q1, .inr (9, [.null, .null, .null, .null]))]) [((a_2 0), .inl ((y_2 0), 0, .inl (fun _ => 0)))]) 74 ((a_2 0), .inl ((y_2 0), 0, .inl (va_cpy (fun _ => 0) (fun _ => 0) 0 0 0)))) 73 (q1, .inr (9, [.ref ((a_2 0)), .null, .null, .null]))) [(q2, .inl ((ca 8), 14, .inl (jfill (fun _ => 0) 14 (-1))))]) 73 (q1, .inr (9, [.ref ((a_2 0)), .ref q2, .null, .null]))) [(q3, .inl ((ca 9), 14, .inl (fun _ => 0)))]) 73 (q1, .inr (9, [.ref ((a_2 0)), .ref q2, .ref q3, .null]))) [((a_3 0), .inl ((y_3 0), 0, .inr (.inl (fun _ => 0))))]) 77 ((a_3 0), .inl ((y_3 0), 0, .inr (.inl (va_cpy (fun _ => 0) (fun _ => 0) 0 0 0)))))) H := hP
  have hK : va_K (dC, dI) vwCl ((xT ca ++ [((y_2 0), .int), ((ca 8), .int), ((ca 9), .int), ((y_3 0), .long)])) s := hK
  have hD : va_D A ((jS (jA (jS (jA (jS (jA (jS (jS (jA (jA (jS (jS (jS (jS (jS (jS (xW ad ca) 1 (ad 1, .inr (7, [.ref (ad 2), .int 0, .ref (ad 3), .ref (ad 4), .ref (ad 5), .ref (ad 6), .int 1, .int 0, .int (-1), .ref (ad 7), .int 0, .ref (ad 8), .ref (ad 9), .ref (ad 10), .int 0]))) 3 (ad 3, .inl ((ca 3), 601, .inl (upd (fun _ => 0) 0 0)))) 4 (ad 4, .inl ((ca 4), 601, .inl (upd (fun _ => 0) 0 0)))) 5 (ad 5, .inl ((ca 5), 601, .inl (upd (fun _ => 0) 0 1)))) 6 (ad 6, .inl ((ca 6), 601, .inl (upd (fun _ => 0) 0 (-1))))) 8 (ad 8, .inl ((ca 8), 14, .inl (jfill (fun _ => 0) 14 (-1))))) [(q1, .inr (9, [.null, .null, .null, .null]))]) [((a_2 0), .inl ((y_2 0), 0, .inl (fun _ => 0)))]) 74 ((a_2 0), .inl ((y_2 0), 0, .inl (va_cpy (fun _ => 0) (fun _ => 0) 0 0 0)))) 73 (q1, .inr (9, [.ref ((a_2 0)), .null, .null, .null]))) [(q2, .inl ((ca 8), 14, .inl (jfill (fun _ => 0) 14 (-1))))]) 73 (q1, .inr (9, [.ref ((a_2 0)), .ref q2, .null, .null]))) [(q3, .inl ((ca 9), 14, .inl (fun _ => 0)))]) 73 (q1, .inr (9, [.ref ((a_2 0)), .ref q2, .ref q3, .null]))) [((a_3 0), .inl ((y_3 0), 0, .inr (.inl (fun _ => 0))))]) 77 ((a_3 0), .inl ((y_3 0), 0, .inr (.inl (va_cpy (fun _ => 0) (fun _ => 0) 0 0 0)))))) := hD
  refine jt_q (Value.ref ((a_3 0))) rfl ?_
  refine va_put (D := (dC, dI)) (ci := 9) (v := .ref ((a_3 0))) (ty := .array .long) (C := RX9) (T := TX9) (N := 4) hx hb hts (jh hin_RX9) tyX9 tyX9_ok nmX9 hown hK hP hD hS 73 rfl rfl 3 (by decide) (hts (.fieldLink RX7 97 "BookOfAll$Sheet" "words" "[J") (jm m_197)) (fun _ h9 => h9) rfl (by decide +kernel) rfl rfl (Nat.le_of_ble_eq_true rfl) dX7_compiled_71 (fun H locs hP hD hS => ?_)
  refine lv_aload_n hx hb dX7_compiled_74 rfl (lv_at hl 0 rfl) ?_
  refine W.widen (k := 5) (n := 32) (Nat.le_of_ble_eq_true rfl) (Nat.le_of_ble_eq_true rfl) ?_
  exact W.aret (v := .ref q1) hx hb hr (Or.inl ⟨_, rfl⟩) (Or.inr ⟨_, rfl⟩) (fun t ht hW => ⟨⟨some (q1), (0, fun k => [q1, (a_2 0), q2, q3, (a_3 0)].getD k 0, fun k => [dC 0, (y_2 0), (ca 8), (ca 9), (y_3 0)].getD k (dC 0)), rfl, ⟨rfl, rfl⟩, by rw [ht]; exact hP, va_K.moved hW.alike hK, hD⟩, hS.F ht⟩) hS.2.2 dX7_compiled_75
set_option maxHeartbeats 500000 in
set_option maxRecDepth 100000 in
theorem kX8_keep_2 (l : Launch) (dC : Nat → ClassId) (dI : Nat → Nat → Nat) (sz : Nat) (ad : Nat → Nat) (ca : Nat → ClassId) (w0 : Nat → Nat) (w1 : Nat → ClassId) : Met l yX8_keep (jk yX8_keep cX8_keep 2 (some .int)) ({ frames := 0, cells := 0, slots := 0, locals := 0 }) (va_Pc [.ref (ad 11), .ref ((w0 0))] (jw_P (dC, dI) ((jS (jS (jA (jS (jA (jS (jA (jS (jS (jA (jA (jS (jS (jS (jS (jS (jS (xW ad ca) 1 (ad 1, .inr (7, [.ref (ad 2), .int 0, .ref (ad 3), .ref (ad 4), .ref (ad 5), .ref (ad 6), .int 1, .int 0, .int (-1), .ref (ad 7), .int 0, .ref (ad 8), .ref (ad 9), .ref (ad 10), .int 0]))) 3 (ad 3, .inl ((ca 3), 601, .inl (upd (fun _ => 0) 0 0)))) 4 (ad 4, .inl ((ca 4), 601, .inl (upd (fun _ => 0) 0 0)))) 5 (ad 5, .inl ((ca 5), 601, .inl (upd (fun _ => 0) 0 1)))) 6 (ad 6, .inl ((ca 6), 601, .inl (upd (fun _ => 0) 0 (-1))))) 8 (ad 8, .inl ((w1 2), 14, .inl (jfill (fun _ => 0) 14 (-1))))) [((w0 0), .inr (9, [.null, .null, .null, .null]))]) [((w0 1), .inl ((w1 1), 0, .inl (fun _ => 0)))]) 74 ((w0 1), .inl ((w1 1), 0, .inl (va_cpy (fun _ => 0) (fun _ => 0) 0 0 0)))) 73 ((w0 0), .inr (9, [.ref ((w0 1)), .null, .null, .null]))) [((w0 2), .inl ((w1 2), 14, .inl (jfill (fun _ => 0) 14 (-1))))]) 73 ((w0 0), .inr (9, [.ref ((w0 1)), .ref (w0 2), .null, .null]))) [((w0 3), .inl ((w1 3), 14, .inl (fun _ => 0)))]) 73 ((w0 0), .inr (9, [.ref ((w0 1)), .ref (w0 2), .ref (w0 3), .null]))) [((w0 4), .inl ((w1 4), 0, .inr (.inl (fun _ => 0))))]) 77 ((w0 4), .inl ((w1 4), 0, .inr (.inl (va_cpy (fun _ => 0) (fun _ => 0) 0 0 0))))) 73 ((w0 0), .inr (9, [.ref ((w0 1)), .ref (w0 2), .ref (w0 3), .ref ((w0 4))])))) ((xT ca ++ [((w1 1), .int), ((w1 2), .int), ((w1 3), .int), ((w1 4), .long)])) sz)) (va_Qi (fun (r : Int32) (_ : Unit) => (r = 0)) (fun _ t => va_P (dC, dI) vwCl ((jS (jS (jS (jS (jA (jS (jA (jS (jA (jS (jS (jA (jA (jS (jS (jS (jS (jS (jS (xW ad ca) 1 (ad 1, .inr (7, [.ref (ad 2), .int 0, .ref (ad 3), .ref (ad 4), .ref (ad 5), .ref (ad 6), .int 1, .int 0, .int (-1), .ref (ad 7), .int 0, .ref (ad 8), .ref (ad 9), .ref (ad 10), .int 0]))) 3 (ad 3, .inl ((ca 3), 601, .inl (upd (fun _ => 0) 0 0)))) 4 (ad 4, .inl ((ca 4), 601, .inl (upd (fun _ => 0) 0 0)))) 5 (ad 5, .inl ((ca 5), 601, .inl (upd (fun _ => 0) 0 1)))) 6 (ad 6, .inl ((ca 6), 601, .inl (upd (fun _ => 0) 0 (-1))))) 8 (ad 8, .inl ((w1 2), 14, .inl (jfill (fun _ => 0) 14 (-1))))) [((w0 0), .inr (9, [.null, .null, .null, .null]))]) [((w0 1), .inl ((w1 1), 0, .inl (fun _ => 0)))]) 74 ((w0 1), .inl ((w1 1), 0, .inl (va_cpy (fun _ => 0) (fun _ => 0) 0 0 0)))) 73 ((w0 0), .inr (9, [.ref ((w0 1)), .null, .null, .null]))) [((w0 2), .inl ((w1 2), 14, .inl (jfill (fun _ => 0) 14 (-1))))]) 73 ((w0 0), .inr (9, [.ref ((w0 1)), .ref (w0 2), .null, .null]))) [((w0 3), .inl ((w1 3), 14, .inl (fun _ => 0)))]) 73 ((w0 0), .inr (9, [.ref ((w0 1)), .ref (w0 2), .ref (w0 3), .null]))) [((w0 4), .inl ((w1 4), 0, .inr (.inl (fun _ => 0))))]) 77 ((w0 4), .inl ((w1 4), 0, .inr (.inl (va_cpy (fun _ => 0) (fun _ => 0) 0 0 0))))) 73 ((w0 0), .inr (9, [.ref ((w0 1)), .ref (w0 2), .ref (w0 3), .ref ((w0 4))]))) 12 (ad 12, .inl ((ca 12), 12, .inr (.inr (.inr (.inr (va_up (fun _ => none) 0 (some ((w0 0)))))))))) 11 (ad 11, .inr (8, [.ref (ad 12), .int 1, .ref (ad 13), .ref (ad 14), .ref (ad 15), .int 0, .ref (ad 16), .ref (ad 17)])))) t.heap ∧ va_K (dC, dI) vwCl ((xT ca ++ [((w1 1), .int), ((w1 2), .int), ((w1 3), .int), ((w1 4), .long)])) t ∧ va_D (va_A ((jS (jS (jA (jS (jA (jS (jA (jS (jS (jA (jA (jS (jS (jS (jS (jS (jS (xW ad ca) 1 (ad 1, .inr (7, [.ref (ad 2), .int 0, .ref (ad 3), .ref (ad 4), .ref (ad 5), .ref (ad 6), .int 1, .int 0, .int (-1), .ref (ad 7), .int 0, .ref (ad 8), .ref (ad 9), .ref (ad 10), .int 0]))) 3 (ad 3, .inl ((ca 3), 601, .inl (upd (fun _ => 0) 0 0)))) 4 (ad 4, .inl ((ca 4), 601, .inl (upd (fun _ => 0) 0 0)))) 5 (ad 5, .inl ((ca 5), 601, .inl (upd (fun _ => 0) 0 1)))) 6 (ad 6, .inl ((ca 6), 601, .inl (upd (fun _ => 0) 0 (-1))))) 8 (ad 8, .inl ((w1 2), 14, .inl (jfill (fun _ => 0) 14 (-1))))) [((w0 0), .inr (9, [.null, .null, .null, .null]))]) [((w0 1), .inl ((w1 1), 0, .inl (fun _ => 0)))]) 74 ((w0 1), .inl ((w1 1), 0, .inl (va_cpy (fun _ => 0) (fun _ => 0) 0 0 0)))) 73 ((w0 0), .inr (9, [.ref ((w0 1)), .null, .null, .null]))) [((w0 2), .inl ((w1 2), 14, .inl (jfill (fun _ => 0) 14 (-1))))]) 73 ((w0 0), .inr (9, [.ref ((w0 1)), .ref (w0 2), .null, .null]))) [((w0 3), .inl ((w1 3), 14, .inl (fun _ => 0)))]) 73 ((w0 0), .inr (9, [.ref ((w0 1)), .ref (w0 2), .ref (w0 3), .null]))) [((w0 4), .inl ((w1 4), 0, .inr (.inl (fun _ => 0))))]) 77 ((w0 4), .inl ((w1 4), 0, .inr (.inl (va_cpy (fun _ => 0) (fun _ => 0) 0 0 0))))) 73 ((w0 0), .inr (9, [.ref ((w0 1)), .ref (w0 2), .ref (w0 3), .ref ((w0 4))])))) sz) ((jS (jS (jS (jS (jA (jS (jA (jS (jA (jS (jS (jA (jA (jS (jS (jS (jS (jS (jS (xW ad ca) 1 (ad 1, .inr (7, [.ref (ad 2), .int 0, .ref (ad 3), .ref (ad 4), .ref (ad 5), .ref (ad 6), .int 1, .int 0, .int (-1), .ref (ad 7), .int 0, .ref (ad 8), .ref (ad 9), .ref (ad 10), .int 0]))) 3 (ad 3, .inl ((ca 3), 601, .inl (upd (fun _ => 0) 0 0)))) 4 (ad 4, .inl ((ca 4), 601, .inl (upd (fun _ => 0) 0 0)))) 5 (ad 5, .inl ((ca 5), 601, .inl (upd (fun _ => 0) 0 1)))) 6 (ad 6, .inl ((ca 6), 601, .inl (upd (fun _ => 0) 0 (-1))))) 8 (ad 8, .inl ((w1 2), 14, .inl (jfill (fun _ => 0) 14 (-1))))) [((w0 0), .inr (9, [.null, .null, .null, .null]))]) [((w0 1), .inl ((w1 1), 0, .inl (fun _ => 0)))]) 74 ((w0 1), .inl ((w1 1), 0, .inl (va_cpy (fun _ => 0) (fun _ => 0) 0 0 0)))) 73 ((w0 0), .inr (9, [.ref ((w0 1)), .null, .null, .null]))) [((w0 2), .inl ((w1 2), 14, .inl (jfill (fun _ => 0) 14 (-1))))]) 73 ((w0 0), .inr (9, [.ref ((w0 1)), .ref (w0 2), .null, .null]))) [((w0 3), .inl ((w1 3), 14, .inl (fun _ => 0)))]) 73 ((w0 0), .inr (9, [.ref ((w0 1)), .ref (w0 2), .ref (w0 3), .null]))) [((w0 4), .inl ((w1 4), 0, .inr (.inl (fun _ => 0))))]) 77 ((w0 4), .inl ((w1 4), 0, .inr (.inl (va_cpy (fun _ => 0) (fun _ => 0) 0 0 0))))) 73 ((w0 0), .inr (9, [.ref ((w0 1)), .ref (w0 2), .ref (w0 3), .ref ((w0 4))]))) 12 (ad 12, .inl ((ca 12), 12, .inr (.inr (.inr (.inr (va_up (fun _ => none) 0 (some ((w0 0)))))))))) 11 (ad 11, .inr (8, [.ref (ad 12), .int 1, .ref (ad 13), .ref (ad 14), .ref (ad 15), .int 0, .ref (ad 16), .ref (ad 17)]))))) (va_A ((jS (jS (jA (jS (jA (jS (jA (jS (jS (jA (jA (jS (jS (jS (jS (jS (jS (xW ad ca) 1 (ad 1, .inr (7, [.ref (ad 2), .int 0, .ref (ad 3), .ref (ad 4), .ref (ad 5), .ref (ad 6), .int 1, .int 0, .int (-1), .ref (ad 7), .int 0, .ref (ad 8), .ref (ad 9), .ref (ad 10), .int 0]))) 3 (ad 3, .inl ((ca 3), 601, .inl (upd (fun _ => 0) 0 0)))) 4 (ad 4, .inl ((ca 4), 601, .inl (upd (fun _ => 0) 0 0)))) 5 (ad 5, .inl ((ca 5), 601, .inl (upd (fun _ => 0) 0 1)))) 6 (ad 6, .inl ((ca 6), 601, .inl (upd (fun _ => 0) 0 (-1))))) 8 (ad 8, .inl ((w1 2), 14, .inl (jfill (fun _ => 0) 14 (-1))))) [((w0 0), .inr (9, [.null, .null, .null, .null]))]) [((w0 1), .inl ((w1 1), 0, .inl (fun _ => 0)))]) 74 ((w0 1), .inl ((w1 1), 0, .inl (va_cpy (fun _ => 0) (fun _ => 0) 0 0 0)))) 73 ((w0 0), .inr (9, [.ref ((w0 1)), .null, .null, .null]))) [((w0 2), .inl ((w1 2), 14, .inl (jfill (fun _ => 0) 14 (-1))))]) 73 ((w0 0), .inr (9, [.ref ((w0 1)), .ref (w0 2), .null, .null]))) [((w0 3), .inl ((w1 3), 14, .inl (fun _ => 0)))]) 73 ((w0 0), .inr (9, [.ref ((w0 1)), .ref (w0 2), .ref (w0 3), .null]))) [((w0 4), .inl ((w1 4), 0, .inr (.inl (fun _ => 0))))]) 77 ((w0 4), .inl ((w1 4), 0, .inr (.inl (va_cpy (fun _ => 0) (fun _ => 0) 0 0 0))))) 73 ((w0 0), .inr (9, [.ref ((w0 1)), .ref (w0 2), .ref (w0 3), .ref ((w0 4))])))) sz)) 0 0 (va_A ((jS (jS (jA (jS (jA (jS (jA (jS (jS (jA (jA (jS (jS (jS (jS (jS (jS (xW ad ca) 1 (ad 1, .inr (7, [.ref (ad 2), .int 0, .ref (ad 3), .ref (ad 4), .ref (ad 5), .ref (ad 6), .int 1, .int 0, .int (-1), .ref (ad 7), .int 0, .ref (ad 8), .ref (ad 9), .ref (ad 10), .int 0]))) 3 (ad 3, .inl ((ca 3), 601, .inl (upd (fun _ => 0) 0 0)))) 4 (ad 4, .inl ((ca 4), 601, .inl (upd (fun _ => 0) 0 0)))) 5 (ad 5, .inl ((ca 5), 601, .inl (upd (fun _ => 0) 0 1)))) 6 (ad 6, .inl ((ca 6), 601, .inl (upd (fun _ => 0) 0 (-1))))) 8 (ad 8, .inl ((w1 2), 14, .inl (jfill (fun _ => 0) 14 (-1))))) [((w0 0), .inr (9, [.null, .null, .null, .null]))]) [((w0 1), .inl ((w1 1), 0, .inl (fun _ => 0)))]) 74 ((w0 1), .inl ((w1 1), 0, .inl (va_cpy (fun _ => 0) (fun _ => 0) 0 0 0)))) 73 ((w0 0), .inr (9, [.ref ((w0 1)), .null, .null, .null]))) [((w0 2), .inl ((w1 2), 14, .inl (jfill (fun _ => 0) 14 (-1))))]) 73 ((w0 0), .inr (9, [.ref ((w0 1)), .ref (w0 2), .null, .null]))) [((w0 3), .inl ((w1 3), 14, .inl (fun _ => 0)))]) 73 ((w0 0), .inr (9, [.ref ((w0 1)), .ref (w0 2), .ref (w0 3), .null]))) [((w0 4), .inl ((w1 4), 0, .inr (.inl (fun _ => 0))))]) 77 ((w0 4), .inl ((w1 4), 0, .inr (.inl (va_cpy (fun _ => 0) (fun _ => 0) 0 0 0))))) 73 ((w0 0), .inr (9, [.ref ((w0 1)), .ref (w0 2), .ref (w0 3), .ref ((w0 4))])))) sz) := by
  refine Met.ofW (cc := cX8_keep) (maxL := 2) (ret := (some .int)) (by decide) rfl ?_
  intro p e s m args below meth c s₁ B hml hv
  obtain ⟨rfl, hsz, hP, hK, hD0⟩ := hv
  have hx := B.exec
  have hb := B.bytes
  have hr := B.returns
  have hts := atoms_spec (ws := (jk yX8_keep cX8_keep 2 (some .int))) B.pre
  have hown : s.vm.findClass RX8 = some m.cls := findClass_of_methodNamed B.named
  have hlocks := B.notSynchronized
  subst hsz
  have hD := hD0.self (sz := s.heap.size)
  generalize hAe : (va_A ((jS (jS (jA (jS (jA (jS (jA (jS (jS (jA (jA (jS (jS (jS (jS (jS (jS (xW ad ca) 1 (ad 1, .inr (7, [.ref (ad 2), .int 0, .ref (ad 3), .ref (ad 4), .ref (ad 5), .ref (ad 6), .int 1, .int 0, .int (-1), .ref (ad 7), .int 0, .ref (ad 8), .ref (ad 9), .ref (ad 10), .int 0]))) 3 (ad 3, .inl ((ca 3), 601, .inl (upd (fun _ => 0) 0 0)))) 4 (ad 4, .inl ((ca 4), 601, .inl (upd (fun _ => 0) 0 0)))) 5 (ad 5, .inl ((ca 5), 601, .inl (upd (fun _ => 0) 0 1)))) 6 (ad 6, .inl ((ca 6), 601, .inl (upd (fun _ => 0) 0 (-1))))) 8 (ad 8, .inl ((w1 2), 14, .inl (jfill (fun _ => 0) 14 (-1))))) [((w0 0), .inr (9, [.null, .null, .null, .null]))]) [((w0 1), .inl ((w1 1), 0, .inl (fun _ => 0)))]) 74 ((w0 1), .inl ((w1 1), 0, .inl (va_cpy (fun _ => 0) (fun _ => 0) 0 0 0)))) 73 ((w0 0), .inr (9, [.ref ((w0 1)), .null, .null, .null]))) [((w0 2), .inl ((w1 2), 14, .inl (jfill (fun _ => 0) 14 (-1))))]) 73 ((w0 0), .inr (9, [.ref ((w0 1)), .ref (w0 2), .null, .null]))) [((w0 3), .inl ((w1 3), 14, .inl (fun _ => 0)))]) 73 ((w0 0), .inr (9, [.ref ((w0 1)), .ref (w0 2), .ref (w0 3), .null]))) [((w0 4), .inl ((w1 4), 0, .inr (.inl (fun _ => 0))))]) 77 ((w0 4), .inl ((w1 4), 0, .inr (.inl (va_cpy (fun _ => 0) (fun _ => 0) 0 0 0))))) 73 ((w0 0), .inr (9, [.ref ((w0 1)), .ref (w0 2), .ref (w0 3), .ref ((w0 4))])))) s.heap.size) = A at hD ⊢
  have hA : ∀ q : Nat, s.heap.size ≤ q → A q := fun q h => by rw [← hAe]; exact Or.inr h
  have hS : va_S A s.heap s.heap [] := va_S.rf
  have hP : va_P (dC, dI) vwCl ((jS (jS (jA (jS (jA (jS (jA (jS (jS (jA (jA (jS (jS (jS (jS (jS (jS (xW ad ca) 1 (ad 1, .inr (7, [.ref (ad 2), .int 0, .ref (ad 3), .ref (ad 4), .ref (ad 5), .ref (ad 6), .int 1, .int 0, .int (-1), .ref (ad 7), .int 0, .ref (ad 8), .ref (ad 9), .ref (ad 10), .int 0]))) 3 (ad 3, .inl ((ca 3), 601, .inl (upd (fun _ => 0) 0 0)))) 4 (ad 4, .inl ((ca 4), 601, .inl (upd (fun _ => 0) 0 0)))) 5 (ad 5, .inl ((ca 5), 601, .inl (upd (fun _ => 0) 0 1)))) 6 (ad 6, .inl ((ca 6), 601, .inl (upd (fun _ => 0) 0 (-1))))) 8 (ad 8, .inl ((w1 2), 14, .inl (jfill (fun _ => 0) 14 (-1))))) [((w0 0), .inr (9, [.null, .null, .null, .null]))]) [((w0 1), .inl ((w1 1), 0, .inl (fun _ => 0)))]) 74 ((w0 1), .inl ((w1 1), 0, .inl (va_cpy (fun _ => 0) (fun _ => 0) 0 0 0)))) 73 ((w0 0), .inr (9, [.ref ((w0 1)), .null, .null, .null]))) [((w0 2), .inl ((w1 2), 14, .inl (jfill (fun _ => 0) 14 (-1))))]) 73 ((w0 0), .inr (9, [.ref ((w0 1)), .ref (w0 2), .null, .null]))) [((w0 3), .inl ((w1 3), 14, .inl (fun _ => 0)))]) 73 ((w0 0), .inr (9, [.ref ((w0 1)), .ref (w0 2), .ref (w0 3), .null]))) [((w0 4), .inl ((w1 4), 0, .inr (.inl (fun _ => 0))))]) 77 ((w0 4), .inl ((w1 4), 0, .inr (.inl (va_cpy (fun _ => 0) (fun _ => 0) 0 0 0))))) 73 ((w0 0), .inr (9, [.ref ((w0 1)), .ref (w0 2), .ref (w0 3), .ref ((w0 4))])))) s.heap := hP
  have hl := lv_entry ([.ref (ad 11), .ref ((w0 0))]) (n := 2) (Nat.le_of_ble_eq_true rfl)
  rw [lg_entry_eq]
  generalize (lg_sl ([.ref (ad 11), .ref ((w0 0))]) ++ List.replicate (2 - (lg_sl ([.ref (ad 11), .ref ((w0 0))])).length) Slot.unset).toArray = ls at hl ⊢
  have hl : lv_has ls 2 [(0, .ref (ad 11)), (1, .ref ((w0 0)))] := hl
  refine lv_aload_n hx hb dX8_keep_0 rfl (lv_at hl 0 rfl) ?_
  refine va_get (D := (dC, dI)) (ci := 8) (v := .int 0) (C := RX8) (T := TX8) (N := 8) hx hb hts (jh hin_RX8) hown hK hP 11 rfl rfl 1 (by decide) (hts (.fieldLink RX8 33 "BookOfAll$Rules" "sheetCount" "I") (jm m_153)) (fun _ h9 => h9) rfl dX8_keep_1 ?_
  refine lv_if_lt (tgt := 16) hx hb dX8_keep_4 (by decide) (fun z => absurd z (by decide)) (fun _ => ?_)
  refine lv_aload_n hx hb dX8_keep_7 rfl (lv_at hl 0 rfl) ?_
  refine va_get (D := (dC, dI)) (ci := 8) (v := .int 0) (C := RX8) (T := TX8) (N := 8) hx hb hts (jh hin_RX8) hown hK hP 11 rfl rfl 1 (by decide) (hts (.fieldLink RX8 33 "BookOfAll$Rules" "sheetCount" "I") (jm m_153)) (fun _ h9 => h9) rfl dX8_keep_8 ?_
  refine lv_bipush (v := 12) hx hb dX8_keep_11 (by decide) ?_
  refine lv_icmp_lt (tgt := 18) hx hb dX8_keep_13 (by decide) (fun _ => ?_) (fun z => absurd (by decide) z)
  refine lv_aload_n hx hb dX8_keep_18 rfl (lv_at hl 0 rfl) ?_
  refine va_get (D := (dC, dI)) (ci := 8) (v := .ref (ad 12)) (C := RX8) (T := TX8) (N := 8) hx hb hts (jh hin_RX8) hown hK hP 11 rfl rfl 0 (by decide) (hts (.fieldLink RX8 13 "BookOfAll$Rules" "sheets" "[LBookOfAll$Sheet;") (jm m_202)) (fun _ h9 => h9) rfl dX8_keep_19 ?_
  refine lv_aload_n hx hb dX8_keep_22 rfl (lv_at hl 0 rfl) ?_
  refine va_get (D := (dC, dI)) (ci := 8) (v := .int 0) (C := RX8) (T := TX8) (N := 8) hx hb hts (jh hin_RX8) hown hK hP 11 rfl rfl 1 (by decide) (hts (.fieldLink RX8 33 "BookOfAll$Rules" "sheetCount" "I") (jm m_153)) (fun _ h9 => h9) rfl dX8_keep_23 ?_
  refine lv_aload_n hx hb dX8_keep_26 rfl (lv_at hl 1 rfl) ?_
  refine va_astq hx hb hK hP hD hS 12 9 73 9 rfl rfl rfl rfl (vp_in_nI (n := 0) (by decide) (by decide)) dX8_keep_27 (fun H locs hP hD hS => ?_)
  refine lv_aload_n hx hb dX8_keep_28 rfl (lv_at hl 0 rfl) ?_
  refine lv_dup hx hb dX8_keep_29 rfl ?_
  refine va_get (D := (dC, dI)) (ci := 8) (v := .int 0) (C := RX8) (T := TX8) (N := 8) hx hb hts (jh hin_RX8) hown hK hP 11 rfl rfl 1 (by decide) (hts (.fieldLink RX8 33 "BookOfAll$Rules" "sheetCount" "I") (jm m_153)) (fun _ h9 => h9) rfl dX8_keep_30 ?_
  refine lv_iconst (v := 1) hx hb dX8_keep_33 (by decide) ?_
  refine lv_iadd hx hb dX8_keep_34 ?_
  refine jt_i 1 (by decide) ?_
  refine va_put (D := (dC, dI)) (ci := 8) (v := .int 1) (ty := .int) (C := RX8) (T := TX8) (N := 8) hx hb hts (jh hin_RX8) tyX8 tyX8_ok nmX8 hown hK hP hD hS 11 rfl rfl 1 (by decide) (hts (.fieldLink RX8 33 "BookOfAll$Rules" "sheetCount" "I") (jm m_153)) (fun _ h9 => h9) rfl (by decide +kernel) rfl rfl (Nat.le_of_ble_eq_true rfl) dX8_keep_35 (fun H locs hP hD hS => ?_)
  refine lv_aload_n hx hb dX8_keep_38 rfl (lv_at hl 0 rfl) ?_
  refine va_get (D := (dC, dI)) (ci := 8) (v := .int 1) (C := RX8) (T := TX8) (N := 8) hx hb hts (jh hin_RX8) hown hK hP 11 rfl rfl 1 (by decide) (hts (.fieldLink RX8 33 "BookOfAll$Rules" "sheetCount" "I") (jm m_153)) (fun _ h9 => h9) rfl dX8_keep_39 ?_
  refine lv_iconst (v := 1) hx hb dX8_keep_42 (by decide) ?_
  refine lv_isub hx hb dX8_keep_43 ?_
  refine jt_i 0 (by decide) ?_
  exact W.iret (v := 0) hx hb hr (fun t ht hW => ⟨⟨0, (), rfl, rfl, by rw [ht]; exact hP, va_K.moved hW.alike hK, hD⟩, hS.F ht⟩) hS.2.2 dX8_keep_44
set_option maxHeartbeats 500000 in
set_option maxRecDepth 100000 in
theorem tX12_sheet (l : Launch) (dC : Nat → ClassId) (dI : Nat → Nat → Nat) (sz : Nat) (ad : Nat → Nat) (ca : Nat → ClassId) : Met l yX12_sheet (jk yX12_sheet cX12_sheet 2 (some .int)) ({ frames := 4, cells := 5, slots := 32, locals := 123 }) (va_Pc [.ref (ad 0)] (jw_PE (dC, dI) (xW ad ca) (xT ca) sz)) (va_Qi (fun (r : Int32) (_ : Unit) => (r = 0)) (fun _ _ => True) (va_A (xW ad ca) sz)) 5 32 (va_A (xW ad ca) sz) := by
  refine Met.ofW (cc := cX12_sheet) (maxL := 2) (ret := (some .int)) (by decide) rfl ?_
  intro p e s m args below meth c s₁ B hml hv
  obtain ⟨rfl, ⟨hsz, hP, hK, hD0⟩, hE⟩ := hv
  have hx := B.exec
  have hb := B.bytes
  have hr := B.returns
  have hts := atoms_spec (ws := (jk yX12_sheet cX12_sheet 2 (some .int))) B.pre
  have hown : s.vm.findClass RX12 = some m.cls := findClass_of_methodNamed B.named
  have hlocks := B.notSynchronized
  subst hsz
  have hD := hD0.self (sz := s.heap.size)
  generalize hAe : (va_A (xW ad ca) s.heap.size) = A at hD ⊢
  have hA : ∀ q : Nat, s.heap.size ≤ q → A q := fun q h => by rw [← hAe]; exact Or.inr h
  have hS : va_S A s.heap s.heap [] := va_S.rf
  have hP : va_P (dC, dI) vwCl (xW ad ca) s.heap := hP
  have hl := lv_entry ([.ref (ad 0)]) (n := 2) (Nat.le_of_ble_eq_true rfl)
  rw [lg_entry_eq]
  generalize (lg_sl ([.ref (ad 0)]) ++ List.replicate (2 - (lg_sl ([.ref (ad 0)])).length) Slot.unset).toArray = ls at hl ⊢
  have hl : lv_has ls 2 [(0, .ref (ad 0))] := hl
  refine lv_aload_n hx hb dX12_sheet_0 rfl (lv_at hl 0 rfl) ?_
  refine va_get (D := (dC, dI)) (ci := 12) (v := .ref (ad 11)) (C := RX12) (T := TX12) (N := 20) hx hb hts (jh hin_RX12) hown hK hP 0 rfl rfl 3 (by decide) (hts (.fieldLink RX12 19 "BookOfAll" "rules" "LBookOfAll$Rules;") (jm m_152)) (fun _ h9 => h9) rfl dX12_sheet_1 ?_
  refine jc_i (va_runV (As := []) (rest := []) ⟨hx, hb, hml, hown, hts⟩ (kX8_hasRoomForSheet_2 l dC dI _ ad ca) (cwV 0 hts (jgoodV m_154 m_155 m_156 m_157 m_158) rfl rfl rfl (by decide +kernel) ⟨Nat.le_of_ble_eq_true rfl, Nat.le_of_ble_eq_true rfl⟩) ⟨jw_blind, va_recv hK hP (ci := 8) (q0 := 11) rfl rfl, fun U hU hW => ⟨rfl, jw_of hU hW hP hK hD⟩⟩ rfl rfl hl.1 rfl (lv_room (Nat.le_of_ble_eq_true rfl)) dX12_sheet_4 ⟨Nat.le_of_ble_eq_true rfl, Nat.le_of_ble_eq_true rfl⟩) hP hS hA (fun r_1 H locs hw_1 hP hS => ?_)
  have hw_1 : r_1 = 1 := hw_1
  subst hw_1
  refine lv_if_eq (tgt := 21) hx hb dX12_sheet_7 (by decide) (fun z => absurd z (by decide)) (fun _ => ?_)
  refine lv_aload_n hx hb dX12_sheet_10 rfl (lv_at hl 0 rfl) ?_
  refine va_get (D := (dC, dI)) (ci := 12) (v := .ref (ad 1)) (C := RX12) (T := TX12) (N := 20) hx hb hts (jh hin_RX12) hown hK hP 0 rfl rfl 2 (by decide) (hts (.fieldLink RX12 10 "BookOfAll" "reader" "LBookOfAll$Reader;") (jm m_101)) (fun _ h9 => h9) rfl dX12_sheet_11 ?_
  refine jcw_i (va_runV (As := []) (rest := []) ⟨hx, hb, hml, hown, hts⟩ (kX7_parse_2 l dC dI _ ad ca) (cwV 0 hts (jgoodV m_148 m_149 m_150 m_108 m_151) rfl rfl rfl (by decide +kernel) ⟨Nat.le_of_ble_eq_true rfl, Nat.le_of_ble_eq_true rfl⟩) ⟨jw_blind, va_recv hK hP (ci := 7) (q0 := 1) rfl rfl, fun U hU hW => ⟨rfl, jw_of hU hW hP hK hD⟩⟩ rfl rfl hl.1 rfl (lv_room (Nat.le_of_ble_eq_true rfl)) dX12_sheet_14 ⟨Nat.le_of_ble_eq_true rfl, Nat.le_of_ble_eq_true rfl⟩) hD hS hA (fun r_2 H locs hw_2 hP hK hD hS => ?_)
  have hw_2 : r_2 = (-1) := hw_2
  subst hw_2
  refine lv_iconst (v := (-1)) hx hb dX12_sheet_17 (by decide) ?_
  refine lv_icmp_eq (tgt := 23) hx hb dX12_sheet_18 (by decide) (fun _ => ?_) (fun z => absurd (by decide) z)
  refine lv_aload_n hx hb dX12_sheet_23 rfl (lv_at hl 0 rfl) ?_
  refine va_get (D := (dC, dI)) (ci := 12) (v := .ref (ad 11)) (C := RX12) (T := TX12) (N := 20) hx hb hts (jh hin_RX12) hown hK hP 0 rfl rfl 3 (by decide) (hts (.fieldLink RX12 19 "BookOfAll" "rules" "LBookOfAll$Rules;") (jm m_152)) (fun _ h9 => h9) rfl dX12_sheet_24 ?_
  refine lv_aload_n hx hb dX12_sheet_27 rfl (lv_at hl 0 rfl) ?_
  refine va_get (D := (dC, dI)) (ci := 12) (v := .ref (ad 1)) (C := RX12) (T := TX12) (N := 20) hx hb hts (jh hin_RX12) hown hK hP 0 rfl rfl 2 (by decide) (hts (.fieldLink RX12 10 "BookOfAll" "reader" "LBookOfAll$Reader;") (jm m_101)) (fun _ h9 => h9) rfl dX12_sheet_28 ?_
  refine jcg_q (va_runV (As := []) (rest := [.ref (ad 11)]) ⟨hx, hb, hml, hown, hts⟩ (kX7_compiled_2 l dC dI _ ad ca) (cwV 0 hts (jgoodV m_198 m_199 m_200 m_108 m_201) rfl rfl rfl (by decide +kernel) ⟨Nat.le_of_ble_eq_true rfl, Nat.le_of_ble_eq_true rfl⟩) ⟨jw_blindE, va_recv hK hP (ci := 7) (q0 := 1) rfl rfl, fun U hU hW => ⟨rfl, jw_of hU hW hP hK hD, hE.warm hW⟩⟩ rfl rfl hl.1 rfl (lv_room (Nat.le_of_ble_eq_true rfl)) dX12_sheet_31 ⟨Nat.le_of_ble_eq_true rfl, Nat.le_of_ble_eq_true rfl⟩) hD hS hA (fun r_3 u_3 H locs hw_3 hP hK hD hS => ?_)
  obtain ⟨w_3, a_3, y_3⟩ := u_3
  obtain ⟨rfl, rfl⟩ : w_3 = 0 ∧ r_3 = some ((a_3 0)) := hw_3
  have hP : va_P (dC, dI) vwCl ((jS (jS (jA (jS (jA (jS (jA (jS (jS (jA (jA (jS (jS (jS (jS (jS (jS (xW ad ca) 1 (ad 1, .inr (7, [.ref (ad 2), .int 0, .ref (ad 3), .ref (ad 4), .ref (ad 5), .ref (ad 6), .int 1, .int 0, .int (-1), .ref (ad 7), .int 0, .ref (ad 8), .ref (ad 9), .ref (ad 10), .int 0]))) 3 (ad 3, .inl ((ca 3), 601, .inl (upd (fun _ => 0) 0 0)))) 4 (ad 4, .inl ((ca 4), 601, .inl (upd (fun _ => 0) 0 0)))) 5 (ad 5, .inl ((ca 5), 601, .inl (upd (fun _ => 0) 0 1)))) 6 (ad 6, .inl ((ca 6), 601, .inl (upd (fun _ => 0) 0 (-1))))) 8 (ad 8, .inl ((y_3 2), 14, .inl (jfill (fun _ => 0) 14 (-1))))) [((a_3 0), .inr (9, [.null, .null, .null, .null]))]) [((a_3 1), .inl ((y_3 1), 0, .inl (fun _ => 0)))]) 74 ((a_3 1), .inl ((y_3 1), 0, .inl (va_cpy (fun _ => 0) (fun _ => 0) 0 0 0)))) 73 ((a_3 0), .inr (9, [.ref ((a_3 1)), .null, .null, .null]))) [((a_3 2), .inl ((y_3 2), 14, .inl (jfill (fun _ => 0) 14 (-1))))]) 73 ((a_3 0), .inr (9, [.ref ((a_3 1)), .ref (a_3 2), .null, .null]))) [((a_3 3), .inl ((y_3 3), 14, .inl (fun _ => 0)))]) 73 ((a_3 0), .inr (9, [.ref ((a_3 1)), .ref (a_3 2), .ref (a_3 3), .null]))) [((a_3 4), .inl ((y_3 4), 0, .inr (.inl (fun _ => 0))))]) 77 ((a_3 4), .inl ((y_3 4), 0, .inr (.inl (va_cpy (fun _ => 0) (fun _ => 0) 0 0 0))))) 73 ((a_3 0), .inr (9, [.ref ((a_3 1)), .ref (a_3 2), .ref (a_3 3), .ref ((a_3 4))])))) H := hP
  have hK : va_K (dC, dI) vwCl ((xT ca ++ [((y_3 1), .int), ((y_3 2), .int), ((y_3 3), .int), ((y_3 4), .long)])) s := hK
  have hD : va_D A ((jS (jS (jA (jS (jA (jS (jA (jS (jS (jA (jA (jS (jS (jS (jS (jS (jS (xW ad ca) 1 (ad 1, .inr (7, [.ref (ad 2), .int 0, .ref (ad 3), .ref (ad 4), .ref (ad 5), .ref (ad 6), .int 1, .int 0, .int (-1), .ref (ad 7), .int 0, .ref (ad 8), .ref (ad 9), .ref (ad 10), .int 0]))) 3 (ad 3, .inl ((ca 3), 601, .inl (upd (fun _ => 0) 0 0)))) 4 (ad 4, .inl ((ca 4), 601, .inl (upd (fun _ => 0) 0 0)))) 5 (ad 5, .inl ((ca 5), 601, .inl (upd (fun _ => 0) 0 1)))) 6 (ad 6, .inl ((ca 6), 601, .inl (upd (fun _ => 0) 0 (-1))))) 8 (ad 8, .inl ((y_3 2), 14, .inl (jfill (fun _ => 0) 14 (-1))))) [((a_3 0), .inr (9, [.null, .null, .null, .null]))]) [((a_3 1), .inl ((y_3 1), 0, .inl (fun _ => 0)))]) 74 ((a_3 1), .inl ((y_3 1), 0, .inl (va_cpy (fun _ => 0) (fun _ => 0) 0 0 0)))) 73 ((a_3 0), .inr (9, [.ref ((a_3 1)), .null, .null, .null]))) [((a_3 2), .inl ((y_3 2), 14, .inl (jfill (fun _ => 0) 14 (-1))))]) 73 ((a_3 0), .inr (9, [.ref ((a_3 1)), .ref (a_3 2), .null, .null]))) [((a_3 3), .inl ((y_3 3), 14, .inl (fun _ => 0)))]) 73 ((a_3 0), .inr (9, [.ref ((a_3 1)), .ref (a_3 2), .ref (a_3 3), .null]))) [((a_3 4), .inl ((y_3 4), 0, .inr (.inl (fun _ => 0))))]) 77 ((a_3 4), .inl ((y_3 4), 0, .inr (.inl (va_cpy (fun _ => 0) (fun _ => 0) 0 0 0))))) 73 ((a_3 0), .inr (9, [.ref ((a_3 1)), .ref (a_3 2), .ref (a_3 3), .ref ((a_3 4))])))) := hD
  refine jt_q (Value.ref ((a_3 0))) rfl ?_
  refine jcw_i (va_runV (As := [.ref ((a_3 0))]) (rest := []) ⟨hx, hb, hml, hown, hts⟩ (kX8_keep_2 l dC dI _ ad ca a_3 y_3) (cwV 1 hts (jgoodV m_203 m_204 m_205 m_157 m_206) rfl rfl rfl (by decide +kernel) ⟨Nat.le_of_ble_eq_true rfl, Nat.le_of_ble_eq_true rfl⟩) ⟨jw_blind, va_recv hK hP (ci := 8) (q0 := 11) rfl rfl, fun U hU hW => ⟨rfl, jw_of hU hW hP hK hD⟩⟩ rfl rfl hl.1 rfl (lv_room (Nat.le_of_ble_eq_true rfl)) dX12_sheet_34 ⟨Nat.le_of_ble_eq_true rfl, Nat.le_of_ble_eq_true rfl⟩) hD hS hA (fun r_4 H locs hw_4 hP hK hD hS => ?_)
  have hw_4 : r_4 = 0 := hw_4
  subst hw_4
  refine lv_istore_n (lv' := [(1, .int 0), (0, .ref (ad 0))]) hx hb dX12_sheet_37 rfl hl (by decide) rfl (fun ls hl => ?_)
  refine lv_aload_n hx hb dX12_sheet_38 rfl (lv_at hl 1 rfl) ?_
  refine va_get (D := (dC, dI)) (ci := 12) (v := .ref (ad 1)) (C := RX12) (T := TX12) (N := 20) hx hb hts (jh hin_RX12) hown hK hP 0 rfl rfl 2 (by decide) (hts (.fieldLink RX12 10 "BookOfAll" "reader" "LBookOfAll$Reader;") (jm m_101)) (fun _ h9 => h9) rfl dX12_sheet_39 ?_
  refine lv_iconst (v := 0) hx hb dX12_sheet_42 (by decide) ?_
  refine va_put (D := (dC, dI)) (ci := 7) (v := .int 0) (ty := .int) (C := RX7) (T := TX7) (N := 15) hx hb hts (jh hin_RX7) tyX7 tyX7_ok nmX7 hown hK hP hD hS 1 rfl rfl 1 (by decide) (hts (.fieldLink RX12 103 "BookOfAll$Reader" "size" "I") (jm m_102)) (fun _ h9 => h9) rfl (by decide +kernel) rfl rfl (Nat.le_of_ble_eq_true rfl) dX12_sheet_43 (fun H locs hP hD hS => ?_)
  refine lv_iload_n hx hb dX12_sheet_46 rfl (lv_at hl 0 rfl) ?_
  refine W.widen (k := 5) (n := 32) (Nat.le_of_ble_eq_true rfl) (Nat.le_of_ble_eq_true rfl) ?_
  exact W.iret (v := 0) hx hb hr (fun t ht hW => ⟨⟨0, (), rfl, rfl, trivial⟩, hS.F ht⟩) hS.2.2 dX12_sheet_47
set_option maxHeartbeats 500000 in
set_option maxRecDepth 100000 in
theorem kX12_isVolume_1 (l : Launch) (dC : Nat → ClassId) (dI : Nat → Nat → Nat) (sz : Nat) (h0 : Nat) (p1 : Int32) : Met l yX12_isVolume (jk yX12_isVolume cX12_isVolume 2 (some .boolean)) ({ frames := 0, cells := 0, slots := 0, locals := 0 }) (va_Pc [.ref h0, .int p1] (fun U => U.heap.size = sz)) (va_Qi (fun (r : Int32) (_ : Unit) => (p1 < 0 ∧ r = 0) ∨ (¬ (p1 < 0) ∧ 6 ≤ p1 ∧ r = 0) ∨ (¬ (p1 < 0) ∧ ¬ (6 ≤ p1) ∧ r = 1)) (fun _ _ => True) (va_A [] sz)) 0 0 (va_A [] sz) := by
  refine Met.ofW (cc := cX12_isVolume) (maxL := 2) (ret := (some .boolean)) (by decide) rfl ?_
  intro p e s m args below meth c s₁ B hml hv
  obtain ⟨rfl, hsz⟩ := hv
  have hx := B.exec
  have hb := B.bytes
  have hr := B.returns
  have hts := atoms_spec (ws := (jk yX12_isVolume cX12_isVolume 2 (some .boolean))) B.pre
  have hown : s.vm.findClass RX12 = some m.cls := findClass_of_methodNamed B.named
  have hlocks := B.notSynchronized
  subst hsz
  have hP : va_P (dC, dI) vwCl [] s.heap := fun k q h => by simp at h
  generalize hAe : (va_A [] s.heap.size) = A
  have hA : ∀ q : Nat, s.heap.size ≤ q → A q := fun q h => by rw [← hAe]; exact Or.inr h
  have hS : va_S A s.heap s.heap [] := va_S.rf
  have hl := lv_entry ([.ref h0, .int p1]) (n := 2) (Nat.le_of_ble_eq_true rfl)
  rw [lg_entry_eq]
  generalize (lg_sl ([.ref h0, .int p1]) ++ List.replicate (2 - (lg_sl ([.ref h0, .int p1])).length) Slot.unset).toArray = ls at hl ⊢
  have hl : lv_has ls 2 [(0, .ref h0), (1, .int p1)] := hl
  refine lv_iload_n hx hb dX12_isVolume_0 rfl (lv_at hl 1 rfl) ?_
  refine lv_if_lt (tgt := 14) hx hb dX12_isVolume_1 (by decide) (fun c_1 => ?_) (fun c_1 => ?_)
  · refine lv_iconst (v := 0) hx hb dX12_isVolume_14 (by decide) ?_
    exact W.zret (v := 0) (ty := .boolean) hx hb hr rfl (fun t ht hW => ⟨⟨0, (), rfl, (Or.inl ⟨c_1, rfl⟩), trivial⟩, hS.F ht⟩) hS.2.2 dX12_isVolume_15
  · refine lv_iload_n hx hb dX12_isVolume_4 rfl (lv_at hl 1 rfl) ?_
    refine lv_bipush (v := 6) hx hb dX12_isVolume_5 (by decide) ?_
    refine lv_icmp_ge (tgt := 14) hx hb dX12_isVolume_7 (by decide) (fun c_2 => ?_) (fun c_2 => ?_)
    · refine lv_iconst (v := 0) hx hb dX12_isVolume_14 (by decide) ?_
      exact W.zret (v := 0) (ty := .boolean) hx hb hr rfl (fun t ht hW => ⟨⟨0, (), rfl, (Or.inr (Or.inl ⟨c_1, c_2, rfl⟩)), trivial⟩, hS.F ht⟩) hS.2.2 dX12_isVolume_15
    · refine lv_iconst (v := 1) hx hb dX12_isVolume_10 (by decide) ?_
      refine lv_goto (tgt := 15) hx hb dX12_isVolume_11 (by decide) ?_
      exact W.zret (v := 1) (ty := .boolean) hx hb hr rfl (fun t ht hW => ⟨⟨1, (), rfl, (Or.inr (Or.inr ⟨c_1, c_2, rfl⟩)), trivial⟩, hS.F ht⟩) hS.2.2 dX12_isVolume_15
set_option maxHeartbeats 500000 in
set_option maxRecDepth 100000 in
theorem kX12_isSet_3 (l : Launch) (dC : Nat → ClassId) (dI : Nat → Nat → Nat) (sz : Nat) (ad : Nat → Nat) (ca : Nat → ClassId) (p1 : Int32) : Met l yX12_isSet (jk yX12_isSet cX12_isSet 2 (some .boolean)) ({ frames := 0, cells := 0, slots := 0, locals := 0 }) (va_Pc [.ref (ad 0), .int p1] (jw_P (dC, dI) (xW ad ca) (xT ca) sz)) (va_Qi (fun (r : Int32) (_ : Unit) => (r = 0) ∨ (¬ (p1 < 0) ∧ ¬ (((0 >>> (p1 &&& 31)) &&& 1) = 0) ∧ r = 1)) (fun _ _ => True) (va_A [] sz)) 0 0 (va_A [] sz) := by
  refine Met.ofW (cc := cX12_isSet) (maxL := 2) (ret := (some .boolean)) (by decide) rfl ?_
  intro p e s m args below meth c s₁ B hml hv
  obtain ⟨rfl, hsz, hP, hK, hD0⟩ := hv
  have hx := B.exec
  have hb := B.bytes
  have hr := B.returns
  have hts := atoms_spec (ws := (jk yX12_isSet cX12_isSet 2 (some .boolean))) B.pre
  have hown : s.vm.findClass RX12 = some m.cls := findClass_of_methodNamed B.named
  have hlocks := B.notSynchronized
  subst hsz
  have hD := hD0
  generalize hAe : (va_A [] s.heap.size) = A
  have hA : ∀ q : Nat, s.heap.size ≤ q → A q := fun q h => by rw [← hAe]; exact Or.inr h
  have hS : va_S A s.heap s.heap [] := va_S.rf
  have hP : va_P (dC, dI) vwCl (xW ad ca) s.heap := hP
  have hl := lv_entry ([.ref (ad 0), .int p1]) (n := 2) (Nat.le_of_ble_eq_true rfl)
  rw [lg_entry_eq]
  generalize (lg_sl ([.ref (ad 0), .int p1]) ++ List.replicate (2 - (lg_sl ([.ref (ad 0), .int p1])).length) Slot.unset).toArray = ls at hl ⊢
  have hl : lv_has ls 2 [(0, .ref (ad 0)), (1, .int p1)] := hl
  refine lv_iload_n hx hb dX12_isSet_0 rfl (lv_at hl 1 rfl) ?_
  refine lv_if_lt (tgt := 19) hx hb dX12_isSet_1 (by decide) (fun c_1 => ?_) (fun c_1 => ?_)
  · refine lv_iconst (v := 0) hx hb dX12_isSet_19 (by decide) ?_
    exact W.zret (v := 0) (ty := .boolean) hx hb hr rfl (fun t ht hW => ⟨⟨0, (), rfl, (Or.inl rfl), trivial⟩, hS.F ht⟩) hS.2.2 dX12_isSet_20
  · refine lv_aload_n hx hb dX12_isSet_4 rfl (lv_at hl 0 rfl) ?_
    refine va_get (D := (dC, dI)) (ci := 12) (v := .int 0) (C := RX12) (T := TX12) (N := 20) hx hb hts (jh hin_RX12) hown hK hP 0 rfl rfl 1 (by decide) (hts (.fieldLink RX12 158 "BookOfAll" "setBits" "I") (jm m_212)) (fun _ h9 => h9) rfl dX12_isSet_5 ?_
    refine lv_iload_n hx hb dX12_isSet_8 rfl (lv_at hl 1 rfl) ?_
    refine lv_ishr hx hb dX12_isSet_9 ?_
    refine lv_iconst (v := 1) hx hb dX12_isSet_10 (by decide) ?_
    refine lv_iand hx hb dX12_isSet_11 ?_
    refine lv_if_eq (tgt := 19) hx hb dX12_isSet_12 (by decide) (fun c_2 => ?_) (fun c_2 => ?_)
    · refine lv_iconst (v := 0) hx hb dX12_isSet_19 (by decide) ?_
      exact W.zret (v := 0) (ty := .boolean) hx hb hr rfl (fun t ht hW => ⟨⟨0, (), rfl, (Or.inl rfl), trivial⟩, hS.F ht⟩) hS.2.2 dX12_isSet_20
    · refine lv_iconst (v := 1) hx hb dX12_isSet_15 (by decide) ?_
      refine lv_goto (tgt := 20) hx hb dX12_isSet_16 (by decide) ?_
      exact W.zret (v := 1) (ty := .boolean) hx hb hr rfl (fun t ht hW => ⟨⟨1, (), rfl, (Or.inr ⟨c_1, c_2, rfl⟩), trivial⟩, hS.F ht⟩) hS.2.2 dX12_isSet_20
set_option maxHeartbeats 500000 in
set_option maxRecDepth 100000 in
theorem kX8_put_3 (l : Launch) (dC : Nat → ClassId) (dI : Nat → Nat → Nat) (sz : Nat) (ad : Nat → Nat) (ca : Nat → ClassId) (p1 : Int32) (p2 : Int32) : Met l yX8_put (jk yX8_put cX8_put 4 (some .int)) ({ frames := 0, cells := 0, slots := 0, locals := 0 }) (va_Pc [.ref (ad 11), .int p1, .int p2, .int 0] (jw_P (dC, dI) (xW ad ca) (xT ca) sz)) (va_Qi (fun (r : Int32) (_ : Unit) => (r = (-1))) (fun _ _ => True) (va_A [] sz)) 0 0 (va_A [] sz) := by
  refine Met.ofW (cc := cX8_put) (maxL := 4) (ret := (some .int)) (by decide) rfl ?_
  intro p e s m args below meth c s₁ B hml hv
  obtain ⟨rfl, hsz, hP, hK, hD0⟩ := hv
  have hx := B.exec
  have hb := B.bytes
  have hr := B.returns
  have hts := atoms_spec (ws := (jk yX8_put cX8_put 4 (some .int))) B.pre
  have hown : s.vm.findClass RX8 = some m.cls := findClass_of_methodNamed B.named
  have hlocks := B.notSynchronized
  subst hsz
  have hD := hD0
  generalize hAe : (va_A [] s.heap.size) = A
  have hA : ∀ q : Nat, s.heap.size ≤ q → A q := fun q h => by rw [← hAe]; exact Or.inr h
  have hS : va_S A s.heap s.heap [] := va_S.rf
  have hP : va_P (dC, dI) vwCl (xW ad ca) s.heap := hP
  have hl := lv_entry ([.ref (ad 11), .int p1, .int p2, .int 0]) (n := 4) (Nat.le_of_ble_eq_true rfl)
  rw [lg_entry_eq]
  generalize (lg_sl ([.ref (ad 11), .int p1, .int p2, .int 0]) ++ List.replicate (4 - (lg_sl ([.ref (ad 11), .int p1, .int p2, .int 0])).length) Slot.unset).toArray = ls at hl ⊢
  have hl : lv_has ls 4 [(0, .ref (ad 11)), (1, .int p1), (2, .int p2), (3, .int 0)] := hl
  refine lv_iload_n hx hb dX8_put_0 rfl (lv_at hl 1 rfl) ?_
  refine lv_if_lt (tgt := 28) hx hb dX8_put_1 (by decide) (fun c_1 => ?_) (fun c_1 => ?_)
  · refine lv_iconst (v := (-1)) hx hb dX8_put_28 (by decide) ?_
    exact W.iret (v := (-1)) hx hb hr (fun t ht hW => ⟨⟨(-1), (), rfl, rfl, trivial⟩, hS.F ht⟩) hS.2.2 dX8_put_29
  · refine lv_iload_n hx hb dX8_put_4 rfl (lv_at hl 1 rfl) ?_
    refine lv_aload_n hx hb dX8_put_5 rfl (lv_at hl 0 rfl) ?_
    refine va_get (D := (dC, dI)) (ci := 8) (v := .int 0) (C := RX8) (T := TX8) (N := 8) hx hb hts (jh hin_RX8) hown hK hP 11 rfl rfl 1 (by decide) (hts (.fieldLink RX8 33 "BookOfAll$Rules" "sheetCount" "I") (jm m_153)) (fun _ h9 => h9) rfl dX8_put_6 ?_
    refine lv_icmp_ge (tgt := 28) hx hb dX8_put_9 (by decide) (fun _ => ?_) (fun z => absurd (jb_ge (jl_nlt c_1) (by decide)) z)
    refine lv_iconst (v := (-1)) hx hb dX8_put_28 (by decide) ?_
    exact W.iret (v := (-1)) hx hb hr (fun t ht hW => ⟨⟨(-1), (), rfl, rfl, trivial⟩, hS.F ht⟩) hS.2.2 dX8_put_29
