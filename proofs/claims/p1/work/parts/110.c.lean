theorem s_tX12_bound_v5_0 {p2 : Int32}  : 0 = sp_bound 5 p2 := by
  unfold sp_bound
  rw [show (5 : Int32).toInt = 5 from rfl]
  split <;> first | rfl | (exfalso; omega)
set_option maxHeartbeats 500000 in
set_option maxRecDepth 100000 in
theorem tX12_bound_v5 (l : Launch) (dC : Nat → ClassId) (dI : Nat → Nat → Nat) (sz : Nat) (ad : Nat → Nat) (ca : Nat → ClassId) (p2 : Int32) : Met l yX12_bound (jk yX12_bound cX12_bound 4 (some .boolean)) ({ frames := 0, cells := 0, slots := 0, locals := 0 }) (va_Pc [.ref (ad 0), .int 5, .int p2] (jw_P (dC, dI) (xW ad ca) (xT ca) sz)) (va_Qi (fun (r : Int32) (_ : Unit) => r = sp_bound 5 p2) (fun _ _ => True) (va_A [] sz)) 0 0 (va_A [] sz) := by
  refine Met.ofW (cc := cX12_bound) (maxL := 4) (ret := (some .boolean)) (by decide) rfl ?_
  intro p e s m args below meth c s₁ B hml hv
  obtain ⟨rfl, hsz, hP, hK, hD0⟩ := hv
  have hx := B.exec
  have hb := B.bytes
  have hr := B.returns
  have hts := atoms_spec (ws := (jk yX12_bound cX12_bound 4 (some .boolean))) B.pre
  have hown : s.vm.findClass RX12 = some m.cls := findClass_of_methodNamed B.named
  have hlocks := B.notSynchronized
  subst hsz
  have hD := hD0
  generalize hAe : (va_A [] s.heap.size) = A
  have hA : ∀ q : Nat, s.heap.size ≤ q → A q := fun q h => by rw [← hAe]; exact Or.inr h
  have hS : va_S A s.heap s.heap [] := va_S.rf
  have hP : va_P (dC, dI) vwCl (xW ad ca) s.heap := hP
  have hl := lv_entry ([.ref (ad 0), .int 5, .int p2]) (n := 4) (Nat.le_of_ble_eq_true rfl)
  rw [lg_entry_eq]
  generalize (lg_sl ([.ref (ad 0), .int 5, .int p2]) ++ List.replicate (4 - (lg_sl ([.ref (ad 0), .int 5, .int p2])).length) Slot.unset).toArray = ls at hl ⊢
  have hl : lv_has ls 4 [(0, .ref (ad 0)), (1, .int 5), (2, .int p2)] := hl
  refine lv_iload_n hx hb dX12_bound_0 rfl (lv_at hl 1 rfl) ?_
  refine lv_if_lt (tgt := 26) hx hb dX12_bound_1 (by decide) (fun z => absurd z (by decide)) (fun _ => ?_)
  refine lv_iload_n hx hb dX12_bound_4 rfl (lv_at hl 1 rfl) ?_
  refine lv_iconst (v := 5) hx hb dX12_bound_5 (by decide) ?_
  refine lv_icmp_ge (tgt := 26) hx hb dX12_bound_6 (by decide) (fun _ => ?_) (fun z => absurd (by decide) z)
  refine lv_iconst (v := 0) hx hb dX12_bound_26 (by decide) ?_
  exact W.zret (v := 0) (ty := .boolean) hx hb hr rfl (fun t ht hW => ⟨⟨0, (), rfl, (s_tX12_bound_v5_0 (p2 := p2)), trivial⟩, hS.F ht⟩) hS.2.2 dX12_bound_27
theorem s_tX12_bound_lo_0 {p1 p2 : Int32} (fh_p1 : p1 ≤ (-1)) : 0 = sp_bound p1 p2 := by
  unfold sp_bound
  have g0 : p1.toInt ≤ (-1) := ji_le.mp fh_p1
  split <;> first | rfl | (exfalso; omega)
set_option maxHeartbeats 500000 in
set_option maxRecDepth 100000 in
theorem tX12_bound_lo (l : Launch) (dC : Nat → ClassId) (dI : Nat → Nat → Nat) (sz : Nat) (ad : Nat → Nat) (ca : Nat → ClassId) (p1 : Int32) (p2 : Int32) (fh_p1 : p1 ≤ (-1)) : Met l yX12_bound (jk yX12_bound cX12_bound 4 (some .boolean)) ({ frames := 0, cells := 0, slots := 0, locals := 0 }) (va_Pc [.ref (ad 0), .int p1, .int p2] (jw_P (dC, dI) (xW ad ca) (xT ca) sz)) (va_Qi (fun (r : Int32) (_ : Unit) => r = sp_bound p1 p2) (fun _ _ => True) (va_A [] sz)) 0 0 (va_A [] sz) := by
  refine Met.ofW (cc := cX12_bound) (maxL := 4) (ret := (some .boolean)) (by decide) rfl ?_
  intro p e s m args below meth c s₁ B hml hv
  obtain ⟨rfl, hsz, hP, hK, hD0⟩ := hv
  have hx := B.exec
  have hb := B.bytes
  have hr := B.returns
  have hts := atoms_spec (ws := (jk yX12_bound cX12_bound 4 (some .boolean))) B.pre
  have hown : s.vm.findClass RX12 = some m.cls := findClass_of_methodNamed B.named
  have hlocks := B.notSynchronized
  subst hsz
  have hD := hD0
  generalize hAe : (va_A [] s.heap.size) = A
  have hA : ∀ q : Nat, s.heap.size ≤ q → A q := fun q h => by rw [← hAe]; exact Or.inr h
  have hS : va_S A s.heap s.heap [] := va_S.rf
  have hP : va_P (dC, dI) vwCl (xW ad ca) s.heap := hP
  have hl := lv_entry ([.ref (ad 0), .int p1, .int p2]) (n := 4) (Nat.le_of_ble_eq_true rfl)
  rw [lg_entry_eq]
  generalize (lg_sl ([.ref (ad 0), .int p1, .int p2]) ++ List.replicate (4 - (lg_sl ([.ref (ad 0), .int p1, .int p2])).length) Slot.unset).toArray = ls at hl ⊢
  have hl : lv_has ls 4 [(0, .ref (ad 0)), (1, .int p1), (2, .int p2)] := hl
  refine lv_iload_n hx hb dX12_bound_0 rfl (lv_at hl 1 rfl) ?_
  refine lv_if_lt (tgt := 26) hx hb dX12_bound_1 (by decide) (fun _ => ?_) (fun z => absurd (jb_lt fh_p1 (by decide)) z)
  refine lv_iconst (v := 0) hx hb dX12_bound_26 (by decide) ?_
  exact W.zret (v := 0) (ty := .boolean) hx hb hr rfl (fun t ht hW => ⟨⟨0, (), rfl, (s_tX12_bound_lo_0 (p1 := p1) (p2 := p2) fh_p1), trivial⟩, hS.F ht⟩) hS.2.2 dX12_bound_27
theorem s_tX12_bound_hi_0 {p1 p2 : Int32} (fl_p1 : 6 ≤ p1) : 0 = sp_bound p1 p2 := by
  unfold sp_bound
  have g0 : 6 ≤ p1.toInt := ji_le.mp fl_p1
  split <;> first | rfl | (exfalso; omega)
set_option maxHeartbeats 500000 in
set_option maxRecDepth 100000 in
theorem tX12_bound_hi (l : Launch) (dC : Nat → ClassId) (dI : Nat → Nat → Nat) (sz : Nat) (ad : Nat → Nat) (ca : Nat → ClassId) (p1 : Int32) (p2 : Int32) (fl_p1 : 6 ≤ p1) : Met l yX12_bound (jk yX12_bound cX12_bound 4 (some .boolean)) ({ frames := 0, cells := 0, slots := 0, locals := 0 }) (va_Pc [.ref (ad 0), .int p1, .int p2] (jw_P (dC, dI) (xW ad ca) (xT ca) sz)) (va_Qi (fun (r : Int32) (_ : Unit) => r = sp_bound p1 p2) (fun _ _ => True) (va_A [] sz)) 0 0 (va_A [] sz) := by
  refine Met.ofW (cc := cX12_bound) (maxL := 4) (ret := (some .boolean)) (by decide) rfl ?_
  intro p e s m args below meth c s₁ B hml hv
  obtain ⟨rfl, hsz, hP, hK, hD0⟩ := hv
  have hx := B.exec
  have hb := B.bytes
  have hr := B.returns
  have hts := atoms_spec (ws := (jk yX12_bound cX12_bound 4 (some .boolean))) B.pre
  have hown : s.vm.findClass RX12 = some m.cls := findClass_of_methodNamed B.named
  have hlocks := B.notSynchronized
  subst hsz
  have hD := hD0
  generalize hAe : (va_A [] s.heap.size) = A
  have hA : ∀ q : Nat, s.heap.size ≤ q → A q := fun q h => by rw [← hAe]; exact Or.inr h
  have hS : va_S A s.heap s.heap [] := va_S.rf
  have hP : va_P (dC, dI) vwCl (xW ad ca) s.heap := hP
  have hl := lv_entry ([.ref (ad 0), .int p1, .int p2]) (n := 4) (Nat.le_of_ble_eq_true rfl)
  rw [lg_entry_eq]
  generalize (lg_sl ([.ref (ad 0), .int p1, .int p2]) ++ List.replicate (4 - (lg_sl ([.ref (ad 0), .int p1, .int p2])).length) Slot.unset).toArray = ls at hl ⊢
  have hl : lv_has ls 4 [(0, .ref (ad 0)), (1, .int p1), (2, .int p2)] := hl
  refine lv_iload_n hx hb dX12_bound_0 rfl (lv_at hl 1 rfl) ?_
  refine lv_if_lt (tgt := 26) hx hb dX12_bound_1 (by decide) (fun z => absurd z (jb_nlt fl_p1 (by decide))) (fun _ => ?_)
  refine lv_iload_n hx hb dX12_bound_4 rfl (lv_at hl 1 rfl) ?_
  refine lv_iconst (v := 5) hx hb dX12_bound_5 (by decide) ?_
  refine lv_icmp_ge (tgt := 26) hx hb dX12_bound_6 (by decide) (fun _ => ?_) (fun z => absurd (jb_ge fl_p1 (by decide)) z)
  refine lv_iconst (v := 0) hx hb dX12_bound_26 (by decide) ?_
  exact W.zret (v := 0) (ty := .boolean) hx hb hr rfl (fun t ht hW => ⟨⟨0, (), rfl, (s_tX12_bound_hi_0 (p1 := p1) (p2 := p2) fl_p1), trivial⟩, hS.F ht⟩) hS.2.2 dX12_bound_27
set_option maxHeartbeats 500000 in
set_option maxRecDepth 100000 in
theorem iX0_init_1 (l : Launch) (dC : Nat → ClassId) (dI : Nat → Nat → Nat) (sz h0 : Nat) (n : Nat) (hn : n ≤ 12) (hn1 : (1 : Int32) ≤ nI n) : Met l yX0_init (jk yX0_init cX0_init 4 none) ({ frames := 1, cells := 1, slots := 12, locals := 40 }) (va_Pc [.ref h0, .int 0, .int 0, .int (nI n)] (jw_P (dC, dI) [(h0, .inr (0, [.int 0, .int 0, .null, .long 0, .int 0, .int 0, .int 0, .int 0, .int 0, .int 0, .int 0, .int 0, .int 0, .int 0, .int 0, .int 0, .long 0, .int 0]))] [] sz)) (va_Qv (fun (_ : ((Nat → Nat) × (Nat → ClassId))) => True) (fun u t => va_P (dC, dI) vwCl [(h0, .inr (0, [.int 0, .int 0, .ref (u.1 1), .long 0, .int 0, .int 0, .int 0, .int 0, .int 0, .int 0, .int (-1), .int 0, .int (-1), .int (-1), .int (-1), .int 0, .long 0, .int 0])), ((u.1 1), .inl ((u.2 1), n, .inl (fun _ => 0)))] t.heap ∧ va_K (dC, dI) vwCl [((u.2 1), .byte)] t ∧ va_D (va_A [(h0, .inr (0, [.int 0, .int 0, .null, .long 0, .int 0, .int 0, .int 0, .int 0, .int 0, .int 0, .int 0, .int 0, .int 0, .int 0, .int 0, .int 0, .long 0, .int 0]))] sz) [(h0, .inr (0, [.int 0, .int 0, .ref (u.1 1), .long 0, .int 0, .int 0, .int 0, .int 0, .int 0, .int 0, .int (-1), .int 0, .int (-1), .int (-1), .int (-1), .int 0, .long 0, .int 0])), ((u.1 1), .inl ((u.2 1), n, .inl (fun _ => 0)))]) (va_A [(h0, .inr (0, [.int 0, .int 0, .null, .long 0, .int 0, .int 0, .int 0, .int 0, .int 0, .int 0, .int 0, .int 0, .int 0, .int 0, .int 0, .int 0, .long 0, .int 0]))] sz)) 1 12 (va_A [(h0, .inr (0, [.int 0, .int 0, .null, .long 0, .int 0, .int 0, .int 0, .int 0, .int 0, .int 0, .int 0, .int 0, .int 0, .int 0, .int 0, .int 0, .long 0, .int 0]))] sz) := by
  refine Met.ofW (cc := cX0_init) (maxL := 4) (ret := none) (by decide) rfl ?_
  intro p e s m args below meth c s₁ B hml hv
  obtain ⟨rfl, hsz, hP, hK, hD0⟩ := hv
  have hx := B.exec
  have hb := B.bytes
  have hr := B.returns
  have hts := atoms_spec (ws := (jk yX0_init cX0_init 4 none)) B.pre
  have hown : s.vm.findClass RX0 = some m.cls := findClass_of_methodNamed B.named
  have hlocks := B.notSynchronized
  have hin : meth.name = "<init>" := (name_of_methodNamed B.named B.method).1
  subst hsz
  have hD := hD0.self (sz := s.heap.size)
  generalize hAe : (va_A [(h0, .inr (0, [.int 0, .int 0, .null, .long 0, .int 0, .int 0, .int 0, .int 0, .int 0, .int 0, .int 0, .int 0, .int 0, .int 0, .int 0, .int 0, .long 0, .int 0]))] s.heap.size) = A at hD ⊢
  have hA : ∀ q : Nat, s.heap.size ≤ q → A q := fun q h => by rw [← hAe]; exact Or.inr h
  have hS : va_S A s.heap s.heap [] := va_S.rf
  have hP : va_P (dC, dI) vwCl [(h0, .inr (0, [.int 0, .int 0, .null, .long 0, .int 0, .int 0, .int 0, .int 0, .int 0, .int 0, .int 0, .int 0, .int 0, .int 0, .int 0, .int 0, .long 0, .int 0]))] s.heap := hP
  have hl := lv_entry ([.ref h0, .int 0, .int 0, .int (nI n)]) (n := 4) (Nat.le_of_ble_eq_true rfl)
  rw [lg_entry_eq]
  generalize (lg_sl ([.ref h0, .int 0, .int 0, .int (nI n)]) ++ List.replicate (4 - (lg_sl ([.ref h0, .int 0, .int 0, .int (nI n)])).length) Slot.unset).toArray = ls at hl ⊢
  have hl : lv_has ls 4 [(0, .ref h0), (1, .int 0), (2, .int 0), (3, .int (nI n))] := hl
  refine lv_aload_n hx hb dX0_init_0 rfl (lv_at hl 0 rfl) ?_
  refine W.objInit hx hb hown (hts (.methodLink RX0 3 objectInit) (jm m_269)) (hts (.instanceMethod objectInit) (jm m_163)) (hts (.code objectInit ⟨#[0xb1]⟩ 1 none) (jm m_164)) rfl (by rw [hml]; exact hl.1) rfl dX0_init_1 (Nat.le_of_ble_eq_true rfl) (Nat.le_of_ble_eq_true rfl) ?_
  refine W.eq (g2 := F0 m 4 ls []) rfl ?_
  refine lv_aload_n hx hb dX0_init_4 rfl (lv_at hl 0 rfl) ?_
  refine lv_iconst (v := (-1)) hx hb dX0_init_5 (by decide) ?_
  refine va_put (D := (dC, dI)) (ci := 0) (v := .int (-1)) (ty := .int) (C := RX0) (T := TX0) (N := 18) hx hb hts (jh hin_RX0) tyX0 tyX0_ok nmX0 hown hK hP hD hS 0 rfl rfl 10 (by decide) (hts (.fieldLink RX0 9 "BookOfAll$Entry" "to" "I") (jm m_270)) (fun _ h9 => h9) rfl (by decide +kernel) rfl rfl (Nat.le_of_ble_eq_true rfl) dX0_init_6 (fun H locs hP hD hS => ?_)
  refine lv_aload_n hx hb dX0_init_9 rfl (lv_at hl 0 rfl) ?_
  refine lv_iconst (v := (-1)) hx hb dX0_init_10 (by decide) ?_
  refine va_put (D := (dC, dI)) (ci := 0) (v := .int (-1)) (ty := .int) (C := RX0) (T := TX0) (N := 18) hx hb hts (jh hin_RX0) tyX0 tyX0_ok nmX0 hown hK hP hD hS 0 rfl rfl 12 (by decide) (hts (.fieldLink RX0 15 "BookOfAll$Entry" "setWith" "I") (jm m_271)) (fun _ h9 => h9) rfl (by decide +kernel) rfl rfl (Nat.le_of_ble_eq_true rfl) dX0_init_11 (fun H locs hP hD hS => ?_)
  refine lv_aload_n hx hb dX0_init_14 rfl (lv_at hl 0 rfl) ?_
  refine lv_iconst (v := (-1)) hx hb dX0_init_15 (by decide) ?_
  refine va_put (D := (dC, dI)) (ci := 0) (v := .int (-1)) (ty := .int) (C := RX0) (T := TX0) (N := 18) hx hb hts (jh hin_RX0) tyX0 tyX0_ok nmX0 hown hK hP hD hS 0 rfl rfl 13 (by decide) (hts (.fieldLink RX0 18 "BookOfAll$Entry" "begins" "I") (jm m_272)) (fun _ h9 => h9) rfl (by decide +kernel) rfl rfl (Nat.le_of_ble_eq_true rfl) dX0_init_16 (fun H locs hP hD hS => ?_)
  refine lv_aload_n hx hb dX0_init_19 rfl (lv_at hl 0 rfl) ?_
  refine lv_iconst (v := (-1)) hx hb dX0_init_20 (by decide) ?_
  refine va_put (D := (dC, dI)) (ci := 0) (v := .int (-1)) (ty := .int) (C := RX0) (T := TX0) (N := 18) hx hb hts (jh hin_RX0) tyX0 tyX0_ok nmX0 hown hK hP hD hS 0 rfl rfl 14 (by decide) (hts (.fieldLink RX0 21 "BookOfAll$Entry" "hand" "I") (jm m_273)) (fun _ h9 => h9) rfl (by decide +kernel) rfl rfl (Nat.le_of_ble_eq_true rfl) dX0_init_21 (fun H locs hP hD hS => ?_)
  refine lv_aload_n hx hb dX0_init_24 rfl (lv_at hl 0 rfl) ?_
  refine lv_iload_n hx hb dX0_init_25 rfl (lv_at hl 1 rfl) ?_
  refine va_putF (D := (dC, dI)) (ci := 0) (v := .int 0) (ty := .int) (C := RX0) (T := TX0) (N := 18) hx hb hts (jh hin_RX0) tyX0 tyX0_ok nmX0 hown hK hP hD hS 0 rfl rfl 0 (by decide) (hts (.fieldLink RX0 24 "BookOfAll$Entry" "number" "I") (jm m_274)) (fun _ h9 => h9) rfl hin rfl (by decide +kernel) rfl rfl (Nat.le_of_ble_eq_true rfl) dX0_init_26 (fun H locs hP hD hS => ?_)
  refine lv_aload_n hx hb dX0_init_29 rfl (lv_at hl 0 rfl) ?_
  refine lv_iload_n hx hb dX0_init_30 rfl (lv_at hl 2 rfl) ?_
  refine va_putF (D := (dC, dI)) (ci := 0) (v := .int 0) (ty := .int) (C := RX0) (T := TX0) (N := 18) hx hb hts (jh hin_RX0) tyX0 tyX0_ok nmX0 hown hK hP hD hS 0 rfl rfl 1 (by decide) (hts (.fieldLink RX0 27 "BookOfAll$Entry" "kind" "I") (jm m_275)) (fun _ h9 => h9) rfl hin rfl (by decide +kernel) rfl rfl (Nat.le_of_ble_eq_true rfl) dX0_init_31 (fun H locs hP hD hS => ?_)
  refine lv_aload_n hx hb dX0_init_34 rfl (lv_at hl 0 rfl) ?_
  refine lv_iconst (v := 0) hx hb dX0_init_35 (by decide) ?_
  refine lv_iload_n hx hb dX0_init_36 rfl (lv_at hl 3 rfl) ?_
  refine va_mmax hx hb (by rw [hml]; exact hl.1.symm) hown (hts (.methodLink RX0 30 Lib.Math.max.name) (jm m_276)) (hts (.static Lib.Math.max.name) (jm m_169)) (hts (.initialized "java/lang/Math") (jm m_170)) (hts (.code Lib.Math.max.name Lib.Math.max.code 2 (some .int)) (jm m_171)) (Nat.le_of_ble_eq_true rfl) (Nat.le_of_ble_eq_true rfl) (Nat.le_of_ble_eq_true rfl) (Nat.le_of_ble_eq_true rfl) dX0_init_37 ?_
  refine jt_i (nI n) (if_pos (jb_gt hn1 (by decide))) ?_
  refine va_newa (n := nI n) (N' := n) (a0 := (n, .inl (fun _ => 0))) (ty := .byte) hx hb (hts (.arrayClass .byte) (jm m_0)) rfl hK hP hD hS hA (fun _ => rfl) (nI_pos (by omega)) (nI_clamp (by omega)) (by show n * 1 ≤ _; omega) (Nat.le_of_ble_eq_true rfl) (by show 0 + n ≤ _; simp only []; omega) dX0_init_40 (fun q1 y1 H hK hP hD hS => ?_)
  refine W.widen (k := 1) (n := 12) (Nat.le_of_ble_eq_true rfl) (by omega) ?_
  refine va_putF (D := (dC, dI)) (ci := 0) (v := .ref q1) (ty := .array .byte) (C := RX0) (T := TX0) (N := 18) hx hb hts (jh hin_RX0) tyX0 tyX0_ok nmX0 hown hK hP hD hS 0 rfl rfl 2 (by decide) (hts (.fieldLink RX0 36 "BookOfAll$Entry" "heading" "[B") (jm m_91)) (fun _ h9 => h9) rfl hin rfl (by decide +kernel) rfl rfl (Nat.le_of_ble_eq_true rfl) dX0_init_42 (fun H locs hP hD hS => ?_)
  refine W.widen (k := 1) (n := 12) (Nat.le_of_ble_eq_true rfl) (Nat.le_of_ble_eq_true rfl) ?_
  exact W.vret hx hb hr (fun t ht hW => ⟨⟨(fun k => [0, q1].getD k 0, fun k => [dC 0, y1].getD k (dC 0)), rfl, trivial, by rw [ht]; exact hP, va_K.moved hW.alike hK, hD⟩, hS.F ht⟩) hS.2.2 dX0_init_45
set_option maxHeartbeats 500000 in
set_option maxRecDepth 100000 in
theorem kX8_inForce_17 (l : Launch) (dC : Nat → ClassId) (dI : Nat → Nat → Nat) (sz : Nat) (ad : Nat → Nat) (ca : Nat → ClassId) (w0 : Int32) (w1 : Int32) (w2 : Int32) (w3 : Nat) (w4 : (Nat → Nat) × (Nat → ClassId)) (w5 : Int64 × Int32 × (Nat → Int32)) (gl74 : 1 ≤ nI (jN w0 w1 w2)) (gh74 : nI (jN w0 w1 w2) ≤ 12) : Met l yX8_inForce (jk yX8_inForce cX8_inForce 6 (some .int)) ({ frames := 0, cells := 0, slots := 0, locals := 0 }) (va_Pc [.ref (ad 11), .int 1, .int (-1), .int 0] (jw_P (dC, dI) ((((((((((((xW ad ca ++ [(w3, .inr (0, [.int 0, .int 0, .ref ((w4.1 1)), .long w5.1, .int w5.2.1, .int 0, .int 0, .int 0, .int 0, .int 0, .int (-1), .int 0, .int (-1), .int (-1), .int (-1), .int 0, .long 0, .int 0])), ((w4.1 1), .inl ((w4.2 1), (jN w0 w1 w2), .inl w5.2.2))]) : va_W).set 38 (ad 38, .inl ((ca 38), 60, .inr (.inr (.inr (.inr (va_up (fun _ => none) 0 (some (w3))))))))) : va_W).set 0 (ad 0, .inr (12, [.int 0, .int 0, .ref (ad 1), .ref (ad 11), .ref (ad 18), .ref (ad 19), .ref (ad 38), .int 1, .ref (ad 39), .int 0, .ref (ad 40), .int 0, .ref (ad 41), .int 0, .ref (ad 42), .ref (ad 53), .ref (ad 54), .ref (ad 55), .ref (ad 61), .ref (ad 70)]))) : va_W).set 18 (ad 18, .inr (6, [.ref (ad 11), .int (-1), .int 0, .int 0, .int 0, .int 0]))) : va_W).set 18 (ad 18, .inr (6, [.ref (ad 11), .int (-1), .int 0, .int 0, .int 0, .int 0]))) : va_W).set 18 (ad 18, .inr (6, [.ref (ad 11), .int (-1), .int 0, .int 1, .int 0, .int 0])))) ((xT ca ++ [((w4.2 1), .byte)])) sz)) (va_Qi (fun (r : Int32) (_ : Unit) => (r = (-1))) (fun _ _ => True) (va_A [] sz)) 0 0 (va_A [] sz) := by
  refine Met.ofW (cc := cX8_inForce) (maxL := 6) (ret := (some .int)) (by decide) rfl ?_
  intro p e s m args below meth c s₁ B hml hv
  obtain ⟨rfl, hsz, hP, hK, hD0⟩ := hv
  have hx := B.exec
  have hb := B.bytes
  have hr := B.returns
  have hts := atoms_spec (ws := (jk yX8_inForce cX8_inForce 6 (some .int))) B.pre
  have hown : s.vm.findClass RX8 = some m.cls := findClass_of_methodNamed B.named
  have hlocks := B.notSynchronized
  subst hsz
  have hD := hD0
  generalize hAe : (va_A [] s.heap.size) = A
  have hA : ∀ q : Nat, s.heap.size ≤ q → A q := fun q h => by rw [← hAe]; exact Or.inr h
  have hS : va_S A s.heap s.heap [] := va_S.rf
  have hP : va_P (dC, dI) vwCl ((((((((((((xW ad ca ++ [(w3, .inr (0, [.int 0, .int 0, .ref ((w4.1 1)), .long w5.1, .int w5.2.1, .int 0, .int 0, .int 0, .int 0, .int 0, .int (-1), .int 0, .int (-1), .int (-1), .int (-1), .int 0, .long 0, .int 0])), ((w4.1 1), .inl ((w4.2 1), (jN w0 w1 w2), .inl w5.2.2))]) : va_W).set 38 (ad 38, .inl ((ca 38), 60, .inr (.inr (.inr (.inr (va_up (fun _ => none) 0 (some (w3))))))))) : va_W).set 0 (ad 0, .inr (12, [.int 0, .int 0, .ref (ad 1), .ref (ad 11), .ref (ad 18), .ref (ad 19), .ref (ad 38), .int 1, .ref (ad 39), .int 0, .ref (ad 40), .int 0, .ref (ad 41), .int 0, .ref (ad 42), .ref (ad 53), .ref (ad 54), .ref (ad 55), .ref (ad 61), .ref (ad 70)]))) : va_W).set 18 (ad 18, .inr (6, [.ref (ad 11), .int (-1), .int 0, .int 0, .int 0, .int 0]))) : va_W).set 18 (ad 18, .inr (6, [.ref (ad 11), .int (-1), .int 0, .int 0, .int 0, .int 0]))) : va_W).set 18 (ad 18, .inr (6, [.ref (ad 11), .int (-1), .int 0, .int 1, .int 0, .int 0])))) s.heap := hP
  have hl := lv_entry ([.ref (ad 11), .int 1, .int (-1), .int 0]) (n := 6) (Nat.le_of_ble_eq_true rfl)
  rw [lg_entry_eq]
  generalize (lg_sl ([.ref (ad 11), .int 1, .int (-1), .int 0]) ++ List.replicate (6 - (lg_sl ([.ref (ad 11), .int 1, .int (-1), .int 0])).length) Slot.unset).toArray = ls at hl ⊢
  have hl : lv_has ls 6 [(0, .ref (ad 11)), (1, .int 1), (2, .int (-1)), (3, .int 0)] := hl
  refine lv_aload_n hx hb dX8_inForce_0 rfl (lv_at hl 0 rfl) ?_
  refine va_get (D := (dC, dI)) (ci := 8) (v := .int 0) (C := RX8) (T := TX8) (N := 8) hx hb hts (jh hin_RX8) hown hK hP 11 rfl rfl 5 (by decide) (hts (.fieldLink RX8 37 "BookOfAll$Rules" "puts" "I") (jm m_225)) (fun _ h9 => h9) rfl dX8_inForce_1 ?_
  refine lv_iconst (v := 1) hx hb dX8_inForce_4 (by decide) ?_
  refine lv_isub hx hb dX8_inForce_5 ?_
  refine jt_i (-1) (by decide) ?_
  refine lv_istore (lv' := [(4, .int (-1)), (0, .ref (ad 11)), (1, .int 1), (2, .int (-1)), (3, .int 0)]) hx hb dX8_inForce_6 hl (by decide) rfl (fun ls hl => ?_)
  refine lv_iload hx hb dX8_inForce_8 (lv_at hl 0 rfl) ?_
  refine lv_if_lt (tgt := 51) hx hb dX8_inForce_10 (by decide) (fun _ => ?_) (fun z => absurd (by decide) z)
  refine lv_iconst (v := (-1)) hx hb dX8_inForce_51 (by decide) ?_
  exact W.iret (v := (-1)) hx hb hr (fun t ht hW => ⟨⟨(-1), (), rfl, rfl, trivial⟩, hS.F ht⟩) hS.2.2 dX8_inForce_52
set_option maxHeartbeats 500000 in
set_option maxRecDepth 100000 in
theorem kX8_valueOf_13 (l : Launch) (dC : Nat → ClassId) (dI : Nat → Nat → Nat) (sz : Nat) (ad : Nat → Nat) (ca : Nat → ClassId) (w0 : Int32) (w1 : Int32) (w2 : Int32) (w3 : Nat) (w4 : (Nat → Nat) × (Nat → ClassId)) (w5 : Int64 × Int32 × (Nat → Int32)) (gl74 : 1 ≤ nI (jN w0 w1 w2)) (gh74 : nI (jN w0 w1 w2) ≤ 12) (tW : Nat) : Met l yX8_valueOf (jk yX8_valueOf cX8_valueOf 6 (some .int)) ({ frames := 1, cells := 0, slots := 0, locals := 25 }) (va_Pc [.ref (ad 11), .int 1, .int (-1), .int 0] (jw_PZ (dC, dI) ((((((((((((xW ad ca ++ [(w3, .inr (0, [.int 0, .int 0, .ref ((w4.1 1)), .long w5.1, .int w5.2.1, .int 0, .int 0, .int 0, .int 0, .int 0, .int (-1), .int 0, .int (-1), .int (-1), .int (-1), .int 0, .long 0, .int 0])), ((w4.1 1), .inl ((w4.2 1), (jN w0 w1 w2), .inl w5.2.2))]) : va_W).set 38 (ad 38, .inl ((ca 38), 60, .inr (.inr (.inr (.inr (va_up (fun _ => none) 0 (some (w3))))))))) : va_W).set 0 (ad 0, .inr (12, [.int 0, .int 0, .ref (ad 1), .ref (ad 11), .ref (ad 18), .ref (ad 19), .ref (ad 38), .int 1, .ref (ad 39), .int 0, .ref (ad 40), .int 0, .ref (ad 41), .int 0, .ref (ad 42), .ref (ad 53), .ref (ad 54), .ref (ad 55), .ref (ad 61), .ref (ad 70)]))) : va_W).set 18 (ad 18, .inr (6, [.ref (ad 11), .int (-1), .int 0, .int 0, .int 0, .int 0]))) : va_W).set 18 (ad 18, .inr (6, [.ref (ad 11), .int (-1), .int 0, .int 0, .int 0, .int 0]))) : va_W).set 18 (ad 18, .inr (6, [.ref (ad 11), .int (-1), .int 0, .int 1, .int 0, .int 0])))) ((xT ca ++ [((w4.2 1), .byte)])) sz tW)) (va_Qi (fun (r : Int32) (_ : Unit) => (r = 1)) (fun _ t => va_P (dC, dI) vwCl ((((((((((((xW ad ca ++ [(w3, .inr (0, [.int 0, .int 0, .ref ((w4.1 1)), .long w5.1, .int w5.2.1, .int 0, .int 0, .int 0, .int 0, .int 0, .int (-1), .int 0, .int (-1), .int (-1), .int (-1), .int 0, .long 0, .int 0])), ((w4.1 1), .inl ((w4.2 1), (jN w0 w1 w2), .inl w5.2.2))]) : va_W).set 38 (ad 38, .inl ((ca 38), 60, .inr (.inr (.inr (.inr (va_up (fun _ => none) 0 (some (w3))))))))) : va_W).set 0 (ad 0, .inr (12, [.int 0, .int 0, .ref (ad 1), .ref (ad 11), .ref (ad 18), .ref (ad 19), .ref (ad 38), .int 1, .ref (ad 39), .int 0, .ref (ad 40), .int 0, .ref (ad 41), .int 0, .ref (ad 42), .ref (ad 53), .ref (ad 54), .ref (ad 55), .ref (ad 61), .ref (ad 70)]))) : va_W).set 18 (ad 18, .inr (6, [.ref (ad 11), .int (-1), .int 0, .int 0, .int 0, .int 0]))) : va_W).set 18 (ad 18, .inr (6, [.ref (ad 11), .int (-1), .int 0, .int 0, .int 0, .int 0]))) : va_W).set 18 (ad 18, .inr (6, [.ref (ad 11), .int (-1), .int 0, .int 1, .int 0, .int 0])))) t.heap ∧ va_K (dC, dI) vwCl ((xT ca ++ [((w4.2 1), .byte)])) t ∧ va_D (va_A ((((((((((((xW ad ca ++ [(w3, .inr (0, [.int 0, .int 0, .ref ((w4.1 1)), .long w5.1, .int w5.2.1, .int 0, .int 0, .int 0, .int 0, .int 0, .int (-1), .int 0, .int (-1), .int (-1), .int (-1), .int 0, .long 0, .int 0])), ((w4.1 1), .inl ((w4.2 1), (jN w0 w1 w2), .inl w5.2.2))]) : va_W).set 38 (ad 38, .inl ((ca 38), 60, .inr (.inr (.inr (.inr (va_up (fun _ => none) 0 (some (w3))))))))) : va_W).set 0 (ad 0, .inr (12, [.int 0, .int 0, .ref (ad 1), .ref (ad 11), .ref (ad 18), .ref (ad 19), .ref (ad 38), .int 1, .ref (ad 39), .int 0, .ref (ad 40), .int 0, .ref (ad 41), .int 0, .ref (ad 42), .ref (ad 53), .ref (ad 54), .ref (ad 55), .ref (ad 61), .ref (ad 70)]))) : va_W).set 18 (ad 18, .inr (6, [.ref (ad 11), .int (-1), .int 0, .int 0, .int 0, .int 0]))) : va_W).set 18 (ad 18, .inr (6, [.ref (ad 11), .int (-1), .int 0, .int 0, .int 0, .int 0]))) : va_W).set 18 (ad 18, .inr (6, [.ref (ad 11), .int (-1), .int 0, .int 1, .int 0, .int 0])))) sz) ((((((((((((xW ad ca ++ [(w3, .inr (0, [.int 0, .int 0, .ref ((w4.1 1)), .long w5.1, .int w5.2.1, .int 0, .int 0, .int 0, .int 0, .int 0, .int (-1), .int 0, .int (-1), .int (-1), .int (-1), .int 0, .long 0, .int 0])), ((w4.1 1), .inl ((w4.2 1), (jN w0 w1 w2), .inl w5.2.2))]) : va_W).set 38 (ad 38, .inl ((ca 38), 60, .inr (.inr (.inr (.inr (va_up (fun _ => none) 0 (some (w3))))))))) : va_W).set 0 (ad 0, .inr (12, [.int 0, .int 0, .ref (ad 1), .ref (ad 11), .ref (ad 18), .ref (ad 19), .ref (ad 38), .int 1, .ref (ad 39), .int 0, .ref (ad 40), .int 0, .ref (ad 41), .int 0, .ref (ad 42), .ref (ad 53), .ref (ad 54), .ref (ad 55), .ref (ad 61), .ref (ad 70)]))) : va_W).set 18 (ad 18, .inr (6, [.ref (ad 11), .int (-1), .int 0, .int 0, .int 0, .int 0]))) : va_W).set 18 (ad 18, .inr (6, [.ref (ad 11), .int (-1), .int 0, .int 0, .int 0, .int 0]))) : va_W).set 18 (ad 18, .inr (6, [.ref (ad 11), .int (-1), .int 0, .int 1, .int 0, .int 0]))))) (va_A ((((((((((((xW ad ca ++ [(w3, .inr (0, [.int 0, .int 0, .ref ((w4.1 1)), .long w5.1, .int w5.2.1, .int 0, .int 0, .int 0, .int 0, .int 0, .int (-1), .int 0, .int (-1), .int (-1), .int (-1), .int 0, .long 0, .int 0])), ((w4.1 1), .inl ((w4.2 1), (jN w0 w1 w2), .inl w5.2.2))]) : va_W).set 38 (ad 38, .inl ((ca 38), 60, .inr (.inr (.inr (.inr (va_up (fun _ => none) 0 (some (w3))))))))) : va_W).set 0 (ad 0, .inr (12, [.int 0, .int 0, .ref (ad 1), .ref (ad 11), .ref (ad 18), .ref (ad 19), .ref (ad 38), .int 1, .ref (ad 39), .int 0, .ref (ad 40), .int 0, .ref (ad 41), .int 0, .ref (ad 42), .ref (ad 53), .ref (ad 54), .ref (ad 55), .ref (ad 61), .ref (ad 70)]))) : va_W).set 18 (ad 18, .inr (6, [.ref (ad 11), .int (-1), .int 0, .int 0, .int 0, .int 0]))) : va_W).set 18 (ad 18, .inr (6, [.ref (ad 11), .int (-1), .int 0, .int 0, .int 0, .int 0]))) : va_W).set 18 (ad 18, .inr (6, [.ref (ad 11), .int (-1), .int 0, .int 1, .int 0, .int 0])))) sz)) 0 0 (va_A ((((((((((((xW ad ca ++ [(w3, .inr (0, [.int 0, .int 0, .ref ((w4.1 1)), .long w5.1, .int w5.2.1, .int 0, .int 0, .int 0, .int 0, .int 0, .int (-1), .int 0, .int (-1), .int (-1), .int (-1), .int 0, .long 0, .int 0])), ((w4.1 1), .inl ((w4.2 1), (jN w0 w1 w2), .inl w5.2.2))]) : va_W).set 38 (ad 38, .inl ((ca 38), 60, .inr (.inr (.inr (.inr (va_up (fun _ => none) 0 (some (w3))))))))) : va_W).set 0 (ad 0, .inr (12, [.int 0, .int 0, .ref (ad 1), .ref (ad 11), .ref (ad 18), .ref (ad 19), .ref (ad 38), .int 1, .ref (ad 39), .int 0, .ref (ad 40), .int 0, .ref (ad 41), .int 0, .ref (ad 42), .ref (ad 53), .ref (ad 54), .ref (ad 55), .ref (ad 61), .ref (ad 70)]))) : va_W).set 18 (ad 18, .inr (6, [.ref (ad 11), .int (-1), .int 0, .int 0, .int 0, .int 0]))) : va_W).set 18 (ad 18, .inr (6, [.ref (ad 11), .int (-1), .int 0, .int 0, .int 0, .int 0]))) : va_W).set 18 (ad 18, .inr (6, [.ref (ad 11), .int (-1), .int 0, .int 1, .int 0, .int 0])))) sz) := by
  refine Met.ofW (cc := cX8_valueOf) (maxL := 6) (ret := (some .int)) (by decide) rfl ?_
  intro p e s m args below meth c s₁ B hml hv
  obtain ⟨rfl, ⟨hsz, hP, hK, hD0⟩, hZ, hT⟩ := hv
  have hx := B.exec
  have hb := B.bytes
  have hr := B.returns
  have hts := atoms_spec (ws := (jk yX8_valueOf cX8_valueOf 6 (some .int))) B.pre
  have hown : s.vm.findClass RX8 = some m.cls := findClass_of_methodNamed B.named
  have hlocks := B.notSynchronized
  subst hsz
  have hD := hD0.self (sz := s.heap.size)
  generalize hAe : (va_A ((((((((((((xW ad ca ++ [(w3, .inr (0, [.int 0, .int 0, .ref ((w4.1 1)), .long w5.1, .int w5.2.1, .int 0, .int 0, .int 0, .int 0, .int 0, .int (-1), .int 0, .int (-1), .int (-1), .int (-1), .int 0, .long 0, .int 0])), ((w4.1 1), .inl ((w4.2 1), (jN w0 w1 w2), .inl w5.2.2))]) : va_W).set 38 (ad 38, .inl ((ca 38), 60, .inr (.inr (.inr (.inr (va_up (fun _ => none) 0 (some (w3))))))))) : va_W).set 0 (ad 0, .inr (12, [.int 0, .int 0, .ref (ad 1), .ref (ad 11), .ref (ad 18), .ref (ad 19), .ref (ad 38), .int 1, .ref (ad 39), .int 0, .ref (ad 40), .int 0, .ref (ad 41), .int 0, .ref (ad 42), .ref (ad 53), .ref (ad 54), .ref (ad 55), .ref (ad 61), .ref (ad 70)]))) : va_W).set 18 (ad 18, .inr (6, [.ref (ad 11), .int (-1), .int 0, .int 0, .int 0, .int 0]))) : va_W).set 18 (ad 18, .inr (6, [.ref (ad 11), .int (-1), .int 0, .int 0, .int 0, .int 0]))) : va_W).set 18 (ad 18, .inr (6, [.ref (ad 11), .int (-1), .int 0, .int 1, .int 0, .int 0])))) s.heap.size) = A at hD hZ hT ⊢
  have hA : ∀ q : Nat, s.heap.size ≤ q → A q := fun q h => by rw [← hAe]; exact Or.inr h
  have hS : va_S A s.heap s.heap [] := va_S.rf
  have hP : va_P (dC, dI) vwCl ((((((((((((xW ad ca ++ [(w3, .inr (0, [.int 0, .int 0, .ref ((w4.1 1)), .long w5.1, .int w5.2.1, .int 0, .int 0, .int 0, .int 0, .int 0, .int (-1), .int 0, .int (-1), .int (-1), .int (-1), .int 0, .long 0, .int 0])), ((w4.1 1), .inl ((w4.2 1), (jN w0 w1 w2), .inl w5.2.2))]) : va_W).set 38 (ad 38, .inl ((ca 38), 60, .inr (.inr (.inr (.inr (va_up (fun _ => none) 0 (some (w3))))))))) : va_W).set 0 (ad 0, .inr (12, [.int 0, .int 0, .ref (ad 1), .ref (ad 11), .ref (ad 18), .ref (ad 19), .ref (ad 38), .int 1, .ref (ad 39), .int 0, .ref (ad 40), .int 0, .ref (ad 41), .int 0, .ref (ad 42), .ref (ad 53), .ref (ad 54), .ref (ad 55), .ref (ad 61), .ref (ad 70)]))) : va_W).set 18 (ad 18, .inr (6, [.ref (ad 11), .int (-1), .int 0, .int 0, .int 0, .int 0]))) : va_W).set 18 (ad 18, .inr (6, [.ref (ad 11), .int (-1), .int 0, .int 0, .int 0, .int 0]))) : va_W).set 18 (ad 18, .inr (6, [.ref (ad 11), .int (-1), .int 0, .int 1, .int 0, .int 0])))) s.heap := hP
  have hl := lv_entry ([.ref (ad 11), .int 1, .int (-1), .int 0]) (n := 6) (Nat.le_of_ble_eq_true rfl)
  rw [lg_entry_eq]
  generalize (lg_sl ([.ref (ad 11), .int 1, .int (-1), .int 0]) ++ List.replicate (6 - (lg_sl ([.ref (ad 11), .int 1, .int (-1), .int 0])).length) Slot.unset).toArray = ls at hl ⊢
  have hl : lv_has ls 6 [(0, .ref (ad 11)), (1, .int 1), (2, .int (-1)), (3, .int 0)] := hl
  refine lv_iload_n hx hb dX8_valueOf_0 rfl (lv_at hl 1 rfl) ?_
  refine lv_if_lt (tgt := 12) hx hb dX8_valueOf_1 (by decide) (fun z => absurd z (by decide)) (fun _ => ?_)
  refine lv_iload_n hx hb dX8_valueOf_4 rfl (lv_at hl 1 rfl) ?_
  refine va_gets hx hb hZ hS hown (hts (.fieldLink RX8 58 "BookOfAll$Rules" "WITHOUT" "[I") (jm m_246)) (fun _ h9 => h9) dX8_valueOf_5 ?_
  refine va_tlen (v := 14) hx hb hT hS (by decide) dX8_valueOf_8 ?_
  refine lv_icmp_lt (tgt := 14) hx hb dX8_valueOf_9 (by decide) (fun _ => ?_) (fun z => absurd (by decide) z)
  refine lv_aload_n hx hb dX8_valueOf_14 rfl (lv_at hl 0 rfl) ?_
  refine lv_iload_n hx hb dX8_valueOf_15 rfl (lv_at hl 1 rfl) ?_
  refine lv_iload_n hx hb dX8_valueOf_16 rfl (lv_at hl 2 rfl) ?_
  refine lv_iload_n hx hb dX8_valueOf_17 rfl (lv_at hl 3 rfl) ?_
  refine jc_i (va_runV (As := [.int 1, .int (-1), .int 0]) (rest := []) ⟨hx, hb, hml, hown, hts⟩ (kX8_inForce_17 l dC dI _ ad ca w0 w1 w2 w3 w4 w5 gl74 gh74) (cwV 3 hts (jgoodV m_247 m_227 m_228 m_157 m_229) rfl rfl rfl (by decide +kernel) ⟨Nat.le_of_ble_eq_true rfl, Nat.le_of_ble_eq_true rfl⟩) ⟨jw_blind, va_recv hK hP (ci := 8) (q0 := 11) rfl rfl, fun U hU hW => ⟨rfl, jw_of hU hW hP hK hD⟩⟩ rfl rfl hl.1 rfl (lv_room (Nat.le_of_ble_eq_true rfl)) dX8_valueOf_18 ⟨Nat.le_of_ble_eq_true rfl, Nat.le_of_ble_eq_true rfl⟩) hP hS hA (fun r_1 H locs hw_1 hP hS => ?_)
  have hw_1 : r_1 = (-1) := hw_1
  subst hw_1
  refine lv_istore (lv' := [(4, .int (-1)), (0, .ref (ad 11)), (1, .int 1), (2, .int (-1)), (3, .int 0)]) hx hb dX8_valueOf_21 hl (by decide) rfl (fun ls hl => ?_)
  refine lv_iload hx hb dX8_valueOf_23 (lv_at hl 0 rfl) ?_
  refine lv_if_lt (tgt := 45) hx hb dX8_valueOf_25 (by decide) (fun _ => ?_) (fun z => absurd (by decide) z)
  refine lv_null hx hb dX8_valueOf_45 ?_
  refine lv_astoreN (lv' := [(5, .null), (4, .int (-1)), (0, .ref (ad 11)), (1, .int 1), (2, .int (-1)), (3, .int 0)]) hx hb dX8_valueOf_46 hl (by decide) rfl (fun ls hl => ?_)
  refine lv_aloadN hx hb dX8_valueOf_48 (lv_at hl 0 rfl) ?_
  refine lv_ifnonnullN hx hb dX8_valueOf_50 ?_
  refine va_gets hx hb hZ hS hown (hts (.fieldLink RX8 58 "BookOfAll$Rules" "WITHOUT" "[I") (jm m_246)) (fun _ h9 => h9) dX8_valueOf_53 ?_
  refine lv_iload_n hx hb dX8_valueOf_56 rfl (lv_at hl 3 rfl) ?_
  refine va_ti (v := .int 1) hx hb hT hS (vp_in_nI (n := 1) (by decide) (by decide)) rfl dX8_valueOf_57 ?_
  refine lv_goto (tgt := 68) hx hb dX8_valueOf_58 (by decide) ?_
  exact W.iret (v := 1) hx hb hr (fun t ht hW => ⟨⟨1, (), rfl, rfl, by rw [ht]; exact hP, va_K.moved hW.alike hK, hD⟩, hS.F ht⟩) hS.2.2 dX8_valueOf_68
set_option maxHeartbeats 500000 in
set_option maxRecDepth 100000 in
theorem kX8_inForce_18 (l : Launch) (dC : Nat → ClassId) (dI : Nat → Nat → Nat) (sz : Nat) (ad : Nat → Nat) (ca : Nat → ClassId) (w0 : Int32) (w1 : Int32) (w2 : Int32) (w3 : Nat) (w4 : (Nat → Nat) × (Nat → ClassId)) (w5 : Int64 × Int32 × (Nat → Int32)) (gl74 : 1 ≤ nI (jN w0 w1 w2)) (gh74 : nI (jN w0 w1 w2) ≤ 12) : Met l yX8_inForce (jk yX8_inForce cX8_inForce 6 (some .int)) ({ frames := 0, cells := 0, slots := 0, locals := 0 }) (va_Pc [.ref (ad 11), .int 0, .int (-1), .int 0] (jw_P (dC, dI) ((((((((((((((xW ad ca ++ [(w3, .inr (0, [.int 0, .int 0, .ref ((w4.1 1)), .long w5.1, .int w5.2.1, .int 0, .int 0, .int 0, .int 0, .int 0, .int (-1), .int 0, .int (-1), .int (-1), .int (-1), .int 0, .long 0, .int 0])), ((w4.1 1), .inl ((w4.2 1), (jN w0 w1 w2), .inl w5.2.2))]) : va_W).set 38 (ad 38, .inl ((ca 38), 60, .inr (.inr (.inr (.inr (va_up (fun _ => none) 0 (some (w3))))))))) : va_W).set 0 (ad 0, .inr (12, [.int 0, .int 0, .ref (ad 1), .ref (ad 11), .ref (ad 18), .ref (ad 19), .ref (ad 38), .int 1, .ref (ad 39), .int 0, .ref (ad 40), .int 0, .ref (ad 41), .int 0, .ref (ad 42), .ref (ad 53), .ref (ad 54), .ref (ad 55), .ref (ad 61), .ref (ad 70)]))) : va_W).set 18 (ad 18, .inr (6, [.ref (ad 11), .int (-1), .int 0, .int 0, .int 0, .int 0]))) : va_W).set 18 (ad 18, .inr (6, [.ref (ad 11), .int (-1), .int 0, .int 0, .int 0, .int 0]))) : va_W).set 18 (ad 18, .inr (6, [.ref (ad 11), .int (-1), .int 0, .int 1, .int 0, .int 0]))) : va_W).set 18 (ad 18, .inr (6, [.ref (ad 11), .int (-1), .int 0, .int 1, .int 1, .int 0])))) ((xT ca ++ [((w4.2 1), .byte)])) sz)) (va_Qi (fun (r : Int32) (_ : Unit) => (r = (-1))) (fun _ _ => True) (va_A [] sz)) 0 0 (va_A [] sz) := by
  refine Met.ofW (cc := cX8_inForce) (maxL := 6) (ret := (some .int)) (by decide) rfl ?_
  intro p e s m args below meth c s₁ B hml hv
  obtain ⟨rfl, hsz, hP, hK, hD0⟩ := hv
  have hx := B.exec
  have hb := B.bytes
  have hr := B.returns
  have hts := atoms_spec (ws := (jk yX8_inForce cX8_inForce 6 (some .int))) B.pre
  have hown : s.vm.findClass RX8 = some m.cls := findClass_of_methodNamed B.named
  have hlocks := B.notSynchronized
  subst hsz
  have hD := hD0
  generalize hAe : (va_A [] s.heap.size) = A
  have hA : ∀ q : Nat, s.heap.size ≤ q → A q := fun q h => by rw [← hAe]; exact Or.inr h
  have hS : va_S A s.heap s.heap [] := va_S.rf
  have hP : va_P (dC, dI) vwCl ((((((((((((((xW ad ca ++ [(w3, .inr (0, [.int 0, .int 0, .ref ((w4.1 1)), .long w5.1, .int w5.2.1, .int 0, .int 0, .int 0, .int 0, .int 0, .int (-1), .int 0, .int (-1), .int (-1), .int (-1), .int 0, .long 0, .int 0])), ((w4.1 1), .inl ((w4.2 1), (jN w0 w1 w2), .inl w5.2.2))]) : va_W).set 38 (ad 38, .inl ((ca 38), 60, .inr (.inr (.inr (.inr (va_up (fun _ => none) 0 (some (w3))))))))) : va_W).set 0 (ad 0, .inr (12, [.int 0, .int 0, .ref (ad 1), .ref (ad 11), .ref (ad 18), .ref (ad 19), .ref (ad 38), .int 1, .ref (ad 39), .int 0, .ref (ad 40), .int 0, .ref (ad 41), .int 0, .ref (ad 42), .ref (ad 53), .ref (ad 54), .ref (ad 55), .ref (ad 61), .ref (ad 70)]))) : va_W).set 18 (ad 18, .inr (6, [.ref (ad 11), .int (-1), .int 0, .int 0, .int 0, .int 0]))) : va_W).set 18 (ad 18, .inr (6, [.ref (ad 11), .int (-1), .int 0, .int 0, .int 0, .int 0]))) : va_W).set 18 (ad 18, .inr (6, [.ref (ad 11), .int (-1), .int 0, .int 1, .int 0, .int 0]))) : va_W).set 18 (ad 18, .inr (6, [.ref (ad 11), .int (-1), .int 0, .int 1, .int 1, .int 0])))) s.heap := hP
  have hl := lv_entry ([.ref (ad 11), .int 0, .int (-1), .int 0]) (n := 6) (Nat.le_of_ble_eq_true rfl)
  rw [lg_entry_eq]
  generalize (lg_sl ([.ref (ad 11), .int 0, .int (-1), .int 0]) ++ List.replicate (6 - (lg_sl ([.ref (ad 11), .int 0, .int (-1), .int 0])).length) Slot.unset).toArray = ls at hl ⊢
  have hl : lv_has ls 6 [(0, .ref (ad 11)), (1, .int 0), (2, .int (-1)), (3, .int 0)] := hl
  refine lv_aload_n hx hb dX8_inForce_0 rfl (lv_at hl 0 rfl) ?_
  refine va_get (D := (dC, dI)) (ci := 8) (v := .int 0) (C := RX8) (T := TX8) (N := 8) hx hb hts (jh hin_RX8) hown hK hP 11 rfl rfl 5 (by decide) (hts (.fieldLink RX8 37 "BookOfAll$Rules" "puts" "I") (jm m_225)) (fun _ h9 => h9) rfl dX8_inForce_1 ?_
  refine lv_iconst (v := 1) hx hb dX8_inForce_4 (by decide) ?_
  refine lv_isub hx hb dX8_inForce_5 ?_
  refine jt_i (-1) (by decide) ?_
  refine lv_istore (lv' := [(4, .int (-1)), (0, .ref (ad 11)), (1, .int 0), (2, .int (-1)), (3, .int 0)]) hx hb dX8_inForce_6 hl (by decide) rfl (fun ls hl => ?_)
  refine lv_iload hx hb dX8_inForce_8 (lv_at hl 0 rfl) ?_
  refine lv_if_lt (tgt := 51) hx hb dX8_inForce_10 (by decide) (fun _ => ?_) (fun z => absurd (by decide) z)
  refine lv_iconst (v := (-1)) hx hb dX8_inForce_51 (by decide) ?_
  exact W.iret (v := (-1)) hx hb hr (fun t ht hW => ⟨⟨(-1), (), rfl, rfl, trivial⟩, hS.F ht⟩) hS.2.2 dX8_inForce_52
set_option maxHeartbeats 500000 in
set_option maxRecDepth 100000 in
theorem kX8_valueOf_14 (l : Launch) (dC : Nat → ClassId) (dI : Nat → Nat → Nat) (sz : Nat) (ad : Nat → Nat) (ca : Nat → ClassId) (w0 : Int32) (w1 : Int32) (w2 : Int32) (w3 : Nat) (w4 : (Nat → Nat) × (Nat → ClassId)) (w5 : Int64 × Int32 × (Nat → Int32)) (gl74 : 1 ≤ nI (jN w0 w1 w2)) (gh74 : nI (jN w0 w1 w2) ≤ 12) (tW : Nat) : Met l yX8_valueOf (jk yX8_valueOf cX8_valueOf 6 (some .int)) ({ frames := 1, cells := 0, slots := 0, locals := 25 }) (va_Pc [.ref (ad 11), .int 0, .int (-1), .int 0] (jw_PZ (dC, dI) ((((((((((((((xW ad ca ++ [(w3, .inr (0, [.int 0, .int 0, .ref ((w4.1 1)), .long w5.1, .int w5.2.1, .int 0, .int 0, .int 0, .int 0, .int 0, .int (-1), .int 0, .int (-1), .int (-1), .int (-1), .int 0, .long 0, .int 0])), ((w4.1 1), .inl ((w4.2 1), (jN w0 w1 w2), .inl w5.2.2))]) : va_W).set 38 (ad 38, .inl ((ca 38), 60, .inr (.inr (.inr (.inr (va_up (fun _ => none) 0 (some (w3))))))))) : va_W).set 0 (ad 0, .inr (12, [.int 0, .int 0, .ref (ad 1), .ref (ad 11), .ref (ad 18), .ref (ad 19), .ref (ad 38), .int 1, .ref (ad 39), .int 0, .ref (ad 40), .int 0, .ref (ad 41), .int 0, .ref (ad 42), .ref (ad 53), .ref (ad 54), .ref (ad 55), .ref (ad 61), .ref (ad 70)]))) : va_W).set 18 (ad 18, .inr (6, [.ref (ad 11), .int (-1), .int 0, .int 0, .int 0, .int 0]))) : va_W).set 18 (ad 18, .inr (6, [.ref (ad 11), .int (-1), .int 0, .int 0, .int 0, .int 0]))) : va_W).set 18 (ad 18, .inr (6, [.ref (ad 11), .int (-1), .int 0, .int 1, .int 0, .int 0]))) : va_W).set 18 (ad 18, .inr (6, [.ref (ad 11), .int (-1), .int 0, .int 1, .int 1, .int 0])))) ((xT ca ++ [((w4.2 1), .byte)])) sz tW)) (va_Qi (fun (r : Int32) (_ : Unit) => (r = 1)) (fun _ t => va_P (dC, dI) vwCl ((((((((((((((xW ad ca ++ [(w3, .inr (0, [.int 0, .int 0, .ref ((w4.1 1)), .long w5.1, .int w5.2.1, .int 0, .int 0, .int 0, .int 0, .int 0, .int (-1), .int 0, .int (-1), .int (-1), .int (-1), .int 0, .long 0, .int 0])), ((w4.1 1), .inl ((w4.2 1), (jN w0 w1 w2), .inl w5.2.2))]) : va_W).set 38 (ad 38, .inl ((ca 38), 60, .inr (.inr (.inr (.inr (va_up (fun _ => none) 0 (some (w3))))))))) : va_W).set 0 (ad 0, .inr (12, [.int 0, .int 0, .ref (ad 1), .ref (ad 11), .ref (ad 18), .ref (ad 19), .ref (ad 38), .int 1, .ref (ad 39), .int 0, .ref (ad 40), .int 0, .ref (ad 41), .int 0, .ref (ad 42), .ref (ad 53), .ref (ad 54), .ref (ad 55), .ref (ad 61), .ref (ad 70)]))) : va_W).set 18 (ad 18, .inr (6, [.ref (ad 11), .int (-1), .int 0, .int 0, .int 0, .int 0]))) : va_W).set 18 (ad 18, .inr (6, [.ref (ad 11), .int (-1), .int 0, .int 0, .int 0, .int 0]))) : va_W).set 18 (ad 18, .inr (6, [.ref (ad 11), .int (-1), .int 0, .int 1, .int 0, .int 0]))) : va_W).set 18 (ad 18, .inr (6, [.ref (ad 11), .int (-1), .int 0, .int 1, .int 1, .int 0])))) t.heap ∧ va_K (dC, dI) vwCl ((xT ca ++ [((w4.2 1), .byte)])) t ∧ va_D (va_A ((((((((((((((xW ad ca ++ [(w3, .inr (0, [.int 0, .int 0, .ref ((w4.1 1)), .long w5.1, .int w5.2.1, .int 0, .int 0, .int 0, .int 0, .int 0, .int (-1), .int 0, .int (-1), .int (-1), .int (-1), .int 0, .long 0, .int 0])), ((w4.1 1), .inl ((w4.2 1), (jN w0 w1 w2), .inl w5.2.2))]) : va_W).set 38 (ad 38, .inl ((ca 38), 60, .inr (.inr (.inr (.inr (va_up (fun _ => none) 0 (some (w3))))))))) : va_W).set 0 (ad 0, .inr (12, [.int 0, .int 0, .ref (ad 1), .ref (ad 11), .ref (ad 18), .ref (ad 19), .ref (ad 38), .int 1, .ref (ad 39), .int 0, .ref (ad 40), .int 0, .ref (ad 41), .int 0, .ref (ad 42), .ref (ad 53), .ref (ad 54), .ref (ad 55), .ref (ad 61), .ref (ad 70)]))) : va_W).set 18 (ad 18, .inr (6, [.ref (ad 11), .int (-1), .int 0, .int 0, .int 0, .int 0]))) : va_W).set 18 (ad 18, .inr (6, [.ref (ad 11), .int (-1), .int 0, .int 0, .int 0, .int 0]))) : va_W).set 18 (ad 18, .inr (6, [.ref (ad 11), .int (-1), .int 0, .int 1, .int 0, .int 0]))) : va_W).set 18 (ad 18, .inr (6, [.ref (ad 11), .int (-1), .int 0, .int 1, .int 1, .int 0])))) sz) ((((((((((((((xW ad ca ++ [(w3, .inr (0, [.int 0, .int 0, .ref ((w4.1 1)), .long w5.1, .int w5.2.1, .int 0, .int 0, .int 0, .int 0, .int 0, .int (-1), .int 0, .int (-1), .int (-1), .int (-1), .int 0, .long 0, .int 0])), ((w4.1 1), .inl ((w4.2 1), (jN w0 w1 w2), .inl w5.2.2))]) : va_W).set 38 (ad 38, .inl ((ca 38), 60, .inr (.inr (.inr (.inr (va_up (fun _ => none) 0 (some (w3))))))))) : va_W).set 0 (ad 0, .inr (12, [.int 0, .int 0, .ref (ad 1), .ref (ad 11), .ref (ad 18), .ref (ad 19), .ref (ad 38), .int 1, .ref (ad 39), .int 0, .ref (ad 40), .int 0, .ref (ad 41), .int 0, .ref (ad 42), .ref (ad 53), .ref (ad 54), .ref (ad 55), .ref (ad 61), .ref (ad 70)]))) : va_W).set 18 (ad 18, .inr (6, [.ref (ad 11), .int (-1), .int 0, .int 0, .int 0, .int 0]))) : va_W).set 18 (ad 18, .inr (6, [.ref (ad 11), .int (-1), .int 0, .int 0, .int 0, .int 0]))) : va_W).set 18 (ad 18, .inr (6, [.ref (ad 11), .int (-1), .int 0, .int 1, .int 0, .int 0]))) : va_W).set 18 (ad 18, .inr (6, [.ref (ad 11), .int (-1), .int 0, .int 1, .int 1, .int 0]))))) (va_A ((((((((((((((xW ad ca ++ [(w3, .inr (0, [.int 0, .int 0, .ref ((w4.1 1)), .long w5.1, .int w5.2.1, .int 0, .int 0, .int 0, .int 0, .int 0, .int (-1), .int 0, .int (-1), .int (-1), .int (-1), .int 0, .long 0, .int 0])), ((w4.1 1), .inl ((w4.2 1), (jN w0 w1 w2), .inl w5.2.2))]) : va_W).set 38 (ad 38, .inl ((ca 38), 60, .inr (.inr (.inr (.inr (va_up (fun _ => none) 0 (some (w3))))))))) : va_W).set 0 (ad 0, .inr (12, [.int 0, .int 0, .ref (ad 1), .ref (ad 11), .ref (ad 18), .ref (ad 19), .ref (ad 38), .int 1, .ref (ad 39), .int 0, .ref (ad 40), .int 0, .ref (ad 41), .int 0, .ref (ad 42), .ref (ad 53), .ref (ad 54), .ref (ad 55), .ref (ad 61), .ref (ad 70)]))) : va_W).set 18 (ad 18, .inr (6, [.ref (ad 11), .int (-1), .int 0, .int 0, .int 0, .int 0]))) : va_W).set 18 (ad 18, .inr (6, [.ref (ad 11), .int (-1), .int 0, .int 0, .int 0, .int 0]))) : va_W).set 18 (ad 18, .inr (6, [.ref (ad 11), .int (-1), .int 0, .int 1, .int 0, .int 0]))) : va_W).set 18 (ad 18, .inr (6, [.ref (ad 11), .int (-1), .int 0, .int 1, .int 1, .int 0])))) sz)) 0 0 (va_A ((((((((((((((xW ad ca ++ [(w3, .inr (0, [.int 0, .int 0, .ref ((w4.1 1)), .long w5.1, .int w5.2.1, .int 0, .int 0, .int 0, .int 0, .int 0, .int (-1), .int 0, .int (-1), .int (-1), .int (-1), .int 0, .long 0, .int 0])), ((w4.1 1), .inl ((w4.2 1), (jN w0 w1 w2), .inl w5.2.2))]) : va_W).set 38 (ad 38, .inl ((ca 38), 60, .inr (.inr (.inr (.inr (va_up (fun _ => none) 0 (some (w3))))))))) : va_W).set 0 (ad 0, .inr (12, [.int 0, .int 0, .ref (ad 1), .ref (ad 11), .ref (ad 18), .ref (ad 19), .ref (ad 38), .int 1, .ref (ad 39), .int 0, .ref (ad 40), .int 0, .ref (ad 41), .int 0, .ref (ad 42), .ref (ad 53), .ref (ad 54), .ref (ad 55), .ref (ad 61), .ref (ad 70)]))) : va_W).set 18 (ad 18, .inr (6, [.ref (ad 11), .int (-1), .int 0, .int 0, .int 0, .int 0]))) : va_W).set 18 (ad 18, .inr (6, [.ref (ad 11), .int (-1), .int 0, .int 0, .int 0, .int 0]))) : va_W).set 18 (ad 18, .inr (6, [.ref (ad 11), .int (-1), .int 0, .int 1, .int 0, .int 0]))) : va_W).set 18 (ad 18, .inr (6, [.ref (ad 11), .int (-1), .int 0, .int 1, .int 1, .int 0])))) sz) := by
  refine Met.ofW (cc := cX8_valueOf) (maxL := 6) (ret := (some .int)) (by decide) rfl ?_
  intro p e s m args below meth c s₁ B hml hv
  obtain ⟨rfl, ⟨hsz, hP, hK, hD0⟩, hZ, hT⟩ := hv
  have hx := B.exec
  have hb := B.bytes
  have hr := B.returns
  have hts := atoms_spec (ws := (jk yX8_valueOf cX8_valueOf 6 (some .int))) B.pre
  have hown : s.vm.findClass RX8 = some m.cls := findClass_of_methodNamed B.named
  have hlocks := B.notSynchronized
  subst hsz
  have hD := hD0.self (sz := s.heap.size)
  generalize hAe : (va_A ((((((((((((((xW ad ca ++ [(w3, .inr (0, [.int 0, .int 0, .ref ((w4.1 1)), .long w5.1, .int w5.2.1, .int 0, .int 0, .int 0, .int 0, .int 0, .int (-1), .int 0, .int (-1), .int (-1), .int (-1), .int 0, .long 0, .int 0])), ((w4.1 1), .inl ((w4.2 1), (jN w0 w1 w2), .inl w5.2.2))]) : va_W).set 38 (ad 38, .inl ((ca 38), 60, .inr (.inr (.inr (.inr (va_up (fun _ => none) 0 (some (w3))))))))) : va_W).set 0 (ad 0, .inr (12, [.int 0, .int 0, .ref (ad 1), .ref (ad 11), .ref (ad 18), .ref (ad 19), .ref (ad 38), .int 1, .ref (ad 39), .int 0, .ref (ad 40), .int 0, .ref (ad 41), .int 0, .ref (ad 42), .ref (ad 53), .ref (ad 54), .ref (ad 55), .ref (ad 61), .ref (ad 70)]))) : va_W).set 18 (ad 18, .inr (6, [.ref (ad 11), .int (-1), .int 0, .int 0, .int 0, .int 0]))) : va_W).set 18 (ad 18, .inr (6, [.ref (ad 11), .int (-1), .int 0, .int 0, .int 0, .int 0]))) : va_W).set 18 (ad 18, .inr (6, [.ref (ad 11), .int (-1), .int 0, .int 1, .int 0, .int 0]))) : va_W).set 18 (ad 18, .inr (6, [.ref (ad 11), .int (-1), .int 0, .int 1, .int 1, .int 0])))) s.heap.size) = A at hD hZ hT ⊢
  have hA : ∀ q : Nat, s.heap.size ≤ q → A q := fun q h => by rw [← hAe]; exact Or.inr h
  have hS : va_S A s.heap s.heap [] := va_S.rf
  have hP : va_P (dC, dI) vwCl ((((((((((((((xW ad ca ++ [(w3, .inr (0, [.int 0, .int 0, .ref ((w4.1 1)), .long w5.1, .int w5.2.1, .int 0, .int 0, .int 0, .int 0, .int 0, .int (-1), .int 0, .int (-1), .int (-1), .int (-1), .int 0, .long 0, .int 0])), ((w4.1 1), .inl ((w4.2 1), (jN w0 w1 w2), .inl w5.2.2))]) : va_W).set 38 (ad 38, .inl ((ca 38), 60, .inr (.inr (.inr (.inr (va_up (fun _ => none) 0 (some (w3))))))))) : va_W).set 0 (ad 0, .inr (12, [.int 0, .int 0, .ref (ad 1), .ref (ad 11), .ref (ad 18), .ref (ad 19), .ref (ad 38), .int 1, .ref (ad 39), .int 0, .ref (ad 40), .int 0, .ref (ad 41), .int 0, .ref (ad 42), .ref (ad 53), .ref (ad 54), .ref (ad 55), .ref (ad 61), .ref (ad 70)]))) : va_W).set 18 (ad 18, .inr (6, [.ref (ad 11), .int (-1), .int 0, .int 0, .int 0, .int 0]))) : va_W).set 18 (ad 18, .inr (6, [.ref (ad 11), .int (-1), .int 0, .int 0, .int 0, .int 0]))) : va_W).set 18 (ad 18, .inr (6, [.ref (ad 11), .int (-1), .int 0, .int 1, .int 0, .int 0]))) : va_W).set 18 (ad 18, .inr (6, [.ref (ad 11), .int (-1), .int 0, .int 1, .int 1, .int 0])))) s.heap := hP
  have hl := lv_entry ([.ref (ad 11), .int 0, .int (-1), .int 0]) (n := 6) (Nat.le_of_ble_eq_true rfl)
  rw [lg_entry_eq]
  generalize (lg_sl ([.ref (ad 11), .int 0, .int (-1), .int 0]) ++ List.replicate (6 - (lg_sl ([.ref (ad 11), .int 0, .int (-1), .int 0])).length) Slot.unset).toArray = ls at hl ⊢
  have hl : lv_has ls 6 [(0, .ref (ad 11)), (1, .int 0), (2, .int (-1)), (3, .int 0)] := hl
  refine lv_iload_n hx hb dX8_valueOf_0 rfl (lv_at hl 1 rfl) ?_
  refine lv_if_lt (tgt := 12) hx hb dX8_valueOf_1 (by decide) (fun z => absurd z (by decide)) (fun _ => ?_)
  refine lv_iload_n hx hb dX8_valueOf_4 rfl (lv_at hl 1 rfl) ?_
  refine va_gets hx hb hZ hS hown (hts (.fieldLink RX8 58 "BookOfAll$Rules" "WITHOUT" "[I") (jm m_246)) (fun _ h9 => h9) dX8_valueOf_5 ?_
  refine va_tlen (v := 14) hx hb hT hS (by decide) dX8_valueOf_8 ?_
  refine lv_icmp_lt (tgt := 14) hx hb dX8_valueOf_9 (by decide) (fun _ => ?_) (fun z => absurd (by decide) z)
  refine lv_aload_n hx hb dX8_valueOf_14 rfl (lv_at hl 0 rfl) ?_
  refine lv_iload_n hx hb dX8_valueOf_15 rfl (lv_at hl 1 rfl) ?_
  refine lv_iload_n hx hb dX8_valueOf_16 rfl (lv_at hl 2 rfl) ?_
  refine lv_iload_n hx hb dX8_valueOf_17 rfl (lv_at hl 3 rfl) ?_
  refine jc_i (va_runV (As := [.int 0, .int (-1), .int 0]) (rest := []) ⟨hx, hb, hml, hown, hts⟩ (kX8_inForce_18 l dC dI _ ad ca w0 w1 w2 w3 w4 w5 gl74 gh74) (cwV 3 hts (jgoodV m_247 m_227 m_228 m_157 m_229) rfl rfl rfl (by decide +kernel) ⟨Nat.le_of_ble_eq_true rfl, Nat.le_of_ble_eq_true rfl⟩) ⟨jw_blind, va_recv hK hP (ci := 8) (q0 := 11) rfl rfl, fun U hU hW => ⟨rfl, jw_of hU hW hP hK hD⟩⟩ rfl rfl hl.1 rfl (lv_room (Nat.le_of_ble_eq_true rfl)) dX8_valueOf_18 ⟨Nat.le_of_ble_eq_true rfl, Nat.le_of_ble_eq_true rfl⟩) hP hS hA (fun r_1 H locs hw_1 hP hS => ?_)
  have hw_1 : r_1 = (-1) := hw_1
  subst hw_1
  refine lv_istore (lv' := [(4, .int (-1)), (0, .ref (ad 11)), (1, .int 0), (2, .int (-1)), (3, .int 0)]) hx hb dX8_valueOf_21 hl (by decide) rfl (fun ls hl => ?_)
  refine lv_iload hx hb dX8_valueOf_23 (lv_at hl 0 rfl) ?_
  refine lv_if_lt (tgt := 45) hx hb dX8_valueOf_25 (by decide) (fun _ => ?_) (fun z => absurd (by decide) z)
  refine lv_null hx hb dX8_valueOf_45 ?_
  refine lv_astoreN (lv' := [(5, .null), (4, .int (-1)), (0, .ref (ad 11)), (1, .int 0), (2, .int (-1)), (3, .int 0)]) hx hb dX8_valueOf_46 hl (by decide) rfl (fun ls hl => ?_)
  refine lv_aloadN hx hb dX8_valueOf_48 (lv_at hl 0 rfl) ?_
  refine lv_ifnonnullN hx hb dX8_valueOf_50 ?_
  refine va_gets hx hb hZ hS hown (hts (.fieldLink RX8 58 "BookOfAll$Rules" "WITHOUT" "[I") (jm m_246)) (fun _ h9 => h9) dX8_valueOf_53 ?_
  refine lv_iload_n hx hb dX8_valueOf_56 rfl (lv_at hl 3 rfl) ?_
  refine va_ti (v := .int 1) hx hb hT hS (vp_in_nI (n := 0) (by decide) (by decide)) rfl dX8_valueOf_57 ?_
  refine lv_goto (tgt := 68) hx hb dX8_valueOf_58 (by decide) ?_
  exact W.iret (v := 1) hx hb hr (fun t ht hW => ⟨⟨1, (), rfl, rfl, by rw [ht]; exact hP, va_K.moved hW.alike hK, hD⟩, hS.F ht⟩) hS.2.2 dX8_valueOf_68
set_option maxHeartbeats 500000 in
set_option maxRecDepth 100000 in
theorem kX6_take_7 (l : Launch) (dC : Nat → ClassId) (dI : Nat → Nat → Nat) (sz : Nat) (ad : Nat → Nat) (ca : Nat → ClassId) (w0 : Int32) (w1 : Int32) (w2 : Int32) (w3 : Nat) (w4 : (Nat → Nat) × (Nat → ClassId)) (w5 : Int64 × Int32 × (Nat → Int32)) (gl74 : 1 ≤ nI (jN w0 w1 w2)) (gh74 : nI (jN w0 w1 w2) ≤ 12) (tW : Nat) : Met l yX6_take (jk yX6_take cX6_take 3 none) ({ frames := 2, cells := 0, slots := 0, locals := 50 }) (va_Pc [.ref (ad 18), .int (-1), .int 0] (jw_PZ (dC, dI) ((((((xW ad ca ++ [(w3, .inr (0, [.int 0, .int 0, .ref ((w4.1 1)), .long w5.1, .int w5.2.1, .int 0, .int 0, .int 0, .int 0, .int 0, .int (-1), .int 0, .int (-1), .int (-1), .int (-1), .int 0, .long 0, .int 0])), ((w4.1 1), .inl ((w4.2 1), (jN w0 w1 w2), .inl w5.2.2))]) : va_W).set 38 (ad 38, .inl ((ca 38), 60, .inr (.inr (.inr (.inr (va_up (fun _ => none) 0 (some (w3))))))))) : va_W).set 0 (ad 0, .inr (12, [.int 0, .int 0, .ref (ad 1), .ref (ad 11), .ref (ad 18), .ref (ad 19), .ref (ad 38), .int 1, .ref (ad 39), .int 0, .ref (ad 40), .int 0, .ref (ad 41), .int 0, .ref (ad 42), .ref (ad 53), .ref (ad 54), .ref (ad 55), .ref (ad 61), .ref (ad 70)])))) ((xT ca ++ [((w4.2 1), .byte)])) sz tW)) (va_Qv (fun (_ : Unit) => True) (fun _ t => va_P (dC, dI) vwCl ((((((((((((((((xW ad ca ++ [(w3, .inr (0, [.int 0, .int 0, .ref ((w4.1 1)), .long w5.1, .int w5.2.1, .int 0, .int 0, .int 0, .int 0, .int 0, .int (-1), .int 0, .int (-1), .int (-1), .int (-1), .int 0, .long 0, .int 0])), ((w4.1 1), .inl ((w4.2 1), (jN w0 w1 w2), .inl w5.2.2))]) : va_W).set 38 (ad 38, .inl ((ca 38), 60, .inr (.inr (.inr (.inr (va_up (fun _ => none) 0 (some (w3))))))))) : va_W).set 0 (ad 0, .inr (12, [.int 0, .int 0, .ref (ad 1), .ref (ad 11), .ref (ad 18), .ref (ad 19), .ref (ad 38), .int 1, .ref (ad 39), .int 0, .ref (ad 40), .int 0, .ref (ad 41), .int 0, .ref (ad 42), .ref (ad 53), .ref (ad 54), .ref (ad 55), .ref (ad 61), .ref (ad 70)]))) : va_W).set 18 (ad 18, .inr (6, [.ref (ad 11), .int (-1), .int 0, .int 0, .int 0, .int 0]))) : va_W).set 18 (ad 18, .inr (6, [.ref (ad 11), .int (-1), .int 0, .int 0, .int 0, .int 0]))) : va_W).set 18 (ad 18, .inr (6, [.ref (ad 11), .int (-1), .int 0, .int 1, .int 0, .int 0]))) : va_W).set 18 (ad 18, .inr (6, [.ref (ad 11), .int (-1), .int 0, .int 1, .int 1, .int 0]))) : va_W).set 18 (ad 18, .inr (6, [.ref (ad 11), .int (-1), .int 0, .int 1, .int 1, .int 1])))) t.heap ∧ va_K (dC, dI) vwCl ((xT ca ++ [((w4.2 1), .byte)])) t ∧ va_D (va_A ((((((xW ad ca ++ [(w3, .inr (0, [.int 0, .int 0, .ref ((w4.1 1)), .long w5.1, .int w5.2.1, .int 0, .int 0, .int 0, .int 0, .int 0, .int (-1), .int 0, .int (-1), .int (-1), .int (-1), .int 0, .long 0, .int 0])), ((w4.1 1), .inl ((w4.2 1), (jN w0 w1 w2), .inl w5.2.2))]) : va_W).set 38 (ad 38, .inl ((ca 38), 60, .inr (.inr (.inr (.inr (va_up (fun _ => none) 0 (some (w3))))))))) : va_W).set 0 (ad 0, .inr (12, [.int 0, .int 0, .ref (ad 1), .ref (ad 11), .ref (ad 18), .ref (ad 19), .ref (ad 38), .int 1, .ref (ad 39), .int 0, .ref (ad 40), .int 0, .ref (ad 41), .int 0, .ref (ad 42), .ref (ad 53), .ref (ad 54), .ref (ad 55), .ref (ad 61), .ref (ad 70)])))) sz) ((((((((((((((((xW ad ca ++ [(w3, .inr (0, [.int 0, .int 0, .ref ((w4.1 1)), .long w5.1, .int w5.2.1, .int 0, .int 0, .int 0, .int 0, .int 0, .int (-1), .int 0, .int (-1), .int (-1), .int (-1), .int 0, .long 0, .int 0])), ((w4.1 1), .inl ((w4.2 1), (jN w0 w1 w2), .inl w5.2.2))]) : va_W).set 38 (ad 38, .inl ((ca 38), 60, .inr (.inr (.inr (.inr (va_up (fun _ => none) 0 (some (w3))))))))) : va_W).set 0 (ad 0, .inr (12, [.int 0, .int 0, .ref (ad 1), .ref (ad 11), .ref (ad 18), .ref (ad 19), .ref (ad 38), .int 1, .ref (ad 39), .int 0, .ref (ad 40), .int 0, .ref (ad 41), .int 0, .ref (ad 42), .ref (ad 53), .ref (ad 54), .ref (ad 55), .ref (ad 61), .ref (ad 70)]))) : va_W).set 18 (ad 18, .inr (6, [.ref (ad 11), .int (-1), .int 0, .int 0, .int 0, .int 0]))) : va_W).set 18 (ad 18, .inr (6, [.ref (ad 11), .int (-1), .int 0, .int 0, .int 0, .int 0]))) : va_W).set 18 (ad 18, .inr (6, [.ref (ad 11), .int (-1), .int 0, .int 1, .int 0, .int 0]))) : va_W).set 18 (ad 18, .inr (6, [.ref (ad 11), .int (-1), .int 0, .int 1, .int 1, .int 0]))) : va_W).set 18 (ad 18, .inr (6, [.ref (ad 11), .int (-1), .int 0, .int 1, .int 1, .int 1]))))) (va_A ((((((xW ad ca ++ [(w3, .inr (0, [.int 0, .int 0, .ref ((w4.1 1)), .long w5.1, .int w5.2.1, .int 0, .int 0, .int 0, .int 0, .int 0, .int (-1), .int 0, .int (-1), .int (-1), .int (-1), .int 0, .long 0, .int 0])), ((w4.1 1), .inl ((w4.2 1), (jN w0 w1 w2), .inl w5.2.2))]) : va_W).set 38 (ad 38, .inl ((ca 38), 60, .inr (.inr (.inr (.inr (va_up (fun _ => none) 0 (some (w3))))))))) : va_W).set 0 (ad 0, .inr (12, [.int 0, .int 0, .ref (ad 1), .ref (ad 11), .ref (ad 18), .ref (ad 19), .ref (ad 38), .int 1, .ref (ad 39), .int 0, .ref (ad 40), .int 0, .ref (ad 41), .int 0, .ref (ad 42), .ref (ad 53), .ref (ad 54), .ref (ad 55), .ref (ad 61), .ref (ad 70)])))) sz)) 0 0 (va_A ((((((xW ad ca ++ [(w3, .inr (0, [.int 0, .int 0, .ref ((w4.1 1)), .long w5.1, .int w5.2.1, .int 0, .int 0, .int 0, .int 0, .int 0, .int (-1), .int 0, .int (-1), .int (-1), .int (-1), .int 0, .long 0, .int 0])), ((w4.1 1), .inl ((w4.2 1), (jN w0 w1 w2), .inl w5.2.2))]) : va_W).set 38 (ad 38, .inl ((ca 38), 60, .inr (.inr (.inr (.inr (va_up (fun _ => none) 0 (some (w3))))))))) : va_W).set 0 (ad 0, .inr (12, [.int 0, .int 0, .ref (ad 1), .ref (ad 11), .ref (ad 18), .ref (ad 19), .ref (ad 38), .int 1, .ref (ad 39), .int 0, .ref (ad 40), .int 0, .ref (ad 41), .int 0, .ref (ad 42), .ref (ad 53), .ref (ad 54), .ref (ad 55), .ref (ad 61), .ref (ad 70)])))) sz) := by
  refine Met.ofW (cc := cX6_take) (maxL := 3) (ret := none) (by decide) rfl ?_
  intro p e s m args below meth c s₁ B hml hv
  obtain ⟨rfl, ⟨hsz, hP, hK, hD0⟩, hZ, hT⟩ := hv
  have hx := B.exec
  have hb := B.bytes
  have hr := B.returns
  have hts := atoms_spec (ws := (jk yX6_take cX6_take 3 none)) B.pre
  have hown : s.vm.findClass RX6 = some m.cls := findClass_of_methodNamed B.named
  have hlocks := B.notSynchronized
  subst hsz
  have hD := hD0.self (sz := s.heap.size)
  generalize hAe : (va_A ((((((xW ad ca ++ [(w3, .inr (0, [.int 0, .int 0, .ref ((w4.1 1)), .long w5.1, .int w5.2.1, .int 0, .int 0, .int 0, .int 0, .int 0, .int (-1), .int 0, .int (-1), .int (-1), .int (-1), .int 0, .long 0, .int 0])), ((w4.1 1), .inl ((w4.2 1), (jN w0 w1 w2), .inl w5.2.2))]) : va_W).set 38 (ad 38, .inl ((ca 38), 60, .inr (.inr (.inr (.inr (va_up (fun _ => none) 0 (some (w3))))))))) : va_W).set 0 (ad 0, .inr (12, [.int 0, .int 0, .ref (ad 1), .ref (ad 11), .ref (ad 18), .ref (ad 19), .ref (ad 38), .int 1, .ref (ad 39), .int 0, .ref (ad 40), .int 0, .ref (ad 41), .int 0, .ref (ad 42), .ref (ad 53), .ref (ad 54), .ref (ad 55), .ref (ad 61), .ref (ad 70)])))) s.heap.size) = A at hD hZ hT ⊢
  have hA : ∀ q : Nat, s.heap.size ≤ q → A q := fun q h => by rw [← hAe]; exact Or.inr h
  have hS : va_S A s.heap s.heap [] := va_S.rf
  have hP : va_P (dC, dI) vwCl ((((((xW ad ca ++ [(w3, .inr (0, [.int 0, .int 0, .ref ((w4.1 1)), .long w5.1, .int w5.2.1, .int 0, .int 0, .int 0, .int 0, .int 0, .int (-1), .int 0, .int (-1), .int (-1), .int (-1), .int 0, .long 0, .int 0])), ((w4.1 1), .inl ((w4.2 1), (jN w0 w1 w2), .inl w5.2.2))]) : va_W).set 38 (ad 38, .inl ((ca 38), 60, .inr (.inr (.inr (.inr (va_up (fun _ => none) 0 (some (w3))))))))) : va_W).set 0 (ad 0, .inr (12, [.int 0, .int 0, .ref (ad 1), .ref (ad 11), .ref (ad 18), .ref (ad 19), .ref (ad 38), .int 1, .ref (ad 39), .int 0, .ref (ad 40), .int 0, .ref (ad 41), .int 0, .ref (ad 42), .ref (ad 53), .ref (ad 54), .ref (ad 55), .ref (ad 61), .ref (ad 70)])))) s.heap := hP
  have hl := lv_entry ([.ref (ad 18), .int (-1), .int 0]) (n := 3) (Nat.le_of_ble_eq_true rfl)
  rw [lg_entry_eq]
  generalize (lg_sl ([.ref (ad 18), .int (-1), .int 0]) ++ List.replicate (3 - (lg_sl ([.ref (ad 18), .int (-1), .int 0])).length) Slot.unset).toArray = ls at hl ⊢
  have hl : lv_has ls 3 [(0, .ref (ad 18)), (1, .int (-1)), (2, .int 0)] := hl
  refine lv_aload_n hx hb dX6_take_0 rfl (lv_at hl 0 rfl) ?_
  refine lv_iload_n hx hb dX6_take_1 rfl (lv_at hl 1 rfl) ?_
  refine va_put (D := (dC, dI)) (ci := 6) (v := .int (-1)) (ty := .int) (C := RX6) (T := TX6) (N := 6) hx hb hts (jh hin_RX6) tyX6 tyX6_ok nmX6 hown hK hP hD hS 18 rfl rfl 1 (by decide) (hts (.fieldLink RX6 13 "BookOfAll$Order" "volume" "I") (jm m_242)) (fun _ h9 => h9) rfl (by decide +kernel) rfl rfl (Nat.le_of_ble_eq_true rfl) dX6_take_2 (fun H locs hP hD hS => ?_)
  refine lv_aload_n hx hb dX6_take_5 rfl (lv_at hl 0 rfl) ?_
  refine lv_iload_n hx hb dX6_take_6 rfl (lv_at hl 2 rfl) ?_
  refine va_put (D := (dC, dI)) (ci := 6) (v := .int 0) (ty := .int) (C := RX6) (T := TX6) (N := 6) hx hb hts (jh hin_RX6) tyX6 tyX6_ok nmX6 hown hK hP hD hS 18 rfl rfl 2 (by decide) (hts (.fieldLink RX6 17 "BookOfAll$Order" "day" "I") (jm m_243)) (fun _ h9 => h9) rfl (by decide +kernel) rfl rfl (Nat.le_of_ble_eq_true rfl) dX6_take_7 (fun H locs hP hD hS => ?_)
  refine lv_aload_n hx hb dX6_take_10 rfl (lv_at hl 0 rfl) ?_
  refine lv_iconst (v := 1) hx hb dX6_take_11 (by decide) ?_
  refine va_put (D := (dC, dI)) (ci := 6) (v := .int 1) (ty := .boolean) (C := RX6) (T := TX6) (N := 6) hx hb hts (jh hin_RX6) tyX6 tyX6_ok nmX6 hown hK hP hD hS 18 rfl rfl 3 (by decide) (hts (.fieldLink RX6 20 "BookOfAll$Order" "skips" "Z") (jm m_244)) (fun _ h9 => h9) rfl (by decide +kernel) rfl rfl (Nat.le_of_ble_eq_true rfl) dX6_take_12 (fun H locs hP hD hS => ?_)
  refine lv_aload_n hx hb dX6_take_15 rfl (lv_at hl 0 rfl) ?_
  refine lv_aload_n hx hb dX6_take_16 rfl (lv_at hl 0 rfl) ?_
  refine va_get (D := (dC, dI)) (ci := 6) (v := .ref (ad 11)) (C := RX6) (T := TX6) (N := 6) hx hb hts (jh hin_RX6) hown hK hP 18 rfl rfl 0 (by decide) (hts (.fieldLink RX6 7 "BookOfAll$Order" "rules" "LBookOfAll$Rules;") (jm m_245)) (fun _ h9 => h9) rfl dX6_take_17 ?_
  refine lv_iconst (v := 1) hx hb dX6_take_20 (by decide) ?_
  refine lv_iload_n hx hb dX6_take_21 rfl (lv_at hl 1 rfl) ?_
  refine lv_iload_n hx hb dX6_take_22 rfl (lv_at hl 2 rfl) ?_
  refine jcw_i (va_runV (As := [.int 1, .int (-1), .int 0]) (rest := [.ref (ad 18)]) ⟨hx, hb, hml, hown, hts⟩ (kX8_valueOf_13 l dC dI _ ad ca w0 w1 w2 w3 w4 w5 gl74 gh74 tW) (cwV 3 hts (jgoodV m_248 m_249 m_250 m_157 m_251) rfl rfl rfl (by decide +kernel) ⟨Nat.le_of_ble_eq_true rfl, Nat.le_of_ble_eq_true rfl⟩) ⟨jw_blindZ, va_recv hK hP (ci := 8) (q0 := 11) rfl rfl, fun U hU hW => ⟨rfl, jw_of hU hW hP hK hD, jz_of hU hW hD hS hA hZ hT⟩⟩ rfl rfl hl.1 rfl (lv_room (Nat.le_of_ble_eq_true rfl)) dX6_take_23 ⟨Nat.le_of_ble_eq_true rfl, Nat.le_of_ble_eq_true rfl⟩) hD hS hA (fun r_1 H locs hw_1 hP hK hD hS => ?_)
  have hw_1 : r_1 = 1 := hw_1
  subst hw_1
  refine lv_if_eq (tgt := 33) hx hb dX6_take_26 (by decide) (fun z => absurd z (by decide)) (fun _ => ?_)
  refine lv_iconst (v := 1) hx hb dX6_take_29 (by decide) ?_
  refine lv_goto (tgt := 34) hx hb dX6_take_30 (by decide) ?_
  refine va_put (D := (dC, dI)) (ci := 6) (v := .int 1) (ty := .boolean) (C := RX6) (T := TX6) (N := 6) hx hb hts (jh hin_RX6) tyX6 tyX6_ok nmX6 hown hK hP hD hS 18 rfl rfl 4 (by decide) (hts (.fieldLink RX6 32 "BookOfAll$Order" "blanksCount" "Z") (jm m_252)) (fun _ h9 => h9) rfl (by decide +kernel) rfl rfl (Nat.le_of_ble_eq_true rfl) dX6_take_34 (fun H locs hP hD hS => ?_)
  refine lv_aload_n hx hb dX6_take_37 rfl (lv_at hl 0 rfl) ?_
  refine lv_aload_n hx hb dX6_take_38 rfl (lv_at hl 0 rfl) ?_
  refine va_get (D := (dC, dI)) (ci := 6) (v := .ref (ad 11)) (C := RX6) (T := TX6) (N := 6) hx hb hts (jh hin_RX6) hown hK hP 18 rfl rfl 0 (by decide) (hts (.fieldLink RX6 7 "BookOfAll$Order" "rules" "LBookOfAll$Rules;") (jm m_245)) (fun _ h9 => h9) rfl dX6_take_39 ?_
  refine lv_iconst (v := 0) hx hb dX6_take_42 (by decide) ?_
  refine lv_iload_n hx hb dX6_take_43 rfl (lv_at hl 1 rfl) ?_
  refine lv_iload_n hx hb dX6_take_44 rfl (lv_at hl 2 rfl) ?_
  refine jcw_i (va_runV (As := [.int 0, .int (-1), .int 0]) (rest := [.ref (ad 18)]) ⟨hx, hb, hml, hown, hts⟩ (kX8_valueOf_14 l dC dI _ ad ca w0 w1 w2 w3 w4 w5 gl74 gh74 tW) (cwV 3 hts (jgoodV m_248 m_249 m_250 m_157 m_251) rfl rfl rfl (by decide +kernel) ⟨Nat.le_of_ble_eq_true rfl, Nat.le_of_ble_eq_true rfl⟩) ⟨jw_blindZ, va_recv hK hP (ci := 8) (q0 := 11) rfl rfl, fun U hU hW => ⟨rfl, jw_of hU hW hP hK hD, jz_of hU hW hD hS hA hZ hT⟩⟩ rfl rfl hl.1 rfl (lv_room (Nat.le_of_ble_eq_true rfl)) dX6_take_45 ⟨Nat.le_of_ble_eq_true rfl, Nat.le_of_ble_eq_true rfl⟩) hD hS hA (fun r_2 H locs hw_2 hP hK hD hS => ?_)
  have hw_2 : r_2 = 1 := hw_2
  subst hw_2
  refine lv_if_eq (tgt := 55) hx hb dX6_take_48 (by decide) (fun z => absurd z (by decide)) (fun _ => ?_)
  refine lv_iconst (v := 1) hx hb dX6_take_51 (by decide) ?_
  refine lv_goto (tgt := 56) hx hb dX6_take_52 (by decide) ?_
  refine va_put (D := (dC, dI)) (ci := 6) (v := .int 1) (ty := .boolean) (C := RX6) (T := TX6) (N := 6) hx hb hts (jh hin_RX6) tyX6 tyX6_ok nmX6 hown hK hP hD hS 18 rfl rfl 5 (by decide) (hts (.fieldLink RX6 35 "BookOfAll$Order" "numbersFirst" "Z") (jm m_253)) (fun _ h9 => h9) rfl (by decide +kernel) rfl rfl (Nat.le_of_ble_eq_true rfl) dX6_take_56 (fun H locs hP hD hS => ?_)
  exact W.vret hx hb hr (fun t ht hW => ⟨⟨(), rfl, trivial, by rw [ht]; exact hP, va_K.moved hW.alike hK, hD⟩, hS.F ht⟩) hS.2.2 dX6_take_59
set_option maxHeartbeats 500000 in
set_option maxRecDepth 100000 in
theorem kX8_skips_2 (l : Launch) (dC : Nat → ClassId) (dI : Nat → Nat → Nat) (sz : Nat) (ad : Nat → Nat) (ca : Nat → ClassId) (w0 : Int32) (w1 : Int32) (w2 : Int32) (w3 : Nat) (w4 : (Nat → Nat) × (Nat → ClassId)) (w5 : Int64 × Int32 × (Nat → Int32)) (gl74 : 1 ≤ nI (jN w0 w1 w2)) (gh74 : nI (jN w0 w1 w2) ≤ 12) (p1 : Int64) : Met l yX8_skips (jk yX8_skips cX8_skips 7 (some .boolean)) ({ frames := 0, cells := 0, slots := 0, locals := 0 }) (va_Pc [.ref (ad 11), .long p1, .int (-1), .int 0] (jw_P (dC, dI) ((((((((((((((((xW ad ca ++ [(w3, .inr (0, [.int 0, .int 0, .ref ((w4.1 1)), .long w5.1, .int w5.2.1, .int 0, .int 0, .int 0, .int 0, .int 0, .int (-1), .int 0, .int (-1), .int (-1), .int (-1), .int 0, .long 0, .int 0])), ((w4.1 1), .inl ((w4.2 1), (jN w0 w1 w2), .inl w5.2.2))]) : va_W).set 38 (ad 38, .inl ((ca 38), 60, .inr (.inr (.inr (.inr (va_up (fun _ => none) 0 (some (w3))))))))) : va_W).set 0 (ad 0, .inr (12, [.int 0, .int 0, .ref (ad 1), .ref (ad 11), .ref (ad 18), .ref (ad 19), .ref (ad 38), .int 1, .ref (ad 39), .int 0, .ref (ad 40), .int 0, .ref (ad 41), .int 0, .ref (ad 42), .ref (ad 53), .ref (ad 54), .ref (ad 55), .ref (ad 61), .ref (ad 70)]))) : va_W).set 18 (ad 18, .inr (6, [.ref (ad 11), .int (-1), .int 0, .int 0, .int 0, .int 0]))) : va_W).set 18 (ad 18, .inr (6, [.ref (ad 11), .int (-1), .int 0, .int 0, .int 0, .int 0]))) : va_W).set 18 (ad 18, .inr (6, [.ref (ad 11), .int (-1), .int 0, .int 1, .int 0, .int 0]))) : va_W).set 18 (ad 18, .inr (6, [.ref (ad 11), .int (-1), .int 0, .int 1, .int 1, .int 0]))) : va_W).set 18 (ad 18, .inr (6, [.ref (ad 11), .int (-1), .int 0, .int 1, .int 1, .int 1])))) ((xT ca ++ [((w4.2 1), .byte)])) sz)) (va_Qi (fun (r : Int32) (_ : Unit) => (r = 0)) (fun _ _ => True) (va_A [] sz)) 0 0 (va_A [] sz) := by
  refine Met.ofW (cc := cX8_skips) (maxL := 7) (ret := (some .boolean)) (by decide) rfl ?_
  intro p e s m args below meth c s₁ B hml hv
  obtain ⟨rfl, hsz, hP, hK, hD0⟩ := hv
  have hx := B.exec
  have hb := B.bytes
  have hr := B.returns
  have hts := atoms_spec (ws := (jk yX8_skips cX8_skips 7 (some .boolean))) B.pre
  have hown : s.vm.findClass RX8 = some m.cls := findClass_of_methodNamed B.named
  have hlocks := B.notSynchronized
  subst hsz
  have hD := hD0
  generalize hAe : (va_A [] s.heap.size) = A
  have hA : ∀ q : Nat, s.heap.size ≤ q → A q := fun q h => by rw [← hAe]; exact Or.inr h
  have hS : va_S A s.heap s.heap [] := va_S.rf
  have hP : va_P (dC, dI) vwCl ((((((((((((((((xW ad ca ++ [(w3, .inr (0, [.int 0, .int 0, .ref ((w4.1 1)), .long w5.1, .int w5.2.1, .int 0, .int 0, .int 0, .int 0, .int 0, .int (-1), .int 0, .int (-1), .int (-1), .int (-1), .int 0, .long 0, .int 0])), ((w4.1 1), .inl ((w4.2 1), (jN w0 w1 w2), .inl w5.2.2))]) : va_W).set 38 (ad 38, .inl ((ca 38), 60, .inr (.inr (.inr (.inr (va_up (fun _ => none) 0 (some (w3))))))))) : va_W).set 0 (ad 0, .inr (12, [.int 0, .int 0, .ref (ad 1), .ref (ad 11), .ref (ad 18), .ref (ad 19), .ref (ad 38), .int 1, .ref (ad 39), .int 0, .ref (ad 40), .int 0, .ref (ad 41), .int 0, .ref (ad 42), .ref (ad 53), .ref (ad 54), .ref (ad 55), .ref (ad 61), .ref (ad 70)]))) : va_W).set 18 (ad 18, .inr (6, [.ref (ad 11), .int (-1), .int 0, .int 0, .int 0, .int 0]))) : va_W).set 18 (ad 18, .inr (6, [.ref (ad 11), .int (-1), .int 0, .int 0, .int 0, .int 0]))) : va_W).set 18 (ad 18, .inr (6, [.ref (ad 11), .int (-1), .int 0, .int 1, .int 0, .int 0]))) : va_W).set 18 (ad 18, .inr (6, [.ref (ad 11), .int (-1), .int 0, .int 1, .int 1, .int 0]))) : va_W).set 18 (ad 18, .inr (6, [.ref (ad 11), .int (-1), .int 0, .int 1, .int 1, .int 1])))) s.heap := hP
  have hl := lv_entry ([.ref (ad 11), .long p1, .int (-1), .int 0]) (n := 7) (Nat.le_of_ble_eq_true rfl)
  rw [lg_entry_eq]
  generalize (lg_sl ([.ref (ad 11), .long p1, .int (-1), .int 0]) ++ List.replicate (7 - (lg_sl ([.ref (ad 11), .long p1, .int (-1), .int 0])).length) Slot.unset).toArray = ls at hl ⊢
  have hl : lv_has ls 7 [(0, .ref (ad 11)), (1, .long p1), (3, .int (-1)), (4, .int 0)] := hl
  refine lv_iconst (v := 0) hx hb dX8_skips_0 (by decide) ?_
  refine lv_istore (lv' := [(5, .int 0), (0, .ref (ad 11)), (1, .long p1), (3, .int (-1)), (4, .int 0)]) hx hb dX8_skips_1 hl (by decide) rfl (fun ls hl => ?_)
  refine lv_iload hx hb dX8_skips_3 (lv_at hl 0 rfl) ?_
  refine lv_aload_n hx hb dX8_skips_5 rfl (lv_at hl 1 rfl) ?_
  refine va_get (D := (dC, dI)) (ci := 8) (v := .int 0) (C := RX8) (T := TX8) (N := 8) hx hb hts (jh hin_RX8) hown hK hP 11 rfl rfl 5 (by decide) (hts (.fieldLink RX8 37 "BookOfAll$Rules" "puts" "I") (jm m_225)) (fun _ h9 => h9) rfl dX8_skips_6 ?_
  refine lv_icmp_ge (tgt := 45) hx hb dX8_skips_9 (by decide) (fun _ => ?_) (fun z => absurd (by decide) z)
  refine lv_iconst (v := 0) hx hb dX8_skips_45 (by decide) ?_
  exact W.zret (v := 0) (ty := .boolean) hx hb hr rfl (fun t ht hW => ⟨⟨0, (), rfl, rfl, trivial⟩, hS.F ht⟩) hS.2.2 dX8_skips_46
set_option maxHeartbeats 500000 in
set_option maxRecDepth 100000 in
theorem kX6_prepare_2 (l : Launch) (dC : Nat → ClassId) (dI : Nat → Nat → Nat) (sz : Nat) (ad : Nat → Nat) (ca : Nat → ClassId) (w0 : Int32) (w1 : Int32) (w2 : Int32) (w3 : Nat) (w4 : (Nat → Nat) × (Nat → ClassId)) (w5 : Int64 × Int32 × (Nat → Int32)) (gl74 : 1 ≤ nI (jN w0 w1 w2)) (gh74 : nI (jN w0 w1 w2) ≤ 12) : Met l yX6_prepare (jk yX6_prepare cX6_prepare 3 none) ({ frames := 1, cells := 0, slots := 0, locals := 26 }) (va_Pc [.ref (ad 18), .ref w3] (jw_P (dC, dI) ((((((((((((((((xW ad ca ++ [(w3, .inr (0, [.int 0, .int 0, .ref ((w4.1 1)), .long w5.1, .int w5.2.1, .int 0, .int 0, .int 0, .int 0, .int 0, .int (-1), .int 0, .int (-1), .int (-1), .int (-1), .int 0, .long 0, .int 0])), ((w4.1 1), .inl ((w4.2 1), (jN w0 w1 w2), .inl w5.2.2))]) : va_W).set 38 (ad 38, .inl ((ca 38), 60, .inr (.inr (.inr (.inr (va_up (fun _ => none) 0 (some (w3))))))))) : va_W).set 0 (ad 0, .inr (12, [.int 0, .int 0, .ref (ad 1), .ref (ad 11), .ref (ad 18), .ref (ad 19), .ref (ad 38), .int 1, .ref (ad 39), .int 0, .ref (ad 40), .int 0, .ref (ad 41), .int 0, .ref (ad 42), .ref (ad 53), .ref (ad 54), .ref (ad 55), .ref (ad 61), .ref (ad 70)]))) : va_W).set 18 (ad 18, .inr (6, [.ref (ad 11), .int (-1), .int 0, .int 0, .int 0, .int 0]))) : va_W).set 18 (ad 18, .inr (6, [.ref (ad 11), .int (-1), .int 0, .int 0, .int 0, .int 0]))) : va_W).set 18 (ad 18, .inr (6, [.ref (ad 11), .int (-1), .int 0, .int 1, .int 0, .int 0]))) : va_W).set 18 (ad 18, .inr (6, [.ref (ad 11), .int (-1), .int 0, .int 1, .int 1, .int 0]))) : va_W).set 18 (ad 18, .inr (6, [.ref (ad 11), .int (-1), .int 0, .int 1, .int 1, .int 1])))) ((xT ca ++ [((w4.2 1), .byte)])) sz)) (va_Qv (fun (_ : Unit) => True) (fun _ t => va_P (dC, dI) vwCl ((((((((((((((((((xW ad ca ++ [(w3, .inr (0, [.int 0, .int 0, .ref ((w4.1 1)), .long w5.1, .int w5.2.1, .int 0, .int 0, .int 0, .int 0, .int 0, .int (-1), .int 0, .int (-1), .int (-1), .int (-1), .int 0, .long 0, .int 0])), ((w4.1 1), .inl ((w4.2 1), (jN w0 w1 w2), .inl w5.2.2))]) : va_W).set 38 (ad 38, .inl ((ca 38), 60, .inr (.inr (.inr (.inr (va_up (fun _ => none) 0 (some (w3))))))))) : va_W).set 0 (ad 0, .inr (12, [.int 0, .int 0, .ref (ad 1), .ref (ad 11), .ref (ad 18), .ref (ad 19), .ref (ad 38), .int 1, .ref (ad 39), .int 0, .ref (ad 40), .int 0, .ref (ad 41), .int 0, .ref (ad 42), .ref (ad 53), .ref (ad 54), .ref (ad 55), .ref (ad 61), .ref (ad 70)]))) : va_W).set 18 (ad 18, .inr (6, [.ref (ad 11), .int (-1), .int 0, .int 0, .int 0, .int 0]))) : va_W).set 18 (ad 18, .inr (6, [.ref (ad 11), .int (-1), .int 0, .int 0, .int 0, .int 0]))) : va_W).set 18 (ad 18, .inr (6, [.ref (ad 11), .int (-1), .int 0, .int 1, .int 0, .int 0]))) : va_W).set 18 (ad 18, .inr (6, [.ref (ad 11), .int (-1), .int 0, .int 1, .int 1, .int 0]))) : va_W).set 18 (ad 18, .inr (6, [.ref (ad 11), .int (-1), .int 0, .int 1, .int 1, .int 1]))) : va_W).set 73 (w3, .inr (0, [.int 0, .int 0, .ref ((w4.1 1)), .long w5.1, .int w5.2.1, .int 0, .int 0, .int 0, .int 0, .int 0, .int (-1), .int 0, .int (-1), .int (-1), .int (-1), .int 0, .long 0, .int 0])))) t.heap ∧ va_K (dC, dI) vwCl ((xT ca ++ [((w4.2 1), .byte)])) t ∧ va_D (va_A ((((((((((((((((xW ad ca ++ [(w3, .inr (0, [.int 0, .int 0, .ref ((w4.1 1)), .long w5.1, .int w5.2.1, .int 0, .int 0, .int 0, .int 0, .int 0, .int (-1), .int 0, .int (-1), .int (-1), .int (-1), .int 0, .long 0, .int 0])), ((w4.1 1), .inl ((w4.2 1), (jN w0 w1 w2), .inl w5.2.2))]) : va_W).set 38 (ad 38, .inl ((ca 38), 60, .inr (.inr (.inr (.inr (va_up (fun _ => none) 0 (some (w3))))))))) : va_W).set 0 (ad 0, .inr (12, [.int 0, .int 0, .ref (ad 1), .ref (ad 11), .ref (ad 18), .ref (ad 19), .ref (ad 38), .int 1, .ref (ad 39), .int 0, .ref (ad 40), .int 0, .ref (ad 41), .int 0, .ref (ad 42), .ref (ad 53), .ref (ad 54), .ref (ad 55), .ref (ad 61), .ref (ad 70)]))) : va_W).set 18 (ad 18, .inr (6, [.ref (ad 11), .int (-1), .int 0, .int 0, .int 0, .int 0]))) : va_W).set 18 (ad 18, .inr (6, [.ref (ad 11), .int (-1), .int 0, .int 0, .int 0, .int 0]))) : va_W).set 18 (ad 18, .inr (6, [.ref (ad 11), .int (-1), .int 0, .int 1, .int 0, .int 0]))) : va_W).set 18 (ad 18, .inr (6, [.ref (ad 11), .int (-1), .int 0, .int 1, .int 1, .int 0]))) : va_W).set 18 (ad 18, .inr (6, [.ref (ad 11), .int (-1), .int 0, .int 1, .int 1, .int 1])))) sz) ((((((((((((((((((xW ad ca ++ [(w3, .inr (0, [.int 0, .int 0, .ref ((w4.1 1)), .long w5.1, .int w5.2.1, .int 0, .int 0, .int 0, .int 0, .int 0, .int (-1), .int 0, .int (-1), .int (-1), .int (-1), .int 0, .long 0, .int 0])), ((w4.1 1), .inl ((w4.2 1), (jN w0 w1 w2), .inl w5.2.2))]) : va_W).set 38 (ad 38, .inl ((ca 38), 60, .inr (.inr (.inr (.inr (va_up (fun _ => none) 0 (some (w3))))))))) : va_W).set 0 (ad 0, .inr (12, [.int 0, .int 0, .ref (ad 1), .ref (ad 11), .ref (ad 18), .ref (ad 19), .ref (ad 38), .int 1, .ref (ad 39), .int 0, .ref (ad 40), .int 0, .ref (ad 41), .int 0, .ref (ad 42), .ref (ad 53), .ref (ad 54), .ref (ad 55), .ref (ad 61), .ref (ad 70)]))) : va_W).set 18 (ad 18, .inr (6, [.ref (ad 11), .int (-1), .int 0, .int 0, .int 0, .int 0]))) : va_W).set 18 (ad 18, .inr (6, [.ref (ad 11), .int (-1), .int 0, .int 0, .int 0, .int 0]))) : va_W).set 18 (ad 18, .inr (6, [.ref (ad 11), .int (-1), .int 0, .int 1, .int 0, .int 0]))) : va_W).set 18 (ad 18, .inr (6, [.ref (ad 11), .int (-1), .int 0, .int 1, .int 1, .int 0]))) : va_W).set 18 (ad 18, .inr (6, [.ref (ad 11), .int (-1), .int 0, .int 1, .int 1, .int 1]))) : va_W).set 73 (w3, .inr (0, [.int 0, .int 0, .ref ((w4.1 1)), .long w5.1, .int w5.2.1, .int 0, .int 0, .int 0, .int 0, .int 0, .int (-1), .int 0, .int (-1), .int (-1), .int (-1), .int 0, .long 0, .int 0]))))) (va_A ((((((((((((((((xW ad ca ++ [(w3, .inr (0, [.int 0, .int 0, .ref ((w4.1 1)), .long w5.1, .int w5.2.1, .int 0, .int 0, .int 0, .int 0, .int 0, .int (-1), .int 0, .int (-1), .int (-1), .int (-1), .int 0, .long 0, .int 0])), ((w4.1 1), .inl ((w4.2 1), (jN w0 w1 w2), .inl w5.2.2))]) : va_W).set 38 (ad 38, .inl ((ca 38), 60, .inr (.inr (.inr (.inr (va_up (fun _ => none) 0 (some (w3))))))))) : va_W).set 0 (ad 0, .inr (12, [.int 0, .int 0, .ref (ad 1), .ref (ad 11), .ref (ad 18), .ref (ad 19), .ref (ad 38), .int 1, .ref (ad 39), .int 0, .ref (ad 40), .int 0, .ref (ad 41), .int 0, .ref (ad 42), .ref (ad 53), .ref (ad 54), .ref (ad 55), .ref (ad 61), .ref (ad 70)]))) : va_W).set 18 (ad 18, .inr (6, [.ref (ad 11), .int (-1), .int 0, .int 0, .int 0, .int 0]))) : va_W).set 18 (ad 18, .inr (6, [.ref (ad 11), .int (-1), .int 0, .int 0, .int 0, .int 0]))) : va_W).set 18 (ad 18, .inr (6, [.ref (ad 11), .int (-1), .int 0, .int 1, .int 0, .int 0]))) : va_W).set 18 (ad 18, .inr (6, [.ref (ad 11), .int (-1), .int 0, .int 1, .int 1, .int 0]))) : va_W).set 18 (ad 18, .inr (6, [.ref (ad 11), .int (-1), .int 0, .int 1, .int 1, .int 1])))) sz)) 0 0 (va_A ((((((((((((((((xW ad ca ++ [(w3, .inr (0, [.int 0, .int 0, .ref ((w4.1 1)), .long w5.1, .int w5.2.1, .int 0, .int 0, .int 0, .int 0, .int 0, .int (-1), .int 0, .int (-1), .int (-1), .int (-1), .int 0, .long 0, .int 0])), ((w4.1 1), .inl ((w4.2 1), (jN w0 w1 w2), .inl w5.2.2))]) : va_W).set 38 (ad 38, .inl ((ca 38), 60, .inr (.inr (.inr (.inr (va_up (fun _ => none) 0 (some (w3))))))))) : va_W).set 0 (ad 0, .inr (12, [.int 0, .int 0, .ref (ad 1), .ref (ad 11), .ref (ad 18), .ref (ad 19), .ref (ad 38), .int 1, .ref (ad 39), .int 0, .ref (ad 40), .int 0, .ref (ad 41), .int 0, .ref (ad 42), .ref (ad 53), .ref (ad 54), .ref (ad 55), .ref (ad 61), .ref (ad 70)]))) : va_W).set 18 (ad 18, .inr (6, [.ref (ad 11), .int (-1), .int 0, .int 0, .int 0, .int 0]))) : va_W).set 18 (ad 18, .inr (6, [.ref (ad 11), .int (-1), .int 0, .int 0, .int 0, .int 0]))) : va_W).set 18 (ad 18, .inr (6, [.ref (ad 11), .int (-1), .int 0, .int 1, .int 0, .int 0]))) : va_W).set 18 (ad 18, .inr (6, [.ref (ad 11), .int (-1), .int 0, .int 1, .int 1, .int 0]))) : va_W).set 18 (ad 18, .inr (6, [.ref (ad 11), .int (-1), .int 0, .int 1, .int 1, .int 1])))) sz) := by
  refine Met.ofW (cc := cX6_prepare) (maxL := 3) (ret := none) (by decide) rfl ?_
  intro p e s m args below meth c s₁ B hml hv
  obtain ⟨rfl, hsz, hP, hK, hD0⟩ := hv
  have hx := B.exec
  have hb := B.bytes
  have hr := B.returns
  have hts := atoms_spec (ws := (jk yX6_prepare cX6_prepare 3 none)) B.pre
  have hown : s.vm.findClass RX6 = some m.cls := findClass_of_methodNamed B.named
  have hlocks := B.notSynchronized
  subst hsz
  have hD := hD0.self (sz := s.heap.size)
  generalize hAe : (va_A ((((((((((((((((xW ad ca ++ [(w3, .inr (0, [.int 0, .int 0, .ref ((w4.1 1)), .long w5.1, .int w5.2.1, .int 0, .int 0, .int 0, .int 0, .int 0, .int (-1), .int 0, .int (-1), .int (-1), .int (-1), .int 0, .long 0, .int 0])), ((w4.1 1), .inl ((w4.2 1), (jN w0 w1 w2), .inl w5.2.2))]) : va_W).set 38 (ad 38, .inl ((ca 38), 60, .inr (.inr (.inr (.inr (va_up (fun _ => none) 0 (some (w3))))))))) : va_W).set 0 (ad 0, .inr (12, [.int 0, .int 0, .ref (ad 1), .ref (ad 11), .ref (ad 18), .ref (ad 19), .ref (ad 38), .int 1, .ref (ad 39), .int 0, .ref (ad 40), .int 0, .ref (ad 41), .int 0, .ref (ad 42), .ref (ad 53), .ref (ad 54), .ref (ad 55), .ref (ad 61), .ref (ad 70)]))) : va_W).set 18 (ad 18, .inr (6, [.ref (ad 11), .int (-1), .int 0, .int 0, .int 0, .int 0]))) : va_W).set 18 (ad 18, .inr (6, [.ref (ad 11), .int (-1), .int 0, .int 0, .int 0, .int 0]))) : va_W).set 18 (ad 18, .inr (6, [.ref (ad 11), .int (-1), .int 0, .int 1, .int 0, .int 0]))) : va_W).set 18 (ad 18, .inr (6, [.ref (ad 11), .int (-1), .int 0, .int 1, .int 1, .int 0]))) : va_W).set 18 (ad 18, .inr (6, [.ref (ad 11), .int (-1), .int 0, .int 1, .int 1, .int 1])))) s.heap.size) = A at hD ⊢
  have hA : ∀ q : Nat, s.heap.size ≤ q → A q := fun q h => by rw [← hAe]; exact Or.inr h
  have hS : va_S A s.heap s.heap [] := va_S.rf
  have hP : va_P (dC, dI) vwCl ((((((((((((((((xW ad ca ++ [(w3, .inr (0, [.int 0, .int 0, .ref ((w4.1 1)), .long w5.1, .int w5.2.1, .int 0, .int 0, .int 0, .int 0, .int 0, .int (-1), .int 0, .int (-1), .int (-1), .int (-1), .int 0, .long 0, .int 0])), ((w4.1 1), .inl ((w4.2 1), (jN w0 w1 w2), .inl w5.2.2))]) : va_W).set 38 (ad 38, .inl ((ca 38), 60, .inr (.inr (.inr (.inr (va_up (fun _ => none) 0 (some (w3))))))))) : va_W).set 0 (ad 0, .inr (12, [.int 0, .int 0, .ref (ad 1), .ref (ad 11), .ref (ad 18), .ref (ad 19), .ref (ad 38), .int 1, .ref (ad 39), .int 0, .ref (ad 40), .int 0, .ref (ad 41), .int 0, .ref (ad 42), .ref (ad 53), .ref (ad 54), .ref (ad 55), .ref (ad 61), .ref (ad 70)]))) : va_W).set 18 (ad 18, .inr (6, [.ref (ad 11), .int (-1), .int 0, .int 0, .int 0, .int 0]))) : va_W).set 18 (ad 18, .inr (6, [.ref (ad 11), .int (-1), .int 0, .int 0, .int 0, .int 0]))) : va_W).set 18 (ad 18, .inr (6, [.ref (ad 11), .int (-1), .int 0, .int 1, .int 0, .int 0]))) : va_W).set 18 (ad 18, .inr (6, [.ref (ad 11), .int (-1), .int 0, .int 1, .int 1, .int 0]))) : va_W).set 18 (ad 18, .inr (6, [.ref (ad 11), .int (-1), .int 0, .int 1, .int 1, .int 1])))) s.heap := hP
  have hl := lv_entry ([.ref (ad 18), .ref w3]) (n := 3) (Nat.le_of_ble_eq_true rfl)
  rw [lg_entry_eq]
  generalize (lg_sl ([.ref (ad 18), .ref w3]) ++ List.replicate (3 - (lg_sl ([.ref (ad 18), .ref w3])).length) Slot.unset).toArray = ls at hl ⊢
  have hl : lv_has ls 3 [(0, .ref (ad 18)), (1, .ref w3)] := hl
  refine lv_aload_n hx hb dX6_prepare_0 rfl (lv_at hl 0 rfl) ?_
  refine va_get (D := (dC, dI)) (ci := 6) (v := .int 1) (C := RX6) (T := TX6) (N := 6) hx hb hts (jh hin_RX6) hown hK hP 18 rfl rfl 3 (by decide) (hts (.fieldLink RX6 20 "BookOfAll$Order" "skips" "Z") (jm m_244)) (fun _ h9 => h9) rfl dX6_prepare_1 ?_
  refine lv_if_eq (tgt := 40) hx hb dX6_prepare_4 (by decide) (fun z => absurd z (by decide)) (fun _ => ?_)
  refine lv_aload_n hx hb dX6_prepare_7 rfl (lv_at hl 1 rfl) ?_
  refine va_get (D := (dC, dI)) (ci := 0) (v := .int w5.2.1) (C := RX0) (T := TX0) (N := 18) hx hb hts (jh hin_RX0) hown hK hP 73 rfl rfl 4 (by decide) (hts (.fieldLink RX6 38 "BookOfAll$Entry" "secondWord" "I") (jm m_285)) (fun _ h9 => h9) rfl dX6_prepare_8 ?_
  refine lv_if_le (tgt := 40) hx hb dX6_prepare_11 (by decide) (fun c_1 => ?_) (fun c_1 => ?_)
  · refine lv_iconst (v := 0) hx hb dX6_prepare_40 (by decide) ?_
    refine lv_istore_n (lv' := [(2, .int 0), (0, .ref (ad 18)), (1, .ref w3)]) hx hb dX6_prepare_41 rfl hl (by decide) rfl (fun ls hl => ?_)
    refine lv_aload_n hx hb dX6_prepare_42 rfl (lv_at hl 2 rfl) ?_
    refine lv_iload_n hx hb dX6_prepare_43 rfl (lv_at hl 0 rfl) ?_
    refine lv_if_eq (tgt := 54) hx hb dX6_prepare_44 (by decide) (fun _ => ?_) (fun z => absurd (by decide) z)
    refine lv_iconst (v := 0) hx hb dX6_prepare_54 (by decide) ?_
    refine va_put (D := (dC, dI)) (ci := 0) (v := .int 0) (ty := .int) (C := RX0) (T := TX0) (N := 18) hx hb hts (jh hin_RX0) tyX0 tyX0_ok nmX0 hown hK hP hD hS 73 rfl rfl 5 (by decide) (hts (.fieldLink RX6 50 "BookOfAll$Entry" "keyStart" "I") (jm m_286)) (fun _ h9 => h9) rfl (by decide +kernel) rfl rfl (Nat.le_of_ble_eq_true rfl) dX6_prepare_55 (fun H locs hP hD hS => ?_)
    exact W.vret hx hb hr (fun t ht hW => ⟨⟨(), rfl, trivial, by rw [ht]; exact hP, va_K.moved hW.alike hK, hD⟩, hS.F ht⟩) hS.2.2 dX6_prepare_58
  · refine lv_aload_n hx hb dX6_prepare_14 rfl (lv_at hl 0 rfl) ?_
    refine va_get (D := (dC, dI)) (ci := 6) (v := .ref (ad 11)) (C := RX6) (T := TX6) (N := 6) hx hb hts (jh hin_RX6) hown hK hP 18 rfl rfl 0 (by decide) (hts (.fieldLink RX6 7 "BookOfAll$Order" "rules" "LBookOfAll$Rules;") (jm m_245)) (fun _ h9 => h9) rfl dX6_prepare_15 ?_
    refine lv_aload_n hx hb dX6_prepare_18 rfl (lv_at hl 1 rfl) ?_
    refine va_get (D := (dC, dI)) (ci := 0) (v := .long w5.1) (C := RX0) (T := TX0) (N := 18) hx hb hts (jh hin_RX0) hown hK hP 73 rfl rfl 3 (by decide) (hts (.fieldLink RX6 43 "BookOfAll$Entry" "firstWord" "J") (jm m_287)) (fun _ h9 => h9) rfl dX6_prepare_19 ?_
    refine lv_aload_n hx hb dX6_prepare_22 rfl (lv_at hl 0 rfl) ?_
    refine va_get (D := (dC, dI)) (ci := 6) (v := .int (-1)) (C := RX6) (T := TX6) (N := 6) hx hb hts (jh hin_RX6) hown hK hP 18 rfl rfl 1 (by decide) (hts (.fieldLink RX6 13 "BookOfAll$Order" "volume" "I") (jm m_242)) (fun _ h9 => h9) rfl dX6_prepare_23 ?_
    refine lv_aload_n hx hb dX6_prepare_26 rfl (lv_at hl 0 rfl) ?_
    refine va_get (D := (dC, dI)) (ci := 6) (v := .int 0) (C := RX6) (T := TX6) (N := 6) hx hb hts (jh hin_RX6) hown hK hP 18 rfl rfl 2 (by decide) (hts (.fieldLink RX6 17 "BookOfAll$Order" "day" "I") (jm m_243)) (fun _ h9 => h9) rfl dX6_prepare_27 ?_
    refine jc_i (va_runV (As := [.long w5.1, .int (-1), .int 0]) (rest := []) ⟨hx, hb, hml, hown, hts⟩ (kX8_skips_2 l dC dI _ ad ca w0 w1 w2 w3 w4 w5 gl74 gh74 w5.1) (cwV 3 hts (jgoodV m_288 m_289 m_290 m_157 m_291) rfl rfl rfl (by decide +kernel) ⟨Nat.le_of_ble_eq_true rfl, Nat.le_of_ble_eq_true rfl⟩) ⟨jw_blind, va_recv hK hP (ci := 8) (q0 := 11) rfl rfl, fun U hU hW => ⟨rfl, jw_of hU hW hP hK hD⟩⟩ rfl rfl hl.1 rfl (lv_room (Nat.le_of_ble_eq_true rfl)) dX6_prepare_30 ⟨Nat.le_of_ble_eq_true rfl, Nat.le_of_ble_eq_true rfl⟩) hP hS hA (fun r_2 H locs hw_2 hP hS => ?_)
    have hw_2 : r_2 = 0 := hw_2
    subst hw_2
    refine lv_if_eq (tgt := 40) hx hb dX6_prepare_33 (by decide) (fun _ => ?_) (fun z => absurd (by decide) z)
    refine lv_iconst (v := 0) hx hb dX6_prepare_40 (by decide) ?_
    refine lv_istore_n (lv' := [(2, .int 0), (0, .ref (ad 18)), (1, .ref w3)]) hx hb dX6_prepare_41 rfl hl (by decide) rfl (fun ls hl => ?_)
    refine lv_aload_n hx hb dX6_prepare_42 rfl (lv_at hl 2 rfl) ?_
    refine lv_iload_n hx hb dX6_prepare_43 rfl (lv_at hl 0 rfl) ?_
    refine lv_if_eq (tgt := 54) hx hb dX6_prepare_44 (by decide) (fun _ => ?_) (fun z => absurd (by decide) z)
    refine lv_iconst (v := 0) hx hb dX6_prepare_54 (by decide) ?_
    refine va_put (D := (dC, dI)) (ci := 0) (v := .int 0) (ty := .int) (C := RX0) (T := TX0) (N := 18) hx hb hts (jh hin_RX0) tyX0 tyX0_ok nmX0 hown hK hP hD hS 73 rfl rfl 5 (by decide) (hts (.fieldLink RX6 50 "BookOfAll$Entry" "keyStart" "I") (jm m_286)) (fun _ h9 => h9) rfl (by decide +kernel) rfl rfl (Nat.le_of_ble_eq_true rfl) dX6_prepare_55 (fun H locs hP hD hS => ?_)
    exact W.vret hx hb hr (fun t ht hW => ⟨⟨(), rfl, trivial, by rw [ht]; exact hP, va_K.moved hW.alike hK, hD⟩, hS.F ht⟩) hS.2.2 dX6_prepare_58
