set_option maxHeartbeats 500000 in
set_option maxRecDepth 100000 in
theorem iX11_init_6 (l : Launch) (dC : Nat → ClassId) (dI : Nat → Nat → Nat) (sz h0 : Nat) : Met l yX11_init (jk yX11_init cX11_init 2 none) ({ frames := 1, cells := 2, slots := 0, locals := 40 }) (va_Pc [.ref h0, .int 5] (jw_P (dC, dI) [(h0, .inr (11, [.int 0, .int 0, .null, .null, .int 0, .int 0, .int 0]))] [] sz)) (va_Qv (fun (_ : ((Nat → Nat) × (Nat → ClassId))) => True) (fun u t => va_P (dC, dI) vwCl [(h0, .inr (11, [.int 25, .int (-1), .ref (u.1 1), .ref (u.1 2), .int 0, .int 0, .int 0])), ((u.1 1), .inl ((u.2 1), 0, .inl (fun _ => 0))), ((u.1 2), .inl ((u.2 2), 0, .inl (fun _ => 0)))] t.heap ∧ va_K (dC, dI) vwCl [((u.2 1), .int), ((u.2 2), .int)] t ∧ va_D (va_A [(h0, .inr (11, [.int 0, .int 0, .null, .null, .int 0, .int 0, .int 0]))] sz) [(h0, .inr (11, [.int 25, .int (-1), .ref (u.1 1), .ref (u.1 2), .int 0, .int 0, .int 0])), ((u.1 1), .inl ((u.2 1), 0, .inl (fun _ => 0))), ((u.1 2), .inl ((u.2 2), 0, .inl (fun _ => 0)))]) (va_A [(h0, .inr (11, [.int 0, .int 0, .null, .null, .int 0, .int 0, .int 0]))] sz)) 2 0 (va_A [(h0, .inr (11, [.int 0, .int 0, .null, .null, .int 0, .int 0, .int 0]))] sz) := by
  refine Met.ofW (cc := cX11_init) (maxL := 2) (ret := none) (by decide) rfl ?_
  intro p e s m args below meth c s₁ B hml hv
  obtain ⟨rfl, hsz, hP, hK, hD0⟩ := hv
  have hx := B.exec
  have hb := B.bytes
  have hr := B.returns
  have hts := atoms_spec (ws := (jk yX11_init cX11_init 2 none)) B.pre
  have hown : s.vm.findClass RX11 = some m.cls := findClass_of_methodNamed B.named
  have hlocks := B.notSynchronized
  have hin : meth.name = "<init>" := (name_of_methodNamed B.named B.method).1
  subst hsz
  have hD := hD0.self (sz := s.heap.size)
  generalize hAe : (va_A [(h0, .inr (11, [.int 0, .int 0, .null, .null, .int 0, .int 0, .int 0]))] s.heap.size) = A at hD ⊢
  have hA : ∀ q : Nat, s.heap.size ≤ q → A q := fun q h => by rw [← hAe]; exact Or.inr h
  have hS : va_S A s.heap s.heap [] := va_S.rf
  have hP : va_P (dC, dI) vwCl [(h0, .inr (11, [.int 0, .int 0, .null, .null, .int 0, .int 0, .int 0]))] s.heap := hP
  have hl := lv_entry ([.ref h0, .int 5]) (n := 2) (Nat.le_of_ble_eq_true rfl)
  rw [lg_entry_eq]
  generalize (lg_sl ([.ref h0, .int 5]) ++ List.replicate (2 - (lg_sl ([.ref h0, .int 5])).length) Slot.unset).toArray = ls at hl ⊢
  have hl : lv_has ls 2 [(0, .ref h0), (1, .int 5)] := hl
  refine lv_aload_n hx hb dX11_init_0 rfl (lv_at hl 0 rfl) ?_
  refine W.objInit hx hb hown (hts (.methodLink RX11 3 objectInit) (jm m_621)) (hts (.instanceMethod objectInit) (jm m_163)) (hts (.code objectInit ⟨#[0xb1]⟩ 1 none) (jm m_164)) rfl (by rw [hml]; exact hl.1) rfl dX11_init_1 (Nat.le_of_ble_eq_true rfl) (Nat.le_of_ble_eq_true rfl) ?_
  refine W.eq (g2 := F0 m 4 ls []) rfl ?_
  refine lv_aload_n hx hb dX11_init_4 rfl (lv_at hl 0 rfl) ?_
  refine lv_iconst (v := (-1)) hx hb dX11_init_5 (by decide) ?_
  refine va_put (D := (dC, dI)) (ci := 11) (v := .int (-1)) (ty := .int) (C := RX11) (T := TX11) (N := 7) hx hb hts (jh hin_RX11) tyX11 tyX11_ok nmX11 hown hK hP hD hS 0 rfl rfl 1 (by decide) (hts (.fieldLink RX11 9 "BookOfAll$Volume" "setDay" "I") (jm m_622)) (fun _ h9 => h9) rfl (by decide +kernel) rfl rfl (Nat.le_of_ble_eq_true rfl) dX11_init_6 (fun H locs hP hD hS => ?_)
  refine lv_aload_n hx hb dX11_init_9 rfl (lv_at hl 0 rfl) ?_
  refine lv_iconst (v := 0) hx hb dX11_init_10 (by decide) ?_
  refine va_newa (atype := .int) (N' := 0) (a0 := (0, .inl (fun _ => 0))) (ty := .int) hx hb (hts (.arrayClass .int) (jm m_2)) rfl hK hP hD hS hA (fun _ => rfl) (by decide) (by decide) (by decide) (Nat.le_of_ble_eq_true rfl) (Nat.le_of_ble_eq_true rfl) dX11_init_11 (fun q1 y1 H hK hP hD hS => ?_)
  refine W.widen (k := 1) (n := 0) (Nat.le_of_ble_eq_true rfl) (Nat.le_of_ble_eq_true rfl) ?_
  refine va_put (D := (dC, dI)) (ci := 11) (v := .ref q1) (ty := .array .int) (C := RX11) (T := TX11) (N := 7) hx hb hts (jh hin_RX11) tyX11 tyX11_ok nmX11 hown hK hP hD hS 0 (jg_l (jg_s (n := 1) rfl (Nat.le_of_ble_eq_true rfl))) rfl 2 (by decide) (hts (.fieldLink RX11 15 "BookOfAll$Volume" "order" "[I") (jm m_623)) (fun _ h9 => h9) rfl (by decide +kernel) rfl rfl (Nat.le_of_ble_eq_true rfl) dX11_init_13 (fun H locs hP hD hS => ?_)
  refine lv_aload_n hx hb dX11_init_16 rfl (lv_at hl 0 rfl) ?_
  refine lv_iconst (v := 0) hx hb dX11_init_17 (by decide) ?_
  refine va_newa (atype := .int) (N' := 0) (a0 := (0, .inl (fun _ => 0))) (ty := .int) hx hb (hts (.arrayClass .int) (jm m_2)) rfl hK hP hD hS hA (fun _ => rfl) (by decide) (by decide) (by decide) (Nat.le_of_ble_eq_true rfl) (Nat.le_of_ble_eq_true rfl) dX11_init_18 (fun q2 y2 H hK hP hD hS => ?_)
  refine W.widen (k := 2) (n := 0) (Nat.le_of_ble_eq_true rfl) (Nat.le_of_ble_eq_true rfl) ?_
  refine va_put (D := (dC, dI)) (ci := 11) (v := .ref q2) (ty := .array .int) (C := RX11) (T := TX11) (N := 7) hx hb hts (jh hin_RX11) tyX11 tyX11_ok nmX11 hown hK hP hD hS 0 (jg_l (jg_s (n := 2) (jn_a (n := 1) (m := 1) (jn_s rfl) rfl) (Nat.le_of_ble_eq_true rfl))) rfl 3 (by decide) (hts (.fieldLink RX11 19 "BookOfAll$Volume" "laid" "[I") (jm m_624)) (fun _ h9 => h9) rfl (by decide +kernel) rfl rfl (Nat.le_of_ble_eq_true rfl) dX11_init_20 (fun H locs hP hD hS => ?_)
  refine lv_aload_n hx hb dX11_init_23 rfl (lv_at hl 0 rfl) ?_
  refine lv_bipush (v := 25) hx hb dX11_init_24 (by decide) ?_
  refine lv_iconst (v := 5) hx hb dX11_init_26 (by decide) ?_
  refine lv_iload_n hx hb dX11_init_27 rfl (lv_at hl 1 rfl) ?_
  refine lv_imul hx hb dX11_init_28 ?_
  refine jt_i 25 (by decide) ?_
  refine lv_iconst (v := 4) hx hb dX11_init_29 (by decide) ?_
  refine lv_iadd hx hb dX11_init_30 ?_
  refine jt_i 29 (by decide) ?_
  refine va_mmin hx hb (by rw [hml]; exact hl.1.symm) hown (hts (.methodLink RX11 22 Lib.Math.min.name) (jm m_625)) (hts (.static Lib.Math.min.name) (jm m_173)) (hts (.initialized "java/lang/Math") (jm m_170)) (hts (.code Lib.Math.min.name Lib.Math.min.code 2 (some .int)) (jm m_174)) (Nat.le_of_ble_eq_true rfl) (Nat.le_of_ble_eq_true rfl) (Nat.le_of_ble_eq_true rfl) (Nat.le_of_ble_eq_true rfl) dX11_init_31 ?_
  refine jt_i 25 (by decide) ?_
  refine va_put (D := (dC, dI)) (ci := 11) (v := .int 25) (ty := .int) (C := RX11) (T := TX11) (N := 7) hx hb hts (jh hin_RX11) tyX11 tyX11_ok nmX11 hown hK hP hD hS 0 (jg_s (n := 3) (jn_a (n := 2) (m := 1) (jn_s (jn_a (n := 1) (m := 1) (jn_s rfl) rfl)) rfl) (Nat.le_of_ble_eq_true rfl)) rfl 0 (by decide) (hts (.fieldLink RX11 28 "BookOfAll$Volume" "lastLetter" "I") (jm m_626)) (fun _ h9 => h9) rfl (by decide +kernel) rfl rfl (Nat.le_of_ble_eq_true rfl) dX11_init_34 (fun H locs hP hD hS => ?_)
  refine W.widen (k := 2) (n := 0) (Nat.le_of_ble_eq_true rfl) (Nat.le_of_ble_eq_true rfl) ?_
  exact W.vret hx hb hr (fun t ht hW => ⟨⟨(fun k => [0, q1, q2].getD k 0, fun k => [dC 0, y1, y2].getD k (dC 0)), rfl, trivial, by rw [ht]; exact hP, va_K.moved hW.alike hK, hD⟩, hS.F ht⟩) hS.2.2 dX11_init_37
theorem jy3 {α : Type} {a : α} {r x : List α} : (a :: r) ++ x = a :: (r ++ x) := rfl
theorem jy4 {α : Type} {a c : α} {r : List α} : (a :: r).set 0 c = c :: r := rfl
theorem jy5 {α : Type} {a x : α} {r m : List α} {k : Nat} (e : r.set k x = m) : (a :: r).set (k + 1) x = a :: m := by rw [List.set_cons_succ, e]
theorem jy1 {α : Type} {w m x : List α} {k : Nat} {c : α} (h : k < w.length) (e : w.set k c = m) : (w ++ x).set k c = m ++ x := by rw [List.set_append_left _ _ h, e]
theorem jy2 {α : Type} {w x : List α} {n k i : Nat} {c : α} (hn : w.length = n) (hk : k = n + i) : (w ++ x).set k c = w ++ x.set i c := by
  subst hn; subst hk
  rw [List.set_append_right _ _ (Nat.le_add_right _ _), Nat.add_sub_cancel_left]
theorem jg_c0 {α : Type} {a : α} {r : List α} : (a :: r)[0]? = some a := rfl
theorem jg_c {α : Type} {a : α} {r : List α} {k : Nat} {e : Option α} (g : r[k]? = e) : (a :: r)[k + 1]? = e := by rw [List.getElem?_cons_succ]; exact g
theorem jn_c {α : Type} {a : α} {r : List α} {n : Nat} (h : r.length = n) : (a :: r).length = n + 1 := by rw [List.length_cons, h]
set_option maxHeartbeats 1000000 in
set_option maxRecDepth 100000 in
theorem iX5_init_1 (l : Launch) (dC : Nat → ClassId) (dI : Nat → Nat → Nat) (sz h0 : Nat) : Met l yX5_init (jk yX5_init cX5_init 1 none) ({ frames := 1, cells := 10, slots := 2740, locals := 40 }) (va_Pc [.ref h0] (jw_P (dC, dI) [(h0, .inr (5, [.null, .null, .null, .null, .null, .int 0, .null, .null, .null, .null, .null, .int 0]))] [] sz)) (va_Qv (fun (_ : ((Nat → Nat) × (Nat → ClassId))) => True) (fun u t => va_P (dC, dI) vwCl [(h0, .inr (5, [.ref (u.1 1), .ref (u.1 2), .ref (u.1 3), .ref (u.1 4), .ref (u.1 5), .int 0, .ref (u.1 6), .ref (u.1 7), .ref (u.1 8), .ref (u.1 9), .ref (u.1 10), .int 0])), ((u.1 1), .inl ((u.2 1), 40, .inl (jfill (fun _ => 0) 40 (-1)))), ((u.1 2), .inl ((u.2 2), 600, .inl (fun _ => 0))), ((u.1 3), .inl ((u.2 3), 600, .inl (fun _ => 0))), ((u.1 4), .inl ((u.2 4), 600, .inl (fun _ => 0))), ((u.1 5), .inl ((u.2 5), 600, .inl (fun _ => 0))), ((u.1 6), .inl ((u.2 6), 60, .inl (fun _ => 0))), ((u.1 7), .inl ((u.2 7), 60, .inl (fun _ => 0))), ((u.1 8), .inl ((u.2 8), 60, .inl (fun _ => 0))), ((u.1 9), .inl ((u.2 9), 60, .inl (fun _ => 0))), ((u.1 10), .inl ((u.2 10), 60, .inl (fun _ => 0)))] t.heap ∧ va_K (dC, dI) vwCl [((u.2 1), .int), ((u.2 2), .int), ((u.2 3), .int), ((u.2 4), .int), ((u.2 5), .int), ((u.2 6), .int), ((u.2 7), .int), ((u.2 8), .int), ((u.2 9), .int), ((u.2 10), .boolean)] t ∧ va_D (va_A [(h0, .inr (5, [.null, .null, .null, .null, .null, .int 0, .null, .null, .null, .null, .null, .int 0]))] sz) [(h0, .inr (5, [.ref (u.1 1), .ref (u.1 2), .ref (u.1 3), .ref (u.1 4), .ref (u.1 5), .int 0, .ref (u.1 6), .ref (u.1 7), .ref (u.1 8), .ref (u.1 9), .ref (u.1 10), .int 0])), ((u.1 1), .inl ((u.2 1), 40, .inl (jfill (fun _ => 0) 40 (-1)))), ((u.1 2), .inl ((u.2 2), 600, .inl (fun _ => 0))), ((u.1 3), .inl ((u.2 3), 600, .inl (fun _ => 0))), ((u.1 4), .inl ((u.2 4), 600, .inl (fun _ => 0))), ((u.1 5), .inl ((u.2 5), 600, .inl (fun _ => 0))), ((u.1 6), .inl ((u.2 6), 60, .inl (fun _ => 0))), ((u.1 7), .inl ((u.2 7), 60, .inl (fun _ => 0))), ((u.1 8), .inl ((u.2 8), 60, .inl (fun _ => 0))), ((u.1 9), .inl ((u.2 9), 60, .inl (fun _ => 0))), ((u.1 10), .inl ((u.2 10), 60, .inl (fun _ => 0)))]) (va_A [(h0, .inr (5, [.null, .null, .null, .null, .null, .int 0, .null, .null, .null, .null, .null, .int 0]))] sz)) 10 2740 (va_A [(h0, .inr (5, [.null, .null, .null, .null, .null, .int 0, .null, .null, .null, .null, .null, .int 0]))] sz) := by
  refine Met.ofW (cc := cX5_init) (maxL := 1) (ret := none) (by decide) rfl ?_
  intro p e s m args below meth c s₁ B hml hv
  obtain ⟨rfl, hsz, hP, hK, hD0⟩ := hv
  have hx := B.exec
  have hb := B.bytes
  have hr := B.returns
  have hts := atoms_spec (ws := (jk yX5_init cX5_init 1 none)) B.pre
  have hown : s.vm.findClass RX5 = some m.cls := findClass_of_methodNamed B.named
  have hlocks := B.notSynchronized
  have hin : meth.name = "<init>" := (name_of_methodNamed B.named B.method).1
  subst hsz
  have hD := hD0.self (sz := s.heap.size)
  generalize hAe : (va_A [(h0, .inr (5, [.null, .null, .null, .null, .null, .int 0, .null, .null, .null, .null, .null, .int 0]))] s.heap.size) = A at hD ⊢
  have hA : ∀ q : Nat, s.heap.size ≤ q → A q := fun q h => by rw [← hAe]; exact Or.inr h
  have hS : va_S A s.heap s.heap [] := va_S.rf
  have hP : va_P (dC, dI) vwCl [(h0, .inr (5, [.null, .null, .null, .null, .null, .int 0, .null, .null, .null, .null, .null, .int 0]))] s.heap := hP
  have hl := lv_entry ([.ref h0]) (n := 1) (Nat.le_of_ble_eq_true rfl)
  rw [lg_entry_eq]
  generalize (lg_sl ([.ref h0]) ++ List.replicate (1 - (lg_sl ([.ref h0])).length) Slot.unset).toArray = ls at hl ⊢
  have hl : lv_has ls 1 [(0, .ref h0)] := hl
  have hf : ([.null, .null, .null, .null, .null, .int 0, .null, .null, .null, .null, .null, .int 0] : List Value).length = 12 := rfl
  refine lv_aload_n hx hb dX5_init_0 rfl (lv_at hl 0 rfl) ?_
  refine W.objInit hx hb hown (hts (.methodLink RX5 3 objectInit) (jm m_634)) (hts (.instanceMethod objectInit) (jm m_163)) (hts (.code objectInit ⟨#[0xb1]⟩ 1 none) (jm m_164)) rfl (by rw [hml]; exact hl.1) rfl dX5_init_1 (Nat.le_of_ble_eq_true rfl) (Nat.le_of_ble_eq_true rfl) ?_
  refine W.eq (g2 := F0 m 4 ls []) rfl ?_
  refine lv_aload_n hx hb dX5_init_4 rfl (lv_at hl 0 rfl) ?_
  refine lv_bipush (v := 40) hx hb dX5_init_5 (by decide) ?_
  refine va_newa (atype := .int) (N' := 40) (a0 := (40, .inl (fun _ => 0))) (ty := .int) hx hb (hts (.arrayClass .int) (jm m_2)) rfl hK hP hD hS hA (fun _ => rfl) (by decide) (by decide) (by decide) (Nat.le_of_ble_eq_true rfl) (Nat.le_of_ble_eq_true rfl) dX5_init_7 (fun q1 y1 H hK hP hD hS => ?_)
  refine W.widen (k := 1) (n := 40) (Nat.le_of_ble_eq_true rfl) (Nat.le_of_ble_eq_true rfl) ?_
  have hP := jrP hP jy3
  have hD := jrD hD jy3
  refine va_putF (D := (dC, dI)) (ci := 5) (v := .ref q1) (ty := .array .int) (C := RX5) (T := TX5) (N := 12) hx hb hts (jh hin_RX5) tyX5 tyX5_ok nmX5 hown hK hP hD hS 0 jg_c0 rfl 0 (by decide) (hts (.fieldLink RX5 11 "BookOfAll$News" "latest" "[I") (jm m_366)) (fun _ h9 => h9) rfl hin rfl (by decide +kernel) rfl rfl (jn_lt hf (Nat.le_of_ble_eq_true rfl)) dX5_init_9 (fun H locs hP hD hS => ?_)
  have hP := jrP hP jy4
  have hD := jrD hD jy4
  have hf := jn_s (k := 0) (x := .ref q1) hf
  refine lv_aload_n hx hb dX5_init_12 rfl (lv_at hl 0 rfl) ?_
  refine lv_sipush (v := 600) hx hb dX5_init_13 (by decide) ?_
  refine va_newa (atype := .int) (N' := 600) (a0 := (600, .inl (fun _ => 0))) (ty := .int) hx hb (hts (.arrayClass .int) (jm m_2)) rfl hK hP hD hS hA (fun _ => rfl) (by decide) (by decide) (by decide) (Nat.le_of_ble_eq_true rfl) (Nat.le_of_ble_eq_true rfl) dX5_init_16 (fun q2 y2 H hK hP hD hS => ?_)
  refine W.widen (k := 2) (n := 640) (Nat.le_of_ble_eq_true rfl) (Nat.le_of_ble_eq_true rfl) ?_
  have hP := jrP hP jy3
  have hD := jrD hD jy3
  refine va_putF (D := (dC, dI)) (ci := 5) (v := .ref q2) (ty := .array .int) (C := RX5) (T := TX5) (N := 12) hx hb hts (jh hin_RX5) tyX5 tyX5_ok nmX5 hown hK hP hD hS 0 jg_c0 rfl 1 (by decide) (hts (.fieldLink RX5 15 "BookOfAll$News" "value" "[I") (jm m_362)) (fun _ h9 => h9) rfl hin rfl (by decide +kernel) rfl rfl (jn_lt hf (Nat.le_of_ble_eq_true rfl)) dX5_init_18 (fun H locs hP hD hS => ?_)
  have hP := jrP hP jy4
  have hD := jrD hD jy4
  have hf := jn_s (k := 1) (x := .ref q2) hf
  refine lv_aload_n hx hb dX5_init_21 rfl (lv_at hl 0 rfl) ?_
  refine lv_sipush (v := 600) hx hb dX5_init_22 (by decide) ?_
  refine va_newa (atype := .int) (N' := 600) (a0 := (600, .inl (fun _ => 0))) (ty := .int) hx hb (hts (.arrayClass .int) (jm m_2)) rfl hK hP hD hS hA (fun _ => rfl) (by decide) (by decide) (by decide) (Nat.le_of_ble_eq_true rfl) (Nat.le_of_ble_eq_true rfl) dX5_init_25 (fun q3 y3 H hK hP hD hS => ?_)
  refine W.widen (k := 3) (n := 1240) (Nat.le_of_ble_eq_true rfl) (Nat.le_of_ble_eq_true rfl) ?_
  have hP := jrP hP jy3
  have hD := jrD hD jy3
  refine va_putF (D := (dC, dI)) (ci := 5) (v := .ref q3) (ty := .array .int) (C := RX5) (T := TX5) (N := 12) hx hb hts (jh hin_RX5) tyX5 tyX5_ok nmX5 hown hK hP hD hS 0 jg_c0 rfl 2 (by decide) (hts (.fieldLink RX5 18 "BookOfAll$News" "source" "[I") (jm m_363)) (fun _ h9 => h9) rfl hin rfl (by decide +kernel) rfl rfl (jn_lt hf (Nat.le_of_ble_eq_true rfl)) dX5_init_27 (fun H locs hP hD hS => ?_)
  have hP := jrP hP jy4
  have hD := jrD hD jy4
  have hf := jn_s (k := 2) (x := .ref q3) hf
  refine lv_aload_n hx hb dX5_init_30 rfl (lv_at hl 0 rfl) ?_
  refine lv_sipush (v := 600) hx hb dX5_init_31 (by decide) ?_
  refine va_newa (atype := .int) (N' := 600) (a0 := (600, .inl (fun _ => 0))) (ty := .int) hx hb (hts (.arrayClass .int) (jm m_2)) rfl hK hP hD hS hA (fun _ => rfl) (by decide) (by decide) (by decide) (Nat.le_of_ble_eq_true rfl) (Nat.le_of_ble_eq_true rfl) dX5_init_34 (fun q4 y4 H hK hP hD hS => ?_)
  refine W.widen (k := 4) (n := 1840) (Nat.le_of_ble_eq_true rfl) (Nat.le_of_ble_eq_true rfl) ?_
  have hP := jrP hP jy3
  have hD := jrD hD jy3
  refine va_putF (D := (dC, dI)) (ci := 5) (v := .ref q4) (ty := .array .int) (C := RX5) (T := TX5) (N := 12) hx hb hts (jh hin_RX5) tyX5 tyX5_ok nmX5 hown hK hP hD hS 0 jg_c0 rfl 3 (by decide) (hts (.fieldLink RX5 21 "BookOfAll$News" "day" "[I") (jm m_364)) (fun _ h9 => h9) rfl hin rfl (by decide +kernel) rfl rfl (jn_lt hf (Nat.le_of_ble_eq_true rfl)) dX5_init_36 (fun H locs hP hD hS => ?_)
  have hP := jrP hP jy4
  have hD := jrD hD jy4
  have hf := jn_s (k := 3) (x := .ref q4) hf
  refine lv_aload_n hx hb dX5_init_39 rfl (lv_at hl 0 rfl) ?_
  refine lv_sipush (v := 600) hx hb dX5_init_40 (by decide) ?_
  refine va_newa (atype := .int) (N' := 600) (a0 := (600, .inl (fun _ => 0))) (ty := .int) hx hb (hts (.arrayClass .int) (jm m_2)) rfl hK hP hD hS hA (fun _ => rfl) (by decide) (by decide) (by decide) (Nat.le_of_ble_eq_true rfl) (Nat.le_of_ble_eq_true rfl) dX5_init_43 (fun q5 y5 H hK hP hD hS => ?_)
  refine W.widen (k := 5) (n := 2440) (Nat.le_of_ble_eq_true rfl) (Nat.le_of_ble_eq_true rfl) ?_
  have hP := jrP hP jy3
  have hD := jrD hD jy3
  refine va_putF (D := (dC, dI)) (ci := 5) (v := .ref q5) (ty := .array .int) (C := RX5) (T := TX5) (N := 12) hx hb hts (jh hin_RX5) tyX5 tyX5_ok nmX5 hown hK hP hD hS 0 jg_c0 rfl 4 (by decide) (hts (.fieldLink RX5 24 "BookOfAll$News" "earlier" "[I") (jm m_365)) (fun _ h9 => h9) rfl hin rfl (by decide +kernel) rfl rfl (jn_lt hf (Nat.le_of_ble_eq_true rfl)) dX5_init_45 (fun H locs hP hD hS => ?_)
  have hP := jrP hP jy4
  have hD := jrD hD jy4
  have hf := jn_s (k := 4) (x := .ref q5) hf
  refine lv_aload_n hx hb dX5_init_48 rfl (lv_at hl 0 rfl) ?_
  refine lv_bipush (v := 60) hx hb dX5_init_49 (by decide) ?_
  refine va_newa (atype := .int) (N' := 60) (a0 := (60, .inl (fun _ => 0))) (ty := .int) hx hb (hts (.arrayClass .int) (jm m_2)) rfl hK hP hD hS hA (fun _ => rfl) (by decide) (by decide) (by decide) (Nat.le_of_ble_eq_true rfl) (Nat.le_of_ble_eq_true rfl) dX5_init_51 (fun q6 y6 H hK hP hD hS => ?_)
  refine W.widen (k := 6) (n := 2500) (Nat.le_of_ble_eq_true rfl) (Nat.le_of_ble_eq_true rfl) ?_
  have hP := jrP hP jy3
  have hD := jrD hD jy3
  refine va_putF (D := (dC, dI)) (ci := 5) (v := .ref q6) (ty := .array .int) (C := RX5) (T := TX5) (N := 12) hx hb hts (jh hin_RX5) tyX5 tyX5_ok nmX5 hown hK hP hD hS 0 jg_c0 rfl 6 (by decide) (hts (.fieldLink RX5 27 "BookOfAll$News" "wrongLine" "[I") (jm m_635)) (fun _ h9 => h9) rfl hin rfl (by decide +kernel) rfl rfl (jn_lt hf (Nat.le_of_ble_eq_true rfl)) dX5_init_53 (fun H locs hP hD hS => ?_)
  have hP := jrP hP jy4
  have hD := jrD hD jy4
  have hf := jn_s (k := 6) (x := .ref q6) hf
  refine lv_aload_n hx hb dX5_init_56 rfl (lv_at hl 0 rfl) ?_
  refine lv_bipush (v := 60) hx hb dX5_init_57 (by decide) ?_
  refine va_newa (atype := .int) (N' := 60) (a0 := (60, .inl (fun _ => 0))) (ty := .int) hx hb (hts (.arrayClass .int) (jm m_2)) rfl hK hP hD hS hA (fun _ => rfl) (by decide) (by decide) (by decide) (Nat.le_of_ble_eq_true rfl) (Nat.le_of_ble_eq_true rfl) dX5_init_59 (fun q7 y7 H hK hP hD hS => ?_)
  refine W.widen (k := 7) (n := 2560) (Nat.le_of_ble_eq_true rfl) (Nat.le_of_ble_eq_true rfl) ?_
  have hP := jrP hP jy3
  have hD := jrD hD jy3
  refine va_putF (D := (dC, dI)) (ci := 5) (v := .ref q7) (ty := .array .int) (C := RX5) (T := TX5) (N := 12) hx hb hts (jh hin_RX5) tyX5 tyX5_ok nmX5 hown hK hP hD hS 0 jg_c0 rfl 7 (by decide) (hts (.fieldLink RX5 30 "BookOfAll$News" "kept" "[I") (jm m_636)) (fun _ h9 => h9) rfl hin rfl (by decide +kernel) rfl rfl (jn_lt hf (Nat.le_of_ble_eq_true rfl)) dX5_init_61 (fun H locs hP hD hS => ?_)
  have hP := jrP hP jy4
  have hD := jrD hD jy4
  have hf := jn_s (k := 7) (x := .ref q7) hf
  refine lv_aload_n hx hb dX5_init_64 rfl (lv_at hl 0 rfl) ?_
  refine lv_bipush (v := 60) hx hb dX5_init_65 (by decide) ?_
  refine va_newa (atype := .int) (N' := 60) (a0 := (60, .inl (fun _ => 0))) (ty := .int) hx hb (hts (.arrayClass .int) (jm m_2)) rfl hK hP hD hS hA (fun _ => rfl) (by decide) (by decide) (by decide) (Nat.le_of_ble_eq_true rfl) (Nat.le_of_ble_eq_true rfl) dX5_init_67 (fun q8 y8 H hK hP hD hS => ?_)
  refine W.widen (k := 8) (n := 2620) (Nat.le_of_ble_eq_true rfl) (Nat.le_of_ble_eq_true rfl) ?_
  have hP := jrP hP jy3
  have hD := jrD hD jy3
  refine va_putF (D := (dC, dI)) (ci := 5) (v := .ref q8) (ty := .array .int) (C := RX5) (T := TX5) (N := 12) hx hb hts (jh hin_RX5) tyX5 tyX5_ok nmX5 hown hK hP hD hS 0 jg_c0 rfl 8 (by decide) (hts (.fieldLink RX5 33 "BookOfAll$News" "should" "[I") (jm m_637)) (fun _ h9 => h9) rfl hin rfl (by decide +kernel) rfl rfl (jn_lt hf (Nat.le_of_ble_eq_true rfl)) dX5_init_69 (fun H locs hP hD hS => ?_)
  have hP := jrP hP jy4
  have hD := jrD hD jy4
  have hf := jn_s (k := 8) (x := .ref q8) hf
  refine lv_aload_n hx hb dX5_init_72 rfl (lv_at hl 0 rfl) ?_
  refine lv_bipush (v := 60) hx hb dX5_init_73 (by decide) ?_
  refine va_newa (atype := .int) (N' := 60) (a0 := (60, .inl (fun _ => 0))) (ty := .int) hx hb (hts (.arrayClass .int) (jm m_2)) rfl hK hP hD hS hA (fun _ => rfl) (by decide) (by decide) (by decide) (Nat.le_of_ble_eq_true rfl) (Nat.le_of_ble_eq_true rfl) dX5_init_75 (fun q9 y9 H hK hP hD hS => ?_)
  refine W.widen (k := 9) (n := 2680) (Nat.le_of_ble_eq_true rfl) (Nat.le_of_ble_eq_true rfl) ?_
  have hP := jrP hP jy3
  have hD := jrD hD jy3
  refine va_putF (D := (dC, dI)) (ci := 5) (v := .ref q9) (ty := .array .int) (C := RX5) (T := TX5) (N := 12) hx hb hts (jh hin_RX5) tyX5 tyX5_ok nmX5 hown hK hP hD hS 0 jg_c0 rfl 9 (by decide) (hts (.fieldLink RX5 36 "BookOfAll$News" "erratumDay" "[I") (jm m_638)) (fun _ h9 => h9) rfl hin rfl (by decide +kernel) rfl rfl (jn_lt hf (Nat.le_of_ble_eq_true rfl)) dX5_init_77 (fun H locs hP hD hS => ?_)
  have hP := jrP hP jy4
  have hD := jrD hD jy4
  have hf := jn_s (k := 9) (x := .ref q9) hf
  refine lv_aload_n hx hb dX5_init_80 rfl (lv_at hl 0 rfl) ?_
  refine lv_bipush (v := 60) hx hb dX5_init_81 (by decide) ?_
  refine va_newa (atype := .boolean) (N' := 60) (a0 := (60, .inl (fun _ => 0))) (ty := .boolean) hx hb (hts (.arrayClass .boolean) (jm m_21)) rfl hK hP hD hS hA (fun _ => rfl) (by decide) (by decide) (by decide) (Nat.le_of_ble_eq_true rfl) (Nat.le_of_ble_eq_true rfl) dX5_init_83 (fun q10 y10 H hK hP hD hS => ?_)
  refine W.widen (k := 10) (n := 2740) (Nat.le_of_ble_eq_true rfl) (Nat.le_of_ble_eq_true rfl) ?_
  have hP := jrP hP jy3
  have hD := jrD hD jy3
  refine va_putF (D := (dC, dI)) (ci := 5) (v := .ref q10) (ty := .array .boolean) (C := RX5) (T := TX5) (N := 12) hx hb hts (jh hin_RX5) tyX5 tyX5_ok nmX5 hown hK hP hD hS 0 jg_c0 rfl 10 (by decide) (hts (.fieldLink RX5 39 "BookOfAll$News" "missed" "[Z") (jm m_639)) (fun _ h9 => h9) rfl hin rfl (by decide +kernel) rfl rfl (jn_lt hf (Nat.le_of_ble_eq_true rfl)) dX5_init_85 (fun H locs hP hD hS => ?_)
  have hP := jrP hP jy4
  have hD := jrD hD jy4
  have hf := jn_s (k := 10) (x := .ref q10) hf
  refine lv_aload_n hx hb dX5_init_88 rfl (lv_at hl 0 rfl) ?_
  refine va_get (D := (dC, dI)) (ci := 5) (v := .ref q1) (C := RX5) (T := TX5) (N := 12) hx hb hts (jh hin_RX5) hown hK hP 0 jg_c0 rfl 0 (by decide) (hts (.fieldLink RX5 11 "BookOfAll$News" "latest" "[I") (jm m_366)) (fun _ h9 => h9) (jg_n (Nat.ne_of_beq_eq_false rfl) (jg_n (Nat.ne_of_beq_eq_false rfl) (jg_n (Nat.ne_of_beq_eq_false rfl) (jg_n (Nat.ne_of_beq_eq_false rfl) (jg_n (Nat.ne_of_beq_eq_false rfl) (jg_n (Nat.ne_of_beq_eq_false rfl) (jg_n (Nat.ne_of_beq_eq_false rfl) (jg_n (Nat.ne_of_beq_eq_false rfl) (jg_n (Nat.ne_of_beq_eq_false rfl) (jg_s (n := 12) rfl (Nat.le_of_ble_eq_true rfl))))))))))) dX5_init_89 ?_
  refine lv_iconst (v := (-1)) hx hb dX5_init_92 (by decide) ?_
  refine jc1_v (k := 1) (va_runS (As := [.ref q1, .int (-1)]) (rest := []) ⟨hx, hb, hml, hown, hts⟩ (kfill l dC dI _ (q1) 40 y1 (fun _ => 0) (-1) (by decide)) (va_cwS 2 hts (jgoodS m_640 m_141 m_142 m_143) rfl rfl rfl (by decide +kernel) ⟨(Nat.le_of_ble_eq_true rfl), (Nat.le_of_ble_eq_true rfl)⟩) ⟨jw_blind, fun U hU hW => ⟨rfl, jw_of hU hW (jp_at hP 1 (jg_c (jg_l (jg_l (jg_l (jg_l (jg_l (jg_l (jg_l (jg_l (jg_l (jg_r (n := 0) (i := 0) rfl rfl rfl)))))))))))) (hK.sub [0] rfl) (jd_at hD 1 (jg_c (jg_l (jg_l (jg_l (jg_l (jg_l (jg_l (jg_l (jg_l (jg_l (jg_r (n := 0) (i := 0) rfl rfl rfl))))))))))))⟩⟩ rfl rfl hl.1 rfl (lv_room (Nat.le_of_ble_eq_true rfl)) dX5_init_93 ⟨(Nat.le_of_ble_eq_true rfl), (Nat.le_of_ble_eq_true rfl)⟩) hP hD (jg_c (jg_l (jg_l (jg_l (jg_l (jg_l (jg_l (jg_l (jg_l (jg_l (jg_r (n := 0) (i := 0) rfl rfl rfl))))))))))) hS hA (fun H locs hP hD hS => ?_)
  have hP := jrP hP (jy5 (jy1 (jn_lt (n := 9) (jn_a (n := 8) (m := 1) (jn_a (n := 7) (m := 1) (jn_a (n := 6) (m := 1) (jn_a (n := 5) (m := 1) (jn_a (n := 4) (m := 1) (jn_a (n := 3) (m := 1) (jn_a (n := 2) (m := 1) (jn_a (n := 1) (m := 1) (jn_a (n := 0) (m := 1) rfl rfl) rfl) rfl) rfl) rfl) rfl) rfl) rfl) rfl) (Nat.le_of_ble_eq_true rfl)) (jy1 (jn_lt (n := 8) (jn_a (n := 7) (m := 1) (jn_a (n := 6) (m := 1) (jn_a (n := 5) (m := 1) (jn_a (n := 4) (m := 1) (jn_a (n := 3) (m := 1) (jn_a (n := 2) (m := 1) (jn_a (n := 1) (m := 1) (jn_a (n := 0) (m := 1) rfl rfl) rfl) rfl) rfl) rfl) rfl) rfl) rfl) (Nat.le_of_ble_eq_true rfl)) (jy1 (jn_lt (n := 7) (jn_a (n := 6) (m := 1) (jn_a (n := 5) (m := 1) (jn_a (n := 4) (m := 1) (jn_a (n := 3) (m := 1) (jn_a (n := 2) (m := 1) (jn_a (n := 1) (m := 1) (jn_a (n := 0) (m := 1) rfl rfl) rfl) rfl) rfl) rfl) rfl) rfl) (Nat.le_of_ble_eq_true rfl)) (jy1 (jn_lt (n := 6) (jn_a (n := 5) (m := 1) (jn_a (n := 4) (m := 1) (jn_a (n := 3) (m := 1) (jn_a (n := 2) (m := 1) (jn_a (n := 1) (m := 1) (jn_a (n := 0) (m := 1) rfl rfl) rfl) rfl) rfl) rfl) rfl) (Nat.le_of_ble_eq_true rfl)) (jy1 (jn_lt (n := 5) (jn_a (n := 4) (m := 1) (jn_a (n := 3) (m := 1) (jn_a (n := 2) (m := 1) (jn_a (n := 1) (m := 1) (jn_a (n := 0) (m := 1) rfl rfl) rfl) rfl) rfl) rfl) (Nat.le_of_ble_eq_true rfl)) (jy1 (jn_lt (n := 4) (jn_a (n := 3) (m := 1) (jn_a (n := 2) (m := 1) (jn_a (n := 1) (m := 1) (jn_a (n := 0) (m := 1) rfl rfl) rfl) rfl) rfl) (Nat.le_of_ble_eq_true rfl)) (jy1 (jn_lt (n := 3) (jn_a (n := 2) (m := 1) (jn_a (n := 1) (m := 1) (jn_a (n := 0) (m := 1) rfl rfl) rfl) rfl) (Nat.le_of_ble_eq_true rfl)) (jy1 (jn_lt (n := 2) (jn_a (n := 1) (m := 1) (jn_a (n := 0) (m := 1) rfl rfl) rfl) (Nat.le_of_ble_eq_true rfl)) (jy1 (jn_lt (n := 1) (jn_a (n := 0) (m := 1) rfl rfl) (Nat.le_of_ble_eq_true rfl)) (jy2 (n := 0) (i := 0) rfl rfl)))))))))))
  have hD := jrD hD (jy5 (jy1 (jn_lt (n := 9) (jn_a (n := 8) (m := 1) (jn_a (n := 7) (m := 1) (jn_a (n := 6) (m := 1) (jn_a (n := 5) (m := 1) (jn_a (n := 4) (m := 1) (jn_a (n := 3) (m := 1) (jn_a (n := 2) (m := 1) (jn_a (n := 1) (m := 1) (jn_a (n := 0) (m := 1) rfl rfl) rfl) rfl) rfl) rfl) rfl) rfl) rfl) rfl) (Nat.le_of_ble_eq_true rfl)) (jy1 (jn_lt (n := 8) (jn_a (n := 7) (m := 1) (jn_a (n := 6) (m := 1) (jn_a (n := 5) (m := 1) (jn_a (n := 4) (m := 1) (jn_a (n := 3) (m := 1) (jn_a (n := 2) (m := 1) (jn_a (n := 1) (m := 1) (jn_a (n := 0) (m := 1) rfl rfl) rfl) rfl) rfl) rfl) rfl) rfl) rfl) (Nat.le_of_ble_eq_true rfl)) (jy1 (jn_lt (n := 7) (jn_a (n := 6) (m := 1) (jn_a (n := 5) (m := 1) (jn_a (n := 4) (m := 1) (jn_a (n := 3) (m := 1) (jn_a (n := 2) (m := 1) (jn_a (n := 1) (m := 1) (jn_a (n := 0) (m := 1) rfl rfl) rfl) rfl) rfl) rfl) rfl) rfl) (Nat.le_of_ble_eq_true rfl)) (jy1 (jn_lt (n := 6) (jn_a (n := 5) (m := 1) (jn_a (n := 4) (m := 1) (jn_a (n := 3) (m := 1) (jn_a (n := 2) (m := 1) (jn_a (n := 1) (m := 1) (jn_a (n := 0) (m := 1) rfl rfl) rfl) rfl) rfl) rfl) rfl) (Nat.le_of_ble_eq_true rfl)) (jy1 (jn_lt (n := 5) (jn_a (n := 4) (m := 1) (jn_a (n := 3) (m := 1) (jn_a (n := 2) (m := 1) (jn_a (n := 1) (m := 1) (jn_a (n := 0) (m := 1) rfl rfl) rfl) rfl) rfl) rfl) (Nat.le_of_ble_eq_true rfl)) (jy1 (jn_lt (n := 4) (jn_a (n := 3) (m := 1) (jn_a (n := 2) (m := 1) (jn_a (n := 1) (m := 1) (jn_a (n := 0) (m := 1) rfl rfl) rfl) rfl) rfl) (Nat.le_of_ble_eq_true rfl)) (jy1 (jn_lt (n := 3) (jn_a (n := 2) (m := 1) (jn_a (n := 1) (m := 1) (jn_a (n := 0) (m := 1) rfl rfl) rfl) rfl) (Nat.le_of_ble_eq_true rfl)) (jy1 (jn_lt (n := 2) (jn_a (n := 1) (m := 1) (jn_a (n := 0) (m := 1) rfl rfl) rfl) (Nat.le_of_ble_eq_true rfl)) (jy1 (jn_lt (n := 1) (jn_a (n := 0) (m := 1) rfl rfl) (Nat.le_of_ble_eq_true rfl)) (jy2 (n := 0) (i := 0) rfl rfl)))))))))))
  refine W.widen (k := 10) (n := 2740) (Nat.le_of_ble_eq_true rfl) (Nat.le_of_ble_eq_true rfl) ?_
  exact W.vret hx hb hr (fun t ht hW => ⟨⟨(fun k => [0, q1, q2, q3, q4, q5, q6, q7, q8, q9, q10].getD k 0, fun k => [dC 0, y1, y2, y3, y4, y5, y6, y7, y8, y9, y10].getD k (dC 0)), rfl, trivial, by rw [ht]; exact hP, va_K.moved hW.alike hK, hD⟩, hS.F ht⟩) hS.2.2 dX5_init_96
set_option maxHeartbeats 500000 in
set_option maxRecDepth 100000 in
theorem iX3_init_1 (l : Launch) (dC : Nat → ClassId) (dI : Nat → Nat → Nat) (sz h0 : Nat) : Met l yX3_init (jk yX3_init cX3_init 1 none) ({ frames := 1, cells := 5, slots := 300, locals := 40 }) (va_Pc [.ref h0] (jw_P (dC, dI) [(h0, .inr (3, [.null, .null, .null, .null, .null, .int 0, .int 0]))] [] sz)) (va_Qv (fun (_ : ((Nat → Nat) × (Nat → ClassId))) => True) (fun u t => va_P (dC, dI) vwCl [(h0, .inr (3, [.ref (u.1 1), .ref (u.1 2), .ref (u.1 3), .ref (u.1 4), .ref (u.1 5), .int 0, .int 0])), ((u.1 1), .inl ((u.2 1), 60, .inl (fun _ => 0))), ((u.1 2), .inl ((u.2 2), 60, .inl (fun _ => 0))), ((u.1 3), .inl ((u.2 3), 60, .inl (fun _ => 0))), ((u.1 4), .inl ((u.2 4), 60, .inl (fun _ => 0))), ((u.1 5), .inl ((u.2 5), 60, .inl (fun _ => 0)))] t.heap ∧ va_K (dC, dI) vwCl [((u.2 1), .int), ((u.2 2), .int), ((u.2 3), .int), ((u.2 4), .int), ((u.2 5), .int)] t ∧ va_D (va_A [(h0, .inr (3, [.null, .null, .null, .null, .null, .int 0, .int 0]))] sz) [(h0, .inr (3, [.ref (u.1 1), .ref (u.1 2), .ref (u.1 3), .ref (u.1 4), .ref (u.1 5), .int 0, .int 0])), ((u.1 1), .inl ((u.2 1), 60, .inl (fun _ => 0))), ((u.1 2), .inl ((u.2 2), 60, .inl (fun _ => 0))), ((u.1 3), .inl ((u.2 3), 60, .inl (fun _ => 0))), ((u.1 4), .inl ((u.2 4), 60, .inl (fun _ => 0))), ((u.1 5), .inl ((u.2 5), 60, .inl (fun _ => 0)))]) (va_A [(h0, .inr (3, [.null, .null, .null, .null, .null, .int 0, .int 0]))] sz)) 5 300 (va_A [(h0, .inr (3, [.null, .null, .null, .null, .null, .int 0, .int 0]))] sz) := by
  refine Met.ofW (cc := cX3_init) (maxL := 1) (ret := none) (by decide) rfl ?_
  intro p e s m args below meth c s₁ B hml hv
  obtain ⟨rfl, hsz, hP, hK, hD0⟩ := hv
  have hx := B.exec
  have hb := B.bytes
  have hr := B.returns
  have hts := atoms_spec (ws := (jk yX3_init cX3_init 1 none)) B.pre
  have hown : s.vm.findClass RX3 = some m.cls := findClass_of_methodNamed B.named
  have hlocks := B.notSynchronized
  have hin : meth.name = "<init>" := (name_of_methodNamed B.named B.method).1
  subst hsz
  have hD := hD0.self (sz := s.heap.size)
  generalize hAe : (va_A [(h0, .inr (3, [.null, .null, .null, .null, .null, .int 0, .int 0]))] s.heap.size) = A at hD ⊢
  have hA : ∀ q : Nat, s.heap.size ≤ q → A q := fun q h => by rw [← hAe]; exact Or.inr h
  have hS : va_S A s.heap s.heap [] := va_S.rf
  have hP : va_P (dC, dI) vwCl [(h0, .inr (3, [.null, .null, .null, .null, .null, .int 0, .int 0]))] s.heap := hP
  have hl := lv_entry ([.ref h0]) (n := 1) (Nat.le_of_ble_eq_true rfl)
  rw [lg_entry_eq]
  generalize (lg_sl ([.ref h0]) ++ List.replicate (1 - (lg_sl ([.ref h0])).length) Slot.unset).toArray = ls at hl ⊢
  have hl : lv_has ls 1 [(0, .ref h0)] := hl
  refine lv_aload_n hx hb dX3_init_0 rfl (lv_at hl 0 rfl) ?_
  refine W.objInit hx hb hown (hts (.methodLink RX3 3 objectInit) (jm m_647)) (hts (.instanceMethod objectInit) (jm m_163)) (hts (.code objectInit ⟨#[0xb1]⟩ 1 none) (jm m_164)) rfl (by rw [hml]; exact hl.1) rfl dX3_init_1 (Nat.le_of_ble_eq_true rfl) (Nat.le_of_ble_eq_true rfl) ?_
  refine W.eq (g2 := F0 m 4 ls []) rfl ?_
  refine lv_aload_n hx hb dX3_init_4 rfl (lv_at hl 0 rfl) ?_
  refine lv_bipush (v := 60) hx hb dX3_init_5 (by decide) ?_
  refine va_newa (atype := .int) (N' := 60) (a0 := (60, .inl (fun _ => 0))) (ty := .int) hx hb (hts (.arrayClass .int) (jm m_2)) rfl hK hP hD hS hA (fun _ => rfl) (by decide) (by decide) (by decide) (Nat.le_of_ble_eq_true rfl) (Nat.le_of_ble_eq_true rfl) dX3_init_7 (fun q1 y1 H hK hP hD hS => ?_)
  refine W.widen (k := 1) (n := 60) (Nat.le_of_ble_eq_true rfl) (Nat.le_of_ble_eq_true rfl) ?_
  refine va_putF (D := (dC, dI)) (ci := 3) (v := .ref q1) (ty := .array .int) (C := RX3) (T := TX3) (N := 7) hx hb hts (jh hin_RX3) tyX3 tyX3_ok nmX3 hown hK hP hD hS 0 (jg_l rfl) rfl 0 (by decide) (hts (.fieldLink RX3 9 "BookOfAll$Lengths" "article" "[I") (jm m_648)) (fun _ h9 => h9) rfl hin rfl (by decide +kernel) rfl rfl (Nat.le_of_ble_eq_true rfl) dX3_init_9 (fun H locs hP hD hS => ?_)
  refine lv_aload_n hx hb dX3_init_12 rfl (lv_at hl 0 rfl) ?_
  refine lv_bipush (v := 60) hx hb dX3_init_13 (by decide) ?_
  refine va_newa (atype := .int) (N' := 60) (a0 := (60, .inl (fun _ => 0))) (ty := .int) hx hb (hts (.arrayClass .int) (jm m_2)) rfl hK hP hD hS hA (fun _ => rfl) (by decide) (by decide) (by decide) (Nat.le_of_ble_eq_true rfl) (Nat.le_of_ble_eq_true rfl) dX3_init_15 (fun q2 y2 H hK hP hD hS => ?_)
  refine W.widen (k := 2) (n := 120) (Nat.le_of_ble_eq_true rfl) (Nat.le_of_ble_eq_true rfl) ?_
  refine va_putF (D := (dC, dI)) (ci := 3) (v := .ref q2) (ty := .array .int) (C := RX3) (T := TX3) (N := 7) hx hb hts (jh hin_RX3) tyX3 tyX3_ok nmX3 hown hK hP hD hS 0 (jg_l (jg_s (n := 2) (jn_a (n := 1) (m := 1) rfl rfl) (Nat.le_of_ble_eq_true rfl))) rfl 1 (by decide) (hts (.fieldLink RX3 15 "BookOfAll$Lengths" "asked" "[I") (jm m_649)) (fun _ h9 => h9) rfl hin rfl (by decide +kernel) rfl rfl (Nat.le_of_ble_eq_true rfl) dX3_init_17 (fun H locs hP hD hS => ?_)
  refine lv_aload_n hx hb dX3_init_20 rfl (lv_at hl 0 rfl) ?_
  refine lv_bipush (v := 60) hx hb dX3_init_21 (by decide) ?_
  refine va_newa (atype := .int) (N' := 60) (a0 := (60, .inl (fun _ => 0))) (ty := .int) hx hb (hts (.arrayClass .int) (jm m_2)) rfl hK hP hD hS hA (fun _ => rfl) (by decide) (by decide) (by decide) (Nat.le_of_ble_eq_true rfl) (Nat.le_of_ble_eq_true rfl) dX3_init_23 (fun q3 y3 H hK hP hD hS => ?_)
  refine W.widen (k := 3) (n := 180) (Nat.le_of_ble_eq_true rfl) (Nat.le_of_ble_eq_true rfl) ?_
  refine va_putF (D := (dC, dI)) (ci := 3) (v := .ref q3) (ty := .array .int) (C := RX3) (T := TX3) (N := 7) hx hb hts (jh hin_RX3) tyX3 tyX3_ok nmX3 hown hK hP hD hS 0 (jg_l (jg_s (n := 3) (jn_a (n := 2) (m := 1) (jn_s (jn_a (n := 1) (m := 1) rfl rfl)) rfl) (Nat.le_of_ble_eq_true rfl))) rfl 2 (by decide) (hts (.fieldLink RX3 18 "BookOfAll$Lengths" "least" "[I") (jm m_430)) (fun _ h9 => h9) rfl hin rfl (by decide +kernel) rfl rfl (Nat.le_of_ble_eq_true rfl) dX3_init_25 (fun H locs hP hD hS => ?_)
  refine lv_aload_n hx hb dX3_init_28 rfl (lv_at hl 0 rfl) ?_
  refine lv_bipush (v := 60) hx hb dX3_init_29 (by decide) ?_
  refine va_newa (atype := .int) (N' := 60) (a0 := (60, .inl (fun _ => 0))) (ty := .int) hx hb (hts (.arrayClass .int) (jm m_2)) rfl hK hP hD hS hA (fun _ => rfl) (by decide) (by decide) (by decide) (Nat.le_of_ble_eq_true rfl) (Nat.le_of_ble_eq_true rfl) dX3_init_31 (fun q4 y4 H hK hP hD hS => ?_)
  refine W.widen (k := 4) (n := 240) (Nat.le_of_ble_eq_true rfl) (Nat.le_of_ble_eq_true rfl) ?_
  refine va_putF (D := (dC, dI)) (ci := 3) (v := .ref q4) (ty := .array .int) (C := RX3) (T := TX3) (N := 7) hx hb hts (jh hin_RX3) tyX3 tyX3_ok nmX3 hown hK hP hD hS 0 (jg_l (jg_s (n := 4) (jn_a (n := 3) (m := 1) (jn_s (jn_a (n := 2) (m := 1) (jn_s (jn_a (n := 1) (m := 1) rfl rfl)) rfl)) rfl) (Nat.le_of_ble_eq_true rfl))) rfl 3 (by decide) (hts (.fieldLink RX3 21 "BookOfAll$Lengths" "most" "[I") (jm m_435)) (fun _ h9 => h9) rfl hin rfl (by decide +kernel) rfl rfl (Nat.le_of_ble_eq_true rfl) dX3_init_33 (fun H locs hP hD hS => ?_)
  refine lv_aload_n hx hb dX3_init_36 rfl (lv_at hl 0 rfl) ?_
  refine lv_bipush (v := 60) hx hb dX3_init_37 (by decide) ?_
  refine va_newa (atype := .int) (N' := 60) (a0 := (60, .inl (fun _ => 0))) (ty := .int) hx hb (hts (.arrayClass .int) (jm m_2)) rfl hK hP hD hS hA (fun _ => rfl) (by decide) (by decide) (by decide) (Nat.le_of_ble_eq_true rfl) (Nat.le_of_ble_eq_true rfl) dX3_init_39 (fun q5 y5 H hK hP hD hS => ?_)
  refine W.widen (k := 5) (n := 300) (Nat.le_of_ble_eq_true rfl) (Nat.le_of_ble_eq_true rfl) ?_
  refine va_putF (D := (dC, dI)) (ci := 3) (v := .ref q5) (ty := .array .int) (C := RX3) (T := TX3) (N := 7) hx hb hts (jh hin_RX3) tyX3 tyX3_ok nmX3 hown hK hP hD hS 0 (jg_l (jg_s (n := 5) (jn_a (n := 4) (m := 1) (jn_s (jn_a (n := 3) (m := 1) (jn_s (jn_a (n := 2) (m := 1) (jn_s (jn_a (n := 1) (m := 1) rfl rfl)) rfl)) rfl)) rfl) (Nat.le_of_ble_eq_true rfl))) rfl 4 (by decide) (hts (.fieldLink RX3 24 "BookOfAll$Lengths" "fitted" "[I") (jm m_436)) (fun _ h9 => h9) rfl hin rfl (by decide +kernel) rfl rfl (Nat.le_of_ble_eq_true rfl) dX3_init_41 (fun H locs hP hD hS => ?_)
  refine W.widen (k := 5) (n := 300) (Nat.le_of_ble_eq_true rfl) (Nat.le_of_ble_eq_true rfl) ?_
  exact W.vret hx hb hr (fun t ht hW => ⟨⟨(fun k => [0, q1, q2, q3, q4, q5].getD k 0, fun k => [dC 0, y1, y2, y3, y4, y5].getD k (dC 0)), rfl, trivial, by rw [ht]; exact hP, va_K.moved hW.alike hK, hD⟩, hS.F ht⟩) hS.2.2 dX3_init_44
set_option maxHeartbeats 500000 in
set_option maxRecDepth 100000 in
theorem iX1_init_1 (l : Launch) (dC : Nat → ClassId) (dI : Nat → Nat → Nat) (sz h0 : Nat) : Met l yX1_init (jk yX1_init cX1_init 1 none) ({ frames := 1, cells := 8, slots := 295, locals := 40 }) (va_Pc [.ref h0] (jw_P (dC, dI) [(h0, .inr (1, [.null, .null, .null, .int 0, .null, .null, .null, .int 0, .null, .null]))] [] sz)) (va_Qv (fun (_ : ((Nat → Nat) × (Nat → ClassId))) => True) (fun u t => va_P (dC, dI) vwCl [(h0, .inr (1, [.ref (u.1 1), .ref (u.1 2), .ref (u.1 3), .int 0, .ref (u.1 4), .ref (u.1 5), .ref (u.1 6), .int 0, .ref (u.1 7), .ref (u.1 8)])), ((u.1 1), .inl ((u.2 1), 7, .inl (fun _ => 0))), ((u.1 2), .inl ((u.2 2), 7, .inl (fun _ => 0))), ((u.1 3), .inl ((u.2 3), 7, .inl (fun _ => 0))), ((u.1 4), .inl ((u.2 4), 6, .inl (fun _ => 0))), ((u.1 5), .inl ((u.2 5), 6, .inl (fun _ => 0))), ((u.1 6), .inl ((u.2 6), 6, .inl (fun _ => 0))), ((u.1 7), .inl ((u.2 7), 128, .inl (fun _ => 0))), ((u.1 8), .inl ((u.2 8), 128, .inl (fun _ => 0)))] t.heap ∧ va_K (dC, dI) vwCl [((u.2 1), .int), ((u.2 2), .int), ((u.2 3), .int), ((u.2 4), .int), ((u.2 5), .int), ((u.2 6), .int), ((u.2 7), .int), ((u.2 8), .boolean)] t ∧ va_D (va_A [(h0, .inr (1, [.null, .null, .null, .int 0, .null, .null, .null, .int 0, .null, .null]))] sz) [(h0, .inr (1, [.ref (u.1 1), .ref (u.1 2), .ref (u.1 3), .int 0, .ref (u.1 4), .ref (u.1 5), .ref (u.1 6), .int 0, .ref (u.1 7), .ref (u.1 8)])), ((u.1 1), .inl ((u.2 1), 7, .inl (fun _ => 0))), ((u.1 2), .inl ((u.2 2), 7, .inl (fun _ => 0))), ((u.1 3), .inl ((u.2 3), 7, .inl (fun _ => 0))), ((u.1 4), .inl ((u.2 4), 6, .inl (fun _ => 0))), ((u.1 5), .inl ((u.2 5), 6, .inl (fun _ => 0))), ((u.1 6), .inl ((u.2 6), 6, .inl (fun _ => 0))), ((u.1 7), .inl ((u.2 7), 128, .inl (fun _ => 0))), ((u.1 8), .inl ((u.2 8), 128, .inl (fun _ => 0)))]) (va_A [(h0, .inr (1, [.null, .null, .null, .int 0, .null, .null, .null, .int 0, .null, .null]))] sz)) 8 295 (va_A [(h0, .inr (1, [.null, .null, .null, .int 0, .null, .null, .null, .int 0, .null, .null]))] sz) := by
  refine Met.ofW (cc := cX1_init) (maxL := 1) (ret := none) (by decide) rfl ?_
  intro p e s m args below meth c s₁ B hml hv
  obtain ⟨rfl, hsz, hP, hK, hD0⟩ := hv
  have hx := B.exec
  have hb := B.bytes
  have hr := B.returns
  have hts := atoms_spec (ws := (jk yX1_init cX1_init 1 none)) B.pre
  have hown : s.vm.findClass RX1 = some m.cls := findClass_of_methodNamed B.named
  have hlocks := B.notSynchronized
  have hin : meth.name = "<init>" := (name_of_methodNamed B.named B.method).1
  subst hsz
  have hD := hD0.self (sz := s.heap.size)
  generalize hAe : (va_A [(h0, .inr (1, [.null, .null, .null, .int 0, .null, .null, .null, .int 0, .null, .null]))] s.heap.size) = A at hD ⊢
  have hA : ∀ q : Nat, s.heap.size ≤ q → A q := fun q h => by rw [← hAe]; exact Or.inr h
  have hS : va_S A s.heap s.heap [] := va_S.rf
  have hP : va_P (dC, dI) vwCl [(h0, .inr (1, [.null, .null, .null, .int 0, .null, .null, .null, .int 0, .null, .null]))] s.heap := hP
  have hl := lv_entry ([.ref h0]) (n := 1) (Nat.le_of_ble_eq_true rfl)
  rw [lg_entry_eq]
  generalize (lg_sl ([.ref h0]) ++ List.replicate (1 - (lg_sl ([.ref h0])).length) Slot.unset).toArray = ls at hl ⊢
  have hl : lv_has ls 1 [(0, .ref h0)] := hl
  refine lv_aload_n hx hb dX1_init_0 rfl (lv_at hl 0 rfl) ?_
  refine W.objInit hx hb hown (hts (.methodLink RX1 5 objectInit) (jm m_654)) (hts (.instanceMethod objectInit) (jm m_163)) (hts (.code objectInit ⟨#[0xb1]⟩ 1 none) (jm m_164)) rfl (by rw [hml]; exact hl.1) rfl dX1_init_1 (Nat.le_of_ble_eq_true rfl) (Nat.le_of_ble_eq_true rfl) ?_
  refine W.eq (g2 := F0 m 4 ls []) rfl ?_
  refine lv_aload_n hx hb dX1_init_4 rfl (lv_at hl 0 rfl) ?_
  refine lv_bipush (v := 7) hx hb dX1_init_5 (by decide) ?_
  refine va_newa (atype := .int) (N' := 7) (a0 := (7, .inl (fun _ => 0))) (ty := .int) hx hb (hts (.arrayClass .int) (jm m_2)) rfl hK hP hD hS hA (fun _ => rfl) (by decide) (by decide) (by decide) (Nat.le_of_ble_eq_true rfl) (Nat.le_of_ble_eq_true rfl) dX1_init_7 (fun q1 y1 H hK hP hD hS => ?_)
  refine W.widen (k := 1) (n := 7) (Nat.le_of_ble_eq_true rfl) (Nat.le_of_ble_eq_true rfl) ?_
  refine va_putF (D := (dC, dI)) (ci := 1) (v := .ref q1) (ty := .array .int) (C := RX1) (T := TX1) (N := 10) hx hb hts (jh hin_RX1) tyX1 tyX1_ok nmX1 hown hK hP hD hS 0 (jg_l rfl) rfl 0 (by decide) (hts (.fieldLink RX1 11 "BookOfAll$Giver" "article" "[I") (jm m_655)) (fun _ h9 => h9) rfl hin rfl (by decide +kernel) rfl rfl (Nat.le_of_ble_eq_true rfl) dX1_init_9 (fun H locs hP hD hS => ?_)
  refine lv_aload_n hx hb dX1_init_12 rfl (lv_at hl 0 rfl) ?_
  refine lv_bipush (v := 7) hx hb dX1_init_13 (by decide) ?_
  refine va_newa (atype := .int) (N' := 7) (a0 := (7, .inl (fun _ => 0))) (ty := .int) hx hb (hts (.arrayClass .int) (jm m_2)) rfl hK hP hD hS hA (fun _ => rfl) (by decide) (by decide) (by decide) (Nat.le_of_ble_eq_true rfl) (Nat.le_of_ble_eq_true rfl) dX1_init_15 (fun q2 y2 H hK hP hD hS => ?_)
  refine W.widen (k := 2) (n := 14) (Nat.le_of_ble_eq_true rfl) (Nat.le_of_ble_eq_true rfl) ?_
  refine va_putF (D := (dC, dI)) (ci := 1) (v := .ref q2) (ty := .array .int) (C := RX1) (T := TX1) (N := 10) hx hb hts (jh hin_RX1) tyX1 tyX1_ok nmX1 hown hK hP hD hS 0 (jg_l (jg_s (n := 2) (jn_a (n := 1) (m := 1) rfl rfl) (Nat.le_of_ble_eq_true rfl))) rfl 1 (by decide) (hts (.fieldLink RX1 15 "BookOfAll$Giver" "lack" "[I") (jm m_656)) (fun _ h9 => h9) rfl hin rfl (by decide +kernel) rfl rfl (Nat.le_of_ble_eq_true rfl) dX1_init_17 (fun H locs hP hD hS => ?_)
  refine lv_aload_n hx hb dX1_init_20 rfl (lv_at hl 0 rfl) ?_
  refine lv_bipush (v := 7) hx hb dX1_init_21 (by decide) ?_
  refine va_newa (atype := .int) (N' := 7) (a0 := (7, .inl (fun _ => 0))) (ty := .int) hx hb (hts (.arrayClass .int) (jm m_2)) rfl hK hP hD hS hA (fun _ => rfl) (by decide) (by decide) (by decide) (Nat.le_of_ble_eq_true rfl) (Nat.le_of_ble_eq_true rfl) dX1_init_23 (fun q3 y3 H hK hP hD hS => ?_)
  refine W.widen (k := 3) (n := 21) (Nat.le_of_ble_eq_true rfl) (Nat.le_of_ble_eq_true rfl) ?_
  refine va_putF (D := (dC, dI)) (ci := 1) (v := .ref q3) (ty := .array .int) (C := RX1) (T := TX1) (N := 10) hx hb hts (jh hin_RX1) tyX1 tyX1_ok nmX1 hown hK hP hD hS 0 (jg_l (jg_s (n := 3) (jn_a (n := 2) (m := 1) (jn_s (jn_a (n := 1) (m := 1) rfl rfl)) rfl) (Nat.le_of_ble_eq_true rfl))) rfl 2 (by decide) (hts (.fieldLink RX1 18 "BookOfAll$Giver" "chosen" "[I") (jm m_657)) (fun _ h9 => h9) rfl hin rfl (by decide +kernel) rfl rfl (Nat.le_of_ble_eq_true rfl) dX1_init_25 (fun H locs hP hD hS => ?_)
  refine lv_aload_n hx hb dX1_init_28 rfl (lv_at hl 0 rfl) ?_
  refine lv_bipush (v := 6) hx hb dX1_init_29 (by decide) ?_
  refine va_newa (atype := .int) (N' := 6) (a0 := (6, .inl (fun _ => 0))) (ty := .int) hx hb (hts (.arrayClass .int) (jm m_2)) rfl hK hP hD hS hA (fun _ => rfl) (by decide) (by decide) (by decide) (Nat.le_of_ble_eq_true rfl) (Nat.le_of_ble_eq_true rfl) dX1_init_31 (fun q4 y4 H hK hP hD hS => ?_)
  refine W.widen (k := 4) (n := 27) (Nat.le_of_ble_eq_true rfl) (Nat.le_of_ble_eq_true rfl) ?_
  refine va_putF (D := (dC, dI)) (ci := 1) (v := .ref q4) (ty := .array .int) (C := RX1) (T := TX1) (N := 10) hx hb hts (jh hin_RX1) tyX1 tyX1_ok nmX1 hown hK hP hD hS 0 (jg_l (jg_s (n := 4) (jn_a (n := 3) (m := 1) (jn_s (jn_a (n := 2) (m := 1) (jn_s (jn_a (n := 1) (m := 1) rfl rfl)) rfl)) rfl) (Nat.le_of_ble_eq_true rfl))) rfl 4 (by decide) (hts (.fieldLink RX1 21 "BookOfAll$Giver" "hand" "[I") (jm m_658)) (fun _ h9 => h9) rfl hin rfl (by decide +kernel) rfl rfl (Nat.le_of_ble_eq_true rfl) dX1_init_33 (fun H locs hP hD hS => ?_)
  refine lv_aload_n hx hb dX1_init_36 rfl (lv_at hl 0 rfl) ?_
  refine lv_bipush (v := 6) hx hb dX1_init_37 (by decide) ?_
  refine va_newa (atype := .int) (N' := 6) (a0 := (6, .inl (fun _ => 0))) (ty := .int) hx hb (hts (.arrayClass .int) (jm m_2)) rfl hK hP hD hS hA (fun _ => rfl) (by decide) (by decide) (by decide) (Nat.le_of_ble_eq_true rfl) (Nat.le_of_ble_eq_true rfl) dX1_init_39 (fun q5 y5 H hK hP hD hS => ?_)
  refine W.widen (k := 5) (n := 33) (Nat.le_of_ble_eq_true rfl) (Nat.le_of_ble_eq_true rfl) ?_
  refine va_putF (D := (dC, dI)) (ci := 1) (v := .ref q5) (ty := .array .int) (C := RX1) (T := TX1) (N := 10) hx hb hts (jh hin_RX1) tyX1 tyX1_ok nmX1 hown hK hP hD hS 0 (jg_l (jg_s (n := 5) (jn_a (n := 4) (m := 1) (jn_s (jn_a (n := 3) (m := 1) (jn_s (jn_a (n := 2) (m := 1) (jn_s (jn_a (n := 1) (m := 1) rfl rfl)) rfl)) rfl)) rfl) (Nat.le_of_ble_eq_true rfl))) rfl 5 (by decide) (hts (.fieldLink RX1 24 "BookOfAll$Giver" "room" "[I") (jm m_659)) (fun _ h9 => h9) rfl hin rfl (by decide +kernel) rfl rfl (Nat.le_of_ble_eq_true rfl) dX1_init_41 (fun H locs hP hD hS => ?_)
  refine lv_aload_n hx hb dX1_init_44 rfl (lv_at hl 0 rfl) ?_
  refine lv_bipush (v := 6) hx hb dX1_init_45 (by decide) ?_
  refine va_newa (atype := .int) (N' := 6) (a0 := (6, .inl (fun _ => 0))) (ty := .int) hx hb (hts (.arrayClass .int) (jm m_2)) rfl hK hP hD hS hA (fun _ => rfl) (by decide) (by decide) (by decide) (Nat.le_of_ble_eq_true rfl) (Nat.le_of_ble_eq_true rfl) dX1_init_47 (fun q6 y6 H hK hP hD hS => ?_)
  refine W.widen (k := 6) (n := 39) (Nat.le_of_ble_eq_true rfl) (Nat.le_of_ble_eq_true rfl) ?_
  refine va_putF (D := (dC, dI)) (ci := 1) (v := .ref q6) (ty := .array .int) (C := RX1) (T := TX1) (N := 10) hx hb hts (jh hin_RX1) tyX1 tyX1_ok nmX1 hown hK hP hD hS 0 (jg_l (jg_s (n := 6) (jn_a (n := 5) (m := 1) (jn_s (jn_a (n := 4) (m := 1) (jn_s (jn_a (n := 3) (m := 1) (jn_s (jn_a (n := 2) (m := 1) (jn_s (jn_a (n := 1) (m := 1) rfl rfl)) rfl)) rfl)) rfl)) rfl) (Nat.le_of_ble_eq_true rfl))) rfl 6 (by decide) (hts (.fieldLink RX1 27 "BookOfAll$Giver" "takes" "[I") (jm m_660)) (fun _ h9 => h9) rfl hin rfl (by decide +kernel) rfl rfl (Nat.le_of_ble_eq_true rfl) dX1_init_49 (fun H locs hP hD hS => ?_)
  refine lv_aload_n hx hb dX1_init_52 rfl (lv_at hl 0 rfl) ?_
  refine lv_sipush (v := 128) hx hb dX1_init_53 (by decide) ?_
  refine va_newa (atype := .int) (N' := 128) (a0 := (128, .inl (fun _ => 0))) (ty := .int) hx hb (hts (.arrayClass .int) (jm m_2)) rfl hK hP hD hS hA (fun _ => rfl) (by decide) (by decide) (by decide) (Nat.le_of_ble_eq_true rfl) (Nat.le_of_ble_eq_true rfl) dX1_init_56 (fun q7 y7 H hK hP hD hS => ?_)
  refine W.widen (k := 7) (n := 167) (Nat.le_of_ble_eq_true rfl) (Nat.le_of_ble_eq_true rfl) ?_
  refine va_putF (D := (dC, dI)) (ci := 1) (v := .ref q7) (ty := .array .int) (C := RX1) (T := TX1) (N := 10) hx hb hts (jh hin_RX1) tyX1 tyX1_ok nmX1 hown hK hP hD hS 0 (jg_l (jg_s (n := 7) (jn_a (n := 6) (m := 1) (jn_s (jn_a (n := 5) (m := 1) (jn_s (jn_a (n := 4) (m := 1) (jn_s (jn_a (n := 3) (m := 1) (jn_s (jn_a (n := 2) (m := 1) (jn_s (jn_a (n := 1) (m := 1) rfl rfl)) rfl)) rfl)) rfl)) rfl)) rfl) (Nat.le_of_ble_eq_true rfl))) rfl 8 (by decide) (hts (.fieldLink RX1 30 "BookOfAll$Giver" "sums" "[I") (jm m_661)) (fun _ h9 => h9) rfl hin rfl (by decide +kernel) rfl rfl (Nat.le_of_ble_eq_true rfl) dX1_init_58 (fun H locs hP hD hS => ?_)
  refine lv_aload_n hx hb dX1_init_61 rfl (lv_at hl 0 rfl) ?_
  refine lv_sipush (v := 128) hx hb dX1_init_62 (by decide) ?_
  refine va_newa (atype := .boolean) (N' := 128) (a0 := (128, .inl (fun _ => 0))) (ty := .boolean) hx hb (hts (.arrayClass .boolean) (jm m_21)) rfl hK hP hD hS hA (fun _ => rfl) (by decide) (by decide) (by decide) (Nat.le_of_ble_eq_true rfl) (Nat.le_of_ble_eq_true rfl) dX1_init_65 (fun q8 y8 H hK hP hD hS => ?_)
  refine W.widen (k := 8) (n := 295) (Nat.le_of_ble_eq_true rfl) (Nat.le_of_ble_eq_true rfl) ?_
  refine va_putF (D := (dC, dI)) (ci := 1) (v := .ref q8) (ty := .array .boolean) (C := RX1) (T := TX1) (N := 10) hx hb hts (jh hin_RX1) tyX1 tyX1_ok nmX1 hown hK hP hD hS 0 (jg_l (jg_s (n := 8) (jn_a (n := 7) (m := 1) (jn_s (jn_a (n := 6) (m := 1) (jn_s (jn_a (n := 5) (m := 1) (jn_s (jn_a (n := 4) (m := 1) (jn_s (jn_a (n := 3) (m := 1) (jn_s (jn_a (n := 2) (m := 1) (jn_s (jn_a (n := 1) (m := 1) rfl rfl)) rfl)) rfl)) rfl)) rfl)) rfl)) rfl) (Nat.le_of_ble_eq_true rfl))) rfl 9 (by decide) (hts (.fieldLink RX1 33 "BookOfAll$Giver" "reached" "[Z") (jm m_662)) (fun _ h9 => h9) rfl hin rfl (by decide +kernel) rfl rfl (Nat.le_of_ble_eq_true rfl) dX1_init_67 (fun H locs hP hD hS => ?_)
  refine W.widen (k := 8) (n := 295) (Nat.le_of_ble_eq_true rfl) (Nat.le_of_ble_eq_true rfl) ?_
  exact W.vret hx hb hr (fun t ht hW => ⟨⟨(fun k => [0, q1, q2, q3, q4, q5, q6, q7, q8].getD k 0, fun k => [dC 0, y1, y2, y3, y4, y5, y6, y7, y8].getD k (dC 0)), rfl, trivial, by rw [ht]; exact hP, va_K.moved hW.alike hK, hD⟩, hS.F ht⟩) hS.2.2 dX1_init_70
set_option maxHeartbeats 500000 in
set_option maxRecDepth 100000 in
theorem iX10_init_1 (l : Launch) (dC : Nat → ClassId) (dI : Nat → Nat → Nat) (sz h0 : Nat) : Met l yX10_init (jk yX10_init cX10_init 1 none) ({ frames := 1, cells := 2, slots := 61, locals := 40 }) (va_Pc [.ref h0] (jw_P (dC, dI) [(h0, .inr (10, [.null, .int 0, .null]))] [] sz)) (va_Qv (fun (_ : ((Nat → Nat) × (Nat → ClassId))) => True) (fun u t => va_P (dC, dI) vwCl [(h0, .inr (10, [.ref (u.1 1), .int 0, .ref (u.1 2)])), ((u.1 1), .inl ((u.2 1), 30, .inl (fun _ => 0))), ((u.1 2), .inl ((u.2 2), 31, .inl (fun _ => 0)))] t.heap ∧ va_K (dC, dI) vwCl [((u.2 1), .int), ((u.2 2), .int)] t ∧ va_D (va_A [(h0, .inr (10, [.null, .int 0, .null]))] sz) [(h0, .inr (10, [.ref (u.1 1), .int 0, .ref (u.1 2)])), ((u.1 1), .inl ((u.2 1), 30, .inl (fun _ => 0))), ((u.1 2), .inl ((u.2 2), 31, .inl (fun _ => 0)))]) (va_A [(h0, .inr (10, [.null, .int 0, .null]))] sz)) 2 61 (va_A [(h0, .inr (10, [.null, .int 0, .null]))] sz) := by
  refine Met.ofW (cc := cX10_init) (maxL := 1) (ret := none) (by decide) rfl ?_
  intro p e s m args below meth c s₁ B hml hv
  obtain ⟨rfl, hsz, hP, hK, hD0⟩ := hv
  have hx := B.exec
  have hb := B.bytes
  have hr := B.returns
  have hts := atoms_spec (ws := (jk yX10_init cX10_init 1 none)) B.pre
  have hown : s.vm.findClass RX10 = some m.cls := findClass_of_methodNamed B.named
  have hlocks := B.notSynchronized
  have hin : meth.name = "<init>" := (name_of_methodNamed B.named B.method).1
  subst hsz
  have hD := hD0.self (sz := s.heap.size)
  generalize hAe : (va_A [(h0, .inr (10, [.null, .int 0, .null]))] s.heap.size) = A at hD ⊢
  have hA : ∀ q : Nat, s.heap.size ≤ q → A q := fun q h => by rw [← hAe]; exact Or.inr h
  have hS : va_S A s.heap s.heap [] := va_S.rf
  have hP : va_P (dC, dI) vwCl [(h0, .inr (10, [.null, .int 0, .null]))] s.heap := hP
  have hl := lv_entry ([.ref h0]) (n := 1) (Nat.le_of_ble_eq_true rfl)
  rw [lg_entry_eq]
  generalize (lg_sl ([.ref h0]) ++ List.replicate (1 - (lg_sl ([.ref h0])).length) Slot.unset).toArray = ls at hl ⊢
  have hl : lv_has ls 1 [(0, .ref h0)] := hl
  refine lv_aload_n hx hb dX10_init_0 rfl (lv_at hl 0 rfl) ?_
  refine W.objInit hx hb hown (hts (.methodLink RX10 3 objectInit) (jm m_667)) (hts (.instanceMethod objectInit) (jm m_163)) (hts (.code objectInit ⟨#[0xb1]⟩ 1 none) (jm m_164)) rfl (by rw [hml]; exact hl.1) rfl dX10_init_1 (Nat.le_of_ble_eq_true rfl) (Nat.le_of_ble_eq_true rfl) ?_
  refine W.eq (g2 := F0 m 4 ls []) rfl ?_
  refine lv_aload_n hx hb dX10_init_4 rfl (lv_at hl 0 rfl) ?_
  refine lv_bipush (v := 30) hx hb dX10_init_5 (by decide) ?_
  refine va_newa (atype := .int) (N' := 30) (a0 := (30, .inl (fun _ => 0))) (ty := .int) hx hb (hts (.arrayClass .int) (jm m_2)) rfl hK hP hD hS hA (fun _ => rfl) (by decide) (by decide) (by decide) (Nat.le_of_ble_eq_true rfl) (Nat.le_of_ble_eq_true rfl) dX10_init_7 (fun q1 y1 H hK hP hD hS => ?_)
  refine W.widen (k := 1) (n := 30) (Nat.le_of_ble_eq_true rfl) (Nat.le_of_ble_eq_true rfl) ?_
  refine va_putF (D := (dC, dI)) (ci := 10) (v := .ref q1) (ty := .array .int) (C := RX10) (T := TX10) (N := 3) hx hb hts (jh hin_RX10) tyX10 tyX10_ok nmX10 hown hK hP hD hS 0 (jg_l rfl) rfl 0 (by decide) (hts (.fieldLink RX10 11 "BookOfAll$Thief" "row" "[I") (jm m_475)) (fun _ h9 => h9) rfl hin rfl (by decide +kernel) rfl rfl (Nat.le_of_ble_eq_true rfl) dX10_init_9 (fun H locs hP hD hS => ?_)
  refine lv_aload_n hx hb dX10_init_12 rfl (lv_at hl 0 rfl) ?_
  refine lv_bipush (v := 31) hx hb dX10_init_13 (by decide) ?_
  refine va_newa (atype := .int) (N' := 31) (a0 := (31, .inl (fun _ => 0))) (ty := .int) hx hb (hts (.arrayClass .int) (jm m_2)) rfl hK hP hD hS hA (fun _ => rfl) (by decide) (by decide) (by decide) (Nat.le_of_ble_eq_true rfl) (Nat.le_of_ble_eq_true rfl) dX10_init_15 (fun q2 y2 H hK hP hD hS => ?_)
  refine W.widen (k := 2) (n := 61) (Nat.le_of_ble_eq_true rfl) (Nat.le_of_ble_eq_true rfl) ?_
  refine va_putF (D := (dC, dI)) (ci := 10) (v := .ref q2) (ty := .array .int) (C := RX10) (T := TX10) (N := 3) hx hb hts (jh hin_RX10) tyX10 tyX10_ok nmX10 hown hK hP hD hS 0 (jg_l (jg_s (n := 2) (jn_a (n := 1) (m := 1) rfl rfl) (Nat.le_of_ble_eq_true rfl))) rfl 2 (by decide) (hts (.fieldLink RX10 15 "BookOfAll$Thief" "weight" "[I") (jm m_668)) (fun _ h9 => h9) rfl hin rfl (by decide +kernel) rfl rfl (Nat.le_of_ble_eq_true rfl) dX10_init_17 (fun H locs hP hD hS => ?_)
  refine W.widen (k := 2) (n := 61) (Nat.le_of_ble_eq_true rfl) (Nat.le_of_ble_eq_true rfl) ?_
  exact W.vret hx hb hr (fun t ht hW => ⟨⟨(fun k => [0, q1, q2].getD k 0, fun k => [dC 0, y1, y2].getD k (dC 0)), rfl, trivial, by rw [ht]; exact hP, va_K.moved hW.alike hK, hD⟩, hS.F ht⟩) hS.2.2 dX10_init_20
