set_option maxHeartbeats 500000 in
set_option maxRecDepth 100000 in
theorem iX11_init_6 (l : Launch) (dC : Nat → ClassId) (dI : Nat → Nat → Nat) (sz h0 : Nat) : Met l yX11_init (jk yX11_init cX11_init 2 none) ({ frames := 1, cells := 2, slots := 0, locals := 40 }) (va_Pc [.ref h0, .int 5] (jw_P (dC, dI) [(h0, .inr (11, [.int 0, .int 0, .null, .null, .int 0, .int 0, .int 0]))] [] sz)) (va_Qv (fun (_ : ((Nat → Nat) × (Nat → ClassId))) => True) (fun u t => va_P (dC, dI) vwCl [(h0, .inr (11, [.int 25, .int (-1), .ref (u.1 1), .ref (u.1 2), .int 0, .int 0, .int 0])), ((u.1 1), .inl ((u.2 1), 0, .inl (fun _ => 0))), ((u.1 2), .inl ((u.2 2), 0, .inl (fun _ => 0)))] t.heap ∧ va_K (dC, dI) vwCl [((u.2 1), .int), ((u.2 2), .int)] t ∧ va_D (va_A [(h0, .inr (11, [.int 0, .int 0, .null, .null, .int 0, .int 0, .int 0]))] sz) [(h0, .inr (11, [.int 25, .int (-1), .ref (u.1 1), .ref (u.1 2), .int 0, .int 0, .int 0])), ((u.1 1), .inl ((u.2 1), 0, .inl (fun _ => 0))), ((u.1 2), .inl ((u.2 2), 0, .inl (fun _ => 0)))]) (va_A [(h0, .inr (11, [.int 0, .int 0, .null, .null, .int 0, .int 0, .int 0]))] sz)) 2 0 (va_A [(h0, .inr (11, [.int 0, .int 0, .null, .null, .int 0, .int 0, .int 0]))] sz) := by
  refine Met.ofW (cc := cX11_init) (maxL := 2) (ret := none) (by decide) rfl ?_
  intro p e s m args below meth c s₁ B hml hv
  obtain ⟨rfl, hsz, hP, hK, hD0⟩ := hv
  have hx := B.exec
  have hb := B.bytes
  have hr := B.returns
  have hts := atoms_spec (ws := (jk yX11_init cX11_init 2 none)) B.pre
  have hown : s.vm.findClass RX11 = some m.cls := findClass_of_methodNamed B.named
  have hlocks := B.notSynchronized
  have hin : meth.name = "<init>" := (name_of_methodNamed B.named B.method).1
  subst hsz
  have hD := hD0.self (sz := s.heap.size)
  generalize hAe : (va_A [(h0, .inr (11, [.int 0, .int 0, .null, .null, .int 0, .int 0, .int 0]))] s.heap.size) = A at hD ⊢
  have hA : ∀ q : Nat, s.heap.size ≤ q → A q := fun q h => by rw [← hAe]; exact Or.inr h
  have hS : va_S A s.heap s.heap [] := va_S.rf
  have hP : va_P (dC, dI) vwCl [(h0, .inr (11, [.int 0, .int 0, .null, .null, .int 0, .int 0, .int 0]))] s.heap := hP
  have hl := lv_entry ([.ref h0, .int 5]) (n := 2) (Nat.le_of_ble_eq_true rfl)
  rw [lg_entry_eq]
  generalize (lg_sl ([.ref h0, .int 5]) ++ List.replicate (2 - (lg_sl ([.ref h0, .int 5])).length) Slot.unset).toArray = ls at hl ⊢
  have hl : lv_has ls 2 [(0, .ref h0), (1, .int 5)] := hl
  refine lv_aload_n hx hb dX11_init_0 rfl (lv_at hl 0 rfl) ?_
  refine W.objInit hx hb hown (hts (.methodLink RX11 3 objectInit) (jm m_621)) (hts (.instanceMethod objectInit) (jm m_163)) (hts (.code objectInit ⟨#[0xb1]⟩ 1 none) (jm m_164)) rfl (by rw [hml]; exact hl.1) rfl dX11_init_1 (Nat.le_of_ble_eq_true rfl) (Nat.le_of_ble_eq_true rfl) ?_
  refine W.eq (g2 := F0 m 4 ls []) rfl ?_
  refine lv_aload_n hx hb dX11_init_4 rfl (lv_at hl 0 rfl) ?_
  refine lv_iconst (v := (-1)) hx hb dX11_init_5 (by decide) ?_
  refine va_put (D := (dC, dI)) (ci := 11) (v := .int (-1)) (ty := .int) (C := RX11) (T := TX11) (N := 7) hx hb hts (jh hin_RX11) tyX11 tyX11_ok nmX11 hown hK hP hD hS 0 rfl rfl 1 (by decide) (hts (.fieldLink RX11 9 "BookOfAll$Volume" "setDay" "I") (jm m_622)) (fun _ h9 => h9) rfl (by decide +kernel) rfl rfl (Nat.le_of_ble_eq_true rfl) dX11_init_6 (fun H locs hP hD hS => ?_)
  refine lv_aload_n hx hb dX11_init_9 rfl (lv_at hl 0 rfl) ?_
  refine lv_iconst (v := 0) hx hb dX11_init_10 (by decide) ?_
  refine va_newa (atype := .int) (N' := 0) (a0 := (0, .inl (fun _ => 0))) (ty := .int) hx hb (hts (.arrayClass .int) (jm m_2)) rfl hK hP hD hS hA (fun _ => rfl) (by decide) (by decide) (by decide) (Nat.le_of_ble_eq_true rfl) (Nat.le_of_ble_eq_true rfl) dX11_init_11 (fun q1 y1 H hK hP hD hS => ?_)
  refine W.widen (k := 1) (n := 0) (Nat.le_of_ble_eq_true rfl) (Nat.le_of_ble_eq_true rfl) ?_
  refine va_put (D := (dC, dI)) (ci := 11) (v := .ref q1) (ty := .array .int) (C := RX11) (T := TX11) (N := 7) hx hb hts (jh hin_RX11) tyX11 tyX11_ok nmX11 hown hK hP hD hS 0 (jg_l (jg_s (n := 1) rfl (Nat.le_of_ble_eq_true rfl))) rfl 2 (by decide) (hts (.fieldLink RX11 15 "BookOfAll$Volume" "order" "[I") (jm m_623)) (fun _ h9 => h9) rfl (by decide +kernel) rfl rfl (Nat.le_of_ble_eq_true rfl) dX11_init_13 (fun H locs hP hD hS => ?_)
  refine lv_aload_n hx hb dX11_init_16 rfl (lv_at hl 0 rfl) ?_
  refine lv_iconst (v := 0) hx hb dX11_init_17 (by decide) ?_
  refine va_newa (atype := .int) (N' := 0) (a0 := (0, .inl (fun _ => 0))) (ty := .int) hx hb (hts (.arrayClass .int) (jm m_2)) rfl hK hP hD hS hA (fun _ => rfl) (by decide) (by decide) (by decide) (Nat.le_of_ble_eq_true rfl) (Nat.le_of_ble_eq_true rfl) dX11_init_18 (fun q2 y2 H hK hP hD hS => ?_)
  refine W.widen (k := 2) (n := 0) (Nat.le_of_ble_eq_true rfl) (Nat.le_of_ble_eq_true rfl) ?_
  refine va_put (D := (dC, dI)) (ci := 11) (v := .ref q2) (ty := .array .int) (C := RX11) (T := TX11) (N := 7) hx hb hts (jh hin_RX11) tyX11 tyX11_ok nmX11 hown hK hP hD hS 0 (jg_l (jg_s (n := 2) (jn_a (n := 1) (m := 1) (jn_s rfl) rfl) (Nat.le_of_ble_eq_true rfl))) rfl 3 (by decide) (hts (.fieldLink RX11 19 "BookOfAll$Volume" "laid" "[I") (jm m_624)) (fun _ h9 => h9) rfl (by decide +kernel) rfl rfl (Nat.le_of_ble_eq_true rfl) dX11_init_20 (fun H locs hP hD hS => ?_)
  refine lv_aload_n hx hb dX11_init_23 rfl (lv_at hl 0 rfl) ?_
  refine lv_bipush (v := 25) hx hb dX11_init_24 (by decide) ?_
  refine lv_iconst (v := 5) hx hb dX11_init_26 (by decide) ?_
  refine lv_iload_n hx hb dX11_init_27 rfl (lv_at hl 1 rfl) ?_
  refine lv_imul hx hb dX11_init_28 ?_
  refine jt_i 25 (by decide) ?_
  refine lv_iconst (v := 4) hx hb dX11_init_29 (by decide) ?_
  refine lv_iadd hx hb dX11_init_30 ?_
  refine jt_i 29 (by decide) ?_
  refine va_mmin hx hb (by rw [hml]; exact hl.1.symm) hown (hts (.methodLink RX11 22 Lib.Math.min.name) (jm m_625)) (hts (.static Lib.Math.min.name) (jm m_173)) (hts (.initialized "java/lang/Math") (jm m_170)) (hts (.code Lib.Math.min.name Lib.Math.min.code 2 (some .int)) (jm m_174)) (Nat.le_of_ble_eq_true rfl) (Nat.le_of_ble_eq_true rfl) (Nat.le_of_ble_eq_true rfl) (Nat.le_of_ble_eq_true rfl) dX11_init_31 ?_
  refine jt_i 25 (by decide) ?_
  refine va_put (D := (dC, dI)) (ci := 11) (v := .int 25) (ty := .int) (C := RX11) (T := TX11) (N := 7) hx hb hts (jh hin_RX11) tyX11 tyX11_ok nmX11 hown hK hP hD hS 0 (jg_s (n := 3) (jn_a (n := 2) (m := 1) (jn_s (jn_a (n := 1) (m := 1) (jn_s rfl) rfl)) rfl) (Nat.le_of_ble_eq_true rfl)) rfl 0 (by decide) (hts (.fieldLink RX11 28 "BookOfAll$Volume" "lastLetter" "I") (jm m_626)) (fun _ h9 => h9) rfl (by decide +kernel) rfl rfl (Nat.le_of_ble_eq_true rfl) dX11_init_34 (fun H locs hP hD hS => ?_)
  refine W.widen (k := 2) (n := 0) (Nat.le_of_ble_eq_true rfl) (Nat.le_of_ble_eq_true rfl) ?_
  exact W.vret hx hb hr (fun t ht hW => ⟨⟨(fun k => [0, q1, q2].getD k 0, fun k => [dC 0, y1, y2].getD k (dC 0)), rfl, trivial, by rw [ht]; exact hP, va_K.moved hW.alike hK, hD⟩, hS.F ht⟩) hS.2.2 dX11_init_37
theorem jy3 {α : Type} {a : α} {r x : List α} : (a :: r) ++ x = a :: (r ++ x) := rfl
theorem jy4 {α : Type} {a c : α} {r : List α} : (a :: r).set 0 c = c :: r := rfl
theorem jy5 {α : Type} {a x : α} {r m : List α} {k : Nat} (e : r.set k x = m) : (a :: r).set (k + 1) x = a :: m := by rw [List.set_cons_succ, e]
theorem jy1 {α : Type} {w m x : List α} {k : Nat} {c : α} (h : k < w.length) (e : w.set k c = m) : (w ++ x).set k c = m ++ x := by rw [List.set_append_left _ _ h, e]
theorem jy2 {α : Type} {w x : List α} {n k i : Nat} {c : α} (hn : w.length = n) (hk : k = n + i) : (w ++ x).set k c = w ++ x.set i c := by
  subst hn; subst hk
  rw [List.set_append_right _ _ (Nat.le_add_right _ _), Nat.add_sub_cancel_left]
theorem jg_c0 {α : Type} {a : α} {r : List α} : (a :: r)[0]? = some a := rfl
theorem jg_c {α : Type} {a : α} {r : List α} {k : Nat} {e : Option α} (g : r[k]? = e) : (a :: r)[k + 1]? = e := by rw [List.getElem?_cons_succ]; exact g
theorem jn_c {α : Type} {a : α} {r : List α} {n : Nat} (h : r.length = n) : (a :: r).length = n + 1 := by rw [List.length_cons, h]
set_option maxHeartbeats 1000000 in
set_option maxRecDepth 100000 in
theorem iX5_init_1 (l : Launch) (dC : Nat → ClassId) (dI : Nat → Nat → Nat) (sz h0 : Nat) : Met l yX5_init (jk yX5_init cX5_init 1 none) ({ frames := 1, cells := 10, slots := 2740, locals := 40 }) (va_Pc [.ref h0] (jw_P (dC, dI) [(h0, .inr (5, [.null, .null, .null, .null, .null, .int 0, .null, .null, .null, .null, .null, .int 0]))] [] sz)) (va_Qv (fun (_ : ((Nat → Nat) × (Nat → ClassId))) => True) (fun u t => va_P (dC, dI) vwCl [(h0, .inr (5, [.ref (u.1 1), .ref (u.1 2), .ref (u.1 3), .ref (u.1 4), .ref (u.1 5), .int 0, .ref (u.1 6), .ref (u.1 7), .ref (u.1 8), .ref (u.1 9), .ref (u.1 10), .int 0])), ((u.1 1), .inl ((u.2 1), 40, .inl (jfill (fun _ => 0) 40 (-1)))), ((u.1 2), .inl ((u.2 2), 600, .inl (fun _ => 0))), ((u.1 3), .inl ((u.2 3), 600, .inl (fun _ => 0))), ((u.1 4), .inl ((u.2 4), 600, .inl (fun _ => 0))), ((u.1 5), .inl ((u.2 5), 600, .inl (fun _ => 0))), ((u.1 6), .inl ((u.2 6), 60, .inl (fun _ => 0))), ((u.1 7), .inl ((u.2 7), 60, .inl (fun _ => 0))), ((u.1 8), .inl ((u.2 8), 60, .inl (fun _ => 0))), ((u.1 9), .inl ((u.2 9), 60, .inl (fun _ => 0))), ((u.1 10), .inl ((u.2 10), 60, .inl (fun _ => 0)))] t.heap ∧ va_K (dC, dI) vwCl [((u.2 1), .int), ((u.2 2), .int), ((u.2 3), .int), ((u.2 4), .int), ((u.2 5), .int), ((u.2 6), .int), ((u.2 7), .int), ((u.2 8), .int), ((u.2 9), .int), ((u.2 10), .boolean)] t ∧ va_D (va_A [(h0, .inr (5, [.null, .null, .null, .null, .null, .int 0, .null, .null, .null, .null, .null, .int 0]))] sz) [(h0, .inr (5, [.ref (u.1 1), .ref (u.1 2), .ref (u.1 3), .ref (u.1 4), .ref (u.1 5), .int 0, .ref (u.1 6), .ref (u.1 7), .ref (u.1 8), .ref (u.1 9), .ref (u.1 10), .int 0])), ((u.1 1), .inl ((u.2 1), 40, .inl (jfill (fun _ => 0) 40 (-1)))), ((u.1 2), .inl ((u.2 2), 600, .inl (fun _ => 0))), ((u.1 3), .inl ((u.2 3), 600, .inl (fun _ => 0))), ((u.1 4), .inl ((u.2 4), 600, .inl (fun _ => 0))), ((u.1 5), .inl ((u.2 5), 600, .inl (fun _ => 0))), ((u.1 6), .inl ((u.2 6), 60, .inl (fun _ => 0))), ((u.1 7), .inl ((u.2 7), 60, .inl (fun _ => 0))), ((u.1 8), .inl ((u.2 8), 60, .inl (fun _ => 0))), ((u.1 9), .inl ((u.2 9), 60, .inl (fun _ => 0))), ((u.1 10), .inl ((u.2 10), 60, .inl (fun _ => 0)))]) (va_A [(h0, .inr (5, [.null, .null, .null, .null, .null, .int 0, .null, .null, .null, .null, .null, .int 0]))] sz)) 10 2740 (va_A [(h0, .inr (5, [.null, .null, .null, .null, .null, .int 0, .null, .null, .null, .null, .null, .int 0]))] sz) := by
  refine Met.ofW (cc := cX5_init) (maxL := 1) (ret := none) (by decide) rfl ?_
  intro p e s m args below meth c s₁ B hml hv
  obtain ⟨rfl, hsz, hP, hK, hD0⟩ := hv
  have hx := B.exec
  have hb := B.bytes
  have hr := B.returns
  have hts := atoms_spec (ws := (jk yX5_init cX5_init 1 none)) B.pre
  have hown : s.vm.findClass RX5 = some m.cls := findClass_of_methodNamed B.named
  have hlocks := B.notSynchronized
  have hin : meth.name = "<init>" := (name_of_methodNamed B.named B.method).1
  subst hsz
  have hD := hD0.self (sz := s.heap.size)
  generalize hAe : (va_A [(h0, .inr (5, [.null, .null, .null, .null, .null, .int 0, .null, .null, .null, .null, .null, .int 0]))] s.heap.size) = A at hD ⊢
  have hA : ∀ q : Nat, s.heap.size ≤ q → A q := fun q h => by rw [← hAe]; exact Or.inr h
  have hS : va_S A s.heap s.heap [] := va_S.rf
  have hP : va_P (dC, dI) vwCl [(h0, .inr (5, [.null, .null, .null, .null, .null, .int 0, .null, .null, .null, .null, .null, .int 0]))] s.heap := hP
  have hl := lv_entry ([.ref h0]) (n := 1) (Nat.le_of_ble_eq_true rfl)
  rw [lg_entry_eq]
  generalize (lg_sl ([.ref h0]) ++ List.replicate (1 - (lg_sl ([.ref h0])).length) Slot.unset).toArray = ls at hl ⊢
  have hl : lv_has ls 1 [(0, .ref h0)] := hl
  have hf : ([.null, .null, .null, .null, .null, .int 0, .null, .null, .null, .null, .null, .int 0] : List Value).length = 12 := rfl
  refine lv_aload_n hx hb dX5_init_0 rfl (lv_at hl 0 rfl) ?_
  refine W.objInit hx hb hown (hts (.methodLink RX5 3 objectInit) (jm m_634)) (hts (.instanceMethod objectInit) (jm m_163)) (hts (.code objectInit ⟨#[0xb1]⟩ 1 none) (jm m_164)) rfl (by rw [hml]; exact hl.1) rfl dX5_init_1 (Nat.le_of_ble_eq_true rfl) (Nat.le_of_ble_eq_true rfl) ?_
  refine W.eq (g2 := F0 m 4 ls []) rfl ?_
  refine lv_aload_n hx hb dX5_init_4 rfl (lv_at hl 0 rfl) ?_
  refine lv_bipush (v := 40) hx hb dX5_init_5 (by decide) ?_
  refine va_newa (atype := .int) (N' := 40) (a0 := (40, .inl (fun _ => 0))) (ty := .int) hx hb (hts (.arrayClass .int) (jm m_2)) rfl hK hP hD hS hA (fun _ => rfl) (by decide) (by decide) (by decide) (Nat.le_of_ble_eq_true rfl) (Nat.le_of_ble_eq_true rfl) dX5_init_7 (fun q1 y1 H hK hP hD hS => ?_)
  refine W.widen (k := 1) (n := 40) (Nat.le_of_ble_eq_true rfl) (Nat.le_of_ble_eq_true rfl) ?_
  have hP := jrP hP jy3
  have hD := jrD hD jy3
  refine va_putF (D := (dC, dI)) (ci := 5) (v := .ref q1) (ty := .array .int) (C := RX5) (T := TX5) (N := 12) hx hb hts (jh hin_RX5) tyX5 tyX5_ok nmX5 hown hK hP hD hS 0 jg_c0 rfl 0 (by decide) (hts (.fieldLink RX5 11 "BookOfAll$News" "latest" "[I") (jm m_366)) (fun _ h9 => h9) rfl hin rfl (by decide +kernel) rfl rfl (jn_lt hf (Nat.le_of_ble_eq_true rfl)) dX5_init_9 (fun H locs hP hD hS => ?_)
  have hP := jrP hP jy4
  have hD := jrD hD jy4
  have hf := jn_s (k := 0) (x := .ref q1) hf
  refine lv_aload_n hx hb dX5_init_12 rfl (lv_at hl 0 rfl) ?_
  refine lv_sipush (v := 600) hx hb dX5_init_13 (by decide) ?_
  refine va_newa (atype := .int) (N' := 600) (a0 := (600, .inl (fun _ => 0))) (ty := .int) hx hb (hts (.arrayClass .int) (jm m_2)) rfl hK hP hD hS hA (fun _ => rfl) (by decide) (by decide) (by decide) (Nat.le_of_ble_eq_true rfl) (Nat.le_of_ble_eq_true rfl) dX5_init_16 (fun q2 y2 H hK hP hD hS => ?_)
  refine W.widen (k := 2) (n := 640) (Nat.le_of_ble_eq_true rfl) (Nat.le_of_ble_eq_true rfl) ?_
  have hP := jrP hP jy3
  have hD := jrD hD jy3
  refine va_putF (D := (dC, dI)) (ci := 5) (v := .ref q2) (ty := .array .int) (C := RX5) (T := TX5) (N := 12) hx hb hts (jh hin_RX5) tyX5 tyX5_ok nmX5 hown hK hP hD hS 0 jg_c0 rfl 1 (by decide) (hts (.fieldLink RX5 15 "BookOfAll$News" "value" "[I") (jm m_362)) (fun _ h9 => h9) rfl hin rfl (by decide +kernel) rfl rfl (jn_lt hf (Nat.le_of_ble_eq_true rfl)) dX5_init_18 (fun H locs hP hD hS => ?_)
  have hP := jrP hP jy4
  have hD := jrD hD jy4
  have hf := jn_s (k := 1) (x := .ref q2) hf
  refine lv_aload_n hx hb dX5_init_21 rfl (lv_at hl 0 rfl) ?_
  refine lv_sipush (v := 600) hx hb dX5_init_22 (by decide) ?_
  refine va_newa (atype := .int) (N' := 600) (a0 := (600, .inl (fun _ => 0))) (ty := .int) hx hb (hts (.arrayClass .int) (jm m_2)) rfl hK hP hD hS hA (fun _ => rfl) (by decide) (by decide) (by decide) (Nat.le_of_ble_eq_true rfl) (Nat.le_of_ble_eq_true rfl) dX5_init_25 (fun q3 y3 H hK hP hD hS => ?_)
  refine W.widen (k := 3) (n := 1240) (Nat.le_of_ble_eq_true rfl) (Nat.le_of_ble_eq_true rfl) ?_
  have hP := jrP hP jy3
  have hD := jrD hD jy3
  refine va_putF (D := (dC, dI)) (ci := 5) (v := .ref q3) (ty := .array .int) (C := RX5) (T := TX5) (N := 12) hx hb hts (jh hin_RX5) tyX5 tyX5_ok nmX5 hown hK hP hD hS 0 jg_c0 rfl 2 (by decide) (hts (.fieldLink RX5 18 "BookOfAll$News" "source" "[I") (jm m_363)) (fun _ h9 => h9) rfl hin rfl (by decide +kernel) rfl rfl (jn_lt hf (Nat.le_of_ble_eq_true rfl)) dX5_init_27 (fun H locs hP hD hS => ?_)
  have hP := jrP hP jy4
  have hD := jrD hD jy4
  have hf := jn_s (k := 2) (x := .ref q3) hf
  refine lv_aload_n hx hb dX5_init_30 rfl (lv_at hl 0 rfl) ?_
  refine lv_sipush (v := 600) hx hb dX5_init_31 (by decide) ?_
  refine va_newa (atype := .int) (N' := 600) (a0 := (600, .inl (fun _ => 0))) (ty := .int) hx hb (hts (.arrayClass .int) (jm m_2)) rfl hK hP hD hS hA (fun _ => rfl) (by decide) (by decide) (by decide) (Nat.le_of_ble_eq_true rfl) (Nat.le_of_ble_eq_true rfl) dX5_init_34 (fun q4 y4 H hK hP hD hS => ?_)
  refine W.widen (k := 4) (n := 1840) (Nat.le_of_ble_eq_true rfl) (Nat.le_of_ble_eq_true rfl) ?_
  have hP := jrP hP jy3
  have hD := jrD hD jy3
  refine va_putF (D := (dC, dI)) (ci := 5) (v := .ref q4) (ty := .array .int) (C := RX5) (T := TX5) (N := 12) hx hb hts (jh hin_RX5) tyX5 tyX5_ok nmX5 hown hK hP hD hS 0 jg_c0 rfl 3 (by decide) (hts (.fieldLink RX5 21 "BookOfAll$News" "day" "[I") (jm m_364)) (fun _ h9 => h9) rfl hin rfl (by decide +kernel) rfl rfl (jn_lt hf (Nat.le_of_ble_eq_true rfl)) dX5_init_36 (fun H locs hP hD hS => ?_)
  have hP := jrP hP jy4
  have hD := jrD hD jy4
  have hf := jn_s (k := 3) (x := .ref q4) hf
  refine lv_aload_n hx hb dX5_init_39 rfl (lv_at hl 0 rfl) ?_
  refine lv_sipush (v := 600) hx hb dX5_init_40 (by decide) ?_
  refine va_newa (atype := .int) (N' := 600) (a0 := (600, .inl (fun _ => 0))) (ty := .int) hx hb (hts (.arrayClass .int) (jm m_2)) rfl hK hP hD hS hA (fun _ => rfl) (by decide) (by decide) (by decide) (Nat.le_of_ble_eq_true rfl) (Nat.le_of_ble_eq_true rfl) dX5_init_43 (fun q5 y5 H hK hP hD hS => ?_)
  refine W.widen (k := 5) (n := 2440) (Nat.le_of_ble_eq_true rfl) (Nat.le_of_ble_eq_true rfl) ?_
  have hP := jrP hP jy3
  have hD := jrD hD jy3
  refine va_putF (D := (dC, dI)) (ci := 5) (v := .ref q5) (ty := .array .int) (C := RX5) (T := TX5) (N := 12) hx hb hts (jh hin_RX5) tyX5 tyX5_ok nmX5 hown hK hP hD hS 0 jg_c0 rfl 4 (by decide) (hts (.fieldLink RX5 24 "BookOfAll$News" "earlier" "[I") (jm m_365)) (fun _ h9 => h9) rfl hin rfl (by decide +kernel) rfl rfl (jn_lt hf (Nat.le_of_ble_eq_true rfl)) dX5_init_45 (fun H locs hP hD hS => ?_)
  have hP := jrP hP jy4
  have hD := jrD hD jy4
  have hf := jn_s (k := 4) (x := .ref q5) hf
  refine lv_aload_n hx hb dX5_init_48 rfl (lv_at hl 0 rfl) ?_
  refine lv_bipush (v := 60) hx hb dX5_init_49 (by decide) ?_
  refine va_newa (atype := .int) (N' := 60) (a0 := (60, .inl (fun _ => 0))) (ty := .int) hx hb (hts (.arrayClass .int) (jm m_2)) rfl hK hP hD hS hA (fun _ => rfl) (by decide) (by decide) (by decide) (Nat.le_of_ble_eq_true rfl) (Nat.le_of_ble_eq_true rfl) dX5_init_51 (fun q6 y6 H hK hP hD hS => ?_)
  refine W.widen (k := 6) (n := 2500) (Nat.le_of_ble_eq_true rfl) (Nat.le_of_ble_eq_true rfl) ?_
  have hP := jrP hP jy3
  have hD := jrD hD jy3
  refine va_putF (D := (dC, dI)) (ci := 5) (v := .ref q6) (ty := .array .int) (C := RX5) (T := TX5) (N := 12) hx hb hts (jh hin_RX5) tyX5 tyX5_ok nmX5 hown hK hP hD hS 0 jg_c0 rfl 6 (by decide) (hts (.fieldLink RX5 27 "BookOfAll$News" "wrongLine" "[I") (jm m_635)) (fun _ h9 => h9) rfl hin rfl (by decide +kernel) rfl rfl (jn_lt hf (Nat.le_of_ble_eq_true rfl)) dX5_init_53 (fun H locs hP hD hS => ?_)
  have hP := jrP hP jy4
  have hD := jrD hD jy4
  have hf := jn_s (k := 6) (x := .ref q6) hf
  refine lv_aload_n hx hb dX5_init_56 rfl (lv_at hl 0 rfl) ?_
  refine lv_bipush (v := 60) hx hb dX5_init_57 (by decide) ?_
  refine va_newa (atype := .int) (N' := 60) (a0 := (60, .inl (fun _ => 0))) (ty := .int) hx hb (hts (.arrayClass .int) (jm m_2)) rfl hK hP hD hS hA (fun _ => rfl) (by decide) (by decide) (by decide) (Nat.le_of_ble_eq_true rfl) (Nat.le_of_ble_eq_true rfl) dX5_init_59 (fun q7 y7 H hK hP hD hS => ?_)
  refine W.widen (k := 7) (n := 2560) (Nat.le_of_ble_eq_true rfl) (Nat.le_of_ble_eq_true rfl) ?_
  have hP := jrP hP jy3
  have hD := jrD hD jy3
  refine va_putF (D := (dC, dI)) (ci := 5) (v := .ref q7) (ty := .array .int) (C := RX5) (T := TX5) (N := 12) hx hb hts (jh hin_RX5) tyX5 tyX5_ok nmX5 hown hK hP hD hS 0 jg_c0 rfl 7 (by decide) (hts (.fieldLink RX5 30 "BookOfAll$News" "kept" "[I") (jm m_636)) (fun _ h9 => h9) rfl hin rfl (by decide +kernel) rfl rfl (jn_lt hf (Nat.le_of_ble_eq_true rfl)) dX5_init_61 (fun H locs hP hD hS => ?_)
  have hP := jrP hP jy4
  have hD := jrD hD jy4
  have hf := jn_s (k := 7) (x := .ref q7) hf
  refine lv_aload_n hx hb dX5_init_64 rfl (lv_at hl 0 rfl) ?_
  refine lv_bipush (v := 60) hx hb dX5_init_65 (by decide) ?_
  refine va_newa (atype := .int) (N' := 60) (a0 := (60, .inl (fun _ => 0))) (ty := .int) hx hb (hts (.arrayClass .int) (jm m_2)) rfl hK hP hD hS hA (fun _ => rfl) (by decide) (by decide) (by decide) (Nat.le_of_ble_eq_true rfl) (Nat.le_of_ble_eq_true rfl) dX5_init_67 (fun q8 y8 H hK hP hD hS => ?_)
  refine W.widen (k := 8) (n := 2620) (Nat.le_of_ble_eq_true rfl) (Nat.le_of_ble_eq_true rfl) ?_
  have hP := jrP hP jy3
  have hD := jrD hD jy3
  refine va_putF (D := (dC, dI)) (ci := 5) (v := .ref q8) (ty := .array .int) (C := RX5) (T := TX5) (N := 12) hx hb hts (jh hin_RX5) tyX5 tyX5_ok nmX5 hown hK hP hD hS 0 jg_c0 rfl 8 (by decide) (hts (.fieldLink RX5 33 "BookOfAll$News" "should" "[I") (jm m_637)) (fun _ h9 => h9) rfl hin rfl (by decide +kernel) rfl rfl (jn_lt hf (Nat.le_of_ble_eq_true rfl)) dX5_init_69 (fun H locs hP hD hS => ?_)
  have hP := jrP hP jy4
  have hD := jrD hD jy4
  have hf := jn_s (k := 8) (x := .ref q8) hf
  refine lv_aload_n hx hb dX5_init_72 rfl (lv_at hl 0 rfl) ?_
  refine lv_bipush (v := 60) hx hb dX5_init_73 (by decide) ?_
  refine va_newa (atype := .int) (N' := 60) (a0 := (60, .inl (fun _ => 0))) (ty := .int) hx hb (hts (.arrayClass .int) (jm m_2)) rfl hK hP hD hS hA (fun _ => rfl) (by decide) (by decide) (by decide) (Nat.le_of_ble_eq_true rfl) (Nat.le_of_ble_eq_true rfl) dX5_init_75 (fun q9 y9 H hK hP hD hS => ?_)
  refine W.widen (k := 9) (n := 2680) (Nat.le_of_ble_eq_true rfl) (Nat.le_of_ble_eq_true rfl) ?_
  have hP := jrP hP jy3
  have hD := jrD hD jy3
  refine va_putF (D := (dC, dI)) (ci := 5) (v := .ref q9) (ty := .array .int) (C := RX5) (T := TX5) (N := 12) hx hb hts (jh hin_RX5) tyX5 tyX5_ok nmX5 hown hK hP hD hS 0 jg_c0 rfl 9 (by decide) (hts (.fieldLink RX5 36 "BookOfAll$News" "erratumDay" "[I") (jm m_638)) (fun _ h9 => h9) rfl hin rfl (by decide +kernel) rfl rfl (jn_lt hf (Nat.le_of_ble_eq_true rfl)) dX5_init_77 (fun H locs hP hD hS => ?_)
  have hP := jrP hP jy4
  have hD := jrD hD jy4
  have hf := jn_s (k := 9) (x := .ref q9) hf
  refine lv_aload_n hx hb dX5_init_80 rfl (lv_at hl 0 rfl) ?_
  refine lv_bipush (v := 60) hx hb dX5_init_81 (by decide) ?_
  refine va_newa (atype := .boolean) (N' := 60) (a0 := (60, .inl (fun _ => 0))) (ty := .boolean) hx hb (hts (.arrayClass .boolean) (jm m_21)) rfl hK hP hD hS hA (fun _ => rfl) (by decide) (by decide) (by decide) (Nat.le_of_ble_eq_true rfl) (Nat.le_of_ble_eq_true rfl) dX5_init_83 (fun q10 y10 H hK hP hD hS => ?_)
  refine W.widen (k := 10) (n := 2740) (Nat.le_of_ble_eq_true rfl) (Nat.le_of_ble_eq_true rfl) ?_
  have hP := jrP hP jy3
  have hD := jrD hD jy3
  refine va_putF (D := (dC, dI)) (ci := 5) (v := .ref q10) (ty := .array .boolean) (C := RX5) (T := TX5) (N := 12) hx hb hts (jh hin_RX5) tyX5 tyX5_ok nmX5 hown hK hP hD hS 0 jg_c0 rfl 10 (by decide) (hts (.fieldLink RX5 39 "BookOfAll$News" "missed" "[Z") (jm m_639)) (fun _ h9 => h9) rfl hin rfl (by decide +kernel) rfl rfl (jn_lt hf (Nat.le_of_ble_eq_true rfl)) dX5_init_85 (fun H locs hP hD hS => ?_)
  have hP := jrP hP jy4
  have hD := jrD hD jy4
  have hf := jn_s (k := 10) (x := .ref q10) hf
  refine lv_aload_n hx hb dX5_init_88 rfl (lv_at hl 0 rfl) ?_
  refine va_get (D := (dC, dI)) (ci := 5) (v := .ref q1) (C := RX5) (T := TX5) (N := 12) hx hb hts (jh hin_RX5) hown hK hP 0 jg_c0 rfl 0 (by decide) (hts (.fieldLink RX5 11 "BookOfAll$News" "latest" "[I") (jm m_366)) (fun _ h9 => h9) (jg_n (Nat.ne_of_beq_eq_false rfl) (jg_n (Nat.ne_of_beq_eq_false rfl) (jg_n (Nat.ne_of_beq_eq_false rfl) (jg_n (Nat.ne_of_beq_eq_false rfl) (jg_n (Nat.ne_of_beq_eq_false rfl) (jg_n (Nat.ne_of_beq_eq_false rfl) (jg_n (Nat.ne_of_beq_eq_false rfl) (jg_n (Nat.ne_of_beq_eq_false rfl) (jg_n (Nat.ne_of_beq_eq_false rfl) (jg_s (n := 12) rfl (Nat.le_of_ble_eq_true rfl))))))))))) dX5_init_89 ?_
  refine lv_iconst (v := (-1)) hx hb dX5_init_92 (by decide) ?_
  refine jc1_v (k := 1) (va_runS (As := [.ref q1, .int (-1)]) (rest := []) ⟨hx, hb, hml, hown, hts⟩ (kfill l dC dI _ (q1) 40 y1 (fun _ => 0) (-1) (by decide)) (va_cwS 2 hts (jgoodS m_640 m_141 m_142 m_143) rfl rfl rfl (by decide +kernel) ⟨(Nat.le_of_ble_eq_true rfl), (Nat.le_of_ble_eq_true rfl)⟩) ⟨jw_blind, fun U hU hW => ⟨rfl, jw_of hU hW (jp_at hP 1 (jg_c (jg_l (jg_l (jg_l (jg_l (jg_l (jg_l (jg_l (jg_l (jg_l (jg_r (n := 0) (i := 0) rfl rfl rfl)))))))))))) (hK.sub [0] rfl) (jd_at hD 1 (jg_c (jg_l (jg_l (jg_l (jg_l (jg_l (jg_l (jg_l (jg_l (jg_l (jg_r (n := 0) (i := 0) rfl rfl rfl))))))))))))⟩⟩ rfl rfl hl.1 rfl (lv_room (Nat.le_of_ble_eq_true rfl)) dX5_init_93 ⟨(Nat.le_of_ble_eq_true rfl), (Nat.le_of_ble_eq_true rfl)⟩) hP hD (jg_c (jg_l (jg_l (jg_l (jg_l (jg_l (jg_l (jg_l (jg_l (jg_l (jg_r (n := 0) (i := 0) rfl rfl rfl))))))))))) hS hA (fun H locs hP hD hS => ?_)
  have hP := jrP hP (jy5 (jy1 (jn_lt (n := 9) (jn_a (n := 8) (m := 1) (jn_a (n := 7) (m := 1) (jn_a (n := 6) (m := 1) (jn_a (n := 5) (m := 1) (jn_a (n := 4) (m := 1) (jn_a (n := 3) (m := 1) (jn_a (n := 2) (m := 1) (jn_a (n := 1) (m := 1) (jn_a (n := 0) (m := 1) rfl rfl) rfl) rfl) rfl) rfl) rfl) rfl) rfl) rfl) (Nat.le_of_ble_eq_true rfl)) (jy1 (jn_lt (n := 8) (jn_a (n := 7) (m := 1) (jn_a (n := 6) (m := 1) (jn_a (n := 5) (m := 1) (jn_a (n := 4) (m := 1) (jn_a (n := 3) (m := 1) (jn_a (n := 2) (m := 1) (jn_a (n := 1) (m := 1) (jn_a (n := 0) (m := 1) rfl rfl) rfl) rfl) rfl) rfl) rfl) rfl) rfl) (Nat.le_of_ble_eq_true rfl)) (jy1 (jn_lt (n := 7) (jn_a (n := 6) (m := 1) (jn_a (n := 5) (m := 1) (jn_a (n := 4) (m := 1) (jn_a (n := 3) (m := 1) (jn_a (n := 2) (m := 1) (jn_a (n := 1) (m := 1) (jn_a (n := 0) (m := 1) rfl rfl) rfl) rfl) rfl) rfl) rfl) rfl) (Nat.le_of_ble_eq_true rfl)) (jy1 (jn_lt (n := 6) (jn_a (n := 5) (m := 1) (jn_a (n := 4) (m := 1) (jn_a (n := 3) (m := 1) (jn_a (n := 2) (m := 1) (jn_a (n := 1) (m := 1) (jn_a (n := 0) (m := 1) rfl rfl) rfl) rfl) rfl) rfl) rfl) (Nat.le_of_ble_eq_true rfl)) (jy1 (jn_lt (n := 5) (jn_a (n := 4) (m := 1) (jn_a (n := 3) (m := 1) (jn_a (n := 2) (m := 1) (jn_a (n := 1) (m := 1) (jn_a (n := 0) (m := 1) rfl rfl) rfl) rfl) rfl) rfl) (Nat.le_of_ble_eq_true rfl)) (jy1 (jn_lt (n := 4) (jn_a (n := 3) (m := 1) (jn_a (n := 2) (m := 1) (jn_a (n := 1) (m := 1) (jn_a (n := 0) (m := 1) rfl rfl) rfl) rfl) rfl) (Nat.le_of_ble_eq_true rfl)) (jy1 (jn_lt (n := 3) (jn_a (n := 2) (m := 1) (jn_a (n := 1) (m := 1) (jn_a (n := 0) (m := 1) rfl rfl) rfl) rfl) (Nat.le_of_ble_eq_true rfl)) (jy1 (jn_lt (n := 2) (jn_a (n := 1) (m := 1) (jn_a (n := 0) (m := 1) rfl rfl) rfl) (Nat.le_of_ble_eq_true rfl)) (jy1 (jn_lt (n := 1) (jn_a (n := 0) (m := 1) rfl rfl) (Nat.le_of_ble_eq_true rfl)) (jy2 (n := 0) (i := 0) rfl rfl)))))))))))
  have hD := jrD hD (jy5 (jy1 (jn_lt (n := 9) (jn_a (n := 8) (m := 1) (jn_a (n := 7) (m := 1) (jn_a (n := 6) (m := 1) (jn_a (n := 5) (m := 1) (jn_a (n := 4) (m := 1) (jn_a (n := 3) (m := 1) (jn_a (n := 2) (m := 1) (jn_a (n := 1) (m := 1) (jn_a (n := 0) (m := 1) rfl rfl) rfl) rfl) rfl) rfl) rfl) rfl) rfl) rfl) (Nat.le_of_ble_eq_true rfl)) (jy1 (jn_lt (n := 8) (jn_a (n := 7) (m := 1) (jn_a (n := 6) (m := 1) (jn_a (n := 5) (m := 1) (jn_a (n := 4) (m := 1) (jn_a (n := 3) (m := 1) (jn_a (n := 2) (m := 1) (jn_a (n := 1) (m := 1) (jn_a (n := 0) (m := 1) rfl rfl) rfl) rfl) rfl) rfl) rfl) rfl) rfl) (Nat.le_of_ble_eq_true rfl)) (jy1 (jn_lt (n := 7) (jn_a (n := 6) (m := 1) (jn_a (n := 5) (m := 1) (jn_a (n := 4) (m := 1) (jn_a (n := 3) (m := 1) (jn_a (n := 2) (m := 1) (jn_a (n := 1) (m := 1) (jn_a (n := 0) (m := 1) rfl rfl) rfl) rfl) rfl) rfl) rfl) rfl) (Nat.le_of_ble_eq_true rfl)) (jy1 (jn_lt (n := 6) (jn_a (n := 5) (m := 1) (jn_a (n := 4) (m := 1) (jn_a (n := 3) (m := 1) (jn_a (n := 2) (m := 1) (jn_a (n := 1) (m := 1) (jn_a (n := 0) (m := 1) rfl rfl) rfl) rfl) rfl) rfl) rfl) (Nat.le_of_ble_eq_true rfl)) (jy1 (jn_lt (n := 5) (jn_a (n := 4) (m := 1) (jn_a (n := 3) (m := 1) (jn_a (n := 2) (m := 1) (jn_a (n := 1) (m := 1) (jn_a (n := 0) (m := 1) rfl rfl) rfl) rfl) rfl) rfl) (Nat.le_of_ble_eq_true rfl)) (jy1 (jn_lt (n := 4) (jn_a (n := 3) (m := 1) (jn_a (n := 2) (m := 1) (jn_a (n := 1) (m := 1) (jn_a (n := 0) (m := 1) rfl rfl) rfl) rfl) rfl) (Nat.le_of_ble_eq_true rfl)) (jy1 (jn_lt (n := 3) (jn_a (n := 2) (m := 1) (jn_a (n := 1) (m := 1) (jn_a (n := 0) (m := 1) rfl rfl) rfl) rfl) (Nat.le_of_ble_eq_true rfl)) (jy1 (jn_lt (n := 2) (jn_a (n := 1) (m := 1) (jn_a (n := 0) (m := 1) rfl rfl) rfl) (Nat.le_of_ble_eq_true rfl)) (jy1 (jn_lt (n := 1) (jn_a (n := 0) (m := 1) rfl rfl) (Nat.le_of_ble_eq_true rfl)) (jy2 (n := 0) (i := 0) rfl rfl)))))))))))
  refine W.widen (k := 10) (n := 2740) (Nat.le_of_ble_eq_true rfl) (Nat.le_of_ble_eq_true rfl) ?_
  exact W.vret hx hb hr (fun t ht hW => ⟨⟨(fun k => [0, q1, q2, q3, q4, q5, q6, q7, q8, q9, q10].getD k 0, fun k => [dC 0, y1, y2, y3, y4, y5, y6, y7, y8, y9, y10].getD k (dC 0)), rfl, trivial, by rw [ht]; exact hP, va_K.moved hW.alike hK, hD⟩, hS.F ht⟩) hS.2.2 dX5_init_96
set_option maxHeartbeats 500000 in
set_option maxRecDepth 100000 in
theorem iX3_init_1 (l : Launch) (dC : Nat → ClassId) (dI : Nat → Nat → Nat) (sz h0 : Nat) : Met l yX3_init (jk yX3_init cX3_init 1 none) ({ frames := 1, cells := 5, slots := 300, locals := 40 }) (va_Pc [.ref h0] (jw_P (dC, dI) [(h0, .inr (3, [.null, .null, .null, .null, .null, .int 0, .int 0]))] [] sz)) (va_Qv (fun (_ : ((Nat → Nat) × (Nat → ClassId))) => True) (fun u t => va_P (dC, dI) vwCl [(h0, .inr (3, [.ref (u.1 1), .ref (u.1 2), .ref (u.1 3), .ref (u.1 4), .ref (u.1 5), .int 0, .int 0])), ((u.1 1), .inl ((u.2 1), 60, .inl (fun _ => 0))), ((u.1 2), .inl ((u.2 2), 60, .inl (fun _ => 0))), ((u.1 3), .inl ((u.2 3), 60, .inl (fun _ => 0))), ((u.1 4), .inl ((u.2 4), 60, .inl (fun _ => 0))), ((u.1 5), .inl ((u.2 5), 60, .inl (fun _ => 0)))] t.heap ∧ va_K (dC, dI) vwCl [((u.2 1), .int), ((u.2 2), .int), ((u.2 3), .int), ((u.2 4), .int), ((u.2 5), .int)] t ∧ va_D (va_A [(h0, .inr (3, [.null, .null, .null, .null, .null, .int 0, .int 0]))] sz) [(h0, .inr (3, [.ref (u.1 1), .ref (u.1 2), .ref (u.1 3), .ref (u.1 4), .ref (u.1 5), .int 0, .int 0])), ((u.1 1), .inl ((u.2 1), 60, .inl (fun _ => 0))), ((u.1 2), .inl ((u.2 2), 60, .inl (fun _ => 0))), ((u.1 3), .inl ((u.2 3), 60, .inl (fun _ => 0))), ((u.1 4), .inl ((u.2 4), 60, .inl (fun _ => 0))), ((u.1 5), .inl ((u.2 5), 60, .inl (fun _ => 0)))]) (va_A [(h0, .inr (3, [.null, .null, .null, .null, .null, .int 0, .int 0]))] sz)) 5 300 (va_A [(h0, .inr (3, [.null, .null, .null, .null, .null, .int 0, .int 0]))] sz) := by
  refine Met.ofW (cc := cX3_init) (maxL := 1) (ret := none) (by decide) rfl ?_
  intro p e s m args below meth c s₁ B hml hv
  obtain ⟨rfl, hsz, hP, hK, hD0⟩ := hv
  have hx := B.exec
  have hb := B.bytes
  have hr := B.returns
  have hts := atoms_spec (ws := (jk yX3_init cX3_init 1 none)) B.pre
  have hown : s.vm.findClass RX3 = some m.cls := findClass_of_methodNamed B.named
  have hlocks := B.notSynchronized
  have hin : meth.name = "<init>" := (name_of_methodNamed B.named B.method).1
  subst hsz
  have hD := hD0.self (sz := s.heap.size)
  generalize hAe : (va_A [(h0, .inr (3, [.null, .null, .null, .null, .null, .int 0, .int 0]))] s.heap.size) = A at hD ⊢
  have hA : ∀ q : Nat, s.heap.size ≤ q → A q := fun q h => by rw [← hAe]; exact Or.inr h
  have hS : va_S A s.heap s.heap [] := va_S.rf
  have hP : va_P (dC, dI) vwCl [(h0, .inr (3, [.null, .null, .null, .null, .null, .int 0, .int 0]))] s.heap := hP
  have hl := lv_entry ([.ref h0]) (n := 1) (Nat.le_of_ble_eq_true rfl)
  rw [lg_entry_eq]
  generalize (lg_sl ([.ref h0]) ++ List.replicate (1 - (lg_sl ([.ref h0])).length) Slot.unset).toArray = ls at hl ⊢
  have hl : lv_has ls 1 [(0, .ref h0)] := hl
  refine lv_aload_n hx hb dX3_init_0 rfl (lv_at hl 0 rfl) ?_
  refine W.objInit hx hb hown (hts (.methodLink RX3 3 objectInit) (jm m_647)) (hts (.instanceMethod objectInit) (jm m_163)) (hts (.code objectInit ⟨#[0xb1]⟩ 1 none) (jm m_164)) rfl (by rw [hml]; exact hl.1) rfl dX3_init_1 (Nat.le_of_ble_eq_true rfl) (Nat.le_of_ble_eq_true rfl) ?_
  refine W.eq (g2 := F0 m 4 ls []) rfl ?_
  refine lv_aload_n hx hb dX3_init_4 rfl (lv_at hl 0 rfl) ?_
  refine lv_bipush (v := 60) hx hb dX3_init_5 (by decide) ?_
  refine va_newa (atype := .int) (N' := 60) (a0 := (60, .inl (fun _ => 0))) (ty := .int) hx hb (hts (.arrayClass .int) (jm m_2)) rfl hK hP hD hS hA (fun _ => rfl) (by decide) (by decide) (by decide) (Nat.le_of_ble_eq_true rfl) (Nat.le_of_ble_eq_true rfl) dX3_init_7 (fun q1 y1 H hK hP hD hS => ?_)
  refine W.widen (k := 1) (n := 60) (Nat.le_of_ble_eq_true rfl) (Nat.le_of_ble_eq_true rfl) ?_
  refine va_putF (D := (dC, dI)) (ci := 3) (v := .ref q1) (ty := .array .int) (C := RX3) (T := TX3) (N := 7) hx hb hts (jh hin_RX3) tyX3 tyX3_ok nmX3 hown hK hP hD hS 0 (jg_l rfl) rfl 0 (by decide) (hts (.fieldLink RX3 9 "BookOfAll$Lengths" "article" "[I") (jm m_648)) (fun _ h9 => h9) rfl hin rfl (by decide +kernel) rfl rfl (Nat.le_of_ble_eq_true rfl) dX3_init_9 (fun H locs hP hD hS => ?_)
  refine lv_aload_n hx hb dX3_init_12 rfl (lv_at hl 0 rfl) ?_
  refine lv_bipush (v := 60) hx hb dX3_init_13 (by decide) ?_
  refine va_newa (atype := .int) (N' := 60) (a0 := (60, .inl (fun _ => 0))) (ty := .int) hx hb (hts (.arrayClass .int) (jm m_2)) rfl hK hP hD hS hA (fun _ => rfl) (by decide) (by decide) (by decide) (Nat.le_of_ble_eq_true rfl) (Nat.le_of_ble_eq_true rfl) dX3_init_15 (fun q2 y2 H hK hP hD hS => ?_)
  refine W.widen (k := 2) (n := 120) (Nat.le_of_ble_eq_true rfl) (Nat.le_of_ble_eq_true rfl) ?_
  refine va_putF (D := (dC, dI)) (ci := 3) (v := .ref q2) (ty := .array .int) (C := RX3) (T := TX3) (N := 7) hx hb hts (jh hin_RX3) tyX3 tyX3_ok nmX3 hown hK hP hD hS 0 (jg_l (jg_s (n := 2) (jn_a (n := 1) (m := 1) rfl rfl) (Nat.le_of_ble_eq_true rfl))) rfl 1 (by decide) (hts (.fieldLink RX3 15 "BookOfAll$Lengths" "asked" "[I") (jm m_649)) (fun _ h9 => h9) rfl hin rfl (by decide +kernel) rfl rfl (Nat.le_of_ble_eq_true rfl) dX3_init_17 (fun H locs hP hD hS => ?_)
  refine lv_aload_n hx hb dX3_init_20 rfl (lv_at hl 0 rfl) ?_
  refine lv_bipush (v := 60) hx hb dX3_init_21 (by decide) ?_
  refine va_newa (atype := .int) (N' := 60) (a0 := (60, .inl (fun _ => 0))) (ty := .int) hx hb (hts (.arrayClass .int) (jm m_2)) rfl hK hP hD hS hA (fun _ => rfl) (by decide) (by decide) (by decide) (Nat.le_of_ble_eq_true rfl) (Nat.le_of_ble_eq_true rfl) dX3_init_23 (fun q3 y3 H hK hP hD hS => ?_)
  refine W.widen (k := 3) (n := 180) (Nat.le_of_ble_eq_true rfl) (Nat.le_of_ble_eq_true rfl) ?_
  refine va_putF (D := (dC, dI)) (ci := 3) (v := .ref q3) (ty := .array .int) (C := RX3) (T := TX3) (N := 7) hx hb hts (jh hin_RX3) tyX3 tyX3_ok nmX3 hown hK hP hD hS 0 (jg_l (jg_s (n := 3) (jn_a (n := 2) (m := 1) (jn_s (jn_a (n := 1) (m := 1) rfl rfl)) rfl) (Nat.le_of_ble_eq_true rfl))) rfl 2 (by decide) (hts (.fieldLink RX3 18 "BookOfAll$Lengths" "least" "[I") (jm m_430)) (fun _ h9 => h9) rfl hin rfl (by decide +kernel) rfl rfl (Nat.le_of_ble_eq_true rfl) dX3_init_25 (fun H locs hP hD hS => ?_)
  refine lv_aload_n hx hb dX3_init_28 rfl (lv_at hl 0 rfl) ?_
  refine lv_bipush (v := 60) hx hb dX3_init_29 (by decide) ?_
  refine va_newa (atype := .int) (N' := 60) (a0 := (60, .inl (fun _ => 0))) (ty := .int) hx hb (hts (.arrayClass .int) (jm m_2)) rfl hK hP hD hS hA (fun _ => rfl) (by decide) (by decide) (by decide) (Nat.le_of_ble_eq_true rfl) (Nat.le_of_ble_eq_true rfl) dX3_init_31 (fun q4 y4 H hK hP hD hS => ?_)
  refine W.widen (k := 4) (n := 240) (Nat.le_of_ble_eq_true rfl) (Nat.le_of_ble_eq_true rfl) ?_
  refine va_putF (D := (dC, dI)) (ci := 3) (v := .ref q4) (ty := .array .int) (C := RX3) (T := TX3) (N := 7) hx hb hts (jh hin_RX3) tyX3 tyX3_ok nmX3 hown hK hP hD hS 0 (jg_l (jg_s (n := 4) (jn_a (n := 3) (m := 1) (jn_s (jn_a (n := 2) (m := 1) (jn_s (jn_a (n := 1) (m := 1) rfl rfl)) rfl)) rfl) (Nat.le_of_ble_eq_true rfl))) rfl 3 (by decide) (hts (.fieldLink RX3 21 "BookOfAll$Lengths" "most" "[I") (jm m_435)) (fun _ h9 => h9) rfl hin rfl (by decide +kernel) rfl rfl (Nat.le_of_ble_eq_true rfl) dX3_init_33 (fun H locs hP hD hS => ?_)
  refine lv_aload_n hx hb dX3_init_36 rfl (lv_at hl 0 rfl) ?_
  refine lv_bipush (v := 60) hx hb dX3_init_37 (by decide) ?_
  refine va_newa (atype := .int) (N' := 60) (a0 := (60, .inl (fun _ => 0))) (ty := .int) hx hb (hts (.arrayClass .int) (jm m_2)) rfl hK hP hD hS hA (fun _ => rfl) (by decide) (by decide) (by decide) (Nat.le_of_ble_eq_true rfl) (Nat.le_of_ble_eq_true rfl) dX3_init_39 (fun q5 y5 H hK hP hD hS => ?_)
  refine W.widen (k := 5) (n := 300) (Nat.le_of_ble_eq_true rfl) (Nat.le_of_ble_eq_true rfl) ?_
  refine va_putF (D := (dC, dI)) (ci := 3) (v := .ref q5) (ty := .array .int) (C := RX3) (T := TX3) (N := 7) hx hb hts (jh hin_RX3) tyX3 tyX3_ok nmX3 hown hK hP hD hS 0 (jg_l (jg_s (n := 5) (jn_a (n := 4) (m := 1) (jn_s (jn_a (n := 3) (m := 1) (jn_s (jn_a (n := 2) (m := 1) (jn_s (jn_a (n := 1) (m := 1) rfl rfl)) rfl)) rfl)) rfl) (Nat.le_of_ble_eq_true rfl))) rfl 4 (by decide) (hts (.fieldLink RX3 24 "BookOfAll$Lengths" "fitted" "[I") (jm m_436)) (fun _ h9 => h9) rfl hin rfl (by decide +kernel) rfl rfl (Nat.le_of_ble_eq_true rfl) dX3_init_41 (fun H locs hP hD hS => ?_)
  refine W.widen (k := 5) (n := 300) (Nat.le_of_ble_eq_true rfl) (Nat.le_of_ble_eq_true rfl) ?_
  exact W.vret hx hb hr (fun t ht hW => ⟨⟨(fun k => [0, q1, q2, q3, q4, q5].getD k 0, fun k => [dC 0, y1, y2, y3, y4, y5].getD k (dC 0)), rfl, trivial, by rw [ht]; exact hP, va_K.moved hW.alike hK, hD⟩, hS.F ht⟩) hS.2.2 dX3_init_44
set_option maxHeartbeats 500000 in
set_option maxRecDepth 100000 in
theorem iX1_init_1 (l : Launch) (dC : Nat → ClassId) (dI : Nat → Nat → Nat) (sz h0 : Nat) : Met l yX1_init (jk yX1_init cX1_init 1 none) ({ frames := 1, cells := 8, slots := 295, locals := 40 }) (va_Pc [.ref h0] (jw_P (dC, dI) [(h0, .inr (1, [.null, .null, .null, .int 0, .null, .null, .null, .int 0, .null, .null]))] [] sz)) (va_Qv (fun (_ : ((Nat → Nat) × (Nat → ClassId))) => True) (fun u t => va_P (dC, dI) vwCl [(h0, .inr (1, [.ref (u.1 1), .ref (u.1 2), .ref (u.1 3), .int 0, .ref (u.1 4), .ref (u.1 5), .ref (u.1 6), .int 0, .ref (u.1 7), .ref (u.1 8)])), ((u.1 1), .inl ((u.2 1), 7, .inl (fun _ => 0))), ((u.1 2), .inl ((u.2 2), 7, .inl (fun _ => 0))), ((u.1 3), .inl ((u.2 3), 7, .inl (fun _ => 0))), ((u.1 4), .inl ((u.2 4), 6, .inl (fun _ => 0))), ((u.1 5), .inl ((u.2 5), 6, .inl (fun _ => 0))), ((u.1 6), .inl ((u.2 6), 6, .inl (fun _ => 0))), ((u.1 7), .inl ((u.2 7), 128, .inl (fun _ => 0))), ((u.1 8), .inl ((u.2 8), 128, .inl (fun _ => 0)))] t.heap ∧ va_K (dC, dI) vwCl [((u.2 1), .int), ((u.2 2), .int), ((u.2 3), .int), ((u.2 4), .int), ((u.2 5), .int), ((u.2 6), .int), ((u.2 7), .int), ((u.2 8), .boolean)] t ∧ va_D (va_A [(h0, .inr (1, [.null, .null, .null, .int 0, .null, .null, .null, .int 0, .null, .null]))] sz) [(h0, .inr (1, [.ref (u.1 1), .ref (u.1 2), .ref (u.1 3), .int 0, .ref (u.1 4), .ref (u.1 5), .ref (u.1 6), .int 0, .ref (u.1 7), .ref (u.1 8)])), ((u.1 1), .inl ((u.2 1), 7, .inl (fun _ => 0))), ((u.1 2), .inl ((u.2 2), 7, .inl (fun _ => 0))), ((u.1 3), .inl ((u.2 3), 7, .inl (fun _ => 0))), ((u.1 4), .inl ((u.2 4), 6, .inl (fun _ => 0))), ((u.1 5), .inl ((u.2 5), 6, .inl (fun _ => 0))), ((u.1 6), .inl ((u.2 6), 6, .inl (fun _ => 0))), ((u.1 7), .inl ((u.2 7), 128, .inl (fun _ => 0))), ((u.1 8), .inl ((u.2 8), 128, .inl (fun _ => 0)))]) (va_A [(h0, .inr (1, [.null, .null, .null, .int 0, .null, .null, .null, .int 0, .null, .null]))] sz)) 8 295 (va_A [(h0, .inr (1, [.null, .null, .null, .int 0, .null, .null, .null, .int 0, .null, .null]))] sz) := by
  refine Met.ofW (cc := cX1_init) (maxL := 1) (ret := none) (by decide) rfl ?_
  intro p e s m args below meth c s₁ B hml hv
  obtain ⟨rfl, hsz, hP, hK, hD0⟩ := hv
  have hx := B.exec
  have hb := B.bytes
  have hr := B.returns
  have hts := atoms_spec (ws := (jk yX1_init cX1_init 1 none)) B.pre
  have hown : s.vm.findClass RX1 = some m.cls := findClass_of_methodNamed B.named
  have hlocks := B.notSynchronized
  have hin : meth.name = "<init>" := (name_of_methodNamed B.named B.method).1
  subst hsz
  have hD := hD0.self (sz := s.heap.size)
  generalize hAe : (va_A [(h0, .inr (1, [.null, .null, .null, .int 0, .null, .null, .null, .int 0, .null, .null]))] s.heap.size) = A at hD ⊢
  have hA : ∀ q : Nat, s.heap.size ≤ q → A q := fun q h => by rw [← hAe]; exact Or.inr h
  have hS : va_S A s.heap s.heap [] := va_S.rf
  have hP : va_P (dC, dI) vwCl [(h0, .inr (1, [.null, .null, .null, .int 0, .null, .null, .null, .int 0, .null, .null]))] s.heap := hP
  have hl := lv_entry ([.ref h0]) (n := 1) (Nat.le_of_ble_eq_true rfl)
  rw [lg_entry_eq]
  generalize (lg_sl ([.ref h0]) ++ List.replicate (1 - (lg_sl ([.ref h0])).length) Slot.unset).toArray = ls at hl ⊢
  have hl : lv_has ls 1 [(0, .ref h0)] := hl
  refine lv_aload_n hx hb dX1_init_0 rfl (lv_at hl 0 rfl) ?_
  refine W.objInit hx hb hown (hts (.methodLink RX1 5 objectInit) (jm m_654)) (hts (.instanceMethod objectInit) (jm m_163)) (hts (.code objectInit ⟨#[0xb1]⟩ 1 none) (jm m_164)) rfl (by rw [hml]; exact hl.1) rfl dX1_init_1 (Nat.le_of_ble_eq_true rfl) (Nat.le_of_ble_eq_true rfl) ?_
  refine W.eq (g2 := F0 m 4 ls []) rfl ?_
  refine lv_aload_n hx hb dX1_init_4 rfl (lv_at hl 0 rfl) ?_
  refine lv_bipush (v := 7) hx hb dX1_init_5 (by decide) ?_
  refine va_newa (atype := .int) (N' := 7) (a0 := (7, .inl (fun _ => 0))) (ty := .int) hx hb (hts (.arrayClass .int) (jm m_2)) rfl hK hP hD hS hA (fun _ => rfl) (by decide) (by decide) (by decide) (Nat.le_of_ble_eq_true rfl) (Nat.le_of_ble_eq_true rfl) dX1_init_7 (fun q1 y1 H hK hP hD hS => ?_)
  refine W.widen (k := 1) (n := 7) (Nat.le_of_ble_eq_true rfl) (Nat.le_of_ble_eq_true rfl) ?_
  refine va_putF (D := (dC, dI)) (ci := 1) (v := .ref q1) (ty := .array .int) (C := RX1) (T := TX1) (N := 10) hx hb hts (jh hin_RX1) tyX1 tyX1_ok nmX1 hown hK hP hD hS 0 (jg_l rfl) rfl 0 (by decide) (hts (.fieldLink RX1 11 "BookOfAll$Giver" "article" "[I") (jm m_655)) (fun _ h9 => h9) rfl hin rfl (by decide +kernel) rfl rfl (Nat.le_of_ble_eq_true rfl) dX1_init_9 (fun H locs hP hD hS => ?_)
  refine lv_aload_n hx hb dX1_init_12 rfl (lv_at hl 0 rfl) ?_
  refine lv_bipush (v := 7) hx hb dX1_init_13 (by decide) ?_
  refine va_newa (atype := .int) (N' := 7) (a0 := (7, .inl (fun _ => 0))) (ty := .int) hx hb (hts (.arrayClass .int) (jm m_2)) rfl hK hP hD hS hA (fun _ => rfl) (by decide) (by decide) (by decide) (Nat.le_of_ble_eq_true rfl) (Nat.le_of_ble_eq_true rfl) dX1_init_15 (fun q2 y2 H hK hP hD hS => ?_)
  refine W.widen (k := 2) (n := 14) (Nat.le_of_ble_eq_true rfl) (Nat.le_of_ble_eq_true rfl) ?_
  refine va_putF (D := (dC, dI)) (ci := 1) (v := .ref q2) (ty := .array .int) (C := RX1) (T := TX1) (N := 10) hx hb hts (jh hin_RX1) tyX1 tyX1_ok nmX1 hown hK hP hD hS 0 (jg_l (jg_s (n := 2) (jn_a (n := 1) (m := 1) rfl rfl) (Nat.le_of_ble_eq_true rfl))) rfl 1 (by decide) (hts (.fieldLink RX1 15 "BookOfAll$Giver" "lack" "[I") (jm m_656)) (fun _ h9 => h9) rfl hin rfl (by decide +kernel) rfl rfl (Nat.le_of_ble_eq_true rfl) dX1_init_17 (fun H locs hP hD hS => ?_)
  refine lv_aload_n hx hb dX1_init_20 rfl (lv_at hl 0 rfl) ?_
  refine lv_bipush (v := 7) hx hb dX1_init_21 (by decide) ?_
  refine va_newa (atype := .int) (N' := 7) (a0 := (7, .inl (fun _ => 0))) (ty := .int) hx hb (hts (.arrayClass .int) (jm m_2)) rfl hK hP hD hS hA (fun _ => rfl) (by decide) (by decide) (by decide) (Nat.le_of_ble_eq_true rfl) (Nat.le_of_ble_eq_true rfl) dX1_init_23 (fun q3 y3 H hK hP hD hS => ?_)
  refine W.widen (k := 3) (n := 21) (Nat.le_of_ble_eq_true rfl) (Nat.le_of_ble_eq_true rfl) ?_
  refine va_putF (D := (dC, dI)) (ci := 1) (v := .ref q3) (ty := .array .int) (C := RX1) (T := TX1) (N := 10) hx hb hts (jh hin_RX1) tyX1 tyX1_ok nmX1 hown hK hP hD hS 0 (jg_l (jg_s (n := 3) (jn_a (n := 2) (m := 1) (jn_s (jn_a (n := 1) (m := 1) rfl rfl)) rfl) (Nat.le_of_ble_eq_true rfl))) rfl 2 (by decide) (hts (.fieldLink RX1 18 "BookOfAll$Giver" "chosen" "[I") (jm m_657)) (fun _ h9 => h9) rfl hin rfl (by decide +kernel) rfl rfl (Nat.le_of_ble_eq_true rfl) dX1_init_25 (fun H locs hP hD hS => ?_)
  refine lv_aload_n hx hb dX1_init_28 rfl (lv_at hl 0 rfl) ?_
  refine lv_bipush (v := 6) hx hb dX1_init_29 (by decide) ?_
  refine va_newa (atype := .int) (N' := 6) (a0 := (6, .inl (fun _ => 0))) (ty := .int) hx hb (hts (.arrayClass .int) (jm m_2)) rfl hK hP hD hS hA (fun _ => rfl) (by decide) (by decide) (by decide) (Nat.le_of_ble_eq_true rfl) (Nat.le_of_ble_eq_true rfl) dX1_init_31 (fun q4 y4 H hK hP hD hS => ?_)
  refine W.widen (k := 4) (n := 27) (Nat.le_of_ble_eq_true rfl) (Nat.le_of_ble_eq_true rfl) ?_
  refine va_putF (D := (dC, dI)) (ci := 1) (v := .ref q4) (ty := .array .int) (C := RX1) (T := TX1) (N := 10) hx hb hts (jh hin_RX1) tyX1 tyX1_ok nmX1 hown hK hP hD hS 0 (jg_l (jg_s (n := 4) (jn_a (n := 3) (m := 1) (jn_s (jn_a (n := 2) (m := 1) (jn_s (jn_a (n := 1) (m := 1) rfl rfl)) rfl)) rfl) (Nat.le_of_ble_eq_true rfl))) rfl 4 (by decide) (hts (.fieldLink RX1 21 "BookOfAll$Giver" "hand" "[I") (jm m_658)) (fun _ h9 => h9) rfl hin rfl (by decide +kernel) rfl rfl (Nat.le_of_ble_eq_true rfl) dX1_init_33 (fun H locs hP hD hS => ?_)
  refine lv_aload_n hx hb dX1_init_36 rfl (lv_at hl 0 rfl) ?_
  refine lv_bipush (v := 6) hx hb dX1_init_37 (by decide) ?_
  refine va_newa (atype := .int) (N' := 6) (a0 := (6, .inl (fun _ => 0))) (ty := .int) hx hb (hts (.arrayClass .int) (jm m_2)) rfl hK hP hD hS hA (fun _ => rfl) (by decide) (by decide) (by decide) (Nat.le_of_ble_eq_true rfl) (Nat.le_of_ble_eq_true rfl) dX1_init_39 (fun q5 y5 H hK hP hD hS => ?_)
  refine W.widen (k := 5) (n := 33) (Nat.le_of_ble_eq_true rfl) (Nat.le_of_ble_eq_true rfl) ?_
  refine va_putF (D := (dC, dI)) (ci := 1) (v := .ref q5) (ty := .array .int) (C := RX1) (T := TX1) (N := 10) hx hb hts (jh hin_RX1) tyX1 tyX1_ok nmX1 hown hK hP hD hS 0 (jg_l (jg_s (n := 5) (jn_a (n := 4) (m := 1) (jn_s (jn_a (n := 3) (m := 1) (jn_s (jn_a (n := 2) (m := 1) (jn_s (jn_a (n := 1) (m := 1) rfl rfl)) rfl)) rfl)) rfl) (Nat.le_of_ble_eq_true rfl))) rfl 5 (by decide) (hts (.fieldLink RX1 24 "BookOfAll$Giver" "room" "[I") (jm m_659)) (fun _ h9 => h9) rfl hin rfl (by decide +kernel) rfl rfl (Nat.le_of_ble_eq_true rfl) dX1_init_41 (fun H locs hP hD hS => ?_)
  refine lv_aload_n hx hb dX1_init_44 rfl (lv_at hl 0 rfl) ?_
  refine lv_bipush (v := 6) hx hb dX1_init_45 (by decide) ?_
  refine va_newa (atype := .int) (N' := 6) (a0 := (6, .inl (fun _ => 0))) (ty := .int) hx hb (hts (.arrayClass .int) (jm m_2)) rfl hK hP hD hS hA (fun _ => rfl) (by decide) (by decide) (by decide) (Nat.le_of_ble_eq_true rfl) (Nat.le_of_ble_eq_true rfl) dX1_init_47 (fun q6 y6 H hK hP hD hS => ?_)
  refine W.widen (k := 6) (n := 39) (Nat.le_of_ble_eq_true rfl) (Nat.le_of_ble_eq_true rfl) ?_
  refine va_putF (D := (dC, dI)) (ci := 1) (v := .ref q6) (ty := .array .int) (C := RX1) (T := TX1) (N := 10) hx hb hts (jh hin_RX1) tyX1 tyX1_ok nmX1 hown hK hP hD hS 0 (jg_l (jg_s (n := 6) (jn_a (n := 5) (m := 1) (jn_s (jn_a (n := 4) (m := 1) (jn_s (jn_a (n := 3) (m := 1) (jn_s (jn_a (n := 2) (m := 1) (jn_s (jn_a (n := 1) (m := 1) rfl rfl)) rfl)) rfl)) rfl)) rfl) (Nat.le_of_ble_eq_true rfl))) rfl 6 (by decide) (hts (.fieldLink RX1 27 "BookOfAll$Giver" "takes" "[I") (jm m_660)) (fun _ h9 => h9) rfl hin rfl (by decide +kernel) rfl rfl (Nat.le_of_ble_eq_true rfl) dX1_init_49 (fun H locs hP hD hS => ?_)
  refine lv_aload_n hx hb dX1_init_52 rfl (lv_at hl 0 rfl) ?_
  refine lv_sipush (v := 128) hx hb dX1_init_53 (by decide) ?_
  refine va_newa (atype := .int) (N' := 128) (a0 := (128, .inl (fun _ => 0))) (ty := .int) hx hb (hts (.arrayClass .int) (jm m_2)) rfl hK hP hD hS hA (fun _ => rfl) (by decide) (by decide) (by decide) (Nat.le_of_ble_eq_true rfl) (Nat.le_of_ble_eq_true rfl) dX1_init_56 (fun q7 y7 H hK hP hD hS => ?_)
  refine W.widen (k := 7) (n := 167) (Nat.le_of_ble_eq_true rfl) (Nat.le_of_ble_eq_true rfl) ?_
  refine va_putF (D := (dC, dI)) (ci := 1) (v := .ref q7) (ty := .array .int) (C := RX1) (T := TX1) (N := 10) hx hb hts (jh hin_RX1) tyX1 tyX1_ok nmX1 hown hK hP hD hS 0 (jg_l (jg_s (n := 7) (jn_a (n := 6) (m := 1) (jn_s (jn_a (n := 5) (m := 1) (jn_s (jn_a (n := 4) (m := 1) (jn_s (jn_a (n := 3) (m := 1) (jn_s (jn_a (n := 2) (m := 1) (jn_s (jn_a (n := 1) (m := 1) rfl rfl)) rfl)) rfl)) rfl)) rfl)) rfl) (Nat.le_of_ble_eq_true rfl))) rfl 8 (by decide) (hts (.fieldLink RX1 30 "BookOfAll$Giver" "sums" "[I") (jm m_661)) (fun _ h9 => h9) rfl hin rfl (by decide +kernel) rfl rfl (Nat.le_of_ble_eq_true rfl) dX1_init_58 (fun H locs hP hD hS => ?_)
  refine lv_aload_n hx hb dX1_init_61 rfl (lv_at hl 0 rfl) ?_
  refine lv_sipush (v := 128) hx hb dX1_init_62 (by decide) ?_
  refine va_newa (atype := .boolean) (N' := 128) (a0 := (128, .inl (fun _ => 0))) (ty := .boolean) hx hb (hts (.arrayClass .boolean) (jm m_21)) rfl hK hP hD hS hA (fun _ => rfl) (by decide) (by decide) (by decide) (Nat.le_of_ble_eq_true rfl) (Nat.le_of_ble_eq_true rfl) dX1_init_65 (fun q8 y8 H hK hP hD hS => ?_)
  refine W.widen (k := 8) (n := 295) (Nat.le_of_ble_eq_true rfl) (Nat.le_of_ble_eq_true rfl) ?_
  refine va_putF (D := (dC, dI)) (ci := 1) (v := .ref q8) (ty := .array .boolean) (C := RX1) (T := TX1) (N := 10) hx hb hts (jh hin_RX1) tyX1 tyX1_ok nmX1 hown hK hP hD hS 0 (jg_l (jg_s (n := 8) (jn_a (n := 7) (m := 1) (jn_s (jn_a (n := 6) (m := 1) (jn_s (jn_a (n := 5) (m := 1) (jn_s (jn_a (n := 4) (m := 1) (jn_s (jn_a (n := 3) (m := 1) (jn_s (jn_a (n := 2) (m := 1) (jn_s (jn_a (n := 1) (m := 1) rfl rfl)) rfl)) rfl)) rfl)) rfl)) rfl)) rfl) (Nat.le_of_ble_eq_true rfl))) rfl 9 (by decide) (hts (.fieldLink RX1 33 "BookOfAll$Giver" "reached" "[Z") (jm m_662)) (fun _ h9 => h9) rfl hin rfl (by decide +kernel) rfl rfl (Nat.le_of_ble_eq_true rfl) dX1_init_67 (fun H locs hP hD hS => ?_)
  refine W.widen (k := 8) (n := 295) (Nat.le_of_ble_eq_true rfl) (Nat.le_of_ble_eq_true rfl) ?_
  exact W.vret hx hb hr (fun t ht hW => ⟨⟨(fun k => [0, q1, q2, q3, q4, q5, q6, q7, q8].getD k 0, fun k => [dC 0, y1, y2, y3, y4, y5, y6, y7, y8].getD k (dC 0)), rfl, trivial, by rw [ht]; exact hP, va_K.moved hW.alike hK, hD⟩, hS.F ht⟩) hS.2.2 dX1_init_70
set_option maxHeartbeats 500000 in
set_option maxRecDepth 100000 in
theorem iX10_init_1 (l : Launch) (dC : Nat → ClassId) (dI : Nat → Nat → Nat) (sz h0 : Nat) : Met l yX10_init (jk yX10_init cX10_init 1 none) ({ frames := 1, cells := 2, slots := 61, locals := 40 }) (va_Pc [.ref h0] (jw_P (dC, dI) [(h0, .inr (10, [.null, .int 0, .null]))] [] sz)) (va_Qv (fun (_ : ((Nat → Nat) × (Nat → ClassId))) => True) (fun u t => va_P (dC, dI) vwCl [(h0, .inr (10, [.ref (u.1 1), .int 0, .ref (u.1 2)])), ((u.1 1), .inl ((u.2 1), 30, .inl (fun _ => 0))), ((u.1 2), .inl ((u.2 2), 31, .inl (fun _ => 0)))] t.heap ∧ va_K (dC, dI) vwCl [((u.2 1), .int), ((u.2 2), .int)] t ∧ va_D (va_A [(h0, .inr (10, [.null, .int 0, .null]))] sz) [(h0, .inr (10, [.ref (u.1 1), .int 0, .ref (u.1 2)])), ((u.1 1), .inl ((u.2 1), 30, .inl (fun _ => 0))), ((u.1 2), .inl ((u.2 2), 31, .inl (fun _ => 0)))]) (va_A [(h0, .inr (10, [.null, .int 0, .null]))] sz)) 2 61 (va_A [(h0, .inr (10, [.null, .int 0, .null]))] sz) := by
  refine Met.ofW (cc := cX10_init) (maxL := 1) (ret := none) (by decide) rfl ?_
  intro p e s m args below meth c s₁ B hml hv
  obtain ⟨rfl, hsz, hP, hK, hD0⟩ := hv
  have hx := B.exec
  have hb := B.bytes
  have hr := B.returns
  have hts := atoms_spec (ws := (jk yX10_init cX10_init 1 none)) B.pre
  have hown : s.vm.findClass RX10 = some m.cls := findClass_of_methodNamed B.named
  have hlocks := B.notSynchronized
  have hin : meth.name = "<init>" := (name_of_methodNamed B.named B.method).1
  subst hsz
  have hD := hD0.self (sz := s.heap.size)
  generalize hAe : (va_A [(h0, .inr (10, [.null, .int 0, .null]))] s.heap.size) = A at hD ⊢
  have hA : ∀ q : Nat, s.heap.size ≤ q → A q := fun q h => by rw [← hAe]; exact Or.inr h
  have hS : va_S A s.heap s.heap [] := va_S.rf
  have hP : va_P (dC, dI) vwCl [(h0, .inr (10, [.null, .int 0, .null]))] s.heap := hP
  have hl := lv_entry ([.ref h0]) (n := 1) (Nat.le_of_ble_eq_true rfl)
  rw [lg_entry_eq]
  generalize (lg_sl ([.ref h0]) ++ List.replicate (1 - (lg_sl ([.ref h0])).length) Slot.unset).toArray = ls at hl ⊢
  have hl : lv_has ls 1 [(0, .ref h0)] := hl
  refine lv_aload_n hx hb dX10_init_0 rfl (lv_at hl 0 rfl) ?_
  refine W.objInit hx hb hown (hts (.methodLink RX10 3 objectInit) (jm m_667)) (hts (.instanceMethod objectInit) (jm m_163)) (hts (.code objectInit ⟨#[0xb1]⟩ 1 none) (jm m_164)) rfl (by rw [hml]; exact hl.1) rfl dX10_init_1 (Nat.le_of_ble_eq_true rfl) (Nat.le_of_ble_eq_true rfl) ?_
  refine W.eq (g2 := F0 m 4 ls []) rfl ?_
  refine lv_aload_n hx hb dX10_init_4 rfl (lv_at hl 0 rfl) ?_
  refine lv_bipush (v := 30) hx hb dX10_init_5 (by decide) ?_
  refine va_newa (atype := .int) (N' := 30) (a0 := (30, .inl (fun _ => 0))) (ty := .int) hx hb (hts (.arrayClass .int) (jm m_2)) rfl hK hP hD hS hA (fun _ => rfl) (by decide) (by decide) (by decide) (Nat.le_of_ble_eq_true rfl) (Nat.le_of_ble_eq_true rfl) dX10_init_7 (fun q1 y1 H hK hP hD hS => ?_)
  refine W.widen (k := 1) (n := 30) (Nat.le_of_ble_eq_true rfl) (Nat.le_of_ble_eq_true rfl) ?_
  refine va_putF (D := (dC, dI)) (ci := 10) (v := .ref q1) (ty := .array .int) (C := RX10) (T := TX10) (N := 3) hx hb hts (jh hin_RX10) tyX10 tyX10_ok nmX10 hown hK hP hD hS 0 (jg_l rfl) rfl 0 (by decide) (hts (.fieldLink RX10 11 "BookOfAll$Thief" "row" "[I") (jm m_475)) (fun _ h9 => h9) rfl hin rfl (by decide +kernel) rfl rfl (Nat.le_of_ble_eq_true rfl) dX10_init_9 (fun H locs hP hD hS => ?_)
  refine lv_aload_n hx hb dX10_init_12 rfl (lv_at hl 0 rfl) ?_
  refine lv_bipush (v := 31) hx hb dX10_init_13 (by decide) ?_
  refine va_newa (atype := .int) (N' := 31) (a0 := (31, .inl (fun _ => 0))) (ty := .int) hx hb (hts (.arrayClass .int) (jm m_2)) rfl hK hP hD hS hA (fun _ => rfl) (by decide) (by decide) (by decide) (Nat.le_of_ble_eq_true rfl) (Nat.le_of_ble_eq_true rfl) dX10_init_15 (fun q2 y2 H hK hP hD hS => ?_)
  refine W.widen (k := 2) (n := 61) (Nat.le_of_ble_eq_true rfl) (Nat.le_of_ble_eq_true rfl) ?_
  refine va_putF (D := (dC, dI)) (ci := 10) (v := .ref q2) (ty := .array .int) (C := RX10) (T := TX10) (N := 3) hx hb hts (jh hin_RX10) tyX10 tyX10_ok nmX10 hown hK hP hD hS 0 (jg_l (jg_s (n := 2) (jn_a (n := 1) (m := 1) rfl rfl) (Nat.le_of_ble_eq_true rfl))) rfl 2 (by decide) (hts (.fieldLink RX10 15 "BookOfAll$Thief" "weight" "[I") (jm m_668)) (fun _ h9 => h9) rfl hin rfl (by decide +kernel) rfl rfl (Nat.le_of_ble_eq_true rfl) dX10_init_17 (fun H locs hP hD hS => ?_)
  refine W.widen (k := 2) (n := 61) (Nat.le_of_ble_eq_true rfl) (Nat.le_of_ble_eq_true rfl) ?_
  exact W.vret hx hb hr (fun t ht hW => ⟨⟨(fun k => [0, q1, q2].getD k 0, fun k => [dC 0, y1, y2].getD k (dC 0)), rfl, trivial, by rw [ht]; exact hP, va_K.moved hW.alike hK, hD⟩, hS.F ht⟩) hS.2.2 dX10_init_20
set_option maxHeartbeats 3000000 in
set_option maxRecDepth 100000 in
theorem iX12_init_1 (l : Launch) (dC : Nat → ClassId) (dI : Nat → Nat → Nat) (sz h0 : Nat) : Met l yX12_init (jk yX12_init cX12_init 2 none) ({ frames := 2, cells := 72, slots := 7738, locals := 61 }) (va_Pc [.ref h0] (jw_PE (dC, dI) [(h0, .inr (12, [.int 0, .int 0, .null, .null, .null, .null, .null, .int 0, .null, .int 0, .null, .int 0, .null, .int 0, .null, .null, .null, .null, .null, .null]))] [] sz)) (va_Qv (fun (u : ((Nat → Nat) × (Nat → ClassId))) => u.1 0 = h0) (fun u t => va_P (dC, dI) vwCl (xW u.1 u.2) t.heap ∧ va_K (dC, dI) vwCl (xT u.2) t ∧ va_D (va_A [(h0, .inr (12, [.int 0, .int 0, .null, .null, .null, .null, .null, .int 0, .null, .int 0, .null, .int 0, .null, .int 0, .null, .null, .null, .null, .null, .null]))] sz) (xW u.1 u.2)) (va_A [(h0, .inr (12, [.int 0, .int 0, .null, .null, .null, .null, .null, .int 0, .null, .int 0, .null, .int 0, .null, .int 0, .null, .null, .null, .null, .null, .null]))] sz)) 72 7738 (va_A [(h0, .inr (12, [.int 0, .int 0, .null, .null, .null, .null, .null, .int 0, .null, .int 0, .null, .int 0, .null, .int 0, .null, .null, .null, .null, .null, .null]))] sz) := by
  refine Met.ofW (cc := cX12_init) (maxL := 2) (ret := none) (by decide) rfl ?_
  intro p e s m args below meth c s₁ B hml hv
  obtain ⟨rfl, ⟨hsz, hP, hK, hD0⟩, hE⟩ := hv
  have hx := B.exec
  have hb := B.bytes
  have hr := B.returns
  have hts := atoms_spec (ws := (jk yX12_init cX12_init 2 none)) B.pre
  have hown : s.vm.findClass RX12 = some m.cls := findClass_of_methodNamed B.named
  have hlocks := B.notSynchronized
  have hin : meth.name = "<init>" := (name_of_methodNamed B.named B.method).1
  subst hsz
  have hD := hD0.self (sz := s.heap.size)
  generalize hAe : (va_A [(h0, .inr (12, [.int 0, .int 0, .null, .null, .null, .null, .null, .int 0, .null, .int 0, .null, .int 0, .null, .int 0, .null, .null, .null, .null, .null, .null]))] s.heap.size) = A at hD ⊢
  have hA : ∀ q : Nat, s.heap.size ≤ q → A q := fun q h => by rw [← hAe]; exact Or.inr h
  have hS : va_S A s.heap s.heap [] := va_S.rf
  have hP : va_P (dC, dI) vwCl [(h0, .inr (12, [.int 0, .int 0, .null, .null, .null, .null, .null, .int 0, .null, .int 0, .null, .int 0, .null, .int 0, .null, .null, .null, .null, .null, .null]))] s.heap := hP
  have hl := lv_entry ([.ref h0]) (n := 2) (Nat.le_of_ble_eq_true rfl)
  rw [lg_entry_eq]
  generalize (lg_sl ([.ref h0]) ++ List.replicate (2 - (lg_sl ([.ref h0])).length) Slot.unset).toArray = ls at hl ⊢
  have hl : lv_has ls 2 [(0, .ref h0)] := hl
  have hf : ([.int 0, .int 0, .null, .null, .null, .null, .null, .int 0, .null, .int 0, .null, .int 0, .null, .int 0, .null, .null, .null, .null, .null, .null] : List Value).length = 20 := rfl
  refine lv_aload_n hx hb dX12_init_0 rfl (lv_at hl 0 rfl) ?_
  refine W.objInit hx hb hown (hts (.methodLink RX12 1 objectInit) (jm m_595)) (hts (.instanceMethod objectInit) (jm m_163)) (hts (.code objectInit ⟨#[0xb1]⟩ 1 none) (jm m_164)) rfl (by rw [hml]; exact hl.1) rfl dX12_init_1 (Nat.le_of_ble_eq_true rfl) (Nat.le_of_ble_eq_true rfl) ?_
  refine W.eq (g2 := F0 m 4 ls []) rfl ?_
  refine lv_aload_n hx hb dX12_init_4 rfl (lv_at hl 0 rfl) ?_
  refine va_new (ci := 7) (fs := [.null, .int 0, .null, .null, .null, .null, .int 0, .int 0, .int 0, .null, .int 0, .null, .null, .null, .int 0]) (C := RX7) (T := TX7) (N := 15) hx hb hts (jh hin_RX7) tyX7 tyX7_ok hown (hts (.classLink RX12 7 RX7) (jm m_596)) (hts (.instantiable RX7 15) (jm m_597)) (hts (.initialized RX7) (jm m_108)) hK hP hD hS hA rfl jd_RX7 (Nat.le_of_ble_eq_true rfl) (Nat.le_of_ble_eq_true rfl) dX12_init_5 (fun q1 H hP hD hS => ?_)
  refine W.widen (k := 1) (n := 15) (Nat.le_of_ble_eq_true rfl) (Nat.le_of_ble_eq_true rfl) ?_
  refine lv_dup hx hb dX12_init_8 rfl ?_
  refine jci_v (va_runIN (As := []) (rest := [.ref q1, .ref h0]) ⟨hx, hb, hml, hown, hts⟩ (iX7_init_1 l dC dI _ (q1)) ⟨va_cnB (host := RX12) 0 hts (jgoodI m_599) rfl rfl rfl (hE.2.1 (RX12, 9, yX7_init) (by decide +kernel)) (hts (.initialized RX7) (jm m_108)) (by decide +kernel) ⟨(Nat.le_of_ble_eq_true rfl), (Nat.le_of_ble_eq_true rfl)⟩, rfl, hts (.instanceMethod yX7_init) (jm m_600)⟩ ⟨jw_blind, fun U hU hW => ⟨rfl, jw_of hU hW (jp_last hP) (hK.sub [] rfl) (jd_last hD)⟩⟩ rfl rfl hl.1 rfl (lv_room (Nat.le_of_ble_eq_true rfl)) dX12_init_9 ⟨(Nat.le_of_ble_eq_true rfl), (Nat.le_of_ble_eq_true rfl)⟩) hP hD hS hA (fun u_1 H locs hP hK2 hD hS => ?_)
  have hK := hK.app hK2
  refine W.widen (k := 10) (n := 3651) (Nat.le_of_ble_eq_true rfl) (Nat.le_of_ble_eq_true rfl) ?_
  have hP := jrP hP jy3
  have hD := jrD hD jy3
  refine va_putF (D := (dC, dI)) (ci := 12) (v := .ref q1) (ty := .object "BookOfAll$Reader") (C := RX12) (T := TX12) (N := 20) hx hb hts (jh hin_RX12) tyX12 tyX12_ok nmX12 hown hK hP hD hS 0 jg_c0 rfl 2 (by decide) (hts (.fieldLink RX12 10 "BookOfAll" "reader" "LBookOfAll$Reader;") (jm m_101)) (fun _ h9 => h9) rfl hin rfl (by decide +kernel) rfl rfl (jn_lt hf (Nat.le_of_ble_eq_true rfl)) dX12_init_12 (fun H locs hP hD hS => ?_)
  have hP := jrP hP jy4
  have hD := jrD hD jy4
  have hf := jn_s (k := 2) (x := .ref q1) hf
  refine lv_aload_n hx hb dX12_init_15 rfl (lv_at hl 0 rfl) ?_
  refine va_new (ci := 8) (fs := [.null, .int 0, .null, .null, .null, .int 0, .null, .null]) (C := RX8) (T := TX8) (N := 8) hx hb hts (jh hin_RX8) tyX8 tyX8_ok hown (hts (.classLink RX12 16 RX8) (jm m_601)) (hts (.instantiable RX8 8) (jm m_602)) (hts (.initialized RX8) (jm m_157)) hK hP hD hS hA rfl jd_RX8 (Nat.le_of_ble_eq_true rfl) (Nat.le_of_ble_eq_true rfl) dX12_init_16 (fun q2 H hP hD hS => ?_)
  refine W.widen (k := 11) (n := 3659) (Nat.le_of_ble_eq_true rfl) (Nat.le_of_ble_eq_true rfl) ?_
  refine lv_dup hx hb dX12_init_19 rfl ?_
  refine jci_v (va_runIN (As := []) (rest := [.ref q2, .ref h0]) ⟨hx, hb, hml, hown, hts⟩ (iX8_init_1 l dC dI _ (q2)) ⟨va_cnB (host := RX12) 0 hts (jgoodI m_610) rfl rfl rfl (hE.2.1 (RX12, 18, yX8_init) (by decide +kernel)) (hts (.initialized RX8) (jm m_157)) (by decide +kernel) ⟨(Nat.le_of_ble_eq_true rfl), (Nat.le_of_ble_eq_true rfl)⟩, rfl, hts (.instanceMethod yX8_init) (jm m_611)⟩ ⟨jw_blindE, fun U hU hW => ⟨rfl, jw_of hU hW (jp_last hP) (hK.sub [] rfl) (jd_last hD), hE.warm hW⟩⟩ rfl rfl hl.1 rfl (lv_room (Nat.le_of_ble_eq_true rfl)) dX12_init_20 ⟨(Nat.le_of_ble_eq_true rfl), (Nat.le_of_ble_eq_true rfl)⟩) hP hD hS hA (fun u_2 H locs hP hK2 hD hS => ?_)
  have hK := hK.app hK2
  refine W.widen (k := 17) (n := 3804) (Nat.le_of_ble_eq_true rfl) (Nat.le_of_ble_eq_true rfl) ?_
  have hP := jrP hP jy3
  have hD := jrD hD jy3
  refine va_putF (D := (dC, dI)) (ci := 12) (v := .ref q2) (ty := .object "BookOfAll$Rules") (C := RX12) (T := TX12) (N := 20) hx hb hts (jh hin_RX12) tyX12 tyX12_ok nmX12 hown hK hP hD hS 0 jg_c0 rfl 3 (by decide) (hts (.fieldLink RX12 19 "BookOfAll" "rules" "LBookOfAll$Rules;") (jm m_152)) (fun _ h9 => h9) rfl hin rfl (by decide +kernel) rfl rfl (jn_lt hf (Nat.le_of_ble_eq_true rfl)) dX12_init_23 (fun H locs hP hD hS => ?_)
  have hP := jrP hP jy4
  have hD := jrD hD jy4
  have hf := jn_s (k := 3) (x := .ref q2) hf
  refine lv_aload_n hx hb dX12_init_26 rfl (lv_at hl 0 rfl) ?_
  refine va_new (ci := 6) (fs := [.null, .int 0, .int 0, .int 0, .int 0, .int 0]) (C := RX6) (T := TX6) (N := 6) hx hb hts (jh hin_RX6) tyX6 tyX6_ok hown (hts (.classLink RX12 23 RX6) (jm m_612)) (hts (.instantiable RX6 6) (jm m_613)) (hts (.initialized RX6) (jm m_257)) hK hP hD hS hA rfl jd_RX6 (Nat.le_of_ble_eq_true rfl) (Nat.le_of_ble_eq_true rfl) dX12_init_27 (fun q3 H hP hD hS => ?_)
  refine W.widen (k := 18) (n := 3810) (Nat.le_of_ble_eq_true rfl) (Nat.le_of_ble_eq_true rfl) ?_
  refine lv_dup hx hb dX12_init_30 rfl ?_
  refine lv_aload_n hx hb dX12_init_31 rfl (lv_at hl 0 rfl) ?_
  refine va_get (D := (dC, dI)) (ci := 12) (v := .ref q2) (C := RX12) (T := TX12) (N := 20) hx hb hts (jh hin_RX12) hown hK hP 0 (jg_l jg_c0) rfl 3 (by decide) (hts (.fieldLink RX12 19 "BookOfAll" "rules" "LBookOfAll$Rules;") (jm m_152)) (fun _ h9 => h9) rfl dX12_init_32 ?_
  refine jci_v (va_runI (As := [.ref q2]) (rest := [.ref q3, .ref h0]) ⟨hx, hb, hml, hown, hts⟩ (iX6_init_1 l dC dI _ (q3) (q2)) (cwI 1 hts (jgoodI m_615) rfl rfl rfl (hts (.initialized RX6) (jm m_257)) (hts (.methodLink RX12 25 yX6_init) (jm m_616)) (hts (.instanceMethod yX6_init) (jm m_617)) rfl (by decide +kernel) ⟨(Nat.le_of_ble_eq_true rfl), (Nat.le_of_ble_eq_true rfl)⟩) ⟨jw_blind, fun U hU hW => ⟨rfl, jw_of hU hW (jp_last hP) (hK.sub [] rfl) (jd_last hD)⟩⟩ rfl rfl hl.1 rfl (lv_room (Nat.le_of_ble_eq_true rfl)) dX12_init_35 ⟨(Nat.le_of_ble_eq_true rfl), (Nat.le_of_ble_eq_true rfl)⟩) hP hD hS hA (fun u_3 H locs hP hK2 hD hS => ?_)
  have hK := hK.app hK2
  refine W.widen (k := 18) (n := 3810) (Nat.le_of_ble_eq_true rfl) (Nat.le_of_ble_eq_true rfl) ?_
  have hP := jrP hP jy3
  have hD := jrD hD jy3
  refine va_putF (D := (dC, dI)) (ci := 12) (v := .ref q3) (ty := .object "BookOfAll$Order") (C := RX12) (T := TX12) (N := 20) hx hb hts (jh hin_RX12) tyX12 tyX12_ok nmX12 hown hK hP hD hS 0 jg_c0 rfl 4 (by decide) (hts (.fieldLink RX12 28 "BookOfAll" "order" "LBookOfAll$Order;") (jm m_241)) (fun _ h9 => h9) rfl hin rfl (by decide +kernel) rfl rfl (jn_lt hf (Nat.le_of_ble_eq_true rfl)) dX12_init_38 (fun H locs hP hD hS => ?_)
  have hP := jrP hP jy4
  have hD := jrD hD jy4
  have hf := jn_s (k := 4) (x := .ref q3) hf
  refine lv_aload_n hx hb dX12_init_41 rfl (lv_at hl 0 rfl) ?_
  refine lv_bipush (v := 6) hx hb dX12_init_42 (by decide) ?_
  refine va_newq (N' := 6) hx hb hown (hts (.classLink RX12 32 RX11) (jm m_618)) (hE.1 RX11 (by decide +kernel)) hK hP hD hS hA (by decide) (by decide) (by decide) (Nat.le_of_ble_eq_true rfl) (Nat.le_of_ble_eq_true rfl) dX12_init_44 (fun q4 y4 H hK hP hD hS => ?_)
  refine W.widen (k := 19) (n := 3816) (Nat.le_of_ble_eq_true rfl) (Nat.le_of_ble_eq_true rfl) ?_
  have hP := jrP hP jy3
  have hD := jrD hD jy3
  refine va_putF (D := (dC, dI)) (ci := 12) (v := .ref q4) (ty := .array (.object "BookOfAll$Volume")) (C := RX12) (T := TX12) (N := 20) hx hb hts (jh hin_RX12) tyX12 tyX12_ok nmX12 hown hK hP hD hS 0 jg_c0 rfl 5 (by decide) (hts (.fieldLink RX12 34 "BookOfAll" "volumes" "[LBookOfAll$Volume;") (jm m_231)) (fun _ h9 => h9) rfl hin rfl (by decide +kernel) rfl rfl (jn_lt hf (Nat.le_of_ble_eq_true rfl)) dX12_init_47 (fun H locs hP hD hS => ?_)
  have hP := jrP hP jy4
  have hD := jrD hD jy4
  have hf := jn_s (k := 5) (x := .ref q4) hf
  refine lv_iconst (v := 0) hx hb dX12_init_50 (by decide) ?_
  refine lv_istore_n (lv' := [(1, .int 0), (0, .ref h0)]) hx hb dX12_init_51 rfl hl (by decide) rfl (fun ls hl => ?_)
  refine lv_iload_n hx hb dX12_init_52 rfl (lv_at hl 0 rfl) ?_
  refine lv_bipush (v := 6) hx hb dX12_init_53 (by decide) ?_
  refine lv_icmp_ge (tgt := 78) hx hb dX12_init_55 (by decide) (fun z => absurd z (by decide)) (fun _ => ?_)
  refine lv_aload_n hx hb dX12_init_58 rfl (lv_at hl 1 rfl) ?_
  refine va_get (D := (dC, dI)) (ci := 12) (v := .ref q4) (C := RX12) (T := TX12) (N := 20) hx hb hts (jh hin_RX12) hown hK hP 0 jg_c0 rfl 5 (by decide) (hts (.fieldLink RX12 34 "BookOfAll" "volumes" "[LBookOfAll$Volume;") (jm m_231)) (fun _ h9 => h9) rfl dX12_init_59 ?_
  refine lv_iload_n hx hb dX12_init_62 rfl (lv_at hl 0 rfl) ?_
  refine va_new (ci := 11) (fs := [.int 0, .int 0, .null, .null, .int 0, .int 0, .int 0]) (C := RX11) (T := TX11) (N := 7) hx hb hts (jh hin_RX11) tyX11 tyX11_ok hown (hts (.classLink RX12 32 RX11) (jm m_618)) (hts (.instantiable RX11 7) (jm m_619)) (hts (.initialized RX11) (jm m_620)) hK hP hD hS hA rfl jd_RX11 (Nat.le_of_ble_eq_true rfl) (Nat.le_of_ble_eq_true rfl) dX12_init_63 (fun q5 H hP hD hS => ?_)
  refine W.widen (k := 20) (n := 3823) (Nat.le_of_ble_eq_true rfl) (Nat.le_of_ble_eq_true rfl) ?_
  refine lv_dup hx hb dX12_init_66 rfl ?_
  refine lv_iload_n hx hb dX12_init_67 rfl (lv_at hl 0 rfl) ?_
  refine jci_v (va_runI (As := [.int 0]) (rest := [.ref q5, .int 0, .ref q4]) ⟨hx, hb, hml, hown, hts⟩ (iX11_init_1 l dC dI _ (q5)) (cwI 1 hts (jgoodI m_627) rfl rfl rfl (hts (.initialized RX11) (jm m_620)) (hts (.methodLink RX12 38 yX11_init) (jm m_628)) (hts (.instanceMethod yX11_init) (jm m_629)) rfl (by decide +kernel) ⟨(Nat.le_of_ble_eq_true rfl), (Nat.le_of_ble_eq_true rfl)⟩) ⟨jw_blind, fun U hU hW => ⟨rfl, jw_of hU hW (jp_last hP) (hK.sub [] rfl) (jd_last hD)⟩⟩ rfl rfl hl.1 rfl (lv_room (Nat.le_of_ble_eq_true rfl)) dX12_init_68 ⟨(Nat.le_of_ble_eq_true rfl), (Nat.le_of_ble_eq_true rfl)⟩) hP hD hS hA (fun u_4 H locs hP hK2 hD hS => ?_)
  have hK := hK.app hK2
  refine W.widen (k := 22) (n := 3823) (Nat.le_of_ble_eq_true rfl) (Nat.le_of_ble_eq_true rfl) ?_
  have hP := jrP hP jy3
  have hD := jrD hD jy3
  refine va_astq hx hb hK hP hD hS 19 15 20 11 (jg_c (jg_l (jg_r (n := 18) (i := 0) (jn_a (n := 17) (m := 1) (jn_a (n := 10) (m := 7) (jn_a (n := 0) (m := 10) rfl rfl) rfl) rfl) rfl rfl))) rfl (jg_c (jg_r (n := 19) (i := 0) (jn_a (n := 18) (m := 1) (jn_a (n := 17) (m := 1) (jn_a (n := 10) (m := 7) (jn_a (n := 0) (m := 10) rfl rfl) rfl) rfl) rfl) rfl rfl)) rfl (vp_in_nI (n := 0) (by decide) (by decide)) dX12_init_71 (fun H locs hP hD hS => ?_)
  have hP := jrP hP (jy5 (jy1 (jn_lt (n := 19) (jn_a (n := 18) (m := 1) (jn_a (n := 17) (m := 1) (jn_a (n := 10) (m := 7) (jn_a (n := 0) (m := 10) rfl rfl) rfl) rfl) rfl) (Nat.le_of_ble_eq_true rfl)) (jy2 (n := 18) (i := 0) (jn_a (n := 17) (m := 1) (jn_a (n := 10) (m := 7) (jn_a (n := 0) (m := 10) rfl rfl) rfl) rfl) rfl)))
  have hD := jrD hD (jy5 (jy1 (jn_lt (n := 19) (jn_a (n := 18) (m := 1) (jn_a (n := 17) (m := 1) (jn_a (n := 10) (m := 7) (jn_a (n := 0) (m := 10) rfl rfl) rfl) rfl) rfl) (Nat.le_of_ble_eq_true rfl)) (jy2 (n := 18) (i := 0) (jn_a (n := 17) (m := 1) (jn_a (n := 10) (m := 7) (jn_a (n := 0) (m := 10) rfl rfl) rfl) rfl) rfl)))
  refine lv_iinc (v := 1) (lv' := [(1, .int 1), (0, .ref h0)]) hx hb dX12_init_72 hl (k := 0) rfl (by decide) (by decide) rfl (fun ls hl => ?_)
  refine lv_goto (tgt := 52) hx hb dX12_init_75 (by decide) ?_
  refine lv_iload_n hx hb dX12_init_52 rfl (lv_at hl 0 rfl) ?_
  refine lv_bipush (v := 6) hx hb dX12_init_53 (by decide) ?_
  refine lv_icmp_ge (tgt := 78) hx hb dX12_init_55 (by decide) (fun z => absurd z (by decide)) (fun _ => ?_)
  refine lv_aload_n hx hb dX12_init_58 rfl (lv_at hl 1 rfl) ?_
  refine va_get (D := (dC, dI)) (ci := 12) (v := .ref q4) (C := RX12) (T := TX12) (N := 20) hx hb hts (jh hin_RX12) hown hK hP 0 jg_c0 rfl 5 (by decide) (hts (.fieldLink RX12 34 "BookOfAll" "volumes" "[LBookOfAll$Volume;") (jm m_231)) (fun _ h9 => h9) rfl dX12_init_59 ?_
  refine lv_iload_n hx hb dX12_init_62 rfl (lv_at hl 0 rfl) ?_
  refine va_new (ci := 11) (fs := [.int 0, .int 0, .null, .null, .int 0, .int 0, .int 0]) (C := RX11) (T := TX11) (N := 7) hx hb hts (jh hin_RX11) tyX11 tyX11_ok hown (hts (.classLink RX12 32 RX11) (jm m_618)) (hts (.instantiable RX11 7) (jm m_619)) (hts (.initialized RX11) (jm m_620)) hK hP hD hS hA rfl jd_RX11 (Nat.le_of_ble_eq_true rfl) (Nat.le_of_ble_eq_true rfl) dX12_init_63 (fun q6 H hP hD hS => ?_)
  refine W.widen (k := 23) (n := 3830) (Nat.le_of_ble_eq_true rfl) (Nat.le_of_ble_eq_true rfl) ?_
  refine lv_dup hx hb dX12_init_66 rfl ?_
  refine lv_iload_n hx hb dX12_init_67 rfl (lv_at hl 0 rfl) ?_
  refine jci_v (va_runI (As := [.int 1]) (rest := [.ref q6, .int 1, .ref q4]) ⟨hx, hb, hml, hown, hts⟩ (iX11_init_2 l dC dI _ (q6)) (cwI 1 hts (jgoodI m_627) rfl rfl rfl (hts (.initialized RX11) (jm m_620)) (hts (.methodLink RX12 38 yX11_init) (jm m_628)) (hts (.instanceMethod yX11_init) (jm m_629)) rfl (by decide +kernel) ⟨(Nat.le_of_ble_eq_true rfl), (Nat.le_of_ble_eq_true rfl)⟩) ⟨jw_blind, fun U hU hW => ⟨rfl, jw_of hU hW (jp_last hP) (hK.sub [] rfl) (jd_last hD)⟩⟩ rfl rfl hl.1 rfl (lv_room (Nat.le_of_ble_eq_true rfl)) dX12_init_68 ⟨(Nat.le_of_ble_eq_true rfl), (Nat.le_of_ble_eq_true rfl)⟩) hP hD hS hA (fun u_5 H locs hP hK2 hD hS => ?_)
  have hK := hK.app hK2
  refine W.widen (k := 25) (n := 3830) (Nat.le_of_ble_eq_true rfl) (Nat.le_of_ble_eq_true rfl) ?_
  have hP := jrP hP jy3
  have hD := jrD hD jy3
  refine va_astq hx hb hK hP hD hS 19 15 23 11 (jg_c (jg_l (jg_l (jg_r (n := 18) (i := 0) (jn_a (n := 17) (m := 1) (jn_a (n := 10) (m := 7) (jn_a (n := 0) (m := 10) rfl rfl) rfl) rfl) rfl rfl)))) rfl (jg_c (jg_r (n := 22) (i := 0) (jn_a (n := 19) (m := 3) (jn_a (n := 18) (m := 1) (jn_a (n := 17) (m := 1) (jn_a (n := 10) (m := 7) (jn_a (n := 0) (m := 10) rfl rfl) rfl) rfl) rfl) rfl) rfl rfl)) rfl (vp_in_nI (n := 1) (by decide) (by decide)) dX12_init_71 (fun H locs hP hD hS => ?_)
  have hP := jrP hP (jy5 (jy1 (jn_lt (n := 22) (jn_a (n := 19) (m := 3) (jn_a (n := 18) (m := 1) (jn_a (n := 17) (m := 1) (jn_a (n := 10) (m := 7) (jn_a (n := 0) (m := 10) rfl rfl) rfl) rfl) rfl) rfl) (Nat.le_of_ble_eq_true rfl)) (jy1 (jn_lt (n := 19) (jn_a (n := 18) (m := 1) (jn_a (n := 17) (m := 1) (jn_a (n := 10) (m := 7) (jn_a (n := 0) (m := 10) rfl rfl) rfl) rfl) rfl) (Nat.le_of_ble_eq_true rfl)) (jy2 (n := 18) (i := 0) (jn_a (n := 17) (m := 1) (jn_a (n := 10) (m := 7) (jn_a (n := 0) (m := 10) rfl rfl) rfl) rfl) rfl))))
  have hD := jrD hD (jy5 (jy1 (jn_lt (n := 22) (jn_a (n := 19) (m := 3) (jn_a (n := 18) (m := 1) (jn_a (n := 17) (m := 1) (jn_a (n := 10) (m := 7) (jn_a (n := 0) (m := 10) rfl rfl) rfl) rfl) rfl) rfl) (Nat.le_of_ble_eq_true rfl)) (jy1 (jn_lt (n := 19) (jn_a (n := 18) (m := 1) (jn_a (n := 17) (m := 1) (jn_a (n := 10) (m := 7) (jn_a (n := 0) (m := 10) rfl rfl) rfl) rfl) rfl) (Nat.le_of_ble_eq_true rfl)) (jy2 (n := 18) (i := 0) (jn_a (n := 17) (m := 1) (jn_a (n := 10) (m := 7) (jn_a (n := 0) (m := 10) rfl rfl) rfl) rfl) rfl))))
  refine lv_iinc (v := 2) (lv' := [(1, .int 2), (0, .ref h0)]) hx hb dX12_init_72 hl (k := 0) rfl (by decide) (by decide) rfl (fun ls hl => ?_)
  refine lv_goto (tgt := 52) hx hb dX12_init_75 (by decide) ?_
  refine lv_iload_n hx hb dX12_init_52 rfl (lv_at hl 0 rfl) ?_
  refine lv_bipush (v := 6) hx hb dX12_init_53 (by decide) ?_
  refine lv_icmp_ge (tgt := 78) hx hb dX12_init_55 (by decide) (fun z => absurd z (by decide)) (fun _ => ?_)
  refine lv_aload_n hx hb dX12_init_58 rfl (lv_at hl 1 rfl) ?_
  refine va_get (D := (dC, dI)) (ci := 12) (v := .ref q4) (C := RX12) (T := TX12) (N := 20) hx hb hts (jh hin_RX12) hown hK hP 0 jg_c0 rfl 5 (by decide) (hts (.fieldLink RX12 34 "BookOfAll" "volumes" "[LBookOfAll$Volume;") (jm m_231)) (fun _ h9 => h9) rfl dX12_init_59 ?_
  refine lv_iload_n hx hb dX12_init_62 rfl (lv_at hl 0 rfl) ?_
  refine va_new (ci := 11) (fs := [.int 0, .int 0, .null, .null, .int 0, .int 0, .int 0]) (C := RX11) (T := TX11) (N := 7) hx hb hts (jh hin_RX11) tyX11 tyX11_ok hown (hts (.classLink RX12 32 RX11) (jm m_618)) (hts (.instantiable RX11 7) (jm m_619)) (hts (.initialized RX11) (jm m_620)) hK hP hD hS hA rfl jd_RX11 (Nat.le_of_ble_eq_true rfl) (Nat.le_of_ble_eq_true rfl) dX12_init_63 (fun q7 H hP hD hS => ?_)
  refine W.widen (k := 26) (n := 3837) (Nat.le_of_ble_eq_true rfl) (Nat.le_of_ble_eq_true rfl) ?_
  refine lv_dup hx hb dX12_init_66 rfl ?_
  refine lv_iload_n hx hb dX12_init_67 rfl (lv_at hl 0 rfl) ?_
  refine jci_v (va_runI (As := [.int 2]) (rest := [.ref q7, .int 2, .ref q4]) ⟨hx, hb, hml, hown, hts⟩ (iX11_init_3 l dC dI _ (q7)) (cwI 1 hts (jgoodI m_627) rfl rfl rfl (hts (.initialized RX11) (jm m_620)) (hts (.methodLink RX12 38 yX11_init) (jm m_628)) (hts (.instanceMethod yX11_init) (jm m_629)) rfl (by decide +kernel) ⟨(Nat.le_of_ble_eq_true rfl), (Nat.le_of_ble_eq_true rfl)⟩) ⟨jw_blind, fun U hU hW => ⟨rfl, jw_of hU hW (jp_last hP) (hK.sub [] rfl) (jd_last hD)⟩⟩ rfl rfl hl.1 rfl (lv_room (Nat.le_of_ble_eq_true rfl)) dX12_init_68 ⟨(Nat.le_of_ble_eq_true rfl), (Nat.le_of_ble_eq_true rfl)⟩) hP hD hS hA (fun u_6 H locs hP hK2 hD hS => ?_)
  have hK := hK.app hK2
  refine W.widen (k := 28) (n := 3837) (Nat.le_of_ble_eq_true rfl) (Nat.le_of_ble_eq_true rfl) ?_
  have hP := jrP hP jy3
  have hD := jrD hD jy3
  refine va_astq hx hb hK hP hD hS 19 15 26 11 (jg_c (jg_l (jg_l (jg_l (jg_r (n := 18) (i := 0) (jn_a (n := 17) (m := 1) (jn_a (n := 10) (m := 7) (jn_a (n := 0) (m := 10) rfl rfl) rfl) rfl) rfl rfl))))) rfl (jg_c (jg_r (n := 25) (i := 0) (jn_a (n := 22) (m := 3) (jn_a (n := 19) (m := 3) (jn_a (n := 18) (m := 1) (jn_a (n := 17) (m := 1) (jn_a (n := 10) (m := 7) (jn_a (n := 0) (m := 10) rfl rfl) rfl) rfl) rfl) rfl) rfl) rfl rfl)) rfl (vp_in_nI (n := 2) (by decide) (by decide)) dX12_init_71 (fun H locs hP hD hS => ?_)
  have hP := jrP hP (jy5 (jy1 (jn_lt (n := 25) (jn_a (n := 22) (m := 3) (jn_a (n := 19) (m := 3) (jn_a (n := 18) (m := 1) (jn_a (n := 17) (m := 1) (jn_a (n := 10) (m := 7) (jn_a (n := 0) (m := 10) rfl rfl) rfl) rfl) rfl) rfl) rfl) (Nat.le_of_ble_eq_true rfl)) (jy1 (jn_lt (n := 22) (jn_a (n := 19) (m := 3) (jn_a (n := 18) (m := 1) (jn_a (n := 17) (m := 1) (jn_a (n := 10) (m := 7) (jn_a (n := 0) (m := 10) rfl rfl) rfl) rfl) rfl) rfl) (Nat.le_of_ble_eq_true rfl)) (jy1 (jn_lt (n := 19) (jn_a (n := 18) (m := 1) (jn_a (n := 17) (m := 1) (jn_a (n := 10) (m := 7) (jn_a (n := 0) (m := 10) rfl rfl) rfl) rfl) rfl) (Nat.le_of_ble_eq_true rfl)) (jy2 (n := 18) (i := 0) (jn_a (n := 17) (m := 1) (jn_a (n := 10) (m := 7) (jn_a (n := 0) (m := 10) rfl rfl) rfl) rfl) rfl)))))
  have hD := jrD hD (jy5 (jy1 (jn_lt (n := 25) (jn_a (n := 22) (m := 3) (jn_a (n := 19) (m := 3) (jn_a (n := 18) (m := 1) (jn_a (n := 17) (m := 1) (jn_a (n := 10) (m := 7) (jn_a (n := 0) (m := 10) rfl rfl) rfl) rfl) rfl) rfl) rfl) (Nat.le_of_ble_eq_true rfl)) (jy1 (jn_lt (n := 22) (jn_a (n := 19) (m := 3) (jn_a (n := 18) (m := 1) (jn_a (n := 17) (m := 1) (jn_a (n := 10) (m := 7) (jn_a (n := 0) (m := 10) rfl rfl) rfl) rfl) rfl) rfl) (Nat.le_of_ble_eq_true rfl)) (jy1 (jn_lt (n := 19) (jn_a (n := 18) (m := 1) (jn_a (n := 17) (m := 1) (jn_a (n := 10) (m := 7) (jn_a (n := 0) (m := 10) rfl rfl) rfl) rfl) rfl) (Nat.le_of_ble_eq_true rfl)) (jy2 (n := 18) (i := 0) (jn_a (n := 17) (m := 1) (jn_a (n := 10) (m := 7) (jn_a (n := 0) (m := 10) rfl rfl) rfl) rfl) rfl)))))
  refine lv_iinc (v := 3) (lv' := [(1, .int 3), (0, .ref h0)]) hx hb dX12_init_72 hl (k := 0) rfl (by decide) (by decide) rfl (fun ls hl => ?_)
  refine lv_goto (tgt := 52) hx hb dX12_init_75 (by decide) ?_
  refine lv_iload_n hx hb dX12_init_52 rfl (lv_at hl 0 rfl) ?_
  refine lv_bipush (v := 6) hx hb dX12_init_53 (by decide) ?_
  refine lv_icmp_ge (tgt := 78) hx hb dX12_init_55 (by decide) (fun z => absurd z (by decide)) (fun _ => ?_)
  refine lv_aload_n hx hb dX12_init_58 rfl (lv_at hl 1 rfl) ?_
  refine va_get (D := (dC, dI)) (ci := 12) (v := .ref q4) (C := RX12) (T := TX12) (N := 20) hx hb hts (jh hin_RX12) hown hK hP 0 jg_c0 rfl 5 (by decide) (hts (.fieldLink RX12 34 "BookOfAll" "volumes" "[LBookOfAll$Volume;") (jm m_231)) (fun _ h9 => h9) rfl dX12_init_59 ?_
  refine lv_iload_n hx hb dX12_init_62 rfl (lv_at hl 0 rfl) ?_
  refine va_new (ci := 11) (fs := [.int 0, .int 0, .null, .null, .int 0, .int 0, .int 0]) (C := RX11) (T := TX11) (N := 7) hx hb hts (jh hin_RX11) tyX11 tyX11_ok hown (hts (.classLink RX12 32 RX11) (jm m_618)) (hts (.instantiable RX11 7) (jm m_619)) (hts (.initialized RX11) (jm m_620)) hK hP hD hS hA rfl jd_RX11 (Nat.le_of_ble_eq_true rfl) (Nat.le_of_ble_eq_true rfl) dX12_init_63 (fun q8 H hP hD hS => ?_)
  refine W.widen (k := 29) (n := 3844) (Nat.le_of_ble_eq_true rfl) (Nat.le_of_ble_eq_true rfl) ?_
  refine lv_dup hx hb dX12_init_66 rfl ?_
  refine lv_iload_n hx hb dX12_init_67 rfl (lv_at hl 0 rfl) ?_
  refine jci_v (va_runI (As := [.int 3]) (rest := [.ref q8, .int 3, .ref q4]) ⟨hx, hb, hml, hown, hts⟩ (iX11_init_4 l dC dI _ (q8)) (cwI 1 hts (jgoodI m_627) rfl rfl rfl (hts (.initialized RX11) (jm m_620)) (hts (.methodLink RX12 38 yX11_init) (jm m_628)) (hts (.instanceMethod yX11_init) (jm m_629)) rfl (by decide +kernel) ⟨(Nat.le_of_ble_eq_true rfl), (Nat.le_of_ble_eq_true rfl)⟩) ⟨jw_blind, fun U hU hW => ⟨rfl, jw_of hU hW (jp_last hP) (hK.sub [] rfl) (jd_last hD)⟩⟩ rfl rfl hl.1 rfl (lv_room (Nat.le_of_ble_eq_true rfl)) dX12_init_68 ⟨(Nat.le_of_ble_eq_true rfl), (Nat.le_of_ble_eq_true rfl)⟩) hP hD hS hA (fun u_7 H locs hP hK2 hD hS => ?_)
  have hK := hK.app hK2
  refine W.widen (k := 31) (n := 3844) (Nat.le_of_ble_eq_true rfl) (Nat.le_of_ble_eq_true rfl) ?_
  have hP := jrP hP jy3
  have hD := jrD hD jy3
  refine va_astq hx hb hK hP hD hS 19 15 29 11 (jg_c (jg_l (jg_l (jg_l (jg_l (jg_r (n := 18) (i := 0) (jn_a (n := 17) (m := 1) (jn_a (n := 10) (m := 7) (jn_a (n := 0) (m := 10) rfl rfl) rfl) rfl) rfl rfl)))))) rfl (jg_c (jg_r (n := 28) (i := 0) (jn_a (n := 25) (m := 3) (jn_a (n := 22) (m := 3) (jn_a (n := 19) (m := 3) (jn_a (n := 18) (m := 1) (jn_a (n := 17) (m := 1) (jn_a (n := 10) (m := 7) (jn_a (n := 0) (m := 10) rfl rfl) rfl) rfl) rfl) rfl) rfl) rfl) rfl rfl)) rfl (vp_in_nI (n := 3) (by decide) (by decide)) dX12_init_71 (fun H locs hP hD hS => ?_)
  have hP := jrP hP (jy5 (jy1 (jn_lt (n := 28) (jn_a (n := 25) (m := 3) (jn_a (n := 22) (m := 3) (jn_a (n := 19) (m := 3) (jn_a (n := 18) (m := 1) (jn_a (n := 17) (m := 1) (jn_a (n := 10) (m := 7) (jn_a (n := 0) (m := 10) rfl rfl) rfl) rfl) rfl) rfl) rfl) rfl) (Nat.le_of_ble_eq_true rfl)) (jy1 (jn_lt (n := 25) (jn_a (n := 22) (m := 3) (jn_a (n := 19) (m := 3) (jn_a (n := 18) (m := 1) (jn_a (n := 17) (m := 1) (jn_a (n := 10) (m := 7) (jn_a (n := 0) (m := 10) rfl rfl) rfl) rfl) rfl) rfl) rfl) (Nat.le_of_ble_eq_true rfl)) (jy1 (jn_lt (n := 22) (jn_a (n := 19) (m := 3) (jn_a (n := 18) (m := 1) (jn_a (n := 17) (m := 1) (jn_a (n := 10) (m := 7) (jn_a (n := 0) (m := 10) rfl rfl) rfl) rfl) rfl) rfl) (Nat.le_of_ble_eq_true rfl)) (jy1 (jn_lt (n := 19) (jn_a (n := 18) (m := 1) (jn_a (n := 17) (m := 1) (jn_a (n := 10) (m := 7) (jn_a (n := 0) (m := 10) rfl rfl) rfl) rfl) rfl) (Nat.le_of_ble_eq_true rfl)) (jy2 (n := 18) (i := 0) (jn_a (n := 17) (m := 1) (jn_a (n := 10) (m := 7) (jn_a (n := 0) (m := 10) rfl rfl) rfl) rfl) rfl))))))
  have hD := jrD hD (jy5 (jy1 (jn_lt (n := 28) (jn_a (n := 25) (m := 3) (jn_a (n := 22) (m := 3) (jn_a (n := 19) (m := 3) (jn_a (n := 18) (m := 1) (jn_a (n := 17) (m := 1) (jn_a (n := 10) (m := 7) (jn_a (n := 0) (m := 10) rfl rfl) rfl) rfl) rfl) rfl) rfl) rfl) (Nat.le_of_ble_eq_true rfl)) (jy1 (jn_lt (n := 25) (jn_a (n := 22) (m := 3) (jn_a (n := 19) (m := 3) (jn_a (n := 18) (m := 1) (jn_a (n := 17) (m := 1) (jn_a (n := 10) (m := 7) (jn_a (n := 0) (m := 10) rfl rfl) rfl) rfl) rfl) rfl) rfl) (Nat.le_of_ble_eq_true rfl)) (jy1 (jn_lt (n := 22) (jn_a (n := 19) (m := 3) (jn_a (n := 18) (m := 1) (jn_a (n := 17) (m := 1) (jn_a (n := 10) (m := 7) (jn_a (n := 0) (m := 10) rfl rfl) rfl) rfl) rfl) rfl) (Nat.le_of_ble_eq_true rfl)) (jy1 (jn_lt (n := 19) (jn_a (n := 18) (m := 1) (jn_a (n := 17) (m := 1) (jn_a (n := 10) (m := 7) (jn_a (n := 0) (m := 10) rfl rfl) rfl) rfl) rfl) (Nat.le_of_ble_eq_true rfl)) (jy2 (n := 18) (i := 0) (jn_a (n := 17) (m := 1) (jn_a (n := 10) (m := 7) (jn_a (n := 0) (m := 10) rfl rfl) rfl) rfl) rfl))))))
  refine lv_iinc (v := 4) (lv' := [(1, .int 4), (0, .ref h0)]) hx hb dX12_init_72 hl (k := 0) rfl (by decide) (by decide) rfl (fun ls hl => ?_)
  refine lv_goto (tgt := 52) hx hb dX12_init_75 (by decide) ?_
  refine lv_iload_n hx hb dX12_init_52 rfl (lv_at hl 0 rfl) ?_
  refine lv_bipush (v := 6) hx hb dX12_init_53 (by decide) ?_
  refine lv_icmp_ge (tgt := 78) hx hb dX12_init_55 (by decide) (fun z => absurd z (by decide)) (fun _ => ?_)
  refine lv_aload_n hx hb dX12_init_58 rfl (lv_at hl 1 rfl) ?_
  refine va_get (D := (dC, dI)) (ci := 12) (v := .ref q4) (C := RX12) (T := TX12) (N := 20) hx hb hts (jh hin_RX12) hown hK hP 0 jg_c0 rfl 5 (by decide) (hts (.fieldLink RX12 34 "BookOfAll" "volumes" "[LBookOfAll$Volume;") (jm m_231)) (fun _ h9 => h9) rfl dX12_init_59 ?_
  refine lv_iload_n hx hb dX12_init_62 rfl (lv_at hl 0 rfl) ?_
  refine va_new (ci := 11) (fs := [.int 0, .int 0, .null, .null, .int 0, .int 0, .int 0]) (C := RX11) (T := TX11) (N := 7) hx hb hts (jh hin_RX11) tyX11 tyX11_ok hown (hts (.classLink RX12 32 RX11) (jm m_618)) (hts (.instantiable RX11 7) (jm m_619)) (hts (.initialized RX11) (jm m_620)) hK hP hD hS hA rfl jd_RX11 (Nat.le_of_ble_eq_true rfl) (Nat.le_of_ble_eq_true rfl) dX12_init_63 (fun q9 H hP hD hS => ?_)
  refine W.widen (k := 32) (n := 3851) (Nat.le_of_ble_eq_true rfl) (Nat.le_of_ble_eq_true rfl) ?_
  refine lv_dup hx hb dX12_init_66 rfl ?_
  refine lv_iload_n hx hb dX12_init_67 rfl (lv_at hl 0 rfl) ?_
  refine jci_v (va_runI (As := [.int 4]) (rest := [.ref q9, .int 4, .ref q4]) ⟨hx, hb, hml, hown, hts⟩ (iX11_init_5 l dC dI _ (q9)) (cwI 1 hts (jgoodI m_627) rfl rfl rfl (hts (.initialized RX11) (jm m_620)) (hts (.methodLink RX12 38 yX11_init) (jm m_628)) (hts (.instanceMethod yX11_init) (jm m_629)) rfl (by decide +kernel) ⟨(Nat.le_of_ble_eq_true rfl), (Nat.le_of_ble_eq_true rfl)⟩) ⟨jw_blind, fun U hU hW => ⟨rfl, jw_of hU hW (jp_last hP) (hK.sub [] rfl) (jd_last hD)⟩⟩ rfl rfl hl.1 rfl (lv_room (Nat.le_of_ble_eq_true rfl)) dX12_init_68 ⟨(Nat.le_of_ble_eq_true rfl), (Nat.le_of_ble_eq_true rfl)⟩) hP hD hS hA (fun u_8 H locs hP hK2 hD hS => ?_)
  have hK := hK.app hK2
  refine W.widen (k := 34) (n := 3851) (Nat.le_of_ble_eq_true rfl) (Nat.le_of_ble_eq_true rfl) ?_
  have hP := jrP hP jy3
  have hD := jrD hD jy3
  refine va_astq hx hb hK hP hD hS 19 15 32 11 (jg_c (jg_l (jg_l (jg_l (jg_l (jg_l (jg_r (n := 18) (i := 0) (jn_a (n := 17) (m := 1) (jn_a (n := 10) (m := 7) (jn_a (n := 0) (m := 10) rfl rfl) rfl) rfl) rfl rfl))))))) rfl (jg_c (jg_r (n := 31) (i := 0) (jn_a (n := 28) (m := 3) (jn_a (n := 25) (m := 3) (jn_a (n := 22) (m := 3) (jn_a (n := 19) (m := 3) (jn_a (n := 18) (m := 1) (jn_a (n := 17) (m := 1) (jn_a (n := 10) (m := 7) (jn_a (n := 0) (m := 10) rfl rfl) rfl) rfl) rfl) rfl) rfl) rfl) rfl) rfl rfl)) rfl (vp_in_nI (n := 4) (by decide) (by decide)) dX12_init_71 (fun H locs hP hD hS => ?_)
  have hP := jrP hP (jy5 (jy1 (jn_lt (n := 31) (jn_a (n := 28) (m := 3) (jn_a (n := 25) (m := 3) (jn_a (n := 22) (m := 3) (jn_a (n := 19) (m := 3) (jn_a (n := 18) (m := 1) (jn_a (n := 17) (m := 1) (jn_a (n := 10) (m := 7) (jn_a (n := 0) (m := 10) rfl rfl) rfl) rfl) rfl) rfl) rfl) rfl) rfl) (Nat.le_of_ble_eq_true rfl)) (jy1 (jn_lt (n := 28) (jn_a (n := 25) (m := 3) (jn_a (n := 22) (m := 3) (jn_a (n := 19) (m := 3) (jn_a (n := 18) (m := 1) (jn_a (n := 17) (m := 1) (jn_a (n := 10) (m := 7) (jn_a (n := 0) (m := 10) rfl rfl) rfl) rfl) rfl) rfl) rfl) rfl) (Nat.le_of_ble_eq_true rfl)) (jy1 (jn_lt (n := 25) (jn_a (n := 22) (m := 3) (jn_a (n := 19) (m := 3) (jn_a (n := 18) (m := 1) (jn_a (n := 17) (m := 1) (jn_a (n := 10) (m := 7) (jn_a (n := 0) (m := 10) rfl rfl) rfl) rfl) rfl) rfl) rfl) (Nat.le_of_ble_eq_true rfl)) (jy1 (jn_lt (n := 22) (jn_a (n := 19) (m := 3) (jn_a (n := 18) (m := 1) (jn_a (n := 17) (m := 1) (jn_a (n := 10) (m := 7) (jn_a (n := 0) (m := 10) rfl rfl) rfl) rfl) rfl) rfl) (Nat.le_of_ble_eq_true rfl)) (jy1 (jn_lt (n := 19) (jn_a (n := 18) (m := 1) (jn_a (n := 17) (m := 1) (jn_a (n := 10) (m := 7) (jn_a (n := 0) (m := 10) rfl rfl) rfl) rfl) rfl) (Nat.le_of_ble_eq_true rfl)) (jy2 (n := 18) (i := 0) (jn_a (n := 17) (m := 1) (jn_a (n := 10) (m := 7) (jn_a (n := 0) (m := 10) rfl rfl) rfl) rfl) rfl)))))))
  have hD := jrD hD (jy5 (jy1 (jn_lt (n := 31) (jn_a (n := 28) (m := 3) (jn_a (n := 25) (m := 3) (jn_a (n := 22) (m := 3) (jn_a (n := 19) (m := 3) (jn_a (n := 18) (m := 1) (jn_a (n := 17) (m := 1) (jn_a (n := 10) (m := 7) (jn_a (n := 0) (m := 10) rfl rfl) rfl) rfl) rfl) rfl) rfl) rfl) rfl) (Nat.le_of_ble_eq_true rfl)) (jy1 (jn_lt (n := 28) (jn_a (n := 25) (m := 3) (jn_a (n := 22) (m := 3) (jn_a (n := 19) (m := 3) (jn_a (n := 18) (m := 1) (jn_a (n := 17) (m := 1) (jn_a (n := 10) (m := 7) (jn_a (n := 0) (m := 10) rfl rfl) rfl) rfl) rfl) rfl) rfl) rfl) (Nat.le_of_ble_eq_true rfl)) (jy1 (jn_lt (n := 25) (jn_a (n := 22) (m := 3) (jn_a (n := 19) (m := 3) (jn_a (n := 18) (m := 1) (jn_a (n := 17) (m := 1) (jn_a (n := 10) (m := 7) (jn_a (n := 0) (m := 10) rfl rfl) rfl) rfl) rfl) rfl) rfl) (Nat.le_of_ble_eq_true rfl)) (jy1 (jn_lt (n := 22) (jn_a (n := 19) (m := 3) (jn_a (n := 18) (m := 1) (jn_a (n := 17) (m := 1) (jn_a (n := 10) (m := 7) (jn_a (n := 0) (m := 10) rfl rfl) rfl) rfl) rfl) rfl) (Nat.le_of_ble_eq_true rfl)) (jy1 (jn_lt (n := 19) (jn_a (n := 18) (m := 1) (jn_a (n := 17) (m := 1) (jn_a (n := 10) (m := 7) (jn_a (n := 0) (m := 10) rfl rfl) rfl) rfl) rfl) (Nat.le_of_ble_eq_true rfl)) (jy2 (n := 18) (i := 0) (jn_a (n := 17) (m := 1) (jn_a (n := 10) (m := 7) (jn_a (n := 0) (m := 10) rfl rfl) rfl) rfl) rfl)))))))
  refine lv_iinc (v := 5) (lv' := [(1, .int 5), (0, .ref h0)]) hx hb dX12_init_72 hl (k := 0) rfl (by decide) (by decide) rfl (fun ls hl => ?_)
  refine lv_goto (tgt := 52) hx hb dX12_init_75 (by decide) ?_
  refine lv_iload_n hx hb dX12_init_52 rfl (lv_at hl 0 rfl) ?_
  refine lv_bipush (v := 6) hx hb dX12_init_53 (by decide) ?_
  refine lv_icmp_ge (tgt := 78) hx hb dX12_init_55 (by decide) (fun z => absurd z (by decide)) (fun _ => ?_)
  refine lv_aload_n hx hb dX12_init_58 rfl (lv_at hl 1 rfl) ?_
  refine va_get (D := (dC, dI)) (ci := 12) (v := .ref q4) (C := RX12) (T := TX12) (N := 20) hx hb hts (jh hin_RX12) hown hK hP 0 jg_c0 rfl 5 (by decide) (hts (.fieldLink RX12 34 "BookOfAll" "volumes" "[LBookOfAll$Volume;") (jm m_231)) (fun _ h9 => h9) rfl dX12_init_59 ?_
  refine lv_iload_n hx hb dX12_init_62 rfl (lv_at hl 0 rfl) ?_
  refine va_new (ci := 11) (fs := [.int 0, .int 0, .null, .null, .int 0, .int 0, .int 0]) (C := RX11) (T := TX11) (N := 7) hx hb hts (jh hin_RX11) tyX11 tyX11_ok hown (hts (.classLink RX12 32 RX11) (jm m_618)) (hts (.instantiable RX11 7) (jm m_619)) (hts (.initialized RX11) (jm m_620)) hK hP hD hS hA rfl jd_RX11 (Nat.le_of_ble_eq_true rfl) (Nat.le_of_ble_eq_true rfl) dX12_init_63 (fun q10 H hP hD hS => ?_)
  refine W.widen (k := 35) (n := 3858) (Nat.le_of_ble_eq_true rfl) (Nat.le_of_ble_eq_true rfl) ?_
  refine lv_dup hx hb dX12_init_66 rfl ?_
  refine lv_iload_n hx hb dX12_init_67 rfl (lv_at hl 0 rfl) ?_
  refine jci_v (va_runI (As := [.int 5]) (rest := [.ref q10, .int 5, .ref q4]) ⟨hx, hb, hml, hown, hts⟩ (iX11_init_6 l dC dI _ (q10)) (cwI 1 hts (jgoodI m_627) rfl rfl rfl (hts (.initialized RX11) (jm m_620)) (hts (.methodLink RX12 38 yX11_init) (jm m_628)) (hts (.instanceMethod yX11_init) (jm m_629)) rfl (by decide +kernel) ⟨(Nat.le_of_ble_eq_true rfl), (Nat.le_of_ble_eq_true rfl)⟩) ⟨jw_blind, fun U hU hW => ⟨rfl, jw_of hU hW (jp_last hP) (hK.sub [] rfl) (jd_last hD)⟩⟩ rfl rfl hl.1 rfl (lv_room (Nat.le_of_ble_eq_true rfl)) dX12_init_68 ⟨(Nat.le_of_ble_eq_true rfl), (Nat.le_of_ble_eq_true rfl)⟩) hP hD hS hA (fun u_9 H locs hP hK2 hD hS => ?_)
  have hK := hK.app hK2
  refine W.widen (k := 37) (n := 3858) (Nat.le_of_ble_eq_true rfl) (Nat.le_of_ble_eq_true rfl) ?_
  have hP := jrP hP jy3
  have hD := jrD hD jy3
  refine va_astq hx hb hK hP hD hS 19 15 35 11 (jg_c (jg_l (jg_l (jg_l (jg_l (jg_l (jg_l (jg_r (n := 18) (i := 0) (jn_a (n := 17) (m := 1) (jn_a (n := 10) (m := 7) (jn_a (n := 0) (m := 10) rfl rfl) rfl) rfl) rfl rfl)))))))) rfl (jg_c (jg_r (n := 34) (i := 0) (jn_a (n := 31) (m := 3) (jn_a (n := 28) (m := 3) (jn_a (n := 25) (m := 3) (jn_a (n := 22) (m := 3) (jn_a (n := 19) (m := 3) (jn_a (n := 18) (m := 1) (jn_a (n := 17) (m := 1) (jn_a (n := 10) (m := 7) (jn_a (n := 0) (m := 10) rfl rfl) rfl) rfl) rfl) rfl) rfl) rfl) rfl) rfl) rfl rfl)) rfl (vp_in_nI (n := 5) (by decide) (by decide)) dX12_init_71 (fun H locs hP hD hS => ?_)
  have hP := jrP hP (jy5 (jy1 (jn_lt (n := 34) (jn_a (n := 31) (m := 3) (jn_a (n := 28) (m := 3) (jn_a (n := 25) (m := 3) (jn_a (n := 22) (m := 3) (jn_a (n := 19) (m := 3) (jn_a (n := 18) (m := 1) (jn_a (n := 17) (m := 1) (jn_a (n := 10) (m := 7) (jn_a (n := 0) (m := 10) rfl rfl) rfl) rfl) rfl) rfl) rfl) rfl) rfl) rfl) (Nat.le_of_ble_eq_true rfl)) (jy1 (jn_lt (n := 31) (jn_a (n := 28) (m := 3) (jn_a (n := 25) (m := 3) (jn_a (n := 22) (m := 3) (jn_a (n := 19) (m := 3) (jn_a (n := 18) (m := 1) (jn_a (n := 17) (m := 1) (jn_a (n := 10) (m := 7) (jn_a (n := 0) (m := 10) rfl rfl) rfl) rfl) rfl) rfl) rfl) rfl) rfl) (Nat.le_of_ble_eq_true rfl)) (jy1 (jn_lt (n := 28) (jn_a (n := 25) (m := 3) (jn_a (n := 22) (m := 3) (jn_a (n := 19) (m := 3) (jn_a (n := 18) (m := 1) (jn_a (n := 17) (m := 1) (jn_a (n := 10) (m := 7) (jn_a (n := 0) (m := 10) rfl rfl) rfl) rfl) rfl) rfl) rfl) rfl) (Nat.le_of_ble_eq_true rfl)) (jy1 (jn_lt (n := 25) (jn_a (n := 22) (m := 3) (jn_a (n := 19) (m := 3) (jn_a (n := 18) (m := 1) (jn_a (n := 17) (m := 1) (jn_a (n := 10) (m := 7) (jn_a (n := 0) (m := 10) rfl rfl) rfl) rfl) rfl) rfl) rfl) (Nat.le_of_ble_eq_true rfl)) (jy1 (jn_lt (n := 22) (jn_a (n := 19) (m := 3) (jn_a (n := 18) (m := 1) (jn_a (n := 17) (m := 1) (jn_a (n := 10) (m := 7) (jn_a (n := 0) (m := 10) rfl rfl) rfl) rfl) rfl) rfl) (Nat.le_of_ble_eq_true rfl)) (jy1 (jn_lt (n := 19) (jn_a (n := 18) (m := 1) (jn_a (n := 17) (m := 1) (jn_a (n := 10) (m := 7) (jn_a (n := 0) (m := 10) rfl rfl) rfl) rfl) rfl) (Nat.le_of_ble_eq_true rfl)) (jy2 (n := 18) (i := 0) (jn_a (n := 17) (m := 1) (jn_a (n := 10) (m := 7) (jn_a (n := 0) (m := 10) rfl rfl) rfl) rfl) rfl))))))))
  have hD := jrD hD (jy5 (jy1 (jn_lt (n := 34) (jn_a (n := 31) (m := 3) (jn_a (n := 28) (m := 3) (jn_a (n := 25) (m := 3) (jn_a (n := 22) (m := 3) (jn_a (n := 19) (m := 3) (jn_a (n := 18) (m := 1) (jn_a (n := 17) (m := 1) (jn_a (n := 10) (m := 7) (jn_a (n := 0) (m := 10) rfl rfl) rfl) rfl) rfl) rfl) rfl) rfl) rfl) rfl) (Nat.le_of_ble_eq_true rfl)) (jy1 (jn_lt (n := 31) (jn_a (n := 28) (m := 3) (jn_a (n := 25) (m := 3) (jn_a (n := 22) (m := 3) (jn_a (n := 19) (m := 3) (jn_a (n := 18) (m := 1) (jn_a (n := 17) (m := 1) (jn_a (n := 10) (m := 7) (jn_a (n := 0) (m := 10) rfl rfl) rfl) rfl) rfl) rfl) rfl) rfl) rfl) (Nat.le_of_ble_eq_true rfl)) (jy1 (jn_lt (n := 28) (jn_a (n := 25) (m := 3) (jn_a (n := 22) (m := 3) (jn_a (n := 19) (m := 3) (jn_a (n := 18) (m := 1) (jn_a (n := 17) (m := 1) (jn_a (n := 10) (m := 7) (jn_a (n := 0) (m := 10) rfl rfl) rfl) rfl) rfl) rfl) rfl) rfl) (Nat.le_of_ble_eq_true rfl)) (jy1 (jn_lt (n := 25) (jn_a (n := 22) (m := 3) (jn_a (n := 19) (m := 3) (jn_a (n := 18) (m := 1) (jn_a (n := 17) (m := 1) (jn_a (n := 10) (m := 7) (jn_a (n := 0) (m := 10) rfl rfl) rfl) rfl) rfl) rfl) rfl) (Nat.le_of_ble_eq_true rfl)) (jy1 (jn_lt (n := 22) (jn_a (n := 19) (m := 3) (jn_a (n := 18) (m := 1) (jn_a (n := 17) (m := 1) (jn_a (n := 10) (m := 7) (jn_a (n := 0) (m := 10) rfl rfl) rfl) rfl) rfl) rfl) (Nat.le_of_ble_eq_true rfl)) (jy1 (jn_lt (n := 19) (jn_a (n := 18) (m := 1) (jn_a (n := 17) (m := 1) (jn_a (n := 10) (m := 7) (jn_a (n := 0) (m := 10) rfl rfl) rfl) rfl) rfl) (Nat.le_of_ble_eq_true rfl)) (jy2 (n := 18) (i := 0) (jn_a (n := 17) (m := 1) (jn_a (n := 10) (m := 7) (jn_a (n := 0) (m := 10) rfl rfl) rfl) rfl) rfl))))))))
  refine lv_iinc (v := 6) (lv' := [(1, .int 6), (0, .ref h0)]) hx hb dX12_init_72 hl (k := 0) rfl (by decide) (by decide) rfl (fun ls hl => ?_)
  refine lv_goto (tgt := 52) hx hb dX12_init_75 (by decide) ?_
  refine lv_iload_n hx hb dX12_init_52 rfl (lv_at hl 0 rfl) ?_
  refine lv_bipush (v := 6) hx hb dX12_init_53 (by decide) ?_
  refine lv_icmp_ge (tgt := 78) hx hb dX12_init_55 (by decide) (fun _ => ?_) (fun z => absurd (by decide) z)
  refine lv_aload_n hx hb dX12_init_78 rfl (lv_at hl 1 rfl) ?_
  refine lv_bipush (v := 60) hx hb dX12_init_79 (by decide) ?_
  refine va_newq (N' := 60) hx hb hown (hts (.classLink RX12 41 RX0) (jm m_267)) (hE.1 RX0 (by decide +kernel)) hK hP hD hS hA (by decide) (by decide) (by decide) (Nat.le_of_ble_eq_true rfl) (Nat.le_of_ble_eq_true rfl) dX12_init_81 (fun q11 y11 H hK hP hD hS => ?_)
  refine W.widen (k := 38) (n := 3918) (Nat.le_of_ble_eq_true rfl) (Nat.le_of_ble_eq_true rfl) ?_
  have hP := jrP hP jy3
  have hD := jrD hD jy3
  refine va_putF (D := (dC, dI)) (ci := 12) (v := .ref q11) (ty := .array (.object "BookOfAll$Entry")) (C := RX12) (T := TX12) (N := 20) hx hb hts (jh hin_RX12) tyX12 tyX12_ok nmX12 hown hK hP hD hS 0 jg_c0 rfl 6 (by decide) (hts (.fieldLink RX12 43 "BookOfAll" "entries" "[LBookOfAll$Entry;") (jm m_284)) (fun _ h9 => h9) rfl hin rfl (by decide +kernel) rfl rfl (jn_lt hf (Nat.le_of_ble_eq_true rfl)) dX12_init_84 (fun H locs hP hD hS => ?_)
  have hP := jrP hP jy4
  have hD := jrD hD jy4
  have hf := jn_s (k := 6) (x := .ref q11) hf
  refine lv_aload_n hx hb dX12_init_87 rfl (lv_at hl 1 rfl) ?_
  refine lv_bipush (v := 60) hx hb dX12_init_88 (by decide) ?_
  refine va_newa (atype := .int) (N' := 60) (a0 := (60, .inl (fun _ => 0))) (ty := .int) hx hb (hts (.arrayClass .int) (jm m_2)) rfl hK hP hD hS hA (fun _ => rfl) (by decide) (by decide) (by decide) (Nat.le_of_ble_eq_true rfl) (Nat.le_of_ble_eq_true rfl) dX12_init_90 (fun q12 y12 H hK hP hD hS => ?_)
  refine W.widen (k := 39) (n := 3978) (Nat.le_of_ble_eq_true rfl) (Nat.le_of_ble_eq_true rfl) ?_
  have hP := jrP hP jy3
  have hD := jrD hD jy3
  refine va_putF (D := (dC, dI)) (ci := 12) (v := .ref q12) (ty := .array .int) (C := RX12) (T := TX12) (N := 20) hx hb hts (jh hin_RX12) tyX12 tyX12_ok nmX12 hown hK hP hD hS 0 jg_c0 rfl 8 (by decide) (hts (.fieldLink RX12 47 "BookOfAll" "row" "[I") (jm m_403)) (fun _ h9 => h9) rfl hin rfl (by decide +kernel) rfl rfl (jn_lt hf (Nat.le_of_ble_eq_true rfl)) dX12_init_92 (fun H locs hP hD hS => ?_)
  have hP := jrP hP jy4
  have hD := jrD hD jy4
  have hf := jn_s (k := 8) (x := .ref q12) hf
  refine lv_aload_n hx hb dX12_init_95 rfl (lv_at hl 1 rfl) ?_
  refine lv_bipush (v := 12) hx hb dX12_init_96 (by decide) ?_
  refine va_newq (N' := 12) hx hb hown (hts (.classLink RX12 51 RX2) (jm m_341)) (hE.1 RX2 (by decide +kernel)) hK hP hD hS hA (by decide) (by decide) (by decide) (Nat.le_of_ble_eq_true rfl) (Nat.le_of_ble_eq_true rfl) dX12_init_98 (fun q13 y13 H hK hP hD hS => ?_)
  refine W.widen (k := 40) (n := 3990) (Nat.le_of_ble_eq_true rfl) (Nat.le_of_ble_eq_true rfl) ?_
  have hP := jrP hP jy3
  have hD := jrD hD jy3
  refine va_putF (D := (dC, dI)) (ci := 12) (v := .ref q13) (ty := .array (.object "BookOfAll$Hand")) (C := RX12) (T := TX12) (N := 20) hx hb hts (jh hin_RX12) tyX12 tyX12_ok nmX12 hown hK hP hD hS 0 jg_c0 rfl 10 (by decide) (hts (.fieldLink RX12 53 "BookOfAll" "hands" "[LBookOfAll$Hand;") (jm m_340)) (fun _ h9 => h9) rfl hin rfl (by decide +kernel) rfl rfl (jn_lt hf (Nat.le_of_ble_eq_true rfl)) dX12_init_101 (fun H locs hP hD hS => ?_)
  have hP := jrP hP jy4
  have hD := jrD hD jy4
  have hf := jn_s (k := 10) (x := .ref q13) hf
  refine lv_aload_n hx hb dX12_init_104 rfl (lv_at hl 1 rfl) ?_
  refine lv_sipush (v := 300) hx hb dX12_init_105 (by decide) ?_
  refine va_newq (N' := 300) hx hb hown (hts (.classLink RX12 57 RX4) (jm m_630)) (hE.1 RX4 (by decide +kernel)) hK hP hD hS hA (by decide) (by decide) (by decide) (Nat.le_of_ble_eq_true rfl) (Nat.le_of_ble_eq_true rfl) dX12_init_108 (fun q14 y14 H hK hP hD hS => ?_)
  refine W.widen (k := 41) (n := 4290) (Nat.le_of_ble_eq_true rfl) (Nat.le_of_ble_eq_true rfl) ?_
  have hP := jrP hP jy3
  have hD := jrD hD jy3
  refine va_putF (D := (dC, dI)) (ci := 12) (v := .ref q14) (ty := .array (.object "BookOfAll$Line")) (C := RX12) (T := TX12) (N := 20) hx hb hts (jh hin_RX12) tyX12 tyX12_ok nmX12 hown hK hP hD hS 0 jg_c0 rfl 12 (by decide) (hts (.fieldLink RX12 59 "BookOfAll" "lines" "[LBookOfAll$Line;") (jm m_631)) (fun _ h9 => h9) rfl hin rfl (by decide +kernel) rfl rfl (jn_lt hf (Nat.le_of_ble_eq_true rfl)) dX12_init_111 (fun H locs hP hD hS => ?_)
  have hP := jrP hP jy4
  have hD := jrD hD jy4
  have hf := jn_s (k := 12) (x := .ref q14) hf
  refine lv_aload_n hx hb dX12_init_114 rfl (lv_at hl 1 rfl) ?_
  refine va_new (ci := 5) (fs := [.null, .null, .null, .null, .null, .int 0, .null, .null, .null, .null, .null, .int 0]) (C := RX5) (T := TX5) (N := 12) hx hb hts (jh hin_RX5) tyX5 tyX5_ok hown (hts (.classLink RX12 63 RX5) (jm m_632)) (hts (.instantiable RX5 12) (jm m_633)) (hts (.initialized RX5) (jm m_370)) hK hP hD hS hA rfl jd_RX5 (Nat.le_of_ble_eq_true rfl) (Nat.le_of_ble_eq_true rfl) dX12_init_115 (fun q15 H hP hD hS => ?_)
  refine W.widen (k := 42) (n := 4302) (Nat.le_of_ble_eq_true rfl) (Nat.le_of_ble_eq_true rfl) ?_
  refine lv_dup hx hb dX12_init_118 rfl ?_
  refine jci_v (va_runI (As := []) (rest := [.ref q15, .ref h0]) ⟨hx, hb, hml, hown, hts⟩ (iX5_init_1 l dC dI _ (q15)) (cwI 0 hts (jgoodI m_641) rfl rfl rfl (hts (.initialized RX5) (jm m_370)) (hts (.methodLink RX12 65 yX5_init) (jm m_642)) (hts (.instanceMethod yX5_init) (jm m_643)) rfl (by decide +kernel) ⟨(Nat.le_of_ble_eq_true rfl), (Nat.le_of_ble_eq_true rfl)⟩) ⟨jw_blind, fun U hU hW => ⟨rfl, jw_of hU hW (jp_last hP) (hK.sub [] rfl) (jd_last hD)⟩⟩ rfl rfl hl.1 rfl (lv_room (Nat.le_of_ble_eq_true rfl)) dX12_init_119 ⟨(Nat.le_of_ble_eq_true rfl), (Nat.le_of_ble_eq_true rfl)⟩) hP hD hS hA (fun u_10 H locs hP hK2 hD hS => ?_)
  have hK := hK.app hK2
  refine W.widen (k := 52) (n := 7042) (Nat.le_of_ble_eq_true rfl) (Nat.le_of_ble_eq_true rfl) ?_
  have hP := jrP hP jy3
  have hD := jrD hD jy3
  refine va_putF (D := (dC, dI)) (ci := 12) (v := .ref q15) (ty := .object "BookOfAll$News") (C := RX12) (T := TX12) (N := 20) hx hb hts (jh hin_RX12) tyX12 tyX12_ok nmX12 hown hK hP hD hS 0 jg_c0 rfl 14 (by decide) (hts (.fieldLink RX12 66 "BookOfAll" "news" "LBookOfAll$News;") (jm m_360)) (fun _ h9 => h9) rfl hin rfl (by decide +kernel) rfl rfl (jn_lt hf (Nat.le_of_ble_eq_true rfl)) dX12_init_122 (fun H locs hP hD hS => ?_)
  have hP := jrP hP jy4
  have hD := jrD hD jy4
  have hf := jn_s (k := 14) (x := .ref q15) hf
  refine lv_aload_n hx hb dX12_init_125 rfl (lv_at hl 1 rfl) ?_
  refine lv_bipush (v := 10) hx hb dX12_init_126 (by decide) ?_
  refine va_newa (atype := .int) (N' := 10) (a0 := (10, .inl (fun _ => 0))) (ty := .int) hx hb (hts (.arrayClass .int) (jm m_2)) rfl hK hP hD hS hA (fun _ => rfl) (by decide) (by decide) (by decide) (Nat.le_of_ble_eq_true rfl) (Nat.le_of_ble_eq_true rfl) dX12_init_128 (fun q16 y16 H hK hP hD hS => ?_)
  refine W.widen (k := 53) (n := 7052) (Nat.le_of_ble_eq_true rfl) (Nat.le_of_ble_eq_true rfl) ?_
  have hP := jrP hP jy3
  have hD := jrD hD jy3
  refine va_putF (D := (dC, dI)) (ci := 12) (v := .ref q16) (ty := .array .int) (C := RX12) (T := TX12) (N := 20) hx hb hts (jh hin_RX12) tyX12 tyX12_ok nmX12 hown hK hP hD hS 0 jg_c0 rfl 15 (by decide) (hts (.fieldLink RX12 70 "BookOfAll" "firstVolume" "[I") (jm m_416)) (fun _ h9 => h9) rfl hin rfl (by decide +kernel) rfl rfl (jn_lt hf (Nat.le_of_ble_eq_true rfl)) dX12_init_130 (fun H locs hP hD hS => ?_)
  have hP := jrP hP jy4
  have hD := jrD hD jy4
  have hf := jn_s (k := 15) (x := .ref q16) hf
  refine lv_aload_n hx hb dX12_init_133 rfl (lv_at hl 1 rfl) ?_
  refine lv_bipush (v := 10) hx hb dX12_init_134 (by decide) ?_
  refine va_newa (atype := .int) (N' := 10) (a0 := (10, .inl (fun _ => 0))) (ty := .int) hx hb (hts (.arrayClass .int) (jm m_2)) rfl hK hP hD hS hA (fun _ => rfl) (by decide) (by decide) (by decide) (Nat.le_of_ble_eq_true rfl) (Nat.le_of_ble_eq_true rfl) dX12_init_136 (fun q17 y17 H hK hP hD hS => ?_)
  refine W.widen (k := 54) (n := 7062) (Nat.le_of_ble_eq_true rfl) (Nat.le_of_ble_eq_true rfl) ?_
  have hP := jrP hP jy3
  have hD := jrD hD jy3
  refine va_putF (D := (dC, dI)) (ci := 12) (v := .ref q17) (ty := .array .int) (C := RX12) (T := TX12) (N := 20) hx hb hts (jh hin_RX12) tyX12 tyX12_ok nmX12 hown hK hP hD hS 0 jg_c0 rfl 16 (by decide) (hts (.fieldLink RX12 73 "BookOfAll" "price" "[I") (jm m_417)) (fun _ h9 => h9) rfl hin rfl (by decide +kernel) rfl rfl (jn_lt hf (Nat.le_of_ble_eq_true rfl)) dX12_init_138 (fun H locs hP hD hS => ?_)
  have hP := jrP hP jy4
  have hD := jrD hD jy4
  have hf := jn_s (k := 16) (x := .ref q17) hf
  refine lv_aload_n hx hb dX12_init_141 rfl (lv_at hl 1 rfl) ?_
  refine va_get (D := (dC, dI)) (ci := 12) (v := .ref q16) (C := RX12) (T := TX12) (N := 20) hx hb hts (jh hin_RX12) hown hK hP 0 jg_c0 rfl 15 (by decide) (hts (.fieldLink RX12 70 "BookOfAll" "firstVolume" "[I") (jm m_416)) (fun _ h9 => h9) (jg_n (Nat.ne_of_beq_eq_false rfl) (jg_s (n := 20) (jn_s (jn_s (jn_s (jn_s (jn_s (jn_s (jn_s (jn_s (jn_s rfl))))))))) (Nat.le_of_ble_eq_true rfl))) dX12_init_142 ?_
  refine lv_iconst (v := (-1)) hx hb dX12_init_145 (by decide) ?_
  refine jc1_v (k := 53) (va_runS (As := [.ref q16, .int (-1)]) (rest := []) ⟨hx, hb, hml, hown, hts⟩ (kfill l dC dI _ (q16) 10 y16 (fun _ => 0) (-1) (by decide)) (va_cwS 2 hts (jgoodS m_644 m_141 m_142 m_143) rfl rfl rfl (by decide +kernel) ⟨(Nat.le_of_ble_eq_true rfl), (Nat.le_of_ble_eq_true rfl)⟩) ⟨jw_blind, fun U hU hW => ⟨rfl, jw_of hU hW (jp_at hP 53 (jg_c (jg_l (jg_r (n := 52) (i := 0) (jn_a (n := 41) (m := 11) (jn_a (n := 40) (m := 1) (jn_a (n := 39) (m := 1) (jn_a (n := 38) (m := 1) (jn_a (n := 37) (m := 1) (jn_a (n := 34) (m := 3) (jn_a (n := 31) (m := 3) (jn_a (n := 28) (m := 3) (jn_a (n := 25) (m := 3) (jn_a (n := 22) (m := 3) (jn_a (n := 19) (m := 3) (jn_a (n := 18) (m := 1) (jn_a (n := 17) (m := 1) (jn_a (n := 10) (m := 7) (jn_a (n := 0) (m := 10) rfl rfl) rfl) rfl) rfl) rfl) rfl) rfl) rfl) rfl) rfl) rfl) rfl) rfl) rfl) rfl) rfl rfl)))) (hK.sub [42] rfl) (jd_at hD 53 (jg_c (jg_l (jg_r (n := 52) (i := 0) (jn_a (n := 41) (m := 11) (jn_a (n := 40) (m := 1) (jn_a (n := 39) (m := 1) (jn_a (n := 38) (m := 1) (jn_a (n := 37) (m := 1) (jn_a (n := 34) (m := 3) (jn_a (n := 31) (m := 3) (jn_a (n := 28) (m := 3) (jn_a (n := 25) (m := 3) (jn_a (n := 22) (m := 3) (jn_a (n := 19) (m := 3) (jn_a (n := 18) (m := 1) (jn_a (n := 17) (m := 1) (jn_a (n := 10) (m := 7) (jn_a (n := 0) (m := 10) rfl rfl) rfl) rfl) rfl) rfl) rfl) rfl) rfl) rfl) rfl) rfl) rfl) rfl) rfl) rfl) rfl rfl))))⟩⟩ rfl rfl hl.1 rfl (lv_room (Nat.le_of_ble_eq_true rfl)) dX12_init_146 ⟨(Nat.le_of_ble_eq_true rfl), (Nat.le_of_ble_eq_true rfl)⟩) hP hD (jg_c (jg_l (jg_r (n := 52) (i := 0) (jn_a (n := 41) (m := 11) (jn_a (n := 40) (m := 1) (jn_a (n := 39) (m := 1) (jn_a (n := 38) (m := 1) (jn_a (n := 37) (m := 1) (jn_a (n := 34) (m := 3) (jn_a (n := 31) (m := 3) (jn_a (n := 28) (m := 3) (jn_a (n := 25) (m := 3) (jn_a (n := 22) (m := 3) (jn_a (n := 19) (m := 3) (jn_a (n := 18) (m := 1) (jn_a (n := 17) (m := 1) (jn_a (n := 10) (m := 7) (jn_a (n := 0) (m := 10) rfl rfl) rfl) rfl) rfl) rfl) rfl) rfl) rfl) rfl) rfl) rfl) rfl) rfl) rfl) rfl) rfl rfl))) hS hA (fun H locs hP hD hS => ?_)
  have hP := jrP hP (jy5 (jy1 (jn_lt (n := 53) (jn_a (n := 52) (m := 1) (jn_a (n := 41) (m := 11) (jn_a (n := 40) (m := 1) (jn_a (n := 39) (m := 1) (jn_a (n := 38) (m := 1) (jn_a (n := 37) (m := 1) (jn_a (n := 34) (m := 3) (jn_a (n := 31) (m := 3) (jn_a (n := 28) (m := 3) (jn_a (n := 25) (m := 3) (jn_a (n := 22) (m := 3) (jn_a (n := 19) (m := 3) (jn_a (n := 18) (m := 1) (jn_a (n := 17) (m := 1) (jn_a (n := 10) (m := 7) (jn_a (n := 0) (m := 10) rfl rfl) rfl) rfl) rfl) rfl) rfl) rfl) rfl) rfl) rfl) rfl) rfl) rfl) rfl) rfl) rfl) (Nat.le_of_ble_eq_true rfl)) (jy2 (n := 52) (i := 0) (jn_a (n := 41) (m := 11) (jn_a (n := 40) (m := 1) (jn_a (n := 39) (m := 1) (jn_a (n := 38) (m := 1) (jn_a (n := 37) (m := 1) (jn_a (n := 34) (m := 3) (jn_a (n := 31) (m := 3) (jn_a (n := 28) (m := 3) (jn_a (n := 25) (m := 3) (jn_a (n := 22) (m := 3) (jn_a (n := 19) (m := 3) (jn_a (n := 18) (m := 1) (jn_a (n := 17) (m := 1) (jn_a (n := 10) (m := 7) (jn_a (n := 0) (m := 10) rfl rfl) rfl) rfl) rfl) rfl) rfl) rfl) rfl) rfl) rfl) rfl) rfl) rfl) rfl) rfl) rfl)))
  have hD := jrD hD (jy5 (jy1 (jn_lt (n := 53) (jn_a (n := 52) (m := 1) (jn_a (n := 41) (m := 11) (jn_a (n := 40) (m := 1) (jn_a (n := 39) (m := 1) (jn_a (n := 38) (m := 1) (jn_a (n := 37) (m := 1) (jn_a (n := 34) (m := 3) (jn_a (n := 31) (m := 3) (jn_a (n := 28) (m := 3) (jn_a (n := 25) (m := 3) (jn_a (n := 22) (m := 3) (jn_a (n := 19) (m := 3) (jn_a (n := 18) (m := 1) (jn_a (n := 17) (m := 1) (jn_a (n := 10) (m := 7) (jn_a (n := 0) (m := 10) rfl rfl) rfl) rfl) rfl) rfl) rfl) rfl) rfl) rfl) rfl) rfl) rfl) rfl) rfl) rfl) rfl) (Nat.le_of_ble_eq_true rfl)) (jy2 (n := 52) (i := 0) (jn_a (n := 41) (m := 11) (jn_a (n := 40) (m := 1) (jn_a (n := 39) (m := 1) (jn_a (n := 38) (m := 1) (jn_a (n := 37) (m := 1) (jn_a (n := 34) (m := 3) (jn_a (n := 31) (m := 3) (jn_a (n := 28) (m := 3) (jn_a (n := 25) (m := 3) (jn_a (n := 22) (m := 3) (jn_a (n := 19) (m := 3) (jn_a (n := 18) (m := 1) (jn_a (n := 17) (m := 1) (jn_a (n := 10) (m := 7) (jn_a (n := 0) (m := 10) rfl rfl) rfl) rfl) rfl) rfl) rfl) rfl) rfl) rfl) rfl) rfl) rfl) rfl) rfl) rfl) rfl)))
  refine lv_aload_n hx hb dX12_init_149 rfl (lv_at hl 1 rfl) ?_
  refine va_new (ci := 3) (fs := [.null, .null, .null, .null, .null, .int 0, .int 0]) (C := RX3) (T := TX3) (N := 7) hx hb hts (jh hin_RX3) tyX3 tyX3_ok hown (hts (.classLink RX12 82 RX3) (jm m_645)) (hts (.instantiable RX3 7) (jm m_646)) (hts (.initialized RX3) (jm m_428)) hK hP hD hS hA rfl jd_RX3 (Nat.le_of_ble_eq_true rfl) (Nat.le_of_ble_eq_true rfl) dX12_init_150 (fun q18 H hP hD hS => ?_)
  refine W.widen (k := 55) (n := 7069) (Nat.le_of_ble_eq_true rfl) (Nat.le_of_ble_eq_true rfl) ?_
  refine lv_dup hx hb dX12_init_153 rfl ?_
  refine jci_v (va_runIN (As := []) (rest := [.ref q18, .ref h0]) ⟨hx, hb, hml, hown, hts⟩ (iX3_init_1 l dC dI _ (q18)) ⟨va_cnB (host := RX12) 0 hts (jgoodI m_650) rfl rfl rfl (hE.2.1 (RX12, 84, yX3_init) (by decide +kernel)) (hts (.initialized RX3) (jm m_428)) (by decide +kernel) ⟨(Nat.le_of_ble_eq_true rfl), (Nat.le_of_ble_eq_true rfl)⟩, rfl, hts (.instanceMethod yX3_init) (jm m_651)⟩ ⟨jw_blind, fun U hU hW => ⟨rfl, jw_of hU hW (jp_last hP) (hK.sub [] rfl) (jd_last hD)⟩⟩ rfl rfl hl.1 rfl (lv_room (Nat.le_of_ble_eq_true rfl)) dX12_init_154 ⟨(Nat.le_of_ble_eq_true rfl), (Nat.le_of_ble_eq_true rfl)⟩) hP hD hS hA (fun u_11 H locs hP hK2 hD hS => ?_)
  have hK := hK.app hK2
  refine W.widen (k := 60) (n := 7369) (Nat.le_of_ble_eq_true rfl) (Nat.le_of_ble_eq_true rfl) ?_
  have hP := jrP hP jy3
  have hD := jrD hD jy3
  refine va_putF (D := (dC, dI)) (ci := 12) (v := .ref q18) (ty := .object "BookOfAll$Lengths") (C := RX12) (T := TX12) (N := 20) hx hb hts (jh hin_RX12) tyX12 tyX12_ok nmX12 hown hK hP hD hS 0 jg_c0 rfl 17 (by decide) (hts (.fieldLink RX12 85 "BookOfAll" "fitting" "LBookOfAll$Lengths;") (jm m_422)) (fun _ h9 => h9) rfl hin rfl (by decide +kernel) rfl rfl (jn_lt hf (Nat.le_of_ble_eq_true rfl)) dX12_init_157 (fun H locs hP hD hS => ?_)
  have hP := jrP hP jy4
  have hD := jrD hD jy4
  have hf := jn_s (k := 17) (x := .ref q18) hf
  refine lv_aload_n hx hb dX12_init_160 rfl (lv_at hl 1 rfl) ?_
  refine va_new (ci := 1) (fs := [.null, .null, .null, .int 0, .null, .null, .null, .int 0, .null, .null]) (C := RX1) (T := TX1) (N := 10) hx hb hts (jh hin_RX1) tyX1 tyX1_ok hown (hts (.classLink RX12 89 RX1) (jm m_652)) (hts (.instantiable RX1 10) (jm m_653)) (hts (.initialized RX1) (jm m_467)) hK hP hD hS hA rfl jd_RX1 (Nat.le_of_ble_eq_true rfl) (Nat.le_of_ble_eq_true rfl) dX12_init_161 (fun q19 H hP hD hS => ?_)
  refine W.widen (k := 61) (n := 7379) (Nat.le_of_ble_eq_true rfl) (Nat.le_of_ble_eq_true rfl) ?_
  refine lv_dup hx hb dX12_init_164 rfl ?_
  refine jci_v (va_runIN (As := []) (rest := [.ref q19, .ref h0]) ⟨hx, hb, hml, hown, hts⟩ (iX1_init_1 l dC dI _ (q19)) ⟨va_cnB (host := RX12) 0 hts (jgoodI m_663) rfl rfl rfl (hE.2.1 (RX12, 91, yX1_init) (by decide +kernel)) (hts (.initialized RX1) (jm m_467)) (by decide +kernel) ⟨(Nat.le_of_ble_eq_true rfl), (Nat.le_of_ble_eq_true rfl)⟩, rfl, hts (.instanceMethod yX1_init) (jm m_664)⟩ ⟨jw_blind, fun U hU hW => ⟨rfl, jw_of hU hW (jp_last hP) (hK.sub [] rfl) (jd_last hD)⟩⟩ rfl rfl hl.1 rfl (lv_room (Nat.le_of_ble_eq_true rfl)) dX12_init_165 ⟨(Nat.le_of_ble_eq_true rfl), (Nat.le_of_ble_eq_true rfl)⟩) hP hD hS hA (fun u_12 H locs hP hK2 hD hS => ?_)
  have hK := hK.app hK2
  refine W.widen (k := 69) (n := 7674) (Nat.le_of_ble_eq_true rfl) (Nat.le_of_ble_eq_true rfl) ?_
  have hP := jrP hP jy3
  have hD := jrD hD jy3
  refine va_putF (D := (dC, dI)) (ci := 12) (v := .ref q19) (ty := .object "BookOfAll$Giver") (C := RX12) (T := TX12) (N := 20) hx hb hts (jh hin_RX12) tyX12 tyX12_ok nmX12 hown hK hP hD hS 0 jg_c0 rfl 18 (by decide) (hts (.fieldLink RX12 92 "BookOfAll" "giver" "LBookOfAll$Giver;") (jm m_461)) (fun _ h9 => h9) rfl hin rfl (by decide +kernel) rfl rfl (jn_lt hf (Nat.le_of_ble_eq_true rfl)) dX12_init_168 (fun H locs hP hD hS => ?_)
  have hP := jrP hP jy4
  have hD := jrD hD jy4
  have hf := jn_s (k := 18) (x := .ref q19) hf
  refine lv_aload_n hx hb dX12_init_171 rfl (lv_at hl 1 rfl) ?_
  refine va_new (ci := 10) (fs := [.null, .int 0, .null]) (C := RX10) (T := TX10) (N := 3) hx hb hts (jh hin_RX10) tyX10 tyX10_ok hown (hts (.classLink RX12 96 RX10) (jm m_665)) (hts (.instantiable RX10 3) (jm m_666)) (hts (.initialized RX10) (jm m_479)) hK hP hD hS hA rfl jd_RX10 (Nat.le_of_ble_eq_true rfl) (Nat.le_of_ble_eq_true rfl) dX12_init_172 (fun q20 H hP hD hS => ?_)
  refine W.widen (k := 70) (n := 7677) (Nat.le_of_ble_eq_true rfl) (Nat.le_of_ble_eq_true rfl) ?_
  refine lv_dup hx hb dX12_init_175 rfl ?_
  refine jci_v (va_runIN (As := []) (rest := [.ref q20, .ref h0]) ⟨hx, hb, hml, hown, hts⟩ (iX10_init_1 l dC dI _ (q20)) ⟨va_cnB (host := RX12) 0 hts (jgoodI m_669) rfl rfl rfl (hE.2.1 (RX12, 98, yX10_init) (by decide +kernel)) (hts (.initialized RX10) (jm m_479)) (by decide +kernel) ⟨(Nat.le_of_ble_eq_true rfl), (Nat.le_of_ble_eq_true rfl)⟩, rfl, hts (.instanceMethod yX10_init) (jm m_670)⟩ ⟨jw_blind, fun U hU hW => ⟨rfl, jw_of hU hW (jp_last hP) (hK.sub [] rfl) (jd_last hD)⟩⟩ rfl rfl hl.1 rfl (lv_room (Nat.le_of_ble_eq_true rfl)) dX12_init_176 ⟨(Nat.le_of_ble_eq_true rfl), (Nat.le_of_ble_eq_true rfl)⟩) hP hD hS hA (fun u_13 H locs hP hK2 hD hS => ?_)
  have hK := hK.app hK2
  refine W.widen (k := 72) (n := 7738) (Nat.le_of_ble_eq_true rfl) (Nat.le_of_ble_eq_true rfl) ?_
  have hP := jrP hP jy3
  have hD := jrD hD jy3
  refine va_putF (D := (dC, dI)) (ci := 12) (v := .ref q20) (ty := .object "BookOfAll$Thief") (C := RX12) (T := TX12) (N := 20) hx hb hts (jh hin_RX12) tyX12 tyX12_ok nmX12 hown hK hP hD hS 0 jg_c0 rfl 19 (by decide) (hts (.fieldLink RX12 99 "BookOfAll" "robber" "LBookOfAll$Thief;") (jm m_473)) (fun _ h9 => h9) rfl hin rfl (by decide +kernel) rfl rfl (jn_lt hf (Nat.le_of_ble_eq_true rfl)) dX12_init_179 (fun H locs hP hD hS => ?_)
  have hP := jrP hP jy4
  have hD := jrD hD jy4
  have hf := jn_s (k := 19) (x := .ref q20) hf
  refine W.widen (k := 72) (n := 7738) (Nat.le_of_ble_eq_true rfl) (Nat.le_of_ble_eq_true rfl) ?_
  exact W.vret hx hb hr (fun t ht hW => ⟨⟨(fun k => [h0, q1, (u_1.1 1), (u_1.1 2), (u_1.1 3), (u_1.1 4), (u_1.1 5), (u_1.1 6), (u_1.1 7), (u_1.1 8), (u_1.1 9), q2, (u_2.1 1), (u_2.1 2), (u_2.1 3), (u_2.1 4), (u_2.1 5), (u_2.1 6), q3, q4, q5, (u_4.1 1), (u_4.1 2), q6, (u_5.1 1), (u_5.1 2), q7, (u_6.1 1), (u_6.1 2), q8, (u_7.1 1), (u_7.1 2), q9, (u_8.1 1), (u_8.1 2), q10, (u_9.1 1), (u_9.1 2), q11, q12, q13, q14, q15, (u_10.1 1), (u_10.1 2), (u_10.1 3), (u_10.1 4), (u_10.1 5), (u_10.1 6), (u_10.1 7), (u_10.1 8), (u_10.1 9), (u_10.1 10), q16, q17, q18, (u_11.1 1), (u_11.1 2), (u_11.1 3), (u_11.1 4), (u_11.1 5), q19, (u_12.1 1), (u_12.1 2), (u_12.1 3), (u_12.1 4), (u_12.1 5), (u_12.1 6), (u_12.1 7), (u_12.1 8), q20, (u_13.1 1), (u_13.1 2)].getD k 0, fun k => [dC 0, dC 0, (u_1.2 1), (u_1.2 2), (u_1.2 3), (u_1.2 4), (u_1.2 5), (u_1.2 6), (u_1.2 7), (u_1.2 8), (u_1.2 9), dC 0, (u_2.2 1), (u_2.2 2), (u_2.2 3), (u_2.2 4), (u_2.2 5), (u_2.2 6), dC 0, y4, dC 0, (u_4.2 1), (u_4.2 2), dC 0, (u_5.2 1), (u_5.2 2), dC 0, (u_6.2 1), (u_6.2 2), dC 0, (u_7.2 1), (u_7.2 2), dC 0, (u_8.2 1), (u_8.2 2), dC 0, (u_9.2 1), (u_9.2 2), y11, y12, y13, y14, dC 0, (u_10.2 1), (u_10.2 2), (u_10.2 3), (u_10.2 4), (u_10.2 5), (u_10.2 6), (u_10.2 7), (u_10.2 8), (u_10.2 9), (u_10.2 10), y16, y17, dC 0, (u_11.2 1), (u_11.2 2), (u_11.2 3), (u_11.2 4), (u_11.2 5), dC 0, (u_12.2 1), (u_12.2 2), (u_12.2 3), (u_12.2 4), (u_12.2 5), (u_12.2 6), (u_12.2 7), (u_12.2 8), dC 0, (u_13.2 1), (u_13.2 2)].getD k (dC 0)), rfl, rfl, by rw [ht]; exact hP, va_K.moved hW.alike hK, hD⟩, hS.F ht⟩) hS.2.2 dX12_init_182
