set_option maxHeartbeats 3000000 in
set_option maxRecDepth 100000 in
theorem iX13_init_1 (l : Launch) (dC : Nat → ClassId) (dI : Nat → Nat → Nat) (sz h0 : Nat) : Met l yX13_init (jk yX13_init cX13_init 1 none) ({ frames := 1, cells := 78, slots := 45542, locals := 40 }) (va_Pc [.ref h0] (jw_P (dC, dI) [(h0, .inr (13, [.null, .int 0, .int 0, .int 0, .int 0, .int 0, .null, .int 0, .int 0, .int 0, .null, .null, .int 0, .null, .null, .int 0, .null, .null, .int 0, .null, .null, .null, .null, .null, .null, .null, .int 0, .null, .null, .null, .int 0, .null, .null, .null, .null, .null, .null, .int 0, .null, .null, .null, .null, .null, .null, .null, .null, .null, .null, .null, .null, .int 0, .null, .null, .null, .null, .null, .int 0, .null, .null, .null, .null, .null, .null, .null, .null, .null, .int 0, .null, .null, .null, .null, .int 0, .null, .null, .null, .null, .null, .null, .int 0, .null, .null, .null, .null, .null, .null, .null, .int 0, .null, .null, .null, .int 0, .null, .null, .null, .null, .null, .int 0, .int 0, .int 0, .int 0, .int 0, .null, .null, .null]))] [] sz)) (va_Qv (fun (u : ((Nat → Nat) × (Nat → ClassId))) => u.1 0 = h0) (fun u t => va_P (dC, dI) vwCl (mW u.1 u.2) t.heap ∧ va_K (dC, dI) vwCl (mT u.2) t ∧ va_D (va_A [(h0, .inr (13, [.null, .int 0, .int 0, .int 0, .int 0, .int 0, .null, .int 0, .int 0, .int 0, .null, .null, .int 0, .null, .null, .int 0, .null, .null, .int 0, .null, .null, .null, .null, .null, .null, .null, .int 0, .null, .null, .null, .int 0, .null, .null, .null, .null, .null, .null, .int 0, .null, .null, .null, .null, .null, .null, .null, .null, .null, .null, .null, .null, .int 0, .null, .null, .null, .null, .null, .int 0, .null, .null, .null, .null, .null, .null, .null, .null, .null, .int 0, .null, .null, .null, .null, .int 0, .null, .null, .null, .null, .null, .null, .int 0, .null, .null, .null, .null, .null, .null, .null, .int 0, .null, .null, .null, .int 0, .null, .null, .null, .null, .null, .int 0, .int 0, .int 0, .int 0, .int 0, .null, .null, .null]))] sz) (mW u.1 u.2)) (va_A [(h0, .inr (13, [.null, .int 0, .int 0, .int 0, .int 0, .int 0, .null, .int 0, .int 0, .int 0, .null, .null, .int 0, .null, .null, .int 0, .null, .null, .int 0, .null, .null, .null, .null, .null, .null, .null, .int 0, .null, .null, .null, .int 0, .null, .null, .null, .null, .null, .null, .int 0, .null, .null, .null, .null, .null, .null, .null, .null, .null, .null, .null, .null, .int 0, .null, .null, .null, .null, .null, .int 0, .null, .null, .null, .null, .null, .null, .null, .null, .null, .int 0, .null, .null, .null, .null, .int 0, .null, .null, .null, .null, .null, .null, .int 0, .null, .null, .null, .null, .null, .null, .null, .int 0, .null, .null, .null, .int 0, .null, .null, .null, .null, .null, .int 0, .int 0, .int 0, .int 0, .int 0, .null, .null, .null]))] sz)) 78 45542 (va_A [(h0, .inr (13, [.null, .int 0, .int 0, .int 0, .int 0, .int 0, .null, .int 0, .int 0, .int 0, .null, .null, .int 0, .null, .null, .int 0, .null, .null, .int 0, .null, .null, .null, .null, .null, .null, .null, .int 0, .null, .null, .null, .int 0, .null, .null, .null, .null, .null, .null, .int 0, .null, .null, .null, .null, .null, .null, .null, .null, .null, .null, .null, .null, .int 0, .null, .null, .null, .null, .null, .int 0, .null, .null, .null, .null, .null, .null, .null, .null, .null, .int 0, .null, .null, .null, .null, .int 0, .null, .null, .null, .null, .null, .null, .int 0, .null, .null, .null, .null, .null, .null, .null, .int 0, .null, .null, .null, .int 0, .null, .null, .null, .null, .null, .int 0, .int 0, .int 0, .int 0, .int 0, .null, .null, .null]))] sz) := by
  refine Met.ofW (cc := cX13_init) (maxL := 1) (ret := none) (by decide) rfl ?_
  intro p e s m args below meth c s₁ B hml hv
  obtain ⟨rfl, hsz, hP, hK, hD0⟩ := hv
  have hx := B.exec
  have hb := B.bytes
  have hr := B.returns
  have hts := atoms_spec (ws := (jk yX13_init cX13_init 1 none)) B.pre
  have hown : s.vm.findClass RX13 = some m.cls := findClass_of_methodNamed B.named
  have hlocks := B.notSynchronized
  have hin : meth.name = "<init>" := (name_of_methodNamed B.named B.method).1
  subst hsz
  have hD := hD0.self (sz := s.heap.size)
  generalize hAe : (va_A [(h0, .inr (13, [.null, .int 0, .int 0, .int 0, .int 0, .int 0, .null, .int 0, .int 0, .int 0, .null, .null, .int 0, .null, .null, .int 0, .null, .null, .int 0, .null, .null, .null, .null, .null, .null, .null, .int 0, .null, .null, .null, .int 0, .null, .null, .null, .null, .null, .null, .int 0, .null, .null, .null, .null, .null, .null, .null, .null, .null, .null, .null, .null, .int 0, .null, .null, .null, .null, .null, .int 0, .null, .null, .null, .null, .null, .null, .null, .null, .null, .int 0, .null, .null, .null, .null, .int 0, .null, .null, .null, .null, .null, .null, .int 0, .null, .null, .null, .null, .null, .null, .null, .int 0, .null, .null, .null, .int 0, .null, .null, .null, .null, .null, .int 0, .int 0, .int 0, .int 0, .int 0, .null, .null, .null]))] s.heap.size) = A at hD ⊢
  have hA : ∀ q : Nat, s.heap.size ≤ q → A q := fun q h => by rw [← hAe]; exact Or.inr h
  have hS : va_S A s.heap s.heap [] := va_S.rf
  have hP : va_P (dC, dI) vwCl [(h0, .inr (13, [.null, .int 0, .int 0, .int 0, .int 0, .int 0, .null, .int 0, .int 0, .int 0, .null, .null, .int 0, .null, .null, .int 0, .null, .null, .int 0, .null, .null, .null, .null, .null, .null, .null, .int 0, .null, .null, .null, .int 0, .null, .null, .null, .null, .null, .null, .int 0, .null, .null, .null, .null, .null, .null, .null, .null, .null, .null, .null, .null, .int 0, .null, .null, .null, .null, .null, .int 0, .null, .null, .null, .null, .null, .null, .null, .null, .null, .int 0, .null, .null, .null, .null, .int 0, .null, .null, .null, .null, .null, .null, .int 0, .null, .null, .null, .null, .null, .null, .null, .int 0, .null, .null, .null, .int 0, .null, .null, .null, .null, .null, .int 0, .int 0, .int 0, .int 0, .int 0, .null, .null, .null]))] s.heap := hP
  have hl := lv_entry ([.ref h0]) (n := 1) (Nat.le_of_ble_eq_true rfl)
  rw [lg_entry_eq]
  generalize (lg_sl ([.ref h0]) ++ List.replicate (1 - (lg_sl ([.ref h0])).length) Slot.unset).toArray = ls at hl ⊢
  have hl : lv_has ls 1 [(0, .ref h0)] := hl
  have hf : ([.null, .int 0, .int 0, .int 0, .int 0, .int 0, .null, .int 0, .int 0, .int 0, .null, .null, .int 0, .null, .null, .int 0, .null, .null, .int 0, .null, .null, .null, .null, .null, .null, .null, .int 0, .null, .null, .null, .int 0, .null, .null, .null, .null, .null, .null, .int 0, .null, .null, .null, .null, .null, .null, .null, .null, .null, .null, .null, .null, .int 0, .null, .null, .null, .null, .null, .int 0, .null, .null, .null, .null, .null, .null, .null, .null, .null, .int 0, .null, .null, .null, .null, .int 0, .null, .null, .null, .null, .null, .null, .int 0, .null, .null, .null, .null, .null, .null, .null, .int 0, .null, .null, .null, .int 0, .null, .null, .null, .null, .null, .int 0, .int 0, .int 0, .int 0, .int 0, .null, .null, .null] : List Value).length = 104 := rfl
  refine lv_aload_n hx hb dX13_init_0 rfl (lv_at hl 0 rfl) ?_
  refine W.objInit hx hb hown (hts (.methodLink RX13 1 objectInit) (jm m_671)) (hts (.instanceMethod objectInit) (jm m_163)) (hts (.code objectInit ⟨#[0xb1]⟩ 1 none) (jm m_164)) rfl (by rw [hml]; exact hl.1) rfl dX13_init_1 (Nat.le_of_ble_eq_true rfl) (Nat.le_of_ble_eq_true rfl) ?_
  refine W.eq (g2 := F0 m 4 ls []) rfl ?_
  refine lv_aload_n hx hb dX13_init_4 rfl (lv_at hl 0 rfl) ?_
  refine lv_sipush (v := 600) hx hb dX13_init_5 (by decide) ?_
  refine va_newa (atype := .byte) (N' := 600) (a0 := (600, .inl (fun _ => 0))) (ty := .byte) hx hb (hts (.arrayClass .byte) (jm m_0)) rfl hK hP hD hS hA (fun _ => rfl) (by decide) (by decide) (by decide) (Nat.le_of_ble_eq_true rfl) (Nat.le_of_ble_eq_true rfl) dX13_init_8 (fun q1 y1 H hK hP hD hS => ?_)
  refine W.widen (k := 1) (n := 600) (Nat.le_of_ble_eq_true rfl) (Nat.le_of_ble_eq_true rfl) ?_
  have hP := jrP hP jy3
  have hD := jrD hD jy3
  refine va_putF (D := (dC, dI)) (ci := 13) (v := .ref q1) (ty := .array .byte) (C := RX13) (T := TX13) (N := 104) hx hb hts (jh hin_RX13) tyX13 tyX13_ok nmX13 hown hK hP hD hS 0 jg_c0 rfl 0 (by decide) (hts (.fieldLink RX13 9 "BookOfAllModel" "text" "[B") (jm m_1)) (fun _ h9 => h9) rfl hin rfl (by decide +kernel) rfl rfl (jn_lt hf (Nat.le_of_ble_eq_true rfl)) dX13_init_10 (fun H locs hP hD hS => ?_)
  have hP := jrP hP jy4
  have hD := jrD hD jy4
  have hf := jn_s (k := 0) (x := .ref q1) hf
  refine lv_aload_n hx hb dX13_init_13 rfl (lv_at hl 0 rfl) ?_
  refine lv_sipush (v := 1200) hx hb dX13_init_14 (by decide) ?_
  refine va_newa (atype := .int) (N' := 1200) (a0 := (1200, .inl (fun _ => 0))) (ty := .int) hx hb (hts (.arrayClass .int) (jm m_2)) rfl hK hP hD hS hA (fun _ => rfl) (by decide) (by decide) (by decide) (Nat.le_of_ble_eq_true rfl) (Nat.le_of_ble_eq_true rfl) dX13_init_17 (fun q2 y2 H hK hP hD hS => ?_)
  refine W.widen (k := 2) (n := 1800) (Nat.le_of_ble_eq_true rfl) (Nat.le_of_ble_eq_true rfl) ?_
  have hP := jrP hP jy3
  have hD := jrD hD jy3
  refine va_putF (D := (dC, dI)) (ci := 13) (v := .ref q2) (ty := .array .int) (C := RX13) (T := TX13) (N := 104) hx hb hts (jh hin_RX13) tyX13 tyX13_ok nmX13 hown hK hP hD hS 0 jg_c0 rfl 6 (by decide) (hts (.fieldLink RX13 13 "BookOfAllModel" "toCome" "[I") (jm m_3)) (fun _ h9 => h9) rfl hin rfl (by decide +kernel) rfl rfl (jn_lt hf (Nat.le_of_ble_eq_true rfl)) dX13_init_19 (fun H locs hP hD hS => ?_)
  have hP := jrP hP jy4
  have hD := jrD hD jy4
  have hf := jn_s (k := 6) (x := .ref q2) hf
  refine lv_aload_n hx hb dX13_init_22 rfl (lv_at hl 0 rfl) ?_
  refine lv_sipush (v := 600) hx hb dX13_init_23 (by decide) ?_
  refine va_newa (atype := .int) (N' := 600) (a0 := (600, .inl (fun _ => 0))) (ty := .int) hx hb (hts (.arrayClass .int) (jm m_2)) rfl hK hP hD hS hA (fun _ => rfl) (by decide) (by decide) (by decide) (Nat.le_of_ble_eq_true rfl) (Nat.le_of_ble_eq_true rfl) dX13_init_26 (fun q3 y3 H hK hP hD hS => ?_)
  refine W.widen (k := 3) (n := 2400) (Nat.le_of_ble_eq_true rfl) (Nat.le_of_ble_eq_true rfl) ?_
  have hP := jrP hP jy3
  have hD := jrD hD jy3
  refine va_putF (D := (dC, dI)) (ci := 13) (v := .ref q3) (ty := .array .int) (C := RX13) (T := TX13) (N := 104) hx hb hts (jh hin_RX13) tyX13 tyX13_ok nmX13 hown hK hP hD hS 0 jg_c0 rfl 10 (by decide) (hts (.fieldLink RX13 17 "BookOfAllModel" "does" "[I") (jm m_4)) (fun _ h9 => h9) rfl hin rfl (by decide +kernel) rfl rfl (jn_lt hf (Nat.le_of_ble_eq_true rfl)) dX13_init_28 (fun H locs hP hD hS => ?_)
  have hP := jrP hP jy4
  have hD := jrD hD jy4
  have hf := jn_s (k := 10) (x := .ref q3) hf
  refine lv_aload_n hx hb dX13_init_31 rfl (lv_at hl 0 rfl) ?_
  refine lv_sipush (v := 600) hx hb dX13_init_32 (by decide) ?_
  refine va_newa (atype := .int) (N' := 600) (a0 := (600, .inl (fun _ => 0))) (ty := .int) hx hb (hts (.arrayClass .int) (jm m_2)) rfl hK hP hD hS hA (fun _ => rfl) (by decide) (by decide) (by decide) (Nat.le_of_ble_eq_true rfl) (Nat.le_of_ble_eq_true rfl) dX13_init_35 (fun q4 y4 H hK hP hD hS => ?_)
  refine W.widen (k := 4) (n := 3000) (Nat.le_of_ble_eq_true rfl) (Nat.le_of_ble_eq_true rfl) ?_
  have hP := jrP hP jy3
  have hD := jrD hD jy3
  refine va_putF (D := (dC, dI)) (ci := 13) (v := .ref q4) (ty := .array .int) (C := RX13) (T := TX13) (N := 104) hx hb hts (jh hin_RX13) tyX13 tyX13_ok nmX13 hown hK hP hD hS 0 jg_c0 rfl 11 (by decide) (hts (.fieldLink RX13 20 "BookOfAllModel" "doesWith" "[I") (jm m_5)) (fun _ h9 => h9) rfl hin rfl (by decide +kernel) rfl rfl (jn_lt hf (Nat.le_of_ble_eq_true rfl)) dX13_init_37 (fun H locs hP hD hS => ?_)
  have hP := jrP hP jy4
  have hD := jrD hD jy4
  have hf := jn_s (k := 11) (x := .ref q4) hf
  refine lv_aload_n hx hb dX13_init_40 rfl (lv_at hl 0 rfl) ?_
  refine lv_bipush (v := 14) hx hb dX13_init_41 (by decide) ?_
  refine va_newa (atype := .int) (N' := 14) (a0 := (14, .inl (fun _ => 0))) (ty := .int) hx hb (hts (.arrayClass .int) (jm m_2)) rfl hK hP hD hS hA (fun _ => rfl) (by decide) (by decide) (by decide) (Nat.le_of_ble_eq_true rfl) (Nat.le_of_ble_eq_true rfl) dX13_init_43 (fun q5 y5 H hK hP hD hS => ?_)
  refine W.widen (k := 5) (n := 3014) (Nat.le_of_ble_eq_true rfl) (Nat.le_of_ble_eq_true rfl) ?_
  have hP := jrP hP jy3
  have hD := jrD hD jy3
  refine va_putF (D := (dC, dI)) (ci := 13) (v := .ref q5) (ty := .array .int) (C := RX13) (T := TX13) (N := 104) hx hb hts (jh hin_RX13) tyX13 tyX13_ok nmX13 hown hK hP hD hS 0 jg_c0 rfl 13 (by decide) (hts (.fieldLink RX13 23 "BookOfAllModel" "slotBegin" "[I") (jm m_6)) (fun _ h9 => h9) rfl hin rfl (by decide +kernel) rfl rfl (jn_lt hf (Nat.le_of_ble_eq_true rfl)) dX13_init_45 (fun H locs hP hD hS => ?_)
  have hP := jrP hP jy4
  have hD := jrD hD jy4
  have hf := jn_s (k := 13) (x := .ref q5) hf
  refine lv_aload_n hx hb dX13_init_48 rfl (lv_at hl 0 rfl) ?_
  refine lv_bipush (v := 14) hx hb dX13_init_49 (by decide) ?_
  refine va_newa (atype := .int) (N' := 14) (a0 := (14, .inl (fun _ => 0))) (ty := .int) hx hb (hts (.arrayClass .int) (jm m_2)) rfl hK hP hD hS hA (fun _ => rfl) (by decide) (by decide) (by decide) (Nat.le_of_ble_eq_true rfl) (Nat.le_of_ble_eq_true rfl) dX13_init_51 (fun q6 y6 H hK hP hD hS => ?_)
  refine W.widen (k := 6) (n := 3028) (Nat.le_of_ble_eq_true rfl) (Nat.le_of_ble_eq_true rfl) ?_
  have hP := jrP hP jy3
  have hD := jrD hD jy3
  refine va_putF (D := (dC, dI)) (ci := 13) (v := .ref q6) (ty := .array .int) (C := RX13) (T := TX13) (N := 104) hx hb hts (jh hin_RX13) tyX13 tyX13_ok nmX13 hown hK hP hD hS 0 jg_c0 rfl 14 (by decide) (hts (.fieldLink RX13 26 "BookOfAllModel" "slotEnd" "[I") (jm m_7)) (fun _ h9 => h9) rfl hin rfl (by decide +kernel) rfl rfl (jn_lt hf (Nat.le_of_ble_eq_true rfl)) dX13_init_53 (fun H locs hP hD hS => ?_)
  have hP := jrP hP jy4
  have hD := jrD hD jy4
  have hf := jn_s (k := 14) (x := .ref q6) hf
  refine lv_aload_n hx hb dX13_init_56 rfl (lv_at hl 0 rfl) ?_
  refine lv_iconst (v := 4) hx hb dX13_init_57 (by decide) ?_
  refine va_newa (atype := .int) (N' := 4) (a0 := (4, .inl (fun _ => 0))) (ty := .int) hx hb (hts (.arrayClass .int) (jm m_2)) rfl hK hP hD hS hA (fun _ => rfl) (by decide) (by decide) (by decide) (Nat.le_of_ble_eq_true rfl) (Nat.le_of_ble_eq_true rfl) dX13_init_58 (fun q7 y7 H hK hP hD hS => ?_)
  refine W.widen (k := 7) (n := 3032) (Nat.le_of_ble_eq_true rfl) (Nat.le_of_ble_eq_true rfl) ?_
  have hP := jrP hP jy3
  have hD := jrD hD jy3
  refine va_putF (D := (dC, dI)) (ci := 13) (v := .ref q7) (ty := .array .int) (C := RX13) (T := TX13) (N := 104) hx hb hts (jh hin_RX13) tyX13 tyX13_ok nmX13 hown hK hP hD hS 0 jg_c0 rfl 16 (by decide) (hts (.fieldLink RX13 29 "BookOfAllModel" "skipAt" "[I") (jm m_8)) (fun _ h9 => h9) rfl hin rfl (by decide +kernel) rfl rfl (jn_lt hf (Nat.le_of_ble_eq_true rfl)) dX13_init_60 (fun H locs hP hD hS => ?_)
  have hP := jrP hP jy4
  have hD := jrD hD jy4
  have hf := jn_s (k := 16) (x := .ref q7) hf
  refine lv_aload_n hx hb dX13_init_63 rfl (lv_at hl 0 rfl) ?_
  refine lv_iconst (v := 4) hx hb dX13_init_64 (by decide) ?_
  refine va_newa (atype := .int) (N' := 4) (a0 := (4, .inl (fun _ => 0))) (ty := .int) hx hb (hts (.arrayClass .int) (jm m_2)) rfl hK hP hD hS hA (fun _ => rfl) (by decide) (by decide) (by decide) (Nat.le_of_ble_eq_true rfl) (Nat.le_of_ble_eq_true rfl) dX13_init_65 (fun q8 y8 H hK hP hD hS => ?_)
  refine W.widen (k := 8) (n := 3036) (Nat.le_of_ble_eq_true rfl) (Nat.le_of_ble_eq_true rfl) ?_
  have hP := jrP hP jy3
  have hD := jrD hD jy3
  refine va_putF (D := (dC, dI)) (ci := 13) (v := .ref q8) (ty := .array .int) (C := RX13) (T := TX13) (N := 104) hx hb hts (jh hin_RX13) tyX13 tyX13_ok nmX13 hown hK hP hD hS 0 jg_c0 rfl 17 (by decide) (hts (.fieldLink RX13 32 "BookOfAllModel" "skipLong" "[I") (jm m_9)) (fun _ h9 => h9) rfl hin rfl (by decide +kernel) rfl rfl (jn_lt hf (Nat.le_of_ble_eq_true rfl)) dX13_init_67 (fun H locs hP hD hS => ?_)
  have hP := jrP hP jy4
  have hD := jrD hD jy4
  have hf := jn_s (k := 17) (x := .ref q8) hf
  refine lv_aload_n hx hb dX13_init_70 rfl (lv_at hl 0 rfl) ?_
  refine lv_sipush (v := 7200) hx hb dX13_init_71 (by decide) ?_
  refine va_newa (atype := .int) (N' := 7200) (a0 := (7200, .inl (fun _ => 0))) (ty := .int) hx hb (hts (.arrayClass .int) (jm m_2)) rfl hK hP hD hS hA (fun _ => rfl) (by decide) (by decide) (by decide) (Nat.le_of_ble_eq_true rfl) (Nat.le_of_ble_eq_true rfl) dX13_init_74 (fun q9 y9 H hK hP hD hS => ?_)
  refine W.widen (k := 9) (n := 10236) (Nat.le_of_ble_eq_true rfl) (Nat.le_of_ble_eq_true rfl) ?_
  have hP := jrP hP jy3
  have hD := jrD hD jy3
  refine va_putF (D := (dC, dI)) (ci := 13) (v := .ref q9) (ty := .array .int) (C := RX13) (T := TX13) (N := 104) hx hb hts (jh hin_RX13) tyX13 tyX13_ok nmX13 hown hK hP hD hS 0 jg_c0 rfl 19 (by decide) (hts (.fieldLink RX13 35 "BookOfAllModel" "codes" "[I") (jm m_10)) (fun _ h9 => h9) rfl hin rfl (by decide +kernel) rfl rfl (jn_lt hf (Nat.le_of_ble_eq_true rfl)) dX13_init_76 (fun H locs hP hD hS => ?_)
  have hP := jrP hP jy4
  have hD := jrD hD jy4
  have hf := jn_s (k := 19) (x := .ref q9) hf
  refine lv_aload_n hx hb dX13_init_79 rfl (lv_at hl 0 rfl) ?_
  refine lv_sipush (v := 7200) hx hb dX13_init_80 (by decide) ?_
  refine va_newa (atype := .int) (N' := 7200) (a0 := (7200, .inl (fun _ => 0))) (ty := .int) hx hb (hts (.arrayClass .int) (jm m_2)) rfl hK hP hD hS hA (fun _ => rfl) (by decide) (by decide) (by decide) (Nat.le_of_ble_eq_true rfl) (Nat.le_of_ble_eq_true rfl) dX13_init_83 (fun q10 y10 H hK hP hD hS => ?_)
  refine W.widen (k := 10) (n := 17436) (Nat.le_of_ble_eq_true rfl) (Nat.le_of_ble_eq_true rfl) ?_
  have hP := jrP hP jy3
  have hD := jrD hD jy3
  refine va_putF (D := (dC, dI)) (ci := 13) (v := .ref q10) (ty := .array .int) (C := RX13) (T := TX13) (N := 104) hx hb hts (jh hin_RX13) tyX13 tyX13_ok nmX13 hown hK hP hD hS 0 jg_c0 rfl 20 (by decide) (hts (.fieldLink RX13 38 "BookOfAllModel" "codesWith" "[I") (jm m_11)) (fun _ h9 => h9) rfl hin rfl (by decide +kernel) rfl rfl (jn_lt hf (Nat.le_of_ble_eq_true rfl)) dX13_init_85 (fun H locs hP hD hS => ?_)
  have hP := jrP hP jy4
  have hD := jrD hD jy4
  have hf := jn_s (k := 20) (x := .ref q10) hf
  refine lv_aload_n hx hb dX13_init_88 rfl (lv_at hl 0 rfl) ?_
  refine lv_sipush (v := 168) hx hb dX13_init_89 (by decide) ?_
  refine va_newa (atype := .int) (N' := 168) (a0 := (168, .inl (fun _ => 0))) (ty := .int) hx hb (hts (.arrayClass .int) (jm m_2)) rfl hK hP hD hS hA (fun _ => rfl) (by decide) (by decide) (by decide) (Nat.le_of_ble_eq_true rfl) (Nat.le_of_ble_eq_true rfl) dX13_init_92 (fun q11 y11 H hK hP hD hS => ?_)
  refine W.widen (k := 11) (n := 17604) (Nat.le_of_ble_eq_true rfl) (Nat.le_of_ble_eq_true rfl) ?_
  have hP := jrP hP jy3
  have hD := jrD hD jy3
  refine va_putF (D := (dC, dI)) (ci := 13) (v := .ref q11) (ty := .array .int) (C := RX13) (T := TX13) (N := 104) hx hb hts (jh hin_RX13) tyX13 tyX13_ok nmX13 hown hK hP hD hS 0 jg_c0 rfl 21 (by decide) (hts (.fieldLink RX13 41 "BookOfAllModel" "sheetBegin" "[I") (jm m_12)) (fun _ h9 => h9) rfl hin rfl (by decide +kernel) rfl rfl (jn_lt hf (Nat.le_of_ble_eq_true rfl)) dX13_init_94 (fun H locs hP hD hS => ?_)
  have hP := jrP hP jy4
  have hD := jrD hD jy4
  have hf := jn_s (k := 21) (x := .ref q11) hf
  refine lv_aload_n hx hb dX13_init_97 rfl (lv_at hl 0 rfl) ?_
  refine lv_sipush (v := 168) hx hb dX13_init_98 (by decide) ?_
  refine va_newa (atype := .int) (N' := 168) (a0 := (168, .inl (fun _ => 0))) (ty := .int) hx hb (hts (.arrayClass .int) (jm m_2)) rfl hK hP hD hS hA (fun _ => rfl) (by decide) (by decide) (by decide) (Nat.le_of_ble_eq_true rfl) (Nat.le_of_ble_eq_true rfl) dX13_init_101 (fun q12 y12 H hK hP hD hS => ?_)
  refine W.widen (k := 12) (n := 17772) (Nat.le_of_ble_eq_true rfl) (Nat.le_of_ble_eq_true rfl) ?_
  have hP := jrP hP jy3
  have hD := jrD hD jy3
  refine va_putF (D := (dC, dI)) (ci := 13) (v := .ref q12) (ty := .array .int) (C := RX13) (T := TX13) (N := 104) hx hb hts (jh hin_RX13) tyX13 tyX13_ok nmX13 hown hK hP hD hS 0 jg_c0 rfl 22 (by decide) (hts (.fieldLink RX13 44 "BookOfAllModel" "sheetEnd" "[I") (jm m_13)) (fun _ h9 => h9) rfl hin rfl (by decide +kernel) rfl rfl (jn_lt hf (Nat.le_of_ble_eq_true rfl)) dX13_init_103 (fun H locs hP hD hS => ?_)
  have hP := jrP hP jy4
  have hD := jrD hD jy4
  have hf := jn_s (k := 22) (x := .ref q12) hf
  refine lv_aload_n hx hb dX13_init_106 rfl (lv_at hl 0 rfl) ?_
  refine lv_bipush (v := 12) hx hb dX13_init_107 (by decide) ?_
  refine va_newa (atype := .int) (N' := 12) (a0 := (12, .inl (fun _ => 0))) (ty := .int) hx hb (hts (.arrayClass .int) (jm m_2)) rfl hK hP hD hS hA (fun _ => rfl) (by decide) (by decide) (by decide) (Nat.le_of_ble_eq_true rfl) (Nat.le_of_ble_eq_true rfl) dX13_init_109 (fun q13 y13 H hK hP hD hS => ?_)
  refine W.widen (k := 13) (n := 17784) (Nat.le_of_ble_eq_true rfl) (Nat.le_of_ble_eq_true rfl) ?_
  have hP := jrP hP jy3
  have hD := jrD hD jy3
  refine va_putF (D := (dC, dI)) (ci := 13) (v := .ref q13) (ty := .array .int) (C := RX13) (T := TX13) (N := 104) hx hb hts (jh hin_RX13) tyX13 tyX13_ok nmX13 hown hK hP hD hS 0 jg_c0 rfl 23 (by decide) (hts (.fieldLink RX13 47 "BookOfAllModel" "sheetSkips" "[I") (jm m_14)) (fun _ h9 => h9) rfl hin rfl (by decide +kernel) rfl rfl (jn_lt hf (Nat.le_of_ble_eq_true rfl)) dX13_init_111 (fun H locs hP hD hS => ?_)
  have hP := jrP hP jy4
  have hD := jrD hD jy4
  have hf := jn_s (k := 23) (x := .ref q13) hf
  refine lv_aload_n hx hb dX13_init_114 rfl (lv_at hl 0 rfl) ?_
  refine lv_sipush (v := 384) hx hb dX13_init_115 (by decide) ?_
  refine va_newa (atype := .byte) (N' := 384) (a0 := (384, .inl (fun _ => 0))) (ty := .byte) hx hb (hts (.arrayClass .byte) (jm m_0)) rfl hK hP hD hS hA (fun _ => rfl) (by decide) (by decide) (by decide) (Nat.le_of_ble_eq_true rfl) (Nat.le_of_ble_eq_true rfl) dX13_init_118 (fun q14 y14 H hK hP hD hS => ?_)
  refine W.widen (k := 14) (n := 18168) (Nat.le_of_ble_eq_true rfl) (Nat.le_of_ble_eq_true rfl) ?_
  have hP := jrP hP jy3
  have hD := jrD hD jy3
  refine va_putF (D := (dC, dI)) (ci := 13) (v := .ref q14) (ty := .array .byte) (C := RX13) (T := TX13) (N := 104) hx hb hts (jh hin_RX13) tyX13 tyX13_ok nmX13 hown hK hP hD hS 0 jg_c0 rfl 24 (by decide) (hts (.fieldLink RX13 50 "BookOfAllModel" "skipText" "[B") (jm m_15)) (fun _ h9 => h9) rfl hin rfl (by decide +kernel) rfl rfl (jn_lt hf (Nat.le_of_ble_eq_true rfl)) dX13_init_120 (fun H locs hP hD hS => ?_)
  have hP := jrP hP jy4
  have hD := jrD hD jy4
  have hf := jn_s (k := 24) (x := .ref q14) hf
  refine lv_aload_n hx hb dX13_init_123 rfl (lv_at hl 0 rfl) ?_
  refine lv_bipush (v := 48) hx hb dX13_init_124 (by decide) ?_
  refine va_newa (atype := .int) (N' := 48) (a0 := (48, .inl (fun _ => 0))) (ty := .int) hx hb (hts (.arrayClass .int) (jm m_2)) rfl hK hP hD hS hA (fun _ => rfl) (by decide) (by decide) (by decide) (Nat.le_of_ble_eq_true rfl) (Nat.le_of_ble_eq_true rfl) dX13_init_126 (fun q15 y15 H hK hP hD hS => ?_)
  refine W.widen (k := 15) (n := 18216) (Nat.le_of_ble_eq_true rfl) (Nat.le_of_ble_eq_true rfl) ?_
  have hP := jrP hP jy3
  have hD := jrD hD jy3
  refine va_putF (D := (dC, dI)) (ci := 13) (v := .ref q15) (ty := .array .int) (C := RX13) (T := TX13) (N := 104) hx hb hts (jh hin_RX13) tyX13 tyX13_ok nmX13 hown hK hP hD hS 0 jg_c0 rfl 25 (by decide) (hts (.fieldLink RX13 53 "BookOfAllModel" "skipSize" "[I") (jm m_16)) (fun _ h9 => h9) rfl hin rfl (by decide +kernel) rfl rfl (jn_lt hf (Nat.le_of_ble_eq_true rfl)) dX13_init_128 (fun H locs hP hD hS => ?_)
  have hP := jrP hP jy4
  have hD := jrD hD jy4
  have hf := jn_s (k := 25) (x := .ref q15) hf
  refine lv_aload_n hx hb dX13_init_131 rfl (lv_at hl 0 rfl) ?_
  refine lv_bipush (v := 20) hx hb dX13_init_132 (by decide) ?_
  refine va_newa (atype := .int) (N' := 20) (a0 := (20, .inl (fun _ => 0))) (ty := .int) hx hb (hts (.arrayClass .int) (jm m_2)) rfl hK hP hD hS hA (fun _ => rfl) (by decide) (by decide) (by decide) (Nat.le_of_ble_eq_true rfl) (Nat.le_of_ble_eq_true rfl) dX13_init_134 (fun q16 y16 H hK hP hD hS => ?_)
  refine W.widen (k := 16) (n := 18236) (Nat.le_of_ble_eq_true rfl) (Nat.le_of_ble_eq_true rfl) ?_
  have hP := jrP hP jy3
  have hD := jrD hD jy3
  refine va_putF (D := (dC, dI)) (ci := 13) (v := .ref q16) (ty := .array .int) (C := RX13) (T := TX13) (N := 104) hx hb hts (jh hin_RX13) tyX13 tyX13_ok nmX13 hown hK hP hD hS 0 jg_c0 rfl 27 (by decide) (hts (.fieldLink RX13 56 "BookOfAllModel" "forcedSheet" "[I") (jm m_17)) (fun _ h9 => h9) rfl hin rfl (by decide +kernel) rfl rfl (jn_lt hf (Nat.le_of_ble_eq_true rfl)) dX13_init_136 (fun H locs hP hD hS => ?_)
  have hP := jrP hP jy4
  have hD := jrD hD jy4
  have hf := jn_s (k := 27) (x := .ref q16) hf
  refine lv_aload_n hx hb dX13_init_139 rfl (lv_at hl 0 rfl) ?_
  refine lv_bipush (v := 20) hx hb dX13_init_140 (by decide) ?_
  refine va_newa (atype := .int) (N' := 20) (a0 := (20, .inl (fun _ => 0))) (ty := .int) hx hb (hts (.arrayClass .int) (jm m_2)) rfl hK hP hD hS hA (fun _ => rfl) (by decide) (by decide) (by decide) (Nat.le_of_ble_eq_true rfl) (Nat.le_of_ble_eq_true rfl) dX13_init_142 (fun q17 y17 H hK hP hD hS => ?_)
  refine W.widen (k := 17) (n := 18256) (Nat.le_of_ble_eq_true rfl) (Nat.le_of_ble_eq_true rfl) ?_
  have hP := jrP hP jy3
  have hD := jrD hD jy3
  refine va_putF (D := (dC, dI)) (ci := 13) (v := .ref q17) (ty := .array .int) (C := RX13) (T := TX13) (N := 104) hx hb hts (jh hin_RX13) tyX13 tyX13_ok nmX13 hown hK hP hD hS 0 jg_c0 rfl 28 (by decide) (hts (.fieldLink RX13 59 "BookOfAllModel" "forcedFor" "[I") (jm m_18)) (fun _ h9 => h9) rfl hin rfl (by decide +kernel) rfl rfl (jn_lt hf (Nat.le_of_ble_eq_true rfl)) dX13_init_144 (fun H locs hP hD hS => ?_)
  have hP := jrP hP jy4
  have hD := jrD hD jy4
  have hf := jn_s (k := 28) (x := .ref q17) hf
  refine lv_aload_n hx hb dX13_init_147 rfl (lv_at hl 0 rfl) ?_
  refine lv_bipush (v := 20) hx hb dX13_init_148 (by decide) ?_
  refine va_newa (atype := .int) (N' := 20) (a0 := (20, .inl (fun _ => 0))) (ty := .int) hx hb (hts (.arrayClass .int) (jm m_2)) rfl hK hP hD hS hA (fun _ => rfl) (by decide) (by decide) (by decide) (Nat.le_of_ble_eq_true rfl) (Nat.le_of_ble_eq_true rfl) dX13_init_150 (fun q18 y18 H hK hP hD hS => ?_)
  refine W.widen (k := 18) (n := 18276) (Nat.le_of_ble_eq_true rfl) (Nat.le_of_ble_eq_true rfl) ?_
  have hP := jrP hP jy3
  have hD := jrD hD jy3
  refine va_putF (D := (dC, dI)) (ci := 13) (v := .ref q18) (ty := .array .int) (C := RX13) (T := TX13) (N := 104) hx hb hts (jh hin_RX13) tyX13 tyX13_ok nmX13 hown hK hP hD hS 0 jg_c0 rfl 29 (by decide) (hts (.fieldLink RX13 62 "BookOfAllModel" "forcedIn" "[I") (jm m_19)) (fun _ h9 => h9) rfl hin rfl (by decide +kernel) rfl rfl (jn_lt hf (Nat.le_of_ble_eq_true rfl)) dX13_init_152 (fun H locs hP hD hS => ?_)
  have hP := jrP hP jy4
  have hD := jrD hD jy4
  have hf := jn_s (k := 29) (x := .ref q18) hf
  refine lv_aload_n hx hb dX13_init_155 rfl (lv_at hl 0 rfl) ?_
  refine lv_iconst (v := 5) hx hb dX13_init_156 (by decide) ?_
  refine va_newa (atype := .int) (N' := 5) (a0 := (5, .inl (fun _ => 0))) (ty := .int) hx hb (hts (.arrayClass .int) (jm m_2)) rfl hK hP hD hS hA (fun _ => rfl) (by decide) (by decide) (by decide) (Nat.le_of_ble_eq_true rfl) (Nat.le_of_ble_eq_true rfl) dX13_init_157 (fun q19 y19 H hK hP hD hS => ?_)
  refine W.widen (k := 19) (n := 18281) (Nat.le_of_ble_eq_true rfl) (Nat.le_of_ble_eq_true rfl) ?_
  have hP := jrP hP jy3
  have hD := jrD hD jy3
  refine lv_dup hx hb dX13_init_159 rfl ?_
  refine lv_iconst (v := 0) hx hb dX13_init_160 (by decide) ?_
  refine lv_iconst (v := 4) hx hb dX13_init_161 (by decide) ?_
  refine va_iast hx hb hK hP hD hS 19 18 (jg_c (jg_r (n := 18) (i := 0) (jn_a (n := 17) (m := 1) (jn_a (n := 16) (m := 1) (jn_a (n := 15) (m := 1) (jn_a (n := 14) (m := 1) (jn_a (n := 13) (m := 1) (jn_a (n := 12) (m := 1) (jn_a (n := 11) (m := 1) (jn_a (n := 10) (m := 1) (jn_a (n := 9) (m := 1) (jn_a (n := 8) (m := 1) (jn_a (n := 7) (m := 1) (jn_a (n := 6) (m := 1) (jn_a (n := 5) (m := 1) (jn_a (n := 4) (m := 1) (jn_a (n := 3) (m := 1) (jn_a (n := 2) (m := 1) (jn_a (n := 1) (m := 1) (jn_a (n := 0) (m := 1) rfl rfl) rfl) rfl) rfl) rfl) rfl) rfl) rfl) rfl) rfl) rfl) rfl) rfl) rfl) rfl) rfl) rfl) rfl) rfl rfl)) rfl (vp_in_nI (n := 0) (by decide) (by decide)) dX13_init_162 (fun H locs hP hD hS => ?_)
  have hP := jrP hP (jy5 (jy2 (n := 18) (i := 0) (jn_a (n := 17) (m := 1) (jn_a (n := 16) (m := 1) (jn_a (n := 15) (m := 1) (jn_a (n := 14) (m := 1) (jn_a (n := 13) (m := 1) (jn_a (n := 12) (m := 1) (jn_a (n := 11) (m := 1) (jn_a (n := 10) (m := 1) (jn_a (n := 9) (m := 1) (jn_a (n := 8) (m := 1) (jn_a (n := 7) (m := 1) (jn_a (n := 6) (m := 1) (jn_a (n := 5) (m := 1) (jn_a (n := 4) (m := 1) (jn_a (n := 3) (m := 1) (jn_a (n := 2) (m := 1) (jn_a (n := 1) (m := 1) (jn_a (n := 0) (m := 1) rfl rfl) rfl) rfl) rfl) rfl) rfl) rfl) rfl) rfl) rfl) rfl) rfl) rfl) rfl) rfl) rfl) rfl) rfl) rfl))
  have hD := jrD hD (jy5 (jy2 (n := 18) (i := 0) (jn_a (n := 17) (m := 1) (jn_a (n := 16) (m := 1) (jn_a (n := 15) (m := 1) (jn_a (n := 14) (m := 1) (jn_a (n := 13) (m := 1) (jn_a (n := 12) (m := 1) (jn_a (n := 11) (m := 1) (jn_a (n := 10) (m := 1) (jn_a (n := 9) (m := 1) (jn_a (n := 8) (m := 1) (jn_a (n := 7) (m := 1) (jn_a (n := 6) (m := 1) (jn_a (n := 5) (m := 1) (jn_a (n := 4) (m := 1) (jn_a (n := 3) (m := 1) (jn_a (n := 2) (m := 1) (jn_a (n := 1) (m := 1) (jn_a (n := 0) (m := 1) rfl rfl) rfl) rfl) rfl) rfl) rfl) rfl) rfl) rfl) rfl) rfl) rfl) rfl) rfl) rfl) rfl) rfl) rfl) rfl))
  refine lv_dup hx hb dX13_init_163 rfl ?_
  refine lv_iconst (v := 1) hx hb dX13_init_164 (by decide) ?_
  refine lv_bipush (v := 9) hx hb dX13_init_165 (by decide) ?_
  refine va_iast hx hb hK hP hD hS 19 18 (jg_c (jg_r (n := 18) (i := 0) (jn_a (n := 17) (m := 1) (jn_a (n := 16) (m := 1) (jn_a (n := 15) (m := 1) (jn_a (n := 14) (m := 1) (jn_a (n := 13) (m := 1) (jn_a (n := 12) (m := 1) (jn_a (n := 11) (m := 1) (jn_a (n := 10) (m := 1) (jn_a (n := 9) (m := 1) (jn_a (n := 8) (m := 1) (jn_a (n := 7) (m := 1) (jn_a (n := 6) (m := 1) (jn_a (n := 5) (m := 1) (jn_a (n := 4) (m := 1) (jn_a (n := 3) (m := 1) (jn_a (n := 2) (m := 1) (jn_a (n := 1) (m := 1) (jn_a (n := 0) (m := 1) rfl rfl) rfl) rfl) rfl) rfl) rfl) rfl) rfl) rfl) rfl) rfl) rfl) rfl) rfl) rfl) rfl) rfl) rfl) rfl rfl)) rfl (vp_in_nI (n := 1) (by decide) (by decide)) dX13_init_167 (fun H locs hP hD hS => ?_)
  have hP := jrP hP (jy5 (jy2 (n := 18) (i := 0) (jn_a (n := 17) (m := 1) (jn_a (n := 16) (m := 1) (jn_a (n := 15) (m := 1) (jn_a (n := 14) (m := 1) (jn_a (n := 13) (m := 1) (jn_a (n := 12) (m := 1) (jn_a (n := 11) (m := 1) (jn_a (n := 10) (m := 1) (jn_a (n := 9) (m := 1) (jn_a (n := 8) (m := 1) (jn_a (n := 7) (m := 1) (jn_a (n := 6) (m := 1) (jn_a (n := 5) (m := 1) (jn_a (n := 4) (m := 1) (jn_a (n := 3) (m := 1) (jn_a (n := 2) (m := 1) (jn_a (n := 1) (m := 1) (jn_a (n := 0) (m := 1) rfl rfl) rfl) rfl) rfl) rfl) rfl) rfl) rfl) rfl) rfl) rfl) rfl) rfl) rfl) rfl) rfl) rfl) rfl) rfl))
  have hD := jrD hD (jy5 (jy2 (n := 18) (i := 0) (jn_a (n := 17) (m := 1) (jn_a (n := 16) (m := 1) (jn_a (n := 15) (m := 1) (jn_a (n := 14) (m := 1) (jn_a (n := 13) (m := 1) (jn_a (n := 12) (m := 1) (jn_a (n := 11) (m := 1) (jn_a (n := 10) (m := 1) (jn_a (n := 9) (m := 1) (jn_a (n := 8) (m := 1) (jn_a (n := 7) (m := 1) (jn_a (n := 6) (m := 1) (jn_a (n := 5) (m := 1) (jn_a (n := 4) (m := 1) (jn_a (n := 3) (m := 1) (jn_a (n := 2) (m := 1) (jn_a (n := 1) (m := 1) (jn_a (n := 0) (m := 1) rfl rfl) rfl) rfl) rfl) rfl) rfl) rfl) rfl) rfl) rfl) rfl) rfl) rfl) rfl) rfl) rfl) rfl) rfl) rfl))
  refine lv_dup hx hb dX13_init_168 rfl ?_
  refine lv_iconst (v := 2) hx hb dX13_init_169 (by decide) ?_
  refine lv_bipush (v := 14) hx hb dX13_init_170 (by decide) ?_
  refine va_iast hx hb hK hP hD hS 19 18 (jg_c (jg_r (n := 18) (i := 0) (jn_a (n := 17) (m := 1) (jn_a (n := 16) (m := 1) (jn_a (n := 15) (m := 1) (jn_a (n := 14) (m := 1) (jn_a (n := 13) (m := 1) (jn_a (n := 12) (m := 1) (jn_a (n := 11) (m := 1) (jn_a (n := 10) (m := 1) (jn_a (n := 9) (m := 1) (jn_a (n := 8) (m := 1) (jn_a (n := 7) (m := 1) (jn_a (n := 6) (m := 1) (jn_a (n := 5) (m := 1) (jn_a (n := 4) (m := 1) (jn_a (n := 3) (m := 1) (jn_a (n := 2) (m := 1) (jn_a (n := 1) (m := 1) (jn_a (n := 0) (m := 1) rfl rfl) rfl) rfl) rfl) rfl) rfl) rfl) rfl) rfl) rfl) rfl) rfl) rfl) rfl) rfl) rfl) rfl) rfl) rfl rfl)) rfl (vp_in_nI (n := 2) (by decide) (by decide)) dX13_init_172 (fun H locs hP hD hS => ?_)
  have hP := jrP hP (jy5 (jy2 (n := 18) (i := 0) (jn_a (n := 17) (m := 1) (jn_a (n := 16) (m := 1) (jn_a (n := 15) (m := 1) (jn_a (n := 14) (m := 1) (jn_a (n := 13) (m := 1) (jn_a (n := 12) (m := 1) (jn_a (n := 11) (m := 1) (jn_a (n := 10) (m := 1) (jn_a (n := 9) (m := 1) (jn_a (n := 8) (m := 1) (jn_a (n := 7) (m := 1) (jn_a (n := 6) (m := 1) (jn_a (n := 5) (m := 1) (jn_a (n := 4) (m := 1) (jn_a (n := 3) (m := 1) (jn_a (n := 2) (m := 1) (jn_a (n := 1) (m := 1) (jn_a (n := 0) (m := 1) rfl rfl) rfl) rfl) rfl) rfl) rfl) rfl) rfl) rfl) rfl) rfl) rfl) rfl) rfl) rfl) rfl) rfl) rfl) rfl))
  have hD := jrD hD (jy5 (jy2 (n := 18) (i := 0) (jn_a (n := 17) (m := 1) (jn_a (n := 16) (m := 1) (jn_a (n := 15) (m := 1) (jn_a (n := 14) (m := 1) (jn_a (n := 13) (m := 1) (jn_a (n := 12) (m := 1) (jn_a (n := 11) (m := 1) (jn_a (n := 10) (m := 1) (jn_a (n := 9) (m := 1) (jn_a (n := 8) (m := 1) (jn_a (n := 7) (m := 1) (jn_a (n := 6) (m := 1) (jn_a (n := 5) (m := 1) (jn_a (n := 4) (m := 1) (jn_a (n := 3) (m := 1) (jn_a (n := 2) (m := 1) (jn_a (n := 1) (m := 1) (jn_a (n := 0) (m := 1) rfl rfl) rfl) rfl) rfl) rfl) rfl) rfl) rfl) rfl) rfl) rfl) rfl) rfl) rfl) rfl) rfl) rfl) rfl) rfl))
  refine lv_dup hx hb dX13_init_173 rfl ?_
  refine lv_iconst (v := 3) hx hb dX13_init_174 (by decide) ?_
  refine lv_bipush (v := 19) hx hb dX13_init_175 (by decide) ?_
  refine va_iast hx hb hK hP hD hS 19 18 (jg_c (jg_r (n := 18) (i := 0) (jn_a (n := 17) (m := 1) (jn_a (n := 16) (m := 1) (jn_a (n := 15) (m := 1) (jn_a (n := 14) (m := 1) (jn_a (n := 13) (m := 1) (jn_a (n := 12) (m := 1) (jn_a (n := 11) (m := 1) (jn_a (n := 10) (m := 1) (jn_a (n := 9) (m := 1) (jn_a (n := 8) (m := 1) (jn_a (n := 7) (m := 1) (jn_a (n := 6) (m := 1) (jn_a (n := 5) (m := 1) (jn_a (n := 4) (m := 1) (jn_a (n := 3) (m := 1) (jn_a (n := 2) (m := 1) (jn_a (n := 1) (m := 1) (jn_a (n := 0) (m := 1) rfl rfl) rfl) rfl) rfl) rfl) rfl) rfl) rfl) rfl) rfl) rfl) rfl) rfl) rfl) rfl) rfl) rfl) rfl) rfl rfl)) rfl (vp_in_nI (n := 3) (by decide) (by decide)) dX13_init_177 (fun H locs hP hD hS => ?_)
  have hP := jrP hP (jy5 (jy2 (n := 18) (i := 0) (jn_a (n := 17) (m := 1) (jn_a (n := 16) (m := 1) (jn_a (n := 15) (m := 1) (jn_a (n := 14) (m := 1) (jn_a (n := 13) (m := 1) (jn_a (n := 12) (m := 1) (jn_a (n := 11) (m := 1) (jn_a (n := 10) (m := 1) (jn_a (n := 9) (m := 1) (jn_a (n := 8) (m := 1) (jn_a (n := 7) (m := 1) (jn_a (n := 6) (m := 1) (jn_a (n := 5) (m := 1) (jn_a (n := 4) (m := 1) (jn_a (n := 3) (m := 1) (jn_a (n := 2) (m := 1) (jn_a (n := 1) (m := 1) (jn_a (n := 0) (m := 1) rfl rfl) rfl) rfl) rfl) rfl) rfl) rfl) rfl) rfl) rfl) rfl) rfl) rfl) rfl) rfl) rfl) rfl) rfl) rfl))
  have hD := jrD hD (jy5 (jy2 (n := 18) (i := 0) (jn_a (n := 17) (m := 1) (jn_a (n := 16) (m := 1) (jn_a (n := 15) (m := 1) (jn_a (n := 14) (m := 1) (jn_a (n := 13) (m := 1) (jn_a (n := 12) (m := 1) (jn_a (n := 11) (m := 1) (jn_a (n := 10) (m := 1) (jn_a (n := 9) (m := 1) (jn_a (n := 8) (m := 1) (jn_a (n := 7) (m := 1) (jn_a (n := 6) (m := 1) (jn_a (n := 5) (m := 1) (jn_a (n := 4) (m := 1) (jn_a (n := 3) (m := 1) (jn_a (n := 2) (m := 1) (jn_a (n := 1) (m := 1) (jn_a (n := 0) (m := 1) rfl rfl) rfl) rfl) rfl) rfl) rfl) rfl) rfl) rfl) rfl) rfl) rfl) rfl) rfl) rfl) rfl) rfl) rfl) rfl))
  refine lv_dup hx hb dX13_init_178 rfl ?_
  refine lv_iconst (v := 4) hx hb dX13_init_179 (by decide) ?_
  refine lv_bipush (v := 24) hx hb dX13_init_180 (by decide) ?_
  refine va_iast hx hb hK hP hD hS 19 18 (jg_c (jg_r (n := 18) (i := 0) (jn_a (n := 17) (m := 1) (jn_a (n := 16) (m := 1) (jn_a (n := 15) (m := 1) (jn_a (n := 14) (m := 1) (jn_a (n := 13) (m := 1) (jn_a (n := 12) (m := 1) (jn_a (n := 11) (m := 1) (jn_a (n := 10) (m := 1) (jn_a (n := 9) (m := 1) (jn_a (n := 8) (m := 1) (jn_a (n := 7) (m := 1) (jn_a (n := 6) (m := 1) (jn_a (n := 5) (m := 1) (jn_a (n := 4) (m := 1) (jn_a (n := 3) (m := 1) (jn_a (n := 2) (m := 1) (jn_a (n := 1) (m := 1) (jn_a (n := 0) (m := 1) rfl rfl) rfl) rfl) rfl) rfl) rfl) rfl) rfl) rfl) rfl) rfl) rfl) rfl) rfl) rfl) rfl) rfl) rfl) rfl rfl)) rfl (vp_in_nI (n := 4) (by decide) (by decide)) dX13_init_182 (fun H locs hP hD hS => ?_)
  have hP := jrP hP (jy5 (jy2 (n := 18) (i := 0) (jn_a (n := 17) (m := 1) (jn_a (n := 16) (m := 1) (jn_a (n := 15) (m := 1) (jn_a (n := 14) (m := 1) (jn_a (n := 13) (m := 1) (jn_a (n := 12) (m := 1) (jn_a (n := 11) (m := 1) (jn_a (n := 10) (m := 1) (jn_a (n := 9) (m := 1) (jn_a (n := 8) (m := 1) (jn_a (n := 7) (m := 1) (jn_a (n := 6) (m := 1) (jn_a (n := 5) (m := 1) (jn_a (n := 4) (m := 1) (jn_a (n := 3) (m := 1) (jn_a (n := 2) (m := 1) (jn_a (n := 1) (m := 1) (jn_a (n := 0) (m := 1) rfl rfl) rfl) rfl) rfl) rfl) rfl) rfl) rfl) rfl) rfl) rfl) rfl) rfl) rfl) rfl) rfl) rfl) rfl) rfl))
  have hD := jrD hD (jy5 (jy2 (n := 18) (i := 0) (jn_a (n := 17) (m := 1) (jn_a (n := 16) (m := 1) (jn_a (n := 15) (m := 1) (jn_a (n := 14) (m := 1) (jn_a (n := 13) (m := 1) (jn_a (n := 12) (m := 1) (jn_a (n := 11) (m := 1) (jn_a (n := 10) (m := 1) (jn_a (n := 9) (m := 1) (jn_a (n := 8) (m := 1) (jn_a (n := 7) (m := 1) (jn_a (n := 6) (m := 1) (jn_a (n := 5) (m := 1) (jn_a (n := 4) (m := 1) (jn_a (n := 3) (m := 1) (jn_a (n := 2) (m := 1) (jn_a (n := 1) (m := 1) (jn_a (n := 0) (m := 1) rfl rfl) rfl) rfl) rfl) rfl) rfl) rfl) rfl) rfl) rfl) rfl) rfl) rfl) rfl) rfl) rfl) rfl) rfl) rfl))
  refine va_putF (D := (dC, dI)) (ci := 13) (v := .ref q19) (ty := .array .int) (C := RX13) (T := TX13) (N := 104) hx hb hts (jh hin_RX13) tyX13 tyX13_ok nmX13 hown hK hP hD hS 0 jg_c0 rfl 31 (by decide) (hts (.fieldLink RX13 65 "BookOfAllModel" "bounds" "[I") (jm m_20)) (fun _ h9 => h9) rfl hin rfl (by decide +kernel) rfl rfl (jn_lt hf (Nat.le_of_ble_eq_true rfl)) dX13_init_183 (fun H locs hP hD hS => ?_)
  have hP := jrP hP jy4
  have hD := jrD hD jy4
  have hf := jn_s (k := 31) (x := .ref q19) hf
  refine lv_aload_n hx hb dX13_init_186 rfl (lv_at hl 0 rfl) ?_
  refine lv_bipush (v := 6) hx hb dX13_init_187 (by decide) ?_
  refine va_newa (atype := .boolean) (N' := 6) (a0 := (6, .inl (fun _ => 0))) (ty := .boolean) hx hb (hts (.arrayClass .boolean) (jm m_21)) rfl hK hP hD hS hA (fun _ => rfl) (by decide) (by decide) (by decide) (Nat.le_of_ble_eq_true rfl) (Nat.le_of_ble_eq_true rfl) dX13_init_189 (fun q20 y20 H hK hP hD hS => ?_)
  refine W.widen (k := 20) (n := 18287) (Nat.le_of_ble_eq_true rfl) (Nat.le_of_ble_eq_true rfl) ?_
  have hP := jrP hP jy3
  have hD := jrD hD jy3
  refine va_putF (D := (dC, dI)) (ci := 13) (v := .ref q20) (ty := .array .boolean) (C := RX13) (T := TX13) (N := 104) hx hb hts (jh hin_RX13) tyX13 tyX13_ok nmX13 hown hK hP hD hS 0 jg_c0 rfl 32 (by decide) (hts (.fieldLink RX13 68 "BookOfAllModel" "isSet" "[Z") (jm m_22)) (fun _ h9 => h9) rfl hin rfl (by decide +kernel) rfl rfl (jn_lt hf (Nat.le_of_ble_eq_true rfl)) dX13_init_191 (fun H locs hP hD hS => ?_)
  have hP := jrP hP jy4
  have hD := jrD hD jy4
  have hf := jn_s (k := 32) (x := .ref q20) hf
  refine lv_aload_n hx hb dX13_init_194 rfl (lv_at hl 0 rfl) ?_
  refine lv_bipush (v := 6) hx hb dX13_init_195 (by decide) ?_
  refine va_newa (atype := .int) (N' := 6) (a0 := (6, .inl (fun _ => 0))) (ty := .int) hx hb (hts (.arrayClass .int) (jm m_2)) rfl hK hP hD hS hA (fun _ => rfl) (by decide) (by decide) (by decide) (Nat.le_of_ble_eq_true rfl) (Nat.le_of_ble_eq_true rfl) dX13_init_197 (fun q21 y21 H hK hP hD hS => ?_)
  refine W.widen (k := 21) (n := 18293) (Nat.le_of_ble_eq_true rfl) (Nat.le_of_ble_eq_true rfl) ?_
  have hP := jrP hP jy3
  have hD := jrD hD jy3
  refine va_putF (D := (dC, dI)) (ci := 13) (v := .ref q21) (ty := .array .int) (C := RX13) (T := TX13) (N := 104) hx hb hts (jh hin_RX13) tyX13 tyX13_ok nmX13 hown hK hP hD hS 0 jg_c0 rfl 33 (by decide) (hts (.fieldLink RX13 72 "BookOfAllModel" "setIn" "[I") (jm m_23)) (fun _ h9 => h9) rfl hin rfl (by decide +kernel) rfl rfl (jn_lt hf (Nat.le_of_ble_eq_true rfl)) dX13_init_199 (fun H locs hP hD hS => ?_)
  have hP := jrP hP jy4
  have hD := jrD hD jy4
  have hf := jn_s (k := 33) (x := .ref q21) hf
  refine lv_aload_n hx hb dX13_init_202 rfl (lv_at hl 0 rfl) ?_
  refine lv_bipush (v := 6) hx hb dX13_init_203 (by decide) ?_
  refine va_newa (atype := .int) (N' := 6) (a0 := (6, .inl (fun _ => 0))) (ty := .int) hx hb (hts (.arrayClass .int) (jm m_2)) rfl hK hP hD hS hA (fun _ => rfl) (by decide) (by decide) (by decide) (Nat.le_of_ble_eq_true rfl) (Nat.le_of_ble_eq_true rfl) dX13_init_205 (fun q22 y22 H hK hP hD hS => ?_)
  refine W.widen (k := 22) (n := 18299) (Nat.le_of_ble_eq_true rfl) (Nat.le_of_ble_eq_true rfl) ?_
  have hP := jrP hP jy3
  have hD := jrD hD jy3
  refine va_putF (D := (dC, dI)) (ci := 13) (v := .ref q22) (ty := .array .int) (C := RX13) (T := TX13) (N := 104) hx hb hts (jh hin_RX13) tyX13 tyX13_ok nmX13 hown hK hP hD hS 0 jg_c0 rfl 34 (by decide) (hts (.fieldLink RX13 75 "BookOfAllModel" "setMany" "[I") (jm m_24)) (fun _ h9 => h9) rfl hin rfl (by decide +kernel) rfl rfl (jn_lt hf (Nat.le_of_ble_eq_true rfl)) dX13_init_207 (fun H locs hP hD hS => ?_)
  have hP := jrP hP jy4
  have hD := jrD hD jy4
  have hf := jn_s (k := 34) (x := .ref q22) hf
  refine lv_aload_n hx hb dX13_init_210 rfl (lv_at hl 0 rfl) ?_
  refine lv_sipush (v := 360) hx hb dX13_init_211 (by decide) ?_
  refine va_newa (atype := .int) (N' := 360) (a0 := (360, .inl (fun _ => 0))) (ty := .int) hx hb (hts (.arrayClass .int) (jm m_2)) rfl hK hP hD hS hA (fun _ => rfl) (by decide) (by decide) (by decide) (Nat.le_of_ble_eq_true rfl) (Nat.le_of_ble_eq_true rfl) dX13_init_214 (fun q23 y23 H hK hP hD hS => ?_)
  refine W.widen (k := 23) (n := 18659) (Nat.le_of_ble_eq_true rfl) (Nat.le_of_ble_eq_true rfl) ?_
  have hP := jrP hP jy3
  have hD := jrD hD jy3
  refine va_putF (D := (dC, dI)) (ci := 13) (v := .ref q23) (ty := .array .int) (C := RX13) (T := TX13) (N := 104) hx hb hts (jh hin_RX13) tyX13 tyX13_ok nmX13 hown hK hP hD hS 0 jg_c0 rfl 35 (by decide) (hts (.fieldLink RX13 78 "BookOfAllModel" "setOrder" "[I") (jm m_25)) (fun _ h9 => h9) rfl hin rfl (by decide +kernel) rfl rfl (jn_lt hf (Nat.le_of_ble_eq_true rfl)) dX13_init_216 (fun H locs hP hD hS => ?_)
  have hP := jrP hP jy4
  have hD := jrD hD jy4
  have hf := jn_s (k := 35) (x := .ref q23) hf
  refine lv_aload_n hx hb dX13_init_219 rfl (lv_at hl 0 rfl) ?_
  refine lv_bipush (v := 6) hx hb dX13_init_220 (by decide) ?_
  refine va_newa (atype := .int) (N' := 6) (a0 := (6, .inl (fun _ => 0))) (ty := .int) hx hb (hts (.arrayClass .int) (jm m_2)) rfl hK hP hD hS hA (fun _ => rfl) (by decide) (by decide) (by decide) (Nat.le_of_ble_eq_true rfl) (Nat.le_of_ble_eq_true rfl) dX13_init_222 (fun q24 y24 H hK hP hD hS => ?_)
  refine W.widen (k := 24) (n := 18665) (Nat.le_of_ble_eq_true rfl) (Nat.le_of_ble_eq_true rfl) ?_
  have hP := jrP hP jy3
  have hD := jrD hD jy3
  refine va_putF (D := (dC, dI)) (ci := 13) (v := .ref q24) (ty := .array .int) (C := RX13) (T := TX13) (N := 104) hx hb hts (jh hin_RX13) tyX13 tyX13_ok nmX13 hown hK hP hD hS 0 jg_c0 rfl 36 (by decide) (hts (.fieldLink RX13 81 "BookOfAllModel" "setLines" "[I") (jm m_26)) (fun _ h9 => h9) rfl hin rfl (by decide +kernel) rfl rfl (jn_lt hf (Nat.le_of_ble_eq_true rfl)) dX13_init_224 (fun H locs hP hD hS => ?_)
  have hP := jrP hP jy4
  have hD := jrD hD jy4
  have hf := jn_s (k := 36) (x := .ref q24) hf
  refine lv_aload_n hx hb dX13_init_227 rfl (lv_at hl 0 rfl) ?_
  refine lv_sipush (v := 720) hx hb dX13_init_228 (by decide) ?_
  refine va_newa (atype := .byte) (N' := 720) (a0 := (720, .inl (fun _ => 0))) (ty := .byte) hx hb (hts (.arrayClass .byte) (jm m_0)) rfl hK hP hD hS hA (fun _ => rfl) (by decide) (by decide) (by decide) (Nat.le_of_ble_eq_true rfl) (Nat.le_of_ble_eq_true rfl) dX13_init_231 (fun q25 y25 H hK hP hD hS => ?_)
  refine W.widen (k := 25) (n := 19385) (Nat.le_of_ble_eq_true rfl) (Nat.le_of_ble_eq_true rfl) ?_
  have hP := jrP hP jy3
  have hD := jrD hD jy3
  refine va_putF (D := (dC, dI)) (ci := 13) (v := .ref q25) (ty := .array .byte) (C := RX13) (T := TX13) (N := 104) hx hb hts (jh hin_RX13) tyX13 tyX13_ok nmX13 hown hK hP hD hS 0 jg_c0 rfl 38 (by decide) (hts (.fieldLink RX13 84 "BookOfAllModel" "heading" "[B") (jm m_27)) (fun _ h9 => h9) rfl hin rfl (by decide +kernel) rfl rfl (jn_lt hf (Nat.le_of_ble_eq_true rfl)) dX13_init_233 (fun H locs hP hD hS => ?_)
  have hP := jrP hP jy4
  have hD := jrD hD jy4
  have hf := jn_s (k := 38) (x := .ref q25) hf
  refine lv_aload_n hx hb dX13_init_236 rfl (lv_at hl 0 rfl) ?_
  refine lv_bipush (v := 60) hx hb dX13_init_237 (by decide) ?_
  refine va_newa (atype := .int) (N' := 60) (a0 := (60, .inl (fun _ => 0))) (ty := .int) hx hb (hts (.arrayClass .int) (jm m_2)) rfl hK hP hD hS hA (fun _ => rfl) (by decide) (by decide) (by decide) (Nat.le_of_ble_eq_true rfl) (Nat.le_of_ble_eq_true rfl) dX13_init_239 (fun q26 y26 H hK hP hD hS => ?_)
  refine W.widen (k := 26) (n := 19445) (Nat.le_of_ble_eq_true rfl) (Nat.le_of_ble_eq_true rfl) ?_
  have hP := jrP hP jy3
  have hD := jrD hD jy3
  refine va_putF (D := (dC, dI)) (ci := 13) (v := .ref q26) (ty := .array .int) (C := RX13) (T := TX13) (N := 104) hx hb hts (jh hin_RX13) tyX13 tyX13_ok nmX13 hown hK hP hD hS 0 jg_c0 rfl 39 (by decide) (hts (.fieldLink RX13 87 "BookOfAllModel" "headingLong" "[I") (jm m_28)) (fun _ h9 => h9) rfl hin rfl (by decide +kernel) rfl rfl (jn_lt hf (Nat.le_of_ble_eq_true rfl)) dX13_init_241 (fun H locs hP hD hS => ?_)
  have hP := jrP hP jy4
  have hD := jrD hD jy4
  have hf := jn_s (k := 39) (x := .ref q26) hf
  refine lv_aload_n hx hb dX13_init_244 rfl (lv_at hl 0 rfl) ?_
  refine lv_bipush (v := 60) hx hb dX13_init_245 (by decide) ?_
  refine va_newa (atype := .int) (N' := 60) (a0 := (60, .inl (fun _ => 0))) (ty := .int) hx hb (hts (.arrayClass .int) (jm m_2)) rfl hK hP hD hS hA (fun _ => rfl) (by decide) (by decide) (by decide) (Nat.le_of_ble_eq_true rfl) (Nat.le_of_ble_eq_true rfl) dX13_init_247 (fun q27 y27 H hK hP hD hS => ?_)
  refine W.widen (k := 27) (n := 19505) (Nat.le_of_ble_eq_true rfl) (Nat.le_of_ble_eq_true rfl) ?_
  have hP := jrP hP jy3
  have hD := jrD hD jy3
  refine va_putF (D := (dC, dI)) (ci := 13) (v := .ref q27) (ty := .array .int) (C := RX13) (T := TX13) (N := 104) hx hb hts (jh hin_RX13) tyX13 tyX13_ok nmX13 hown hK hP hD hS 0 jg_c0 rfl 40 (by decide) (hts (.fieldLink RX13 90 "BookOfAllModel" "kind" "[I") (jm m_29)) (fun _ h9 => h9) rfl hin rfl (by decide +kernel) rfl rfl (jn_lt hf (Nat.le_of_ble_eq_true rfl)) dX13_init_249 (fun H locs hP hD hS => ?_)
  have hP := jrP hP jy4
  have hD := jrD hD jy4
  have hf := jn_s (k := 40) (x := .ref q27) hf
  refine lv_aload_n hx hb dX13_init_252 rfl (lv_at hl 0 rfl) ?_
  refine lv_bipush (v := 60) hx hb dX13_init_253 (by decide) ?_
  refine va_newa (atype := .int) (N' := 60) (a0 := (60, .inl (fun _ => 0))) (ty := .int) hx hb (hts (.arrayClass .int) (jm m_2)) rfl hK hP hD hS hA (fun _ => rfl) (by decide) (by decide) (by decide) (Nat.le_of_ble_eq_true rfl) (Nat.le_of_ble_eq_true rfl) dX13_init_255 (fun q28 y28 H hK hP hD hS => ?_)
  refine W.widen (k := 28) (n := 19565) (Nat.le_of_ble_eq_true rfl) (Nat.le_of_ble_eq_true rfl) ?_
  have hP := jrP hP jy3
  have hD := jrD hD jy3
  refine va_putF (D := (dC, dI)) (ci := 13) (v := .ref q28) (ty := .array .int) (C := RX13) (T := TX13) (N := 104) hx hb hts (jh hin_RX13) tyX13 tyX13_ok nmX13 hown hK hP hD hS 0 jg_c0 rfl 41 (by decide) (hts (.fieldLink RX13 93 "BookOfAllModel" "sort" "[I") (jm m_30)) (fun _ h9 => h9) rfl hin rfl (by decide +kernel) rfl rfl (jn_lt hf (Nat.le_of_ble_eq_true rfl)) dX13_init_257 (fun H locs hP hD hS => ?_)
  have hP := jrP hP jy4
  have hD := jrD hD jy4
  have hf := jn_s (k := 41) (x := .ref q28) hf
  refine lv_aload_n hx hb dX13_init_260 rfl (lv_at hl 0 rfl) ?_
  refine lv_bipush (v := 60) hx hb dX13_init_261 (by decide) ?_
  refine va_newa (atype := .int) (N' := 60) (a0 := (60, .inl (fun _ => 0))) (ty := .int) hx hb (hts (.arrayClass .int) (jm m_2)) rfl hK hP hD hS hA (fun _ => rfl) (by decide) (by decide) (by decide) (Nat.le_of_ble_eq_true rfl) (Nat.le_of_ble_eq_true rfl) dX13_init_263 (fun q29 y29 H hK hP hD hS => ?_)
  refine W.widen (k := 29) (n := 19625) (Nat.le_of_ble_eq_true rfl) (Nat.le_of_ble_eq_true rfl) ?_
  have hP := jrP hP jy3
  have hD := jrD hD jy3
  refine va_putF (D := (dC, dI)) (ci := 13) (v := .ref q29) (ty := .array .int) (C := RX13) (T := TX13) (N := 104) hx hb hts (jh hin_RX13) tyX13 tyX13_ok nmX13 hown hK hP hD hS 0 jg_c0 rfl 42 (by decide) (hts (.fieldLink RX13 96 "BookOfAllModel" "field" "[I") (jm m_31)) (fun _ h9 => h9) rfl hin rfl (by decide +kernel) rfl rfl (jn_lt hf (Nat.le_of_ble_eq_true rfl)) dX13_init_265 (fun H locs hP hD hS => ?_)
  have hP := jrP hP jy4
  have hD := jrD hD jy4
  have hf := jn_s (k := 42) (x := .ref q29) hf
  refine lv_aload_n hx hb dX13_init_268 rfl (lv_at hl 0 rfl) ?_
  refine lv_bipush (v := 60) hx hb dX13_init_269 (by decide) ?_
  refine va_newa (atype := .int) (N' := 60) (a0 := (60, .inl (fun _ => 0))) (ty := .int) hx hb (hts (.arrayClass .int) (jm m_2)) rfl hK hP hD hS hA (fun _ => rfl) (by decide) (by decide) (by decide) (Nat.le_of_ble_eq_true rfl) (Nat.le_of_ble_eq_true rfl) dX13_init_271 (fun q30 y30 H hK hP hD hS => ?_)
  refine W.widen (k := 30) (n := 19685) (Nat.le_of_ble_eq_true rfl) (Nat.le_of_ble_eq_true rfl) ?_
  have hP := jrP hP jy3
  have hD := jrD hD jy3
  refine va_putF (D := (dC, dI)) (ci := 13) (v := .ref q30) (ty := .array .int) (C := RX13) (T := TX13) (N := 104) hx hb hts (jh hin_RX13) tyX13 tyX13_ok nmX13 hown hK hP hD hS 0 jg_c0 rfl 43 (by decide) (hts (.fieldLink RX13 99 "BookOfAllModel" "asked" "[I") (jm m_32)) (fun _ h9 => h9) rfl hin rfl (by decide +kernel) rfl rfl (jn_lt hf (Nat.le_of_ble_eq_true rfl)) dX13_init_273 (fun H locs hP hD hS => ?_)
  have hP := jrP hP jy4
  have hD := jrD hD jy4
  have hf := jn_s (k := 43) (x := .ref q30) hf
  refine lv_aload_n hx hb dX13_init_276 rfl (lv_at hl 0 rfl) ?_
  refine lv_bipush (v := 60) hx hb dX13_init_277 (by decide) ?_
  refine va_newa (atype := .int) (N' := 60) (a0 := (60, .inl (fun _ => 0))) (ty := .int) hx hb (hts (.arrayClass .int) (jm m_2)) rfl hK hP hD hS hA (fun _ => rfl) (by decide) (by decide) (by decide) (Nat.le_of_ble_eq_true rfl) (Nat.le_of_ble_eq_true rfl) dX13_init_279 (fun q31 y31 H hK hP hD hS => ?_)
  refine W.widen (k := 31) (n := 19745) (Nat.le_of_ble_eq_true rfl) (Nat.le_of_ble_eq_true rfl) ?_
  have hP := jrP hP jy3
  have hD := jrD hD jy3
  refine va_putF (D := (dC, dI)) (ci := 13) (v := .ref q31) (ty := .array .int) (C := RX13) (T := TX13) (N := 104) hx hb hts (jh hin_RX13) tyX13 tyX13_ok nmX13 hown hK hP hD hS 0 jg_c0 rfl 44 (by decide) (hts (.fieldLink RX13 102 "BookOfAllModel" "leads" "[I") (jm m_33)) (fun _ h9 => h9) rfl hin rfl (by decide +kernel) rfl rfl (jn_lt hf (Nat.le_of_ble_eq_true rfl)) dX13_init_281 (fun H locs hP hD hS => ?_)
  have hP := jrP hP jy4
  have hD := jrD hD jy4
  have hf := jn_s (k := 44) (x := .ref q31) hf
  refine lv_aload_n hx hb dX13_init_284 rfl (lv_at hl 0 rfl) ?_
  refine lv_bipush (v := 60) hx hb dX13_init_285 (by decide) ?_
  refine va_newa (atype := .int) (N' := 60) (a0 := (60, .inl (fun _ => 0))) (ty := .int) hx hb (hts (.arrayClass .int) (jm m_2)) rfl hK hP hD hS hA (fun _ => rfl) (by decide) (by decide) (by decide) (Nat.le_of_ble_eq_true rfl) (Nat.le_of_ble_eq_true rfl) dX13_init_287 (fun q32 y32 H hK hP hD hS => ?_)
  refine W.widen (k := 32) (n := 19805) (Nat.le_of_ble_eq_true rfl) (Nat.le_of_ble_eq_true rfl) ?_
  have hP := jrP hP jy3
  have hD := jrD hD jy3
  refine va_putF (D := (dC, dI)) (ci := 13) (v := .ref q32) (ty := .array .int) (C := RX13) (T := TX13) (N := 104) hx hb hts (jh hin_RX13) tyX13 tyX13_ok nmX13 hown hK hP hD hS 0 jg_c0 rfl 45 (by decide) (hts (.fieldLink RX13 105 "BookOfAllModel" "givenTo" "[I") (jm m_34)) (fun _ h9 => h9) rfl hin rfl (by decide +kernel) rfl rfl (jn_lt hf (Nat.le_of_ble_eq_true rfl)) dX13_init_289 (fun H locs hP hD hS => ?_)
  have hP := jrP hP jy4
  have hD := jrD hD jy4
  have hf := jn_s (k := 45) (x := .ref q32) hf
  refine lv_aload_n hx hb dX13_init_292 rfl (lv_at hl 0 rfl) ?_
  refine lv_bipush (v := 60) hx hb dX13_init_293 (by decide) ?_
  refine va_newa (atype := .boolean) (N' := 60) (a0 := (60, .inl (fun _ => 0))) (ty := .boolean) hx hb (hts (.arrayClass .boolean) (jm m_21)) rfl hK hP hD hS hA (fun _ => rfl) (by decide) (by decide) (by decide) (Nat.le_of_ble_eq_true rfl) (Nat.le_of_ble_eq_true rfl) dX13_init_295 (fun q33 y33 H hK hP hD hS => ?_)
  refine W.widen (k := 33) (n := 19865) (Nat.le_of_ble_eq_true rfl) (Nat.le_of_ble_eq_true rfl) ?_
  have hP := jrP hP jy3
  have hD := jrD hD jy3
  refine va_putF (D := (dC, dI)) (ci := 13) (v := .ref q33) (ty := .array .boolean) (C := RX13) (T := TX13) (N := 104) hx hb hts (jh hin_RX13) tyX13 tyX13_ok nmX13 hown hK hP hD hS 0 jg_c0 rfl 46 (by decide) (hts (.fieldLink RX13 108 "BookOfAllModel" "isStruck" "[Z") (jm m_35)) (fun _ h9 => h9) rfl hin rfl (by decide +kernel) rfl rfl (jn_lt hf (Nat.le_of_ble_eq_true rfl)) dX13_init_297 (fun H locs hP hD hS => ?_)
  have hP := jrP hP jy4
  have hD := jrD hD jy4
  have hf := jn_s (k := 46) (x := .ref q33) hf
  refine lv_aload_n hx hb dX13_init_300 rfl (lv_at hl 0 rfl) ?_
  refine lv_bipush (v := 60) hx hb dX13_init_301 (by decide) ?_
  refine va_newa (atype := .boolean) (N' := 60) (a0 := (60, .inl (fun _ => 0))) (ty := .boolean) hx hb (hts (.arrayClass .boolean) (jm m_21)) rfl hK hP hD hS hA (fun _ => rfl) (by decide) (by decide) (by decide) (Nat.le_of_ble_eq_true rfl) (Nat.le_of_ble_eq_true rfl) dX13_init_303 (fun q34 y34 H hK hP hD hS => ?_)
  refine W.widen (k := 34) (n := 19925) (Nat.le_of_ble_eq_true rfl) (Nat.le_of_ble_eq_true rfl) ?_
  have hP := jrP hP jy3
  have hD := jrD hD jy3
  refine va_putF (D := (dC, dI)) (ci := 13) (v := .ref q34) (ty := .array .boolean) (C := RX13) (T := TX13) (N := 104) hx hb hts (jh hin_RX13) tyX13 tyX13_ok nmX13 hown hK hP hD hS 0 jg_c0 rfl 47 (by decide) (hts (.fieldLink RX13 111 "BookOfAllModel" "isLater" "[Z") (jm m_36)) (fun _ h9 => h9) rfl hin rfl (by decide +kernel) rfl rfl (jn_lt hf (Nat.le_of_ble_eq_true rfl)) dX13_init_305 (fun H locs hP hD hS => ?_)
  have hP := jrP hP jy4
  have hD := jrD hD jy4
  have hf := jn_s (k := 47) (x := .ref q34) hf
  refine lv_aload_n hx hb dX13_init_308 rfl (lv_at hl 0 rfl) ?_
  refine lv_bipush (v := 60) hx hb dX13_init_309 (by decide) ?_
  refine va_newa (atype := .int) (N' := 60) (a0 := (60, .inl (fun _ => 0))) (ty := .int) hx hb (hts (.arrayClass .int) (jm m_2)) rfl hK hP hD hS hA (fun _ => rfl) (by decide) (by decide) (by decide) (Nat.le_of_ble_eq_true rfl) (Nat.le_of_ble_eq_true rfl) dX13_init_311 (fun q35 y35 H hK hP hD hS => ?_)
  refine W.widen (k := 35) (n := 19985) (Nat.le_of_ble_eq_true rfl) (Nat.le_of_ble_eq_true rfl) ?_
  have hP := jrP hP jy3
  have hD := jrD hD jy3
  refine va_putF (D := (dC, dI)) (ci := 13) (v := .ref q35) (ty := .array .int) (C := RX13) (T := TX13) (N := 104) hx hb hts (jh hin_RX13) tyX13 tyX13_ok nmX13 hown hK hP hD hS 0 jg_c0 rfl 48 (by decide) (hts (.fieldLink RX13 114 "BookOfAllModel" "setWith" "[I") (jm m_37)) (fun _ h9 => h9) rfl hin rfl (by decide +kernel) rfl rfl (jn_lt hf (Nat.le_of_ble_eq_true rfl)) dX13_init_313 (fun H locs hP hD hS => ?_)
  have hP := jrP hP jy4
  have hD := jrD hD jy4
  have hf := jn_s (k := 48) (x := .ref q35) hf
  refine lv_aload_n hx hb dX13_init_316 rfl (lv_at hl 0 rfl) ?_
  refine lv_bipush (v := 60) hx hb dX13_init_317 (by decide) ?_
  refine va_newa (atype := .int) (N' := 60) (a0 := (60, .inl (fun _ => 0))) (ty := .int) hx hb (hts (.arrayClass .int) (jm m_2)) rfl hK hP hD hS hA (fun _ => rfl) (by decide) (by decide) (by decide) (Nat.le_of_ble_eq_true rfl) (Nat.le_of_ble_eq_true rfl) dX13_init_319 (fun q36 y36 H hK hP hD hS => ?_)
  refine W.widen (k := 36) (n := 20045) (Nat.le_of_ble_eq_true rfl) (Nat.le_of_ble_eq_true rfl) ?_
  have hP := jrP hP jy3
  have hD := jrD hD jy3
  refine va_putF (D := (dC, dI)) (ci := 13) (v := .ref q36) (ty := .array .int) (C := RX13) (T := TX13) (N := 104) hx hb hts (jh hin_RX13) tyX13 tyX13_ok nmX13 hown hK hP hD hS 0 jg_c0 rfl 49 (by decide) (hts (.fieldLink RX13 117 "BookOfAllModel" "pageOf" "[I") (jm m_38)) (fun _ h9 => h9) rfl hin rfl (by decide +kernel) rfl rfl (jn_lt hf (Nat.le_of_ble_eq_true rfl)) dX13_init_321 (fun H locs hP hD hS => ?_)
  have hP := jrP hP jy4
  have hD := jrD hD jy4
  have hf := jn_s (k := 49) (x := .ref q36) hf
  refine lv_aload_n hx hb dX13_init_324 rfl (lv_at hl 0 rfl) ?_
  refine lv_bipush (v := 12) hx hb dX13_init_325 (by decide) ?_
  refine va_newa (atype := .int) (N' := 12) (a0 := (12, .inl (fun _ => 0))) (ty := .int) hx hb (hts (.arrayClass .int) (jm m_2)) rfl hK hP hD hS hA (fun _ => rfl) (by decide) (by decide) (by decide) (Nat.le_of_ble_eq_true rfl) (Nat.le_of_ble_eq_true rfl) dX13_init_327 (fun q37 y37 H hK hP hD hS => ?_)
  refine W.widen (k := 37) (n := 20057) (Nat.le_of_ble_eq_true rfl) (Nat.le_of_ble_eq_true rfl) ?_
  have hP := jrP hP jy3
  have hD := jrD hD jy3
  refine va_putF (D := (dC, dI)) (ci := 13) (v := .ref q37) (ty := .array .int) (C := RX13) (T := TX13) (N := 104) hx hb hts (jh hin_RX13) tyX13 tyX13_ok nmX13 hown hK hP hD hS 0 jg_c0 rfl 51 (by decide) (hts (.fieldLink RX13 120 "BookOfAllModel" "fields" "[I") (jm m_39)) (fun _ h9 => h9) rfl hin rfl (by decide +kernel) rfl rfl (jn_lt hf (Nat.le_of_ble_eq_true rfl)) dX13_init_329 (fun H locs hP hD hS => ?_)
  have hP := jrP hP jy4
  have hD := jrD hD jy4
  have hf := jn_s (k := 51) (x := .ref q37) hf
  refine lv_aload_n hx hb dX13_init_332 rfl (lv_at hl 0 rfl) ?_
  refine lv_bipush (v := 12) hx hb dX13_init_333 (by decide) ?_
  refine va_newa (atype := .int) (N' := 12) (a0 := (12, .inl (fun _ => 0))) (ty := .int) hx hb (hts (.arrayClass .int) (jm m_2)) rfl hK hP hD hS hA (fun _ => rfl) (by decide) (by decide) (by decide) (Nat.le_of_ble_eq_true rfl) (Nat.le_of_ble_eq_true rfl) dX13_init_335 (fun q38 y38 H hK hP hD hS => ?_)
  refine W.widen (k := 38) (n := 20069) (Nat.le_of_ble_eq_true rfl) (Nat.le_of_ble_eq_true rfl) ?_
  have hP := jrP hP jy3
  have hD := jrD hD jy3
  refine va_putF (D := (dC, dI)) (ci := 13) (v := .ref q38) (ty := .array .int) (C := RX13) (T := TX13) (N := 104) hx hb hts (jh hin_RX13) tyX13 tyX13_ok nmX13 hown hK hP hD hS 0 jg_c0 rfl 52 (by decide) (hts (.fieldLink RX13 123 "BookOfAllModel" "skill" "[I") (jm m_40)) (fun _ h9 => h9) rfl hin rfl (by decide +kernel) rfl rfl (jn_lt hf (Nat.le_of_ble_eq_true rfl)) dX13_init_337 (fun H locs hP hD hS => ?_)
  have hP := jrP hP jy4
  have hD := jrD hD jy4
  have hf := jn_s (k := 52) (x := .ref q38) hf
  refine lv_aload_n hx hb dX13_init_340 rfl (lv_at hl 0 rfl) ?_
  refine lv_bipush (v := 12) hx hb dX13_init_341 (by decide) ?_
  refine va_newa (atype := .int) (N' := 12) (a0 := (12, .inl (fun _ => 0))) (ty := .int) hx hb (hts (.arrayClass .int) (jm m_2)) rfl hK hP hD hS hA (fun _ => rfl) (by decide) (by decide) (by decide) (Nat.le_of_ble_eq_true rfl) (Nat.le_of_ble_eq_true rfl) dX13_init_343 (fun q39 y39 H hK hP hD hS => ?_)
  refine W.widen (k := 39) (n := 20081) (Nat.le_of_ble_eq_true rfl) (Nat.le_of_ble_eq_true rfl) ?_
  have hP := jrP hP jy3
  have hD := jrD hD jy3
  refine va_putF (D := (dC, dI)) (ci := 13) (v := .ref q39) (ty := .array .int) (C := RX13) (T := TX13) (N := 104) hx hb hts (jh hin_RX13) tyX13 tyX13_ok nmX13 hown hK hP hD hS 0 jg_c0 rfl 53 (by decide) (hts (.fieldLink RX13 126 "BookOfAllModel" "born" "[I") (jm m_41)) (fun _ h9 => h9) rfl hin rfl (by decide +kernel) rfl rfl (jn_lt hf (Nat.le_of_ble_eq_true rfl)) dX13_init_345 (fun H locs hP hD hS => ?_)
  have hP := jrP hP jy4
  have hD := jrD hD jy4
  have hf := jn_s (k := 53) (x := .ref q39) hf
  refine lv_aload_n hx hb dX13_init_348 rfl (lv_at hl 0 rfl) ?_
  refine lv_bipush (v := 12) hx hb dX13_init_349 (by decide) ?_
  refine va_newa (atype := .boolean) (N' := 12) (a0 := (12, .inl (fun _ => 0))) (ty := .boolean) hx hb (hts (.arrayClass .boolean) (jm m_21)) rfl hK hP hD hS hA (fun _ => rfl) (by decide) (by decide) (by decide) (Nat.le_of_ble_eq_true rfl) (Nat.le_of_ble_eq_true rfl) dX13_init_351 (fun q40 y40 H hK hP hD hS => ?_)
  refine W.widen (k := 40) (n := 20093) (Nat.le_of_ble_eq_true rfl) (Nat.le_of_ble_eq_true rfl) ?_
  have hP := jrP hP jy3
  have hD := jrD hD jy3
  refine va_putF (D := (dC, dI)) (ci := 13) (v := .ref q40) (ty := .array .boolean) (C := RX13) (T := TX13) (N := 104) hx hb hts (jh hin_RX13) tyX13 tyX13_ok nmX13 hown hK hP hD hS 0 jg_c0 rfl 54 (by decide) (hts (.fieldLink RX13 129 "BookOfAllModel" "isDead" "[Z") (jm m_42)) (fun _ h9 => h9) rfl hin rfl (by decide +kernel) rfl rfl (jn_lt hf (Nat.le_of_ble_eq_true rfl)) dX13_init_353 (fun H locs hP hD hS => ?_)
  have hP := jrP hP jy4
  have hD := jrD hD jy4
  have hf := jn_s (k := 54) (x := .ref q40) hf
  refine lv_aload_n hx hb dX13_init_356 rfl (lv_at hl 0 rfl) ?_
  refine lv_sipush (v := 144) hx hb dX13_init_357 (by decide) ?_
  refine va_newa (atype := .boolean) (N' := 144) (a0 := (144, .inl (fun _ => 0))) (ty := .boolean) hx hb (hts (.arrayClass .boolean) (jm m_21)) rfl hK hP hD hS hA (fun _ => rfl) (by decide) (by decide) (by decide) (Nat.le_of_ble_eq_true rfl) (Nat.le_of_ble_eq_true rfl) dX13_init_360 (fun q41 y41 H hK hP hD hS => ?_)
  refine W.widen (k := 41) (n := 20237) (Nat.le_of_ble_eq_true rfl) (Nat.le_of_ble_eq_true rfl) ?_
  have hP := jrP hP jy3
  have hD := jrD hD jy3
  refine va_putF (D := (dC, dI)) (ci := 13) (v := .ref q41) (ty := .array .boolean) (C := RX13) (T := TX13) (N := 104) hx hb hts (jh hin_RX13) tyX13 tyX13_ok nmX13 hown hK hP hD hS 0 jg_c0 rfl 55 (by decide) (hts (.fieldLink RX13 132 "BookOfAllModel" "areEnemies" "[Z") (jm m_43)) (fun _ h9 => h9) rfl hin rfl (by decide +kernel) rfl rfl (jn_lt hf (Nat.le_of_ble_eq_true rfl)) dX13_init_362 (fun H locs hP hD hS => ?_)
  have hP := jrP hP jy4
  have hD := jrD hD jy4
  have hf := jn_s (k := 55) (x := .ref q41) hf
  refine lv_aload_n hx hb dX13_init_365 rfl (lv_at hl 0 rfl) ?_
  refine lv_sipush (v := 300) hx hb dX13_init_366 (by decide) ?_
  refine va_newa (atype := .int) (N' := 300) (a0 := (300, .inl (fun _ => 0))) (ty := .int) hx hb (hts (.arrayClass .int) (jm m_2)) rfl hK hP hD hS hA (fun _ => rfl) (by decide) (by decide) (by decide) (Nat.le_of_ble_eq_true rfl) (Nat.le_of_ble_eq_true rfl) dX13_init_369 (fun q42 y42 H hK hP hD hS => ?_)
  refine W.widen (k := 42) (n := 20537) (Nat.le_of_ble_eq_true rfl) (Nat.le_of_ble_eq_true rfl) ?_
  have hP := jrP hP jy3
  have hD := jrD hD jy3
  refine va_putF (D := (dC, dI)) (ci := 13) (v := .ref q42) (ty := .array .int) (C := RX13) (T := TX13) (N := 104) hx hb hts (jh hin_RX13) tyX13 tyX13_ok nmX13 hown hK hP hD hS 0 jg_c0 rfl 57 (by decide) (hts (.fieldLink RX13 135 "BookOfAllModel" "lineOf" "[I") (jm m_44)) (fun _ h9 => h9) rfl hin rfl (by decide +kernel) rfl rfl (jn_lt hf (Nat.le_of_ble_eq_true rfl)) dX13_init_371 (fun H locs hP hD hS => ?_)
  have hP := jrP hP jy4
  have hD := jrD hD jy4
  have hf := jn_s (k := 57) (x := .ref q42) hf
  refine lv_aload_n hx hb dX13_init_374 rfl (lv_at hl 0 rfl) ?_
  refine lv_sipush (v := 300) hx hb dX13_init_375 (by decide) ?_
  refine va_newa (atype := .int) (N' := 300) (a0 := (300, .inl (fun _ => 0))) (ty := .int) hx hb (hts (.arrayClass .int) (jm m_2)) rfl hK hP hD hS hA (fun _ => rfl) (by decide) (by decide) (by decide) (Nat.le_of_ble_eq_true rfl) (Nat.le_of_ble_eq_true rfl) dX13_init_378 (fun q43 y43 H hK hP hD hS => ?_)
  refine W.widen (k := 43) (n := 20837) (Nat.le_of_ble_eq_true rfl) (Nat.le_of_ble_eq_true rfl) ?_
  have hP := jrP hP jy3
  have hD := jrD hD jy3
  refine va_putF (D := (dC, dI)) (ci := 13) (v := .ref q43) (ty := .array .int) (C := RX13) (T := TX13) (N := 104) hx hb hts (jh hin_RX13) tyX13 tyX13_ok nmX13 hown hK hP hD hS 0 jg_c0 rfl 58 (by decide) (hts (.fieldLink RX13 138 "BookOfAllModel" "lineHand" "[I") (jm m_45)) (fun _ h9 => h9) rfl hin rfl (by decide +kernel) rfl rfl (jn_lt hf (Nat.le_of_ble_eq_true rfl)) dX13_init_380 (fun H locs hP hD hS => ?_)
  have hP := jrP hP jy4
  have hD := jrD hD jy4
  have hf := jn_s (k := 58) (x := .ref q43) hf
  refine lv_aload_n hx hb dX13_init_383 rfl (lv_at hl 0 rfl) ?_
  refine lv_sipush (v := 300) hx hb dX13_init_384 (by decide) ?_
  refine va_newa (atype := .int) (N' := 300) (a0 := (300, .inl (fun _ => 0))) (ty := .int) hx hb (hts (.arrayClass .int) (jm m_2)) rfl hK hP hD hS hA (fun _ => rfl) (by decide) (by decide) (by decide) (Nat.le_of_ble_eq_true rfl) (Nat.le_of_ble_eq_true rfl) dX13_init_387 (fun q44 y44 H hK hP hD hS => ?_)
  refine W.widen (k := 44) (n := 21137) (Nat.le_of_ble_eq_true rfl) (Nat.le_of_ble_eq_true rfl) ?_
  have hP := jrP hP jy3
  have hD := jrD hD jy3
  refine va_putF (D := (dC, dI)) (ci := 13) (v := .ref q44) (ty := .array .int) (C := RX13) (T := TX13) (N := 104) hx hb hts (jh hin_RX13) tyX13 tyX13_ok nmX13 hown hK hP hD hS 0 jg_c0 rfl 59 (by decide) (hts (.fieldLink RX13 141 "BookOfAllModel" "lineFact" "[I") (jm m_46)) (fun _ h9 => h9) rfl hin rfl (by decide +kernel) rfl rfl (jn_lt hf (Nat.le_of_ble_eq_true rfl)) dX13_init_389 (fun H locs hP hD hS => ?_)
  have hP := jrP hP jy4
  have hD := jrD hD jy4
  have hf := jn_s (k := 59) (x := .ref q44) hf
  refine lv_aload_n hx hb dX13_init_392 rfl (lv_at hl 0 rfl) ?_
  refine lv_sipush (v := 300) hx hb dX13_init_393 (by decide) ?_
  refine va_newa (atype := .int) (N' := 300) (a0 := (300, .inl (fun _ => 0))) (ty := .int) hx hb (hts (.arrayClass .int) (jm m_2)) rfl hK hP hD hS hA (fun _ => rfl) (by decide) (by decide) (by decide) (Nat.le_of_ble_eq_true rfl) (Nat.le_of_ble_eq_true rfl) dX13_init_396 (fun q45 y45 H hK hP hD hS => ?_)
  refine W.widen (k := 45) (n := 21437) (Nat.le_of_ble_eq_true rfl) (Nat.le_of_ble_eq_true rfl) ?_
  have hP := jrP hP jy3
  have hD := jrD hD jy3
  refine va_putF (D := (dC, dI)) (ci := 13) (v := .ref q45) (ty := .array .int) (C := RX13) (T := TX13) (N := 104) hx hb hts (jh hin_RX13) tyX13 tyX13_ok nmX13 hown hK hP hD hS 0 jg_c0 rfl 60 (by decide) (hts (.fieldLink RX13 144 "BookOfAllModel" "lineOn" "[I") (jm m_47)) (fun _ h9 => h9) rfl hin rfl (by decide +kernel) rfl rfl (jn_lt hf (Nat.le_of_ble_eq_true rfl)) dX13_init_398 (fun H locs hP hD hS => ?_)
  have hP := jrP hP jy4
  have hD := jrD hD jy4
  have hf := jn_s (k := 60) (x := .ref q45) hf
  refine lv_aload_n hx hb dX13_init_401 rfl (lv_at hl 0 rfl) ?_
  refine lv_sipush (v := 300) hx hb dX13_init_402 (by decide) ?_
  refine va_newa (atype := .int) (N' := 300) (a0 := (300, .inl (fun _ => 0))) (ty := .int) hx hb (hts (.arrayClass .int) (jm m_2)) rfl hK hP hD hS hA (fun _ => rfl) (by decide) (by decide) (by decide) (Nat.le_of_ble_eq_true rfl) (Nat.le_of_ble_eq_true rfl) dX13_init_405 (fun q46 y46 H hK hP hD hS => ?_)
  refine W.widen (k := 46) (n := 21737) (Nat.le_of_ble_eq_true rfl) (Nat.le_of_ble_eq_true rfl) ?_
  have hP := jrP hP jy3
  have hD := jrD hD jy3
  refine va_putF (D := (dC, dI)) (ci := 13) (v := .ref q46) (ty := .array .int) (C := RX13) (T := TX13) (N := 104) hx hb hts (jh hin_RX13) tyX13 tyX13_ok nmX13 hown hK hP hD hS 0 jg_c0 rfl 61 (by decide) (hts (.fieldLink RX13 147 "BookOfAllModel" "lineKeeps" "[I") (jm m_48)) (fun _ h9 => h9) rfl hin rfl (by decide +kernel) rfl rfl (jn_lt hf (Nat.le_of_ble_eq_true rfl)) dX13_init_407 (fun H locs hP hD hS => ?_)
  have hP := jrP hP jy4
  have hD := jrD hD jy4
  have hf := jn_s (k := 61) (x := .ref q46) hf
  refine lv_aload_n hx hb dX13_init_410 rfl (lv_at hl 0 rfl) ?_
  refine lv_sipush (v := 300) hx hb dX13_init_411 (by decide) ?_
  refine va_newa (atype := .int) (N' := 300) (a0 := (300, .inl (fun _ => 0))) (ty := .int) hx hb (hts (.arrayClass .int) (jm m_2)) rfl hK hP hD hS hA (fun _ => rfl) (by decide) (by decide) (by decide) (Nat.le_of_ble_eq_true rfl) (Nat.le_of_ble_eq_true rfl) dX13_init_414 (fun q47 y47 H hK hP hD hS => ?_)
  refine W.widen (k := 47) (n := 22037) (Nat.le_of_ble_eq_true rfl) (Nat.le_of_ble_eq_true rfl) ?_
  have hP := jrP hP jy3
  have hD := jrD hD jy3
  refine va_putF (D := (dC, dI)) (ci := 13) (v := .ref q47) (ty := .array .int) (C := RX13) (T := TX13) (N := 104) hx hb hts (jh hin_RX13) tyX13 tyX13_ok nmX13 hown hK hP hD hS 0 jg_c0 rfl 62 (by decide) (hts (.fieldLink RX13 150 "BookOfAllModel" "lineTerm" "[I") (jm m_49)) (fun _ h9 => h9) rfl hin rfl (by decide +kernel) rfl rfl (jn_lt hf (Nat.le_of_ble_eq_true rfl)) dX13_init_416 (fun H locs hP hD hS => ?_)
  have hP := jrP hP jy4
  have hD := jrD hD jy4
  have hf := jn_s (k := 62) (x := .ref q47) hf
  refine lv_aload_n hx hb dX13_init_419 rfl (lv_at hl 0 rfl) ?_
  refine lv_sipush (v := 300) hx hb dX13_init_420 (by decide) ?_
  refine va_newa (atype := .int) (N' := 300) (a0 := (300, .inl (fun _ => 0))) (ty := .int) hx hb (hts (.arrayClass .int) (jm m_2)) rfl hK hP hD hS hA (fun _ => rfl) (by decide) (by decide) (by decide) (Nat.le_of_ble_eq_true rfl) (Nat.le_of_ble_eq_true rfl) dX13_init_423 (fun q48 y48 H hK hP hD hS => ?_)
  refine W.widen (k := 48) (n := 22337) (Nat.le_of_ble_eq_true rfl) (Nat.le_of_ble_eq_true rfl) ?_
  have hP := jrP hP jy3
  have hD := jrD hD jy3
  refine va_putF (D := (dC, dI)) (ci := 13) (v := .ref q48) (ty := .array .int) (C := RX13) (T := TX13) (N := 104) hx hb hts (jh hin_RX13) tyX13 tyX13_ok nmX13 hown hK hP hD hS 0 jg_c0 rfl 63 (by decide) (hts (.fieldLink RX13 153 "BookOfAllModel" "linePay" "[I") (jm m_50)) (fun _ h9 => h9) rfl hin rfl (by decide +kernel) rfl rfl (jn_lt hf (Nat.le_of_ble_eq_true rfl)) dX13_init_425 (fun H locs hP hD hS => ?_)
  have hP := jrP hP jy4
  have hD := jrD hD jy4
  have hf := jn_s (k := 63) (x := .ref q48) hf
  refine lv_aload_n hx hb dX13_init_428 rfl (lv_at hl 0 rfl) ?_
  refine lv_sipush (v := 300) hx hb dX13_init_429 (by decide) ?_
  refine va_newa (atype := .int) (N' := 300) (a0 := (300, .inl (fun _ => 0))) (ty := .int) hx hb (hts (.arrayClass .int) (jm m_2)) rfl hK hP hD hS hA (fun _ => rfl) (by decide) (by decide) (by decide) (Nat.le_of_ble_eq_true rfl) (Nat.le_of_ble_eq_true rfl) dX13_init_432 (fun q49 y49 H hK hP hD hS => ?_)
  refine W.widen (k := 49) (n := 22637) (Nat.le_of_ble_eq_true rfl) (Nat.le_of_ble_eq_true rfl) ?_
  have hP := jrP hP jy3
  have hD := jrD hD jy3
  refine va_putF (D := (dC, dI)) (ci := 13) (v := .ref q49) (ty := .array .int) (C := RX13) (T := TX13) (N := 104) hx hb hts (jh hin_RX13) tyX13 tyX13_ok nmX13 hown hK hP hD hS 0 jg_c0 rfl 64 (by decide) (hts (.fieldLink RX13 156 "BookOfAllModel" "linePage" "[I") (jm m_51)) (fun _ h9 => h9) rfl hin rfl (by decide +kernel) rfl rfl (jn_lt hf (Nat.le_of_ble_eq_true rfl)) dX13_init_434 (fun H locs hP hD hS => ?_)
  have hP := jrP hP jy4
  have hD := jrD hD jy4
  have hf := jn_s (k := 64) (x := .ref q49) hf
  refine lv_aload_n hx hb dX13_init_437 rfl (lv_at hl 0 rfl) ?_
  refine lv_sipush (v := 300) hx hb dX13_init_438 (by decide) ?_
  refine va_newa (atype := .int) (N' := 300) (a0 := (300, .inl (fun _ => 0))) (ty := .int) hx hb (hts (.arrayClass .int) (jm m_2)) rfl hK hP hD hS hA (fun _ => rfl) (by decide) (by decide) (by decide) (Nat.le_of_ble_eq_true rfl) (Nat.le_of_ble_eq_true rfl) dX13_init_441 (fun q50 y50 H hK hP hD hS => ?_)
  refine W.widen (k := 50) (n := 22937) (Nat.le_of_ble_eq_true rfl) (Nat.le_of_ble_eq_true rfl) ?_
  have hP := jrP hP jy3
  have hD := jrD hD jy3
  refine va_putF (D := (dC, dI)) (ci := 13) (v := .ref q50) (ty := .array .int) (C := RX13) (T := TX13) (N := 104) hx hb hts (jh hin_RX13) tyX13 tyX13_ok nmX13 hown hK hP hD hS 0 jg_c0 rfl 65 (by decide) (hts (.fieldLink RX13 159 "BookOfAllModel" "linePlace" "[I") (jm m_52)) (fun _ h9 => h9) rfl hin rfl (by decide +kernel) rfl rfl (jn_lt hf (Nat.le_of_ble_eq_true rfl)) dX13_init_443 (fun H locs hP hD hS => ?_)
  have hP := jrP hP jy4
  have hD := jrD hD jy4
  have hf := jn_s (k := 65) (x := .ref q50) hf
  refine lv_aload_n hx hb dX13_init_446 rfl (lv_at hl 0 rfl) ?_
  refine lv_sipush (v := 600) hx hb dX13_init_447 (by decide) ?_
  refine va_newa (atype := .int) (N' := 600) (a0 := (600, .inl (fun _ => 0))) (ty := .int) hx hb (hts (.arrayClass .int) (jm m_2)) rfl hK hP hD hS hA (fun _ => rfl) (by decide) (by decide) (by decide) (Nat.le_of_ble_eq_true rfl) (Nat.le_of_ble_eq_true rfl) dX13_init_450 (fun q51 y51 H hK hP hD hS => ?_)
  refine W.widen (k := 51) (n := 23537) (Nat.le_of_ble_eq_true rfl) (Nat.le_of_ble_eq_true rfl) ?_
  have hP := jrP hP jy3
  have hD := jrD hD jy3
  refine va_putF (D := (dC, dI)) (ci := 13) (v := .ref q51) (ty := .array .int) (C := RX13) (T := TX13) (N := 104) hx hb hts (jh hin_RX13) tyX13 tyX13_ok nmX13 hown hK hP hD hS 0 jg_c0 rfl 67 (by decide) (hts (.fieldLink RX13 162 "BookOfAllModel" "toldFact" "[I") (jm m_53)) (fun _ h9 => h9) rfl hin rfl (by decide +kernel) rfl rfl (jn_lt hf (Nat.le_of_ble_eq_true rfl)) dX13_init_452 (fun H locs hP hD hS => ?_)
  have hP := jrP hP jy4
  have hD := jrD hD jy4
  have hf := jn_s (k := 67) (x := .ref q51) hf
  refine lv_aload_n hx hb dX13_init_455 rfl (lv_at hl 0 rfl) ?_
  refine lv_sipush (v := 600) hx hb dX13_init_456 (by decide) ?_
  refine va_newa (atype := .int) (N' := 600) (a0 := (600, .inl (fun _ => 0))) (ty := .int) hx hb (hts (.arrayClass .int) (jm m_2)) rfl hK hP hD hS hA (fun _ => rfl) (by decide) (by decide) (by decide) (Nat.le_of_ble_eq_true rfl) (Nat.le_of_ble_eq_true rfl) dX13_init_459 (fun q52 y52 H hK hP hD hS => ?_)
  refine W.widen (k := 52) (n := 24137) (Nat.le_of_ble_eq_true rfl) (Nat.le_of_ble_eq_true rfl) ?_
  have hP := jrP hP jy3
  have hD := jrD hD jy3
  refine va_putF (D := (dC, dI)) (ci := 13) (v := .ref q52) (ty := .array .int) (C := RX13) (T := TX13) (N := 104) hx hb hts (jh hin_RX13) tyX13 tyX13_ok nmX13 hown hK hP hD hS 0 jg_c0 rfl 68 (by decide) (hts (.fieldLink RX13 165 "BookOfAllModel" "toldValue" "[I") (jm m_54)) (fun _ h9 => h9) rfl hin rfl (by decide +kernel) rfl rfl (jn_lt hf (Nat.le_of_ble_eq_true rfl)) dX13_init_461 (fun H locs hP hD hS => ?_)
  have hP := jrP hP jy4
  have hD := jrD hD jy4
  have hf := jn_s (k := 68) (x := .ref q52) hf
  refine lv_aload_n hx hb dX13_init_464 rfl (lv_at hl 0 rfl) ?_
  refine lv_sipush (v := 600) hx hb dX13_init_465 (by decide) ?_
  refine va_newa (atype := .int) (N' := 600) (a0 := (600, .inl (fun _ => 0))) (ty := .int) hx hb (hts (.arrayClass .int) (jm m_2)) rfl hK hP hD hS hA (fun _ => rfl) (by decide) (by decide) (by decide) (Nat.le_of_ble_eq_true rfl) (Nat.le_of_ble_eq_true rfl) dX13_init_468 (fun q53 y53 H hK hP hD hS => ?_)
  refine W.widen (k := 53) (n := 24737) (Nat.le_of_ble_eq_true rfl) (Nat.le_of_ble_eq_true rfl) ?_
  have hP := jrP hP jy3
  have hD := jrD hD jy3
  refine va_putF (D := (dC, dI)) (ci := 13) (v := .ref q53) (ty := .array .int) (C := RX13) (T := TX13) (N := 104) hx hb hts (jh hin_RX13) tyX13 tyX13_ok nmX13 hown hK hP hD hS 0 jg_c0 rfl 69 (by decide) (hts (.fieldLink RX13 168 "BookOfAllModel" "toldBy" "[I") (jm m_55)) (fun _ h9 => h9) rfl hin rfl (by decide +kernel) rfl rfl (jn_lt hf (Nat.le_of_ble_eq_true rfl)) dX13_init_470 (fun H locs hP hD hS => ?_)
  have hP := jrP hP jy4
  have hD := jrD hD jy4
  have hf := jn_s (k := 69) (x := .ref q53) hf
  refine lv_aload_n hx hb dX13_init_473 rfl (lv_at hl 0 rfl) ?_
  refine lv_sipush (v := 600) hx hb dX13_init_474 (by decide) ?_
  refine va_newa (atype := .int) (N' := 600) (a0 := (600, .inl (fun _ => 0))) (ty := .int) hx hb (hts (.arrayClass .int) (jm m_2)) rfl hK hP hD hS hA (fun _ => rfl) (by decide) (by decide) (by decide) (Nat.le_of_ble_eq_true rfl) (Nat.le_of_ble_eq_true rfl) dX13_init_477 (fun q54 y54 H hK hP hD hS => ?_)
  refine W.widen (k := 54) (n := 25337) (Nat.le_of_ble_eq_true rfl) (Nat.le_of_ble_eq_true rfl) ?_
  have hP := jrP hP jy3
  have hD := jrD hD jy3
  refine va_putF (D := (dC, dI)) (ci := 13) (v := .ref q54) (ty := .array .int) (C := RX13) (T := TX13) (N := 104) hx hb hts (jh hin_RX13) tyX13 tyX13_ok nmX13 hown hK hP hD hS 0 jg_c0 rfl 70 (by decide) (hts (.fieldLink RX13 171 "BookOfAllModel" "toldIn" "[I") (jm m_56)) (fun _ h9 => h9) rfl hin rfl (by decide +kernel) rfl rfl (jn_lt hf (Nat.le_of_ble_eq_true rfl)) dX13_init_479 (fun H locs hP hD hS => ?_)
  have hP := jrP hP jy4
  have hD := jrD hD jy4
  have hf := jn_s (k := 70) (x := .ref q54) hf
  refine lv_aload_n hx hb dX13_init_482 rfl (lv_at hl 0 rfl) ?_
  refine lv_bipush (v := 60) hx hb dX13_init_483 (by decide) ?_
  refine va_newa (atype := .int) (N' := 60) (a0 := (60, .inl (fun _ => 0))) (ty := .int) hx hb (hts (.arrayClass .int) (jm m_2)) rfl hK hP hD hS hA (fun _ => rfl) (by decide) (by decide) (by decide) (Nat.le_of_ble_eq_true rfl) (Nat.le_of_ble_eq_true rfl) dX13_init_485 (fun q55 y55 H hK hP hD hS => ?_)
  refine W.widen (k := 55) (n := 25397) (Nat.le_of_ble_eq_true rfl) (Nat.le_of_ble_eq_true rfl) ?_
  have hP := jrP hP jy3
  have hD := jrD hD jy3
  refine va_putF (D := (dC, dI)) (ci := 13) (v := .ref q55) (ty := .array .int) (C := RX13) (T := TX13) (N := 104) hx hb hts (jh hin_RX13) tyX13 tyX13_ok nmX13 hown hK hP hD hS 0 jg_c0 rfl 72 (by decide) (hts (.fieldLink RX13 174 "BookOfAllModel" "errorLine" "[I") (jm m_57)) (fun _ h9 => h9) rfl hin rfl (by decide +kernel) rfl rfl (jn_lt hf (Nat.le_of_ble_eq_true rfl)) dX13_init_487 (fun H locs hP hD hS => ?_)
  have hP := jrP hP jy4
  have hD := jrD hD jy4
  have hf := jn_s (k := 72) (x := .ref q55) hf
  refine lv_aload_n hx hb dX13_init_490 rfl (lv_at hl 0 rfl) ?_
  refine lv_bipush (v := 60) hx hb dX13_init_491 (by decide) ?_
  refine va_newa (atype := .int) (N' := 60) (a0 := (60, .inl (fun _ => 0))) (ty := .int) hx hb (hts (.arrayClass .int) (jm m_2)) rfl hK hP hD hS hA (fun _ => rfl) (by decide) (by decide) (by decide) (Nat.le_of_ble_eq_true rfl) (Nat.le_of_ble_eq_true rfl) dX13_init_493 (fun q56 y56 H hK hP hD hS => ?_)
  refine W.widen (k := 56) (n := 25457) (Nat.le_of_ble_eq_true rfl) (Nat.le_of_ble_eq_true rfl) ?_
  have hP := jrP hP jy3
  have hD := jrD hD jy3
  refine va_putF (D := (dC, dI)) (ci := 13) (v := .ref q56) (ty := .array .int) (C := RX13) (T := TX13) (N := 104) hx hb hts (jh hin_RX13) tyX13 tyX13_ok nmX13 hown hK hP hD hS 0 jg_c0 rfl 73 (by decide) (hts (.fieldLink RX13 177 "BookOfAllModel" "errorIs" "[I") (jm m_58)) (fun _ h9 => h9) rfl hin rfl (by decide +kernel) rfl rfl (jn_lt hf (Nat.le_of_ble_eq_true rfl)) dX13_init_495 (fun H locs hP hD hS => ?_)
  have hP := jrP hP jy4
  have hD := jrD hD jy4
  have hf := jn_s (k := 73) (x := .ref q56) hf
  refine lv_aload_n hx hb dX13_init_498 rfl (lv_at hl 0 rfl) ?_
  refine lv_bipush (v := 60) hx hb dX13_init_499 (by decide) ?_
  refine va_newa (atype := .int) (N' := 60) (a0 := (60, .inl (fun _ => 0))) (ty := .int) hx hb (hts (.arrayClass .int) (jm m_2)) rfl hK hP hD hS hA (fun _ => rfl) (by decide) (by decide) (by decide) (Nat.le_of_ble_eq_true rfl) (Nat.le_of_ble_eq_true rfl) dX13_init_501 (fun q57 y57 H hK hP hD hS => ?_)
  refine W.widen (k := 57) (n := 25517) (Nat.le_of_ble_eq_true rfl) (Nat.le_of_ble_eq_true rfl) ?_
  have hP := jrP hP jy3
  have hD := jrD hD jy3
  refine va_putF (D := (dC, dI)) (ci := 13) (v := .ref q57) (ty := .array .int) (C := RX13) (T := TX13) (N := 104) hx hb hts (jh hin_RX13) tyX13 tyX13_ok nmX13 hown hK hP hD hS 0 jg_c0 rfl 74 (by decide) (hts (.fieldLink RX13 180 "BookOfAllModel" "errorShould" "[I") (jm m_59)) (fun _ h9 => h9) rfl hin rfl (by decide +kernel) rfl rfl (jn_lt hf (Nat.le_of_ble_eq_true rfl)) dX13_init_503 (fun H locs hP hD hS => ?_)
  have hP := jrP hP jy4
  have hD := jrD hD jy4
  have hf := jn_s (k := 74) (x := .ref q57) hf
  refine lv_aload_n hx hb dX13_init_506 rfl (lv_at hl 0 rfl) ?_
  refine lv_bipush (v := 60) hx hb dX13_init_507 (by decide) ?_
  refine va_newa (atype := .int) (N' := 60) (a0 := (60, .inl (fun _ => 0))) (ty := .int) hx hb (hts (.arrayClass .int) (jm m_2)) rfl hK hP hD hS hA (fun _ => rfl) (by decide) (by decide) (by decide) (Nat.le_of_ble_eq_true rfl) (Nat.le_of_ble_eq_true rfl) dX13_init_509 (fun q58 y58 H hK hP hD hS => ?_)
  refine W.widen (k := 58) (n := 25577) (Nat.le_of_ble_eq_true rfl) (Nat.le_of_ble_eq_true rfl) ?_
  have hP := jrP hP jy3
  have hD := jrD hD jy3
  refine va_putF (D := (dC, dI)) (ci := 13) (v := .ref q58) (ty := .array .int) (C := RX13) (T := TX13) (N := 104) hx hb hts (jh hin_RX13) tyX13 tyX13_ok nmX13 hown hK hP hD hS 0 jg_c0 rfl 75 (by decide) (hts (.fieldLink RX13 183 "BookOfAllModel" "errorIn" "[I") (jm m_60)) (fun _ h9 => h9) rfl hin rfl (by decide +kernel) rfl rfl (jn_lt hf (Nat.le_of_ble_eq_true rfl)) dX13_init_511 (fun H locs hP hD hS => ?_)
  have hP := jrP hP jy4
  have hD := jrD hD jy4
  have hf := jn_s (k := 75) (x := .ref q58) hf
  refine lv_aload_n hx hb dX13_init_514 rfl (lv_at hl 0 rfl) ?_
  refine lv_bipush (v := 10) hx hb dX13_init_515 (by decide) ?_
  refine va_newa (atype := .int) (N' := 10) (a0 := (10, .inl (fun _ => 0))) (ty := .int) hx hb (hts (.arrayClass .int) (jm m_2)) rfl hK hP hD hS hA (fun _ => rfl) (by decide) (by decide) (by decide) (Nat.le_of_ble_eq_true rfl) (Nat.le_of_ble_eq_true rfl) dX13_init_517 (fun q59 y59 H hK hP hD hS => ?_)
  refine W.widen (k := 59) (n := 25587) (Nat.le_of_ble_eq_true rfl) (Nat.le_of_ble_eq_true rfl) ?_
  have hP := jrP hP jy3
  have hD := jrD hD jy3
  refine va_putF (D := (dC, dI)) (ci := 13) (v := .ref q59) (ty := .array .int) (C := RX13) (T := TX13) (N := 104) hx hb hts (jh hin_RX13) tyX13 tyX13_ok nmX13 hown hK hP hD hS 0 jg_c0 rfl 76 (by decide) (hts (.fieldLink RX13 186 "BookOfAllModel" "subscribedFrom" "[I") (jm m_61)) (fun _ h9 => h9) rfl hin rfl (by decide +kernel) rfl rfl (jn_lt hf (Nat.le_of_ble_eq_true rfl)) dX13_init_519 (fun H locs hP hD hS => ?_)
  have hP := jrP hP jy4
  have hD := jrD hD jy4
  have hf := jn_s (k := 76) (x := .ref q59) hf
  refine lv_aload_n hx hb dX13_init_522 rfl (lv_at hl 0 rfl) ?_
  refine lv_bipush (v := 10) hx hb dX13_init_523 (by decide) ?_
  refine va_newa (atype := .int) (N' := 10) (a0 := (10, .inl (fun _ => 0))) (ty := .int) hx hb (hts (.arrayClass .int) (jm m_2)) rfl hK hP hD hS hA (fun _ => rfl) (by decide) (by decide) (by decide) (Nat.le_of_ble_eq_true rfl) (Nat.le_of_ble_eq_true rfl) dX13_init_525 (fun q60 y60 H hK hP hD hS => ?_)
  refine W.widen (k := 60) (n := 25597) (Nat.le_of_ble_eq_true rfl) (Nat.le_of_ble_eq_true rfl) ?_
  have hP := jrP hP jy3
  have hD := jrD hD jy3
  refine va_putF (D := (dC, dI)) (ci := 13) (v := .ref q60) (ty := .array .int) (C := RX13) (T := TX13) (N := 104) hx hb hts (jh hin_RX13) tyX13 tyX13_ok nmX13 hown hK hP hD hS 0 jg_c0 rfl 77 (by decide) (hts (.fieldLink RX13 189 "BookOfAllModel" "subscribedFor" "[I") (jm m_62)) (fun _ h9 => h9) rfl hin rfl (by decide +kernel) rfl rfl (jn_lt hf (Nat.le_of_ble_eq_true rfl)) dX13_init_527 (fun H locs hP hD hS => ?_)
  have hP := jrP hP jy4
  have hD := jrD hD jy4
  have hf := jn_s (k := 77) (x := .ref q60) hf
  refine lv_aload_n hx hb dX13_init_530 rfl (lv_at hl 0 rfl) ?_
  refine lv_bipush (v := 30) hx hb dX13_init_531 (by decide) ?_
  refine va_newa (atype := .int) (N' := 30) (a0 := (30, .inl (fun _ => 0))) (ty := .int) hx hb (hts (.arrayClass .int) (jm m_2)) rfl hK hP hD hS hA (fun _ => rfl) (by decide) (by decide) (by decide) (Nat.le_of_ble_eq_true rfl) (Nat.le_of_ble_eq_true rfl) dX13_init_533 (fun q61 y61 H hK hP hD hS => ?_)
  refine W.widen (k := 61) (n := 25627) (Nat.le_of_ble_eq_true rfl) (Nat.le_of_ble_eq_true rfl) ?_
  have hP := jrP hP jy3
  have hD := jrD hD jy3
  refine va_putF (D := (dC, dI)) (ci := 13) (v := .ref q61) (ty := .array .int) (C := RX13) (T := TX13) (N := 104) hx hb hts (jh hin_RX13) tyX13 tyX13_ok nmX13 hown hK hP hD hS 0 jg_c0 rfl 79 (by decide) (hts (.fieldLink RX13 192 "BookOfAllModel" "stole" "[I") (jm m_63)) (fun _ h9 => h9) rfl hin rfl (by decide +kernel) rfl rfl (jn_lt hf (Nat.le_of_ble_eq_true rfl)) dX13_init_535 (fun H locs hP hD hS => ?_)
  have hP := jrP hP jy4
  have hD := jrD hD jy4
  have hf := jn_s (k := 79) (x := .ref q61) hf
  refine lv_aload_n hx hb dX13_init_538 rfl (lv_at hl 0 rfl) ?_
  refine lv_bipush (v := 9) hx hb dX13_init_539 (by decide) ?_
  refine va_newa (atype := .int) (N' := 9) (a0 := (9, .inl (fun _ => 0))) (ty := .int) hx hb (hts (.arrayClass .int) (jm m_2)) rfl hK hP hD hS hA (fun _ => rfl) (by decide) (by decide) (by decide) (Nat.le_of_ble_eq_true rfl) (Nat.le_of_ble_eq_true rfl) dX13_init_541 (fun q62 y62 H hK hP hD hS => ?_)
  refine W.widen (k := 62) (n := 25636) (Nat.le_of_ble_eq_true rfl) (Nat.le_of_ble_eq_true rfl) ?_
  have hP := jrP hP jy3
  have hD := jrD hD jy3
  refine va_putF (D := (dC, dI)) (ci := 13) (v := .ref q62) (ty := .array .int) (C := RX13) (T := TX13) (N := 104) hx hb hts (jh hin_RX13) tyX13 tyX13_ok nmX13 hown hK hP hD hS 0 jg_c0 rfl 80 (by decide) (hts (.fieldLink RX13 195 "BookOfAllModel" "names" "[I") (jm m_64)) (fun _ h9 => h9) rfl hin rfl (by decide +kernel) rfl rfl (jn_lt hf (Nat.le_of_ble_eq_true rfl)) dX13_init_543 (fun H locs hP hD hS => ?_)
  have hP := jrP hP jy4
  have hD := jrD hD jy4
  have hf := jn_s (k := 80) (x := .ref q62) hf
  refine lv_aload_n hx hb dX13_init_546 rfl (lv_at hl 0 rfl) ?_
  refine lv_sipush (v := 600) hx hb dX13_init_547 (by decide) ?_
  refine va_newa (atype := .int) (N' := 600) (a0 := (600, .inl (fun _ => 0))) (ty := .int) hx hb (hts (.arrayClass .int) (jm m_2)) rfl hK hP hD hS hA (fun _ => rfl) (by decide) (by decide) (by decide) (Nat.le_of_ble_eq_true rfl) (Nat.le_of_ble_eq_true rfl) dX13_init_550 (fun q63 y63 H hK hP hD hS => ?_)
  refine W.widen (k := 63) (n := 26236) (Nat.le_of_ble_eq_true rfl) (Nat.le_of_ble_eq_true rfl) ?_
  have hP := jrP hP jy3
  have hD := jrD hD jy3
  refine va_putF (D := (dC, dI)) (ci := 13) (v := .ref q63) (ty := .array .int) (C := RX13) (T := TX13) (N := 104) hx hb hts (jh hin_RX13) tyX13 tyX13_ok nmX13 hown hK hP hD hS 0 jg_c0 rfl 81 (by decide) (hts (.fieldLink RX13 198 "BookOfAllModel" "heap" "[I") (jm m_65)) (fun _ h9 => h9) rfl hin rfl (by decide +kernel) rfl rfl (jn_lt hf (Nat.le_of_ble_eq_true rfl)) dX13_init_552 (fun H locs hP hD hS => ?_)
  have hP := jrP hP jy4
  have hD := jrD hD jy4
  have hf := jn_s (k := 81) (x := .ref q63) hf
  refine lv_aload_n hx hb dX13_init_555 rfl (lv_at hl 0 rfl) ?_
  refine lv_bipush (v := 12) hx hb dX13_init_556 (by decide) ?_
  refine va_newa (atype := .int) (N' := 12) (a0 := (12, .inl (fun _ => 0))) (ty := .int) hx hb (hts (.arrayClass .int) (jm m_2)) rfl hK hP hD hS hA (fun _ => rfl) (by decide) (by decide) (by decide) (Nat.le_of_ble_eq_true rfl) (Nat.le_of_ble_eq_true rfl) dX13_init_558 (fun q64 y64 H hK hP hD hS => ?_)
  refine W.widen (k := 64) (n := 26248) (Nat.le_of_ble_eq_true rfl) (Nat.le_of_ble_eq_true rfl) ?_
  have hP := jrP hP jy3
  have hD := jrD hD jy3
  refine va_putF (D := (dC, dI)) (ci := 13) (v := .ref q64) (ty := .array .int) (C := RX13) (T := TX13) (N := 104) hx hb hts (jh hin_RX13) tyX13 tyX13_ok nmX13 hown hK hP hD hS 0 jg_c0 rfl 82 (by decide) (hts (.fieldLink RX13 201 "BookOfAllModel" "keyOne" "[I") (jm m_66)) (fun _ h9 => h9) rfl hin rfl (by decide +kernel) rfl rfl (jn_lt hf (Nat.le_of_ble_eq_true rfl)) dX13_init_560 (fun H locs hP hD hS => ?_)
  have hP := jrP hP jy4
  have hD := jrD hD jy4
  have hf := jn_s (k := 82) (x := .ref q64) hf
  refine lv_aload_n hx hb dX13_init_563 rfl (lv_at hl 0 rfl) ?_
  refine lv_bipush (v := 12) hx hb dX13_init_564 (by decide) ?_
  refine va_newa (atype := .int) (N' := 12) (a0 := (12, .inl (fun _ => 0))) (ty := .int) hx hb (hts (.arrayClass .int) (jm m_2)) rfl hK hP hD hS hA (fun _ => rfl) (by decide) (by decide) (by decide) (Nat.le_of_ble_eq_true rfl) (Nat.le_of_ble_eq_true rfl) dX13_init_566 (fun q65 y65 H hK hP hD hS => ?_)
  refine W.widen (k := 65) (n := 26260) (Nat.le_of_ble_eq_true rfl) (Nat.le_of_ble_eq_true rfl) ?_
  have hP := jrP hP jy3
  have hD := jrD hD jy3
  refine va_putF (D := (dC, dI)) (ci := 13) (v := .ref q65) (ty := .array .int) (C := RX13) (T := TX13) (N := 104) hx hb hts (jh hin_RX13) tyX13 tyX13_ok nmX13 hown hK hP hD hS 0 jg_c0 rfl 83 (by decide) (hts (.fieldLink RX13 204 "BookOfAllModel" "keyTwo" "[I") (jm m_67)) (fun _ h9 => h9) rfl hin rfl (by decide +kernel) rfl rfl (jn_lt hf (Nat.le_of_ble_eq_true rfl)) dX13_init_568 (fun H locs hP hD hS => ?_)
  have hP := jrP hP jy4
  have hD := jrD hD jy4
  have hf := jn_s (k := 83) (x := .ref q65) hf
  refine lv_aload_n hx hb dX13_init_571 rfl (lv_at hl 0 rfl) ?_
  refine lv_bipush (v := 12) hx hb dX13_init_572 (by decide) ?_
  refine va_newa (atype := .byte) (N' := 12) (a0 := (12, .inl (fun _ => 0))) (ty := .byte) hx hb (hts (.arrayClass .byte) (jm m_0)) rfl hK hP hD hS hA (fun _ => rfl) (by decide) (by decide) (by decide) (Nat.le_of_ble_eq_true rfl) (Nat.le_of_ble_eq_true rfl) dX13_init_574 (fun q66 y66 H hK hP hD hS => ?_)
  refine W.widen (k := 66) (n := 26272) (Nat.le_of_ble_eq_true rfl) (Nat.le_of_ble_eq_true rfl) ?_
  have hP := jrP hP jy3
  have hD := jrD hD jy3
  refine va_putF (D := (dC, dI)) (ci := 13) (v := .ref q66) (ty := .array .byte) (C := RX13) (T := TX13) (N := 104) hx hb hts (jh hin_RX13) tyX13 tyX13_ok nmX13 hown hK hP hD hS 0 jg_c0 rfl 84 (by decide) (hts (.fieldLink RX13 207 "BookOfAllModel" "told12" "[B") (jm m_68)) (fun _ h9 => h9) rfl hin rfl (by decide +kernel) rfl rfl (jn_lt hf (Nat.le_of_ble_eq_true rfl)) dX13_init_576 (fun H locs hP hD hS => ?_)
  have hP := jrP hP jy4
  have hD := jrD hD jy4
  have hf := jn_s (k := 84) (x := .ref q66) hf
  refine lv_aload_n hx hb dX13_init_579 rfl (lv_at hl 0 rfl) ?_
  refine lv_bipush (v := 60) hx hb dX13_init_580 (by decide) ?_
  refine va_newa (atype := .int) (N' := 60) (a0 := (60, .inl (fun _ => 0))) (ty := .int) hx hb (hts (.arrayClass .int) (jm m_2)) rfl hK hP hD hS hA (fun _ => rfl) (by decide) (by decide) (by decide) (Nat.le_of_ble_eq_true rfl) (Nat.le_of_ble_eq_true rfl) dX13_init_582 (fun q67 y67 H hK hP hD hS => ?_)
  refine W.widen (k := 67) (n := 26332) (Nat.le_of_ble_eq_true rfl) (Nat.le_of_ble_eq_true rfl) ?_
  have hP := jrP hP jy3
  have hD := jrD hD jy3
  refine va_putF (D := (dC, dI)) (ci := 13) (v := .ref q67) (ty := .array .int) (C := RX13) (T := TX13) (N := 104) hx hb hts (jh hin_RX13) tyX13 tyX13_ok nmX13 hown hK hP hD hS 0 jg_c0 rfl 85 (by decide) (hts (.fieldLink RX13 210 "BookOfAllModel" "order" "[I") (jm m_69)) (fun _ h9 => h9) rfl hin rfl (by decide +kernel) rfl rfl (jn_lt hf (Nat.le_of_ble_eq_true rfl)) dX13_init_584 (fun H locs hP hD hS => ?_)
  have hP := jrP hP jy4
  have hD := jrD hD jy4
  have hf := jn_s (k := 85) (x := .ref q67) hf
  refine lv_aload_n hx hb dX13_init_587 rfl (lv_at hl 0 rfl) ?_
  refine lv_bipush (v := 60) hx hb dX13_init_588 (by decide) ?_
  refine va_newa (atype := .int) (N' := 60) (a0 := (60, .inl (fun _ => 0))) (ty := .int) hx hb (hts (.arrayClass .int) (jm m_2)) rfl hK hP hD hS hA (fun _ => rfl) (by decide) (by decide) (by decide) (Nat.le_of_ble_eq_true rfl) (Nat.le_of_ble_eq_true rfl) dX13_init_590 (fun q68 y68 H hK hP hD hS => ?_)
  refine W.widen (k := 68) (n := 26392) (Nat.le_of_ble_eq_true rfl) (Nat.le_of_ble_eq_true rfl) ?_
  have hP := jrP hP jy3
  have hD := jrD hD jy3
  refine va_putF (D := (dC, dI)) (ci := 13) (v := .ref q68) (ty := .array .int) (C := RX13) (T := TX13) (N := 104) hx hb hts (jh hin_RX13) tyX13 tyX13_ok nmX13 hown hK hP hD hS 0 jg_c0 rfl 87 (by decide) (hts (.fieldLink RX13 213 "BookOfAllModel" "low" "[I") (jm m_70)) (fun _ h9 => h9) rfl hin rfl (by decide +kernel) rfl rfl (jn_lt hf (Nat.le_of_ble_eq_true rfl)) dX13_init_592 (fun H locs hP hD hS => ?_)
  have hP := jrP hP jy4
  have hD := jrD hD jy4
  have hf := jn_s (k := 87) (x := .ref q68) hf
  refine lv_aload_n hx hb dX13_init_595 rfl (lv_at hl 0 rfl) ?_
  refine lv_bipush (v := 60) hx hb dX13_init_596 (by decide) ?_
  refine va_newa (atype := .int) (N' := 60) (a0 := (60, .inl (fun _ => 0))) (ty := .int) hx hb (hts (.arrayClass .int) (jm m_2)) rfl hK hP hD hS hA (fun _ => rfl) (by decide) (by decide) (by decide) (Nat.le_of_ble_eq_true rfl) (Nat.le_of_ble_eq_true rfl) dX13_init_598 (fun q69 y69 H hK hP hD hS => ?_)
  refine W.widen (k := 69) (n := 26452) (Nat.le_of_ble_eq_true rfl) (Nat.le_of_ble_eq_true rfl) ?_
  have hP := jrP hP jy3
  have hD := jrD hD jy3
  refine va_putF (D := (dC, dI)) (ci := 13) (v := .ref q69) (ty := .array .int) (C := RX13) (T := TX13) (N := 104) hx hb hts (jh hin_RX13) tyX13 tyX13_ok nmX13 hown hK hP hD hS 0 jg_c0 rfl 88 (by decide) (hts (.fieldLink RX13 216 "BookOfAllModel" "high" "[I") (jm m_71)) (fun _ h9 => h9) rfl hin rfl (by decide +kernel) rfl rfl (jn_lt hf (Nat.le_of_ble_eq_true rfl)) dX13_init_600 (fun H locs hP hD hS => ?_)
  have hP := jrP hP jy4
  have hD := jrD hD jy4
  have hf := jn_s (k := 88) (x := .ref q69) hf
  refine lv_aload_n hx hb dX13_init_603 rfl (lv_at hl 0 rfl) ?_
  refine lv_bipush (v := 60) hx hb dX13_init_604 (by decide) ?_
  refine va_newa (atype := .int) (N' := 60) (a0 := (60, .inl (fun _ => 0))) (ty := .int) hx hb (hts (.arrayClass .int) (jm m_2)) rfl hK hP hD hS hA (fun _ => rfl) (by decide) (by decide) (by decide) (Nat.le_of_ble_eq_true rfl) (Nat.le_of_ble_eq_true rfl) dX13_init_606 (fun q70 y70 H hK hP hD hS => ?_)
  refine W.widen (k := 70) (n := 26512) (Nat.le_of_ble_eq_true rfl) (Nat.le_of_ble_eq_true rfl) ?_
  have hP := jrP hP jy3
  have hD := jrD hD jy3
  refine va_putF (D := (dC, dI)) (ci := 13) (v := .ref q70) (ty := .array .int) (C := RX13) (T := TX13) (N := 104) hx hb hts (jh hin_RX13) tyX13 tyX13_ok nmX13 hown hK hP hD hS 0 jg_c0 rfl 89 (by decide) (hts (.fieldLink RX13 219 "BookOfAllModel" "longs" "[I") (jm m_72)) (fun _ h9 => h9) rfl hin rfl (by decide +kernel) rfl rfl (jn_lt hf (Nat.le_of_ble_eq_true rfl)) dX13_init_608 (fun H locs hP hD hS => ?_)
  have hP := jrP hP jy4
  have hD := jrD hD jy4
  have hf := jn_s (k := 89) (x := .ref q70) hf
  refine lv_aload_n hx hb dX13_init_611 rfl (lv_at hl 0 rfl) ?_
  refine lv_bipush (v := 7) hx hb dX13_init_612 (by decide) ?_
  refine va_newa (atype := .int) (N' := 7) (a0 := (7, .inl (fun _ => 0))) (ty := .int) hx hb (hts (.arrayClass .int) (jm m_2)) rfl hK hP hD hS hA (fun _ => rfl) (by decide) (by decide) (by decide) (Nat.le_of_ble_eq_true rfl) (Nat.le_of_ble_eq_true rfl) dX13_init_614 (fun q71 y71 H hK hP hD hS => ?_)
  refine W.widen (k := 71) (n := 26519) (Nat.le_of_ble_eq_true rfl) (Nat.le_of_ble_eq_true rfl) ?_
  have hP := jrP hP jy3
  have hD := jrD hD jy3
  refine va_putF (D := (dC, dI)) (ci := 13) (v := .ref q71) (ty := .array .int) (C := RX13) (T := TX13) (N := 104) hx hb hts (jh hin_RX13) tyX13 tyX13_ok nmX13 hown hK hP hD hS 0 jg_c0 rfl 91 (by decide) (hts (.fieldLink RX13 222 "BookOfAllModel" "few" "[I") (jm m_73)) (fun _ h9 => h9) rfl hin rfl (by decide +kernel) rfl rfl (jn_lt hf (Nat.le_of_ble_eq_true rfl)) dX13_init_616 (fun H locs hP hD hS => ?_)
  have hP := jrP hP jy4
  have hD := jrD hD jy4
  have hf := jn_s (k := 91) (x := .ref q71) hf
  refine lv_aload_n hx hb dX13_init_619 rfl (lv_at hl 0 rfl) ?_
  refine lv_bipush (v := 6) hx hb dX13_init_620 (by decide) ?_
  refine va_newa (atype := .int) (N' := 6) (a0 := (6, .inl (fun _ => 0))) (ty := .int) hx hb (hts (.arrayClass .int) (jm m_2)) rfl hK hP hD hS hA (fun _ => rfl) (by decide) (by decide) (by decide) (Nat.le_of_ble_eq_true rfl) (Nat.le_of_ble_eq_true rfl) dX13_init_622 (fun q72 y72 H hK hP hD hS => ?_)
  refine W.widen (k := 72) (n := 26525) (Nat.le_of_ble_eq_true rfl) (Nat.le_of_ble_eq_true rfl) ?_
  have hP := jrP hP jy3
  have hD := jrD hD jy3
  refine va_putF (D := (dC, dI)) (ci := 13) (v := .ref q72) (ty := .array .int) (C := RX13) (T := TX13) (N := 104) hx hb hts (jh hin_RX13) tyX13 tyX13_ok nmX13 hown hK hP hD hS 0 jg_c0 rfl 92 (by decide) (hts (.fieldLink RX13 225 "BookOfAllModel" "fewHands" "[I") (jm m_74)) (fun _ h9 => h9) rfl hin rfl (by decide +kernel) rfl rfl (jn_lt hf (Nat.le_of_ble_eq_true rfl)) dX13_init_624 (fun H locs hP hD hS => ?_)
  have hP := jrP hP jy4
  have hD := jrD hD jy4
  have hf := jn_s (k := 92) (x := .ref q72) hf
  refine lv_aload_n hx hb dX13_init_627 rfl (lv_at hl 0 rfl) ?_
  refine lv_bipush (v := 42) hx hb dX13_init_628 (by decide) ?_
  refine va_newa (atype := .boolean) (N' := 42) (a0 := (42, .inl (fun _ => 0))) (ty := .boolean) hx hb (hts (.arrayClass .boolean) (jm m_21)) rfl hK hP hD hS hA (fun _ => rfl) (by decide) (by decide) (by decide) (Nat.le_of_ble_eq_true rfl) (Nat.le_of_ble_eq_true rfl) dX13_init_630 (fun q73 y73 H hK hP hD hS => ?_)
  refine W.widen (k := 73) (n := 26567) (Nat.le_of_ble_eq_true rfl) (Nat.le_of_ble_eq_true rfl) ?_
  have hP := jrP hP jy3
  have hD := jrD hD jy3
  refine va_putF (D := (dC, dI)) (ci := 13) (v := .ref q73) (ty := .array .boolean) (C := RX13) (T := TX13) (N := 104) hx hb hts (jh hin_RX13) tyX13 tyX13_ok nmX13 hown hK hP hD hS 0 jg_c0 rfl 93 (by decide) (hts (.fieldLink RX13 228 "BookOfAllModel" "can" "[Z") (jm m_75)) (fun _ h9 => h9) rfl hin rfl (by decide +kernel) rfl rfl (jn_lt hf (Nat.le_of_ble_eq_true rfl)) dX13_init_632 (fun H locs hP hD hS => ?_)
  have hP := jrP hP jy4
  have hD := jrD hD jy4
  have hf := jn_s (k := 93) (x := .ref q73) hf
  refine lv_aload_n hx hb dX13_init_635 rfl (lv_at hl 0 rfl) ?_
  refine lv_bipush (v := 6) hx hb dX13_init_636 (by decide) ?_
  refine va_newa (atype := .int) (N' := 6) (a0 := (6, .inl (fun _ => 0))) (ty := .int) hx hb (hts (.arrayClass .int) (jm m_2)) rfl hK hP hD hS hA (fun _ => rfl) (by decide) (by decide) (by decide) (Nat.le_of_ble_eq_true rfl) (Nat.le_of_ble_eq_true rfl) dX13_init_638 (fun q74 y74 H hK hP hD hS => ?_)
  refine W.widen (k := 74) (n := 26573) (Nat.le_of_ble_eq_true rfl) (Nat.le_of_ble_eq_true rfl) ?_
  have hP := jrP hP jy3
  have hD := jrD hD jy3
  refine va_putF (D := (dC, dI)) (ci := 13) (v := .ref q74) (ty := .array .int) (C := RX13) (T := TX13) (N := 104) hx hb hts (jh hin_RX13) tyX13 tyX13_ok nmX13 hown hK hP hD hS 0 jg_c0 rfl 94 (by decide) (hts (.fieldLink RX13 231 "BookOfAllModel" "gets" "[I") (jm m_76)) (fun _ h9 => h9) rfl hin rfl (by decide +kernel) rfl rfl (jn_lt hf (Nat.le_of_ble_eq_true rfl)) dX13_init_640 (fun H locs hP hD hS => ?_)
  have hP := jrP hP jy4
  have hD := jrD hD jy4
  have hf := jn_s (k := 94) (x := .ref q74) hf
  refine lv_aload_n hx hb dX13_init_643 rfl (lv_at hl 0 rfl) ?_
  refine lv_bipush (v := 7) hx hb dX13_init_644 (by decide) ?_
  refine va_newa (atype := .int) (N' := 7) (a0 := (7, .inl (fun _ => 0))) (ty := .int) hx hb (hts (.arrayClass .int) (jm m_2)) rfl hK hP hD hS hA (fun _ => rfl) (by decide) (by decide) (by decide) (Nat.le_of_ble_eq_true rfl) (Nat.le_of_ble_eq_true rfl) dX13_init_646 (fun q75 y75 H hK hP hD hS => ?_)
  refine W.widen (k := 75) (n := 26580) (Nat.le_of_ble_eq_true rfl) (Nat.le_of_ble_eq_true rfl) ?_
  have hP := jrP hP jy3
  have hD := jrD hD jy3
  refine va_putF (D := (dC, dI)) (ci := 13) (v := .ref q75) (ty := .array .int) (C := RX13) (T := TX13) (N := 104) hx hb hts (jh hin_RX13) tyX13 tyX13_ok nmX13 hown hK hP hD hS 0 jg_c0 rfl 95 (by decide) (hts (.fieldLink RX13 234 "BookOfAllModel" "lacks" "[I") (jm m_77)) (fun _ h9 => h9) rfl hin rfl (by decide +kernel) rfl rfl (jn_lt hf (Nat.le_of_ble_eq_true rfl)) dX13_init_648 (fun H locs hP hD hS => ?_)
  have hP := jrP hP jy4
  have hD := jrD hD jy4
  have hf := jn_s (k := 95) (x := .ref q75) hf
  refine lv_aload_n hx hb dX13_init_651 rfl (lv_at hl 0 rfl) ?_
  refine lv_sipush (v := 300) hx hb dX13_init_652 (by decide) ?_
  refine va_newa (atype := .int) (N' := 300) (a0 := (300, .inl (fun _ => 0))) (ty := .int) hx hb (hts (.arrayClass .int) (jm m_2)) rfl hK hP hD hS hA (fun _ => rfl) (by decide) (by decide) (by decide) (Nat.le_of_ble_eq_true rfl) (Nat.le_of_ble_eq_true rfl) dX13_init_655 (fun q76 y76 H hK hP hD hS => ?_)
  refine W.widen (k := 76) (n := 26880) (Nat.le_of_ble_eq_true rfl) (Nat.le_of_ble_eq_true rfl) ?_
  have hP := jrP hP jy3
  have hD := jrD hD jy3
  refine va_putF (D := (dC, dI)) (ci := 13) (v := .ref q76) (ty := .array .int) (C := RX13) (T := TX13) (N := 104) hx hb hts (jh hin_RX13) tyX13 tyX13_ok nmX13 hown hK hP hD hS 0 jg_c0 rfl 101 (by decide) (hts (.fieldLink RX13 237 "BookOfAllModel" "laidLine" "[I") (jm m_78)) (fun _ h9 => h9) rfl hin rfl (by decide +kernel) rfl rfl (jn_lt hf (Nat.le_of_ble_eq_true rfl)) dX13_init_657 (fun H locs hP hD hS => ?_)
  have hP := jrP hP jy4
  have hD := jrD hD jy4
  have hf := jn_s (k := 101) (x := .ref q76) hf
  refine lv_aload_n hx hb dX13_init_660 rfl (lv_at hl 0 rfl) ?_
  refine lv_sipush (v := 9331) hx hb dX13_init_661 (by decide) ?_
  refine va_newa (atype := .int) (N' := 9331) (a0 := (9331, .inl (fun _ => 0))) (ty := .int) hx hb (hts (.arrayClass .int) (jm m_2)) rfl hK hP hD hS hA (fun _ => rfl) (by decide) (by decide) (by decide) (Nat.le_of_ble_eq_true rfl) (Nat.le_of_ble_eq_true rfl) dX13_init_664 (fun q77 y77 H hK hP hD hS => ?_)
  refine W.widen (k := 77) (n := 36211) (Nat.le_of_ble_eq_true rfl) (Nat.le_of_ble_eq_true rfl) ?_
  have hP := jrP hP jy3
  have hD := jrD hD jy3
  refine va_putF (D := (dC, dI)) (ci := 13) (v := .ref q77) (ty := .array .int) (C := RX13) (T := TX13) (N := 104) hx hb hts (jh hin_RX13) tyX13 tyX13_ok nmX13 hown hK hP hD hS 0 jg_c0 rfl 102 (by decide) (hts (.fieldLink RX13 240 "BookOfAllModel" "changes" "[I") (jm m_79)) (fun _ h9 => h9) rfl hin rfl (by decide +kernel) rfl rfl (jn_lt hf (Nat.le_of_ble_eq_true rfl)) dX13_init_666 (fun H locs hP hD hS => ?_)
  have hP := jrP hP jy4
  have hD := jrD hD jy4
  have hf := jn_s (k := 102) (x := .ref q77) hf
  refine lv_aload_n hx hb dX13_init_669 rfl (lv_at hl 0 rfl) ?_
  refine lv_sipush (v := 9331) hx hb dX13_init_670 (by decide) ?_
  refine va_newa (atype := .int) (N' := 9331) (a0 := (9331, .inl (fun _ => 0))) (ty := .int) hx hb (hts (.arrayClass .int) (jm m_2)) rfl hK hP hD hS hA (fun _ => rfl) (by decide) (by decide) (by decide) (Nat.le_of_ble_eq_true rfl) (Nat.le_of_ble_eq_true rfl) dX13_init_673 (fun q78 y78 H hK hP hD hS => ?_)
  refine W.widen (k := 78) (n := 45542) (Nat.le_of_ble_eq_true rfl) (Nat.le_of_ble_eq_true rfl) ?_
  have hP := jrP hP jy3
  have hD := jrD hD jy3
  refine va_putF (D := (dC, dI)) (ci := 13) (v := .ref q78) (ty := .array .int) (C := RX13) (T := TX13) (N := 104) hx hb hts (jh hin_RX13) tyX13 tyX13_ok nmX13 hown hK hP hD hS 0 jg_c0 rfl 103 (by decide) (hts (.fieldLink RX13 243 "BookOfAllModel" "shared" "[I") (jm m_80)) (fun _ h9 => h9) rfl hin rfl (by decide +kernel) rfl rfl (jn_lt hf (Nat.le_of_ble_eq_true rfl)) dX13_init_675 (fun H locs hP hD hS => ?_)
  have hP := jrP hP jy4
  have hD := jrD hD jy4
  have hf := jn_s (k := 103) (x := .ref q78) hf
  refine W.widen (k := 78) (n := 45542) (Nat.le_of_ble_eq_true rfl) (Nat.le_of_ble_eq_true rfl) ?_
  exact W.vret hx hb hr (fun t ht hW => ⟨⟨(fun k => [h0, q1, q2, q3, q4, q5, q6, q7, q8, q9, q10, q11, q12, q13, q14, q15, q16, q17, q18, q19, q20, q21, q22, q23, q24, q25, q26, q27, q28, q29, q30, q31, q32, q33, q34, q35, q36, q37, q38, q39, q40, q41, q42, q43, q44, q45, q46, q47, q48, q49, q50, q51, q52, q53, q54, q55, q56, q57, q58, q59, q60, q61, q62, q63, q64, q65, q66, q67, q68, q69, q70, q71, q72, q73, q74, q75, q76, q77, q78].getD k 0, fun k => [dC 0, y1, y2, y3, y4, y5, y6, y7, y8, y9, y10, y11, y12, y13, y14, y15, y16, y17, y18, y19, y20, y21, y22, y23, y24, y25, y26, y27, y28, y29, y30, y31, y32, y33, y34, y35, y36, y37, y38, y39, y40, y41, y42, y43, y44, y45, y46, y47, y48, y49, y50, y51, y52, y53, y54, y55, y56, y57, y58, y59, y60, y61, y62, y63, y64, y65, y66, y67, y68, y69, y70, y71, y72, y73, y74, y75, y76, y77, y78].getD k (dC 0)), rfl, rfl, by rw [ht]; exact hP, va_K.moved hW.alike hK, hD⟩, hS.F ht⟩) hS.2.2 dX13_init_678
