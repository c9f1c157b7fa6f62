set_option maxHeartbeats 500000 in
set_option maxRecDepth 100000 in
theorem iX7_init_1 (l : Launch) (dC : Nat → ClassId) (dI : Nat → Nat → Nat) (sz h0 : Nat) : Met l yX7_init (jk yX7_init cX7_init 1 none) ({ frames := 1, cells := 9, slots := 3636, locals := 40 }) (va_Pc [.ref h0] (jw_P (dC, dI) [(h0, .inr (7, [.null, .int 0, .null, .null, .null, .null, .int 0, .int 0, .int 0, .null, .int 0, .null, .null, .null, .int 0]))] [] sz)) (va_Qv (fun (_ : ((Nat → Nat) × (Nat → ClassId))) => True) (fun u t => va_P (dC, dI) vwCl [(h0, .inr (7, [.ref (u.1 1), .int 0, .ref (u.1 2), .ref (u.1 3), .ref (u.1 4), .ref (u.1 5), .int 0, .int 0, .int 0, .ref (u.1 6), .int 0, .ref (u.1 7), .ref (u.1 8), .ref (u.1 9), .int 0])), ((u.1 1), .inl ((u.2 1), 600, .inl (fun _ => 0))), ((u.1 2), .inl ((u.2 2), 601, .inl (fun _ => 0))), ((u.1 3), .inl ((u.2 3), 601, .inl (fun _ => 0))), ((u.1 4), .inl ((u.2 4), 601, .inl (fun _ => 0))), ((u.1 5), .inl ((u.2 5), 601, .inl (fun _ => 0))), ((u.1 6), .inl ((u.2 6), 600, .inl (fun _ => 0))), ((u.1 7), .inl ((u.2 7), 14, .inl (fun _ => 0))), ((u.1 8), .inl ((u.2 8), 14, .inl (fun _ => 0))), ((u.1 9), .inl ((u.2 9), 4, .inr (.inl (fun _ => 0))))] t.heap ∧ va_K (dC, dI) vwCl [((u.2 1), .byte), ((u.2 2), .int), ((u.2 3), .int), ((u.2 4), .int), ((u.2 5), .int), ((u.2 6), .int), ((u.2 7), .int), ((u.2 8), .int), ((u.2 9), .long)] t ∧ va_D (va_A [(h0, .inr (7, [.null, .int 0, .null, .null, .null, .null, .int 0, .int 0, .int 0, .null, .int 0, .null, .null, .null, .int 0]))] sz) [(h0, .inr (7, [.ref (u.1 1), .int 0, .ref (u.1 2), .ref (u.1 3), .ref (u.1 4), .ref (u.1 5), .int 0, .int 0, .int 0, .ref (u.1 6), .int 0, .ref (u.1 7), .ref (u.1 8), .ref (u.1 9), .int 0])), ((u.1 1), .inl ((u.2 1), 600, .inl (fun _ => 0))), ((u.1 2), .inl ((u.2 2), 601, .inl (fun _ => 0))), ((u.1 3), .inl ((u.2 3), 601, .inl (fun _ => 0))), ((u.1 4), .inl ((u.2 4), 601, .inl (fun _ => 0))), ((u.1 5), .inl ((u.2 5), 601, .inl (fun _ => 0))), ((u.1 6), .inl ((u.2 6), 600, .inl (fun _ => 0))), ((u.1 7), .inl ((u.2 7), 14, .inl (fun _ => 0))), ((u.1 8), .inl ((u.2 8), 14, .inl (fun _ => 0))), ((u.1 9), .inl ((u.2 9), 4, .inr (.inl (fun _ => 0))))]) (va_A [(h0, .inr (7, [.null, .int 0, .null, .null, .null, .null, .int 0, .int 0, .int 0, .null, .int 0, .null, .null, .null, .int 0]))] sz)) 9 3636 (va_A [(h0, .inr (7, [.null, .int 0, .null, .null, .null, .null, .int 0, .int 0, .int 0, .null, .int 0, .null, .null, .null, .int 0]))] sz) := by
  refine Met.ofW (cc := cX7_init) (maxL := 1) (ret := none) (by decide) rfl ?_
  intro p e s m args below meth c s₁ B hml hv
  obtain ⟨rfl, hsz, hP, hK, hD0⟩ := hv
  have hx := B.exec
  have hb := B.bytes
  have hr := B.returns
  have hts := atoms_spec (ws := (jk yX7_init cX7_init 1 none)) B.pre
  have hown : s.vm.findClass RX7 = some m.cls := findClass_of_methodNamed B.named
  have hlocks := B.notSynchronized
  have hin : meth.name = "<init>" := (name_of_methodNamed B.named B.method).1
  subst hsz
  have hD := hD0.self (sz := s.heap.size)
  generalize hAe : (va_A [(h0, .inr (7, [.null, .int 0, .null, .null, .null, .null, .int 0, .int 0, .int 0, .null, .int 0, .null, .null, .null, .int 0]))] s.heap.size) = A at hD ⊢
  have hA : ∀ q : Nat, s.heap.size ≤ q → A q := fun q h => by rw [← hAe]; exact Or.inr h
  have hS : va_S A s.heap s.heap [] := va_S.rf
  have hP : va_P (dC, dI) vwCl [(h0, .inr (7, [.null, .int 0, .null, .null, .null, .null, .int 0, .int 0, .int 0, .null, .int 0, .null, .null, .null, .int 0]))] s.heap := hP
  have hl := lv_entry ([.ref h0]) (n := 1) (Nat.le_of_ble_eq_true rfl)
  rw [lg_entry_eq]
  generalize (lg_sl ([.ref h0]) ++ List.replicate (1 - (lg_sl ([.ref h0])).length) Slot.unset).toArray = ls at hl ⊢
  have hl : lv_has ls 1 [(0, .ref h0)] := hl
  refine lv_aload_n hx hb dX7_init_0 rfl (lv_at hl 0 rfl) ?_
  refine W.objInit hx hb hown (hts (.methodLink RX7 3 objectInit) (jm m_598)) (hts (.instanceMethod objectInit) (jm m_163)) (hts (.code objectInit ⟨#[0xb1]⟩ 1 none) (jm m_164)) rfl (by rw [hml]; exact hl.1) rfl dX7_init_1 (Nat.le_of_ble_eq_true rfl) (Nat.le_of_ble_eq_true rfl) ?_
  refine W.eq (g2 := F0 m 4 ls []) rfl ?_
  refine lv_aload_n hx hb dX7_init_4 rfl (lv_at hl 0 rfl) ?_
  refine lv_sipush (v := 600) hx hb dX7_init_5 (by decide) ?_
  refine va_newa (atype := .byte) (N' := 600) (a0 := (600, .inl (fun _ => 0))) (ty := .byte) hx hb (hts (.arrayClass .byte) (jm m_0)) rfl hK hP hD hS hA (fun _ => rfl) (by decide) (by decide) (by decide) (Nat.le_of_ble_eq_true rfl) (Nat.le_of_ble_eq_true rfl) dX7_init_8 (fun q1 y1 H hK hP hD hS => ?_)
  refine W.widen (k := 1) (n := 600) (Nat.le_of_ble_eq_true rfl) (Nat.le_of_ble_eq_true rfl) ?_
  refine va_putF (D := (dC, dI)) (ci := 7) (v := .ref q1) (ty := .array .byte) (C := RX7) (T := TX7) (N := 15) hx hb hts (jh hin_RX7) tyX7 tyX7_ok nmX7 hown hK hP hD hS 0 (jg_l rfl) rfl 0 (by decide) (hts (.fieldLink RX7 11 "BookOfAll$Reader" "bytes" "[B") (jm m_104)) (fun _ h9 => h9) rfl hin rfl (by decide +kernel) rfl rfl (Nat.le_of_ble_eq_true rfl) dX7_init_10 (fun H locs hP hD hS => ?_)
  refine lv_aload_n hx hb dX7_init_13 rfl (lv_at hl 0 rfl) ?_
  refine lv_sipush (v := 601) hx hb dX7_init_14 (by decide) ?_
  refine va_newa (atype := .int) (N' := 601) (a0 := (601, .inl (fun _ => 0))) (ty := .int) hx hb (hts (.arrayClass .int) (jm m_2)) rfl hK hP hD hS hA (fun _ => rfl) (by decide) (by decide) (by decide) (Nat.le_of_ble_eq_true rfl) (Nat.le_of_ble_eq_true rfl) dX7_init_17 (fun q2 y2 H hK hP hD hS => ?_)
  refine W.widen (k := 2) (n := 1201) (Nat.le_of_ble_eq_true rfl) (Nat.le_of_ble_eq_true rfl) ?_
  refine va_putF (D := (dC, dI)) (ci := 7) (v := .ref q2) (ty := .array .int) (C := RX7) (T := TX7) (N := 15) hx hb hts (jh hin_RX7) tyX7 tyX7_ok nmX7 hown hK hP hD hS 0 (jg_l (jg_s (n := 2) (jn_a (n := 1) (m := 1) rfl rfl) (Nat.le_of_ble_eq_true rfl))) rfl 2 (by decide) (hts (.fieldLink RX7 15 "BookOfAll$Reader" "kinds" "[I") (jm m_123)) (fun _ h9 => h9) rfl hin rfl (by decide +kernel) rfl rfl (Nat.le_of_ble_eq_true rfl) dX7_init_19 (fun H locs hP hD hS => ?_)
  refine lv_aload_n hx hb dX7_init_22 rfl (lv_at hl 0 rfl) ?_
  refine lv_sipush (v := 601) hx hb dX7_init_23 (by decide) ?_
  refine va_newa (atype := .int) (N' := 601) (a0 := (601, .inl (fun _ => 0))) (ty := .int) hx hb (hts (.arrayClass .int) (jm m_2)) rfl hK hP hD hS hA (fun _ => rfl) (by decide) (by decide) (by decide) (Nat.le_of_ble_eq_true rfl) (Nat.le_of_ble_eq_true rfl) dX7_init_26 (fun q3 y3 H hK hP hD hS => ?_)
  refine W.widen (k := 3) (n := 1802) (Nat.le_of_ble_eq_true rfl) (Nat.le_of_ble_eq_true rfl) ?_
  refine va_putF (D := (dC, dI)) (ci := 7) (v := .ref q3) (ty := .array .int) (C := RX7) (T := TX7) (N := 15) hx hb hts (jh hin_RX7) tyX7 tyX7_ok nmX7 hown hK hP hD hS 0 (jg_l (jg_s (n := 3) (jn_a (n := 2) (m := 1) (jn_s (jn_a (n := 1) (m := 1) rfl rfl)) rfl) (Nat.le_of_ble_eq_true rfl))) rfl 3 (by decide) (hts (.fieldLink RX7 19 "BookOfAll$Reader" "starts" "[I") (jm m_124)) (fun _ h9 => h9) rfl hin rfl (by decide +kernel) rfl rfl (Nat.le_of_ble_eq_true rfl) dX7_init_28 (fun H locs hP hD hS => ?_)
  refine lv_aload_n hx hb dX7_init_31 rfl (lv_at hl 0 rfl) ?_
  refine lv_sipush (v := 601) hx hb dX7_init_32 (by decide) ?_
  refine va_newa (atype := .int) (N' := 601) (a0 := (601, .inl (fun _ => 0))) (ty := .int) hx hb (hts (.arrayClass .int) (jm m_2)) rfl hK hP hD hS hA (fun _ => rfl) (by decide) (by decide) (by decide) (Nat.le_of_ble_eq_true rfl) (Nat.le_of_ble_eq_true rfl) dX7_init_35 (fun q4 y4 H hK hP hD hS => ?_)
  refine W.widen (k := 4) (n := 2403) (Nat.le_of_ble_eq_true rfl) (Nat.le_of_ble_eq_true rfl) ?_
  refine va_putF (D := (dC, dI)) (ci := 7) (v := .ref q4) (ty := .array .int) (C := RX7) (T := TX7) (N := 15) hx hb hts (jh hin_RX7) tyX7 tyX7_ok nmX7 hown hK hP hD hS 0 (jg_l (jg_s (n := 4) (jn_a (n := 3) (m := 1) (jn_s (jn_a (n := 2) (m := 1) (jn_s (jn_a (n := 1) (m := 1) rfl rfl)) rfl)) rfl) (Nat.le_of_ble_eq_true rfl))) rfl 4 (by decide) (hts (.fieldLink RX7 22 "BookOfAll$Reader" "stops" "[I") (jm m_125)) (fun _ h9 => h9) rfl hin rfl (by decide +kernel) rfl rfl (Nat.le_of_ble_eq_true rfl) dX7_init_37 (fun H locs hP hD hS => ?_)
  refine lv_aload_n hx hb dX7_init_40 rfl (lv_at hl 0 rfl) ?_
  refine lv_sipush (v := 601) hx hb dX7_init_41 (by decide) ?_
  refine va_newa (atype := .int) (N' := 601) (a0 := (601, .inl (fun _ => 0))) (ty := .int) hx hb (hts (.arrayClass .int) (jm m_2)) rfl hK hP hD hS hA (fun _ => rfl) (by decide) (by decide) (by decide) (Nat.le_of_ble_eq_true rfl) (Nat.le_of_ble_eq_true rfl) dX7_init_44 (fun q5 y5 H hK hP hD hS => ?_)
  refine W.widen (k := 5) (n := 3004) (Nat.le_of_ble_eq_true rfl) (Nat.le_of_ble_eq_true rfl) ?_
  refine va_putF (D := (dC, dI)) (ci := 7) (v := .ref q5) (ty := .array .int) (C := RX7) (T := TX7) (N := 15) hx hb hts (jh hin_RX7) tyX7 tyX7_ok nmX7 hown hK hP hD hS 0 (jg_l (jg_s (n := 5) (jn_a (n := 4) (m := 1) (jn_s (jn_a (n := 3) (m := 1) (jn_s (jn_a (n := 2) (m := 1) (jn_s (jn_a (n := 1) (m := 1) rfl rfl)) rfl)) rfl)) rfl) (Nat.le_of_ble_eq_true rfl))) rfl 5 (by decide) (hts (.fieldLink RX7 25 "BookOfAll$Reader" "values" "[I") (jm m_126)) (fun _ h9 => h9) rfl hin rfl (by decide +kernel) rfl rfl (Nat.le_of_ble_eq_true rfl) dX7_init_46 (fun H locs hP hD hS => ?_)
  refine lv_aload_n hx hb dX7_init_49 rfl (lv_at hl 0 rfl) ?_
  refine lv_sipush (v := 600) hx hb dX7_init_50 (by decide) ?_
  refine va_newa (atype := .int) (N' := 600) (a0 := (600, .inl (fun _ => 0))) (ty := .int) hx hb (hts (.arrayClass .int) (jm m_2)) rfl hK hP hD hS hA (fun _ => rfl) (by decide) (by decide) (by decide) (Nat.le_of_ble_eq_true rfl) (Nat.le_of_ble_eq_true rfl) dX7_init_53 (fun q6 y6 H hK hP hD hS => ?_)
  refine W.widen (k := 6) (n := 3604) (Nat.le_of_ble_eq_true rfl) (Nat.le_of_ble_eq_true rfl) ?_
  refine va_putF (D := (dC, dI)) (ci := 7) (v := .ref q6) (ty := .array .int) (C := RX7) (T := TX7) (N := 15) hx hb hts (jh hin_RX7) tyX7 tyX7_ok nmX7 hown hK hP hD hS 0 (jg_l (jg_s (n := 6) (jn_a (n := 5) (m := 1) (jn_s (jn_a (n := 4) (m := 1) (jn_s (jn_a (n := 3) (m := 1) (jn_s (jn_a (n := 2) (m := 1) (jn_s (jn_a (n := 1) (m := 1) rfl rfl)) rfl)) rfl)) rfl)) rfl) (Nat.le_of_ble_eq_true rfl))) rfl 9 (by decide) (hts (.fieldLink RX7 28 "BookOfAll$Reader" "code" "[I") (jm m_167)) (fun _ h9 => h9) rfl hin rfl (by decide +kernel) rfl rfl (Nat.le_of_ble_eq_true rfl) dX7_init_55 (fun H locs hP hD hS => ?_)
  refine lv_aload_n hx hb dX7_init_58 rfl (lv_at hl 0 rfl) ?_
  refine lv_bipush (v := 14) hx hb dX7_init_59 (by decide) ?_
  refine va_newa (atype := .int) (N' := 14) (a0 := (14, .inl (fun _ => 0))) (ty := .int) hx hb (hts (.arrayClass .int) (jm m_2)) rfl hK hP hD hS hA (fun _ => rfl) (by decide) (by decide) (by decide) (Nat.le_of_ble_eq_true rfl) (Nat.le_of_ble_eq_true rfl) dX7_init_61 (fun q7 y7 H hK hP hD hS => ?_)
  refine W.widen (k := 7) (n := 3618) (Nat.le_of_ble_eq_true rfl) (Nat.le_of_ble_eq_true rfl) ?_
  refine va_putF (D := (dC, dI)) (ci := 7) (v := .ref q7) (ty := .array .int) (C := RX7) (T := TX7) (N := 15) hx hb hts (jh hin_RX7) tyX7 tyX7_ok nmX7 hown hK hP hD hS 0 (jg_l (jg_s (n := 7) (jn_a (n := 6) (m := 1) (jn_s (jn_a (n := 5) (m := 1) (jn_s (jn_a (n := 4) (m := 1) (jn_s (jn_a (n := 3) (m := 1) (jn_s (jn_a (n := 2) (m := 1) (jn_s (jn_a (n := 1) (m := 1) rfl rfl)) rfl)) rfl)) rfl)) rfl)) rfl) (Nat.le_of_ble_eq_true rfl))) rfl 11 (by decide) (hts (.fieldLink RX7 33 "BookOfAll$Reader" "from" "[I") (jm m_139)) (fun _ h9 => h9) rfl hin rfl (by decide +kernel) rfl rfl (Nat.le_of_ble_eq_true rfl) dX7_init_63 (fun H locs hP hD hS => ?_)
  refine lv_aload_n hx hb dX7_init_66 rfl (lv_at hl 0 rfl) ?_
  refine lv_bipush (v := 14) hx hb dX7_init_67 (by decide) ?_
  refine va_newa (atype := .int) (N' := 14) (a0 := (14, .inl (fun _ => 0))) (ty := .int) hx hb (hts (.arrayClass .int) (jm m_2)) rfl hK hP hD hS hA (fun _ => rfl) (by decide) (by decide) (by decide) (Nat.le_of_ble_eq_true rfl) (Nat.le_of_ble_eq_true rfl) dX7_init_69 (fun q8 y8 H hK hP hD hS => ?_)
  refine W.widen (k := 8) (n := 3632) (Nat.le_of_ble_eq_true rfl) (Nat.le_of_ble_eq_true rfl) ?_
  refine va_putF (D := (dC, dI)) (ci := 7) (v := .ref q8) (ty := .array .int) (C := RX7) (T := TX7) (N := 15) hx hb hts (jh hin_RX7) tyX7 tyX7_ok nmX7 hown hK hP hD hS 0 (jg_l (jg_s (n := 8) (jn_a (n := 7) (m := 1) (jn_s (jn_a (n := 6) (m := 1) (jn_s (jn_a (n := 5) (m := 1) (jn_s (jn_a (n := 4) (m := 1) (jn_s (jn_a (n := 3) (m := 1) (jn_s (jn_a (n := 2) (m := 1) (jn_s (jn_a (n := 1) (m := 1) rfl rfl)) rfl)) rfl)) rfl)) rfl)) rfl)) rfl) (Nat.le_of_ble_eq_true rfl))) rfl 12 (by decide) (hts (.fieldLink RX7 36 "BookOfAll$Reader" "to" "[I") (jm m_190)) (fun _ h9 => h9) rfl hin rfl (by decide +kernel) rfl rfl (Nat.le_of_ble_eq_true rfl) dX7_init_71 (fun H locs hP hD hS => ?_)
  refine lv_aload_n hx hb dX7_init_74 rfl (lv_at hl 0 rfl) ?_
  refine lv_iconst (v := 4) hx hb dX7_init_75 (by decide) ?_
  refine va_newa (atype := .long) (N' := 4) (a0 := (4, .inr (.inl (fun _ => 0)))) (ty := .long) hx hb (hts (.arrayClass .long) (jm m_193)) rfl hK hP hD hS hA (fun _ => rfl) (by decide) (by decide) (by decide) (Nat.le_of_ble_eq_true rfl) (Nat.le_of_ble_eq_true rfl) dX7_init_76 (fun q9 y9 H hK hP hD hS => ?_)
  refine W.widen (k := 9) (n := 3636) (Nat.le_of_ble_eq_true rfl) (Nat.le_of_ble_eq_true rfl) ?_
  refine va_putF (D := (dC, dI)) (ci := 7) (v := .ref q9) (ty := .array .long) (C := RX7) (T := TX7) (N := 15) hx hb hts (jh hin_RX7) tyX7 tyX7_ok nmX7 hown hK hP hD hS 0 (jg_l (jg_s (n := 9) (jn_a (n := 8) (m := 1) (jn_s (jn_a (n := 7) (m := 1) (jn_s (jn_a (n := 6) (m := 1) (jn_s (jn_a (n := 5) (m := 1) (jn_s (jn_a (n := 4) (m := 1) (jn_s (jn_a (n := 3) (m := 1) (jn_s (jn_a (n := 2) (m := 1) (jn_s (jn_a (n := 1) (m := 1) rfl rfl)) rfl)) rfl)) rfl)) rfl)) rfl)) rfl)) rfl) (Nat.le_of_ble_eq_true rfl))) rfl 13 (by decide) (hts (.fieldLink RX7 39 "BookOfAll$Reader" "words" "[J") (jm m_192)) (fun _ h9 => h9) rfl hin rfl (by decide +kernel) rfl rfl (Nat.le_of_ble_eq_true rfl) dX7_init_78 (fun H locs hP hD hS => ?_)
  refine W.widen (k := 9) (n := 3636) (Nat.le_of_ble_eq_true rfl) (Nat.le_of_ble_eq_true rfl) ?_
  exact W.vret hx hb hr (fun t ht hW => ⟨⟨(fun k => [0, q1, q2, q3, q4, q5, q6, q7, q8, q9].getD k 0, fun k => [dC 0, y1, y2, y3, y4, y5, y6, y7, y8, y9].getD k (dC 0)), rfl, trivial, by rw [ht]; exact hP, va_K.moved hW.alike hK, hD⟩, hS.F ht⟩) hS.2.2 dX7_init_81
set_option maxHeartbeats 500000 in
set_option maxRecDepth 100000 in
theorem iX8_init_1 (l : Launch) (dC : Nat → ClassId) (dI : Nat → Nat → Nat) (sz h0 : Nat) : Met l yX8_init (jk yX8_init cX8_init 1 none) ({ frames := 1, cells := 6, slots := 145, locals := 40 }) (va_Pc [.ref h0] (jw_PE (dC, dI) [(h0, .inr (8, [.null, .int 0, .null, .null, .null, .int 0, .null, .null]))] [] sz)) (va_Qv (fun (_ : ((Nat → Nat) × (Nat → ClassId))) => True) (fun u t => va_P (dC, dI) vwCl [(h0, .inr (8, [.ref (u.1 1), .int 0, .ref (u.1 2), .ref (u.1 3), .ref (u.1 4), .int 0, .ref (u.1 5), .ref (u.1 6)])), ((u.1 1), .inl ((u.2 1), 12, .inr (.inr (.inr (.inr (fun _ => none)))))), ((u.1 2), .inl ((u.2 2), 20, .inl (fun _ => 0))), ((u.1 3), .inl ((u.2 3), 20, .inl (fun _ => 0))), ((u.1 4), .inl ((u.2 4), 20, .inl (fun _ => 0))), ((u.1 5), .inl ((u.2 5), 9, .inl (fun _ => 0))), ((u.1 6), .inl ((u.2 6), 64, .inl (fun _ => 0)))] t.heap ∧ va_K (dC, dI) vwCl [((u.2 1), .object RX9), ((u.2 2), .int), ((u.2 3), .int), ((u.2 4), .int), ((u.2 5), .int), ((u.2 6), .int)] t ∧ va_D (va_A [(h0, .inr (8, [.null, .int 0, .null, .null, .null, .int 0, .null, .null]))] sz) [(h0, .inr (8, [.ref (u.1 1), .int 0, .ref (u.1 2), .ref (u.1 3), .ref (u.1 4), .int 0, .ref (u.1 5), .ref (u.1 6)])), ((u.1 1), .inl ((u.2 1), 12, .inr (.inr (.inr (.inr (fun _ => none)))))), ((u.1 2), .inl ((u.2 2), 20, .inl (fun _ => 0))), ((u.1 3), .inl ((u.2 3), 20, .inl (fun _ => 0))), ((u.1 4), .inl ((u.2 4), 20, .inl (fun _ => 0))), ((u.1 5), .inl ((u.2 5), 9, .inl (fun _ => 0))), ((u.1 6), .inl ((u.2 6), 64, .inl (fun _ => 0)))]) (va_A [(h0, .inr (8, [.null, .int 0, .null, .null, .null, .int 0, .null, .null]))] sz)) 6 145 (va_A [(h0, .inr (8, [.null, .int 0, .null, .null, .null, .int 0, .null, .null]))] sz) := by
  refine Met.ofW (cc := cX8_init) (maxL := 1) (ret := none) (by decide) rfl ?_
  intro p e s m args below meth c s₁ B hml hv
  obtain ⟨rfl, ⟨hsz, hP, hK, hD0⟩, hE⟩ := hv
  have hx := B.exec
  have hb := B.bytes
  have hr := B.returns
  have hts := atoms_spec (ws := (jk yX8_init cX8_init 1 none)) B.pre
  have hown : s.vm.findClass RX8 = some m.cls := findClass_of_methodNamed B.named
  have hlocks := B.notSynchronized
  have hin : meth.name = "<init>" := (name_of_methodNamed B.named B.method).1
  subst hsz
  have hD := hD0.self (sz := s.heap.size)
  generalize hAe : (va_A [(h0, .inr (8, [.null, .int 0, .null, .null, .null, .int 0, .null, .null]))] s.heap.size) = A at hD ⊢
  have hA : ∀ q : Nat, s.heap.size ≤ q → A q := fun q h => by rw [← hAe]; exact Or.inr h
  have hS : va_S A s.heap s.heap [] := va_S.rf
  have hP : va_P (dC, dI) vwCl [(h0, .inr (8, [.null, .int 0, .null, .null, .null, .int 0, .null, .null]))] s.heap := hP
  have hl := lv_entry ([.ref h0]) (n := 1) (Nat.le_of_ble_eq_true rfl)
  rw [lg_entry_eq]
  generalize (lg_sl ([.ref h0]) ++ List.replicate (1 - (lg_sl ([.ref h0])).length) Slot.unset).toArray = ls at hl ⊢
  have hl : lv_has ls 1 [(0, .ref h0)] := hl
  refine lv_aload_n hx hb dX8_init_0 rfl (lv_at hl 0 rfl) ?_
  refine W.objInit hx hb hown (hts (.methodLink RX8 3 objectInit) (jm m_603)) (hts (.instanceMethod objectInit) (jm m_163)) (hts (.code objectInit ⟨#[0xb1]⟩ 1 none) (jm m_164)) rfl (by rw [hml]; exact hl.1) rfl dX8_init_1 (Nat.le_of_ble_eq_true rfl) (Nat.le_of_ble_eq_true rfl) ?_
  refine W.eq (g2 := F0 m 4 ls []) rfl ?_
  refine lv_aload_n hx hb dX8_init_4 rfl (lv_at hl 0 rfl) ?_
  refine lv_bipush (v := 12) hx hb dX8_init_5 (by decide) ?_
  refine va_newq (N' := 12) hx hb hown (hts (.classLink RX8 11 RX9) (jm m_604)) (hE.1 RX9 (by decide +kernel)) hK hP hD hS hA (by decide) (by decide) (by decide) (Nat.le_of_ble_eq_true rfl) (Nat.le_of_ble_eq_true rfl) dX8_init_7 (fun q1 y1 H hK hP hD hS => ?_)
  refine W.widen (k := 1) (n := 12) (Nat.le_of_ble_eq_true rfl) (Nat.le_of_ble_eq_true rfl) ?_
  refine va_putF (D := (dC, dI)) (ci := 8) (v := .ref q1) (ty := .array (.object "BookOfAll$Sheet")) (C := RX8) (T := TX8) (N := 8) hx hb hts (jh hin_RX8) tyX8 tyX8_ok nmX8 hown hK hP hD hS 0 (jg_l rfl) rfl 0 (by decide) (hts (.fieldLink RX8 13 "BookOfAll$Rules" "sheets" "[LBookOfAll$Sheet;") (jm m_202)) (fun _ h9 => h9) rfl hin rfl (by decide +kernel) rfl rfl (Nat.le_of_ble_eq_true rfl) dX8_init_10 (fun H locs hP hD hS => ?_)
  refine lv_aload_n hx hb dX8_init_13 rfl (lv_at hl 0 rfl) ?_
  refine lv_bipush (v := 20) hx hb dX8_init_14 (by decide) ?_
  refine va_newa (atype := .int) (N' := 20) (a0 := (20, .inl (fun _ => 0))) (ty := .int) hx hb (hts (.arrayClass .int) (jm m_2)) rfl hK hP hD hS hA (fun _ => rfl) (by decide) (by decide) (by decide) (Nat.le_of_ble_eq_true rfl) (Nat.le_of_ble_eq_true rfl) dX8_init_16 (fun q2 y2 H hK hP hD hS => ?_)
  refine W.widen (k := 2) (n := 32) (Nat.le_of_ble_eq_true rfl) (Nat.le_of_ble_eq_true rfl) ?_
  refine va_putF (D := (dC, dI)) (ci := 8) (v := .ref q2) (ty := .array .int) (C := RX8) (T := TX8) (N := 8) hx hb hts (jh hin_RX8) tyX8 tyX8_ok nmX8 hown hK hP hD hS 0 (jg_l (jg_s (n := 2) (jn_a (n := 1) (m := 1) rfl rfl) (Nat.le_of_ble_eq_true rfl))) rfl 2 (by decide) (hts (.fieldLink RX8 17 "BookOfAll$Rules" "putSheet" "[I") (jm m_605)) (fun _ h9 => h9) rfl hin rfl (by decide +kernel) rfl rfl (Nat.le_of_ble_eq_true rfl) dX8_init_18 (fun H locs hP hD hS => ?_)
  refine lv_aload_n hx hb dX8_init_21 rfl (lv_at hl 0 rfl) ?_
  refine lv_bipush (v := 20) hx hb dX8_init_22 (by decide) ?_
  refine va_newa (atype := .int) (N' := 20) (a0 := (20, .inl (fun _ => 0))) (ty := .int) hx hb (hts (.arrayClass .int) (jm m_2)) rfl hK hP hD hS hA (fun _ => rfl) (by decide) (by decide) (by decide) (Nat.le_of_ble_eq_true rfl) (Nat.le_of_ble_eq_true rfl) dX8_init_24 (fun q3 y3 H hK hP hD hS => ?_)
  refine W.widen (k := 3) (n := 52) (Nat.le_of_ble_eq_true rfl) (Nat.le_of_ble_eq_true rfl) ?_
  refine va_putF (D := (dC, dI)) (ci := 8) (v := .ref q3) (ty := .array .int) (C := RX8) (T := TX8) (N := 8) hx hb hts (jh hin_RX8) tyX8 tyX8_ok nmX8 hown hK hP hD hS 0 (jg_l (jg_s (n := 3) (jn_a (n := 2) (m := 1) (jn_s (jn_a (n := 1) (m := 1) rfl rfl)) rfl) (Nat.le_of_ble_eq_true rfl))) rfl 3 (by decide) (hts (.fieldLink RX8 21 "BookOfAll$Rules" "putVolume" "[I") (jm m_606)) (fun _ h9 => h9) rfl hin rfl (by decide +kernel) rfl rfl (Nat.le_of_ble_eq_true rfl) dX8_init_26 (fun H locs hP hD hS => ?_)
  refine lv_aload_n hx hb dX8_init_29 rfl (lv_at hl 0 rfl) ?_
  refine lv_bipush (v := 20) hx hb dX8_init_30 (by decide) ?_
  refine va_newa (atype := .int) (N' := 20) (a0 := (20, .inl (fun _ => 0))) (ty := .int) hx hb (hts (.arrayClass .int) (jm m_2)) rfl hK hP hD hS hA (fun _ => rfl) (by decide) (by decide) (by decide) (Nat.le_of_ble_eq_true rfl) (Nat.le_of_ble_eq_true rfl) dX8_init_32 (fun q4 y4 H hK hP hD hS => ?_)
  refine W.widen (k := 4) (n := 72) (Nat.le_of_ble_eq_true rfl) (Nat.le_of_ble_eq_true rfl) ?_
  refine va_putF (D := (dC, dI)) (ci := 8) (v := .ref q4) (ty := .array .int) (C := RX8) (T := TX8) (N := 8) hx hb hts (jh hin_RX8) tyX8 tyX8_ok nmX8 hown hK hP hD hS 0 (jg_l (jg_s (n := 4) (jn_a (n := 3) (m := 1) (jn_s (jn_a (n := 2) (m := 1) (jn_s (jn_a (n := 1) (m := 1) rfl rfl)) rfl)) rfl) (Nat.le_of_ble_eq_true rfl))) rfl 4 (by decide) (hts (.fieldLink RX8 24 "BookOfAll$Rules" "putDay" "[I") (jm m_607)) (fun _ h9 => h9) rfl hin rfl (by decide +kernel) rfl rfl (Nat.le_of_ble_eq_true rfl) dX8_init_34 (fun H locs hP hD hS => ?_)
  refine lv_aload_n hx hb dX8_init_37 rfl (lv_at hl 0 rfl) ?_
  refine lv_bipush (v := 9) hx hb dX8_init_38 (by decide) ?_
  refine va_newa (atype := .int) (N' := 9) (a0 := (9, .inl (fun _ => 0))) (ty := .int) hx hb (hts (.arrayClass .int) (jm m_2)) rfl hK hP hD hS hA (fun _ => rfl) (by decide) (by decide) (by decide) (Nat.le_of_ble_eq_true rfl) (Nat.le_of_ble_eq_true rfl) dX8_init_40 (fun q5 y5 H hK hP hD hS => ?_)
  refine W.widen (k := 5) (n := 81) (Nat.le_of_ble_eq_true rfl) (Nat.le_of_ble_eq_true rfl) ?_
  refine va_putF (D := (dC, dI)) (ci := 8) (v := .ref q5) (ty := .array .int) (C := RX8) (T := TX8) (N := 8) hx hb hts (jh hin_RX8) tyX8 tyX8_ok nmX8 hown hK hP hD hS 0 (jg_l (jg_s (n := 5) (jn_a (n := 4) (m := 1) (jn_s (jn_a (n := 3) (m := 1) (jn_s (jn_a (n := 2) (m := 1) (jn_s (jn_a (n := 1) (m := 1) rfl rfl)) rfl)) rfl)) rfl) (Nat.le_of_ble_eq_true rfl))) rfl 6 (by decide) (hts (.fieldLink RX8 27 "BookOfAll$Rules" "names" "[I") (jm m_608)) (fun _ h9 => h9) rfl hin rfl (by decide +kernel) rfl rfl (Nat.le_of_ble_eq_true rfl) dX8_init_42 (fun H locs hP hD hS => ?_)
  refine lv_aload_n hx hb dX8_init_45 rfl (lv_at hl 0 rfl) ?_
  refine lv_bipush (v := 64) hx hb dX8_init_46 (by decide) ?_
  refine va_newa (atype := .int) (N' := 64) (a0 := (64, .inl (fun _ => 0))) (ty := .int) hx hb (hts (.arrayClass .int) (jm m_2)) rfl hK hP hD hS hA (fun _ => rfl) (by decide) (by decide) (by decide) (Nat.le_of_ble_eq_true rfl) (Nat.le_of_ble_eq_true rfl) dX8_init_48 (fun q6 y6 H hK hP hD hS => ?_)
  refine W.widen (k := 6) (n := 145) (Nat.le_of_ble_eq_true rfl) (Nat.le_of_ble_eq_true rfl) ?_
  refine va_putF (D := (dC, dI)) (ci := 8) (v := .ref q6) (ty := .array .int) (C := RX8) (T := TX8) (N := 8) hx hb hts (jh hin_RX8) tyX8 tyX8_ok nmX8 hown hK hP hD hS 0 (jg_l (jg_s (n := 6) (jn_a (n := 5) (m := 1) (jn_s (jn_a (n := 4) (m := 1) (jn_s (jn_a (n := 3) (m := 1) (jn_s (jn_a (n := 2) (m := 1) (jn_s (jn_a (n := 1) (m := 1) rfl rfl)) rfl)) rfl)) rfl)) rfl) (Nat.le_of_ble_eq_true rfl))) rfl 7 (by decide) (hts (.fieldLink RX8 30 "BookOfAll$Rules" "stack" "[I") (jm m_609)) (fun _ h9 => h9) rfl hin rfl (by decide +kernel) rfl rfl (Nat.le_of_ble_eq_true rfl) dX8_init_50 (fun H locs hP hD hS => ?_)
  refine W.widen (k := 6) (n := 145) (Nat.le_of_ble_eq_true rfl) (Nat.le_of_ble_eq_true rfl) ?_
  exact W.vret hx hb hr (fun t ht hW => ⟨⟨(fun k => [0, q1, q2, q3, q4, q5, q6].getD k 0, fun k => [dC 0, y1, y2, y3, y4, y5, y6].getD k (dC 0)), rfl, trivial, by rw [ht]; exact hP, va_K.moved hW.alike hK, hD⟩, hS.F ht⟩) hS.2.2 dX8_init_53
set_option maxHeartbeats 500000 in
set_option maxRecDepth 100000 in
theorem iX6_init_1 (l : Launch) (dC : Nat → ClassId) (dI : Nat → Nat → Nat) (sz h0 : Nat) (g0 : Nat) : Met l yX6_init (jk yX6_init cX6_init 2 none) ({ frames := 1, cells := 0, slots := 0, locals := 40 }) (va_Pc [.ref h0, .ref g0] (jw_P (dC, dI) [(h0, .inr (6, [.null, .int 0, .int 0, .int 0, .int 0, .int 0]))] [] sz)) (va_Qv (fun (_ : ((Nat → Nat) × (Nat → ClassId))) => True) (fun u t => va_P (dC, dI) vwCl [(h0, .inr (6, [.ref g0, .int 0, .int 0, .int 0, .int 0, .int 0]))] t.heap ∧ va_K (dC, dI) vwCl [] t ∧ va_D (va_A [(h0, .inr (6, [.null, .int 0, .int 0, .int 0, .int 0, .int 0]))] sz) [(h0, .inr (6, [.ref g0, .int 0, .int 0, .int 0, .int 0, .int 0]))]) (va_A [(h0, .inr (6, [.null, .int 0, .int 0, .int 0, .int 0, .int 0]))] sz)) 0 0 (va_A [(h0, .inr (6, [.null, .int 0, .int 0, .int 0, .int 0, .int 0]))] sz) := by
  refine Met.ofW (cc := cX6_init) (maxL := 2) (ret := none) (by decide) rfl ?_
  intro p e s m args below meth c s₁ B hml hv
  obtain ⟨rfl, hsz, hP, hK, hD0⟩ := hv
  have hx := B.exec
  have hb := B.bytes
  have hr := B.returns
  have hts := atoms_spec (ws := (jk yX6_init cX6_init 2 none)) B.pre
  have hown : s.vm.findClass RX6 = some m.cls := findClass_of_methodNamed B.named
  have hlocks := B.notSynchronized
  have hin : meth.name = "<init>" := (name_of_methodNamed B.named B.method).1
  subst hsz
  have hD := hD0.self (sz := s.heap.size)
  generalize hAe : (va_A [(h0, .inr (6, [.null, .int 0, .int 0, .int 0, .int 0, .int 0]))] s.heap.size) = A at hD ⊢
  have hA : ∀ q : Nat, s.heap.size ≤ q → A q := fun q h => by rw [← hAe]; exact Or.inr h
  have hS : va_S A s.heap s.heap [] := va_S.rf
  have hP : va_P (dC, dI) vwCl [(h0, .inr (6, [.null, .int 0, .int 0, .int 0, .int 0, .int 0]))] s.heap := hP
  have hl := lv_entry ([.ref h0, .ref g0]) (n := 2) (Nat.le_of_ble_eq_true rfl)
  rw [lg_entry_eq]
  generalize (lg_sl ([.ref h0, .ref g0]) ++ List.replicate (2 - (lg_sl ([.ref h0, .ref g0])).length) Slot.unset).toArray = ls at hl ⊢
  have hl : lv_has ls 2 [(0, .ref h0), (1, .ref g0)] := hl
  refine lv_aload_n hx hb dX6_init_0 rfl (lv_at hl 0 rfl) ?_
  refine W.objInit hx hb hown (hts (.methodLink RX6 1 objectInit) (jm m_614)) (hts (.instanceMethod objectInit) (jm m_163)) (hts (.code objectInit ⟨#[0xb1]⟩ 1 none) (jm m_164)) rfl (by rw [hml]; exact hl.1) rfl dX6_init_1 (Nat.le_of_ble_eq_true rfl) (Nat.le_of_ble_eq_true rfl) ?_
  refine W.eq (g2 := F0 m 4 ls []) rfl ?_
  refine lv_aload_n hx hb dX6_init_4 rfl (lv_at hl 0 rfl) ?_
  refine lv_aload_n hx hb dX6_init_5 rfl (lv_at hl 1 rfl) ?_
  refine va_putF (D := (dC, dI)) (ci := 6) (v := .ref g0) (ty := .object "BookOfAll$Rules") (C := RX6) (T := TX6) (N := 6) hx hb hts (jh hin_RX6) tyX6 tyX6_ok nmX6 hown hK hP hD hS 0 rfl rfl 0 (by decide) (hts (.fieldLink RX6 7 "BookOfAll$Order" "rules" "LBookOfAll$Rules;") (jm m_245)) (fun _ h9 => h9) rfl hin rfl (by decide +kernel) rfl rfl (Nat.le_of_ble_eq_true rfl) dX6_init_6 (fun H locs hP hD hS => ?_)
  exact W.vret hx hb hr (fun t ht hW => ⟨⟨(fun k => [0].getD k 0, fun k => [dC 0].getD k (dC 0)), rfl, trivial, by rw [ht]; exact hP, va_K.moved hW.alike hK, hD⟩, hS.F ht⟩) hS.2.2 dX6_init_9
set_option maxHeartbeats 500000 in
set_option maxRecDepth 100000 in
theorem iX11_init_1 (l : Launch) (dC : Nat → ClassId) (dI : Nat → Nat → Nat) (sz h0 : Nat) : Met l yX11_init (jk yX11_init cX11_init 2 none) ({ frames := 1, cells := 2, slots := 0, locals := 40 }) (va_Pc [.ref h0, .int 0] (jw_P (dC, dI) [(h0, .inr (11, [.int 0, .int 0, .null, .null, .int 0, .int 0, .int 0]))] [] sz)) (va_Qv (fun (_ : ((Nat → Nat) × (Nat → ClassId))) => True) (fun u t => va_P (dC, dI) vwCl [(h0, .inr (11, [.int 4, .int (-1), .ref (u.1 1), .ref (u.1 2), .int 0, .int 0, .int 0])), ((u.1 1), .inl ((u.2 1), 0, .inl (fun _ => 0))), ((u.1 2), .inl ((u.2 2), 0, .inl (fun _ => 0)))] t.heap ∧ va_K (dC, dI) vwCl [((u.2 1), .int), ((u.2 2), .int)] t ∧ va_D (va_A [(h0, .inr (11, [.int 0, .int 0, .null, .null, .int 0, .int 0, .int 0]))] sz) [(h0, .inr (11, [.int 4, .int (-1), .ref (u.1 1), .ref (u.1 2), .int 0, .int 0, .int 0])), ((u.1 1), .inl ((u.2 1), 0, .inl (fun _ => 0))), ((u.1 2), .inl ((u.2 2), 0, .inl (fun _ => 0)))]) (va_A [(h0, .inr (11, [.int 0, .int 0, .null, .null, .int 0, .int 0, .int 0]))] sz)) 2 0 (va_A [(h0, .inr (11, [.int 0, .int 0, .null, .null, .int 0, .int 0, .int 0]))] sz) := by
  refine Met.ofW (cc := cX11_init) (maxL := 2) (ret := none) (by decide) rfl ?_
  intro p e s m args below meth c s₁ B hml hv
  obtain ⟨rfl, hsz, hP, hK, hD0⟩ := hv
  have hx := B.exec
  have hb := B.bytes
  have hr := B.returns
  have hts := atoms_spec (ws := (jk yX11_init cX11_init 2 none)) B.pre
  have hown : s.vm.findClass RX11 = some m.cls := findClass_of_methodNamed B.named
  have hlocks := B.notSynchronized
  have hin : meth.name = "<init>" := (name_of_methodNamed B.named B.method).1
  subst hsz
  have hD := hD0.self (sz := s.heap.size)
  generalize hAe : (va_A [(h0, .inr (11, [.int 0, .int 0, .null, .null, .int 0, .int 0, .int 0]))] s.heap.size) = A at hD ⊢
  have hA : ∀ q : Nat, s.heap.size ≤ q → A q := fun q h => by rw [← hAe]; exact Or.inr h
  have hS : va_S A s.heap s.heap [] := va_S.rf
  have hP : va_P (dC, dI) vwCl [(h0, .inr (11, [.int 0, .int 0, .null, .null, .int 0, .int 0, .int 0]))] s.heap := hP
  have hl := lv_entry ([.ref h0, .int 0]) (n := 2) (Nat.le_of_ble_eq_true rfl)
  rw [lg_entry_eq]
  generalize (lg_sl ([.ref h0, .int 0]) ++ List.replicate (2 - (lg_sl ([.ref h0, .int 0])).length) Slot.unset).toArray = ls at hl ⊢
  have hl : lv_has ls 2 [(0, .ref h0), (1, .int 0)] := hl
  refine lv_aload_n hx hb dX11_init_0 rfl (lv_at hl 0 rfl) ?_
  refine W.objInit hx hb hown (hts (.methodLink RX11 3 objectInit) (jm m_621)) (hts (.instanceMethod objectInit) (jm m_163)) (hts (.code objectInit ⟨#[0xb1]⟩ 1 none) (jm m_164)) rfl (by rw [hml]; exact hl.1) rfl dX11_init_1 (Nat.le_of_ble_eq_true rfl) (Nat.le_of_ble_eq_true rfl) ?_
  refine W.eq (g2 := F0 m 4 ls []) rfl ?_
  refine lv_aload_n hx hb dX11_init_4 rfl (lv_at hl 0 rfl) ?_
  refine lv_iconst (v := (-1)) hx hb dX11_init_5 (by decide) ?_
  refine va_put (D := (dC, dI)) (ci := 11) (v := .int (-1)) (ty := .int) (C := RX11) (T := TX11) (N := 7) hx hb hts (jh hin_RX11) tyX11 tyX11_ok nmX11 hown hK hP hD hS 0 rfl rfl 1 (by decide) (hts (.fieldLink RX11 9 "BookOfAll$Volume" "setDay" "I") (jm m_622)) (fun _ h9 => h9) rfl (by decide +kernel) rfl rfl (Nat.le_of_ble_eq_true rfl) dX11_init_6 (fun H locs hP hD hS => ?_)
  refine lv_aload_n hx hb dX11_init_9 rfl (lv_at hl 0 rfl) ?_
  refine lv_iconst (v := 0) hx hb dX11_init_10 (by decide) ?_
  refine va_newa (atype := .int) (N' := 0) (a0 := (0, .inl (fun _ => 0))) (ty := .int) hx hb (hts (.arrayClass .int) (jm m_2)) rfl hK hP hD hS hA (fun _ => rfl) (by decide) (by decide) (by decide) (Nat.le_of_ble_eq_true rfl) (Nat.le_of_ble_eq_true rfl) dX11_init_11 (fun q1 y1 H hK hP hD hS => ?_)
  refine W.widen (k := 1) (n := 0) (Nat.le_of_ble_eq_true rfl) (Nat.le_of_ble_eq_true rfl) ?_
  refine va_put (D := (dC, dI)) (ci := 11) (v := .ref q1) (ty := .array .int) (C := RX11) (T := TX11) (N := 7) hx hb hts (jh hin_RX11) tyX11 tyX11_ok nmX11 hown hK hP hD hS 0 (jg_l (jg_s (n := 1) rfl (Nat.le_of_ble_eq_true rfl))) rfl 2 (by decide) (hts (.fieldLink RX11 15 "BookOfAll$Volume" "order" "[I") (jm m_623)) (fun _ h9 => h9) rfl (by decide +kernel) rfl rfl (Nat.le_of_ble_eq_true rfl) dX11_init_13 (fun H locs hP hD hS => ?_)
  refine lv_aload_n hx hb dX11_init_16 rfl (lv_at hl 0 rfl) ?_
  refine lv_iconst (v := 0) hx hb dX11_init_17 (by decide) ?_
  refine va_newa (atype := .int) (N' := 0) (a0 := (0, .inl (fun _ => 0))) (ty := .int) hx hb (hts (.arrayClass .int) (jm m_2)) rfl hK hP hD hS hA (fun _ => rfl) (by decide) (by decide) (by decide) (Nat.le_of_ble_eq_true rfl) (Nat.le_of_ble_eq_true rfl) dX11_init_18 (fun q2 y2 H hK hP hD hS => ?_)
  refine W.widen (k := 2) (n := 0) (Nat.le_of_ble_eq_true rfl) (Nat.le_of_ble_eq_true rfl) ?_
  refine va_put (D := (dC, dI)) (ci := 11) (v := .ref q2) (ty := .array .int) (C := RX11) (T := TX11) (N := 7) hx hb hts (jh hin_RX11) tyX11 tyX11_ok nmX11 hown hK hP hD hS 0 (jg_l (jg_s (n := 2) (jn_a (n := 1) (m := 1) (jn_s rfl) rfl) (Nat.le_of_ble_eq_true rfl))) rfl 3 (by decide) (hts (.fieldLink RX11 19 "BookOfAll$Volume" "laid" "[I") (jm m_624)) (fun _ h9 => h9) rfl (by decide +kernel) rfl rfl (Nat.le_of_ble_eq_true rfl) dX11_init_20 (fun H locs hP hD hS => ?_)
  refine lv_aload_n hx hb dX11_init_23 rfl (lv_at hl 0 rfl) ?_
  refine lv_bipush (v := 25) hx hb dX11_init_24 (by decide) ?_
  refine lv_iconst (v := 5) hx hb dX11_init_26 (by decide) ?_
  refine lv_iload_n hx hb dX11_init_27 rfl (lv_at hl 1 rfl) ?_
  refine lv_imul hx hb dX11_init_28 ?_
  refine jt_i 0 (by decide) ?_
  refine lv_iconst (v := 4) hx hb dX11_init_29 (by decide) ?_
  refine lv_iadd hx hb dX11_init_30 ?_
  refine jt_i 4 (by decide) ?_
  refine va_mmin hx hb (by rw [hml]; exact hl.1.symm) hown (hts (.methodLink RX11 22 Lib.Math.min.name) (jm m_625)) (hts (.static Lib.Math.min.name) (jm m_173)) (hts (.initialized "java/lang/Math") (jm m_170)) (hts (.code Lib.Math.min.name Lib.Math.min.code 2 (some .int)) (jm m_174)) (Nat.le_of_ble_eq_true rfl) (Nat.le_of_ble_eq_true rfl) (Nat.le_of_ble_eq_true rfl) (Nat.le_of_ble_eq_true rfl) dX11_init_31 ?_
  refine jt_i 4 (by decide) ?_
  refine va_put (D := (dC, dI)) (ci := 11) (v := .int 4) (ty := .int) (C := RX11) (T := TX11) (N := 7) hx hb hts (jh hin_RX11) tyX11 tyX11_ok nmX11 hown hK hP hD hS 0 (jg_s (n := 3) (jn_a (n := 2) (m := 1) (jn_s (jn_a (n := 1) (m := 1) (jn_s rfl) rfl)) rfl) (Nat.le_of_ble_eq_true rfl)) rfl 0 (by decide) (hts (.fieldLink RX11 28 "BookOfAll$Volume" "lastLetter" "I") (jm m_626)) (fun _ h9 => h9) rfl (by decide +kernel) rfl rfl (Nat.le_of_ble_eq_true rfl) dX11_init_34 (fun H locs hP hD hS => ?_)
  refine W.widen (k := 2) (n := 0) (Nat.le_of_ble_eq_true rfl) (Nat.le_of_ble_eq_true rfl) ?_
  exact W.vret hx hb hr (fun t ht hW => ⟨⟨(fun k => [0, q1, q2].getD k 0, fun k => [dC 0, y1, y2].getD k (dC 0)), rfl, trivial, by rw [ht]; exact hP, va_K.moved hW.alike hK, hD⟩, hS.F ht⟩) hS.2.2 dX11_init_37
set_option maxHeartbeats 500000 in
set_option maxRecDepth 100000 in
theorem iX11_init_2 (l : Launch) (dC : Nat → ClassId) (dI : Nat → Nat → Nat) (sz h0 : Nat) : Met l yX11_init (jk yX11_init cX11_init 2 none) ({ frames := 1, cells := 2, slots := 0, locals := 40 }) (va_Pc [.ref h0, .int 1] (jw_P (dC, dI) [(h0, .inr (11, [.int 0, .int 0, .null, .null, .int 0, .int 0, .int 0]))] [] sz)) (va_Qv (fun (_ : ((Nat → Nat) × (Nat → ClassId))) => True) (fun u t => va_P (dC, dI) vwCl [(h0, .inr (11, [.int 9, .int (-1), .ref (u.1 1), .ref (u.1 2), .int 0, .int 0, .int 0])), ((u.1 1), .inl ((u.2 1), 0, .inl (fun _ => 0))), ((u.1 2), .inl ((u.2 2), 0, .inl (fun _ => 0)))] t.heap ∧ va_K (dC, dI) vwCl [((u.2 1), .int), ((u.2 2), .int)] t ∧ va_D (va_A [(h0, .inr (11, [.int 0, .int 0, .null, .null, .int 0, .int 0, .int 0]))] sz) [(h0, .inr (11, [.int 9, .int (-1), .ref (u.1 1), .ref (u.1 2), .int 0, .int 0, .int 0])), ((u.1 1), .inl ((u.2 1), 0, .inl (fun _ => 0))), ((u.1 2), .inl ((u.2 2), 0, .inl (fun _ => 0)))]) (va_A [(h0, .inr (11, [.int 0, .int 0, .null, .null, .int 0, .int 0, .int 0]))] sz)) 2 0 (va_A [(h0, .inr (11, [.int 0, .int 0, .null, .null, .int 0, .int 0, .int 0]))] sz) := by
  refine Met.ofW (cc := cX11_init) (maxL := 2) (ret := none) (by decide) rfl ?_
  intro p e s m args below meth c s₁ B hml hv
  obtain ⟨rfl, hsz, hP, hK, hD0⟩ := hv
  have hx := B.exec
  have hb := B.bytes
  have hr := B.returns
  have hts := atoms_spec (ws := (jk yX11_init cX11_init 2 none)) B.pre
  have hown : s.vm.findClass RX11 = some m.cls := findClass_of_methodNamed B.named
  have hlocks := B.notSynchronized
  have hin : meth.name = "<init>" := (name_of_methodNamed B.named B.method).1
  subst hsz
  have hD := hD0.self (sz := s.heap.size)
  generalize hAe : (va_A [(h0, .inr (11, [.int 0, .int 0, .null, .null, .int 0, .int 0, .int 0]))] s.heap.size) = A at hD ⊢
  have hA : ∀ q : Nat, s.heap.size ≤ q → A q := fun q h => by rw [← hAe]; exact Or.inr h
  have hS : va_S A s.heap s.heap [] := va_S.rf
  have hP : va_P (dC, dI) vwCl [(h0, .inr (11, [.int 0, .int 0, .null, .null, .int 0, .int 0, .int 0]))] s.heap := hP
  have hl := lv_entry ([.ref h0, .int 1]) (n := 2) (Nat.le_of_ble_eq_true rfl)
  rw [lg_entry_eq]
  generalize (lg_sl ([.ref h0, .int 1]) ++ List.replicate (2 - (lg_sl ([.ref h0, .int 1])).length) Slot.unset).toArray = ls at hl ⊢
  have hl : lv_has ls 2 [(0, .ref h0), (1, .int 1)] := hl
  refine lv_aload_n hx hb dX11_init_0 rfl (lv_at hl 0 rfl) ?_
  refine W.objInit hx hb hown (hts (.methodLink RX11 3 objectInit) (jm m_621)) (hts (.instanceMethod objectInit) (jm m_163)) (hts (.code objectInit ⟨#[0xb1]⟩ 1 none) (jm m_164)) rfl (by rw [hml]; exact hl.1) rfl dX11_init_1 (Nat.le_of_ble_eq_true rfl) (Nat.le_of_ble_eq_true rfl) ?_
  refine W.eq (g2 := F0 m 4 ls []) rfl ?_
  refine lv_aload_n hx hb dX11_init_4 rfl (lv_at hl 0 rfl) ?_
  refine lv_iconst (v := (-1)) hx hb dX11_init_5 (by decide) ?_
  refine va_put (D := (dC, dI)) (ci := 11) (v := .int (-1)) (ty := .int) (C := RX11) (T := TX11) (N := 7) hx hb hts (jh hin_RX11) tyX11 tyX11_ok nmX11 hown hK hP hD hS 0 rfl rfl 1 (by decide) (hts (.fieldLink RX11 9 "BookOfAll$Volume" "setDay" "I") (jm m_622)) (fun _ h9 => h9) rfl (by decide +kernel) rfl rfl (Nat.le_of_ble_eq_true rfl) dX11_init_6 (fun H locs hP hD hS => ?_)
  refine lv_aload_n hx hb dX11_init_9 rfl (lv_at hl 0 rfl) ?_
  refine lv_iconst (v := 0) hx hb dX11_init_10 (by decide) ?_
  refine va_newa (atype := .int) (N' := 0) (a0 := (0, .inl (fun _ => 0))) (ty := .int) hx hb (hts (.arrayClass .int) (jm m_2)) rfl hK hP hD hS hA (fun _ => rfl) (by decide) (by decide) (by decide) (Nat.le_of_ble_eq_true rfl) (Nat.le_of_ble_eq_true rfl) dX11_init_11 (fun q1 y1 H hK hP hD hS => ?_)
  refine W.widen (k := 1) (n := 0) (Nat.le_of_ble_eq_true rfl) (Nat.le_of_ble_eq_true rfl) ?_
  refine va_put (D := (dC, dI)) (ci := 11) (v := .ref q1) (ty := .array .int) (C := RX11) (T := TX11) (N := 7) hx hb hts (jh hin_RX11) tyX11 tyX11_ok nmX11 hown hK hP hD hS 0 (jg_l (jg_s (n := 1) rfl (Nat.le_of_ble_eq_true rfl))) rfl 2 (by decide) (hts (.fieldLink RX11 15 "BookOfAll$Volume" "order" "[I") (jm m_623)) (fun _ h9 => h9) rfl (by decide +kernel) rfl rfl (Nat.le_of_ble_eq_true rfl) dX11_init_13 (fun H locs hP hD hS => ?_)
  refine lv_aload_n hx hb dX11_init_16 rfl (lv_at hl 0 rfl) ?_
  refine lv_iconst (v := 0) hx hb dX11_init_17 (by decide) ?_
  refine va_newa (atype := .int) (N' := 0) (a0 := (0, .inl (fun _ => 0))) (ty := .int) hx hb (hts (.arrayClass .int) (jm m_2)) rfl hK hP hD hS hA (fun _ => rfl) (by decide) (by decide) (by decide) (Nat.le_of_ble_eq_true rfl) (Nat.le_of_ble_eq_true rfl) dX11_init_18 (fun q2 y2 H hK hP hD hS => ?_)
  refine W.widen (k := 2) (n := 0) (Nat.le_of_ble_eq_true rfl) (Nat.le_of_ble_eq_true rfl) ?_
  refine va_put (D := (dC, dI)) (ci := 11) (v := .ref q2) (ty := .array .int) (C := RX11) (T := TX11) (N := 7) hx hb hts (jh hin_RX11) tyX11 tyX11_ok nmX11 hown hK hP hD hS 0 (jg_l (jg_s (n := 2) (jn_a (n := 1) (m := 1) (jn_s rfl) rfl) (Nat.le_of_ble_eq_true rfl))) rfl 3 (by decide) (hts (.fieldLink RX11 19 "BookOfAll$Volume" "laid" "[I") (jm m_624)) (fun _ h9 => h9) rfl (by decide +kernel) rfl rfl (Nat.le_of_ble_eq_true rfl) dX11_init_20 (fun H locs hP hD hS => ?_)
  refine lv_aload_n hx hb dX11_init_23 rfl (lv_at hl 0 rfl) ?_
  refine lv_bipush (v := 25) hx hb dX11_init_24 (by decide) ?_
  refine lv_iconst (v := 5) hx hb dX11_init_26 (by decide) ?_
  refine lv_iload_n hx hb dX11_init_27 rfl (lv_at hl 1 rfl) ?_
  refine lv_imul hx hb dX11_init_28 ?_
  refine jt_i 5 (by decide) ?_
  refine lv_iconst (v := 4) hx hb dX11_init_29 (by decide) ?_
  refine lv_iadd hx hb dX11_init_30 ?_
  refine jt_i 9 (by decide) ?_
  refine va_mmin hx hb (by rw [hml]; exact hl.1.symm) hown (hts (.methodLink RX11 22 Lib.Math.min.name) (jm m_625)) (hts (.static Lib.Math.min.name) (jm m_173)) (hts (.initialized "java/lang/Math") (jm m_170)) (hts (.code Lib.Math.min.name Lib.Math.min.code 2 (some .int)) (jm m_174)) (Nat.le_of_ble_eq_true rfl) (Nat.le_of_ble_eq_true rfl) (Nat.le_of_ble_eq_true rfl) (Nat.le_of_ble_eq_true rfl) dX11_init_31 ?_
  refine jt_i 9 (by decide) ?_
  refine va_put (D := (dC, dI)) (ci := 11) (v := .int 9) (ty := .int) (C := RX11) (T := TX11) (N := 7) hx hb hts (jh hin_RX11) tyX11 tyX11_ok nmX11 hown hK hP hD hS 0 (jg_s (n := 3) (jn_a (n := 2) (m := 1) (jn_s (jn_a (n := 1) (m := 1) (jn_s rfl) rfl)) rfl) (Nat.le_of_ble_eq_true rfl)) rfl 0 (by decide) (hts (.fieldLink RX11 28 "BookOfAll$Volume" "lastLetter" "I") (jm m_626)) (fun _ h9 => h9) rfl (by decide +kernel) rfl rfl (Nat.le_of_ble_eq_true rfl) dX11_init_34 (fun H locs hP hD hS => ?_)
  refine W.widen (k := 2) (n := 0) (Nat.le_of_ble_eq_true rfl) (Nat.le_of_ble_eq_true rfl) ?_
  exact W.vret hx hb hr (fun t ht hW => ⟨⟨(fun k => [0, q1, q2].getD k 0, fun k => [dC 0, y1, y2].getD k (dC 0)), rfl, trivial, by rw [ht]; exact hP, va_K.moved hW.alike hK, hD⟩, hS.F ht⟩) hS.2.2 dX11_init_37
set_option maxHeartbeats 500000 in
set_option maxRecDepth 100000 in
theorem iX11_init_3 (l : Launch) (dC : Nat → ClassId) (dI : Nat → Nat → Nat) (sz h0 : Nat) : Met l yX11_init (jk yX11_init cX11_init 2 none) ({ frames := 1, cells := 2, slots := 0, locals := 40 }) (va_Pc [.ref h0, .int 2] (jw_P (dC, dI) [(h0, .inr (11, [.int 0, .int 0, .null, .null, .int 0, .int 0, .int 0]))] [] sz)) (va_Qv (fun (_ : ((Nat → Nat) × (Nat → ClassId))) => True) (fun u t => va_P (dC, dI) vwCl [(h0, .inr (11, [.int 14, .int (-1), .ref (u.1 1), .ref (u.1 2), .int 0, .int 0, .int 0])), ((u.1 1), .inl ((u.2 1), 0, .inl (fun _ => 0))), ((u.1 2), .inl ((u.2 2), 0, .inl (fun _ => 0)))] t.heap ∧ va_K (dC, dI) vwCl [((u.2 1), .int), ((u.2 2), .int)] t ∧ va_D (va_A [(h0, .inr (11, [.int 0, .int 0, .null, .null, .int 0, .int 0, .int 0]))] sz) [(h0, .inr (11, [.int 14, .int (-1), .ref (u.1 1), .ref (u.1 2), .int 0, .int 0, .int 0])), ((u.1 1), .inl ((u.2 1), 0, .inl (fun _ => 0))), ((u.1 2), .inl ((u.2 2), 0, .inl (fun _ => 0)))]) (va_A [(h0, .inr (11, [.int 0, .int 0, .null, .null, .int 0, .int 0, .int 0]))] sz)) 2 0 (va_A [(h0, .inr (11, [.int 0, .int 0, .null, .null, .int 0, .int 0, .int 0]))] sz) := by
  refine Met.ofW (cc := cX11_init) (maxL := 2) (ret := none) (by decide) rfl ?_
  intro p e s m args below meth c s₁ B hml hv
  obtain ⟨rfl, hsz, hP, hK, hD0⟩ := hv
  have hx := B.exec
  have hb := B.bytes
  have hr := B.returns
  have hts := atoms_spec (ws := (jk yX11_init cX11_init 2 none)) B.pre
  have hown : s.vm.findClass RX11 = some m.cls := findClass_of_methodNamed B.named
  have hlocks := B.notSynchronized
  have hin : meth.name = "<init>" := (name_of_methodNamed B.named B.method).1
  subst hsz
  have hD := hD0.self (sz := s.heap.size)
  generalize hAe : (va_A [(h0, .inr (11, [.int 0, .int 0, .null, .null, .int 0, .int 0, .int 0]))] s.heap.size) = A at hD ⊢
  have hA : ∀ q : Nat, s.heap.size ≤ q → A q := fun q h => by rw [← hAe]; exact Or.inr h
  have hS : va_S A s.heap s.heap [] := va_S.rf
  have hP : va_P (dC, dI) vwCl [(h0, .inr (11, [.int 0, .int 0, .null, .null, .int 0, .int 0, .int 0]))] s.heap := hP
  have hl := lv_entry ([.ref h0, .int 2]) (n := 2) (Nat.le_of_ble_eq_true rfl)
  rw [lg_entry_eq]
  generalize (lg_sl ([.ref h0, .int 2]) ++ List.replicate (2 - (lg_sl ([.ref h0, .int 2])).length) Slot.unset).toArray = ls at hl ⊢
  have hl : lv_has ls 2 [(0, .ref h0), (1, .int 2)] := hl
  refine lv_aload_n hx hb dX11_init_0 rfl (lv_at hl 0 rfl) ?_
  refine W.objInit hx hb hown (hts (.methodLink RX11 3 objectInit) (jm m_621)) (hts (.instanceMethod objectInit) (jm m_163)) (hts (.code objectInit ⟨#[0xb1]⟩ 1 none) (jm m_164)) rfl (by rw [hml]; exact hl.1) rfl dX11_init_1 (Nat.le_of_ble_eq_true rfl) (Nat.le_of_ble_eq_true rfl) ?_
  refine W.eq (g2 := F0 m 4 ls []) rfl ?_
  refine lv_aload_n hx hb dX11_init_4 rfl (lv_at hl 0 rfl) ?_
  refine lv_iconst (v := (-1)) hx hb dX11_init_5 (by decide) ?_
  refine va_put (D := (dC, dI)) (ci := 11) (v := .int (-1)) (ty := .int) (C := RX11) (T := TX11) (N := 7) hx hb hts (jh hin_RX11) tyX11 tyX11_ok nmX11 hown hK hP hD hS 0 rfl rfl 1 (by decide) (hts (.fieldLink RX11 9 "BookOfAll$Volume" "setDay" "I") (jm m_622)) (fun _ h9 => h9) rfl (by decide +kernel) rfl rfl (Nat.le_of_ble_eq_true rfl) dX11_init_6 (fun H locs hP hD hS => ?_)
  refine lv_aload_n hx hb dX11_init_9 rfl (lv_at hl 0 rfl) ?_
  refine lv_iconst (v := 0) hx hb dX11_init_10 (by decide) ?_
  refine va_newa (atype := .int) (N' := 0) (a0 := (0, .inl (fun _ => 0))) (ty := .int) hx hb (hts (.arrayClass .int) (jm m_2)) rfl hK hP hD hS hA (fun _ => rfl) (by decide) (by decide) (by decide) (Nat.le_of_ble_eq_true rfl) (Nat.le_of_ble_eq_true rfl) dX11_init_11 (fun q1 y1 H hK hP hD hS => ?_)
  refine W.widen (k := 1) (n := 0) (Nat.le_of_ble_eq_true rfl) (Nat.le_of_ble_eq_true rfl) ?_
  refine va_put (D := (dC, dI)) (ci := 11) (v := .ref q1) (ty := .array .int) (C := RX11) (T := TX11) (N := 7) hx hb hts (jh hin_RX11) tyX11 tyX11_ok nmX11 hown hK hP hD hS 0 (jg_l (jg_s (n := 1) rfl (Nat.le_of_ble_eq_true rfl))) rfl 2 (by decide) (hts (.fieldLink RX11 15 "BookOfAll$Volume" "order" "[I") (jm m_623)) (fun _ h9 => h9) rfl (by decide +kernel) rfl rfl (Nat.le_of_ble_eq_true rfl) dX11_init_13 (fun H locs hP hD hS => ?_)
  refine lv_aload_n hx hb dX11_init_16 rfl (lv_at hl 0 rfl) ?_
  refine lv_iconst (v := 0) hx hb dX11_init_17 (by decide) ?_
  refine va_newa (atype := .int) (N' := 0) (a0 := (0, .inl (fun _ => 0))) (ty := .int) hx hb (hts (.arrayClass .int) (jm m_2)) rfl hK hP hD hS hA (fun _ => rfl) (by decide) (by decide) (by decide) (Nat.le_of_ble_eq_true rfl) (Nat.le_of_ble_eq_true rfl) dX11_init_18 (fun q2 y2 H hK hP hD hS => ?_)
  refine W.widen (k := 2) (n := 0) (Nat.le_of_ble_eq_true rfl) (Nat.le_of_ble_eq_true rfl) ?_
  refine va_put (D := (dC, dI)) (ci := 11) (v := .ref q2) (ty := .array .int) (C := RX11) (T := TX11) (N := 7) hx hb hts (jh hin_RX11) tyX11 tyX11_ok nmX11 hown hK hP hD hS 0 (jg_l (jg_s (n := 2) (jn_a (n := 1) (m := 1) (jn_s rfl) rfl) (Nat.le_of_ble_eq_true rfl))) rfl 3 (by decide) (hts (.fieldLink RX11 19 "BookOfAll$Volume" "laid" "[I") (jm m_624)) (fun _ h9 => h9) rfl (by decide +kernel) rfl rfl (Nat.le_of_ble_eq_true rfl) dX11_init_20 (fun H locs hP hD hS => ?_)
  refine lv_aload_n hx hb dX11_init_23 rfl (lv_at hl 0 rfl) ?_
  refine lv_bipush (v := 25) hx hb dX11_init_24 (by decide) ?_
  refine lv_iconst (v := 5) hx hb dX11_init_26 (by decide) ?_
  refine lv_iload_n hx hb dX11_init_27 rfl (lv_at hl 1 rfl) ?_
  refine lv_imul hx hb dX11_init_28 ?_
  refine jt_i 10 (by decide) ?_
  refine lv_iconst (v := 4) hx hb dX11_init_29 (by decide) ?_
  refine lv_iadd hx hb dX11_init_30 ?_
  refine jt_i 14 (by decide) ?_
  refine va_mmin hx hb (by rw [hml]; exact hl.1.symm) hown (hts (.methodLink RX11 22 Lib.Math.min.name) (jm m_625)) (hts (.static Lib.Math.min.name) (jm m_173)) (hts (.initialized "java/lang/Math") (jm m_170)) (hts (.code Lib.Math.min.name Lib.Math.min.code 2 (some .int)) (jm m_174)) (Nat.le_of_ble_eq_true rfl) (Nat.le_of_ble_eq_true rfl) (Nat.le_of_ble_eq_true rfl) (Nat.le_of_ble_eq_true rfl) dX11_init_31 ?_
  refine jt_i 14 (by decide) ?_
  refine va_put (D := (dC, dI)) (ci := 11) (v := .int 14) (ty := .int) (C := RX11) (T := TX11) (N := 7) hx hb hts (jh hin_RX11) tyX11 tyX11_ok nmX11 hown hK hP hD hS 0 (jg_s (n := 3) (jn_a (n := 2) (m := 1) (jn_s (jn_a (n := 1) (m := 1) (jn_s rfl) rfl)) rfl) (Nat.le_of_ble_eq_true rfl)) rfl 0 (by decide) (hts (.fieldLink RX11 28 "BookOfAll$Volume" "lastLetter" "I") (jm m_626)) (fun _ h9 => h9) rfl (by decide +kernel) rfl rfl (Nat.le_of_ble_eq_true rfl) dX11_init_34 (fun H locs hP hD hS => ?_)
  refine W.widen (k := 2) (n := 0) (Nat.le_of_ble_eq_true rfl) (Nat.le_of_ble_eq_true rfl) ?_
  exact W.vret hx hb hr (fun t ht hW => ⟨⟨(fun k => [0, q1, q2].getD k 0, fun k => [dC 0, y1, y2].getD k (dC 0)), rfl, trivial, by rw [ht]; exact hP, va_K.moved hW.alike hK, hD⟩, hS.F ht⟩) hS.2.2 dX11_init_37
set_option maxHeartbeats 500000 in
set_option maxRecDepth 100000 in
theorem iX11_init_4 (l : Launch) (dC : Nat → ClassId) (dI : Nat → Nat → Nat) (sz h0 : Nat) : Met l yX11_init (jk yX11_init cX11_init 2 none) ({ frames := 1, cells := 2, slots := 0, locals := 40 }) (va_Pc [.ref h0, .int 3] (jw_P (dC, dI) [(h0, .inr (11, [.int 0, .int 0, .null, .null, .int 0, .int 0, .int 0]))] [] sz)) (va_Qv (fun (_ : ((Nat → Nat) × (Nat → ClassId))) => True) (fun u t => va_P (dC, dI) vwCl [(h0, .inr (11, [.int 19, .int (-1), .ref (u.1 1), .ref (u.1 2), .int 0, .int 0, .int 0])), ((u.1 1), .inl ((u.2 1), 0, .inl (fun _ => 0))), ((u.1 2), .inl ((u.2 2), 0, .inl (fun _ => 0)))] t.heap ∧ va_K (dC, dI) vwCl [((u.2 1), .int), ((u.2 2), .int)] t ∧ va_D (va_A [(h0, .inr (11, [.int 0, .int 0, .null, .null, .int 0, .int 0, .int 0]))] sz) [(h0, .inr (11, [.int 19, .int (-1), .ref (u.1 1), .ref (u.1 2), .int 0, .int 0, .int 0])), ((u.1 1), .inl ((u.2 1), 0, .inl (fun _ => 0))), ((u.1 2), .inl ((u.2 2), 0, .inl (fun _ => 0)))]) (va_A [(h0, .inr (11, [.int 0, .int 0, .null, .null, .int 0, .int 0, .int 0]))] sz)) 2 0 (va_A [(h0, .inr (11, [.int 0, .int 0, .null, .null, .int 0, .int 0, .int 0]))] sz) := by
  refine Met.ofW (cc := cX11_init) (maxL := 2) (ret := none) (by decide) rfl ?_
  intro p e s m args below meth c s₁ B hml hv
  obtain ⟨rfl, hsz, hP, hK, hD0⟩ := hv
  have hx := B.exec
  have hb := B.bytes
  have hr := B.returns
  have hts := atoms_spec (ws := (jk yX11_init cX11_init 2 none)) B.pre
  have hown : s.vm.findClass RX11 = some m.cls := findClass_of_methodNamed B.named
  have hlocks := B.notSynchronized
  have hin : meth.name = "<init>" := (name_of_methodNamed B.named B.method).1
  subst hsz
  have hD := hD0.self (sz := s.heap.size)
  generalize hAe : (va_A [(h0, .inr (11, [.int 0, .int 0, .null, .null, .int 0, .int 0, .int 0]))] s.heap.size) = A at hD ⊢
  have hA : ∀ q : Nat, s.heap.size ≤ q → A q := fun q h => by rw [← hAe]; exact Or.inr h
  have hS : va_S A s.heap s.heap [] := va_S.rf
  have hP : va_P (dC, dI) vwCl [(h0, .inr (11, [.int 0, .int 0, .null, .null, .int 0, .int 0, .int 0]))] s.heap := hP
  have hl := lv_entry ([.ref h0, .int 3]) (n := 2) (Nat.le_of_ble_eq_true rfl)
  rw [lg_entry_eq]
  generalize (lg_sl ([.ref h0, .int 3]) ++ List.replicate (2 - (lg_sl ([.ref h0, .int 3])).length) Slot.unset).toArray = ls at hl ⊢
  have hl : lv_has ls 2 [(0, .ref h0), (1, .int 3)] := hl
  refine lv_aload_n hx hb dX11_init_0 rfl (lv_at hl 0 rfl) ?_
  refine W.objInit hx hb hown (hts (.methodLink RX11 3 objectInit) (jm m_621)) (hts (.instanceMethod objectInit) (jm m_163)) (hts (.code objectInit ⟨#[0xb1]⟩ 1 none) (jm m_164)) rfl (by rw [hml]; exact hl.1) rfl dX11_init_1 (Nat.le_of_ble_eq_true rfl) (Nat.le_of_ble_eq_true rfl) ?_
  refine W.eq (g2 := F0 m 4 ls []) rfl ?_
  refine lv_aload_n hx hb dX11_init_4 rfl (lv_at hl 0 rfl) ?_
  refine lv_iconst (v := (-1)) hx hb dX11_init_5 (by decide) ?_
  refine va_put (D := (dC, dI)) (ci := 11) (v := .int (-1)) (ty := .int) (C := RX11) (T := TX11) (N := 7) hx hb hts (jh hin_RX11) tyX11 tyX11_ok nmX11 hown hK hP hD hS 0 rfl rfl 1 (by decide) (hts (.fieldLink RX11 9 "BookOfAll$Volume" "setDay" "I") (jm m_622)) (fun _ h9 => h9) rfl (by decide +kernel) rfl rfl (Nat.le_of_ble_eq_true rfl) dX11_init_6 (fun H locs hP hD hS => ?_)
  refine lv_aload_n hx hb dX11_init_9 rfl (lv_at hl 0 rfl) ?_
  refine lv_iconst (v := 0) hx hb dX11_init_10 (by decide) ?_
  refine va_newa (atype := .int) (N' := 0) (a0 := (0, .inl (fun _ => 0))) (ty := .int) hx hb (hts (.arrayClass .int) (jm m_2)) rfl hK hP hD hS hA (fun _ => rfl) (by decide) (by decide) (by decide) (Nat.le_of_ble_eq_true rfl) (Nat.le_of_ble_eq_true rfl) dX11_init_11 (fun q1 y1 H hK hP hD hS => ?_)
  refine W.widen (k := 1) (n := 0) (Nat.le_of_ble_eq_true rfl) (Nat.le_of_ble_eq_true rfl) ?_
  refine va_put (D := (dC, dI)) (ci := 11) (v := .ref q1) (ty := .array .int) (C := RX11) (T := TX11) (N := 7) hx hb hts (jh hin_RX11) tyX11 tyX11_ok nmX11 hown hK hP hD hS 0 (jg_l (jg_s (n := 1) rfl (Nat.le_of_ble_eq_true rfl))) rfl 2 (by decide) (hts (.fieldLink RX11 15 "BookOfAll$Volume" "order" "[I") (jm m_623)) (fun _ h9 => h9) rfl (by decide +kernel) rfl rfl (Nat.le_of_ble_eq_true rfl) dX11_init_13 (fun H locs hP hD hS => ?_)
  refine lv_aload_n hx hb dX11_init_16 rfl (lv_at hl 0 rfl) ?_
  refine lv_iconst (v := 0) hx hb dX11_init_17 (by decide) ?_
  refine va_newa (atype := .int) (N' := 0) (a0 := (0, .inl (fun _ => 0))) (ty := .int) hx hb (hts (.arrayClass .int) (jm m_2)) rfl hK hP hD hS hA (fun _ => rfl) (by decide) (by decide) (by decide) (Nat.le_of_ble_eq_true rfl) (Nat.le_of_ble_eq_true rfl) dX11_init_18 (fun q2 y2 H hK hP hD hS => ?_)
  refine W.widen (k := 2) (n := 0) (Nat.le_of_ble_eq_true rfl) (Nat.le_of_ble_eq_true rfl) ?_
  refine va_put (D := (dC, dI)) (ci := 11) (v := .ref q2) (ty := .array .int) (C := RX11) (T := TX11) (N := 7) hx hb hts (jh hin_RX11) tyX11 tyX11_ok nmX11 hown hK hP hD hS 0 (jg_l (jg_s (n := 2) (jn_a (n := 1) (m := 1) (jn_s rfl) rfl) (Nat.le_of_ble_eq_true rfl))) rfl 3 (by decide) (hts (.fieldLink RX11 19 "BookOfAll$Volume" "laid" "[I") (jm m_624)) (fun _ h9 => h9) rfl (by decide +kernel) rfl rfl (Nat.le_of_ble_eq_true rfl) dX11_init_20 (fun H locs hP hD hS => ?_)
  refine lv_aload_n hx hb dX11_init_23 rfl (lv_at hl 0 rfl) ?_
  refine lv_bipush (v := 25) hx hb dX11_init_24 (by decide) ?_
  refine lv_iconst (v := 5) hx hb dX11_init_26 (by decide) ?_
  refine lv_iload_n hx hb dX11_init_27 rfl (lv_at hl 1 rfl) ?_
  refine lv_imul hx hb dX11_init_28 ?_
  refine jt_i 15 (by decide) ?_
  refine lv_iconst (v := 4) hx hb dX11_init_29 (by decide) ?_
  refine lv_iadd hx hb dX11_init_30 ?_
  refine jt_i 19 (by decide) ?_
  refine va_mmin hx hb (by rw [hml]; exact hl.1.symm) hown (hts (.methodLink RX11 22 Lib.Math.min.name) (jm m_625)) (hts (.static Lib.Math.min.name) (jm m_173)) (hts (.initialized "java/lang/Math") (jm m_170)) (hts (.code Lib.Math.min.name Lib.Math.min.code 2 (some .int)) (jm m_174)) (Nat.le_of_ble_eq_true rfl) (Nat.le_of_ble_eq_true rfl) (Nat.le_of_ble_eq_true rfl) (Nat.le_of_ble_eq_true rfl) dX11_init_31 ?_
  refine jt_i 19 (by decide) ?_
  refine va_put (D := (dC, dI)) (ci := 11) (v := .int 19) (ty := .int) (C := RX11) (T := TX11) (N := 7) hx hb hts (jh hin_RX11) tyX11 tyX11_ok nmX11 hown hK hP hD hS 0 (jg_s (n := 3) (jn_a (n := 2) (m := 1) (jn_s (jn_a (n := 1) (m := 1) (jn_s rfl) rfl)) rfl) (Nat.le_of_ble_eq_true rfl)) rfl 0 (by decide) (hts (.fieldLink RX11 28 "BookOfAll$Volume" "lastLetter" "I") (jm m_626)) (fun _ h9 => h9) rfl (by decide +kernel) rfl rfl (Nat.le_of_ble_eq_true rfl) dX11_init_34 (fun H locs hP hD hS => ?_)
  refine W.widen (k := 2) (n := 0) (Nat.le_of_ble_eq_true rfl) (Nat.le_of_ble_eq_true rfl) ?_
  exact W.vret hx hb hr (fun t ht hW => ⟨⟨(fun k => [0, q1, q2].getD k 0, fun k => [dC 0, y1, y2].getD k (dC 0)), rfl, trivial, by rw [ht]; exact hP, va_K.moved hW.alike hK, hD⟩, hS.F ht⟩) hS.2.2 dX11_init_37
set_option maxHeartbeats 500000 in
set_option maxRecDepth 100000 in
theorem iX11_init_5 (l : Launch) (dC : Nat → ClassId) (dI : Nat → Nat → Nat) (sz h0 : Nat) : Met l yX11_init (jk yX11_init cX11_init 2 none) ({ frames := 1, cells := 2, slots := 0, locals := 40 }) (va_Pc [.ref h0, .int 4] (jw_P (dC, dI) [(h0, .inr (11, [.int 0, .int 0, .null, .null, .int 0, .int 0, .int 0]))] [] sz)) (va_Qv (fun (_ : ((Nat → Nat) × (Nat → ClassId))) => True) (fun u t => va_P (dC, dI) vwCl [(h0, .inr (11, [.int 24, .int (-1), .ref (u.1 1), .ref (u.1 2), .int 0, .int 0, .int 0])), ((u.1 1), .inl ((u.2 1), 0, .inl (fun _ => 0))), ((u.1 2), .inl ((u.2 2), 0, .inl (fun _ => 0)))] t.heap ∧ va_K (dC, dI) vwCl [((u.2 1), .int), ((u.2 2), .int)] t ∧ va_D (va_A [(h0, .inr (11, [.int 0, .int 0, .null, .null, .int 0, .int 0, .int 0]))] sz) [(h0, .inr (11, [.int 24, .int (-1), .ref (u.1 1), .ref (u.1 2), .int 0, .int 0, .int 0])), ((u.1 1), .inl ((u.2 1), 0, .inl (fun _ => 0))), ((u.1 2), .inl ((u.2 2), 0, .inl (fun _ => 0)))]) (va_A [(h0, .inr (11, [.int 0, .int 0, .null, .null, .int 0, .int 0, .int 0]))] sz)) 2 0 (va_A [(h0, .inr (11, [.int 0, .int 0, .null, .null, .int 0, .int 0, .int 0]))] sz) := by
  refine Met.ofW (cc := cX11_init) (maxL := 2) (ret := none) (by decide) rfl ?_
  intro p e s m args below meth c s₁ B hml hv
  obtain ⟨rfl, hsz, hP, hK, hD0⟩ := hv
  have hx := B.exec
  have hb := B.bytes
  have hr := B.returns
  have hts := atoms_spec (ws := (jk yX11_init cX11_init 2 none)) B.pre
  have hown : s.vm.findClass RX11 = some m.cls := findClass_of_methodNamed B.named
  have hlocks := B.notSynchronized
  have hin : meth.name = "<init>" := (name_of_methodNamed B.named B.method).1
  subst hsz
  have hD := hD0.self (sz := s.heap.size)
  generalize hAe : (va_A [(h0, .inr (11, [.int 0, .int 0, .null, .null, .int 0, .int 0, .int 0]))] s.heap.size) = A at hD ⊢
  have hA : ∀ q : Nat, s.heap.size ≤ q → A q := fun q h => by rw [← hAe]; exact Or.inr h
  have hS : va_S A s.heap s.heap [] := va_S.rf
  have hP : va_P (dC, dI) vwCl [(h0, .inr (11, [.int 0, .int 0, .null, .null, .int 0, .int 0, .int 0]))] s.heap := hP
  have hl := lv_entry ([.ref h0, .int 4]) (n := 2) (Nat.le_of_ble_eq_true rfl)
  rw [lg_entry_eq]
  generalize (lg_sl ([.ref h0, .int 4]) ++ List.replicate (2 - (lg_sl ([.ref h0, .int 4])).length) Slot.unset).toArray = ls at hl ⊢
  have hl : lv_has ls 2 [(0, .ref h0), (1, .int 4)] := hl
  refine lv_aload_n hx hb dX11_init_0 rfl (lv_at hl 0 rfl) ?_
  refine W.objInit hx hb hown (hts (.methodLink RX11 3 objectInit) (jm m_621)) (hts (.instanceMethod objectInit) (jm m_163)) (hts (.code objectInit ⟨#[0xb1]⟩ 1 none) (jm m_164)) rfl (by rw [hml]; exact hl.1) rfl dX11_init_1 (Nat.le_of_ble_eq_true rfl) (Nat.le_of_ble_eq_true rfl) ?_
  refine W.eq (g2 := F0 m 4 ls []) rfl ?_
  refine lv_aload_n hx hb dX11_init_4 rfl (lv_at hl 0 rfl) ?_
  refine lv_iconst (v := (-1)) hx hb dX11_init_5 (by decide) ?_
  refine va_put (D := (dC, dI)) (ci := 11) (v := .int (-1)) (ty := .int) (C := RX11) (T := TX11) (N := 7) hx hb hts (jh hin_RX11) tyX11 tyX11_ok nmX11 hown hK hP hD hS 0 rfl rfl 1 (by decide) (hts (.fieldLink RX11 9 "BookOfAll$Volume" "setDay" "I") (jm m_622)) (fun _ h9 => h9) rfl (by decide +kernel) rfl rfl (Nat.le_of_ble_eq_true rfl) dX11_init_6 (fun H locs hP hD hS => ?_)
  refine lv_aload_n hx hb dX11_init_9 rfl (lv_at hl 0 rfl) ?_
  refine lv_iconst (v := 0) hx hb dX11_init_10 (by decide) ?_
  refine va_newa (atype := .int) (N' := 0) (a0 := (0, .inl (fun _ => 0))) (ty := .int) hx hb (hts (.arrayClass .int) (jm m_2)) rfl hK hP hD hS hA (fun _ => rfl) (by decide) (by decide) (by decide) (Nat.le_of_ble_eq_true rfl) (Nat.le_of_ble_eq_true rfl) dX11_init_11 (fun q1 y1 H hK hP hD hS => ?_)
  refine W.widen (k := 1) (n := 0) (Nat.le_of_ble_eq_true rfl) (Nat.le_of_ble_eq_true rfl) ?_
  refine va_put (D := (dC, dI)) (ci := 11) (v := .ref q1) (ty := .array .int) (C := RX11) (T := TX11) (N := 7) hx hb hts (jh hin_RX11) tyX11 tyX11_ok nmX11 hown hK hP hD hS 0 (jg_l (jg_s (n := 1) rfl (Nat.le_of_ble_eq_true rfl))) rfl 2 (by decide) (hts (.fieldLink RX11 15 "BookOfAll$Volume" "order" "[I") (jm m_623)) (fun _ h9 => h9) rfl (by decide +kernel) rfl rfl (Nat.le_of_ble_eq_true rfl) dX11_init_13 (fun H locs hP hD hS => ?_)
  refine lv_aload_n hx hb dX11_init_16 rfl (lv_at hl 0 rfl) ?_
  refine lv_iconst (v := 0) hx hb dX11_init_17 (by decide) ?_
  refine va_newa (atype := .int) (N' := 0) (a0 := (0, .inl (fun _ => 0))) (ty := .int) hx hb (hts (.arrayClass .int) (jm m_2)) rfl hK hP hD hS hA (fun _ => rfl) (by decide) (by decide) (by decide) (Nat.le_of_ble_eq_true rfl) (Nat.le_of_ble_eq_true rfl) dX11_init_18 (fun q2 y2 H hK hP hD hS => ?_)
  refine W.widen (k := 2) (n := 0) (Nat.le_of_ble_eq_true rfl) (Nat.le_of_ble_eq_true rfl) ?_
  refine va_put (D := (dC, dI)) (ci := 11) (v := .ref q2) (ty := .array .int) (C := RX11) (T := TX11) (N := 7) hx hb hts (jh hin_RX11) tyX11 tyX11_ok nmX11 hown hK hP hD hS 0 (jg_l (jg_s (n := 2) (jn_a (n := 1) (m := 1) (jn_s rfl) rfl) (Nat.le_of_ble_eq_true rfl))) rfl 3 (by decide) (hts (.fieldLink RX11 19 "BookOfAll$Volume" "laid" "[I") (jm m_624)) (fun _ h9 => h9) rfl (by decide +kernel) rfl rfl (Nat.le_of_ble_eq_true rfl) dX11_init_20 (fun H locs hP hD hS => ?_)
  refine lv_aload_n hx hb dX11_init_23 rfl (lv_at hl 0 rfl) ?_
  refine lv_bipush (v := 25) hx hb dX11_init_24 (by decide) ?_
  refine lv_iconst (v := 5) hx hb dX11_init_26 (by decide) ?_
  refine lv_iload_n hx hb dX11_init_27 rfl (lv_at hl 1 rfl) ?_
  refine lv_imul hx hb dX11_init_28 ?_
  refine jt_i 20 (by decide) ?_
  refine lv_iconst (v := 4) hx hb dX11_init_29 (by decide) ?_
  refine lv_iadd hx hb dX11_init_30 ?_
  refine jt_i 24 (by decide) ?_
  refine va_mmin hx hb (by rw [hml]; exact hl.1.symm) hown (hts (.methodLink RX11 22 Lib.Math.min.name) (jm m_625)) (hts (.static Lib.Math.min.name) (jm m_173)) (hts (.initialized "java/lang/Math") (jm m_170)) (hts (.code Lib.Math.min.name Lib.Math.min.code 2 (some .int)) (jm m_174)) (Nat.le_of_ble_eq_true rfl) (Nat.le_of_ble_eq_true rfl) (Nat.le_of_ble_eq_true rfl) (Nat.le_of_ble_eq_true rfl) dX11_init_31 ?_
  refine jt_i 24 (by decide) ?_
  refine va_put (D := (dC, dI)) (ci := 11) (v := .int 24) (ty := .int) (C := RX11) (T := TX11) (N := 7) hx hb hts (jh hin_RX11) tyX11 tyX11_ok nmX11 hown hK hP hD hS 0 (jg_s (n := 3) (jn_a (n := 2) (m := 1) (jn_s (jn_a (n := 1) (m := 1) (jn_s rfl) rfl)) rfl) (Nat.le_of_ble_eq_true rfl)) rfl 0 (by decide) (hts (.fieldLink RX11 28 "BookOfAll$Volume" "lastLetter" "I") (jm m_626)) (fun _ h9 => h9) rfl (by decide +kernel) rfl rfl (Nat.le_of_ble_eq_true rfl) dX11_init_34 (fun H locs hP hD hS => ?_)
  refine W.widen (k := 2) (n := 0) (Nat.le_of_ble_eq_true rfl) (Nat.le_of_ble_eq_true rfl) ?_
  exact W.vret hx hb hr (fun t ht hW => ⟨⟨(fun k => [0, q1, q2].getD k 0, fun k => [dC 0, y1, y2].getD k (dC 0)), rfl, trivial, by rw [ht]; exact hP, va_K.moved hW.alike hK, hD⟩, hS.F ht⟩) hS.2.2 dX11_init_37
