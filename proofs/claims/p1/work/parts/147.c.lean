set_option maxHeartbeats 1000000 in
set_option maxRecDepth 100000 in
theorem kX13_newEntry_3 (l : Launch) (dC : Nat → ClassId) (dI : Nat → Nat → Nat) (sz : Nat) (ad : Nat → Nat) (ca : Nat → ClassId) (w0 : Nat → Int32) (p2 : Int32) : Met l yX13_newEntry (jk yX13_newEntry cX13_newEntry 4 (some .int)) ({ frames := 0, cells := 0, slots := 0, locals := 0 }) (va_Pc [.ref (ad 0), .int 0, .int p2] (jw_P (dC, dI) ((jS (mW ad ca) 66 (ad 66, .inl ((ca 66), 12, .inl w0)))) (mT ca) sz)) (va_Qi (fun (r : Int32) (_ : Unit) => (r = 0)) (fun _ t => va_P (dC, dI) vwCl ((jS (jS (jS (jS (jS (jS (jS (jS (jS (mW ad ca) 66 (ad 66, .inl ((ca 66), 12, .inl w0))) 0 (ad 0, .inr (13, [.ref (ad 1), .int 0, .int 0, .int 0, .int 0, .int 0, .ref (ad 2), .int 0, .int 0, .int 0, .ref (ad 3), .ref (ad 4), .int 0, .ref (ad 5), .ref (ad 6), .int 0, .ref (ad 7), .ref (ad 8), .int 0, .ref (ad 9), .ref (ad 10), .ref (ad 11), .ref (ad 12), .ref (ad 13), .ref (ad 14), .ref (ad 15), .int 0, .ref (ad 16), .ref (ad 17), .ref (ad 18), .int 0, .ref (ad 19), .ref (ad 20), .ref (ad 21), .ref (ad 22), .ref (ad 23), .ref (ad 24), .int 1, .ref (ad 25), .ref (ad 26), .ref (ad 27), .ref (ad 28), .ref (ad 29), .ref (ad 30), .ref (ad 31), .ref (ad 32), .ref (ad 33), .ref (ad 34), .ref (ad 35), .ref (ad 36), .int 0, .ref (ad 37), .ref (ad 38), .ref (ad 39), .ref (ad 40), .ref (ad 41), .int 0, .ref (ad 42), .ref (ad 43), .ref (ad 44), .ref (ad 45), .ref (ad 46), .ref (ad 47), .ref (ad 48), .ref (ad 49), .ref (ad 50), .int 0, .ref (ad 51), .ref (ad 52), .ref (ad 53), .ref (ad 54), .int 0, .ref (ad 55), .ref (ad 56), .ref (ad 57), .ref (ad 58), .ref (ad 59), .ref (ad 60), .int 0, .ref (ad 61), .ref (ad 62), .ref (ad 63), .ref (ad 64), .ref (ad 65), .ref (ad 66), .ref (ad 67), .int 0, .ref (ad 68), .ref (ad 69), .ref (ad 70), .int 0, .ref (ad 71), .ref (ad 72), .ref (ad 73), .ref (ad 74), .ref (ad 75), .int 0, .int 0, .int 0, .int 0, .int 0, .ref (ad 76), .ref (ad 77), .ref (ad 78)]))) 25 (ad 25, .inl ((ca 25), 720, .inl (upd (upd (upd (upd (upd (upd (upd (upd (upd (upd (upd (upd (fun _ => 0) 0 (vp_nar .byte (w0 (Int32.toNatClampNeg 0)))) 1 (vp_nar .byte (w0 (Int32.toNatClampNeg 1)))) 2 (vp_nar .byte (w0 (Int32.toNatClampNeg 2)))) 3 (vp_nar .byte (w0 (Int32.toNatClampNeg 3)))) 4 (vp_nar .byte (w0 (Int32.toNatClampNeg 4)))) 5 (vp_nar .byte (w0 (Int32.toNatClampNeg 5)))) 6 (vp_nar .byte (w0 (Int32.toNatClampNeg 6)))) 7 (vp_nar .byte (w0 (Int32.toNatClampNeg 7)))) 8 (vp_nar .byte (w0 (Int32.toNatClampNeg 8)))) 9 (vp_nar .byte (w0 (Int32.toNatClampNeg 9)))) 10 (vp_nar .byte (w0 (Int32.toNatClampNeg 10)))) 11 (vp_nar .byte (w0 (Int32.toNatClampNeg 11))))))) 26 (ad 26, .inl ((ca 26), 60, .inl (upd (fun _ => 0) 0 p2)))) 27 (ad 27, .inl ((ca 27), 60, .inl (upd (fun _ => 0) 0 0)))) 31 (ad 31, .inl ((ca 31), 60, .inl (upd (fun _ => 0) 0 (-1))))) 32 (ad 32, .inl ((ca 32), 60, .inl (upd (fun _ => 0) 0 (-1))))) 35 (ad 35, .inl ((ca 35), 60, .inl (upd (fun _ => 0) 0 (-1))))) 36 (ad 36, .inl ((ca 36), 60, .inl (upd (fun _ => 0) 0 (-1)))))) t.heap ∧ va_K (dC, dI) vwCl (mT ca) t ∧ va_D (va_A ((jS (mW ad ca) 66 (ad 66, .inl ((ca 66), 12, .inl w0)))) sz) ((jS (jS (jS (jS (jS (jS (jS (jS (jS (mW ad ca) 66 (ad 66, .inl ((ca 66), 12, .inl w0))) 0 (ad 0, .inr (13, [.ref (ad 1), .int 0, .int 0, .int 0, .int 0, .int 0, .ref (ad 2), .int 0, .int 0, .int 0, .ref (ad 3), .ref (ad 4), .int 0, .ref (ad 5), .ref (ad 6), .int 0, .ref (ad 7), .ref (ad 8), .int 0, .ref (ad 9), .ref (ad 10), .ref (ad 11), .ref (ad 12), .ref (ad 13), .ref (ad 14), .ref (ad 15), .int 0, .ref (ad 16), .ref (ad 17), .ref (ad 18), .int 0, .ref (ad 19), .ref (ad 20), .ref (ad 21), .ref (ad 22), .ref (ad 23), .ref (ad 24), .int 1, .ref (ad 25), .ref (ad 26), .ref (ad 27), .ref (ad 28), .ref (ad 29), .ref (ad 30), .ref (ad 31), .ref (ad 32), .ref (ad 33), .ref (ad 34), .ref (ad 35), .ref (ad 36), .int 0, .ref (ad 37), .ref (ad 38), .ref (ad 39), .ref (ad 40), .ref (ad 41), .int 0, .ref (ad 42), .ref (ad 43), .ref (ad 44), .ref (ad 45), .ref (ad 46), .ref (ad 47), .ref (ad 48), .ref (ad 49), .ref (ad 50), .int 0, .ref (ad 51), .ref (ad 52), .ref (ad 53), .ref (ad 54), .int 0, .ref (ad 55), .ref (ad 56), .ref (ad 57), .ref (ad 58), .ref (ad 59), .ref (ad 60), .int 0, .ref (ad 61), .ref (ad 62), .ref (ad 63), .ref (ad 64), .ref (ad 65), .ref (ad 66), .ref (ad 67), .int 0, .ref (ad 68), .ref (ad 69), .ref (ad 70), .int 0, .ref (ad 71), .ref (ad 72), .ref (ad 73), .ref (ad 74), .ref (ad 75), .int 0, .int 0, .int 0, .int 0, .int 0, .ref (ad 76), .ref (ad 77), .ref (ad 78)]))) 25 (ad 25, .inl ((ca 25), 720, .inl (upd (upd (upd (upd (upd (upd (upd (upd (upd (upd (upd (upd (fun _ => 0) 0 (vp_nar .byte (w0 (Int32.toNatClampNeg 0)))) 1 (vp_nar .byte (w0 (Int32.toNatClampNeg 1)))) 2 (vp_nar .byte (w0 (Int32.toNatClampNeg 2)))) 3 (vp_nar .byte (w0 (Int32.toNatClampNeg 3)))) 4 (vp_nar .byte (w0 (Int32.toNatClampNeg 4)))) 5 (vp_nar .byte (w0 (Int32.toNatClampNeg 5)))) 6 (vp_nar .byte (w0 (Int32.toNatClampNeg 6)))) 7 (vp_nar .byte (w0 (Int32.toNatClampNeg 7)))) 8 (vp_nar .byte (w0 (Int32.toNatClampNeg 8)))) 9 (vp_nar .byte (w0 (Int32.toNatClampNeg 9)))) 10 (vp_nar .byte (w0 (Int32.toNatClampNeg 10)))) 11 (vp_nar .byte (w0 (Int32.toNatClampNeg 11))))))) 26 (ad 26, .inl ((ca 26), 60, .inl (upd (fun _ => 0) 0 p2)))) 27 (ad 27, .inl ((ca 27), 60, .inl (upd (fun _ => 0) 0 0)))) 31 (ad 31, .inl ((ca 31), 60, .inl (upd (fun _ => 0) 0 (-1))))) 32 (ad 32, .inl ((ca 32), 60, .inl (upd (fun _ => 0) 0 (-1))))) 35 (ad 35, .inl ((ca 35), 60, .inl (upd (fun _ => 0) 0 (-1))))) 36 (ad 36, .inl ((ca 36), 60, .inl (upd (fun _ => 0) 0 (-1))))))) (va_A ((jS (mW ad ca) 66 (ad 66, .inl ((ca 66), 12, .inl w0)))) sz)) 0 0 (va_A ((jS (mW ad ca) 66 (ad 66, .inl ((ca 66), 12, .inl w0)))) sz) := by
  refine Met.ofW (cc := cX13_newEntry) (maxL := 4) (ret := (some .int)) (by decide) rfl ?_
  intro p e s m args below meth c s₁ B hml hv
  obtain ⟨rfl, hsz, hP, hK, hD0⟩ := hv
  have hx := B.exec
  have hb := B.bytes
  have hr := B.returns
  have hts := atoms_spec (ws := (jk yX13_newEntry cX13_newEntry 4 (some .int))) B.pre
  have hown : s.vm.findClass RX13 = some m.cls := findClass_of_methodNamed B.named
  have hlocks := B.notSynchronized
  subst hsz
  have hD := hD0.self (sz := s.heap.size)
  generalize hAe : (va_A ((jS (mW ad ca) 66 (ad 66, .inl ((ca 66), 12, .inl w0)))) s.heap.size) = A at hD ⊢
  have hA : ∀ q : Nat, s.heap.size ≤ q → A q := fun q h => by rw [← hAe]; exact Or.inr h
  have hS : va_S A s.heap s.heap [] := va_S.rf
  have hP : va_P (dC, dI) vwCl ((jS (mW ad ca) 66 (ad 66, .inl ((ca 66), 12, .inl w0)))) s.heap := hP
  have hl := lv_entry ([.ref (ad 0), .int 0, .int p2]) (n := 4) (Nat.le_of_ble_eq_true rfl)
  rw [lg_entry_eq]
  generalize (lg_sl ([.ref (ad 0), .int 0, .int p2]) ++ List.replicate (4 - (lg_sl ([.ref (ad 0), .int 0, .int p2])).length) Slot.unset).toArray = ls at hl ⊢
  have hl : lv_has ls 4 [(0, .ref (ad 0)), (1, .int 0), (2, .int p2)] := hl
  refine lv_aload_n hx hb dX13_newEntry_0 rfl (lv_at hl 0 rfl) ?_
  refine va_get (D := (dC, dI)) (ci := 13) (v := .int 0) (C := RX13) (T := TX13) (N := 104) hx hb hts (jh hin_RX13) hown hK hP 0 rfl rfl 37 (by decide) (hts (.fieldLink RX13 418 "BookOfAllModel" "entries" "I") (jm m_535)) (fun _ h9 => h9) rfl dX13_newEntry_1 ?_
  refine lv_bipush (v := 60) hx hb dX13_newEntry_4 (by decide) ?_
  refine lv_icmp_ne (tgt := 11) hx hb dX13_newEntry_6 (by decide) (fun _ => ?_) (fun z => absurd z (by decide))
  refine lv_iconst (v := 0) hx hb dX13_newEntry_11 (by decide) ?_
  refine lv_istore_n (lv' := [(3, .int 0), (0, .ref (ad 0)), (1, .int 0), (2, .int p2)]) hx hb dX13_newEntry_12 rfl hl (by decide) rfl (fun ls hl => ?_)
  refine lv_iload_n hx hb dX13_newEntry_13 rfl (lv_at hl 0 rfl) ?_
  refine lv_bipush (v := 12) hx hb dX13_newEntry_14 (by decide) ?_
  refine lv_icmp_ge (tgt := 45) hx hb dX13_newEntry_16 (by decide) (fun z => absurd z (by decide)) (fun _ => ?_)
  refine lv_aload_n hx hb dX13_newEntry_19 rfl (lv_at hl 1 rfl) ?_
  refine va_get (D := (dC, dI)) (ci := 13) (v := .ref (ad 25)) (C := RX13) (T := TX13) (N := 104) hx hb hts (jh hin_RX13) hown hK hP 0 rfl rfl 38 (by decide) (hts (.fieldLink RX13 84 "BookOfAllModel" "heading" "[B") (jm m_27)) (fun _ h9 => h9) rfl dX13_newEntry_20 ?_
  refine lv_bipush (v := 12) hx hb dX13_newEntry_23 (by decide) ?_
  refine lv_aload_n hx hb dX13_newEntry_25 rfl (lv_at hl 1 rfl) ?_
  refine va_get (D := (dC, dI)) (ci := 13) (v := .int 0) (C := RX13) (T := TX13) (N := 104) hx hb hts (jh hin_RX13) hown hK hP 0 rfl rfl 37 (by decide) (hts (.fieldLink RX13 418 "BookOfAllModel" "entries" "I") (jm m_535)) (fun _ h9 => h9) rfl dX13_newEntry_26 ?_
  refine lv_imul hx hb dX13_newEntry_29 ?_
  refine jt_i 0 (by decide) ?_
  refine lv_iload_n hx hb dX13_newEntry_30 rfl (lv_at hl 0 rfl) ?_
  refine lv_iadd hx hb dX13_newEntry_31 ?_
  refine jt_i 0 (by decide) ?_
  refine lv_aload_n hx hb dX13_newEntry_32 rfl (lv_at hl 1 rfl) ?_
  refine va_get (D := (dC, dI)) (ci := 13) (v := .ref (ad 66)) (C := RX13) (T := TX13) (N := 104) hx hb hts (jh hin_RX13) hown hK hP 0 rfl rfl 84 (by decide) (hts (.fieldLink RX13 207 "BookOfAllModel" "told12" "[B") (jm m_68)) (fun _ h9 => h9) rfl dX13_newEntry_33 ?_
  refine lv_iload_n hx hb dX13_newEntry_36 rfl (lv_at hl 0 rfl) ?_
  refine va_bald hx hb hK hP 66 65 rfl rfl (vp_in_nI (n := 0) (by decide) (by decide)) dX13_newEntry_37 ?_
  refine jt_i (w0 (Int32.toNatClampNeg 0)) rfl ?_
  refine va_bast hx hb hK hP hD hS 25 24 rfl rfl (vp_in_nI (n := 0) (by decide) (by decide)) dX13_newEntry_38 (fun H locs hP hD hS => ?_)
  have hP := jrP hP (jx1 (Nat.ne_of_beq_eq_false rfl) rfl)
  have hD := jrD hD (jx1 (Nat.ne_of_beq_eq_false rfl) rfl)
  refine lv_iinc (v := 1) (lv' := [(3, .int 1), (0, .ref (ad 0)), (1, .int 0), (2, .int p2)]) hx hb dX13_newEntry_39 hl (k := 0) rfl (by decide) (by decide) rfl (fun ls hl => ?_)
  refine lv_goto (tgt := 13) hx hb dX13_newEntry_42 (by decide) ?_
  refine lv_iload_n hx hb dX13_newEntry_13 rfl (lv_at hl 0 rfl) ?_
  refine lv_bipush (v := 12) hx hb dX13_newEntry_14 (by decide) ?_
  refine lv_icmp_ge (tgt := 45) hx hb dX13_newEntry_16 (by decide) (fun z => absurd z (by decide)) (fun _ => ?_)
  refine lv_aload_n hx hb dX13_newEntry_19 rfl (lv_at hl 1 rfl) ?_
  refine va_get (D := (dC, dI)) (ci := 13) (v := .ref (ad 25)) (C := RX13) (T := TX13) (N := 104) hx hb hts (jh hin_RX13) hown hK hP 0 rfl rfl 38 (by decide) (hts (.fieldLink RX13 84 "BookOfAllModel" "heading" "[B") (jm m_27)) (fun _ h9 => h9) rfl dX13_newEntry_20 ?_
  refine lv_bipush (v := 12) hx hb dX13_newEntry_23 (by decide) ?_
  refine lv_aload_n hx hb dX13_newEntry_25 rfl (lv_at hl 1 rfl) ?_
  refine va_get (D := (dC, dI)) (ci := 13) (v := .int 0) (C := RX13) (T := TX13) (N := 104) hx hb hts (jh hin_RX13) hown hK hP 0 rfl rfl 37 (by decide) (hts (.fieldLink RX13 418 "BookOfAllModel" "entries" "I") (jm m_535)) (fun _ h9 => h9) rfl dX13_newEntry_26 ?_
  refine lv_imul hx hb dX13_newEntry_29 ?_
  refine jt_i 0 (by decide) ?_
  refine lv_iload_n hx hb dX13_newEntry_30 rfl (lv_at hl 0 rfl) ?_
  refine lv_iadd hx hb dX13_newEntry_31 ?_
  refine jt_i 1 (by decide) ?_
  refine lv_aload_n hx hb dX13_newEntry_32 rfl (lv_at hl 1 rfl) ?_
  refine va_get (D := (dC, dI)) (ci := 13) (v := .ref (ad 66)) (C := RX13) (T := TX13) (N := 104) hx hb hts (jh hin_RX13) hown hK hP 0 rfl rfl 84 (by decide) (hts (.fieldLink RX13 207 "BookOfAllModel" "told12" "[B") (jm m_68)) (fun _ h9 => h9) rfl dX13_newEntry_33 ?_
  refine lv_iload_n hx hb dX13_newEntry_36 rfl (lv_at hl 0 rfl) ?_
  refine va_bald hx hb hK hP 66 65 rfl rfl (vp_in_nI (n := 1) (by decide) (by decide)) dX13_newEntry_37 ?_
  refine jt_i (w0 (Int32.toNatClampNeg 1)) rfl ?_
  refine va_bast hx hb hK hP hD hS 25 24 rfl rfl (vp_in_nI (n := 1) (by decide) (by decide)) dX13_newEntry_38 (fun H locs hP hD hS => ?_)
  have hP := jrP hP (jx1 (Nat.ne_of_beq_eq_false rfl) jx0)
  have hD := jrD hD (jx1 (Nat.ne_of_beq_eq_false rfl) jx0)
  refine lv_iinc (v := 2) (lv' := [(3, .int 2), (0, .ref (ad 0)), (1, .int 0), (2, .int p2)]) hx hb dX13_newEntry_39 hl (k := 0) rfl (by decide) (by decide) rfl (fun ls hl => ?_)
  refine lv_goto (tgt := 13) hx hb dX13_newEntry_42 (by decide) ?_
  refine lv_iload_n hx hb dX13_newEntry_13 rfl (lv_at hl 0 rfl) ?_
  refine lv_bipush (v := 12) hx hb dX13_newEntry_14 (by decide) ?_
  refine lv_icmp_ge (tgt := 45) hx hb dX13_newEntry_16 (by decide) (fun z => absurd z (by decide)) (fun _ => ?_)
  refine lv_aload_n hx hb dX13_newEntry_19 rfl (lv_at hl 1 rfl) ?_
  refine va_get (D := (dC, dI)) (ci := 13) (v := .ref (ad 25)) (C := RX13) (T := TX13) (N := 104) hx hb hts (jh hin_RX13) hown hK hP 0 rfl rfl 38 (by decide) (hts (.fieldLink RX13 84 "BookOfAllModel" "heading" "[B") (jm m_27)) (fun _ h9 => h9) rfl dX13_newEntry_20 ?_
  refine lv_bipush (v := 12) hx hb dX13_newEntry_23 (by decide) ?_
  refine lv_aload_n hx hb dX13_newEntry_25 rfl (lv_at hl 1 rfl) ?_
  refine va_get (D := (dC, dI)) (ci := 13) (v := .int 0) (C := RX13) (T := TX13) (N := 104) hx hb hts (jh hin_RX13) hown hK hP 0 rfl rfl 37 (by decide) (hts (.fieldLink RX13 418 "BookOfAllModel" "entries" "I") (jm m_535)) (fun _ h9 => h9) rfl dX13_newEntry_26 ?_
  refine lv_imul hx hb dX13_newEntry_29 ?_
  refine jt_i 0 (by decide) ?_
  refine lv_iload_n hx hb dX13_newEntry_30 rfl (lv_at hl 0 rfl) ?_
  refine lv_iadd hx hb dX13_newEntry_31 ?_
  refine jt_i 2 (by decide) ?_
  refine lv_aload_n hx hb dX13_newEntry_32 rfl (lv_at hl 1 rfl) ?_
  refine va_get (D := (dC, dI)) (ci := 13) (v := .ref (ad 66)) (C := RX13) (T := TX13) (N := 104) hx hb hts (jh hin_RX13) hown hK hP 0 rfl rfl 84 (by decide) (hts (.fieldLink RX13 207 "BookOfAllModel" "told12" "[B") (jm m_68)) (fun _ h9 => h9) rfl dX13_newEntry_33 ?_
  refine lv_iload_n hx hb dX13_newEntry_36 rfl (lv_at hl 0 rfl) ?_
  refine va_bald hx hb hK hP 66 65 rfl rfl (vp_in_nI (n := 2) (by decide) (by decide)) dX13_newEntry_37 ?_
  refine jt_i (w0 (Int32.toNatClampNeg 2)) rfl ?_
  refine va_bast hx hb hK hP hD hS 25 24 rfl rfl (vp_in_nI (n := 2) (by decide) (by decide)) dX13_newEntry_38 (fun H locs hP hD hS => ?_)
  have hP := jrP hP (jx1 (Nat.ne_of_beq_eq_false rfl) jx0)
  have hD := jrD hD (jx1 (Nat.ne_of_beq_eq_false rfl) jx0)
  refine lv_iinc (v := 3) (lv' := [(3, .int 3), (0, .ref (ad 0)), (1, .int 0), (2, .int p2)]) hx hb dX13_newEntry_39 hl (k := 0) rfl (by decide) (by decide) rfl (fun ls hl => ?_)
  refine lv_goto (tgt := 13) hx hb dX13_newEntry_42 (by decide) ?_
  refine lv_iload_n hx hb dX13_newEntry_13 rfl (lv_at hl 0 rfl) ?_
  refine lv_bipush (v := 12) hx hb dX13_newEntry_14 (by decide) ?_
  refine lv_icmp_ge (tgt := 45) hx hb dX13_newEntry_16 (by decide) (fun z => absurd z (by decide)) (fun _ => ?_)
  refine lv_aload_n hx hb dX13_newEntry_19 rfl (lv_at hl 1 rfl) ?_
  refine va_get (D := (dC, dI)) (ci := 13) (v := .ref (ad 25)) (C := RX13) (T := TX13) (N := 104) hx hb hts (jh hin_RX13) hown hK hP 0 rfl rfl 38 (by decide) (hts (.fieldLink RX13 84 "BookOfAllModel" "heading" "[B") (jm m_27)) (fun _ h9 => h9) rfl dX13_newEntry_20 ?_
  refine lv_bipush (v := 12) hx hb dX13_newEntry_23 (by decide) ?_
  refine lv_aload_n hx hb dX13_newEntry_25 rfl (lv_at hl 1 rfl) ?_
  refine va_get (D := (dC, dI)) (ci := 13) (v := .int 0) (C := RX13) (T := TX13) (N := 104) hx hb hts (jh hin_RX13) hown hK hP 0 rfl rfl 37 (by decide) (hts (.fieldLink RX13 418 "BookOfAllModel" "entries" "I") (jm m_535)) (fun _ h9 => h9) rfl dX13_newEntry_26 ?_
  refine lv_imul hx hb dX13_newEntry_29 ?_
  refine jt_i 0 (by decide) ?_
  refine lv_iload_n hx hb dX13_newEntry_30 rfl (lv_at hl 0 rfl) ?_
  refine lv_iadd hx hb dX13_newEntry_31 ?_
  refine jt_i 3 (by decide) ?_
  refine lv_aload_n hx hb dX13_newEntry_32 rfl (lv_at hl 1 rfl) ?_
  refine va_get (D := (dC, dI)) (ci := 13) (v := .ref (ad 66)) (C := RX13) (T := TX13) (N := 104) hx hb hts (jh hin_RX13) hown hK hP 0 rfl rfl 84 (by decide) (hts (.fieldLink RX13 207 "BookOfAllModel" "told12" "[B") (jm m_68)) (fun _ h9 => h9) rfl dX13_newEntry_33 ?_
  refine lv_iload_n hx hb dX13_newEntry_36 rfl (lv_at hl 0 rfl) ?_
  refine va_bald hx hb hK hP 66 65 rfl rfl (vp_in_nI (n := 3) (by decide) (by decide)) dX13_newEntry_37 ?_
  refine jt_i (w0 (Int32.toNatClampNeg 3)) rfl ?_
  refine va_bast hx hb hK hP hD hS 25 24 rfl rfl (vp_in_nI (n := 3) (by decide) (by decide)) dX13_newEntry_38 (fun H locs hP hD hS => ?_)
  have hP := jrP hP (jx1 (Nat.ne_of_beq_eq_false rfl) jx0)
  have hD := jrD hD (jx1 (Nat.ne_of_beq_eq_false rfl) jx0)
  refine lv_iinc (v := 4) (lv' := [(3, .int 4), (0, .ref (ad 0)), (1, .int 0), (2, .int p2)]) hx hb dX13_newEntry_39 hl (k := 0) rfl (by decide) (by decide) rfl (fun ls hl => ?_)
  refine lv_goto (tgt := 13) hx hb dX13_newEntry_42 (by decide) ?_
  refine lv_iload_n hx hb dX13_newEntry_13 rfl (lv_at hl 0 rfl) ?_
  refine lv_bipush (v := 12) hx hb dX13_newEntry_14 (by decide) ?_
  refine lv_icmp_ge (tgt := 45) hx hb dX13_newEntry_16 (by decide) (fun z => absurd z (by decide)) (fun _ => ?_)
  refine lv_aload_n hx hb dX13_newEntry_19 rfl (lv_at hl 1 rfl) ?_
  refine va_get (D := (dC, dI)) (ci := 13) (v := .ref (ad 25)) (C := RX13) (T := TX13) (N := 104) hx hb hts (jh hin_RX13) hown hK hP 0 rfl rfl 38 (by decide) (hts (.fieldLink RX13 84 "BookOfAllModel" "heading" "[B") (jm m_27)) (fun _ h9 => h9) rfl dX13_newEntry_20 ?_
  refine lv_bipush (v := 12) hx hb dX13_newEntry_23 (by decide) ?_
  refine lv_aload_n hx hb dX13_newEntry_25 rfl (lv_at hl 1 rfl) ?_
  refine va_get (D := (dC, dI)) (ci := 13) (v := .int 0) (C := RX13) (T := TX13) (N := 104) hx hb hts (jh hin_RX13) hown hK hP 0 rfl rfl 37 (by decide) (hts (.fieldLink RX13 418 "BookOfAllModel" "entries" "I") (jm m_535)) (fun _ h9 => h9) rfl dX13_newEntry_26 ?_
  refine lv_imul hx hb dX13_newEntry_29 ?_
  refine jt_i 0 (by decide) ?_
  refine lv_iload_n hx hb dX13_newEntry_30 rfl (lv_at hl 0 rfl) ?_
  refine lv_iadd hx hb dX13_newEntry_31 ?_
  refine jt_i 4 (by decide) ?_
  refine lv_aload_n hx hb dX13_newEntry_32 rfl (lv_at hl 1 rfl) ?_
  refine va_get (D := (dC, dI)) (ci := 13) (v := .ref (ad 66)) (C := RX13) (T := TX13) (N := 104) hx hb hts (jh hin_RX13) hown hK hP 0 rfl rfl 84 (by decide) (hts (.fieldLink RX13 207 "BookOfAllModel" "told12" "[B") (jm m_68)) (fun _ h9 => h9) rfl dX13_newEntry_33 ?_
  refine lv_iload_n hx hb dX13_newEntry_36 rfl (lv_at hl 0 rfl) ?_
  refine va_bald hx hb hK hP 66 65 rfl rfl (vp_in_nI (n := 4) (by decide) (by decide)) dX13_newEntry_37 ?_
  refine jt_i (w0 (Int32.toNatClampNeg 4)) rfl ?_
  refine va_bast hx hb hK hP hD hS 25 24 rfl rfl (vp_in_nI (n := 4) (by decide) (by decide)) dX13_newEntry_38 (fun H locs hP hD hS => ?_)
  have hP := jrP hP (jx1 (Nat.ne_of_beq_eq_false rfl) jx0)
  have hD := jrD hD (jx1 (Nat.ne_of_beq_eq_false rfl) jx0)
  refine lv_iinc (v := 5) (lv' := [(3, .int 5), (0, .ref (ad 0)), (1, .int 0), (2, .int p2)]) hx hb dX13_newEntry_39 hl (k := 0) rfl (by decide) (by decide) rfl (fun ls hl => ?_)
  refine lv_goto (tgt := 13) hx hb dX13_newEntry_42 (by decide) ?_
  refine lv_iload_n hx hb dX13_newEntry_13 rfl (lv_at hl 0 rfl) ?_
  refine lv_bipush (v := 12) hx hb dX13_newEntry_14 (by decide) ?_
  refine lv_icmp_ge (tgt := 45) hx hb dX13_newEntry_16 (by decide) (fun z => absurd z (by decide)) (fun _ => ?_)
  refine lv_aload_n hx hb dX13_newEntry_19 rfl (lv_at hl 1 rfl) ?_
  refine va_get (D := (dC, dI)) (ci := 13) (v := .ref (ad 25)) (C := RX13) (T := TX13) (N := 104) hx hb hts (jh hin_RX13) hown hK hP 0 rfl rfl 38 (by decide) (hts (.fieldLink RX13 84 "BookOfAllModel" "heading" "[B") (jm m_27)) (fun _ h9 => h9) rfl dX13_newEntry_20 ?_
  refine lv_bipush (v := 12) hx hb dX13_newEntry_23 (by decide) ?_
  refine lv_aload_n hx hb dX13_newEntry_25 rfl (lv_at hl 1 rfl) ?_
  refine va_get (D := (dC, dI)) (ci := 13) (v := .int 0) (C := RX13) (T := TX13) (N := 104) hx hb hts (jh hin_RX13) hown hK hP 0 rfl rfl 37 (by decide) (hts (.fieldLink RX13 418 "BookOfAllModel" "entries" "I") (jm m_535)) (fun _ h9 => h9) rfl dX13_newEntry_26 ?_
  refine lv_imul hx hb dX13_newEntry_29 ?_
  refine jt_i 0 (by decide) ?_
  refine lv_iload_n hx hb dX13_newEntry_30 rfl (lv_at hl 0 rfl) ?_
  refine lv_iadd hx hb dX13_newEntry_31 ?_
  refine jt_i 5 (by decide) ?_
  refine lv_aload_n hx hb dX13_newEntry_32 rfl (lv_at hl 1 rfl) ?_
  refine va_get (D := (dC, dI)) (ci := 13) (v := .ref (ad 66)) (C := RX13) (T := TX13) (N := 104) hx hb hts (jh hin_RX13) hown hK hP 0 rfl rfl 84 (by decide) (hts (.fieldLink RX13 207 "BookOfAllModel" "told12" "[B") (jm m_68)) (fun _ h9 => h9) rfl dX13_newEntry_33 ?_
  refine lv_iload_n hx hb dX13_newEntry_36 rfl (lv_at hl 0 rfl) ?_
  refine va_bald hx hb hK hP 66 65 rfl rfl (vp_in_nI (n := 5) (by decide) (by decide)) dX13_newEntry_37 ?_
  refine jt_i (w0 (Int32.toNatClampNeg 5)) rfl ?_
  refine va_bast hx hb hK hP hD hS 25 24 rfl rfl (vp_in_nI (n := 5) (by decide) (by decide)) dX13_newEntry_38 (fun H locs hP hD hS => ?_)
  have hP := jrP hP (jx1 (Nat.ne_of_beq_eq_false rfl) jx0)
  have hD := jrD hD (jx1 (Nat.ne_of_beq_eq_false rfl) jx0)
  refine lv_iinc (v := 6) (lv' := [(3, .int 6), (0, .ref (ad 0)), (1, .int 0), (2, .int p2)]) hx hb dX13_newEntry_39 hl (k := 0) rfl (by decide) (by decide) rfl (fun ls hl => ?_)
  refine lv_goto (tgt := 13) hx hb dX13_newEntry_42 (by decide) ?_
  refine lv_iload_n hx hb dX13_newEntry_13 rfl (lv_at hl 0 rfl) ?_
  refine lv_bipush (v := 12) hx hb dX13_newEntry_14 (by decide) ?_
  refine lv_icmp_ge (tgt := 45) hx hb dX13_newEntry_16 (by decide) (fun z => absurd z (by decide)) (fun _ => ?_)
  refine lv_aload_n hx hb dX13_newEntry_19 rfl (lv_at hl 1 rfl) ?_
  refine va_get (D := (dC, dI)) (ci := 13) (v := .ref (ad 25)) (C := RX13) (T := TX13) (N := 104) hx hb hts (jh hin_RX13) hown hK hP 0 rfl rfl 38 (by decide) (hts (.fieldLink RX13 84 "BookOfAllModel" "heading" "[B") (jm m_27)) (fun _ h9 => h9) rfl dX13_newEntry_20 ?_
  refine lv_bipush (v := 12) hx hb dX13_newEntry_23 (by decide) ?_
  refine lv_aload_n hx hb dX13_newEntry_25 rfl (lv_at hl 1 rfl) ?_
  refine va_get (D := (dC, dI)) (ci := 13) (v := .int 0) (C := RX13) (T := TX13) (N := 104) hx hb hts (jh hin_RX13) hown hK hP 0 rfl rfl 37 (by decide) (hts (.fieldLink RX13 418 "BookOfAllModel" "entries" "I") (jm m_535)) (fun _ h9 => h9) rfl dX13_newEntry_26 ?_
  refine lv_imul hx hb dX13_newEntry_29 ?_
  refine jt_i 0 (by decide) ?_
  refine lv_iload_n hx hb dX13_newEntry_30 rfl (lv_at hl 0 rfl) ?_
  refine lv_iadd hx hb dX13_newEntry_31 ?_
  refine jt_i 6 (by decide) ?_
  refine lv_aload_n hx hb dX13_newEntry_32 rfl (lv_at hl 1 rfl) ?_
  refine va_get (D := (dC, dI)) (ci := 13) (v := .ref (ad 66)) (C := RX13) (T := TX13) (N := 104) hx hb hts (jh hin_RX13) hown hK hP 0 rfl rfl 84 (by decide) (hts (.fieldLink RX13 207 "BookOfAllModel" "told12" "[B") (jm m_68)) (fun _ h9 => h9) rfl dX13_newEntry_33 ?_
  refine lv_iload_n hx hb dX13_newEntry_36 rfl (lv_at hl 0 rfl) ?_
  refine va_bald hx hb hK hP 66 65 rfl rfl (vp_in_nI (n := 6) (by decide) (by decide)) dX13_newEntry_37 ?_
  refine jt_i (w0 (Int32.toNatClampNeg 6)) rfl ?_
  refine va_bast hx hb hK hP hD hS 25 24 rfl rfl (vp_in_nI (n := 6) (by decide) (by decide)) dX13_newEntry_38 (fun H locs hP hD hS => ?_)
  have hP := jrP hP (jx1 (Nat.ne_of_beq_eq_false rfl) jx0)
  have hD := jrD hD (jx1 (Nat.ne_of_beq_eq_false rfl) jx0)
  refine lv_iinc (v := 7) (lv' := [(3, .int 7), (0, .ref (ad 0)), (1, .int 0), (2, .int p2)]) hx hb dX13_newEntry_39 hl (k := 0) rfl (by decide) (by decide) rfl (fun ls hl => ?_)
  refine lv_goto (tgt := 13) hx hb dX13_newEntry_42 (by decide) ?_
  refine lv_iload_n hx hb dX13_newEntry_13 rfl (lv_at hl 0 rfl) ?_
  refine lv_bipush (v := 12) hx hb dX13_newEntry_14 (by decide) ?_
  refine lv_icmp_ge (tgt := 45) hx hb dX13_newEntry_16 (by decide) (fun z => absurd z (by decide)) (fun _ => ?_)
  refine lv_aload_n hx hb dX13_newEntry_19 rfl (lv_at hl 1 rfl) ?_
  refine va_get (D := (dC, dI)) (ci := 13) (v := .ref (ad 25)) (C := RX13) (T := TX13) (N := 104) hx hb hts (jh hin_RX13) hown hK hP 0 rfl rfl 38 (by decide) (hts (.fieldLink RX13 84 "BookOfAllModel" "heading" "[B") (jm m_27)) (fun _ h9 => h9) rfl dX13_newEntry_20 ?_
  refine lv_bipush (v := 12) hx hb dX13_newEntry_23 (by decide) ?_
  refine lv_aload_n hx hb dX13_newEntry_25 rfl (lv_at hl 1 rfl) ?_
  refine va_get (D := (dC, dI)) (ci := 13) (v := .int 0) (C := RX13) (T := TX13) (N := 104) hx hb hts (jh hin_RX13) hown hK hP 0 rfl rfl 37 (by decide) (hts (.fieldLink RX13 418 "BookOfAllModel" "entries" "I") (jm m_535)) (fun _ h9 => h9) rfl dX13_newEntry_26 ?_
  refine lv_imul hx hb dX13_newEntry_29 ?_
  refine jt_i 0 (by decide) ?_
  refine lv_iload_n hx hb dX13_newEntry_30 rfl (lv_at hl 0 rfl) ?_
  refine lv_iadd hx hb dX13_newEntry_31 ?_
  refine jt_i 7 (by decide) ?_
  refine lv_aload_n hx hb dX13_newEntry_32 rfl (lv_at hl 1 rfl) ?_
  refine va_get (D := (dC, dI)) (ci := 13) (v := .ref (ad 66)) (C := RX13) (T := TX13) (N := 104) hx hb hts (jh hin_RX13) hown hK hP 0 rfl rfl 84 (by decide) (hts (.fieldLink RX13 207 "BookOfAllModel" "told12" "[B") (jm m_68)) (fun _ h9 => h9) rfl dX13_newEntry_33 ?_
  refine lv_iload_n hx hb dX13_newEntry_36 rfl (lv_at hl 0 rfl) ?_
  refine va_bald hx hb hK hP 66 65 rfl rfl (vp_in_nI (n := 7) (by decide) (by decide)) dX13_newEntry_37 ?_
  refine jt_i (w0 (Int32.toNatClampNeg 7)) rfl ?_
  refine va_bast hx hb hK hP hD hS 25 24 rfl rfl (vp_in_nI (n := 7) (by decide) (by decide)) dX13_newEntry_38 (fun H locs hP hD hS => ?_)
  have hP := jrP hP (jx1 (Nat.ne_of_beq_eq_false rfl) jx0)
  have hD := jrD hD (jx1 (Nat.ne_of_beq_eq_false rfl) jx0)
  refine lv_iinc (v := 8) (lv' := [(3, .int 8), (0, .ref (ad 0)), (1, .int 0), (2, .int p2)]) hx hb dX13_newEntry_39 hl (k := 0) rfl (by decide) (by decide) rfl (fun ls hl => ?_)
  refine lv_goto (tgt := 13) hx hb dX13_newEntry_42 (by decide) ?_
  refine lv_iload_n hx hb dX13_newEntry_13 rfl (lv_at hl 0 rfl) ?_
  refine lv_bipush (v := 12) hx hb dX13_newEntry_14 (by decide) ?_
  refine lv_icmp_ge (tgt := 45) hx hb dX13_newEntry_16 (by decide) (fun z => absurd z (by decide)) (fun _ => ?_)
  refine lv_aload_n hx hb dX13_newEntry_19 rfl (lv_at hl 1 rfl) ?_
  refine va_get (D := (dC, dI)) (ci := 13) (v := .ref (ad 25)) (C := RX13) (T := TX13) (N := 104) hx hb hts (jh hin_RX13) hown hK hP 0 rfl rfl 38 (by decide) (hts (.fieldLink RX13 84 "BookOfAllModel" "heading" "[B") (jm m_27)) (fun _ h9 => h9) rfl dX13_newEntry_20 ?_
  refine lv_bipush (v := 12) hx hb dX13_newEntry_23 (by decide) ?_
  refine lv_aload_n hx hb dX13_newEntry_25 rfl (lv_at hl 1 rfl) ?_
  refine va_get (D := (dC, dI)) (ci := 13) (v := .int 0) (C := RX13) (T := TX13) (N := 104) hx hb hts (jh hin_RX13) hown hK hP 0 rfl rfl 37 (by decide) (hts (.fieldLink RX13 418 "BookOfAllModel" "entries" "I") (jm m_535)) (fun _ h9 => h9) rfl dX13_newEntry_26 ?_
  refine lv_imul hx hb dX13_newEntry_29 ?_
  refine jt_i 0 (by decide) ?_
  refine lv_iload_n hx hb dX13_newEntry_30 rfl (lv_at hl 0 rfl) ?_
  refine lv_iadd hx hb dX13_newEntry_31 ?_
  refine jt_i 8 (by decide) ?_
  refine lv_aload_n hx hb dX13_newEntry_32 rfl (lv_at hl 1 rfl) ?_
  refine va_get (D := (dC, dI)) (ci := 13) (v := .ref (ad 66)) (C := RX13) (T := TX13) (N := 104) hx hb hts (jh hin_RX13) hown hK hP 0 rfl rfl 84 (by decide) (hts (.fieldLink RX13 207 "BookOfAllModel" "told12" "[B") (jm m_68)) (fun _ h9 => h9) rfl dX13_newEntry_33 ?_
  refine lv_iload_n hx hb dX13_newEntry_36 rfl (lv_at hl 0 rfl) ?_
  refine va_bald hx hb hK hP 66 65 rfl rfl (vp_in_nI (n := 8) (by decide) (by decide)) dX13_newEntry_37 ?_
  refine jt_i (w0 (Int32.toNatClampNeg 8)) rfl ?_
  refine va_bast hx hb hK hP hD hS 25 24 rfl rfl (vp_in_nI (n := 8) (by decide) (by decide)) dX13_newEntry_38 (fun H locs hP hD hS => ?_)
  have hP := jrP hP (jx1 (Nat.ne_of_beq_eq_false rfl) jx0)
  have hD := jrD hD (jx1 (Nat.ne_of_beq_eq_false rfl) jx0)
  refine lv_iinc (v := 9) (lv' := [(3, .int 9), (0, .ref (ad 0)), (1, .int 0), (2, .int p2)]) hx hb dX13_newEntry_39 hl (k := 0) rfl (by decide) (by decide) rfl (fun ls hl => ?_)
  refine lv_goto (tgt := 13) hx hb dX13_newEntry_42 (by decide) ?_
  refine lv_iload_n hx hb dX13_newEntry_13 rfl (lv_at hl 0 rfl) ?_
  refine lv_bipush (v := 12) hx hb dX13_newEntry_14 (by decide) ?_
  refine lv_icmp_ge (tgt := 45) hx hb dX13_newEntry_16 (by decide) (fun z => absurd z (by decide)) (fun _ => ?_)
  refine lv_aload_n hx hb dX13_newEntry_19 rfl (lv_at hl 1 rfl) ?_
  refine va_get (D := (dC, dI)) (ci := 13) (v := .ref (ad 25)) (C := RX13) (T := TX13) (N := 104) hx hb hts (jh hin_RX13) hown hK hP 0 rfl rfl 38 (by decide) (hts (.fieldLink RX13 84 "BookOfAllModel" "heading" "[B") (jm m_27)) (fun _ h9 => h9) rfl dX13_newEntry_20 ?_
  refine lv_bipush (v := 12) hx hb dX13_newEntry_23 (by decide) ?_
  refine lv_aload_n hx hb dX13_newEntry_25 rfl (lv_at hl 1 rfl) ?_
  refine va_get (D := (dC, dI)) (ci := 13) (v := .int 0) (C := RX13) (T := TX13) (N := 104) hx hb hts (jh hin_RX13) hown hK hP 0 rfl rfl 37 (by decide) (hts (.fieldLink RX13 418 "BookOfAllModel" "entries" "I") (jm m_535)) (fun _ h9 => h9) rfl dX13_newEntry_26 ?_
  refine lv_imul hx hb dX13_newEntry_29 ?_
  refine jt_i 0 (by decide) ?_
  refine lv_iload_n hx hb dX13_newEntry_30 rfl (lv_at hl 0 rfl) ?_
  refine lv_iadd hx hb dX13_newEntry_31 ?_
  refine jt_i 9 (by decide) ?_
  refine lv_aload_n hx hb dX13_newEntry_32 rfl (lv_at hl 1 rfl) ?_
  refine va_get (D := (dC, dI)) (ci := 13) (v := .ref (ad 66)) (C := RX13) (T := TX13) (N := 104) hx hb hts (jh hin_RX13) hown hK hP 0 rfl rfl 84 (by decide) (hts (.fieldLink RX13 207 "BookOfAllModel" "told12" "[B") (jm m_68)) (fun _ h9 => h9) rfl dX13_newEntry_33 ?_
  refine lv_iload_n hx hb dX13_newEntry_36 rfl (lv_at hl 0 rfl) ?_
  refine va_bald hx hb hK hP 66 65 rfl rfl (vp_in_nI (n := 9) (by decide) (by decide)) dX13_newEntry_37 ?_
  refine jt_i (w0 (Int32.toNatClampNeg 9)) rfl ?_
  refine va_bast hx hb hK hP hD hS 25 24 rfl rfl (vp_in_nI (n := 9) (by decide) (by decide)) dX13_newEntry_38 (fun H locs hP hD hS => ?_)
  have hP := jrP hP (jx1 (Nat.ne_of_beq_eq_false rfl) jx0)
  have hD := jrD hD (jx1 (Nat.ne_of_beq_eq_false rfl) jx0)
  refine lv_iinc (v := 10) (lv' := [(3, .int 10), (0, .ref (ad 0)), (1, .int 0), (2, .int p2)]) hx hb dX13_newEntry_39 hl (k := 0) rfl (by decide) (by decide) rfl (fun ls hl => ?_)
  refine lv_goto (tgt := 13) hx hb dX13_newEntry_42 (by decide) ?_
  refine lv_iload_n hx hb dX13_newEntry_13 rfl (lv_at hl 0 rfl) ?_
  refine lv_bipush (v := 12) hx hb dX13_newEntry_14 (by decide) ?_
  refine lv_icmp_ge (tgt := 45) hx hb dX13_newEntry_16 (by decide) (fun z => absurd z (by decide)) (fun _ => ?_)
  refine lv_aload_n hx hb dX13_newEntry_19 rfl (lv_at hl 1 rfl) ?_
  refine va_get (D := (dC, dI)) (ci := 13) (v := .ref (ad 25)) (C := RX13) (T := TX13) (N := 104) hx hb hts (jh hin_RX13) hown hK hP 0 rfl rfl 38 (by decide) (hts (.fieldLink RX13 84 "BookOfAllModel" "heading" "[B") (jm m_27)) (fun _ h9 => h9) rfl dX13_newEntry_20 ?_
  refine lv_bipush (v := 12) hx hb dX13_newEntry_23 (by decide) ?_
  refine lv_aload_n hx hb dX13_newEntry_25 rfl (lv_at hl 1 rfl) ?_
  refine va_get (D := (dC, dI)) (ci := 13) (v := .int 0) (C := RX13) (T := TX13) (N := 104) hx hb hts (jh hin_RX13) hown hK hP 0 rfl rfl 37 (by decide) (hts (.fieldLink RX13 418 "BookOfAllModel" "entries" "I") (jm m_535)) (fun _ h9 => h9) rfl dX13_newEntry_26 ?_
  refine lv_imul hx hb dX13_newEntry_29 ?_
  refine jt_i 0 (by decide) ?_
  refine lv_iload_n hx hb dX13_newEntry_30 rfl (lv_at hl 0 rfl) ?_
  refine lv_iadd hx hb dX13_newEntry_31 ?_
  refine jt_i 10 (by decide) ?_
  refine lv_aload_n hx hb dX13_newEntry_32 rfl (lv_at hl 1 rfl) ?_
  refine va_get (D := (dC, dI)) (ci := 13) (v := .ref (ad 66)) (C := RX13) (T := TX13) (N := 104) hx hb hts (jh hin_RX13) hown hK hP 0 rfl rfl 84 (by decide) (hts (.fieldLink RX13 207 "BookOfAllModel" "told12" "[B") (jm m_68)) (fun _ h9 => h9) rfl dX13_newEntry_33 ?_
  refine lv_iload_n hx hb dX13_newEntry_36 rfl (lv_at hl 0 rfl) ?_
  refine va_bald hx hb hK hP 66 65 rfl rfl (vp_in_nI (n := 10) (by decide) (by decide)) dX13_newEntry_37 ?_
  refine jt_i (w0 (Int32.toNatClampNeg 10)) rfl ?_
  refine va_bast hx hb hK hP hD hS 25 24 rfl rfl (vp_in_nI (n := 10) (by decide) (by decide)) dX13_newEntry_38 (fun H locs hP hD hS => ?_)
  have hP := jrP hP (jx1 (Nat.ne_of_beq_eq_false rfl) jx0)
  have hD := jrD hD (jx1 (Nat.ne_of_beq_eq_false rfl) jx0)
  refine lv_iinc (v := 11) (lv' := [(3, .int 11), (0, .ref (ad 0)), (1, .int 0), (2, .int p2)]) hx hb dX13_newEntry_39 hl (k := 0) rfl (by decide) (by decide) rfl (fun ls hl => ?_)
  refine lv_goto (tgt := 13) hx hb dX13_newEntry_42 (by decide) ?_
  refine lv_iload_n hx hb dX13_newEntry_13 rfl (lv_at hl 0 rfl) ?_
  refine lv_bipush (v := 12) hx hb dX13_newEntry_14 (by decide) ?_
  refine lv_icmp_ge (tgt := 45) hx hb dX13_newEntry_16 (by decide) (fun z => absurd z (by decide)) (fun _ => ?_)
  refine lv_aload_n hx hb dX13_newEntry_19 rfl (lv_at hl 1 rfl) ?_
  refine va_get (D := (dC, dI)) (ci := 13) (v := .ref (ad 25)) (C := RX13) (T := TX13) (N := 104) hx hb hts (jh hin_RX13) hown hK hP 0 rfl rfl 38 (by decide) (hts (.fieldLink RX13 84 "BookOfAllModel" "heading" "[B") (jm m_27)) (fun _ h9 => h9) rfl dX13_newEntry_20 ?_
  refine lv_bipush (v := 12) hx hb dX13_newEntry_23 (by decide) ?_
  refine lv_aload_n hx hb dX13_newEntry_25 rfl (lv_at hl 1 rfl) ?_
  refine va_get (D := (dC, dI)) (ci := 13) (v := .int 0) (C := RX13) (T := TX13) (N := 104) hx hb hts (jh hin_RX13) hown hK hP 0 rfl rfl 37 (by decide) (hts (.fieldLink RX13 418 "BookOfAllModel" "entries" "I") (jm m_535)) (fun _ h9 => h9) rfl dX13_newEntry_26 ?_
  refine lv_imul hx hb dX13_newEntry_29 ?_
  refine jt_i 0 (by decide) ?_
  refine lv_iload_n hx hb dX13_newEntry_30 rfl (lv_at hl 0 rfl) ?_
  refine lv_iadd hx hb dX13_newEntry_31 ?_
  refine jt_i 11 (by decide) ?_
  refine lv_aload_n hx hb dX13_newEntry_32 rfl (lv_at hl 1 rfl) ?_
  refine va_get (D := (dC, dI)) (ci := 13) (v := .ref (ad 66)) (C := RX13) (T := TX13) (N := 104) hx hb hts (jh hin_RX13) hown hK hP 0 rfl rfl 84 (by decide) (hts (.fieldLink RX13 207 "BookOfAllModel" "told12" "[B") (jm m_68)) (fun _ h9 => h9) rfl dX13_newEntry_33 ?_
  refine lv_iload_n hx hb dX13_newEntry_36 rfl (lv_at hl 0 rfl) ?_
  refine va_bald hx hb hK hP 66 65 rfl rfl (vp_in_nI (n := 11) (by decide) (by decide)) dX13_newEntry_37 ?_
  refine jt_i (w0 (Int32.toNatClampNeg 11)) rfl ?_
  refine va_bast hx hb hK hP hD hS 25 24 rfl rfl (vp_in_nI (n := 11) (by decide) (by decide)) dX13_newEntry_38 (fun H locs hP hD hS => ?_)
  have hP := jrP hP (jx1 (Nat.ne_of_beq_eq_false rfl) jx0)
  have hD := jrD hD (jx1 (Nat.ne_of_beq_eq_false rfl) jx0)
  refine lv_iinc (v := 12) (lv' := [(3, .int 12), (0, .ref (ad 0)), (1, .int 0), (2, .int p2)]) hx hb dX13_newEntry_39 hl (k := 0) rfl (by decide) (by decide) rfl (fun ls hl => ?_)
  refine lv_goto (tgt := 13) hx hb dX13_newEntry_42 (by decide) ?_
  refine lv_iload_n hx hb dX13_newEntry_13 rfl (lv_at hl 0 rfl) ?_
  refine lv_bipush (v := 12) hx hb dX13_newEntry_14 (by decide) ?_
  refine lv_icmp_ge (tgt := 45) hx hb dX13_newEntry_16 (by decide) (fun _ => ?_) (fun z => absurd (by decide) z)
  refine lv_aload_n hx hb dX13_newEntry_45 rfl (lv_at hl 1 rfl) ?_
  refine va_get (D := (dC, dI)) (ci := 13) (v := .ref (ad 26)) (C := RX13) (T := TX13) (N := 104) hx hb hts (jh hin_RX13) hown hK hP 0 rfl rfl 39 (by decide) (hts (.fieldLink RX13 87 "BookOfAllModel" "headingLong" "[I") (jm m_28)) (fun _ h9 => h9) rfl dX13_newEntry_46 ?_
  refine lv_aload_n hx hb dX13_newEntry_49 rfl (lv_at hl 1 rfl) ?_
  refine va_get (D := (dC, dI)) (ci := 13) (v := .int 0) (C := RX13) (T := TX13) (N := 104) hx hb hts (jh hin_RX13) hown hK hP 0 rfl rfl 37 (by decide) (hts (.fieldLink RX13 418 "BookOfAllModel" "entries" "I") (jm m_535)) (fun _ h9 => h9) rfl dX13_newEntry_50 ?_
  refine lv_iload_n hx hb dX13_newEntry_53 rfl (lv_at hl 3 rfl) ?_
  refine va_iast hx hb hK hP hD hS 26 25 rfl rfl (vp_in_nI (n := 0) (by decide) (by decide)) dX13_newEntry_54 (fun H locs hP hD hS => ?_)
  have hP := jrP hP (jx1 (Nat.ne_of_beq_eq_false rfl) rfl)
  have hD := jrD hD (jx1 (Nat.ne_of_beq_eq_false rfl) rfl)
  refine lv_aload_n hx hb dX13_newEntry_55 rfl (lv_at hl 1 rfl) ?_
  refine va_get (D := (dC, dI)) (ci := 13) (v := .ref (ad 27)) (C := RX13) (T := TX13) (N := 104) hx hb hts (jh hin_RX13) hown hK hP 0 rfl rfl 40 (by decide) (hts (.fieldLink RX13 90 "BookOfAllModel" "kind" "[I") (jm m_29)) (fun _ h9 => h9) rfl dX13_newEntry_56 ?_
  refine lv_aload_n hx hb dX13_newEntry_59 rfl (lv_at hl 1 rfl) ?_
  refine va_get (D := (dC, dI)) (ci := 13) (v := .int 0) (C := RX13) (T := TX13) (N := 104) hx hb hts (jh hin_RX13) hown hK hP 0 rfl rfl 37 (by decide) (hts (.fieldLink RX13 418 "BookOfAllModel" "entries" "I") (jm m_535)) (fun _ h9 => h9) rfl dX13_newEntry_60 ?_
  refine lv_iload_n hx hb dX13_newEntry_63 rfl (lv_at hl 2 rfl) ?_
  refine va_iast hx hb hK hP hD hS 27 26 rfl rfl (vp_in_nI (n := 0) (by decide) (by decide)) dX13_newEntry_64 (fun H locs hP hD hS => ?_)
  have hP := jrP hP (jx1 (Nat.ne_of_beq_eq_false rfl) rfl)
  have hD := jrD hD (jx1 (Nat.ne_of_beq_eq_false rfl) rfl)
  refine lv_aload_n hx hb dX13_newEntry_65 rfl (lv_at hl 1 rfl) ?_
  refine va_get (D := (dC, dI)) (ci := 13) (v := .ref (ad 31)) (C := RX13) (T := TX13) (N := 104) hx hb hts (jh hin_RX13) hown hK hP 0 rfl rfl 44 (by decide) (hts (.fieldLink RX13 102 "BookOfAllModel" "leads" "[I") (jm m_33)) (fun _ h9 => h9) rfl dX13_newEntry_66 ?_
  refine lv_aload_n hx hb dX13_newEntry_69 rfl (lv_at hl 1 rfl) ?_
  refine va_get (D := (dC, dI)) (ci := 13) (v := .int 0) (C := RX13) (T := TX13) (N := 104) hx hb hts (jh hin_RX13) hown hK hP 0 rfl rfl 37 (by decide) (hts (.fieldLink RX13 418 "BookOfAllModel" "entries" "I") (jm m_535)) (fun _ h9 => h9) rfl dX13_newEntry_70 ?_
  refine lv_iconst (v := (-1)) hx hb dX13_newEntry_73 (by decide) ?_
  refine va_iast hx hb hK hP hD hS 31 30 rfl rfl (vp_in_nI (n := 0) (by decide) (by decide)) dX13_newEntry_74 (fun H locs hP hD hS => ?_)
  have hP := jrP hP (jx1 (Nat.ne_of_beq_eq_false rfl) rfl)
  have hD := jrD hD (jx1 (Nat.ne_of_beq_eq_false rfl) rfl)
  refine lv_aload_n hx hb dX13_newEntry_75 rfl (lv_at hl 1 rfl) ?_
  refine va_get (D := (dC, dI)) (ci := 13) (v := .ref (ad 32)) (C := RX13) (T := TX13) (N := 104) hx hb hts (jh hin_RX13) hown hK hP 0 rfl rfl 45 (by decide) (hts (.fieldLink RX13 105 "BookOfAllModel" "givenTo" "[I") (jm m_34)) (fun _ h9 => h9) rfl dX13_newEntry_76 ?_
  refine lv_aload_n hx hb dX13_newEntry_79 rfl (lv_at hl 1 rfl) ?_
  refine va_get (D := (dC, dI)) (ci := 13) (v := .int 0) (C := RX13) (T := TX13) (N := 104) hx hb hts (jh hin_RX13) hown hK hP 0 rfl rfl 37 (by decide) (hts (.fieldLink RX13 418 "BookOfAllModel" "entries" "I") (jm m_535)) (fun _ h9 => h9) rfl dX13_newEntry_80 ?_
  refine lv_iconst (v := (-1)) hx hb dX13_newEntry_83 (by decide) ?_
  refine va_iast hx hb hK hP hD hS 32 31 rfl rfl (vp_in_nI (n := 0) (by decide) (by decide)) dX13_newEntry_84 (fun H locs hP hD hS => ?_)
  have hP := jrP hP (jx1 (Nat.ne_of_beq_eq_false rfl) rfl)
  have hD := jrD hD (jx1 (Nat.ne_of_beq_eq_false rfl) rfl)
  refine lv_aload_n hx hb dX13_newEntry_85 rfl (lv_at hl 1 rfl) ?_
  refine va_get (D := (dC, dI)) (ci := 13) (v := .ref (ad 35)) (C := RX13) (T := TX13) (N := 104) hx hb hts (jh hin_RX13) hown hK hP 0 rfl rfl 48 (by decide) (hts (.fieldLink RX13 114 "BookOfAllModel" "setWith" "[I") (jm m_37)) (fun _ h9 => h9) rfl dX13_newEntry_86 ?_
  refine lv_aload_n hx hb dX13_newEntry_89 rfl (lv_at hl 1 rfl) ?_
  refine va_get (D := (dC, dI)) (ci := 13) (v := .int 0) (C := RX13) (T := TX13) (N := 104) hx hb hts (jh hin_RX13) hown hK hP 0 rfl rfl 37 (by decide) (hts (.fieldLink RX13 418 "BookOfAllModel" "entries" "I") (jm m_535)) (fun _ h9 => h9) rfl dX13_newEntry_90 ?_
  refine lv_iconst (v := (-1)) hx hb dX13_newEntry_93 (by decide) ?_
  refine va_iast hx hb hK hP hD hS 35 34 rfl rfl (vp_in_nI (n := 0) (by decide) (by decide)) dX13_newEntry_94 (fun H locs hP hD hS => ?_)
  have hP := jrP hP (jx1 (Nat.ne_of_beq_eq_false rfl) rfl)
  have hD := jrD hD (jx1 (Nat.ne_of_beq_eq_false rfl) rfl)
  refine lv_aload_n hx hb dX13_newEntry_95 rfl (lv_at hl 1 rfl) ?_
  refine va_get (D := (dC, dI)) (ci := 13) (v := .ref (ad 36)) (C := RX13) (T := TX13) (N := 104) hx hb hts (jh hin_RX13) hown hK hP 0 rfl rfl 49 (by decide) (hts (.fieldLink RX13 117 "BookOfAllModel" "pageOf" "[I") (jm m_38)) (fun _ h9 => h9) rfl dX13_newEntry_96 ?_
  refine lv_aload_n hx hb dX13_newEntry_99 rfl (lv_at hl 1 rfl) ?_
  refine va_get (D := (dC, dI)) (ci := 13) (v := .int 0) (C := RX13) (T := TX13) (N := 104) hx hb hts (jh hin_RX13) hown hK hP 0 rfl rfl 37 (by decide) (hts (.fieldLink RX13 418 "BookOfAllModel" "entries" "I") (jm m_535)) (fun _ h9 => h9) rfl dX13_newEntry_100 ?_
  refine lv_iconst (v := (-1)) hx hb dX13_newEntry_103 (by decide) ?_
  refine va_iast hx hb hK hP hD hS 36 35 rfl rfl (vp_in_nI (n := 0) (by decide) (by decide)) dX13_newEntry_104 (fun H locs hP hD hS => ?_)
  have hP := jrP hP (jx1 (Nat.ne_of_beq_eq_false rfl) rfl)
  have hD := jrD hD (jx1 (Nat.ne_of_beq_eq_false rfl) rfl)
  refine lv_aload_n hx hb dX13_newEntry_105 rfl (lv_at hl 1 rfl) ?_
  refine lv_dup hx hb dX13_newEntry_106 rfl ?_
  refine va_get (D := (dC, dI)) (ci := 13) (v := .int 0) (C := RX13) (T := TX13) (N := 104) hx hb hts (jh hin_RX13) hown hK hP 0 rfl rfl 37 (by decide) (hts (.fieldLink RX13 418 "BookOfAllModel" "entries" "I") (jm m_535)) (fun _ h9 => h9) rfl dX13_newEntry_107 ?_
  refine lv_iconst (v := 1) hx hb dX13_newEntry_110 (by decide) ?_
  refine lv_iadd hx hb dX13_newEntry_111 ?_
  refine jt_i 1 (by decide) ?_
  refine va_put (D := (dC, dI)) (ci := 13) (v := .int 1) (ty := .int) (C := RX13) (T := TX13) (N := 104) hx hb hts (jh hin_RX13) tyX13 tyX13_ok nmX13 hown hK hP hD hS 0 rfl rfl 37 (by decide) (hts (.fieldLink RX13 418 "BookOfAllModel" "entries" "I") (jm m_535)) (fun _ h9 => h9) rfl (by decide +kernel) rfl rfl (Nat.le_of_ble_eq_true rfl) dX13_newEntry_112 (fun H locs hP hD hS => ?_)
  have hP := jrP hP (jx1 (Nat.ne_of_beq_eq_false rfl) (jx1 (Nat.ne_of_beq_eq_false rfl) (jx1 (Nat.ne_of_beq_eq_false rfl) (jx1 (Nat.ne_of_beq_eq_false rfl) (jx1 (Nat.ne_of_beq_eq_false rfl) (jx1 (Nat.ne_of_beq_eq_false rfl) (jx1 (Nat.ne_of_beq_eq_false rfl) (jx1 (Nat.ne_of_beq_eq_false rfl) rfl))))))))
  have hD := jrD hD (jx1 (Nat.ne_of_beq_eq_false rfl) (jx1 (Nat.ne_of_beq_eq_false rfl) (jx1 (Nat.ne_of_beq_eq_false rfl) (jx1 (Nat.ne_of_beq_eq_false rfl) (jx1 (Nat.ne_of_beq_eq_false rfl) (jx1 (Nat.ne_of_beq_eq_false rfl) (jx1 (Nat.ne_of_beq_eq_false rfl) (jx1 (Nat.ne_of_beq_eq_false rfl) rfl))))))))
  refine lv_aload_n hx hb dX13_newEntry_115 rfl (lv_at hl 1 rfl) ?_
  refine va_get (D := (dC, dI)) (ci := 13) (v := .int 1) (C := RX13) (T := TX13) (N := 104) hx hb hts (jh hin_RX13) hown hK hP 0 (jg_n (Nat.ne_of_beq_eq_false rfl) (jg_n (Nat.ne_of_beq_eq_false rfl) (jg_n (Nat.ne_of_beq_eq_false rfl) (jg_n (Nat.ne_of_beq_eq_false rfl) (jg_n (Nat.ne_of_beq_eq_false rfl) (jg_n (Nat.ne_of_beq_eq_false rfl) (jg_n (Nat.ne_of_beq_eq_false rfl) (jg_n (Nat.ne_of_beq_eq_false rfl) (jg_s (n := 79) rfl (Nat.le_of_ble_eq_true rfl)))))))))) rfl 37 (by decide) (hts (.fieldLink RX13 418 "BookOfAllModel" "entries" "I") (jm m_535)) (fun _ h9 => h9) rfl dX13_newEntry_116 ?_
  refine lv_iconst (v := 1) hx hb dX13_newEntry_119 (by decide) ?_
  refine lv_isub hx hb dX13_newEntry_120 ?_
  refine jt_i 0 (by decide) ?_
  exact W.iret (v := 0) hx hb hr (fun t ht hW => ⟨⟨0, (), rfl, rfl, by rw [ht]; exact hP, va_K.moved hW.alike hK, hD⟩, hS.F ht⟩) hS.2.2 dX13_newEntry_121
theorem s_tX13_article_0 {p1 p2 p3 p4 : Int32} (c_2 : jN p1 p2 p3 = 0) : (-1) = sp_article p1 p2 p3 p4 := by
  unfold sp_article
  have g0 := c_2
  split <;> first | rfl | (exfalso; omega)
theorem s_tX13_article_1 {p1 p2 p3 p4 : Int32} (c_2 : ¬ (jN p1 p2 p3 = 0)) (c_3 : p4 < 0) : (-1) = sp_article p1 p2 p3 p4 := by
  unfold sp_article
  have g0 := c_2
  have g1 : p4.toInt < 0 := ji_lt.mp c_3
  split <;> first | rfl | (exfalso; omega)
theorem s_tX13_article_2 {p1 p2 p3 p4 : Int32} (c_2 : ¬ (jN p1 p2 p3 = 0)) (c_3 : ¬ (p4 < 0)) (c_4 : 2 < (p4 / 10000)) : (-1) = sp_article p1 p2 p3 p4 := by
  unfold sp_article
  have g0 := c_2
  have g1 : ¬ (p4.toInt < 0) := fun z => c_3 (ji_lt.mpr z)
  have g2 : 2 < (p4 / 10000).toInt := ji_lt.mp c_4
  split <;> first | rfl | (exfalso; omega)
theorem s_tX13_article_3 {p1 p2 p3 p4 : Int32} (c_2 : ¬ (jN p1 p2 p3 = 0)) (c_3 : ¬ (p4 < 0)) (c_4 : ¬ (2 < (p4 / 10000))) (c_5 : 8 ≤ ((p4 / 1000) - (p4 / 1000) / 10 * 10)) : (-1) = sp_article p1 p2 p3 p4 := by
  unfold sp_article
  have g0 := c_2
  have g1 : ¬ (p4.toInt < 0) := fun z => c_3 (ji_lt.mpr z)
  have g2 : ¬ (2 < (p4 / 10000).toInt) := fun z => c_4 (ji_lt.mpr z)
  have g3 : 8 ≤ ((p4 / 1000) - (p4 / 1000) / 10 * 10).toInt := ji_le.mp c_5
  split <;> first | rfl | (exfalso; omega)
theorem s_tX13_article_4 {p1 p2 p3 p4 : Int32} (c_2 : ¬ (jN p1 p2 p3 = 0)) (c_3 : ¬ (p4 < 0)) (c_4 : ¬ (2 < (p4 / 10000))) (c_5 : ¬ (8 ≤ ((p4 / 1000) - (p4 / 1000) / 10 * 10))) (c_7 : (p4 - p4 / 1000 * 1000) < 1) : (-1) = sp_article p1 p2 p3 p4 := by
  unfold sp_article
  have g0 := c_2
  have g1 : ¬ (p4.toInt < 0) := fun z => c_3 (ji_lt.mpr z)
  have g2 : ¬ (2 < (p4 / 10000).toInt) := fun z => c_4 (ji_lt.mpr z)
  have g3 : ¬ (8 ≤ ((p4 / 1000) - (p4 / 1000) / 10 * 10).toInt) := fun z => c_5 (ji_le.mpr z)
  have g4 : (p4 - p4 / 1000 * 1000).toInt < 1 := ji_lt.mp c_7
  split <;> first | rfl | (exfalso; omega)
theorem s_tX13_article_5 {p1 p2 p3 p4 : Int32} (c_2 : ¬ (jN p1 p2 p3 = 0)) (c_3 : ¬ (p4 < 0)) (c_4 : ¬ (2 < (p4 / 10000))) (c_5 : ¬ (8 ≤ ((p4 / 1000) - (p4 / 1000) / 10 * 10))) (c_8 : ¬ ((p4 - p4 / 1000 * 1000) < 1)) (c_9 : 200 < (p4 - p4 / 1000 * 1000)) : (-1) = sp_article p1 p2 p3 p4 := by
  unfold sp_article
  have g0 := c_2
  have g1 : ¬ (p4.toInt < 0) := fun z => c_3 (ji_lt.mpr z)
  have g2 : ¬ (2 < (p4 / 10000).toInt) := fun z => c_4 (ji_lt.mpr z)
  have g3 : ¬ (8 ≤ ((p4 / 1000) - (p4 / 1000) / 10 * 10).toInt) := fun z => c_5 (ji_le.mpr z)
  have g4 : ¬ ((p4 - p4 / 1000 * 1000).toInt < 1) := fun z => c_8 (ji_lt.mpr z)
  have g5 : 200 < (p4 - p4 / 1000 * 1000).toInt := ji_lt.mp c_9
  split <;> first | rfl | (exfalso; omega)
theorem s_tX13_article_6 {p1 p2 p3 p4 : Int32} (c_2 : ¬ (jN p1 p2 p3 = 0)) (c_3 : ¬ (p4 < 0)) (c_4 : ¬ (2 < (p4 / 10000))) (c_5 : ¬ (8 ≤ ((p4 / 1000) - (p4 / 1000) / 10 * 10))) (c_10 : ¬ ((p4 - p4 / 1000 * 1000) < 1)) (c_11 : ¬ (200 < (p4 - p4 / 1000 * 1000))) : 0 = sp_article p1 p2 p3 p4 := by
  unfold sp_article
  have g0 := c_2
  have g1 : ¬ (p4.toInt < 0) := fun z => c_3 (ji_lt.mpr z)
  have g2 : ¬ (2 < (p4 / 10000).toInt) := fun z => c_4 (ji_lt.mpr z)
  have g3 : ¬ (8 ≤ ((p4 / 1000) - (p4 / 1000) / 10 * 10).toInt) := fun z => c_5 (ji_le.mpr z)
  have g4 : ¬ ((p4 - p4 / 1000 * 1000).toInt < 1) := fun z => c_10 (ji_lt.mpr z)
  have g5 : ¬ (200 < (p4 - p4 / 1000 * 1000).toInt) := fun z => c_11 (ji_lt.mpr z)
  split <;> first | rfl | (exfalso; omega)
set_option maxHeartbeats 500000 in
set_option maxRecDepth 100000 in
theorem tX13_article (l : Launch) (dC : Nat → ClassId) (dI : Nat → Nat → Nat) (sz : Nat) (ad : Nat → Nat) (ca : Nat → ClassId) (p1 : Int32) (p2 : Int32) (p3 : Int32) (p4 : Int32) : Met l yX13_article (jk yX13_article cX13_article 7 (some .int)) ({ frames := 2, cells := 0, slots := 0, locals := 50 }) (va_Pc [.ref (ad 0), .int p1, .int p2, .int p3, .int p4] (jw_P (dC, dI) (mW ad ca) (mT ca) sz)) (va_Qi (fun (r : Int32) (_ : Unit) => r = sp_article p1 p2 p3 p4) (fun _ _ => True) (va_A (mW ad ca) sz)) 0 0 (va_A (mW ad ca) sz) := by
  refine Met.ofW (cc := cX13_article) (maxL := 7) (ret := (some .int)) (by decide) rfl ?_
  intro p e s m args below meth c s₁ B hml hv
  obtain ⟨rfl, hsz, hP, hK, hD0⟩ := hv
  have hx := B.exec
  have hb := B.bytes
  have hr := B.returns
  have hts := atoms_spec (ws := (jk yX13_article cX13_article 7 (some .int))) B.pre
  have hown : s.vm.findClass RX13 = some m.cls := findClass_of_methodNamed B.named
  have hlocks := B.notSynchronized
  subst hsz
  have hD := hD0.self (sz := s.heap.size)
  generalize hAe : (va_A (mW ad ca) s.heap.size) = A at hD ⊢
  have hA : ∀ q : Nat, s.heap.size ≤ q → A q := fun q h => by rw [← hAe]; exact Or.inr h
  have hS : va_S A s.heap s.heap [] := va_S.rf
  have hP : va_P (dC, dI) vwCl (mW ad ca) s.heap := hP
  have hl := lv_entry ([.ref (ad 0), .int p1, .int p2, .int p3, .int p4]) (n := 7) (Nat.le_of_ble_eq_true rfl)
  rw [lg_entry_eq]
  generalize (lg_sl ([.ref (ad 0), .int p1, .int p2, .int p3, .int p4]) ++ List.replicate (7 - (lg_sl ([.ref (ad 0), .int p1, .int p2, .int p3, .int p4])).length) Slot.unset).toArray = ls at hl ⊢
  have hl : lv_has ls 7 [(0, .ref (ad 0)), (1, .int p1), (2, .int p2), (3, .int p3), (4, .int p4)] := hl
  refine lv_aload_n hx hb dX13_article_0 rfl (lv_at hl 0 rfl) ?_
  refine lv_iload_n hx hb dX13_article_1 rfl (lv_at hl 1 rfl) ?_
  refine lv_iload_n hx hb dX13_article_2 rfl (lv_at hl 2 rfl) ?_
  refine lv_iload_n hx hb dX13_article_3 rfl (lv_at hl 3 rfl) ?_
  refine jcg_i (va_runV (As := [.int p1, .int p2, .int p3]) (rest := []) ⟨hx, hb, hml, hown, hts⟩ (kX13_headingOf l dC dI _ ad ca p1 p2 p3) (cwV 3 hts (jgoodV m_531 m_532 m_533 m_96 m_534) rfl rfl rfl (by decide +kernel) ⟨(Nat.le_of_ble_eq_true rfl), (Nat.le_of_ble_eq_true rfl)⟩) ⟨jw_blind, va_recv hK hP (ci := 13) (q0 := 0) rfl rfl, fun U hU hW => ⟨rfl, jw_of hU hW hP hK hD⟩⟩ rfl rfl hl.1 rfl (lv_room (Nat.le_of_ble_eq_true rfl)) dX13_article_4 ⟨(Nat.le_of_ble_eq_true rfl), (Nat.le_of_ble_eq_true rfl)⟩) hD hS hA (fun r_1 u_1 H locs hw_1 hP hK hD hS => ?_)
  rcases (show (jN p1 p2 p3 = 0 ∧ r_1 = 0) ∨ (¬ (jN p1 p2 p3 = 0) ∧ r_1 = nI (jN p1 p2 p3)) from hw_1) with ⟨c_2, rfl⟩ | ⟨c_2, rfl⟩
  · refine lv_istore (lv' := [(5, .int 0), (0, .ref (ad 0)), (1, .int p1), (2, .int p2), (3, .int p3), (4, .int p4)]) hx hb dX13_article_7 hl (by decide) rfl (fun ls hl => ?_)
    refine lv_iload hx hb dX13_article_9 (lv_at hl 0 rfl) ?_
    refine lv_if_eq (tgt := 59) hx hb dX13_article_11 (by decide) (fun _ => ?_) (fun z => absurd (by decide) z)
    refine lv_iconst (v := (-1)) hx hb dX13_article_59 (by decide) ?_
    exact W.iret (v := (-1)) hx hb hr (fun t ht hW => ⟨⟨(-1), (), rfl, (s_tX13_article_0 (p1 := p1) (p2 := p2) (p3 := p3) (p4 := p4) c_2), trivial⟩, hS.F ht⟩) hS.2.2 dX13_article_60
  · refine lv_istore (lv' := [(5, .int (nI (jN p1 p2 p3))), (0, .ref (ad 0)), (1, .int p1), (2, .int p2), (3, .int p3), (4, .int p4)]) hx hb dX13_article_7 hl (by decide) rfl (fun ls hl => ?_)
    refine lv_iload hx hb dX13_article_9 (lv_at hl 0 rfl) ?_
    refine lv_if_eq (tgt := 59) hx hb dX13_article_11 (by decide) (fun z => absurd z (jb_ne2 (jy_N1 c_2) (by decide))) (fun _ => ?_)
    refine lv_iload hx hb dX13_article_14 (lv_at hl 5 rfl) ?_
    refine lv_if_lt (tgt := 59) hx hb dX13_article_16 (by decide) (fun c_3 => ?_) (fun c_3 => ?_)
    · refine lv_iconst (v := (-1)) hx hb dX13_article_59 (by decide) ?_
      exact W.iret (v := (-1)) hx hb hr (fun t ht hW => ⟨⟨(-1), (), rfl, (s_tX13_article_1 (p1 := p1) (p2 := p2) (p3 := p3) (p4 := p4) c_2 c_3), trivial⟩, hS.F ht⟩) hS.2.2 dX13_article_60
    · refine lv_iload hx hb dX13_article_19 (lv_at hl 5 rfl) ?_
      refine lv_sipush (v := 10000) hx hb dX13_article_21 (by decide) ?_
      refine lv_idiv hx hb dX13_article_24 (by decide) ?_
      refine lv_iconst (v := 2) hx hb dX13_article_25 (by decide) ?_
      refine lv_icmp_gt (tgt := 59) hx hb dX13_article_26 (by decide) (fun c_4 => ?_) (fun c_4 => ?_)
      · refine lv_iconst (v := (-1)) hx hb dX13_article_59 (by decide) ?_
        exact W.iret (v := (-1)) hx hb hr (fun t ht hW => ⟨⟨(-1), (), rfl, (s_tX13_article_2 (p1 := p1) (p2 := p2) (p3 := p3) (p4 := p4) c_2 c_3 c_4), trivial⟩, hS.F ht⟩) hS.2.2 dX13_article_60
      · refine lv_iload hx hb dX13_article_29 (lv_at hl 5 rfl) ?_
        refine lv_sipush (v := 1000) hx hb dX13_article_31 (by decide) ?_
        refine lv_idiv hx hb dX13_article_34 (by decide) ?_
        refine lv_bipush (v := 10) hx hb dX13_article_35 (by decide) ?_
        refine lv_irem hx hb dX13_article_37 (by decide) ?_
        refine lv_bipush (v := 8) hx hb dX13_article_38 (by decide) ?_
        refine lv_icmp_ge (tgt := 59) hx hb dX13_article_40 (by decide) (fun c_5 => ?_) (fun c_5 => ?_)
        · refine lv_iconst (v := (-1)) hx hb dX13_article_59 (by decide) ?_
          exact W.iret (v := (-1)) hx hb hr (fun t ht hW => ⟨⟨(-1), (), rfl, (s_tX13_article_3 (p1 := p1) (p2 := p2) (p3 := p3) (p4 := p4) c_2 c_3 c_4 c_5), trivial⟩, hS.F ht⟩) hS.2.2 dX13_article_60
        · refine lv_iload hx hb dX13_article_43 (lv_at hl 5 rfl) ?_
          refine lv_sipush (v := 1000) hx hb dX13_article_45 (by decide) ?_
          refine lv_irem hx hb dX13_article_48 (by decide) ?_
          refine lv_iconst (v := 1) hx hb dX13_article_49 (by decide) ?_
          refine lv_sipush (v := 200) hx hb dX13_article_50 (by decide) ?_
          refine jc_i (va_runS (As := [.int (p4 - p4 / 1000 * 1000), .int 1, .int 200]) (rest := []) ⟨hx, hb, hml, hown, hts⟩ (kX13_in_17 l dC dI _ (p4 - p4 / 1000 * 1000)) (va_cwS 3 hts (jgoodS m_493 m_494 m_96 m_495) rfl rfl rfl (by decide +kernel) ⟨Nat.le_of_ble_eq_true rfl, Nat.le_of_ble_eq_true rfl⟩) ⟨jw_blind0, fun U hU hW => ⟨rfl, congrArg Array.size hU⟩⟩ rfl rfl hl.1 rfl (lv_room (Nat.le_of_ble_eq_true rfl)) dX13_article_53 ⟨Nat.le_of_ble_eq_true rfl, Nat.le_of_ble_eq_true rfl⟩) hP hS hA (fun r_6 H locs hw_6 hP hS => ?_)
          rcases (show ((p4 - p4 / 1000 * 1000) < 1 ∧ r_6 = 0) ∨ (¬ ((p4 - p4 / 1000 * 1000) < 1) ∧ 200 < (p4 - p4 / 1000 * 1000) ∧ r_6 = 0) ∨ (¬ ((p4 - p4 / 1000 * 1000) < 1) ∧ ¬ (200 < (p4 - p4 / 1000 * 1000)) ∧ r_6 = 1) from hw_6) with ⟨c_7, e_7_0⟩ | ⟨c_8, c_9, e_9_1⟩ | ⟨c_10, c_11, e_11_2⟩
          · have e_7_0 := e_7_0.symm
            subst e_7_0
            refine lv_if_ne (tgt := 61) hx hb dX13_article_56 (by decide) (fun z => absurd (by decide) z) (fun _ => ?_)
            refine lv_iconst (v := (-1)) hx hb dX13_article_59 (by decide) ?_
            exact W.iret (v := (-1)) hx hb hr (fun t ht hW => ⟨⟨(-1), (), rfl, (s_tX13_article_4 (p1 := p1) (p2 := p2) (p3 := p3) (p4 := p4) c_2 c_3 c_4 c_5 c_7), trivial⟩, hS.F ht⟩) hS.2.2 dX13_article_60
          · have e_9_1 := e_9_1.symm
            subst e_9_1
            refine lv_if_ne (tgt := 61) hx hb dX13_article_56 (by decide) (fun z => absurd (by decide) z) (fun _ => ?_)
            refine lv_iconst (v := (-1)) hx hb dX13_article_59 (by decide) ?_
            exact W.iret (v := (-1)) hx hb hr (fun t ht hW => ⟨⟨(-1), (), rfl, (s_tX13_article_5 (p1 := p1) (p2 := p2) (p3 := p3) (p4 := p4) c_2 c_3 c_4 c_5 c_8 c_9), trivial⟩, hS.F ht⟩) hS.2.2 dX13_article_60
          · have e_11_2 := e_11_2.symm
            subst e_11_2
            refine lv_if_ne (tgt := 61) hx hb dX13_article_56 (by decide) (fun _ => ?_) (fun z => absurd z (by decide))
            refine lv_aload_n hx hb dX13_article_61 rfl (lv_at hl 1 rfl) ?_
            refine lv_iconst (v := 0) hx hb dX13_article_62 (by decide) ?_
            refine lv_iload hx hb dX13_article_63 (lv_at hl 0 rfl) ?_
            refine jcw_i (va_runV (As := [.int 0, .int (nI (jN p1 p2 p3))]) (rest := []) ⟨hx, hb, hml, hown, hts⟩ (kX13_newEntry_3 l dC dI _ ad ca u_1 (nI (jN p1 p2 p3))) (cwV 2 hts (jgoodV m_536 m_537 m_538 m_96 m_539) rfl rfl rfl (by decide +kernel) ⟨Nat.le_of_ble_eq_true rfl, Nat.le_of_ble_eq_true rfl⟩) ⟨jw_blind, va_recv hK hP (ci := 13) (q0 := 0) rfl rfl, fun U hU hW => ⟨rfl, jw_of hU hW hP hK hD⟩⟩ rfl rfl hl.1 rfl (lv_room (Nat.le_of_ble_eq_true rfl)) dX13_article_65 ⟨Nat.le_of_ble_eq_true rfl, Nat.le_of_ble_eq_true rfl⟩) hD hS hA (fun r_12 H locs hw_12 hP hK hD hS => ?_)
            have hw_12 : 0 = r_12 := Eq.symm hw_12
            subst hw_12
            refine lv_istore (lv' := [(6, .int 0), (5, .int (nI (jN p1 p2 p3))), (0, .ref (ad 0)), (1, .int p1), (2, .int p2), (3, .int p3), (4, .int p4)]) hx hb dX13_article_68 hl (by decide) rfl (fun ls hl => ?_)
            refine lv_iload hx hb dX13_article_70 (lv_at hl 0 rfl) ?_
            refine lv_iconst (v := (-1)) hx hb dX13_article_72 (by decide) ?_
            refine lv_icmp_ne (tgt := 78) hx hb dX13_article_73 (by decide) (fun _ => ?_) (fun z => absurd z (by decide))
            refine lv_aload_n hx hb dX13_article_78 rfl (lv_at hl 2 rfl) ?_
            refine va_get (D := (dC, dI)) (ci := 13) (v := .ref (ad 28)) (C := RX13) (T := TX13) (N := 104) hx hb hts (jh hin_RX13) hown hK hP 0 rfl rfl 41 (by decide) (hts (.fieldLink RX13 93 "BookOfAllModel" "sort" "[I") (jm m_30)) (fun _ h9 => h9) rfl dX13_article_79 ?_
            refine lv_iload hx hb dX13_article_82 (lv_at hl 0 rfl) ?_
            refine lv_iload hx hb dX13_article_84 (lv_at hl 6 rfl) ?_
            refine lv_sipush (v := 10000) hx hb dX13_article_86 (by decide) ?_
            refine lv_idiv hx hb dX13_article_89 (by decide) ?_
            refine va_iast hx hb hK hP hD hS 28 27 rfl rfl (vp_in_nI (n := 0) (by decide) (by decide)) dX13_article_90 (fun H locs hP hD hS => ?_)
            refine lv_aload_n hx hb dX13_article_91 rfl (lv_at hl 2 rfl) ?_
            refine va_get (D := (dC, dI)) (ci := 13) (v := .ref (ad 29)) (C := RX13) (T := TX13) (N := 104) hx hb hts (jh hin_RX13) hown hK hP 0 rfl rfl 42 (by decide) (hts (.fieldLink RX13 96 "BookOfAllModel" "field" "[I") (jm m_31)) (fun _ h9 => h9) rfl dX13_article_92 ?_
            refine lv_iload hx hb dX13_article_95 (lv_at hl 0 rfl) ?_
            refine lv_iload hx hb dX13_article_97 (lv_at hl 6 rfl) ?_
            refine lv_sipush (v := 1000) hx hb dX13_article_99 (by decide) ?_
            refine lv_idiv hx hb dX13_article_102 (by decide) ?_
            refine lv_bipush (v := 10) hx hb dX13_article_103 (by decide) ?_
            refine lv_irem hx hb dX13_article_105 (by decide) ?_
            refine va_iast hx hb hK hP hD hS 29 28 rfl rfl (vp_in_nI (n := 0) (by decide) (by decide)) dX13_article_106 (fun H locs hP hD hS => ?_)
            refine lv_aload_n hx hb dX13_article_107 rfl (lv_at hl 2 rfl) ?_
            refine va_get (D := (dC, dI)) (ci := 13) (v := .ref (ad 30)) (C := RX13) (T := TX13) (N := 104) hx hb hts (jh hin_RX13) hown hK hP 0 rfl rfl 43 (by decide) (hts (.fieldLink RX13 99 "BookOfAllModel" "asked" "[I") (jm m_32)) (fun _ h9 => h9) rfl dX13_article_108 ?_
            refine lv_iload hx hb dX13_article_111 (lv_at hl 0 rfl) ?_
            refine lv_iload hx hb dX13_article_113 (lv_at hl 6 rfl) ?_
            refine lv_sipush (v := 1000) hx hb dX13_article_115 (by decide) ?_
            refine lv_irem hx hb dX13_article_118 (by decide) ?_
            refine va_iast hx hb hK hP hD hS 30 29 rfl rfl (vp_in_nI (n := 0) (by decide) (by decide)) dX13_article_119 (fun H locs hP hD hS => ?_)
            refine lv_iload hx hb dX13_article_120 (lv_at hl 0 rfl) ?_
            exact W.iret (v := 0) hx hb hr (fun t ht hW => ⟨⟨0, (), rfl, (s_tX13_article_6 (p1 := p1) (p2 := p2) (p3 := p3) (p4 := p4) c_2 c_3 c_4 c_5 c_10 c_11), trivial⟩, hS.F ht⟩) hS.2.2 dX13_article_122
