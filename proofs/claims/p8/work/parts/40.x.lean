set_option maxHeartbeats 2000000 in
set_option maxRecDepth 100000 in
theorem sJ6_bitCount_0f7a4 (l : Launch) (dC : Nat → ClassId) (dI : Nat → Nat → Nat) (sz : Nat) (p1 : Int) (q1 : rg p1) : Met l yJ6_bitCount_0f7a4 (jk yJ6_bitCount_0f7a4 cJ6_bitCount_0f7a4 1 (some .int)) ({ frames := 0, cells := 0, slots := 0, locals := 0 }) (va_Pc [.int (iI p1)] (fun U => U.heap.size = sz)) (va_Qi (fun (r : Int32) (_ : Unit) => ∃ z : Int, r = iI z ∧ (rg z)) (fun _ _ => True) (va_A [] sz)) 0 0 (va_A [] sz) := by
  refine Met.ofW (cc := cJ6_bitCount_0f7a4) (maxL := 1) (ret := (some .int)) (by decide) rfl ?_
  intro p e s m args below meth c s₁ B hml hv
  obtain ⟨rfl, hsz⟩ := hv
  have hx := B.exec
  have hb := B.bytes
  have hr := B.returns
  have hts := atoms_spec (ws := (jk yJ6_bitCount_0f7a4 cJ6_bitCount_0f7a4 1 (some .int))) B.pre
  have hj : ∀ w ∈ jw, w.before ([.int (iI p1)] : List Value).toArray s = true := fun w h => hts w (jm h)
  have hown : s.vm.findClass RJ6 = some m.cls := findClass_of_methodNamed B.named
  subst hsz
  have hP : va_P (dC, dI) vwCl [] s.heap := fun k q h => by simp at h
  generalize hAe : (va_A [] s.heap.size) = A
  have hA : ∀ q : Nat, s.heap.size ≤ q → A q := fun q h => by rw [← hAe]; exact Or.inr h
  have hS : va_S A s.heap s.heap [] := va_S.rf
  have hl := lv_entry ([.int (iI p1)]) (n := 1) (Nat.le_of_ble_eq_true rfl)
  rw [lg_entry_eq]
  generalize (lg_sl ([.int (iI p1)]) ++ List.replicate (1 - (lg_sl ([.int (iI p1)])).length) Slot.unset).toArray = ls at hl ⊢
  have hl : lv_has ls 1 [(0, .int (iI p1))] := hl
  generalize hQ : MQ below (va_Qi (fun (r : Int32) (_ : Unit) => ∃ z : Int, r = iI z ∧ (rg z)) (fun _ _ => True) A) ([.int (iI p1)] : List Value).toArray s 0 0 A = Q
  suffices ST : ∀ (H : Heap) (locs : List Loc), va_P (dC, dI) vwCl [] H → va_S A s.heap H locs → W p l e ({ frames := 0, cells := 0, slots := 0, locals := 0 }) s m ([.int (iI p1)] : List Value).toArray below meth c H locs 0 0 Q (F0 m 0 ls []) from ST _ _ hP hS
  clear hP hS
  intro H locs hP hS
  refine lv_iload_n hx hb dJ6_bitCount_0f7a4_0 rfl (lv_at hl 0 rfl) ?_
  refine lv_iload_n hx hb dJ6_bitCount_0f7a4_1 rfl (lv_at hl 0 rfl) ?_
  refine lv_iconst (v := iI 1) hx hb dJ6_bitCount_0f7a4_2 rfl ?_
  refine lv_iushr hx hb dJ6_bitCount_0f7a4_3 rfl ?_
  refine xr_any (fun z_1 h_2 => ?_)
  refine lv_ldcw hx hb hown (hts (.constant RJ6 265 1431655765) (jm m_653)) dJ6_bitCount_0f7a4_4 ?_
  refine jt_i (iI 1431655765) (by decide) ?_
  refine xr_andR hx hb (by omega) (by omega) dJ6_bitCount_0f7a4_7 (fun z_3 h_4 => ?_)
  refine xr_sub hx hb dJ6_bitCount_0f7a4_8 ?_
  refine xr_kept (fun z_5 h_6 h_7 => ?_)
  refine lv_istore_n (lv' := [(0, .int (iI z_5))]) hx hb dJ6_bitCount_0f7a4_9 rfl hl (by decide) rfl (fun ls hl => ?_)
  refine lv_iload_n hx hb dJ6_bitCount_0f7a4_10 rfl (lv_at hl 0 rfl) ?_
  refine lv_ldcw hx hb hown (hts (.constant RJ6 266 858993459) (jm m_654)) dJ6_bitCount_0f7a4_11 ?_
  refine jt_i (iI 858993459) (by decide) ?_
  refine xr_andR hx hb (by omega) (by omega) dJ6_bitCount_0f7a4_14 (fun z_8 h_9 => ?_)
  refine lv_iload_n hx hb dJ6_bitCount_0f7a4_15 rfl (lv_at hl 0 rfl) ?_
  refine lv_iconst (v := iI 2) hx hb dJ6_bitCount_0f7a4_16 rfl ?_
  refine lv_iushr hx hb dJ6_bitCount_0f7a4_17 rfl ?_
  refine xr_any (fun z_10 h_11 => ?_)
  refine lv_ldcw hx hb hown (hts (.constant RJ6 266 858993459) (jm m_654)) dJ6_bitCount_0f7a4_18 ?_
  refine jt_i (iI 858993459) (by decide) ?_
  refine xr_andR hx hb (by omega) (by omega) dJ6_bitCount_0f7a4_21 (fun z_12 h_13 => ?_)
  refine xr_add hx hb dJ6_bitCount_0f7a4_22 ?_
  refine lv_istore_n (lv' := [(0, .int (iI (z_8 + z_12)))]) hx hb dJ6_bitCount_0f7a4_23 rfl hl (by decide) rfl (fun ls hl => ?_)
  refine lv_iload_n hx hb dJ6_bitCount_0f7a4_24 rfl (lv_at hl 0 rfl) ?_
  refine lv_iload_n hx hb dJ6_bitCount_0f7a4_25 rfl (lv_at hl 0 rfl) ?_
  refine lv_iconst (v := iI 4) hx hb dJ6_bitCount_0f7a4_26 rfl ?_
  refine lv_iushr hx hb dJ6_bitCount_0f7a4_27 rfl ?_
  refine xr_any (fun z_14 h_15 => ?_)
  refine xr_add hx hb dJ6_bitCount_0f7a4_28 ?_
  refine xr_kept (fun z_16 h_17 h_18 => ?_)
  refine lv_ldcw hx hb hown (hts (.constant RJ6 267 252645135) (jm m_655)) dJ6_bitCount_0f7a4_29 ?_
  refine jt_i (iI 252645135) (by decide) ?_
  refine xr_andR hx hb (by omega) (by omega) dJ6_bitCount_0f7a4_32 (fun z_19 h_20 => ?_)
  refine lv_istore_n (lv' := [(0, .int (iI z_19))]) hx hb dJ6_bitCount_0f7a4_33 rfl hl (by decide) rfl (fun ls hl => ?_)
  refine lv_iload_n hx hb dJ6_bitCount_0f7a4_34 rfl (lv_at hl 0 rfl) ?_
  refine lv_iload_n hx hb dJ6_bitCount_0f7a4_35 rfl (lv_at hl 0 rfl) ?_
  refine lv_bipush (v := iI 8) hx hb dJ6_bitCount_0f7a4_36 rfl ?_
  refine lv_iushr hx hb dJ6_bitCount_0f7a4_38 rfl ?_
  refine xr_any (fun z_21 h_22 => ?_)
  refine xr_add hx hb dJ6_bitCount_0f7a4_39 ?_
  refine xr_kept (fun z_23 h_24 h_25 => ?_)
  refine lv_istore_n (lv' := [(0, .int (iI z_23))]) hx hb dJ6_bitCount_0f7a4_40 rfl hl (by decide) rfl (fun ls hl => ?_)
  refine lv_iload_n hx hb dJ6_bitCount_0f7a4_41 rfl (lv_at hl 0 rfl) ?_
  refine lv_iload_n hx hb dJ6_bitCount_0f7a4_42 rfl (lv_at hl 0 rfl) ?_
  refine lv_bipush (v := iI 16) hx hb dJ6_bitCount_0f7a4_43 rfl ?_
  refine lv_iushr hx hb dJ6_bitCount_0f7a4_45 rfl ?_
  refine xr_any (fun z_26 h_27 => ?_)
  refine xr_add hx hb dJ6_bitCount_0f7a4_46 ?_
  refine xr_kept (fun z_28 h_29 h_30 => ?_)
  refine lv_istore_n (lv' := [(0, .int (iI z_28))]) hx hb dJ6_bitCount_0f7a4_47 rfl hl (by decide) rfl (fun ls hl => ?_)
  refine lv_iload_n hx hb dJ6_bitCount_0f7a4_48 rfl (lv_at hl 0 rfl) ?_
  refine lv_bipush (v := iI 63) hx hb dJ6_bitCount_0f7a4_49 rfl ?_
  refine xr_andR hx hb (by omega) (by omega) dJ6_bitCount_0f7a4_51 (fun z_31 h_32 => ?_)
  rw [← hQ]
  exact W.iret (v := iI z_31) hx hb hr (fun t ht hW => ⟨⟨iI z_31, (), rfl, ⟨z_31, rfl, by omega⟩, trivial⟩, hS.F ht⟩) hS.2.2 dJ6_bitCount_0f7a4_52
set_option maxHeartbeats 2000000 in
set_option maxRecDepth 100000 in
theorem sJ13_bitCount_95d88 (l : Launch) (dC : Nat → ClassId) (dI : Nat → Nat → Nat) (sz : Nat) (p1 : Int) : Met l yJ13_bitCount_95d88 (jk yJ13_bitCount_95d88 cJ13_bitCount_95d88 2 (some .int)) ({ frames := 0, cells := 0, slots := 0, locals := 0 }) (va_Pc [.long (lL p1)] (fun U => U.heap.size = sz)) (va_Qi (fun (r : Int32) (_ : Unit) => ∃ z : Int, r = iI z ∧ (rg z)) (fun _ _ => True) (va_A [] sz)) 0 0 (va_A [] sz) := by
  refine Met.ofW (cc := cJ13_bitCount_95d88) (maxL := 2) (ret := (some .int)) (by decide) rfl ?_
  intro p e s m args below meth c s₁ B hml hv
  obtain ⟨rfl, hsz⟩ := hv
  have hx := B.exec
  have hb := B.bytes
  have hr := B.returns
  have hts := atoms_spec (ws := (jk yJ13_bitCount_95d88 cJ13_bitCount_95d88 2 (some .int))) B.pre
  have hj : ∀ w ∈ jw, w.before ([.long (lL p1)] : List Value).toArray s = true := fun w h => hts w (jm h)
  have hown : s.vm.findClass RJ13 = some m.cls := findClass_of_methodNamed B.named
  subst hsz
  have hP : va_P (dC, dI) vwCl [] s.heap := fun k q h => by simp at h
  generalize hAe : (va_A [] s.heap.size) = A
  have hA : ∀ q : Nat, s.heap.size ≤ q → A q := fun q h => by rw [← hAe]; exact Or.inr h
  have hS : va_S A s.heap s.heap [] := va_S.rf
  have hl := lv_entry ([.long (lL p1)]) (n := 2) (Nat.le_of_ble_eq_true rfl)
  rw [lg_entry_eq]
  generalize (lg_sl ([.long (lL p1)]) ++ List.replicate (2 - (lg_sl ([.long (lL p1)])).length) Slot.unset).toArray = ls at hl ⊢
  have hl : lv_has ls 2 [(0, .long (lL p1))] := hl
  generalize hQ : MQ below (va_Qi (fun (r : Int32) (_ : Unit) => ∃ z : Int, r = iI z ∧ (rg z)) (fun _ _ => True) A) ([.long (lL p1)] : List Value).toArray s 0 0 A = Q
  suffices ST : ∀ (H : Heap) (locs : List Loc), va_P (dC, dI) vwCl [] H → va_S A s.heap H locs → W p l e ({ frames := 0, cells := 0, slots := 0, locals := 0 }) s m ([.long (lL p1)] : List Value).toArray below meth c H locs 0 0 Q (F0 m 0 ls []) from ST _ _ hP hS
  clear hP hS
  intro H locs hP hS
  refine lv_lload_n hx hb dJ13_bitCount_95d88_0 rfl (lv_at hl 0 rfl) ?_
  refine lv_lload_n hx hb dJ13_bitCount_95d88_1 rfl (lv_at hl 0 rfl) ?_
  refine lv_iconst (v := iI 1) hx hb dJ13_bitCount_95d88_2 rfl ?_
  refine lv_lushr hx hb dJ13_bitCount_95d88_3 rfl ?_
  refine xl_any (fun u_1 => ?_)
  refine lv_ldc2 hx hb hown (hts (.constantLong RJ13 314 6148914691236517205) (jm m_656)) dJ13_bitCount_95d88_4 ?_
  refine lv_land hx hb dJ13_bitCount_95d88_7 ?_
  refine xl_any (fun u_2 => ?_)
  refine lv_lsub hx hb dJ13_bitCount_95d88_8 ?_
  refine xl_any (fun u_3 => ?_)
  refine lv_lstore_n (lv' := [(0, .long (lL u_3))]) hx hb dJ13_bitCount_95d88_9 rfl hl (by decide) rfl (fun ls hl => ?_)
  refine lv_lload_n hx hb dJ13_bitCount_95d88_10 rfl (lv_at hl 0 rfl) ?_
  refine lv_ldc2 hx hb hown (hts (.constantLong RJ13 316 3689348814741910323) (jm m_657)) dJ13_bitCount_95d88_11 ?_
  refine lv_land hx hb dJ13_bitCount_95d88_14 ?_
  refine xl_any (fun u_4 => ?_)
  refine lv_lload_n hx hb dJ13_bitCount_95d88_15 rfl (lv_at hl 0 rfl) ?_
  refine lv_iconst (v := iI 2) hx hb dJ13_bitCount_95d88_16 rfl ?_
  refine lv_lushr hx hb dJ13_bitCount_95d88_17 rfl ?_
  refine xl_any (fun u_5 => ?_)
  refine lv_ldc2 hx hb hown (hts (.constantLong RJ13 316 3689348814741910323) (jm m_657)) dJ13_bitCount_95d88_18 ?_
  refine lv_land hx hb dJ13_bitCount_95d88_21 ?_
  refine xl_any (fun u_6 => ?_)
  refine lv_ladd hx hb dJ13_bitCount_95d88_22 ?_
  refine xl_any (fun u_7 => ?_)
  refine lv_lstore_n (lv' := [(0, .long (lL u_7))]) hx hb dJ13_bitCount_95d88_23 rfl hl (by decide) rfl (fun ls hl => ?_)
  refine lv_lload_n hx hb dJ13_bitCount_95d88_24 rfl (lv_at hl 0 rfl) ?_
  refine lv_lload_n hx hb dJ13_bitCount_95d88_25 rfl (lv_at hl 0 rfl) ?_
  refine lv_iconst (v := iI 4) hx hb dJ13_bitCount_95d88_26 rfl ?_
  refine lv_lushr hx hb dJ13_bitCount_95d88_27 rfl ?_
  refine xl_any (fun u_8 => ?_)
  refine lv_ladd hx hb dJ13_bitCount_95d88_28 ?_
  refine xl_any (fun u_9 => ?_)
  refine lv_ldc2 hx hb hown (hts (.constantLong RJ13 318 1085102592571150095) (jm m_658)) dJ13_bitCount_95d88_29 ?_
  refine lv_land hx hb dJ13_bitCount_95d88_32 ?_
  refine xl_any (fun u_10 => ?_)
  refine lv_lstore_n (lv' := [(0, .long (lL u_10))]) hx hb dJ13_bitCount_95d88_33 rfl hl (by decide) rfl (fun ls hl => ?_)
  refine lv_lload_n hx hb dJ13_bitCount_95d88_34 rfl (lv_at hl 0 rfl) ?_
  refine lv_lload_n hx hb dJ13_bitCount_95d88_35 rfl (lv_at hl 0 rfl) ?_
  refine lv_bipush (v := iI 8) hx hb dJ13_bitCount_95d88_36 rfl ?_
  refine lv_lushr hx hb dJ13_bitCount_95d88_38 rfl ?_
  refine xl_any (fun u_11 => ?_)
  refine lv_ladd hx hb dJ13_bitCount_95d88_39 ?_
  refine xl_any (fun u_12 => ?_)
  refine lv_lstore_n (lv' := [(0, .long (lL u_12))]) hx hb dJ13_bitCount_95d88_40 rfl hl (by decide) rfl (fun ls hl => ?_)
  refine lv_lload_n hx hb dJ13_bitCount_95d88_41 rfl (lv_at hl 0 rfl) ?_
  refine lv_lload_n hx hb dJ13_bitCount_95d88_42 rfl (lv_at hl 0 rfl) ?_
  refine lv_bipush (v := iI 16) hx hb dJ13_bitCount_95d88_43 rfl ?_
  refine lv_lushr hx hb dJ13_bitCount_95d88_45 rfl ?_
  refine xl_any (fun u_13 => ?_)
  refine lv_ladd hx hb dJ13_bitCount_95d88_46 ?_
  refine xl_any (fun u_14 => ?_)
  refine lv_lstore_n (lv' := [(0, .long (lL u_14))]) hx hb dJ13_bitCount_95d88_47 rfl hl (by decide) rfl (fun ls hl => ?_)
  refine lv_lload_n hx hb dJ13_bitCount_95d88_48 rfl (lv_at hl 0 rfl) ?_
  refine lv_lload_n hx hb dJ13_bitCount_95d88_49 rfl (lv_at hl 0 rfl) ?_
  refine lv_bipush (v := iI 32) hx hb dJ13_bitCount_95d88_50 rfl ?_
  refine lv_lushr hx hb dJ13_bitCount_95d88_52 rfl ?_
  refine xl_any (fun u_15 => ?_)
  refine lv_ladd hx hb dJ13_bitCount_95d88_53 ?_
  refine xl_any (fun u_16 => ?_)
  refine lv_lstore_n (lv' := [(0, .long (lL u_16))]) hx hb dJ13_bitCount_95d88_54 rfl hl (by decide) rfl (fun ls hl => ?_)
  refine lv_lload_n hx hb dJ13_bitCount_95d88_55 rfl (lv_at hl 0 rfl) ?_
  refine lv_l2i hx hb dJ13_bitCount_95d88_56 rfl ?_
  refine xr_any (fun z_17 h_18 => ?_)
  refine lv_bipush (v := iI 127) hx hb dJ13_bitCount_95d88_57 rfl ?_
  refine xr_andR hx hb (by omega) (by omega) dJ13_bitCount_95d88_59 (fun z_19 h_20 => ?_)
  rw [← hQ]
  exact W.iret (v := iI z_19) hx hb hr (fun t ht hW => ⟨⟨iI z_19, (), rfl, ⟨z_19, rfl, by omega⟩, trivial⟩, hS.F ht⟩) hS.2.2 dJ13_bitCount_95d88_60
set_option maxHeartbeats 2000000 in
set_option maxRecDepth 100000 in
theorem sJ6_numberOfTrailingZeros_0f7a4 (l : Launch) (dC : Nat → ClassId) (dI : Nat → Nat → Nat) (sz : Nat) (p1 : Int) (q1 : rg p1) : Met l yJ6_numberOfTrailingZeros_0f7a4 (jk yJ6_numberOfTrailingZeros_0f7a4 cJ6_numberOfTrailingZeros_0f7a4 2 (some .int)) ({ frames := 0, cells := 0, slots := 0, locals := 0 }) (va_Pc [.int (iI p1)] (fun U => U.heap.size = sz)) (va_Qi (fun (r : Int32) (_ : Unit) => ∃ z : Int, r = iI z ∧ (rg z)) (fun _ _ => True) (va_A [] sz)) 0 0 (va_A [] sz) := by
  refine Met.ofW (cc := cJ6_numberOfTrailingZeros_0f7a4) (maxL := 2) (ret := (some .int)) (by decide) rfl ?_
  intro p e s m args below meth c s₁ B hml hv
  obtain ⟨rfl, hsz⟩ := hv
  have hx := B.exec
  have hb := B.bytes
  have hr := B.returns
  have hts := atoms_spec (ws := (jk yJ6_numberOfTrailingZeros_0f7a4 cJ6_numberOfTrailingZeros_0f7a4 2 (some .int))) B.pre
  have hj : ∀ w ∈ jw, w.before ([.int (iI p1)] : List Value).toArray s = true := fun w h => hts w (jm h)
  have hown : s.vm.findClass RJ6 = some m.cls := findClass_of_methodNamed B.named
  subst hsz
  have hP : va_P (dC, dI) vwCl [] s.heap := fun k q h => by simp at h
  generalize hAe : (va_A [] s.heap.size) = A
  have hA : ∀ q : Nat, s.heap.size ≤ q → A q := fun q h => by rw [← hAe]; exact Or.inr h
  have hS : va_S A s.heap s.heap [] := va_S.rf
  have hl := lv_entry ([.int (iI p1)]) (n := 2) (Nat.le_of_ble_eq_true rfl)
  rw [lg_entry_eq]
  generalize (lg_sl ([.int (iI p1)]) ++ List.replicate (2 - (lg_sl ([.int (iI p1)])).length) Slot.unset).toArray = ls at hl ⊢
  have hl : lv_has ls 2 [(0, .int (iI p1))] := hl
  generalize hQ : MQ below (va_Qi (fun (r : Int32) (_ : Unit) => ∃ z : Int, r = iI z ∧ (rg z)) (fun _ _ => True) A) ([.int (iI p1)] : List Value).toArray s 0 0 A = Q
  suffices ST : ∀ (H : Heap) (locs : List Loc), va_P (dC, dI) vwCl [] H → va_S A s.heap H locs → W p l e ({ frames := 0, cells := 0, slots := 0, locals := 0 }) s m ([.int (iI p1)] : List Value).toArray below meth c H locs 0 0 Q (F0 m 0 ls []) from ST _ _ hP hS
  clear hP hS
  intro H locs hP hS
  refine lv_iload_n hx hb dJ6_numberOfTrailingZeros_0f7a4_0 rfl (lv_at hl 0 rfl) ?_
  refine lv_iconst (v := iI (-1)) hx hb dJ6_numberOfTrailingZeros_0f7a4_1 rfl ?_
  refine lv_ixor hx hb dJ6_numberOfTrailingZeros_0f7a4_2 ?_
  refine xr_any (fun z_1 h_2 => ?_)
  refine lv_iload_n hx hb dJ6_numberOfTrailingZeros_0f7a4_3 rfl (lv_at hl 0 rfl) ?_
  refine lv_iconst (v := iI 1) hx hb dJ6_numberOfTrailingZeros_0f7a4_4 rfl ?_
  refine xr_sub hx hb dJ6_numberOfTrailingZeros_0f7a4_5 ?_
  refine xr_kept (fun z_3 h_4 h_5 => ?_)
  refine lv_iand hx hb dJ6_numberOfTrailingZeros_0f7a4_6 ?_
  refine xr_any (fun z_6 h_7 => ?_)
  refine lv_istore_n (lv' := [(0, .int (iI z_6))]) hx hb dJ6_numberOfTrailingZeros_0f7a4_7 rfl hl (by decide) rfl (fun ls hl => ?_)
  refine lv_iload_n hx hb dJ6_numberOfTrailingZeros_0f7a4_8 rfl (lv_at hl 0 rfl) ?_
  refine xr_if_gt (tgt := 17) hx hb dJ6_numberOfTrailingZeros_0f7a4_9 (by decide) (by omega) (fun h_8 => ?_) (fun h_8 => ?_)
  · refine lv_iconst (v := iI 1) hx hb dJ6_numberOfTrailingZeros_0f7a4_17 rfl ?_
    refine lv_istore_n (lv' := [(1, .int (iI 1)), (0, .int (iI z_6))]) hx hb dJ6_numberOfTrailingZeros_0f7a4_18 rfl hl (by decide) rfl (fun ls hl => ?_)
    refine lv_iload_n hx hb dJ6_numberOfTrailingZeros_0f7a4_19 rfl (lv_at hl 1 rfl) ?_
    refine lv_ldcw hx hb hown (hts (.constant RJ6 264 65536) (jm m_659)) dJ6_numberOfTrailingZeros_0f7a4_20 ?_
    refine jt_i (iI 65536) (by decide) ?_
    have J34 : ∀ (a1_34 a0_34 : Int) (H : Heap) (locs : List Loc) (ls : Array Slot), (1 ≤ a1_34 ∧ a1_34 ≤ 17) → ((-2147483648) ≤ a0_34 ∧ a0_34 ≤ 2147483647) → va_P (dC, dI) vwCl [] H → va_S A s.heap H locs → lv_has ls 2 [(1, .int (iI a1_34)), (0, .int (iI a0_34))] → W p l e ({ frames := 0, cells := 0, slots := 0, locals := 0 }) s m ([.int (iI p1)] : List Value).toArray below meth c H locs 0 0 Q (F0 m 34 ls []) := by
      intro a1_34 a0_34 H locs ls h_9 h_10 hP hS hl
      refine lv_iload_n hx hb dJ6_numberOfTrailingZeros_0f7a4_34 rfl (lv_at hl 1 rfl) ?_
      refine lv_sipush (v := iI 256) hx hb dJ6_numberOfTrailingZeros_0f7a4_35 rfl ?_
      have J49 : ∀ (a1_49 a0_49 : Int) (H : Heap) (locs : List Loc) (ls : Array Slot), (1 ≤ a1_49 ∧ a1_49 ≤ 25) → ((-2147483648) ≤ a0_49 ∧ a0_49 ≤ 2147483647) → va_P (dC, dI) vwCl [] H → va_S A s.heap H locs → lv_has ls 2 [(1, .int (iI a1_49)), (0, .int (iI a0_49))] → W p l e ({ frames := 0, cells := 0, slots := 0, locals := 0 }) s m ([.int (iI p1)] : List Value).toArray below meth c H locs 0 0 Q (F0 m 49 ls []) := by
        intro a1_49 a0_49 H locs ls h_11 h_12 hP hS hl
        refine lv_iload_n hx hb dJ6_numberOfTrailingZeros_0f7a4_49 rfl (lv_at hl 1 rfl) ?_
        refine lv_bipush (v := iI 16) hx hb dJ6_numberOfTrailingZeros_0f7a4_50 rfl ?_
        have J62 : ∀ (a1_62 a0_62 : Int) (H : Heap) (locs : List Loc) (ls : Array Slot), (1 ≤ a1_62 ∧ a1_62 ≤ 29) → ((-2147483648) ≤ a0_62 ∧ a0_62 ≤ 2147483647) → va_P (dC, dI) vwCl [] H → va_S A s.heap H locs → lv_has ls 2 [(1, .int (iI a1_62)), (0, .int (iI a0_62))] → W p l e ({ frames := 0, cells := 0, slots := 0, locals := 0 }) s m ([.int (iI p1)] : List Value).toArray below meth c H locs 0 0 Q (F0 m 62 ls []) := by
          intro a1_62 a0_62 H locs ls h_13 h_14 hP hS hl
          refine lv_iload_n hx hb dJ6_numberOfTrailingZeros_0f7a4_62 rfl (lv_at hl 1 rfl) ?_
          refine lv_iconst (v := iI 4) hx hb dJ6_numberOfTrailingZeros_0f7a4_63 rfl ?_
          have J74 : ∀ (a1_74 a0_74 : Int) (H : Heap) (locs : List Loc) (ls : Array Slot), (1 ≤ a1_74 ∧ a1_74 ≤ 31) → ((-2147483648) ≤ a0_74 ∧ a0_74 ≤ 2147483647) → va_P (dC, dI) vwCl [] H → va_S A s.heap H locs → lv_has ls 2 [(1, .int (iI a1_74)), (0, .int (iI a0_74))] → W p l e ({ frames := 0, cells := 0, slots := 0, locals := 0 }) s m ([.int (iI p1)] : List Value).toArray below meth c H locs 0 0 Q (F0 m 74 ls []) := by
            intro a1_74 a0_74 H locs ls h_15 h_16 hP hS hl
            refine lv_iload_n hx hb dJ6_numberOfTrailingZeros_0f7a4_74 rfl (lv_at hl 0 rfl) ?_
            refine lv_iload_n hx hb dJ6_numberOfTrailingZeros_0f7a4_75 rfl (lv_at hl 1 rfl) ?_
            refine lv_iconst (v := iI 1) hx hb dJ6_numberOfTrailingZeros_0f7a4_76 rfl ?_
            refine lv_iushr hx hb dJ6_numberOfTrailingZeros_0f7a4_77 rfl ?_
            refine xr_any (fun z_17 h_18 => ?_)
            refine xr_add hx hb dJ6_numberOfTrailingZeros_0f7a4_78 ?_
            refine xr_kept (fun z_19 h_20 h_21 => ?_)
            rw [← hQ]
            exact W.iret (v := iI z_19) hx hb hr (fun t ht hW => ⟨⟨iI z_19, (), rfl, ⟨z_19, rfl, by omega⟩, trivial⟩, hS.F ht⟩) hS.2.2 dJ6_numberOfTrailingZeros_0f7a4_79
          refine xr_icmp_le (tgt := 74) hx hb dJ6_numberOfTrailingZeros_0f7a4_64 (by decide) (by omega) (by omega) (fun h_22 => ?_) (fun h_22 => ?_)
          · exact J74 a1_62 a0_62 H locs ls (by omega) (by omega) hP hS hl
          · refine lv_iinc (v := iI (a1_62 + 2)) (lv' := [(1, .int (iI (a1_62 + 2))), (0, .int (iI a0_62))]) hx hb dJ6_numberOfTrailingZeros_0f7a4_67 hl (k := 0) rfl (iI_add _ _) (by decide) rfl (fun ls hl => ?_)
            refine lv_iload_n hx hb dJ6_numberOfTrailingZeros_0f7a4_70 rfl (lv_at hl 1 rfl) ?_
            refine lv_iconst (v := iI 2) hx hb dJ6_numberOfTrailingZeros_0f7a4_71 rfl ?_
            refine lv_iushr hx hb dJ6_numberOfTrailingZeros_0f7a4_72 rfl ?_
            refine xr_any (fun z_23 h_24 => ?_)
            refine lv_istore_n (lv' := [(0, .int (iI z_23)), (1, .int (iI (a1_62 + 2)))]) hx hb dJ6_numberOfTrailingZeros_0f7a4_73 rfl hl (by decide) rfl (fun ls hl => ?_)
            exact J74 (a1_62 + 2) z_23 H locs ls (by omega) (by omega) hP hS (lv_sub hl [1, 0] rfl)
        refine xr_icmp_le (tgt := 62) hx hb dJ6_numberOfTrailingZeros_0f7a4_52 (by decide) (by omega) (by omega) (fun h_25 => ?_) (fun h_25 => ?_)
        · exact J62 a1_49 a0_49 H locs ls (by omega) (by omega) hP hS hl
        · refine lv_iinc (v := iI (a1_49 + 4)) (lv' := [(1, .int (iI (a1_49 + 4))), (0, .int (iI a0_49))]) hx hb dJ6_numberOfTrailingZeros_0f7a4_55 hl (k := 0) rfl (iI_add _ _) (by decide) rfl (fun ls hl => ?_)
          refine lv_iload_n hx hb dJ6_numberOfTrailingZeros_0f7a4_58 rfl (lv_at hl 1 rfl) ?_
          refine lv_iconst (v := iI 4) hx hb dJ6_numberOfTrailingZeros_0f7a4_59 rfl ?_
          refine lv_iushr hx hb dJ6_numberOfTrailingZeros_0f7a4_60 rfl ?_
          refine xr_any (fun z_26 h_27 => ?_)
          refine lv_istore_n (lv' := [(0, .int (iI z_26)), (1, .int (iI (a1_49 + 4)))]) hx hb dJ6_numberOfTrailingZeros_0f7a4_61 rfl hl (by decide) rfl (fun ls hl => ?_)
          exact J62 (a1_49 + 4) z_26 H locs ls (by omega) (by omega) hP hS (lv_sub hl [1, 0] rfl)
      refine xr_icmp_le (tgt := 49) hx hb dJ6_numberOfTrailingZeros_0f7a4_38 (by decide) (by omega) (by omega) (fun h_28 => ?_) (fun h_28 => ?_)
      · exact J49 a1_34 a0_34 H locs ls (by omega) (by omega) hP hS hl
      · refine lv_iinc (v := iI (a1_34 + 8)) (lv' := [(1, .int (iI (a1_34 + 8))), (0, .int (iI a0_34))]) hx hb dJ6_numberOfTrailingZeros_0f7a4_41 hl (k := 0) rfl (iI_add _ _) (by decide) rfl (fun ls hl => ?_)
        refine lv_iload_n hx hb dJ6_numberOfTrailingZeros_0f7a4_44 rfl (lv_at hl 1 rfl) ?_
        refine lv_bipush (v := iI 8) hx hb dJ6_numberOfTrailingZeros_0f7a4_45 rfl ?_
        refine lv_iushr hx hb dJ6_numberOfTrailingZeros_0f7a4_47 rfl ?_
        refine xr_any (fun z_29 h_30 => ?_)
        refine lv_istore_n (lv' := [(0, .int (iI z_29)), (1, .int (iI (a1_34 + 8)))]) hx hb dJ6_numberOfTrailingZeros_0f7a4_48 rfl hl (by decide) rfl (fun ls hl => ?_)
        exact J49 (a1_34 + 8) z_29 H locs ls (by omega) (by omega) hP hS (lv_sub hl [1, 0] rfl)
    refine xr_icmp_le (tgt := 34) hx hb dJ6_numberOfTrailingZeros_0f7a4_23 (by decide) (by omega) (by omega) (fun h_31 => ?_) (fun h_31 => ?_)
    · exact J34 1 z_6 H locs ls (by omega) (by omega) hP hS hl
    · refine lv_iinc (v := iI (1 + 16)) (lv' := [(1, .int (iI (1 + 16))), (0, .int (iI z_6))]) hx hb dJ6_numberOfTrailingZeros_0f7a4_26 hl (k := 0) rfl (iI_add _ _) (by decide) rfl (fun ls hl => ?_)
      refine lv_iload_n hx hb dJ6_numberOfTrailingZeros_0f7a4_29 rfl (lv_at hl 1 rfl) ?_
      refine lv_bipush (v := iI 16) hx hb dJ6_numberOfTrailingZeros_0f7a4_30 rfl ?_
      refine lv_iushr hx hb dJ6_numberOfTrailingZeros_0f7a4_32 rfl ?_
      refine xr_any (fun z_32 h_33 => ?_)
      refine lv_istore_n (lv' := [(0, .int (iI z_32)), (1, .int (iI (1 + 16)))]) hx hb dJ6_numberOfTrailingZeros_0f7a4_33 rfl hl (by decide) rfl (fun ls hl => ?_)
      exact J34 (1 + 16) z_32 H locs ls (by omega) (by omega) hP hS (lv_sub hl [1, 0] rfl)
  · refine lv_iload_n hx hb dJ6_numberOfTrailingZeros_0f7a4_12 rfl (lv_at hl 0 rfl) ?_
    refine lv_bipush (v := iI 32) hx hb dJ6_numberOfTrailingZeros_0f7a4_13 rfl ?_
    refine xr_andR hx hb (by omega) (by omega) dJ6_numberOfTrailingZeros_0f7a4_15 (fun z_34 h_35 => ?_)
    rw [← hQ]
    exact W.iret (v := iI z_34) hx hb hr (fun t ht hW => ⟨⟨iI z_34, (), rfl, ⟨z_34, rfl, by omega⟩, trivial⟩, hS.F ht⟩) hS.2.2 dJ6_numberOfTrailingZeros_0f7a4_16
set_option maxHeartbeats 2000000 in
set_option maxRecDepth 100000 in
theorem sX0_byteOf (l : Launch) (dC : Nat → ClassId) (dI : Nat → Nat → Nat) (sz : Nat) (p1 : Int) (p2 : Int) (p3 : Int) (p4 : Int) (q1 : rg p1) (q2 : rg p2) (q3 : rg p3) (q4 : rg p4) : Met l yX0_byteOf (jk yX0_byteOf cX0_byteOf 5 (some .int)) ({ frames := 0, cells := 0, slots := 0, locals := 0 }) (va_Pc [.int (iI p1), .int (iI p2), .int (iI p3), .int (iI p4)] (fun U => U.heap.size = sz)) (va_Qi (fun (r : Int32) (_ : Unit) => ∃ z : Int, r = iI z ∧ (rg z)) (fun _ _ => True) (va_A [] sz)) 0 0 (va_A [] sz) := by
  refine Met.ofW (cc := cX0_byteOf) (maxL := 5) (ret := (some .int)) (by decide) rfl ?_
  intro p e s m args below meth c s₁ B hml hv
  obtain ⟨rfl, hsz⟩ := hv
  have hx := B.exec
  have hb := B.bytes
  have hr := B.returns
  have hts := atoms_spec (ws := (jk yX0_byteOf cX0_byteOf 5 (some .int))) B.pre
  have hj : ∀ w ∈ jw, w.before ([.int (iI p1), .int (iI p2), .int (iI p3), .int (iI p4)] : List Value).toArray s = true := fun w h => hts w (jm h)
  have hown : s.vm.findClass RX0 = some m.cls := findClass_of_methodNamed B.named
  subst hsz
  have hP : va_P (dC, dI) vwCl [] s.heap := fun k q h => by simp at h
  generalize hAe : (va_A [] s.heap.size) = A
  have hA : ∀ q : Nat, s.heap.size ≤ q → A q := fun q h => by rw [← hAe]; exact Or.inr h
  have hS : va_S A s.heap s.heap [] := va_S.rf
  have hl := lv_entry ([.int (iI p1), .int (iI p2), .int (iI p3), .int (iI p4)]) (n := 5) (Nat.le_of_ble_eq_true rfl)
  rw [lg_entry_eq]
  generalize (lg_sl ([.int (iI p1), .int (iI p2), .int (iI p3), .int (iI p4)]) ++ List.replicate (5 - (lg_sl ([.int (iI p1), .int (iI p2), .int (iI p3), .int (iI p4)])).length) Slot.unset).toArray = ls at hl ⊢
  have hl : lv_has ls 5 [(0, .int (iI p1)), (1, .int (iI p2)), (2, .int (iI p3)), (3, .int (iI p4))] := hl
  generalize hQ : MQ below (va_Qi (fun (r : Int32) (_ : Unit) => ∃ z : Int, r = iI z ∧ (rg z)) (fun _ _ => True) A) ([.int (iI p1), .int (iI p2), .int (iI p3), .int (iI p4)] : List Value).toArray s 0 0 A = Q
  suffices ST : ∀ (H : Heap) (locs : List Loc), va_P (dC, dI) vwCl [] H → va_S A s.heap H locs → W p l e ({ frames := 0, cells := 0, slots := 0, locals := 0 }) s m ([.int (iI p1), .int (iI p2), .int (iI p3), .int (iI p4)] : List Value).toArray below meth c H locs 0 0 Q (F0 m 0 ls []) from ST _ _ hP hS
  clear hP hS
  intro H locs hP hS
  refine lv_iload_n hx hb dX0_byteOf_0 rfl (lv_at hl 3 rfl) ?_
  refine lv_iconst (v := iI 4) hx hb dX0_byteOf_1 rfl ?_
  have J20 : ∀ (s0_20 : Int) (H : Heap) (locs : List Loc) (ls : Array Slot), ((-2147483648) ≤ s0_20 ∧ s0_20 ≤ 2147483647) → va_P (dC, dI) vwCl [] H → va_S A s.heap H locs → lv_has ls 5 [(0, .int (iI p1)), (1, .int (iI p2)), (2, .int (iI p3)), (3, .int (iI p4))] → W p l e ({ frames := 0, cells := 0, slots := 0, locals := 0 }) s m ([.int (iI p1), .int (iI p2), .int (iI p3), .int (iI p4)] : List Value).toArray below meth c H locs 0 0 Q (F0 m 20 ls [.int (iI s0_20)]) := by
    intro s0_20 H locs ls h_1 hP hS hl
    refine lv_istore (lv' := [(4, .int (iI s0_20)), (0, .int (iI p1)), (1, .int (iI p2)), (2, .int (iI p3)), (3, .int (iI p4))]) hx hb dX0_byteOf_20 hl (by decide) rfl (fun ls hl => ?_)
    refine lv_iload hx hb dX0_byteOf_22 (lv_at hl 0 rfl) ?_
    refine lv_bipush (v := iI 24) hx hb dX0_byteOf_24 rfl ?_
    refine lv_bipush (v := iI 8) hx hb dX0_byteOf_26 rfl ?_
    refine lv_iload_n hx hb dX0_byteOf_28 rfl (lv_at hl 4 rfl) ?_
    refine lv_iconst (v := iI 3) hx hb dX0_byteOf_29 rfl ?_
    refine xr_andR hx hb (by omega) (by omega) dX0_byteOf_30 (fun z_2 h_3 => ?_)
    refine xr_mul hx hb dX0_byteOf_31 ?_
    refine xr_sub hx hb dX0_byteOf_32 ?_
    refine lv_iushr hx hb dX0_byteOf_33 rfl ?_
    refine xr_any (fun z_4 h_5 => ?_)
    refine lv_sipush (v := iI 255) hx hb dX0_byteOf_34 rfl ?_
    refine xr_andR hx hb (by omega) (by omega) dX0_byteOf_37 (fun z_6 h_7 => ?_)
    rw [← hQ]
    exact W.iret (v := iI z_6) hx hb hr (fun t ht hW => ⟨⟨iI z_6, (), rfl, ⟨z_6, rfl, by omega⟩, trivial⟩, hS.F ht⟩) hS.2.2 dX0_byteOf_38
  refine xr_icmp_ge (tgt := 9) hx hb dX0_byteOf_2 (by decide) (by omega) (by omega) (fun h_8 => ?_) (fun h_8 => ?_)
  · refine lv_iload_n hx hb dX0_byteOf_9 rfl (lv_at hl 3 rfl) ?_
    refine lv_bipush (v := iI 8) hx hb dX0_byteOf_10 rfl ?_
    refine xr_icmp_ge (tgt := 19) hx hb dX0_byteOf_12 (by decide) (by omega) (by omega) (fun h_9 => ?_) (fun h_9 => ?_)
    · refine lv_iload_n hx hb dX0_byteOf_19 rfl (lv_at hl 2 rfl) ?_
      exact J20 p3 H locs ls (by omega) hP hS hl
    · refine lv_iload_n hx hb dX0_byteOf_15 rfl (lv_at hl 1 rfl) ?_
      refine lv_goto (tgt := 20) hx hb dX0_byteOf_16 (by decide) ?_
      exact J20 p2 H locs ls (by omega) hP hS hl
  · refine lv_iload_n hx hb dX0_byteOf_5 rfl (lv_at hl 0 rfl) ?_
    refine lv_goto (tgt := 20) hx hb dX0_byteOf_6 (by decide) ?_
    exact J20 p1 H locs ls (by omega) hP hS hl
set_option maxHeartbeats 2000000 in
set_option maxRecDepth 100000 in
theorem sX0_isDigit (l : Launch) (dC : Nat → ClassId) (dI : Nat → Nat → Nat) (sz : Nat) (p1 : Int) (q1 : rg p1) : Met l yX0_isDigit (jk yX0_isDigit cX0_isDigit 1 (some .boolean)) ({ frames := 0, cells := 0, slots := 0, locals := 0 }) (va_Pc [.int (iI p1)] (fun U => U.heap.size = sz)) (va_Qi (fun (r : Int32) (_ : Unit) => ∃ z : Int, r = iI z ∧ (0 ≤ z ∧ z ≤ 1)) (fun _ _ => True) (va_A [] sz)) 0 0 (va_A [] sz) := by
  refine Met.ofW (cc := cX0_isDigit) (maxL := 1) (ret := (some .boolean)) (by decide) rfl ?_
  intro p e s m args below meth c s₁ B hml hv
  obtain ⟨rfl, hsz⟩ := hv
  have hx := B.exec
  have hb := B.bytes
  have hr := B.returns
  have hts := atoms_spec (ws := (jk yX0_isDigit cX0_isDigit 1 (some .boolean))) B.pre
  have hj : ∀ w ∈ jw, w.before ([.int (iI p1)] : List Value).toArray s = true := fun w h => hts w (jm h)
  have hown : s.vm.findClass RX0 = some m.cls := findClass_of_methodNamed B.named
  subst hsz
  have hP : va_P (dC, dI) vwCl [] s.heap := fun k q h => by simp at h
  generalize hAe : (va_A [] s.heap.size) = A
  have hA : ∀ q : Nat, s.heap.size ≤ q → A q := fun q h => by rw [← hAe]; exact Or.inr h
  have hS : va_S A s.heap s.heap [] := va_S.rf
  have hl := lv_entry ([.int (iI p1)]) (n := 1) (Nat.le_of_ble_eq_true rfl)
  rw [lg_entry_eq]
  generalize (lg_sl ([.int (iI p1)]) ++ List.replicate (1 - (lg_sl ([.int (iI p1)])).length) Slot.unset).toArray = ls at hl ⊢
  have hl : lv_has ls 1 [(0, .int (iI p1))] := hl
  generalize hQ : MQ below (va_Qi (fun (r : Int32) (_ : Unit) => ∃ z : Int, r = iI z ∧ (0 ≤ z ∧ z ≤ 1)) (fun _ _ => True) A) ([.int (iI p1)] : List Value).toArray s 0 0 A = Q
  suffices ST : ∀ (H : Heap) (locs : List Loc), va_P (dC, dI) vwCl [] H → va_S A s.heap H locs → W p l e ({ frames := 0, cells := 0, slots := 0, locals := 0 }) s m ([.int (iI p1)] : List Value).toArray below meth c H locs 0 0 Q (F0 m 0 ls []) from ST _ _ hP hS
  clear hP hS
  intro H locs hP hS
  refine lv_iload_n hx hb dX0_isDigit_0 rfl (lv_at hl 0 rfl) ?_
  refine lv_bipush (v := iI 48) hx hb dX0_isDigit_1 rfl ?_
  refine xr_icmp_lt (tgt := 16) hx hb dX0_isDigit_3 (by decide) (by omega) (by omega) (fun h_1 => ?_) (fun h_1 => ?_)
  · refine lv_iconst (v := iI 0) hx hb dX0_isDigit_16 rfl ?_
    rw [← hQ]
    exact W.zret (v := iI 0) (ty := .boolean) hx hb hr (nb_bool (by omega) (by omega)) (fun t ht hW => ⟨⟨iI 0, (), rfl, ⟨0, rfl, by omega⟩, trivial⟩, hS.F ht⟩) hS.2.2 dX0_isDigit_17
  · refine lv_iload_n hx hb dX0_isDigit_6 rfl (lv_at hl 0 rfl) ?_
    refine lv_bipush (v := iI 57) hx hb dX0_isDigit_7 rfl ?_
    refine xr_icmp_gt (tgt := 16) hx hb dX0_isDigit_9 (by decide) (by omega) (by omega) (fun h_2 => ?_) (fun h_2 => ?_)
    · refine lv_iconst (v := iI 0) hx hb dX0_isDigit_16 rfl ?_
      rw [← hQ]
      exact W.zret (v := iI 0) (ty := .boolean) hx hb hr (nb_bool (by omega) (by omega)) (fun t ht hW => ⟨⟨iI 0, (), rfl, ⟨0, rfl, by omega⟩, trivial⟩, hS.F ht⟩) hS.2.2 dX0_isDigit_17
    · refine lv_iconst (v := iI 1) hx hb dX0_isDigit_12 rfl ?_
      refine lv_goto (tgt := 17) hx hb dX0_isDigit_13 (by decide) ?_
      rw [← hQ]
      exact W.zret (v := iI 1) (ty := .boolean) hx hb hr (nb_bool (by omega) (by omega)) (fun t ht hW => ⟨⟨iI 1, (), rfl, ⟨1, rfl, by omega⟩, trivial⟩, hS.F ht⟩) hS.2.2 dX0_isDigit_17
set_option maxHeartbeats 2000000 in
set_option maxRecDepth 100000 in
theorem sX0_isMark (l : Launch) (dC : Nat → ClassId) (dI : Nat → Nat → Nat) (sz : Nat) (p1 : Int) (q1 : rg p1) : Met l yX0_isMark (jk yX0_isMark cX0_isMark 1 (some .boolean)) ({ frames := 1, cells := 0, slots := 0, locals := 20 }) (va_Pc [.int (iI p1)] (fun U => U.heap.size = sz)) (va_Qi (fun (r : Int32) (_ : Unit) => ∃ z : Int, r = iI z ∧ (0 ≤ z ∧ z ≤ 1)) (fun _ _ => True) (va_A [] sz)) 0 0 (va_A [] sz) := by
  refine Met.ofW (cc := cX0_isMark) (maxL := 1) (ret := (some .boolean)) (by decide) rfl ?_
  intro p e s m args below meth c s₁ B hml hv
  obtain ⟨rfl, hsz⟩ := hv
  have hx := B.exec
  have hb := B.bytes
  have hr := B.returns
  have hts := atoms_spec (ws := (jk yX0_isMark cX0_isMark 1 (some .boolean))) B.pre
  have hj : ∀ w ∈ jw, w.before ([.int (iI p1)] : List Value).toArray s = true := fun w h => hts w (jm h)
  have hown : s.vm.findClass RX0 = some m.cls := findClass_of_methodNamed B.named
  subst hsz
  have hP : va_P (dC, dI) vwCl [] s.heap := fun k q h => by simp at h
  generalize hAe : (va_A [] s.heap.size) = A
  have hA : ∀ q : Nat, s.heap.size ≤ q → A q := fun q h => by rw [← hAe]; exact Or.inr h
  have hS : va_S A s.heap s.heap [] := va_S.rf
  have hl := lv_entry ([.int (iI p1)]) (n := 1) (Nat.le_of_ble_eq_true rfl)
  rw [lg_entry_eq]
  generalize (lg_sl ([.int (iI p1)]) ++ List.replicate (1 - (lg_sl ([.int (iI p1)])).length) Slot.unset).toArray = ls at hl ⊢
  have hl : lv_has ls 1 [(0, .int (iI p1))] := hl
  generalize hQ : MQ below (va_Qi (fun (r : Int32) (_ : Unit) => ∃ z : Int, r = iI z ∧ (0 ≤ z ∧ z ≤ 1)) (fun _ _ => True) A) ([.int (iI p1)] : List Value).toArray s 0 0 A = Q
  suffices ST : ∀ (H : Heap) (locs : List Loc), va_P (dC, dI) vwCl [] H → va_S A s.heap H locs → W p l e ({ frames := 1, cells := 0, slots := 0, locals := 20 }) s m ([.int (iI p1)] : List Value).toArray below meth c H locs 0 0 Q (F0 m 0 ls []) from ST _ _ hP hS
  clear hP hS
  intro H locs hP hS
  refine lv_iload_n hx hb dX0_isMark_0 rfl (lv_at hl 0 rfl) ?_
  refine lv_bipush (v := iI 97) hx hb dX0_isMark_1 rfl ?_
  have J12 : ∀ (H : Heap) (locs : List Loc) (ls : Array Slot), va_P (dC, dI) vwCl [] H → va_S A s.heap H locs → lv_has ls 1 [(0, .int (iI p1))] → W p l e ({ frames := 1, cells := 0, slots := 0, locals := 20 }) s m ([.int (iI p1)] : List Value).toArray below meth c H locs 0 0 Q (F0 m 12 ls []) := by
    intro H locs ls hP hS hl
    refine lv_iload_n hx hb dX0_isMark_12 rfl (lv_at hl 0 rfl) ?_
    refine jc_i (va_runS (As := [.int (iI p1)]) (rest := []) ⟨hx, hb, hml, hown, hts⟩ (sX0_isDigit l dC dI _ p1 (by omega)) (va_cwS 1 hts (jgoodS m_660 m_661 m_662 m_663) rfl rfl rfl (by decide +kernel) ⟨(Nat.le_of_ble_eq_true rfl), (Nat.le_of_ble_eq_true rfl)⟩) ⟨jw_blind0, fun U hU hW => ⟨rfl, congrArg Array.size hU⟩⟩ rfl rfl hl.1 rfl (lv_room (Nat.le_of_ble_eq_true rfl)) dX0_isMark_13 ⟨(Nat.le_of_ble_eq_true rfl), (Nat.le_of_ble_eq_true rfl)⟩) hP hS hA (fun r_1 H locs w_2 hP hS => ?_)
    obtain ⟨z_3, rfl, h_4⟩ := w_2
    refine xr_if_eq (tgt := 23) hx hb dX0_isMark_16 (by decide) (by omega) (fun h_5 => ?_) (fun h_5 => ?_)
    · refine lv_iconst (v := iI 0) hx hb dX0_isMark_23 rfl ?_
      rw [← hQ]
      exact W.zret (v := iI 0) (ty := .boolean) hx hb hr (nb_bool (by omega) (by omega)) (fun t ht hW => ⟨⟨iI 0, (), rfl, ⟨0, rfl, by omega⟩, trivial⟩, hS.F ht⟩) hS.2.2 dX0_isMark_24
    · refine lv_iconst (v := iI 1) hx hb dX0_isMark_19 rfl ?_
      refine lv_goto (tgt := 24) hx hb dX0_isMark_20 (by decide) ?_
      rw [← hQ]
      exact W.zret (v := iI 1) (ty := .boolean) hx hb hr (nb_bool (by omega) (by omega)) (fun t ht hW => ⟨⟨iI 1, (), rfl, ⟨1, rfl, by omega⟩, trivial⟩, hS.F ht⟩) hS.2.2 dX0_isMark_24
  refine xr_icmp_lt (tgt := 12) hx hb dX0_isMark_3 (by decide) (by omega) (by omega) (fun h_6 => ?_) (fun h_6 => ?_)
  · exact J12 H locs ls hP hS hl
  · refine lv_iload_n hx hb dX0_isMark_6 rfl (lv_at hl 0 rfl) ?_
    refine lv_bipush (v := iI 122) hx hb dX0_isMark_7 rfl ?_
    refine xr_icmp_le (tgt := 19) hx hb dX0_isMark_9 (by decide) (by omega) (by omega) (fun h_7 => ?_) (fun h_7 => ?_)
    · refine lv_iconst (v := iI 1) hx hb dX0_isMark_19 rfl ?_
      refine lv_goto (tgt := 24) hx hb dX0_isMark_20 (by decide) ?_
      rw [← hQ]
      exact W.zret (v := iI 1) (ty := .boolean) hx hb hr (nb_bool (by omega) (by omega)) (fun t ht hW => ⟨⟨iI 1, (), rfl, ⟨1, rfl, by omega⟩, trivial⟩, hS.F ht⟩) hS.2.2 dX0_isMark_24
    · exact J12 H locs ls hP hS hl
