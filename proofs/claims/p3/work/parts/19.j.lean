set_option maxHeartbeats 2000000 in
set_option maxRecDepth 100000 in
theorem sJ6_bitCount_0f7a4 (l : Launch) (dC : Nat → ClassId) (dI : Nat → Nat → Nat) (sz : Nat) (p1 : Int) (q1 : rg p1) : Met l yJ6_bitCount_0f7a4 (jk yJ6_bitCount_0f7a4 cJ6_bitCount_0f7a4 1 (some .int)) ({ frames := 0, cells := 0, slots := 0, locals := 0 }) (va_Pc [.int (iI p1)] (fun U => U.heap.size = sz)) (va_Qi (fun (r : Int32) (_ : Unit) => ∃ z : Int, r = iI z ∧ (rg z)) (fun _ _ => True) (va_A [] sz)) 0 0 (va_A [] sz) := by
  refine Met.ofW (cc := cJ6_bitCount_0f7a4) (maxL := 1) (ret := (some .int)) (by decide) rfl ?_
  intro p e s m args below meth c s₁ B hml hv
  obtain ⟨rfl, hsz⟩ := hv
  have hx := B.exec
  have hb := B.bytes
  have hr := B.returns
  have hts := atoms_spec (ws := (jk yJ6_bitCount_0f7a4 cJ6_bitCount_0f7a4 1 (some .int))) B.pre
  have hj : ∀ w ∈ jw, w.before ([.int (iI p1)] : List Value).toArray s = true := fun w h => hts w (jm h)
  have hown : s.vm.findClass RJ6 = some m.cls := findClass_of_methodNamed B.named
  subst hsz
  have hP : va_P (dC, dI) vwCl [] s.heap := fun k q h => by simp at h
  generalize hAe : (va_A [] s.heap.size) = A
  have hA : ∀ q : Nat, s.heap.size ≤ q → A q := fun q h => by rw [← hAe]; exact Or.inr h
  have hS : va_S A s.heap s.heap [] := va_S.rf
  have hl := lv_entry ([.int (iI p1)]) (n := 1) (Nat.le_of_ble_eq_true rfl)
  rw [lg_entry_eq]
  generalize (lg_sl ([.int (iI p1)]) ++ List.replicate (1 - (lg_sl ([.int (iI p1)])).length) Slot.unset).toArray = ls at hl ⊢
  have hl : lv_has ls 1 [(0, .int (iI p1))] := hl
  generalize hQ : MQ below (va_Qi (fun (r : Int32) (_ : Unit) => ∃ z : Int, r = iI z ∧ (rg z)) (fun _ _ => True) A) ([.int (iI p1)] : List Value).toArray s 0 0 A = Q
  suffices ST : ∀ (H : Heap) (locs : List Loc), va_P (dC, dI) vwCl [] H → va_S A s.heap H locs → W p l e ({ frames := 0, cells := 0, slots := 0, locals := 0 }) s m ([.int (iI p1)] : List Value).toArray below meth c H locs 0 0 Q (F0 m 0 ls []) from ST _ _ hP hS
  clear hP hS
  intro H locs hP hS
  refine lv_iload_n hx hb dJ6_bitCount_0f7a4_0 rfl (lv_at hl 0 rfl) ?_
  refine lv_iload_n hx hb dJ6_bitCount_0f7a4_1 rfl (lv_at hl 0 rfl) ?_
  refine lv_iconst (v := iI 1) hx hb dJ6_bitCount_0f7a4_2 rfl ?_
  refine lv_iushr hx hb dJ6_bitCount_0f7a4_3 rfl ?_
  refine xr_any (fun z_1 h_2 => ?_)
  refine lv_ldcw hx hb hown (hts (.constant RJ6 265 1431655765) (jm m_657)) dJ6_bitCount_0f7a4_4 ?_
  refine jt_i (iI 1431655765) (by decide) ?_
  refine xr_andR hx hb (by omega) (by omega) dJ6_bitCount_0f7a4_7 (fun z_3 h_4 => ?_)
  refine xr_sub hx hb dJ6_bitCount_0f7a4_8 ?_
  refine xr_kept (fun z_5 h_6 h_7 => ?_)
  refine lv_istore_n (i := 0) (lv' := [(0, .int (iI z_5))]) hx hb dJ6_bitCount_0f7a4_9 rfl hl (by decide) rfl (fun ls hl => ?_)
  refine lv_iload_n hx hb dJ6_bitCount_0f7a4_10 rfl (lv_at hl 0 rfl) ?_
  refine lv_ldcw hx hb hown (hts (.constant RJ6 266 858993459) (jm m_658)) dJ6_bitCount_0f7a4_11 ?_
  refine jt_i (iI 858993459) (by decide) ?_
  refine xr_andR hx hb (by omega) (by omega) dJ6_bitCount_0f7a4_14 (fun z_8 h_9 => ?_)
  refine lv_iload_n hx hb dJ6_bitCount_0f7a4_15 rfl (lv_at hl 0 rfl) ?_
  refine lv_iconst (v := iI 2) hx hb dJ6_bitCount_0f7a4_16 rfl ?_
  refine lv_iushr hx hb dJ6_bitCount_0f7a4_17 rfl ?_
  refine xr_any (fun z_10 h_11 => ?_)
  refine lv_ldcw hx hb hown (hts (.constant RJ6 266 858993459) (jm m_658)) dJ6_bitCount_0f7a4_18 ?_
  refine jt_i (iI 858993459) (by decide) ?_
  refine xr_andR hx hb (by omega) (by omega) dJ6_bitCount_0f7a4_21 (fun z_12 h_13 => ?_)
  refine xr_add hx hb dJ6_bitCount_0f7a4_22 ?_
  refine lv_istore_n (i := 0) (lv' := [(0, .int (iI (z_8 + z_12)))]) hx hb dJ6_bitCount_0f7a4_23 rfl hl (by decide) rfl (fun ls hl => ?_)
  refine lv_iload_n hx hb dJ6_bitCount_0f7a4_24 rfl (lv_at hl 0 rfl) ?_
  refine lv_iload_n hx hb dJ6_bitCount_0f7a4_25 rfl (lv_at hl 0 rfl) ?_
  refine lv_iconst (v := iI 4) hx hb dJ6_bitCount_0f7a4_26 rfl ?_
  refine lv_iushr hx hb dJ6_bitCount_0f7a4_27 rfl ?_
  refine xr_any (fun z_14 h_15 => ?_)
  refine xr_add hx hb dJ6_bitCount_0f7a4_28 ?_
  refine xr_kept (fun z_16 h_17 h_18 => ?_)
  refine lv_ldcw hx hb hown (hts (.constant RJ6 267 252645135) (jm m_659)) dJ6_bitCount_0f7a4_29 ?_
  refine jt_i (iI 252645135) (by decide) ?_
  refine xr_andR hx hb (by omega) (by omega) dJ6_bitCount_0f7a4_32 (fun z_19 h_20 => ?_)
  refine lv_istore_n (i := 0) (lv' := [(0, .int (iI z_19))]) hx hb dJ6_bitCount_0f7a4_33 rfl hl (by decide) rfl (fun ls hl => ?_)
  refine lv_iload_n hx hb dJ6_bitCount_0f7a4_34 rfl (lv_at hl 0 rfl) ?_
  refine lv_iload_n hx hb dJ6_bitCount_0f7a4_35 rfl (lv_at hl 0 rfl) ?_
  refine lv_bipush (v := iI 8) hx hb dJ6_bitCount_0f7a4_36 rfl ?_
  refine lv_iushr hx hb dJ6_bitCount_0f7a4_38 rfl ?_
  refine xr_any (fun z_21 h_22 => ?_)
  refine xr_add hx hb dJ6_bitCount_0f7a4_39 ?_
  refine xr_kept (fun z_23 h_24 h_25 => ?_)
  refine lv_istore_n (i := 0) (lv' := [(0, .int (iI z_23))]) hx hb dJ6_bitCount_0f7a4_40 rfl hl (by decide) rfl (fun ls hl => ?_)
  refine lv_iload_n hx hb dJ6_bitCount_0f7a4_41 rfl (lv_at hl 0 rfl) ?_
  refine lv_iload_n hx hb dJ6_bitCount_0f7a4_42 rfl (lv_at hl 0 rfl) ?_
  refine lv_bipush (v := iI 16) hx hb dJ6_bitCount_0f7a4_43 rfl ?_
  refine lv_iushr hx hb dJ6_bitCount_0f7a4_45 rfl ?_
  refine xr_any (fun z_26 h_27 => ?_)
  refine xr_add hx hb dJ6_bitCount_0f7a4_46 ?_
  refine xr_kept (fun z_28 h_29 h_30 => ?_)
  refine lv_istore_n (i := 0) (lv' := [(0, .int (iI z_28))]) hx hb dJ6_bitCount_0f7a4_47 rfl hl (by decide) rfl (fun ls hl => ?_)
  refine lv_iload_n hx hb dJ6_bitCount_0f7a4_48 rfl (lv_at hl 0 rfl) ?_
  refine lv_bipush (v := iI 63) hx hb dJ6_bitCount_0f7a4_49 rfl ?_
  refine xr_andR hx hb (by omega) (by omega) dJ6_bitCount_0f7a4_51 (fun z_31 h_32 => ?_)
  rw [← hQ]
  exact W.iret (v := iI z_31) hx hb hr (fun t ht hW => ⟨⟨iI z_31, (), rfl, ⟨z_31, rfl, by omega⟩, trivial⟩, hS.F ht⟩) hS.2.2 dJ6_bitCount_0f7a4_52
set_option maxHeartbeats 2000000 in
set_option maxRecDepth 100000 in
theorem sJ13_bitCount_95d88 (l : Launch) (dC : Nat → ClassId) (dI : Nat → Nat → Nat) (sz : Nat) (p1 : Int) : Met l yJ13_bitCount_95d88 (jk yJ13_bitCount_95d88 cJ13_bitCount_95d88 2 (some .int)) ({ frames := 0, cells := 0, slots := 0, locals := 0 }) (va_Pc [.long (lL p1)] (fun U => U.heap.size = sz)) (va_Qi (fun (r : Int32) (_ : Unit) => ∃ z : Int, r = iI z ∧ (rg z)) (fun _ _ => True) (va_A [] sz)) 0 0 (va_A [] sz) := by
  refine Met.ofW (cc := cJ13_bitCount_95d88) (maxL := 2) (ret := (some .int)) (by decide) rfl ?_
  intro p e s m args below meth c s₁ B hml hv
  obtain ⟨rfl, hsz⟩ := hv
  have hx := B.exec
  have hb := B.bytes
  have hr := B.returns
  have hts := atoms_spec (ws := (jk yJ13_bitCount_95d88 cJ13_bitCount_95d88 2 (some .int))) B.pre
  have hj : ∀ w ∈ jw, w.before ([.long (lL p1)] : List Value).toArray s = true := fun w h => hts w (jm h)
  have hown : s.vm.findClass RJ13 = some m.cls := findClass_of_methodNamed B.named
  subst hsz
  have hP : va_P (dC, dI) vwCl [] s.heap := fun k q h => by simp at h
  generalize hAe : (va_A [] s.heap.size) = A
  have hA : ∀ q : Nat, s.heap.size ≤ q → A q := fun q h => by rw [← hAe]; exact Or.inr h
  have hS : va_S A s.heap s.heap [] := va_S.rf
  have hl := lv_entry ([.long (lL p1)]) (n := 2) (Nat.le_of_ble_eq_true rfl)
  rw [lg_entry_eq]
  generalize (lg_sl ([.long (lL p1)]) ++ List.replicate (2 - (lg_sl ([.long (lL p1)])).length) Slot.unset).toArray = ls at hl ⊢
  have hl : lv_has ls 2 [(0, .long (lL p1))] := hl
  generalize hQ : MQ below (va_Qi (fun (r : Int32) (_ : Unit) => ∃ z : Int, r = iI z ∧ (rg z)) (fun _ _ => True) A) ([.long (lL p1)] : List Value).toArray s 0 0 A = Q
  suffices ST : ∀ (H : Heap) (locs : List Loc), va_P (dC, dI) vwCl [] H → va_S A s.heap H locs → W p l e ({ frames := 0, cells := 0, slots := 0, locals := 0 }) s m ([.long (lL p1)] : List Value).toArray below meth c H locs 0 0 Q (F0 m 0 ls []) from ST _ _ hP hS
  clear hP hS
  intro H locs hP hS
  refine lv_lload_n hx hb dJ13_bitCount_95d88_0 rfl (lv_at hl 0 rfl) ?_
  refine lv_lload_n hx hb dJ13_bitCount_95d88_1 rfl (lv_at hl 0 rfl) ?_
  refine lv_iconst (v := iI 1) hx hb dJ13_bitCount_95d88_2 rfl ?_
  refine lv_lushr hx hb dJ13_bitCount_95d88_3 rfl ?_
  refine xl_any (fun u_1 => ?_)
  refine lv_ldc2 hx hb hown (hts (.constantLong RJ13 314 6148914691236517205) (jm m_660)) dJ13_bitCount_95d88_4 ?_
  refine lv_land hx hb dJ13_bitCount_95d88_7 ?_
  refine xl_any (fun u_2 => ?_)
  refine lv_lsub hx hb dJ13_bitCount_95d88_8 ?_
  refine xl_any (fun u_3 => ?_)
  refine lv_lstore_n (i := 0) (lv' := [(0, .long (lL u_3))]) hx hb dJ13_bitCount_95d88_9 rfl hl (by decide) rfl (fun ls hl => ?_)
  refine lv_lload_n hx hb dJ13_bitCount_95d88_10 rfl (lv_at hl 0 rfl) ?_
  refine lv_ldc2 hx hb hown (hts (.constantLong RJ13 316 3689348814741910323) (jm m_661)) dJ13_bitCount_95d88_11 ?_
  refine lv_land hx hb dJ13_bitCount_95d88_14 ?_
  refine xl_any (fun u_4 => ?_)
  refine lv_lload_n hx hb dJ13_bitCount_95d88_15 rfl (lv_at hl 0 rfl) ?_
  refine lv_iconst (v := iI 2) hx hb dJ13_bitCount_95d88_16 rfl ?_
  refine lv_lushr hx hb dJ13_bitCount_95d88_17 rfl ?_
  refine xl_any (fun u_5 => ?_)
  refine lv_ldc2 hx hb hown (hts (.constantLong RJ13 316 3689348814741910323) (jm m_661)) dJ13_bitCount_95d88_18 ?_
  refine lv_land hx hb dJ13_bitCount_95d88_21 ?_
  refine xl_any (fun u_6 => ?_)
  refine lv_ladd hx hb dJ13_bitCount_95d88_22 ?_
  refine xl_any (fun u_7 => ?_)
  refine lv_lstore_n (i := 0) (lv' := [(0, .long (lL u_7))]) hx hb dJ13_bitCount_95d88_23 rfl hl (by decide) rfl (fun ls hl => ?_)
  refine lv_lload_n hx hb dJ13_bitCount_95d88_24 rfl (lv_at hl 0 rfl) ?_
  refine lv_lload_n hx hb dJ13_bitCount_95d88_25 rfl (lv_at hl 0 rfl) ?_
  refine lv_iconst (v := iI 4) hx hb dJ13_bitCount_95d88_26 rfl ?_
  refine lv_lushr hx hb dJ13_bitCount_95d88_27 rfl ?_
  refine xl_any (fun u_8 => ?_)
  refine lv_ladd hx hb dJ13_bitCount_95d88_28 ?_
  refine xl_any (fun u_9 => ?_)
  refine lv_ldc2 hx hb hown (hts (.constantLong RJ13 318 1085102592571150095) (jm m_662)) dJ13_bitCount_95d88_29 ?_
  refine lv_land hx hb dJ13_bitCount_95d88_32 ?_
  refine xl_any (fun u_10 => ?_)
  refine lv_lstore_n (i := 0) (lv' := [(0, .long (lL u_10))]) hx hb dJ13_bitCount_95d88_33 rfl hl (by decide) rfl (fun ls hl => ?_)
  refine lv_lload_n hx hb dJ13_bitCount_95d88_34 rfl (lv_at hl 0 rfl) ?_
  refine lv_lload_n hx hb dJ13_bitCount_95d88_35 rfl (lv_at hl 0 rfl) ?_
  refine lv_bipush (v := iI 8) hx hb dJ13_bitCount_95d88_36 rfl ?_
  refine lv_lushr hx hb dJ13_bitCount_95d88_38 rfl ?_
  refine xl_any (fun u_11 => ?_)
  refine lv_ladd hx hb dJ13_bitCount_95d88_39 ?_
  refine xl_any (fun u_12 => ?_)
  refine lv_lstore_n (i := 0) (lv' := [(0, .long (lL u_12))]) hx hb dJ13_bitCount_95d88_40 rfl hl (by decide) rfl (fun ls hl => ?_)
  refine lv_lload_n hx hb dJ13_bitCount_95d88_41 rfl (lv_at hl 0 rfl) ?_
  refine lv_lload_n hx hb dJ13_bitCount_95d88_42 rfl (lv_at hl 0 rfl) ?_
  refine lv_bipush (v := iI 16) hx hb dJ13_bitCount_95d88_43 rfl ?_
  refine lv_lushr hx hb dJ13_bitCount_95d88_45 rfl ?_
  refine xl_any (fun u_13 => ?_)
  refine lv_ladd hx hb dJ13_bitCount_95d88_46 ?_
  refine xl_any (fun u_14 => ?_)
  refine lv_lstore_n (i := 0) (lv' := [(0, .long (lL u_14))]) hx hb dJ13_bitCount_95d88_47 rfl hl (by decide) rfl (fun ls hl => ?_)
  refine lv_lload_n hx hb dJ13_bitCount_95d88_48 rfl (lv_at hl 0 rfl) ?_
  refine lv_lload_n hx hb dJ13_bitCount_95d88_49 rfl (lv_at hl 0 rfl) ?_
  refine lv_bipush (v := iI 32) hx hb dJ13_bitCount_95d88_50 rfl ?_
  refine lv_lushr hx hb dJ13_bitCount_95d88_52 rfl ?_
  refine xl_any (fun u_15 => ?_)
  refine lv_ladd hx hb dJ13_bitCount_95d88_53 ?_
  refine xl_any (fun u_16 => ?_)
  refine lv_lstore_n (i := 0) (lv' := [(0, .long (lL u_16))]) hx hb dJ13_bitCount_95d88_54 rfl hl (by decide) rfl (fun ls hl => ?_)
  refine lv_lload_n hx hb dJ13_bitCount_95d88_55 rfl (lv_at hl 0 rfl) ?_
  refine lv_l2i hx hb dJ13_bitCount_95d88_56 rfl ?_
  refine xr_any (fun z_17 h_18 => ?_)
  refine lv_bipush (v := iI 127) hx hb dJ13_bitCount_95d88_57 rfl ?_
  refine xr_andR hx hb (by omega) (by omega) dJ13_bitCount_95d88_59 (fun z_19 h_20 => ?_)
  rw [← hQ]
  exact W.iret (v := iI z_19) hx hb hr (fun t ht hW => ⟨⟨iI z_19, (), rfl, ⟨z_19, rfl, by omega⟩, trivial⟩, hS.F ht⟩) hS.2.2 dJ13_bitCount_95d88_60
set_option maxHeartbeats 2000000 in
set_option maxRecDepth 100000 in
theorem sJ6_numberOfTrailingZeros_0f7a4 (l : Launch) (dC : Nat → ClassId) (dI : Nat → Nat → Nat) (sz : Nat) (p1 : Int) (q1 : rg p1) : Met l yJ6_numberOfTrailingZeros_0f7a4 (jk yJ6_numberOfTrailingZeros_0f7a4 cJ6_numberOfTrailingZeros_0f7a4 2 (some .int)) ({ frames := 0, cells := 0, slots := 0, locals := 0 }) (va_Pc [.int (iI p1)] (fun U => U.heap.size = sz)) (va_Qi (fun (r : Int32) (_ : Unit) => ∃ z : Int, r = iI z ∧ (rg z)) (fun _ _ => True) (va_A [] sz)) 0 0 (va_A [] sz) := by
  refine Met.ofW (cc := cJ6_numberOfTrailingZeros_0f7a4) (maxL := 2) (ret := (some .int)) (by decide) rfl ?_
  intro p e s m args below meth c s₁ B hml hv
  obtain ⟨rfl, hsz⟩ := hv
  have hx := B.exec
  have hb := B.bytes
  have hr := B.returns
  have hts := atoms_spec (ws := (jk yJ6_numberOfTrailingZeros_0f7a4 cJ6_numberOfTrailingZeros_0f7a4 2 (some .int))) B.pre
  have hj : ∀ w ∈ jw, w.before ([.int (iI p1)] : List Value).toArray s = true := fun w h => hts w (jm h)
  have hown : s.vm.findClass RJ6 = some m.cls := findClass_of_methodNamed B.named
  subst hsz
  have hP : va_P (dC, dI) vwCl [] s.heap := fun k q h => by simp at h
  generalize hAe : (va_A [] s.heap.size) = A
  have hA : ∀ q : Nat, s.heap.size ≤ q → A q := fun q h => by rw [← hAe]; exact Or.inr h
  have hS : va_S A s.heap s.heap [] := va_S.rf
  have hl := lv_entry ([.int (iI p1)]) (n := 2) (Nat.le_of_ble_eq_true rfl)
  rw [lg_entry_eq]
  generalize (lg_sl ([.int (iI p1)]) ++ List.replicate (2 - (lg_sl ([.int (iI p1)])).length) Slot.unset).toArray = ls at hl ⊢
  have hl : lv_has ls 2 [(0, .int (iI p1))] := hl
  generalize hQ : MQ below (va_Qi (fun (r : Int32) (_ : Unit) => ∃ z : Int, r = iI z ∧ (rg z)) (fun _ _ => True) A) ([.int (iI p1)] : List Value).toArray s 0 0 A = Q
  suffices ST : ∀ (H : Heap) (locs : List Loc), va_P (dC, dI) vwCl [] H → va_S A s.heap H locs → W p l e ({ frames := 0, cells := 0, slots := 0, locals := 0 }) s m ([.int (iI p1)] : List Value).toArray below meth c H locs 0 0 Q (F0 m 0 ls []) from ST _ _ hP hS
  clear hP hS
  intro H locs hP hS
  refine lv_iload_n hx hb dJ6_numberOfTrailingZeros_0f7a4_0 rfl (lv_at hl 0 rfl) ?_
  refine lv_iconst (v := iI (-1)) hx hb dJ6_numberOfTrailingZeros_0f7a4_1 rfl ?_
  refine lv_ixor hx hb dJ6_numberOfTrailingZeros_0f7a4_2 ?_
  refine xr_any (fun z_1 h_2 => ?_)
  refine lv_iload_n hx hb dJ6_numberOfTrailingZeros_0f7a4_3 rfl (lv_at hl 0 rfl) ?_
  refine lv_iconst (v := iI 1) hx hb dJ6_numberOfTrailingZeros_0f7a4_4 rfl ?_
  refine xr_sub hx hb dJ6_numberOfTrailingZeros_0f7a4_5 ?_
  refine xr_kept (fun z_3 h_4 h_5 => ?_)
  refine lv_iand hx hb dJ6_numberOfTrailingZeros_0f7a4_6 ?_
  refine xr_any (fun z_6 h_7 => ?_)
  refine lv_istore_n (i := 0) (lv' := [(0, .int (iI z_6))]) hx hb dJ6_numberOfTrailingZeros_0f7a4_7 rfl hl (by decide) rfl (fun ls hl => ?_)
  refine lv_iload_n hx hb dJ6_numberOfTrailingZeros_0f7a4_8 rfl (lv_at hl 0 rfl) ?_
  refine xr_if_gt (tgt := 17) hx hb dJ6_numberOfTrailingZeros_0f7a4_9 (by decide) (by omega) (fun h_8 => ?_) (fun h_8 => ?_)
  · refine lv_iconst (v := iI 1) hx hb dJ6_numberOfTrailingZeros_0f7a4_17 rfl ?_
    refine lv_istore_n (i := 1) (lv' := [(1, .int (iI 1)), (0, .int (iI z_6))]) hx hb dJ6_numberOfTrailingZeros_0f7a4_18 rfl hl (by decide) rfl (fun ls hl => ?_)
    refine lv_iload_n hx hb dJ6_numberOfTrailingZeros_0f7a4_19 rfl (lv_at hl 1 rfl) ?_
    refine lv_ldcw hx hb hown (hts (.constant RJ6 264 65536) (jm m_663)) dJ6_numberOfTrailingZeros_0f7a4_20 ?_
    refine jt_i (iI 65536) (by decide) ?_
    have J34 : ∀ (a1_34 a0_34 : Int) (H : Heap) (locs : List Loc) (ls : Array Slot), (1 ≤ a1_34 ∧ a1_34 ≤ 17) → ((-2147483648) ≤ a0_34 ∧ a0_34 ≤ 2147483647) → va_P (dC, dI) vwCl [] H → va_S A s.heap H locs → lv_has ls 2 [(1, .int (iI a1_34)), (0, .int (iI a0_34))] → W p l e ({ frames := 0, cells := 0, slots := 0, locals := 0 }) s m ([.int (iI p1)] : List Value).toArray below meth c H locs 0 0 Q (F0 m 34 ls []) := by
      intro a1_34 a0_34 H locs ls h_9 h_10 hP hS hl
      refine lv_iload_n hx hb dJ6_numberOfTrailingZeros_0f7a4_34 rfl (lv_at hl 1 rfl) ?_
      refine lv_sipush (v := iI 256) hx hb dJ6_numberOfTrailingZeros_0f7a4_35 rfl ?_
      have J49 : ∀ (a1_49 a0_49 : Int) (H : Heap) (locs : List Loc) (ls : Array Slot), (1 ≤ a1_49 ∧ a1_49 ≤ 25) → ((-2147483648) ≤ a0_49 ∧ a0_49 ≤ 2147483647) → va_P (dC, dI) vwCl [] H → va_S A s.heap H locs → lv_has ls 2 [(1, .int (iI a1_49)), (0, .int (iI a0_49))] → W p l e ({ frames := 0, cells := 0, slots := 0, locals := 0 }) s m ([.int (iI p1)] : List Value).toArray below meth c H locs 0 0 Q (F0 m 49 ls []) := by
        intro a1_49 a0_49 H locs ls h_11 h_12 hP hS hl
        refine lv_iload_n hx hb dJ6_numberOfTrailingZeros_0f7a4_49 rfl (lv_at hl 1 rfl) ?_
        refine lv_bipush (v := iI 16) hx hb dJ6_numberOfTrailingZeros_0f7a4_50 rfl ?_
        have J62 : ∀ (a1_62 a0_62 : Int) (H : Heap) (locs : List Loc) (ls : Array Slot), (1 ≤ a1_62 ∧ a1_62 ≤ 29) → ((-2147483648) ≤ a0_62 ∧ a0_62 ≤ 2147483647) → va_P (dC, dI) vwCl [] H → va_S A s.heap H locs → lv_has ls 2 [(1, .int (iI a1_62)), (0, .int (iI a0_62))] → W p l e ({ frames := 0, cells := 0, slots := 0, locals := 0 }) s m ([.int (iI p1)] : List Value).toArray below meth c H locs 0 0 Q (F0 m 62 ls []) := by
          intro a1_62 a0_62 H locs ls h_13 h_14 hP hS hl
          refine lv_iload_n hx hb dJ6_numberOfTrailingZeros_0f7a4_62 rfl (lv_at hl 1 rfl) ?_
          refine lv_iconst (v := iI 4) hx hb dJ6_numberOfTrailingZeros_0f7a4_63 rfl ?_
          have J74 : ∀ (a1_74 a0_74 : Int) (H : Heap) (locs : List Loc) (ls : Array Slot), (1 ≤ a1_74 ∧ a1_74 ≤ 31) → ((-2147483648) ≤ a0_74 ∧ a0_74 ≤ 2147483647) → va_P (dC, dI) vwCl [] H → va_S A s.heap H locs → lv_has ls 2 [(1, .int (iI a1_74)), (0, .int (iI a0_74))] → W p l e ({ frames := 0, cells := 0, slots := 0, locals := 0 }) s m ([.int (iI p1)] : List Value).toArray below meth c H locs 0 0 Q (F0 m 74 ls []) := by
            intro a1_74 a0_74 H locs ls h_15 h_16 hP hS hl
            refine lv_iload_n hx hb dJ6_numberOfTrailingZeros_0f7a4_74 rfl (lv_at hl 0 rfl) ?_
            refine lv_iload_n hx hb dJ6_numberOfTrailingZeros_0f7a4_75 rfl (lv_at hl 1 rfl) ?_
            refine lv_iconst (v := iI 1) hx hb dJ6_numberOfTrailingZeros_0f7a4_76 rfl ?_
            refine lv_iushr hx hb dJ6_numberOfTrailingZeros_0f7a4_77 rfl ?_
            refine xr_any (fun z_17 h_18 => ?_)
            refine xr_add hx hb dJ6_numberOfTrailingZeros_0f7a4_78 ?_
            refine xr_kept (fun z_19 h_20 h_21 => ?_)
            rw [← hQ]
            exact W.iret (v := iI z_19) hx hb hr (fun t ht hW => ⟨⟨iI z_19, (), rfl, ⟨z_19, rfl, by omega⟩, trivial⟩, hS.F ht⟩) hS.2.2 dJ6_numberOfTrailingZeros_0f7a4_79
          refine xr_icmp_le (tgt := 74) hx hb dJ6_numberOfTrailingZeros_0f7a4_64 (by decide) (by omega) (by omega) (fun h_22 => ?_) (fun h_22 => ?_)
          · exact J74 a1_62 a0_62 H locs ls (by omega) (by omega) hP hS hl
          · refine lv_iinc (v := iI (a1_62 + 2)) (lv' := [(1, .int (iI (a1_62 + 2))), (0, .int (iI a0_62))]) hx hb dJ6_numberOfTrailingZeros_0f7a4_67 hl (k := 0) rfl (iI_add _ _) (by decide) rfl (fun ls hl => ?_)
            refine lv_iload_n hx hb dJ6_numberOfTrailingZeros_0f7a4_70 rfl (lv_at hl 1 rfl) ?_
            refine lv_iconst (v := iI 2) hx hb dJ6_numberOfTrailingZeros_0f7a4_71 rfl ?_
            refine lv_iushr hx hb dJ6_numberOfTrailingZeros_0f7a4_72 rfl ?_
            refine xr_any (fun z_23 h_24 => ?_)
            refine lv_istore_n (i := 0) (lv' := [(0, .int (iI z_23)), (1, .int (iI (a1_62 + 2)))]) hx hb dJ6_numberOfTrailingZeros_0f7a4_73 rfl hl (by decide) rfl (fun ls hl => ?_)
            exact J74 (a1_62 + 2) z_23 H locs ls (by omega) (by omega) hP hS (lv_sub hl [1, 0] rfl)
        refine xr_icmp_le (tgt := 62) hx hb dJ6_numberOfTrailingZeros_0f7a4_52 (by decide) (by omega) (by omega) (fun h_25 => ?_) (fun h_25 => ?_)
        · exact J62 a1_49 a0_49 H locs ls (by omega) (by omega) hP hS hl
        · refine lv_iinc (v := iI (a1_49 + 4)) (lv' := [(1, .int (iI (a1_49 + 4))), (0, .int (iI a0_49))]) hx hb dJ6_numberOfTrailingZeros_0f7a4_55 hl (k := 0) rfl (iI_add _ _) (by decide) rfl (fun ls hl => ?_)
          refine lv_iload_n hx hb dJ6_numberOfTrailingZeros_0f7a4_58 rfl (lv_at hl 1 rfl) ?_
          refine lv_iconst (v := iI 4) hx hb dJ6_numberOfTrailingZeros_0f7a4_59 rfl ?_
          refine lv_iushr hx hb dJ6_numberOfTrailingZeros_0f7a4_60 rfl ?_
          refine xr_any (fun z_26 h_27 => ?_)
          refine lv_istore_n (i := 0) (lv' := [(0, .int (iI z_26)), (1, .int (iI (a1_49 + 4)))]) hx hb dJ6_numberOfTrailingZeros_0f7a4_61 rfl hl (by decide) rfl (fun ls hl => ?_)
          exact J62 (a1_49 + 4) z_26 H locs ls (by omega) (by omega) hP hS (lv_sub hl [1, 0] rfl)
      refine xr_icmp_le (tgt := 49) hx hb dJ6_numberOfTrailingZeros_0f7a4_38 (by decide) (by omega) (by omega) (fun h_28 => ?_) (fun h_28 => ?_)
      · exact J49 a1_34 a0_34 H locs ls (by omega) (by omega) hP hS hl
      · refine lv_iinc (v := iI (a1_34 + 8)) (lv' := [(1, .int (iI (a1_34 + 8))), (0, .int (iI a0_34))]) hx hb dJ6_numberOfTrailingZeros_0f7a4_41 hl (k := 0) rfl (iI_add _ _) (by decide) rfl (fun ls hl => ?_)
        refine lv_iload_n hx hb dJ6_numberOfTrailingZeros_0f7a4_44 rfl (lv_at hl 1 rfl) ?_
        refine lv_bipush (v := iI 8) hx hb dJ6_numberOfTrailingZeros_0f7a4_45 rfl ?_
        refine lv_iushr hx hb dJ6_numberOfTrailingZeros_0f7a4_47 rfl ?_
        refine xr_any (fun z_29 h_30 => ?_)
        refine lv_istore_n (i := 0) (lv' := [(0, .int (iI z_29)), (1, .int (iI (a1_34 + 8)))]) hx hb dJ6_numberOfTrailingZeros_0f7a4_48 rfl hl (by decide) rfl (fun ls hl => ?_)
        exact J49 (a1_34 + 8) z_29 H locs ls (by omega) (by omega) hP hS (lv_sub hl [1, 0] rfl)
    refine xr_icmp_le (tgt := 34) hx hb dJ6_numberOfTrailingZeros_0f7a4_23 (by decide) (by omega) (by omega) (fun h_31 => ?_) (fun h_31 => ?_)
    · exact J34 1 z_6 H locs ls (by omega) (by omega) hP hS hl
    · refine lv_iinc (v := iI (1 + 16)) (lv' := [(1, .int (iI (1 + 16))), (0, .int (iI z_6))]) hx hb dJ6_numberOfTrailingZeros_0f7a4_26 hl (k := 0) rfl (iI_add _ _) (by decide) rfl (fun ls hl => ?_)
      refine lv_iload_n hx hb dJ6_numberOfTrailingZeros_0f7a4_29 rfl (lv_at hl 1 rfl) ?_
      refine lv_bipush (v := iI 16) hx hb dJ6_numberOfTrailingZeros_0f7a4_30 rfl ?_
      refine lv_iushr hx hb dJ6_numberOfTrailingZeros_0f7a4_32 rfl ?_
      refine xr_any (fun z_32 h_33 => ?_)
      refine lv_istore_n (i := 0) (lv' := [(0, .int (iI z_32)), (1, .int (iI (1 + 16)))]) hx hb dJ6_numberOfTrailingZeros_0f7a4_33 rfl hl (by decide) rfl (fun ls hl => ?_)
      exact J34 (1 + 16) z_32 H locs ls (by omega) (by omega) hP hS (lv_sub hl [1, 0] rfl)
  · refine lv_iload_n hx hb dJ6_numberOfTrailingZeros_0f7a4_12 rfl (lv_at hl 0 rfl) ?_
    refine lv_bipush (v := iI 32) hx hb dJ6_numberOfTrailingZeros_0f7a4_13 rfl ?_
    refine xr_andR hx hb (by omega) (by omega) dJ6_numberOfTrailingZeros_0f7a4_15 (fun z_34 h_35 => ?_)
    rw [← hQ]
    exact W.iret (v := iI z_34) hx hb hr (fun t ht hW => ⟨⟨iI z_34, (), rfl, ⟨z_34, rfl, by omega⟩, trivial⟩, hS.F ht⟩) hS.2.2 dJ6_numberOfTrailingZeros_0f7a4_16
set_option maxHeartbeats 2000000 in
set_option maxRecDepth 100000 in
theorem sJ0_isLatin1_aae02 (l : Launch) (dC : Nat → ClassId) (dI : Nat → Nat → Nat) (sz : Nat) (sK sV : Nat → Nat) (p0 : Nat) (q0 : p0 < 3) : Met l yJ0_isLatin1_aae02 (jk yJ0_isLatin1_aae02 cJ0_isLatin1_aae02 1 (some .boolean)) ({ frames := 0, cells := 0, slots := 0, locals := 0 }) (va_Pc [.ref (sK p0)] (fun U => U.heap.size = sz ∧ xS sK sV (va_A [] sz) U U.heap)) (va_Qi (fun (r : Int32) (_ : Unit) => ∃ z : Int, r = iI z ∧ (0 ≤ z ∧ z ≤ 1) ∧ (z = 1)) (fun _ _ => True) (va_A [] sz)) 0 0 (va_A [] sz) := by
  refine Met.ofW (cc := cJ0_isLatin1_aae02) (maxL := 1) (ret := (some .boolean)) (by decide) rfl ?_
  intro p e s m args below meth c s₁ B hml hv
  obtain ⟨rfl, hsz, hXs⟩ := hv
  have hx := B.exec
  have hb := B.bytes
  have hr := B.returns
  have hts := atoms_spec (ws := (jk yJ0_isLatin1_aae02 cJ0_isLatin1_aae02 1 (some .boolean))) B.pre
  have hj : ∀ w ∈ jw, w.before ([.ref (sK p0)] : List Value).toArray s = true := fun w h => hts w (jm h)
  have hown : s.vm.findClass RJ0 = some m.cls := findClass_of_methodNamed B.named
  subst hsz
  have hP : va_P (dC, dI) vwCl [] s.heap := fun k q h => by simp at h
  generalize hAe : (va_A [] s.heap.size) = A at hXs ⊢
  have hA : ∀ q : Nat, s.heap.size ≤ q → A q := fun q h => by rw [← hAe]; exact Or.inr h
  have hS : va_S A s.heap s.heap [] := va_S.rf
  have hl := lv_entry ([.ref (sK p0)]) (n := 1) (Nat.le_of_ble_eq_true rfl)
  rw [lg_entry_eq]
  generalize (lg_sl ([.ref (sK p0)]) ++ List.replicate (1 - (lg_sl ([.ref (sK p0)])).length) Slot.unset).toArray = ls at hl ⊢
  have hl : lv_has ls 1 [(0, .ref (sK p0))] := hl
  generalize hQ : MQ below (va_Qi (fun (r : Int32) (_ : Unit) => ∃ z : Int, r = iI z ∧ (0 ≤ z ∧ z ≤ 1) ∧ (z = 1)) (fun _ _ => True) A) ([.ref (sK p0)] : List Value).toArray s 0 0 A = Q
  suffices ST : ∀ (H : Heap) (locs : List Loc), va_P (dC, dI) vwCl [] H → va_S A s.heap H locs → W p l e ({ frames := 0, cells := 0, slots := 0, locals := 0 }) s m ([.ref (sK p0)] : List Value).toArray below meth c H locs 0 0 Q (F0 m 0 ls []) from ST _ _ hP hS
  clear hP hS
  intro H locs hP hS
  refine va_gets hx hb hXs.2.2.1 hS hown (hj _ m_748) (fun _ h9 => h9) dJ0_isLatin1_aae02_0 ?_
  refine jt_i (iI 1) (by decide) ?_
  refine xr_if_eq (tgt := 17) hx hb dJ0_isLatin1_aae02_3 (by decide) (by omega) (fun h_1 => ?_) (fun h_1 => ?_)
  · exfalso; omega
  · refine lv_aload_n hx hb dJ0_isLatin1_aae02_6 rfl (lv_at hl 0 rfl) ?_
    refine xs_coder hx hb hXs q0 hS hown (hj _ m_749) dJ0_isLatin1_aae02_7 ?_
    refine xr_if_ne (tgt := 17) hx hb dJ0_isLatin1_aae02_10 (by decide) (by omega) (fun h_2 => ?_) (fun h_2 => ?_)
    · exfalso; omega
    · refine lv_iconst (v := iI 1) hx hb dJ0_isLatin1_aae02_13 rfl ?_
      refine lv_goto (tgt := 18) hx hb dJ0_isLatin1_aae02_14 (by decide) ?_
      rw [← hQ]
      exact W.zret (v := iI 1) (ty := .boolean) hx hb hr (nb_bool (by omega) (by omega)) (fun t ht hW => ⟨⟨iI 1, (), rfl, ⟨1, rfl, by omega, by omega⟩, trivial⟩, hS.F ht⟩) hS.2.2 dJ0_isLatin1_aae02_18
set_option maxHeartbeats 2000000 in
set_option maxRecDepth 100000 in
theorem sJ0_coder_7d493 (l : Launch) (dC : Nat → ClassId) (dI : Nat → Nat → Nat) (sz : Nat) (sK sV : Nat → Nat) (p0 : Nat) (q0 : p0 < 3) : Met l yJ0_coder_7d493 (jk yJ0_coder_7d493 cJ0_coder_7d493 1 (some .byte)) ({ frames := 0, cells := 0, slots := 0, locals := 0 }) (va_Pc [.ref (sK p0)] (fun U => U.heap.size = sz ∧ xS sK sV (va_A [] sz) U U.heap)) (va_Qi (fun (r : Int32) (_ : Unit) => ∃ z : Int, r = iI z ∧ (0 ≤ z ∧ z ≤ 0)) (fun _ _ => True) (va_A [] sz)) 0 0 (va_A [] sz) := by
  refine Met.ofW (cc := cJ0_coder_7d493) (maxL := 1) (ret := (some .byte)) (by decide) rfl ?_
  intro p e s m args below meth c s₁ B hml hv
  obtain ⟨rfl, hsz, hXs⟩ := hv
  have hx := B.exec
  have hb := B.bytes
  have hr := B.returns
  have hts := atoms_spec (ws := (jk yJ0_coder_7d493 cJ0_coder_7d493 1 (some .byte))) B.pre
  have hj : ∀ w ∈ jw, w.before ([.ref (sK p0)] : List Value).toArray s = true := fun w h => hts w (jm h)
  have hown : s.vm.findClass RJ0 = some m.cls := findClass_of_methodNamed B.named
  subst hsz
  have hP : va_P (dC, dI) vwCl [] s.heap := fun k q h => by simp at h
  generalize hAe : (va_A [] s.heap.size) = A at hXs ⊢
  have hA : ∀ q : Nat, s.heap.size ≤ q → A q := fun q h => by rw [← hAe]; exact Or.inr h
  have hS : va_S A s.heap s.heap [] := va_S.rf
  have hl := lv_entry ([.ref (sK p0)]) (n := 1) (Nat.le_of_ble_eq_true rfl)
  rw [lg_entry_eq]
  generalize (lg_sl ([.ref (sK p0)]) ++ List.replicate (1 - (lg_sl ([.ref (sK p0)])).length) Slot.unset).toArray = ls at hl ⊢
  have hl : lv_has ls 1 [(0, .ref (sK p0))] := hl
  generalize hQ : MQ below (va_Qi (fun (r : Int32) (_ : Unit) => ∃ z : Int, r = iI z ∧ (0 ≤ z ∧ z ≤ 0)) (fun _ _ => True) A) ([.ref (sK p0)] : List Value).toArray s 0 0 A = Q
  suffices ST : ∀ (H : Heap) (locs : List Loc), va_P (dC, dI) vwCl [] H → va_S A s.heap H locs → W p l e ({ frames := 0, cells := 0, slots := 0, locals := 0 }) s m ([.ref (sK p0)] : List Value).toArray below meth c H locs 0 0 Q (F0 m 0 ls []) from ST _ _ hP hS
  clear hP hS
  intro H locs hP hS
  refine va_gets hx hb hXs.2.2.1 hS hown (hj _ m_748) (fun _ h9 => h9) dJ0_coder_7d493_0 ?_
  refine jt_i (iI 1) (by decide) ?_
  refine xr_if_eq (tgt := 13) hx hb dJ0_coder_7d493_3 (by decide) (by omega) (fun h_1 => ?_) (fun h_1 => ?_)
  · exfalso; omega
  · refine lv_aload_n hx hb dJ0_coder_7d493_6 rfl (lv_at hl 0 rfl) ?_
    refine xs_coder hx hb hXs q0 hS hown (hj _ m_749) dJ0_coder_7d493_7 ?_
    refine lv_goto (tgt := 14) hx hb dJ0_coder_7d493_10 (by decide) ?_
    rw [← hQ]
    exact W.zret (v := iI 0) (ty := .byte) hx hb hr (nb_byte0 (by omega) (by omega)) (fun t ht hW => ⟨⟨iI 0, (), rfl, ⟨0, rfl, by omega⟩, trivial⟩, hS.F ht⟩) hS.2.2 dJ0_coder_7d493_14
set_option maxHeartbeats 2000000 in
set_option maxRecDepth 100000 in
theorem sJ0_length_8abf5 (l : Launch) (dC : Nat → ClassId) (dI : Nat → Nat → Nat) (sz : Nat) (sK sV : Nat → Nat) (p0 : Nat) (q0 : p0 < 3) : Met l yJ0_length_8abf5 (jk yJ0_length_8abf5 cJ0_length_8abf5 1 (some .int)) ({ frames := 1, cells := 0, slots := 0, locals := 20 }) (va_Pc [.ref (sK p0)] (fun U => U.heap.size = sz ∧ xS sK sV (va_A [] sz) U U.heap)) (va_Qi (fun (r : Int32) (_ : Unit) => ∃ z : Int, r = iI z ∧ (rg z) ∧ (z = sx_n p0)) (fun _ _ => True) (va_A [] sz)) 0 0 (va_A [] sz) := by
  refine Met.ofW (cc := cJ0_length_8abf5) (maxL := 1) (ret := (some .int)) (by decide) rfl ?_
  intro p e s m args below meth c s₁ B hml hv
  obtain ⟨rfl, hsz, hXs⟩ := hv
  have hx := B.exec
  have hb := B.bytes
  have hr := B.returns
  have hts := atoms_spec (ws := (jk yJ0_length_8abf5 cJ0_length_8abf5 1 (some .int))) B.pre
  have hj : ∀ w ∈ jw, w.before ([.ref (sK p0)] : List Value).toArray s = true := fun w h => hts w (jm h)
  have hown : s.vm.findClass RJ0 = some m.cls := findClass_of_methodNamed B.named
  subst hsz
  have hP : va_P (dC, dI) vwCl [] s.heap := fun k q h => by simp at h
  generalize hAe : (va_A [] s.heap.size) = A at hXs ⊢
  have hA : ∀ q : Nat, s.heap.size ≤ q → A q := fun q h => by rw [← hAe]; exact Or.inr h
  have hS : va_S A s.heap s.heap [] := va_S.rf
  have hl := lv_entry ([.ref (sK p0)]) (n := 1) (Nat.le_of_ble_eq_true rfl)
  rw [lg_entry_eq]
  generalize (lg_sl ([.ref (sK p0)]) ++ List.replicate (1 - (lg_sl ([.ref (sK p0)])).length) Slot.unset).toArray = ls at hl ⊢
  have hl : lv_has ls 1 [(0, .ref (sK p0))] := hl
  generalize hQ : MQ below (va_Qi (fun (r : Int32) (_ : Unit) => ∃ z : Int, r = iI z ∧ (rg z) ∧ (z = sx_n p0)) (fun _ _ => True) A) ([.ref (sK p0)] : List Value).toArray s 0 0 A = Q
  suffices ST : ∀ (H : Heap) (locs : List Loc), va_P (dC, dI) vwCl [] H → va_S A s.heap H locs → W p l e ({ frames := 1, cells := 0, slots := 0, locals := 20 }) s m ([.ref (sK p0)] : List Value).toArray below meth c H locs 0 0 Q (F0 m 0 ls []) from ST _ _ hP hS
  clear hP hS
  intro H locs hP hS
  refine lv_aload_n hx hb dJ0_length_8abf5_0 rfl (lv_at hl 0 rfl) ?_
  refine xs_value hx hb hXs q0 hS hown (hj _ m_750) dJ0_length_8abf5_1 ?_
  refine xs_len hx hb hXs q0 hS dJ0_length_8abf5_4 ?_
  have h_1 : 0 ≤ sx_n p0 ∧ sx_n p0 ≤ 2147483647 := sx_bd p0
  refine lv_aload_n hx hb dJ0_length_8abf5_5 rfl (lv_at hl 0 rfl) ?_
  refine jc_i (va_runV (As := []) (rest := [.int (iI (sx_n p0))]) ⟨hx, hb, hml, hown, hts⟩ (sJ0_coder_7d493 l dC dI _ sK sV p0 q0) (cwV 0 hts (jgoodV m_751 m_752 m_753 m_754 m_755) rfl rfl rfl (by decide +kernel) ⟨(Nat.le_of_ble_eq_true rfl), (Nat.le_of_ble_eq_true rfl)⟩) ⟨xS_blind, vk_recv hXs.1 q0 hS, fun U hU hW => ⟨rfl, xS_of hU hW hXs hS hA⟩⟩ rfl rfl hl.1 rfl (lv_room (Nat.le_of_ble_eq_true rfl)) dJ0_length_8abf5_6 ⟨(Nat.le_of_ble_eq_true rfl), (Nat.le_of_ble_eq_true rfl)⟩) hP hS hA (fun r_2 H locs w_3 hP hS => ?_)
  obtain ⟨z_4, rfl, h_5⟩ := w_3
  obtain rfl : z_4 = 0 := by omega
  refine xr_shr0 hx hb dJ0_length_8abf5_9 ?_
  rw [← hQ]
  exact W.iret (v := iI (sx_n p0)) hx hb hr (fun t ht hW => ⟨⟨iI (sx_n p0), (), rfl, ⟨sx_n p0, rfl, by omega, by omega⟩, trivial⟩, hS.F ht⟩) hS.2.2 dJ0_length_8abf5_10
set_option maxHeartbeats 2000000 in
set_option maxRecDepth 100000 in
theorem sJ1_canEncode_9a6ad (l : Launch) (dC : Nat → ClassId) (dI : Nat → Nat → Nat) (sz : Nat) (p1 : Int) (q1 : rg p1) : Met l yJ1_canEncode_9a6ad (jk yJ1_canEncode_9a6ad cJ1_canEncode_9a6ad 1 (some .boolean)) ({ frames := 0, cells := 0, slots := 0, locals := 0 }) (va_Pc [.int (iI p1)] (fun U => U.heap.size = sz)) (va_Qi (fun (r : Int32) (_ : Unit) => ∃ z : Int, r = iI z ∧ (0 ≤ z ∧ z ≤ 1) ∧ ((z = 1 ∧ 0 ≤ p1 ∧ p1 ≤ 255) ∨ (z = 0 ∧ (p1 < 0 ∨ 255 < p1)))) (fun _ _ => True) (va_A [] sz)) 0 0 (va_A [] sz) := by
  refine Met.ofW (cc := cJ1_canEncode_9a6ad) (maxL := 1) (ret := (some .boolean)) (by decide) rfl ?_
  intro p e s m args below meth c s₁ B hml hv
  obtain ⟨rfl, hsz⟩ := hv
  have hx := B.exec
  have hb := B.bytes
  have hr := B.returns
  have hts := atoms_spec (ws := (jk yJ1_canEncode_9a6ad cJ1_canEncode_9a6ad 1 (some .boolean))) B.pre
  have hj : ∀ w ∈ jw, w.before ([.int (iI p1)] : List Value).toArray s = true := fun w h => hts w (jm h)
  have hown : s.vm.findClass RJ1 = some m.cls := findClass_of_methodNamed B.named
  subst hsz
  have hP : va_P (dC, dI) vwCl [] s.heap := fun k q h => by simp at h
  generalize hAe : (va_A [] s.heap.size) = A
  have hA : ∀ q : Nat, s.heap.size ≤ q → A q := fun q h => by rw [← hAe]; exact Or.inr h
  have hS : va_S A s.heap s.heap [] := va_S.rf
  have hl := lv_entry ([.int (iI p1)]) (n := 1) (Nat.le_of_ble_eq_true rfl)
  rw [lg_entry_eq]
  generalize (lg_sl ([.int (iI p1)]) ++ List.replicate (1 - (lg_sl ([.int (iI p1)])).length) Slot.unset).toArray = ls at hl ⊢
  have hl : lv_has ls 1 [(0, .int (iI p1))] := hl
  generalize hQ : MQ below (va_Qi (fun (r : Int32) (_ : Unit) => ∃ z : Int, r = iI z ∧ (0 ≤ z ∧ z ≤ 1) ∧ ((z = 1 ∧ 0 ≤ p1 ∧ p1 ≤ 255) ∨ (z = 0 ∧ (p1 < 0 ∨ 255 < p1)))) (fun _ _ => True) A) ([.int (iI p1)] : List Value).toArray s 0 0 A = Q
  suffices ST : ∀ (H : Heap) (locs : List Loc), va_P (dC, dI) vwCl [] H → va_S A s.heap H locs → W p l e ({ frames := 0, cells := 0, slots := 0, locals := 0 }) s m ([.int (iI p1)] : List Value).toArray below meth c H locs 0 0 Q (F0 m 0 ls []) from ST _ _ hP hS
  clear hP hS
  intro H locs hP hS
  refine lv_iload_n hx hb dJ1_canEncode_9a6ad_0 rfl (lv_at hl 0 rfl) ?_
  refine xr_if_lt (tgt := 15) hx hb dJ1_canEncode_9a6ad_1 (by decide) (by omega) (fun h_1 => ?_) (fun h_1 => ?_)
  · refine lv_iconst (v := iI 0) hx hb dJ1_canEncode_9a6ad_15 rfl ?_
    rw [← hQ]
    exact W.zret (v := iI 0) (ty := .boolean) hx hb hr (nb_bool (by omega) (by omega)) (fun t ht hW => ⟨⟨iI 0, (), rfl, ⟨0, rfl, by omega, by omega⟩, trivial⟩, hS.F ht⟩) hS.2.2 dJ1_canEncode_9a6ad_16
  · refine lv_iload_n hx hb dJ1_canEncode_9a6ad_4 rfl (lv_at hl 0 rfl) ?_
    refine lv_sipush (v := iI 255) hx hb dJ1_canEncode_9a6ad_5 rfl ?_
    refine xr_icmp_gt (tgt := 15) hx hb dJ1_canEncode_9a6ad_8 (by decide) (by omega) (by omega) (fun h_2 => ?_) (fun h_2 => ?_)
    · refine lv_iconst (v := iI 0) hx hb dJ1_canEncode_9a6ad_15 rfl ?_
      rw [← hQ]
      exact W.zret (v := iI 0) (ty := .boolean) hx hb hr (nb_bool (by omega) (by omega)) (fun t ht hW => ⟨⟨iI 0, (), rfl, ⟨0, rfl, by omega, by omega⟩, trivial⟩, hS.F ht⟩) hS.2.2 dJ1_canEncode_9a6ad_16
    · refine lv_iconst (v := iI 1) hx hb dJ1_canEncode_9a6ad_11 rfl ?_
      refine lv_goto (tgt := 16) hx hb dJ1_canEncode_9a6ad_12 (by decide) ?_
      rw [← hQ]
      exact W.zret (v := iI 1) (ty := .boolean) hx hb hr (nb_bool (by omega) (by omega)) (fun t ht hW => ⟨⟨iI 1, (), rfl, ⟨1, rfl, by omega, by omega⟩, trivial⟩, hS.F ht⟩) hS.2.2 dJ1_canEncode_9a6ad_16
set_option maxHeartbeats 2000000 in
set_option maxRecDepth 100000 in
theorem sJ1_indexOfChar_4cfef (l : Launch) (dC : Nat → ClassId) (dI : Nat → Nat → Nat) (sz : Nat) (sK sV : Nat → Nat) (p1 : Nat) (p2 : Int) (p3 : Int) (p4 : Int) (q0 : p1 < 3) (q2 : rg p2) (q3 : rg p3) (q4 : rg p4) (k1 : 0 ≤ p3) (k2 : p4 ≤ sx_n p1) (k3 : 0 ≤ p2 ∧ p2 ≤ 255) : Met l yJ1_indexOfChar_4cfef (jk yJ1_indexOfChar_4cfef cJ1_indexOfChar_4cfef 6 (some .int)) ({ frames := 0, cells := 0, slots := 0, locals := 0 }) (va_Pc [.ref (sV p1), .int (iI p2), .int (iI p3), .int (iI p4)] (fun U => U.heap.size = sz ∧ xS sK sV (va_A [] sz) U U.heap)) (va_Qi (fun (r : Int32) (_ : Unit) => ∃ z : Int, r = iI z ∧ (rg z) ∧ (jF (0 ≤ z) (hasC p1 p2)) ∧ (jF (z < 0) (noC p1 p2 p3 p4))) (fun _ _ => True) (va_A [] sz)) 0 0 (va_A [] sz) := by
  refine Met.ofW (cc := cJ1_indexOfChar_4cfef) (maxL := 6) (ret := (some .int)) (by decide) rfl ?_
  intro p e s m args below meth c s₁ B hml hv
  obtain ⟨rfl, hsz, hXs⟩ := hv
  have hx := B.exec
  have hb := B.bytes
  have hr := B.returns
  have hts := atoms_spec (ws := (jk yJ1_indexOfChar_4cfef cJ1_indexOfChar_4cfef 6 (some .int))) B.pre
  have hj : ∀ w ∈ jw, w.before ([.ref (sV p1), .int (iI p2), .int (iI p3), .int (iI p4)] : List Value).toArray s = true := fun w h => hts w (jm h)
  have hown : s.vm.findClass RJ1 = some m.cls := findClass_of_methodNamed B.named
  subst hsz
  have hP : va_P (dC, dI) vwCl [] s.heap := fun k q h => by simp at h
  generalize hAe : (va_A [] s.heap.size) = A at hXs ⊢
  have hA : ∀ q : Nat, s.heap.size ≤ q → A q := fun q h => by rw [← hAe]; exact Or.inr h
  have hS : va_S A s.heap s.heap [] := va_S.rf
  have hl := lv_entry ([.ref (sV p1), .int (iI p2), .int (iI p3), .int (iI p4)]) (n := 6) (Nat.le_of_ble_eq_true rfl)
  rw [lg_entry_eq]
  generalize (lg_sl ([.ref (sV p1), .int (iI p2), .int (iI p3), .int (iI p4)]) ++ List.replicate (6 - (lg_sl ([.ref (sV p1), .int (iI p2), .int (iI p3), .int (iI p4)])).length) Slot.unset).toArray = ls at hl ⊢
  have hl : lv_has ls 6 [(0, .ref (sV p1)), (1, .int (iI p2)), (2, .int (iI p3)), (3, .int (iI p4))] := hl
  generalize hQ : MQ below (va_Qi (fun (r : Int32) (_ : Unit) => ∃ z : Int, r = iI z ∧ (rg z) ∧ (jF (0 ≤ z) (hasC p1 p2)) ∧ (jF (z < 0) (noC p1 p2 p3 p4))) (fun _ _ => True) A) ([.ref (sV p1), .int (iI p2), .int (iI p3), .int (iI p4)] : List Value).toArray s 0 0 A = Q
  suffices ST : ∀ (H : Heap) (locs : List Loc), va_P (dC, dI) vwCl [] H → va_S A s.heap H locs → W p l e ({ frames := 0, cells := 0, slots := 0, locals := 0 }) s m ([.ref (sV p1), .int (iI p2), .int (iI p3), .int (iI p4)] : List Value).toArray below meth c H locs 0 0 Q (F0 m 0 ls []) from ST _ _ hP hS
  clear hP hS
  intro H locs hP hS
  refine lv_iload_n hx hb dJ1_indexOfChar_4cfef_0 rfl (lv_at hl 1 rfl) ?_
  refine xr_i2bE hx hb (by omega) (by omega) dJ1_indexOfChar_4cfef_1 (fun z_1 h_2 => ?_)
  refine lv_istore (i := 4) (lv' := [(4, .int (iI z_1)), (0, .ref (sV p1)), (1, .int (iI p2)), (2, .int (iI p3)), (3, .int (iI p4))]) hx hb dJ1_indexOfChar_4cfef_2 hl (by decide) rfl (fun ls hl => ?_)
  refine lv_iload_n hx hb dJ1_indexOfChar_4cfef_4 rfl (lv_at hl 3 rfl) ?_
  refine lv_istore (i := 5) (lv' := [(5, .int (iI p3)), (4, .int (iI z_1)), (0, .ref (sV p1)), (1, .int (iI p2)), (2, .int (iI p3)), (3, .int (iI p4))]) hx hb dJ1_indexOfChar_4cfef_5 hl (by decide) rfl (fun ls hl => ?_)
  have L7 : ∀ (n7 : Nat) (a5_7 : Int) (H : Heap) (locs : List Loc) (ls : Array Slot), ((-2147483648) ≤ a5_7 ∧ a5_7 ≤ 2147483647) → (0 ≤ a5_7) → (p3 ≤ a5_7) → (noC p1 p2 p3 a5_7) → (0 < (n7 : Int) ∧ p4 - a5_7 < (n7 : Int)) → va_P (dC, dI) vwCl [] H → va_S A s.heap H locs → lv_has ls 6 [(5, .int (iI a5_7)), (4, .int (iI z_1)), (0, .ref (sV p1)), (1, .int (iI p2)), (2, .int (iI p3)), (3, .int (iI p4))] → W p l e ({ frames := 0, cells := 0, slots := 0, locals := 0 }) s m ([.ref (sV p1), .int (iI p2), .int (iI p3), .int (iI p4)] : List Value).toArray below meth c H locs 0 0 Q (F0 m 7 ls []) := by
    intro n7
    induction n7 with
    | zero =>
      intro a5_7 H locs ls h_3 h_4 h_5 h_6 hm7 hP hS hl
      exfalso; omega
    | succ n7 ih7 =>
      intro a5_7 H locs ls h_7 h_8 h_9 h_10 hm7 hP hS hl
      refine lv_iload hx hb dJ1_indexOfChar_4cfef_7 (lv_at hl 0 rfl) ?_
      refine lv_iload_n hx hb dJ1_indexOfChar_4cfef_9 rfl (lv_at hl 5 rfl) ?_
      refine xr_icmp_ge (tgt := 31) hx hb dJ1_indexOfChar_4cfef_10 (by decide) (by omega) (by omega) (fun h_11 => ?_) (fun h_11 => ?_)
      · refine lv_iconst (v := iI (-1)) hx hb dJ1_indexOfChar_4cfef_31 rfl ?_
        rw [← hQ]
        exact W.iret (v := iI (-1)) hx hb hr (fun t ht hW => ⟨⟨iI (-1), (), rfl, ⟨(-1), rfl, by omega, by first | exact fun e9 => absurd e9 (by omega) | exact fun _ => hasC_i (j := a5_7) (by omega) (by omega) (by omega), by first | exact fun e9 => absurd e9 (by omega) | exact fun _ => noC_e (show noC p1 p2 p3 a5_7 by assumption) (by omega)⟩, trivial⟩, hS.F ht⟩) hS.2.2 dJ1_indexOfChar_4cfef_32
      · refine lv_aload_n hx hb dJ1_indexOfChar_4cfef_13 rfl (lv_at hl 2 rfl) ?_
        refine lv_iload hx hb dJ1_indexOfChar_4cfef_14 (lv_at hl 0 rfl) ?_
        refine xs_at hx hb hXs q0 hS (by omega) (by omega) dJ1_indexOfChar_4cfef_16 ?_
        refine jt_i (iI (sx_s p1 a5_7)) (iI_of _) ?_
        have h_12 : sx_s p1 a5_7 = sx_c p1 a5_7 ∧ 0 ≤ sx_s p1 a5_7 ∧ sx_s p1 a5_7 ≤ 127 := sx_sc q0 (by omega) (by omega)
        refine lv_iload hx hb dJ1_indexOfChar_4cfef_17 (lv_at hl 1 rfl) ?_
        refine xr_icmp_ne (tgt := 25) hx hb dJ1_indexOfChar_4cfef_19 (by decide) (by omega) (by omega) (fun h_13 => ?_) (fun h_13 => ?_)
        · refine lv_iinc (v := iI (a5_7 + 1)) (lv' := [(5, .int (iI (a5_7 + 1))), (4, .int (iI z_1)), (0, .ref (sV p1)), (1, .int (iI p2)), (2, .int (iI p3)), (3, .int (iI p4))]) hx hb dJ1_indexOfChar_4cfef_25 hl (k := 0) rfl (iI_add _ _) (by decide) rfl (fun ls hl => ?_)
          refine lv_goto (tgt := 7) hx hb dJ1_indexOfChar_4cfef_28 (by decide) ?_
          exact ih7 (a5_7 + 1) H locs ls (by omega) (by omega) (by omega) (by first | exact noC_0 | exact noC_s (by assumption) (by omega)) (by omega) hP hS hl
        · refine lv_iload hx hb dJ1_indexOfChar_4cfef_22 (lv_at hl 0 rfl) ?_
          rw [← hQ]
          exact W.iret (v := iI a5_7) hx hb hr (fun t ht hW => ⟨⟨iI a5_7, (), rfl, ⟨a5_7, rfl, by omega, by first | exact fun e9 => absurd e9 (by omega) | exact fun _ => hasC_i (j := a5_7) (by omega) (by omega) (by omega), by first | exact fun e9 => absurd e9 (by omega) | exact fun _ => noC_e (show noC p1 p2 p3 a5_7 by assumption) (by omega)⟩, trivial⟩, hS.F ht⟩) hS.2.2 dJ1_indexOfChar_4cfef_24
  exact L7 (((p4 - p3 : Int)).toNat + 1) p3 H locs ls (by omega) (by omega) (by omega) (by first | exact noC_0 | exact noC_s (by assumption) (by omega)) (by omega) hP hS hl
set_option maxHeartbeats 2000000 in
set_option maxRecDepth 100000 in
theorem sJ1_indexOf_4cfef (l : Launch) (dC : Nat → ClassId) (dI : Nat → Nat → Nat) (sz : Nat) (sK sV : Nat → Nat) (p1 : Nat) (p2 : Int) (p3 : Int) (p4 : Int) (q0 : p1 < 3) (q2 : rg p2) (q3 : rg p3) (q4 : rg p4) (k1 : p3 = 0) (k2 : p4 = sx_n p1) (k3 : 0 ≤ p2 ∧ p2 ≤ 255) : Met l yJ1_indexOf_4cfef (jk yJ1_indexOf_4cfef cJ1_indexOf_4cfef 4 (some .int)) ({ frames := 1, cells := 0, slots := 0, locals := 40 }) (va_Pc [.ref (sV p1), .int (iI p2), .int (iI p3), .int (iI p4)] (fun U => U.heap.size = sz ∧ xS sK sV (va_A [] sz) U U.heap)) (va_Qi (fun (r : Int32) (_ : Unit) => ∃ z : Int, r = iI z ∧ (rg z) ∧ (jF (0 ≤ z) (hasC p1 p2)) ∧ (jF (z < 0) (¬ hasC p1 p2))) (fun _ _ => True) (va_A [] sz)) 0 0 (va_A [] sz) := by
  refine Met.ofW (cc := cJ1_indexOf_4cfef) (maxL := 4) (ret := (some .int)) (by decide) rfl ?_
  intro p e s m args below meth c s₁ B hml hv
  obtain ⟨rfl, hsz, hXs⟩ := hv
  have hx := B.exec
  have hb := B.bytes
  have hr := B.returns
  have hts := atoms_spec (ws := (jk yJ1_indexOf_4cfef cJ1_indexOf_4cfef 4 (some .int))) B.pre
  have hj : ∀ w ∈ jw, w.before ([.ref (sV p1), .int (iI p2), .int (iI p3), .int (iI p4)] : List Value).toArray s = true := fun w h => hts w (jm h)
  have hown : s.vm.findClass RJ1 = some m.cls := findClass_of_methodNamed B.named
  subst hsz
  have hP : va_P (dC, dI) vwCl [] s.heap := fun k q h => by simp at h
  generalize hAe : (va_A [] s.heap.size) = A at hXs ⊢
  have hA : ∀ q : Nat, s.heap.size ≤ q → A q := fun q h => by rw [← hAe]; exact Or.inr h
  have hS : va_S A s.heap s.heap [] := va_S.rf
  have hl := lv_entry ([.ref (sV p1), .int (iI p2), .int (iI p3), .int (iI p4)]) (n := 4) (Nat.le_of_ble_eq_true rfl)
  rw [lg_entry_eq]
  generalize (lg_sl ([.ref (sV p1), .int (iI p2), .int (iI p3), .int (iI p4)]) ++ List.replicate (4 - (lg_sl ([.ref (sV p1), .int (iI p2), .int (iI p3), .int (iI p4)])).length) Slot.unset).toArray = ls at hl ⊢
  have hl : lv_has ls 4 [(0, .ref (sV p1)), (1, .int (iI p2)), (2, .int (iI p3)), (3, .int (iI p4))] := hl
  generalize hQ : MQ below (va_Qi (fun (r : Int32) (_ : Unit) => ∃ z : Int, r = iI z ∧ (rg z) ∧ (jF (0 ≤ z) (hasC p1 p2)) ∧ (jF (z < 0) (¬ hasC p1 p2))) (fun _ _ => True) A) ([.ref (sV p1), .int (iI p2), .int (iI p3), .int (iI p4)] : List Value).toArray s 0 0 A = Q
  suffices ST : ∀ (H : Heap) (locs : List Loc), va_P (dC, dI) vwCl [] H → va_S A s.heap H locs → W p l e ({ frames := 1, cells := 0, slots := 0, locals := 40 }) s m ([.ref (sV p1), .int (iI p2), .int (iI p3), .int (iI p4)] : List Value).toArray below meth c H locs 0 0 Q (F0 m 0 ls []) from ST _ _ hP hS
  clear hP hS
  intro H locs hP hS
  refine lv_iload_n hx hb dJ1_indexOf_4cfef_0 rfl (lv_at hl 1 rfl) ?_
  refine jc_i (va_runS (As := [.int (iI p2)]) (rest := []) ⟨hx, hb, hml, hown, hts⟩ (sJ1_canEncode_9a6ad l dC dI _ p2 (by omega)) (va_cwS 1 hts (jgoodS m_756 m_757 m_758 m_759) rfl rfl rfl (by decide +kernel) ⟨(Nat.le_of_ble_eq_true rfl), (Nat.le_of_ble_eq_true rfl)⟩) ⟨jw_blind0, fun U hU hW => ⟨rfl, congrArg Array.size hU⟩⟩ rfl rfl hl.1 rfl (lv_room (Nat.le_of_ble_eq_true rfl)) dJ1_indexOf_4cfef_1 ⟨(Nat.le_of_ble_eq_true rfl), (Nat.le_of_ble_eq_true rfl)⟩) hP hS hA (fun r_1 H locs w_2 hP hS => ?_)
  obtain ⟨z_3, rfl, h_4, h_5⟩ := w_2
  refine xr_if_ne (tgt := 9) hx hb dJ1_indexOf_4cfef_4 (by decide) (by omega) (fun h_6 => ?_) (fun h_6 => ?_)
  · refine lv_iload_n hx hb dJ1_indexOf_4cfef_9 rfl (lv_at hl 2 rfl) ?_
    refine lv_iconst (v := iI 0) hx hb dJ1_indexOf_4cfef_10 rfl ?_
    refine va_mmax hx hb (by rw [hml]; exact hl.1.symm) hown (hj _ m_760) (hj _ m_761) (hj _ m_762) (hj _ m_763) (Nat.le_of_ble_eq_true rfl) (Nat.le_of_ble_eq_true rfl) (Nat.le_of_ble_eq_true rfl) (Nat.le_of_ble_eq_true rfl) dJ1_indexOf_4cfef_11 ?_
    refine xm_max (by omega) (by omega) (fun z_7 h_8 => ?_)
    refine lv_istore_n (i := 2) (lv' := [(2, .int (iI z_7)), (0, .ref (sV p1)), (1, .int (iI p2)), (3, .int (iI p4))]) hx hb dJ1_indexOf_4cfef_14 rfl hl (by decide) rfl (fun ls hl => ?_)
    refine lv_iload_n hx hb dJ1_indexOf_4cfef_15 rfl (lv_at hl 3 rfl) ?_
    refine lv_aload_n hx hb dJ1_indexOf_4cfef_16 rfl (lv_at hl 1 rfl) ?_
    refine xs_len hx hb hXs q0 hS dJ1_indexOf_4cfef_17 ?_
    have h_9 : 0 ≤ sx_n p1 ∧ sx_n p1 ≤ 2147483647 := sx_bd p1
    refine va_mmin hx hb (by rw [hml]; exact hl.1.symm) hown (hj _ m_764) (hj _ m_765) (hj _ m_762) (hj _ m_766) (Nat.le_of_ble_eq_true rfl) (Nat.le_of_ble_eq_true rfl) (Nat.le_of_ble_eq_true rfl) (Nat.le_of_ble_eq_true rfl) dJ1_indexOf_4cfef_18 ?_
    refine xm_min (by omega) (by omega) (fun z_10 h_11 => ?_)
    refine lv_istore_n (i := 3) (lv' := [(3, .int (iI z_10)), (2, .int (iI z_7)), (0, .ref (sV p1)), (1, .int (iI p2))]) hx hb dJ1_indexOf_4cfef_21 rfl hl (by decide) rfl (fun ls hl => ?_)
    refine lv_iload_n hx hb dJ1_indexOf_4cfef_22 rfl (lv_at hl 1 rfl) ?_
    refine lv_iload_n hx hb dJ1_indexOf_4cfef_23 rfl (lv_at hl 0 rfl) ?_
    refine xr_icmp_lt (tgt := 29) hx hb dJ1_indexOf_4cfef_24 (by decide) (by omega) (by omega) (fun h_12 => ?_) (fun h_12 => ?_)
    · refine lv_aload_n hx hb dJ1_indexOf_4cfef_29 rfl (lv_at hl 2 rfl) ?_
      refine lv_iload_n hx hb dJ1_indexOf_4cfef_30 rfl (lv_at hl 3 rfl) ?_
      refine lv_iload_n hx hb dJ1_indexOf_4cfef_31 rfl (lv_at hl 1 rfl) ?_
      refine lv_iload_n hx hb dJ1_indexOf_4cfef_32 rfl (lv_at hl 0 rfl) ?_
      refine jc_i (va_runS (As := [.ref (sV p1), .int (iI p2), .int (iI z_7), .int (iI z_10)]) (rest := []) ⟨hx, hb, hml, hown, hts⟩ (sJ1_indexOfChar_4cfef l dC dI _ sK sV p1 p2 z_7 z_10 q0 (by omega) (by omega) (by omega) (by omega) (by omega) (by omega)) (va_cwS 4 hts (jgoodS m_767 m_768 m_758 m_769) rfl rfl rfl (by decide +kernel) ⟨(Nat.le_of_ble_eq_true rfl), (Nat.le_of_ble_eq_true rfl)⟩) ⟨xS_blind, fun U hU hW => ⟨rfl, xS_of hU hW hXs hS hA⟩⟩ rfl rfl hl.1 rfl (lv_room (Nat.le_of_ble_eq_true rfl)) dJ1_indexOf_4cfef_33 ⟨(Nat.le_of_ble_eq_true rfl), (Nat.le_of_ble_eq_true rfl)⟩) hP hS hA (fun r_13 H locs w_14 hP hS => ?_)
      obtain ⟨z_15, rfl, h_16, h_17, h_18⟩ := w_14
      rw [← hQ]
      exact W.iret (v := iI z_15) hx hb hr (fun t ht hW => ⟨⟨iI z_15, (), rfl, ⟨z_15, rfl, by omega, by first | exact h_17 | exact fun e9 => absurd e9 (by omega), by first | exact h_18 | exact fun e9 => hasC_n (h_18 e9) (by omega) (by omega) | exact fun e9 => absurd e9 (by omega) | exact fun _ => hasC_n (noC_0 (a := 0)) (by omega) (by omega)⟩, trivial⟩, hS.F ht⟩) hS.2.2 dJ1_indexOf_4cfef_36
    · refine lv_iconst (v := iI (-1)) hx hb dJ1_indexOf_4cfef_27 rfl ?_
      rw [← hQ]
      exact W.iret (v := iI (-1)) hx hb hr (fun t ht hW => ⟨⟨iI (-1), (), rfl, ⟨(-1), rfl, by omega, by first | exact _ | exact fun e9 => absurd e9 (by omega), by first | exact _ | exact fun e9 => hasC_n (_ e9) (by omega) (by omega) | exact fun e9 => absurd e9 (by omega) | exact fun _ => hasC_n (noC_0 (a := 0)) (by omega) (by omega)⟩, trivial⟩, hS.F ht⟩) hS.2.2 dJ1_indexOf_4cfef_28
  · refine lv_iconst (v := iI (-1)) hx hb dJ1_indexOf_4cfef_7 rfl ?_
    rw [← hQ]
    exact W.iret (v := iI (-1)) hx hb hr (fun t ht hW => ⟨⟨iI (-1), (), rfl, ⟨(-1), rfl, by omega, by first | exact _ | exact fun e9 => absurd e9 (by omega), by first | exact _ | exact fun e9 => hasC_n (_ e9) (by omega) (by omega) | exact fun e9 => absurd e9 (by omega) | exact fun _ => hasC_n (noC_0 (a := 0)) (by omega) (by omega)⟩, trivial⟩, hS.F ht⟩) hS.2.2 dJ1_indexOf_4cfef_8
set_option maxHeartbeats 2000000 in
set_option maxRecDepth 100000 in
theorem sJ0_indexOf_7cf53 (l : Launch) (dC : Nat → ClassId) (dI : Nat → Nat → Nat) (sz : Nat) (sK sV : Nat → Nat) (p0 : Nat) (p1 : Int) (p2 : Int) (q0 : p0 < 3) (q1 : rg p1) (q2 : rg p2) (k1 : p2 = 0) (k2 : 0 ≤ p1 ∧ p1 ≤ 255) : Met l yJ0_indexOf_7cf53 (jk yJ0_indexOf_7cf53 cJ0_indexOf_7cf53 3 (some .int)) ({ frames := 2, cells := 0, slots := 0, locals := 63 }) (va_Pc [.ref (sK p0), .int (iI p1), .int (iI p2)] (fun U => U.heap.size = sz ∧ xS sK sV (va_A [] sz) U U.heap)) (va_Qi (fun (r : Int32) (_ : Unit) => ∃ z : Int, r = iI z ∧ (rg z) ∧ (jF (0 ≤ z) (hasC p0 p1)) ∧ (jF (z < 0) (¬ hasC p0 p1))) (fun _ _ => True) (va_A [] sz)) 0 0 (va_A [] sz) := by
  refine Met.ofW (cc := cJ0_indexOf_7cf53) (maxL := 3) (ret := (some .int)) (by decide) rfl ?_
  intro p e s m args below meth c s₁ B hml hv
  obtain ⟨rfl, hsz, hXs⟩ := hv
  have hx := B.exec
  have hb := B.bytes
  have hr := B.returns
  have hts := atoms_spec (ws := (jk yJ0_indexOf_7cf53 cJ0_indexOf_7cf53 3 (some .int))) B.pre
  have hj : ∀ w ∈ jw, w.before ([.ref (sK p0), .int (iI p1), .int (iI p2)] : List Value).toArray s = true := fun w h => hts w (jm h)
  have hown : s.vm.findClass RJ0 = some m.cls := findClass_of_methodNamed B.named
  subst hsz
  have hP : va_P (dC, dI) vwCl [] s.heap := fun k q h => by simp at h
  generalize hAe : (va_A [] s.heap.size) = A at hXs ⊢
  have hA : ∀ q : Nat, s.heap.size ≤ q → A q := fun q h => by rw [← hAe]; exact Or.inr h
  have hS : va_S A s.heap s.heap [] := va_S.rf
  have hl := lv_entry ([.ref (sK p0), .int (iI p1), .int (iI p2)]) (n := 3) (Nat.le_of_ble_eq_true rfl)
  rw [lg_entry_eq]
  generalize (lg_sl ([.ref (sK p0), .int (iI p1), .int (iI p2)]) ++ List.replicate (3 - (lg_sl ([.ref (sK p0), .int (iI p1), .int (iI p2)])).length) Slot.unset).toArray = ls at hl ⊢
  have hl : lv_has ls 3 [(0, .ref (sK p0)), (1, .int (iI p1)), (2, .int (iI p2))] := hl
  generalize hQ : MQ below (va_Qi (fun (r : Int32) (_ : Unit) => ∃ z : Int, r = iI z ∧ (rg z) ∧ (jF (0 ≤ z) (hasC p0 p1)) ∧ (jF (z < 0) (¬ hasC p0 p1))) (fun _ _ => True) A) ([.ref (sK p0), .int (iI p1), .int (iI p2)] : List Value).toArray s 0 0 A = Q
  suffices ST : ∀ (H : Heap) (locs : List Loc), va_P (dC, dI) vwCl [] H → va_S A s.heap H locs → W p l e ({ frames := 2, cells := 0, slots := 0, locals := 63 }) s m ([.ref (sK p0), .int (iI p1), .int (iI p2)] : List Value).toArray below meth c H locs 0 0 Q (F0 m 0 ls []) from ST _ _ hP hS
  clear hP hS
  intro H locs hP hS
  refine lv_aload_n hx hb dJ0_indexOf_7cf53_0 rfl (lv_at hl 0 rfl) ?_
  refine jc_i (va_runV (As := []) (rest := []) ⟨hx, hb, hml, hown, hts⟩ (sJ0_isLatin1_aae02 l dC dI _ sK sV p0 q0) (cwV 0 hts (jgoodV m_770 m_771 m_772 m_754 m_773) rfl rfl rfl (by decide +kernel) ⟨(Nat.le_of_ble_eq_true rfl), (Nat.le_of_ble_eq_true rfl)⟩) ⟨xS_blind, vk_recv hXs.1 q0 hS, fun U hU hW => ⟨rfl, xS_of hU hW hXs hS hA⟩⟩ rfl rfl hl.1 rfl (lv_room (Nat.le_of_ble_eq_true rfl)) dJ0_indexOf_7cf53_1 ⟨(Nat.le_of_ble_eq_true rfl), (Nat.le_of_ble_eq_true rfl)⟩) hP hS hA (fun r_1 H locs w_2 hP hS => ?_)
  obtain ⟨z_3, rfl, h_4, h_5⟩ := w_2
  obtain rfl : z_3 = 1 := by omega
  refine xr_if_eq (tgt := 23) hx hb dJ0_indexOf_7cf53_4 (by decide) (by omega) (fun h_6 => ?_) (fun h_6 => ?_)
  · exfalso; omega
  · refine lv_aload_n hx hb dJ0_indexOf_7cf53_7 rfl (lv_at hl 0 rfl) ?_
    refine xs_value hx hb hXs q0 hS hown (hj _ m_750) dJ0_indexOf_7cf53_8 ?_
    refine lv_iload_n hx hb dJ0_indexOf_7cf53_11 rfl (lv_at hl 1 rfl) ?_
    refine lv_iload_n hx hb dJ0_indexOf_7cf53_12 rfl (lv_at hl 2 rfl) ?_
    refine lv_aload_n hx hb dJ0_indexOf_7cf53_13 rfl (lv_at hl 0 rfl) ?_
    refine jc_i (va_runV (As := []) (rest := [.int (iI p2), .int (iI p1), .ref (sV p0)]) ⟨hx, hb, hml, hown, hts⟩ (sJ0_length_8abf5 l dC dI _ sK sV p0 q0) (cwV 0 hts (jgoodV m_774 m_775 m_776 m_754 m_777) rfl rfl rfl (by decide +kernel) ⟨(Nat.le_of_ble_eq_true rfl), (Nat.le_of_ble_eq_true rfl)⟩) ⟨xS_blind, vk_recv hXs.1 q0 hS, fun U hU hW => ⟨rfl, xS_of hU hW hXs hS hA⟩⟩ rfl rfl hl.1 rfl (lv_room (Nat.le_of_ble_eq_true rfl)) dJ0_indexOf_7cf53_14 ⟨(Nat.le_of_ble_eq_true rfl), (Nat.le_of_ble_eq_true rfl)⟩) hP hS hA (fun r_7 H locs w_8 hP hS => ?_)
    obtain ⟨z_9, rfl, h_10, h_11⟩ := w_8
    refine jc_i (va_runS (As := [.ref (sV p0), .int (iI p1), .int (iI p2), .int (iI z_9)]) (rest := []) ⟨hx, hb, hml, hown, hts⟩ (sJ1_indexOf_4cfef l dC dI _ sK sV p0 p1 p2 z_9 q0 (by omega) (by omega) (by omega) (by omega) (by omega) (by omega)) (va_cwS 4 hts (jgoodS m_778 m_779 m_758 m_780) rfl rfl rfl (by decide +kernel) ⟨(Nat.le_of_ble_eq_true rfl), (Nat.le_of_ble_eq_true rfl)⟩) ⟨xS_blind, fun U hU hW => ⟨rfl, xS_of hU hW hXs hS hA⟩⟩ rfl rfl hl.1 rfl (lv_room (Nat.le_of_ble_eq_true rfl)) dJ0_indexOf_7cf53_17 ⟨(Nat.le_of_ble_eq_true rfl), (Nat.le_of_ble_eq_true rfl)⟩) hP hS hA (fun r_12 H locs w_13 hP hS => ?_)
    obtain ⟨z_14, rfl, h_15, h_16, h_17⟩ := w_13
    refine lv_goto (tgt := 36) hx hb dJ0_indexOf_7cf53_20 (by decide) ?_
    rw [← hQ]
    exact W.iret (v := iI z_14) hx hb hr (fun t ht hW => ⟨⟨iI z_14, (), rfl, ⟨z_14, rfl, by omega, by first | exact h_16 | exact fun e9 => absurd e9 (by omega), by first | exact h_17 | exact fun e9 => hasC_n (h_17 e9) (by omega) (by omega) | exact fun e9 => absurd e9 (by omega) | exact fun _ => hasC_n (noC_0 (a := 0)) (by omega) (by omega)⟩, trivial⟩, hS.F ht⟩) hS.2.2 dJ0_indexOf_7cf53_36
set_option maxHeartbeats 2000000 in
set_option maxRecDepth 100000 in
theorem sJ0_indexOf_0f7a4 (l : Launch) (dC : Nat → ClassId) (dI : Nat → Nat → Nat) (sz : Nat) (sK sV : Nat → Nat) (p0 : Nat) (p1 : Int) (q0 : p0 < 3) (q1 : rg p1) (k1 : 0 ≤ p1 ∧ p1 ≤ 255) : Met l yJ0_indexOf_0f7a4 (jk yJ0_indexOf_0f7a4 cJ0_indexOf_0f7a4 2 (some .int)) ({ frames := 3, cells := 0, slots := 0, locals := 85 }) (va_Pc [.ref (sK p0), .int (iI p1)] (fun U => U.heap.size = sz ∧ xS sK sV (va_A [] sz) U U.heap)) (va_Qi (fun (r : Int32) (_ : Unit) => ∃ z : Int, r = iI z ∧ (rg z) ∧ (jF (0 ≤ z) (hasC p0 p1)) ∧ (jF (z < 0) (¬ hasC p0 p1))) (fun _ _ => True) (va_A [] sz)) 0 0 (va_A [] sz) := by
  refine Met.ofW (cc := cJ0_indexOf_0f7a4) (maxL := 2) (ret := (some .int)) (by decide) rfl ?_
  intro p e s m args below meth c s₁ B hml hv
  obtain ⟨rfl, hsz, hXs⟩ := hv
  have hx := B.exec
  have hb := B.bytes
  have hr := B.returns
  have hts := atoms_spec (ws := (jk yJ0_indexOf_0f7a4 cJ0_indexOf_0f7a4 2 (some .int))) B.pre
  have hj : ∀ w ∈ jw, w.before ([.ref (sK p0), .int (iI p1)] : List Value).toArray s = true := fun w h => hts w (jm h)
  have hown : s.vm.findClass RJ0 = some m.cls := findClass_of_methodNamed B.named
  subst hsz
  have hP : va_P (dC, dI) vwCl [] s.heap := fun k q h => by simp at h
  generalize hAe : (va_A [] s.heap.size) = A at hXs ⊢
  have hA : ∀ q : Nat, s.heap.size ≤ q → A q := fun q h => by rw [← hAe]; exact Or.inr h
  have hS : va_S A s.heap s.heap [] := va_S.rf
  have hl := lv_entry ([.ref (sK p0), .int (iI p1)]) (n := 2) (Nat.le_of_ble_eq_true rfl)
  rw [lg_entry_eq]
  generalize (lg_sl ([.ref (sK p0), .int (iI p1)]) ++ List.replicate (2 - (lg_sl ([.ref (sK p0), .int (iI p1)])).length) Slot.unset).toArray = ls at hl ⊢
  have hl : lv_has ls 2 [(0, .ref (sK p0)), (1, .int (iI p1))] := hl
  generalize hQ : MQ below (va_Qi (fun (r : Int32) (_ : Unit) => ∃ z : Int, r = iI z ∧ (rg z) ∧ (jF (0 ≤ z) (hasC p0 p1)) ∧ (jF (z < 0) (¬ hasC p0 p1))) (fun _ _ => True) A) ([.ref (sK p0), .int (iI p1)] : List Value).toArray s 0 0 A = Q
  suffices ST : ∀ (H : Heap) (locs : List Loc), va_P (dC, dI) vwCl [] H → va_S A s.heap H locs → W p l e ({ frames := 3, cells := 0, slots := 0, locals := 85 }) s m ([.ref (sK p0), .int (iI p1)] : List Value).toArray below meth c H locs 0 0 Q (F0 m 0 ls []) from ST _ _ hP hS
  clear hP hS
  intro H locs hP hS
  refine lv_aload_n hx hb dJ0_indexOf_0f7a4_0 rfl (lv_at hl 0 rfl) ?_
  refine lv_iload_n hx hb dJ0_indexOf_0f7a4_1 rfl (lv_at hl 1 rfl) ?_
  refine lv_iconst (v := iI 0) hx hb dJ0_indexOf_0f7a4_2 rfl ?_
  refine jc_i (va_runV (As := [.int (iI p1), .int (iI 0)]) (rest := []) ⟨hx, hb, hml, hown, hts⟩ (sJ0_indexOf_7cf53 l dC dI _ sK sV p0 p1 0 q0 (by omega) (by omega) (by omega) (by omega)) (cwV 2 hts (jgoodV m_781 m_782 m_783 m_754 m_784) rfl rfl rfl (by decide +kernel) ⟨(Nat.le_of_ble_eq_true rfl), (Nat.le_of_ble_eq_true rfl)⟩) ⟨xS_blind, vk_recv hXs.1 q0 hS, fun U hU hW => ⟨rfl, xS_of hU hW hXs hS hA⟩⟩ rfl rfl hl.1 rfl (lv_room (Nat.le_of_ble_eq_true rfl)) dJ0_indexOf_0f7a4_3 ⟨(Nat.le_of_ble_eq_true rfl), (Nat.le_of_ble_eq_true rfl)⟩) hP hS hA (fun r_1 H locs w_2 hP hS => ?_)
  obtain ⟨z_3, rfl, h_4, h_5, h_6⟩ := w_2
  rw [← hQ]
  exact W.iret (v := iI z_3) hx hb hr (fun t ht hW => ⟨⟨iI z_3, (), rfl, ⟨z_3, rfl, by omega, by first | exact h_5 | exact fun e9 => absurd e9 (by omega), by first | exact h_6 | exact fun e9 => hasC_n (h_6 e9) (by omega) (by omega) | exact fun e9 => absurd e9 (by omega) | exact fun _ => hasC_n (noC_0 (a := 0)) (by omega) (by omega)⟩, trivial⟩, hS.F ht⟩) hS.2.2 dJ0_indexOf_0f7a4_6
set_option maxHeartbeats 2000000 in
set_option maxRecDepth 100000 in
theorem sJ3_checkIndex_8e157 (l : Launch) (dC : Nat → ClassId) (dI : Nat → Nat → Nat) (sz : Nat) (p1 : Int) (p2 : Int) (p3 : Nat) (q1 : rg p1) (q2 : rg p2) (k1 : 0 ≤ p1) (k2 : p1 < p2) : Met l yJ3_checkIndex_8e157 (jk yJ3_checkIndex_8e157 cJ3_checkIndex_8e157 3 (some .int)) ({ frames := 0, cells := 0, slots := 0, locals := 0 }) (va_Pc [.int (iI p1), .int (iI p2), .ref p3] (fun U => U.heap.size = sz)) (va_Qi (fun (r : Int32) (_ : Unit) => ∃ z : Int, r = iI z ∧ (rg z)) (fun _ _ => True) (va_A [] sz)) 0 0 (va_A [] sz) := by
  refine Met.ofW (cc := cJ3_checkIndex_8e157) (maxL := 3) (ret := (some .int)) (by decide) rfl ?_
  intro p e s m args below meth c s₁ B hml hv
  obtain ⟨rfl, hsz⟩ := hv
  have hx := B.exec
  have hb := B.bytes
  have hr := B.returns
  have hts := atoms_spec (ws := (jk yJ3_checkIndex_8e157 cJ3_checkIndex_8e157 3 (some .int))) B.pre
  have hj : ∀ w ∈ jw, w.before ([.int (iI p1), .int (iI p2), .ref p3] : List Value).toArray s = true := fun w h => hts w (jm h)
  have hown : s.vm.findClass RJ3 = some m.cls := findClass_of_methodNamed B.named
  subst hsz
  have hP : va_P (dC, dI) vwCl [] s.heap := fun k q h => by simp at h
  generalize hAe : (va_A [] s.heap.size) = A
  have hA : ∀ q : Nat, s.heap.size ≤ q → A q := fun q h => by rw [← hAe]; exact Or.inr h
  have hS : va_S A s.heap s.heap [] := va_S.rf
  have hl := lv_entry ([.int (iI p1), .int (iI p2), .ref p3]) (n := 3) (Nat.le_of_ble_eq_true rfl)
  rw [lg_entry_eq]
  generalize (lg_sl ([.int (iI p1), .int (iI p2), .ref p3]) ++ List.replicate (3 - (lg_sl ([.int (iI p1), .int (iI p2), .ref p3])).length) Slot.unset).toArray = ls at hl ⊢
  have hl : lv_has ls 3 [(0, .int (iI p1)), (1, .int (iI p2)), (2, .ref p3)] := hl
  generalize hQ : MQ below (va_Qi (fun (r : Int32) (_ : Unit) => ∃ z : Int, r = iI z ∧ (rg z)) (fun _ _ => True) A) ([.int (iI p1), .int (iI p2), .ref p3] : List Value).toArray s 0 0 A = Q
  suffices ST : ∀ (H : Heap) (locs : List Loc), va_P (dC, dI) vwCl [] H → va_S A s.heap H locs → W p l e ({ frames := 0, cells := 0, slots := 0, locals := 0 }) s m ([.int (iI p1), .int (iI p2), .ref p3] : List Value).toArray below meth c H locs 0 0 Q (F0 m 0 ls []) from ST _ _ hP hS
  clear hP hS
  intro H locs hP hS
  refine lv_iload_n hx hb dJ3_checkIndex_8e157_0 rfl (lv_at hl 0 rfl) ?_
  refine xr_if_lt (tgt := 9) hx hb dJ3_checkIndex_8e157_1 (by decide) (by omega) (fun h_1 => ?_) (fun h_1 => ?_)
  · exfalso; omega
  · refine lv_iload_n hx hb dJ3_checkIndex_8e157_4 rfl (lv_at hl 0 rfl) ?_
    refine lv_iload_n hx hb dJ3_checkIndex_8e157_5 rfl (lv_at hl 1 rfl) ?_
    refine xr_icmp_lt (tgt := 16) hx hb dJ3_checkIndex_8e157_6 (by decide) (by omega) (by omega) (fun h_2 => ?_) (fun h_2 => ?_)
    · refine lv_iload_n hx hb dJ3_checkIndex_8e157_16 rfl (lv_at hl 0 rfl) ?_
      rw [← hQ]
      exact W.iret (v := iI p1) hx hb hr (fun t ht hW => ⟨⟨iI p1, (), rfl, ⟨p1, rfl, by omega⟩, trivial⟩, hS.F ht⟩) hS.2.2 dJ3_checkIndex_8e157_17
    · exfalso; omega
set_option maxHeartbeats 2000000 in
set_option maxRecDepth 100000 in
theorem sJ3_checkIndex_8e157_n (l : Launch) (dC : Nat → ClassId) (dI : Nat → Nat → Nat) (sz : Nat) (p1 : Int) (p2 : Int) (q1 : rg p1) (q2 : rg p2) (k1 : 0 ≤ p1) (k2 : p1 < p2) : Met l yJ3_checkIndex_8e157 (jk yJ3_checkIndex_8e157 cJ3_checkIndex_8e157 3 (some .int)) ({ frames := 0, cells := 0, slots := 0, locals := 0 }) (va_Pc [.int (iI p1), .int (iI p2), .null] (fun U => U.heap.size = sz)) (va_Qi (fun (r : Int32) (_ : Unit) => ∃ z : Int, r = iI z ∧ (rg z)) (fun _ _ => True) (va_A [] sz)) 0 0 (va_A [] sz) := by
  refine Met.ofW (cc := cJ3_checkIndex_8e157) (maxL := 3) (ret := (some .int)) (by decide) rfl ?_
  intro p e s m args below meth c s₁ B hml hv
  obtain ⟨rfl, hsz⟩ := hv
  have hx := B.exec
  have hb := B.bytes
  have hr := B.returns
  have hts := atoms_spec (ws := (jk yJ3_checkIndex_8e157 cJ3_checkIndex_8e157 3 (some .int))) B.pre
  have hj : ∀ w ∈ jw, w.before ([.int (iI p1), .int (iI p2), .null] : List Value).toArray s = true := fun w h => hts w (jm h)
  have hown : s.vm.findClass RJ3 = some m.cls := findClass_of_methodNamed B.named
  subst hsz
  have hP : va_P (dC, dI) vwCl [] s.heap := fun k q h => by simp at h
  generalize hAe : (va_A [] s.heap.size) = A
  have hA : ∀ q : Nat, s.heap.size ≤ q → A q := fun q h => by rw [← hAe]; exact Or.inr h
  have hS : va_S A s.heap s.heap [] := va_S.rf
  have hl := lv_entry ([.int (iI p1), .int (iI p2), .null]) (n := 3) (Nat.le_of_ble_eq_true rfl)
  rw [lg_entry_eq]
  generalize (lg_sl ([.int (iI p1), .int (iI p2), .null]) ++ List.replicate (3 - (lg_sl ([.int (iI p1), .int (iI p2), .null])).length) Slot.unset).toArray = ls at hl ⊢
  have hl : lv_has ls 3 [(0, .int (iI p1)), (1, .int (iI p2)), (2, .null)] := hl
  generalize hQ : MQ below (va_Qi (fun (r : Int32) (_ : Unit) => ∃ z : Int, r = iI z ∧ (rg z)) (fun _ _ => True) A) ([.int (iI p1), .int (iI p2), .null] : List Value).toArray s 0 0 A = Q
  suffices ST : ∀ (H : Heap) (locs : List Loc), va_P (dC, dI) vwCl [] H → va_S A s.heap H locs → W p l e ({ frames := 0, cells := 0, slots := 0, locals := 0 }) s m ([.int (iI p1), .int (iI p2), .null] : List Value).toArray below meth c H locs 0 0 Q (F0 m 0 ls []) from ST _ _ hP hS
  clear hP hS
  intro H locs hP hS
  refine lv_iload_n hx hb dJ3_checkIndex_8e157_0 rfl (lv_at hl 0 rfl) ?_
  refine xr_if_lt (tgt := 9) hx hb dJ3_checkIndex_8e157_1 (by decide) (by omega) (fun h_1 => ?_) (fun h_1 => ?_)
  · exfalso; omega
  · refine lv_iload_n hx hb dJ3_checkIndex_8e157_4 rfl (lv_at hl 0 rfl) ?_
    refine lv_iload_n hx hb dJ3_checkIndex_8e157_5 rfl (lv_at hl 1 rfl) ?_
    refine xr_icmp_lt (tgt := 16) hx hb dJ3_checkIndex_8e157_6 (by decide) (by omega) (by omega) (fun h_2 => ?_) (fun h_2 => ?_)
    · refine lv_iload_n hx hb dJ3_checkIndex_8e157_16 rfl (lv_at hl 0 rfl) ?_
      rw [← hQ]
      exact W.iret (v := iI p1) hx hb hr (fun t ht hW => ⟨⟨iI p1, (), rfl, ⟨p1, rfl, by omega⟩, trivial⟩, hS.F ht⟩) hS.2.2 dJ3_checkIndex_8e157_17
    · exfalso; omega
set_option maxHeartbeats 2000000 in
set_option maxRecDepth 100000 in
theorem sJ0_checkIndex_df160 (l : Launch) (dC : Nat → ClassId) (dI : Nat → Nat → Nat) (sz : Nat) (sK sV : Nat → Nat) (p1 : Int) (p2 : Int) (q1 : rg p1) (q2 : rg p2) (k1 : 0 ≤ p1) (k2 : p1 < p2) : Met l yJ0_checkIndex_df160 (jk yJ0_checkIndex_df160 cJ0_checkIndex_df160 2 none) ({ frames := 1, cells := 0, slots := 0, locals := 22 }) (va_Pc [.int (iI p1), .int (iI p2)] (fun U => U.heap.size = sz ∧ xS sK sV (va_A [] sz) U U.heap)) (va_Qv (fun (_ : Unit) => True) (fun _ _ => True) (va_A [] sz)) 0 0 (va_A [] sz) := by
  refine Met.ofW (cc := cJ0_checkIndex_df160) (maxL := 2) (ret := none) (by decide) rfl ?_
  intro p e s m args below meth c s₁ B hml hv
  obtain ⟨rfl, hsz, hXs⟩ := hv
  have hx := B.exec
  have hb := B.bytes
  have hr := B.returns
  have hts := atoms_spec (ws := (jk yJ0_checkIndex_df160 cJ0_checkIndex_df160 2 none)) B.pre
  have hj : ∀ w ∈ jw, w.before ([.int (iI p1), .int (iI p2)] : List Value).toArray s = true := fun w h => hts w (jm h)
  have hown : s.vm.findClass RJ0 = some m.cls := findClass_of_methodNamed B.named
  subst hsz
  have hP : va_P (dC, dI) vwCl [] s.heap := fun k q h => by simp at h
  generalize hAe : (va_A [] s.heap.size) = A at hXs ⊢
  have hA : ∀ q : Nat, s.heap.size ≤ q → A q := fun q h => by rw [← hAe]; exact Or.inr h
  have hS : va_S A s.heap s.heap [] := va_S.rf
  have hl := lv_entry ([.int (iI p1), .int (iI p2)]) (n := 2) (Nat.le_of_ble_eq_true rfl)
  rw [lg_entry_eq]
  generalize (lg_sl ([.int (iI p1), .int (iI p2)]) ++ List.replicate (2 - (lg_sl ([.int (iI p1), .int (iI p2)])).length) Slot.unset).toArray = ls at hl ⊢
  have hl : lv_has ls 2 [(0, .int (iI p1)), (1, .int (iI p2))] := hl
  generalize hQ : MQ below (va_Qv (fun (_ : Unit) => True) (fun _ _ => True) A) ([.int (iI p1), .int (iI p2)] : List Value).toArray s 0 0 A = Q
  suffices ST : ∀ (H : Heap) (locs : List Loc), va_P (dC, dI) vwCl [] H → va_S A s.heap H locs → W p l e ({ frames := 1, cells := 0, slots := 0, locals := 22 }) s m ([.int (iI p1), .int (iI p2)] : List Value).toArray below meth c H locs 0 0 Q (F0 m 0 ls []) from ST _ _ hP hS
  clear hP hS
  intro H locs hP hS
  refine lv_iload_n hx hb dJ0_checkIndex_df160_0 rfl (lv_at hl 0 rfl) ?_
  refine lv_iload_n hx hb dJ0_checkIndex_df160_1 rfl (lv_at hl 1 rfl) ?_
  rcases hXs.2.2.2 with ⟨t_1, h_2⟩ | h_2
  · refine va_gets hx hb h_2 hS hown (hj _ m_796) (fun _ h9 => h9) dJ0_checkIndex_df160_2 ?_
    refine jc_i (va_runS (As := [.int (iI p1), .int (iI p2), .ref t_1]) (rest := []) ⟨hx, hb, hml, hown, hts⟩ (sJ3_checkIndex_8e157 l dC dI _ p1 p2 t_1 (by omega) (by omega) (by omega) (by omega)) (va_cwS 3 hts (jgoodS m_797 m_798 m_799 m_800) rfl rfl rfl (by decide +kernel) ⟨(Nat.le_of_ble_eq_true rfl), (Nat.le_of_ble_eq_true rfl)⟩) ⟨jw_blind0, fun U hU hW => ⟨rfl, congrArg Array.size hU⟩⟩ rfl rfl hl.1 rfl (lv_room (Nat.le_of_ble_eq_true rfl)) dJ0_checkIndex_df160_5 ⟨(Nat.le_of_ble_eq_true rfl), (Nat.le_of_ble_eq_true rfl)⟩) hP hS hA (fun r_3 H locs w_4 hP hS => ?_)
    obtain ⟨z_5, rfl, h_6⟩ := w_4
    refine lv_pop hx hb dJ0_checkIndex_df160_8 rfl ?_
    rw [← hQ]
    exact W.vret hx hb hr (fun t ht hW => ⟨⟨(), rfl, trivial, trivial⟩, hS.F ht⟩) hS.2.2 dJ0_checkIndex_df160_9
  · refine va_gets hx hb h_2 hS hown (hj _ m_796) (fun _ h9 => h9) dJ0_checkIndex_df160_2 ?_
    refine jc_i (va_runS (As := [.int (iI p1), .int (iI p2), .null]) (rest := []) ⟨hx, hb, hml, hown, hts⟩ (sJ3_checkIndex_8e157_n l dC dI _ p1 p2  (by omega) (by omega) (by omega) (by omega)) (va_cwS 3 hts (jgoodS m_797 m_798 m_799 m_800) rfl rfl rfl (by decide +kernel) ⟨(Nat.le_of_ble_eq_true rfl), (Nat.le_of_ble_eq_true rfl)⟩) ⟨jw_blind0, fun U hU hW => ⟨rfl, congrArg Array.size hU⟩⟩ rfl rfl hl.1 rfl (lv_room (Nat.le_of_ble_eq_true rfl)) dJ0_checkIndex_df160_5 ⟨(Nat.le_of_ble_eq_true rfl), (Nat.le_of_ble_eq_true rfl)⟩) hP hS hA (fun r_7 H locs w_8 hP hS => ?_)
    obtain ⟨z_9, rfl, h_10⟩ := w_8
    refine lv_pop hx hb dJ0_checkIndex_df160_8 rfl ?_
    rw [← hQ]
    exact W.vret hx hb hr (fun t ht hW => ⟨⟨(), rfl, trivial, trivial⟩, hS.F ht⟩) hS.2.2 dJ0_checkIndex_df160_9
set_option maxHeartbeats 2000000 in
set_option maxRecDepth 100000 in
theorem sJ1_charAt_3b067 (l : Launch) (dC : Nat → ClassId) (dI : Nat → Nat → Nat) (sz : Nat) (sK sV : Nat → Nat) (p1 : Nat) (p2 : Int) (q0 : p1 < 3) (q2 : rg p2) (k1 : 0 ≤ p2) (k2 : p2 < sx_n p1) : Met l yJ1_charAt_3b067 (jk yJ1_charAt_3b067 cJ1_charAt_3b067 2 (some .char)) ({ frames := 2, cells := 0, slots := 0, locals := 43 }) (va_Pc [.ref (sV p1), .int (iI p2)] (fun U => U.heap.size = sz ∧ xS sK sV (va_A [] sz) U U.heap)) (va_Qi (fun (r : Int32) (_ : Unit) => ∃ z : Int, r = iI z ∧ (0 ≤ z ∧ z ≤ 65535) ∧ (z = sx_c p1 p2)) (fun _ _ => True) (va_A [] sz)) 0 0 (va_A [] sz) := by
  refine Met.ofW (cc := cJ1_charAt_3b067) (maxL := 2) (ret := (some .char)) (by decide) rfl ?_
  intro p e s m args below meth c s₁ B hml hv
  obtain ⟨rfl, hsz, hXs⟩ := hv
  have hx := B.exec
  have hb := B.bytes
  have hr := B.returns
  have hts := atoms_spec (ws := (jk yJ1_charAt_3b067 cJ1_charAt_3b067 2 (some .char))) B.pre
  have hj : ∀ w ∈ jw, w.before ([.ref (sV p1), .int (iI p2)] : List Value).toArray s = true := fun w h => hts w (jm h)
  have hown : s.vm.findClass RJ1 = some m.cls := findClass_of_methodNamed B.named
  subst hsz
  have hP : va_P (dC, dI) vwCl [] s.heap := fun k q h => by simp at h
  generalize hAe : (va_A [] s.heap.size) = A at hXs ⊢
  have hA : ∀ q : Nat, s.heap.size ≤ q → A q := fun q h => by rw [← hAe]; exact Or.inr h
  have hS : va_S A s.heap s.heap [] := va_S.rf
  have hl := lv_entry ([.ref (sV p1), .int (iI p2)]) (n := 2) (Nat.le_of_ble_eq_true rfl)
  rw [lg_entry_eq]
  generalize (lg_sl ([.ref (sV p1), .int (iI p2)]) ++ List.replicate (2 - (lg_sl ([.ref (sV p1), .int (iI p2)])).length) Slot.unset).toArray = ls at hl ⊢
  have hl : lv_has ls 2 [(0, .ref (sV p1)), (1, .int (iI p2))] := hl
  generalize hQ : MQ below (va_Qi (fun (r : Int32) (_ : Unit) => ∃ z : Int, r = iI z ∧ (0 ≤ z ∧ z ≤ 65535) ∧ (z = sx_c p1 p2)) (fun _ _ => True) A) ([.ref (sV p1), .int (iI p2)] : List Value).toArray s 0 0 A = Q
  suffices ST : ∀ (H : Heap) (locs : List Loc), va_P (dC, dI) vwCl [] H → va_S A s.heap H locs → W p l e ({ frames := 2, cells := 0, slots := 0, locals := 43 }) s m ([.ref (sV p1), .int (iI p2)] : List Value).toArray below meth c H locs 0 0 Q (F0 m 0 ls []) from ST _ _ hP hS
  clear hP hS
  intro H locs hP hS
  refine lv_iload_n hx hb dJ1_charAt_3b067_0 rfl (lv_at hl 1 rfl) ?_
  refine lv_aload_n hx hb dJ1_charAt_3b067_1 rfl (lv_at hl 0 rfl) ?_
  refine xs_len hx hb hXs q0 hS dJ1_charAt_3b067_2 ?_
  have h_1 : 0 ≤ sx_n p1 ∧ sx_n p1 ≤ 2147483647 := sx_bd p1
  refine jc_v (va_runS (As := [.int (iI p2), .int (iI (sx_n p1))]) (rest := []) ⟨hx, hb, hml, hown, hts⟩ (sJ0_checkIndex_df160 l dC dI _ sK sV p2 (sx_n p1) (by omega) (by omega) (by omega) (by omega)) (va_cwS 2 hts (jgoodS m_801 m_802 m_754 m_803) rfl rfl rfl (by decide +kernel) ⟨(Nat.le_of_ble_eq_true rfl), (Nat.le_of_ble_eq_true rfl)⟩) ⟨xS_blind, fun U hU hW => ⟨rfl, xS_of hU hW hXs hS hA⟩⟩ rfl rfl hl.1 rfl (lv_room (Nat.le_of_ble_eq_true rfl)) dJ1_charAt_3b067_3 ⟨(Nat.le_of_ble_eq_true rfl), (Nat.le_of_ble_eq_true rfl)⟩) hP hS hA (fun H locs w_3 hP hS => ?_)
  refine lv_aload_n hx hb dJ1_charAt_3b067_6 rfl (lv_at hl 0 rfl) ?_
  refine lv_iload_n hx hb dJ1_charAt_3b067_7 rfl (lv_at hl 1 rfl) ?_
  refine xs_at hx hb hXs q0 hS (by omega) (by omega) dJ1_charAt_3b067_8 ?_
  refine lv_sipush (v := iI 255) hx hb dJ1_charAt_3b067_9 rfl ?_
  refine lv_iand hx hb dJ1_charAt_3b067_12 ?_
  refine lv_i2c hx hb dJ1_charAt_3b067_13 rfl ?_
  refine jt_i (iI (((((sx_byt.getD p1 []).getD (iI p2).toNatClampNeg 0) &&& iI 255).toUInt32 % 65536).toInt32).toInt) (iI_of _) ?_
  rw [← hQ]
  exact W.zret (v := iI ((((((sx_byt.getD p1 []).getD (iI p2).toNatClampNeg 0) &&& iI 255).toUInt32 % 65536).toInt32).toInt)) (ty := .char) hx hb hr (nb_char (ic_rng _).1 (ic_rng _).2) (fun t ht hW => ⟨⟨iI ((((((sx_byt.getD p1 []).getD (iI p2).toNatClampNeg 0) &&& iI 255).toUInt32 % 65536).toInt32).toInt), (), rfl, ⟨(((((sx_byt.getD p1 []).getD (iI p2).toNatClampNeg 0) &&& iI 255).toUInt32 % 65536).toInt32).toInt, rfl, ic_rng _, rfl⟩, trivial⟩, hS.F ht⟩) hS.2.2 dJ1_charAt_3b067_14
set_option maxHeartbeats 2000000 in
set_option maxRecDepth 100000 in
theorem sJ0_charAt_5068e (l : Launch) (dC : Nat → ClassId) (dI : Nat → Nat → Nat) (sz : Nat) (sK sV : Nat → Nat) (p0 : Nat) (p1 : Int) (q0 : p0 < 3) (q1 : rg p1) (k1 : 0 ≤ p1) (k2 : p1 < sx_n p0) : Met l yJ0_charAt_5068e (jk yJ0_charAt_5068e cJ0_charAt_5068e 2 (some .char)) ({ frames := 3, cells := 0, slots := 0, locals := 64 }) (va_Pc [.ref (sK p0), .int (iI p1)] (fun U => U.heap.size = sz ∧ xS sK sV (va_A [] sz) U U.heap)) (va_Qi (fun (r : Int32) (_ : Unit) => ∃ z : Int, r = iI z ∧ (0 ≤ z ∧ z ≤ 65535) ∧ (z = sx_c p0 p1)) (fun _ _ => True) (va_A [] sz)) 0 0 (va_A [] sz) := by
  refine Met.ofW (cc := cJ0_charAt_5068e) (maxL := 2) (ret := (some .char)) (by decide) rfl ?_
  intro p e s m args below meth c s₁ B hml hv
  obtain ⟨rfl, hsz, hXs⟩ := hv
  have hx := B.exec
  have hb := B.bytes
  have hr := B.returns
  have hts := atoms_spec (ws := (jk yJ0_charAt_5068e cJ0_charAt_5068e 2 (some .char))) B.pre
  have hj : ∀ w ∈ jw, w.before ([.ref (sK p0), .int (iI p1)] : List Value).toArray s = true := fun w h => hts w (jm h)
  have hown : s.vm.findClass RJ0 = some m.cls := findClass_of_methodNamed B.named
  subst hsz
  have hP : va_P (dC, dI) vwCl [] s.heap := fun k q h => by simp at h
  generalize hAe : (va_A [] s.heap.size) = A at hXs ⊢
  have hA : ∀ q : Nat, s.heap.size ≤ q → A q := fun q h => by rw [← hAe]; exact Or.inr h
  have hS : va_S A s.heap s.heap [] := va_S.rf
  have hl := lv_entry ([.ref (sK p0), .int (iI p1)]) (n := 2) (Nat.le_of_ble_eq_true rfl)
  rw [lg_entry_eq]
  generalize (lg_sl ([.ref (sK p0), .int (iI p1)]) ++ List.replicate (2 - (lg_sl ([.ref (sK p0), .int (iI p1)])).length) Slot.unset).toArray = ls at hl ⊢
  have hl : lv_has ls 2 [(0, .ref (sK p0)), (1, .int (iI p1))] := hl
  generalize hQ : MQ below (va_Qi (fun (r : Int32) (_ : Unit) => ∃ z : Int, r = iI z ∧ (0 ≤ z ∧ z ≤ 65535) ∧ (z = sx_c p0 p1)) (fun _ _ => True) A) ([.ref (sK p0), .int (iI p1)] : List Value).toArray s 0 0 A = Q
  suffices ST : ∀ (H : Heap) (locs : List Loc), va_P (dC, dI) vwCl [] H → va_S A s.heap H locs → W p l e ({ frames := 3, cells := 0, slots := 0, locals := 64 }) s m ([.ref (sK p0), .int (iI p1)] : List Value).toArray below meth c H locs 0 0 Q (F0 m 0 ls []) from ST _ _ hP hS
  clear hP hS
  intro H locs hP hS
  refine lv_aload_n hx hb dJ0_charAt_5068e_0 rfl (lv_at hl 0 rfl) ?_
  refine jc_i (va_runV (As := []) (rest := []) ⟨hx, hb, hml, hown, hts⟩ (sJ0_isLatin1_aae02 l dC dI _ sK sV p0 q0) (cwV 0 hts (jgoodV m_770 m_771 m_772 m_754 m_773) rfl rfl rfl (by decide +kernel) ⟨(Nat.le_of_ble_eq_true rfl), (Nat.le_of_ble_eq_true rfl)⟩) ⟨xS_blind, vk_recv hXs.1 q0 hS, fun U hU hW => ⟨rfl, xS_of hU hW hXs hS hA⟩⟩ rfl rfl hl.1 rfl (lv_room (Nat.le_of_ble_eq_true rfl)) dJ0_charAt_5068e_1 ⟨(Nat.le_of_ble_eq_true rfl), (Nat.le_of_ble_eq_true rfl)⟩) hP hS hA (fun r_1 H locs w_2 hP hS => ?_)
  obtain ⟨z_3, rfl, h_4, h_5⟩ := w_2
  obtain rfl : z_3 = 1 := by omega
  refine xr_if_eq (tgt := 16) hx hb dJ0_charAt_5068e_4 (by decide) (by omega) (fun h_6 => ?_) (fun h_6 => ?_)
  · exfalso; omega
  · refine lv_aload_n hx hb dJ0_charAt_5068e_7 rfl (lv_at hl 0 rfl) ?_
    refine xs_value hx hb hXs q0 hS hown (hj _ m_750) dJ0_charAt_5068e_8 ?_
    refine lv_iload_n hx hb dJ0_charAt_5068e_11 rfl (lv_at hl 1 rfl) ?_
    refine jc_i (va_runS (As := [.ref (sV p0), .int (iI p1)]) (rest := []) ⟨hx, hb, hml, hown, hts⟩ (sJ1_charAt_3b067 l dC dI _ sK sV p0 p1 q0 (by omega) (by omega) (by omega)) (va_cwS 2 hts (jgoodS m_804 m_805 m_758 m_806) rfl rfl rfl (by decide +kernel) ⟨(Nat.le_of_ble_eq_true rfl), (Nat.le_of_ble_eq_true rfl)⟩) ⟨xS_blind, fun U hU hW => ⟨rfl, xS_of hU hW hXs hS hA⟩⟩ rfl rfl hl.1 rfl (lv_room (Nat.le_of_ble_eq_true rfl)) dJ0_charAt_5068e_12 ⟨(Nat.le_of_ble_eq_true rfl), (Nat.le_of_ble_eq_true rfl)⟩) hP hS hA (fun r_7 H locs w_8 hP hS => ?_)
    obtain ⟨z_9, rfl, h_10, h_11⟩ := w_8
    rw [← hQ]
    exact W.zret (v := iI z_9) (ty := .char) hx hb hr (nb_char (by omega) (by omega)) (fun t ht hW => ⟨⟨iI z_9, (), rfl, ⟨z_9, rfl, by omega, by omega⟩, trivial⟩, hS.F ht⟩) hS.2.2 dJ0_charAt_5068e_15
