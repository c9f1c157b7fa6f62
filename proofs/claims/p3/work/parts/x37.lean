set_option maxHeartbeats 2000000 in
set_option maxRecDepth 100000 in
theorem sX3_sumOf (l : Launch) (dC : Nat → ClassId) (dI : Nat → Nat → Nat) (sz : Nat) (L : List Nat) (cid : Nat → ClassId) (K : Int → Nat) (N : Int → Int) (tW : Nat) (sK sV : Nat → Nat) (v : Int → Int → Int) (p0 : Int) (p1 : Int) (hI : xI L K N v) (q0 : ok L K p0 3) (q1 : ok L K p1 52) : Met l yX3_sumOf (jk yX3_sumOf cX3_sumOf 4 (some .int)) ({ frames := 0, cells := 0, slots := 0, locals := 0 }) (va_Pc [.ref p0.toNat, .ref p1.toNat] (xP (dC, dI) (xG L cid K N v) (xT cid) tW sK sV sz)) (va_Qi (fun (r : Int32) (_ : Unit) => ∃ z : Int, r = iI z ∧ (rg z)) (fun _ _ => True) (va_A [] sz)) 0 0 (va_A [] sz) := by
  refine Met.ofW (cc := cX3_sumOf) (maxL := 4) (ret := (some .int)) (by decide) rfl ?_
  intro p e s m args below meth c s₁ B hml hv
  obtain ⟨rfl, ⟨hsz, hP, hK, hD0⟩, hX⟩ := hv
  have hx := B.exec
  have hb := B.bytes
  have hr := B.returns
  have hts := atoms_spec (ws := (jk yX3_sumOf cX3_sumOf 4 (some .int))) B.pre
  have hj : ∀ w ∈ jw, w.before ([.ref p0.toNat, .ref p1.toNat] : List Value).toArray s = true := fun w h => hts w (jm h)
  have hown : s.vm.findClass RX3 = some m.cls := findClass_of_methodNamed B.named
  subst hsz
  have hDw := hD0.self (sz := s.heap.size)
  have hAA : ∀ q : Nat, s.heap.size ≤ q → va_A (xG L cid K N v) s.heap.size q := fun q h => Or.inr h
  have hAw : ∀ q, va_A [] s.heap.size q → va_A (xG L cid K N v) s.heap.size q := ja_nil va_S.rf hAA
  generalize hAe : (va_A [] s.heap.size) = A at hAw ⊢
  have hA : ∀ q : Nat, s.heap.size ≤ q → A q := fun q h => by rw [← hAe]; exact Or.inr h
  have hS : va_S A s.heap s.heap [] := va_S.rf
  have hXa := hX.nar hAw
  have hP : va_P (dC, dI) vwCl (xG L cid K N v) s.heap := hP
  have hl := lv_entry ([.ref p0.toNat, .ref p1.toNat]) (n := 4) (Nat.le_of_ble_eq_true rfl)
  rw [lg_entry_eq]
  generalize (lg_sl ([.ref p0.toNat, .ref p1.toNat]) ++ List.replicate (4 - (lg_sl ([.ref p0.toNat, .ref p1.toNat])).length) Slot.unset).toArray = ls at hl ⊢
  have hl : lv_has ls 4 [(0, .ref p0.toNat), (1, .ref p1.toNat)] := hl
  generalize hQ : MQ below (va_Qi (fun (r : Int32) (_ : Unit) => ∃ z : Int, r = iI z ∧ (rg z)) (fun _ _ => True) A) ([.ref p0.toNat, .ref p1.toNat] : List Value).toArray s 0 0 A = Q
  suffices ST : ∀ (H : Heap) (locs : List Loc), va_P (dC, dI) vwCl (xG L cid K N v) H → va_S A s.heap H locs → W p l e ({ frames := 0, cells := 0, slots := 0, locals := 0 }) s m ([.ref p0.toNat, .ref p1.toNat] : List Value).toArray below meth c H locs 0 0 Q (F0 m 0 ls []) from ST _ _ hP hS
  clear hP hS
  intro H locs hP hS
  have h_1 : N p1 = 60 := xn_52 hI q1
  refine lv_iconst (v := iI 0) hx hb dX3_sumOf_0 rfl ?_
  refine lv_istore_n (i := 2) (lv' := [(2, .int (iI 0)), (0, .ref p0.toNat), (1, .ref p1.toNat)]) hx hb dX3_sumOf_1 rfl hl (by decide) rfl (fun ls hl => ?_)
  refine lv_iconst (v := iI 0) hx hb dX3_sumOf_2 rfl ?_
  refine lv_istore_n (i := 3) (lv' := [(3, .int (iI 0)), (2, .int (iI 0)), (0, .ref p0.toNat), (1, .ref p1.toNat)]) hx hb dX3_sumOf_3 rfl hl (by decide) rfl (fun ls hl => ?_)
  have L4 : ∀ (n4 : Nat) (a3_4 a2_4 : Int) (H : Heap) (locs : List Loc) (ls : Array Slot), (0 ≤ a3_4 ∧ a3_4 ≤ 2147483647) → ((-2147483648) ≤ a2_4 ∧ a2_4 ≤ 2147483647) → (0 < (n4 : Int) ∧ (v p0 5) - a3_4 < (n4 : Int)) → va_P (dC, dI) vwCl (xG L cid K N v) H → va_S A s.heap H locs → lv_has ls 4 [(3, .int (iI a3_4)), (2, .int (iI a2_4)), (0, .ref p0.toNat), (1, .ref p1.toNat)] → W p l e ({ frames := 0, cells := 0, slots := 0, locals := 0 }) s m ([.ref p0.toNat, .ref p1.toNat] : List Value).toArray below meth c H locs 0 0 Q (F0 m 4 ls []) := by
    intro n4
    induction n4 with
    | zero =>
      intro a3_4 a2_4 H locs ls h_2 h_3 hm4 hP hS hl
      exfalso; omega
    | succ n4 ih4 =>
      intro a3_4 a2_4 H locs ls h_4 h_5 hm4 hP hS hl
      refine lv_iload_n hx hb dX3_sumOf_4 rfl (lv_at hl 0 rfl) ?_
      refine lv_aload_n hx hb dX3_sumOf_5 rfl (lv_at hl 2 rfl) ?_
      have h_6 : (-2147483648) ≤ v p0 5 ∧ v p0 5 ≤ 2147483647 := xf_3_5 hI q0
      refine gx_RX3_27 (y := v p0 5) hx hb hj hown hK hP q0 rfl dX3_sumOf_6 ?_
      refine xr_icmp_ge (tgt := 30) hx hb dX3_sumOf_9 (by decide) (by omega) (by omega) (fun h_7 => ?_) (fun h_7 => ?_)
      · refine lv_iload_n hx hb dX3_sumOf_30 rfl (lv_at hl 1 rfl) ?_
        rw [← hQ]
        exact W.iret (v := iI a2_4) hx hb hr (fun t ht hW => ⟨⟨iI a2_4, (), rfl, ⟨a2_4, rfl, by omega⟩, trivial⟩, hS.F ht⟩) hS.2.2 dX3_sumOf_31
      · refine lv_iload_n hx hb dX3_sumOf_12 rfl (lv_at hl 0 rfl) ?_
        refine lv_aload_n hx hb dX3_sumOf_13 rfl (lv_at hl 3 rfl) ?_
        refine lx_52 (y := 60) hx hb hK hP q1 (by omega) (by omega) dX3_sumOf_14 ?_
        refine xr_icmp_ge (tgt := 30) hx hb dX3_sumOf_15 (by decide) (by omega) (by omega) (fun h_8 => ?_) (fun h_8 => ?_)
        · refine lv_iload_n hx hb dX3_sumOf_30 rfl (lv_at hl 1 rfl) ?_
          rw [← hQ]
          exact W.iret (v := iI a2_4) hx hb hr (fun t ht hW => ⟨⟨iI a2_4, (), rfl, ⟨a2_4, rfl, by omega⟩, trivial⟩, hS.F ht⟩) hS.2.2 dX3_sumOf_31
        · refine lv_iload_n hx hb dX3_sumOf_18 rfl (lv_at hl 1 rfl) ?_
          refine lv_aload_n hx hb dX3_sumOf_19 rfl (lv_at hl 3 rfl) ?_
          refine lv_iload_n hx hb dX3_sumOf_20 rfl (lv_at hl 0 rfl) ?_
          have h_9 : (-2147483648) ≤ v p1 a3_4 ∧ v p1 a3_4 ≤ 2147483647 := xe_52 hI q1 (by omega)
          refine ax_52 (y := v p1 a3_4) hx hb hK hP q1 (by omega) (by omega) (by omega) rfl dX3_sumOf_21 ?_
          refine xr_add hx hb dX3_sumOf_22 ?_
          refine xr_kept (fun z_10 h_11 h_12 => ?_)
          refine lv_istore_n (i := 2) (lv' := [(2, .int (iI z_10)), (3, .int (iI a3_4)), (0, .ref p0.toNat), (1, .ref p1.toNat)]) hx hb dX3_sumOf_23 rfl hl (by decide) rfl (fun ls hl => ?_)
          refine lv_iinc (v := iI (a3_4 + 1)) (lv' := [(3, .int (iI (a3_4 + 1))), (2, .int (iI z_10)), (0, .ref p0.toNat), (1, .ref p1.toNat)]) hx hb dX3_sumOf_24 hl (k := 1) rfl (iI_add _ _) (by decide) rfl (fun ls hl => ?_)
          refine lv_goto (tgt := 4) hx hb dX3_sumOf_27 (by decide) ?_
          exact ih4 (a3_4 + 1) z_10 H locs ls (by omega) (by omega) (by omega) hP hS hl
  exact L4 ((((v p0 5) - 0 : Int)).toNat + 1) 0 0 H locs ls (by omega) (by omega) (by omega) hP hS hl
set_option maxHeartbeats 2000000 in
set_option maxRecDepth 100000 in
theorem sX12_entryAt (l : Launch) (dC : Nat → ClassId) (dI : Nat → Nat → Nat) (sz : Nat) (L : List Nat) (cid : Nat → ClassId) (K : Int → Nat) (N : Int → Int) (tW : Nat) (sK sV : Nat → Nat) (v : Int → Int → Int) (p0 : Int) (p1 : Int) (hI : xI L K N v) (q0 : ok L K p0 12) (q1 : rg p1) : Met l yX12_entryAt (jk yX12_entryAt cX12_entryAt 2 (some (.object "BookOfAll$Entry"))) ({ frames := 0, cells := 0, slots := 0, locals := 0 }) (va_Pc [.ref p0.toNat, .int (iI p1)] (xP (dC, dI) (xG L cid K N v) (xT cid) tW sK sV sz)) (va_Qq (fun (r : Option Nat) (_ : Unit) => ∃ z : Int, r = opt z ∧ (z < 0 ∨ ok L K z 0)) (fun _ _ => True) (va_A [] sz)) 0 0 (va_A [] sz) := by
  refine Met.ofW (cc := cX12_entryAt) (maxL := 2) (ret := (some (.object "BookOfAll$Entry"))) (by decide) rfl ?_
  intro p e s m args below meth c s₁ B hml hv
  obtain ⟨rfl, ⟨hsz, hP, hK, hD0⟩, hX⟩ := hv
  have hx := B.exec
  have hb := B.bytes
  have hr := B.returns
  have hts := atoms_spec (ws := (jk yX12_entryAt cX12_entryAt 2 (some (.object "BookOfAll$Entry")))) B.pre
  have hj : ∀ w ∈ jw, w.before ([.ref p0.toNat, .int (iI p1)] : List Value).toArray s = true := fun w h => hts w (jm h)
  have hown : s.vm.findClass RX12 = some m.cls := findClass_of_methodNamed B.named
  subst hsz
  have hDw := hD0.self (sz := s.heap.size)
  have hAA : ∀ q : Nat, s.heap.size ≤ q → va_A (xG L cid K N v) s.heap.size q := fun q h => Or.inr h
  have hAw : ∀ q, va_A [] s.heap.size q → va_A (xG L cid K N v) s.heap.size q := ja_nil va_S.rf hAA
  generalize hAe : (va_A [] s.heap.size) = A at hAw ⊢
  have hA : ∀ q : Nat, s.heap.size ≤ q → A q := fun q h => by rw [← hAe]; exact Or.inr h
  have hS : va_S A s.heap s.heap [] := va_S.rf
  have hXa := hX.nar hAw
  have hP : va_P (dC, dI) vwCl (xG L cid K N v) s.heap := hP
  have hl := lv_entry ([.ref p0.toNat, .int (iI p1)]) (n := 2) (Nat.le_of_ble_eq_true rfl)
  rw [lg_entry_eq]
  generalize (lg_sl ([.ref p0.toNat, .int (iI p1)]) ++ List.replicate (2 - (lg_sl ([.ref p0.toNat, .int (iI p1)])).length) Slot.unset).toArray = ls at hl ⊢
  have hl : lv_has ls 2 [(0, .ref p0.toNat), (1, .int (iI p1))] := hl
  generalize hQ : MQ below (va_Qq (fun (r : Option Nat) (_ : Unit) => ∃ z : Int, r = opt z ∧ (z < 0 ∨ ok L K z 0)) (fun _ _ => True) A) ([.ref p0.toNat, .int (iI p1)] : List Value).toArray s 0 0 A = Q
  suffices ST : ∀ (H : Heap) (locs : List Loc), va_P (dC, dI) vwCl (xG L cid K N v) H → va_S A s.heap H locs → W p l e ({ frames := 0, cells := 0, slots := 0, locals := 0 }) s m ([.ref p0.toNat, .int (iI p1)] : List Value).toArray below meth c H locs 0 0 Q (F0 m 0 ls []) from ST _ _ hP hS
  clear hP hS
  intro H locs hP hS
  refine lv_iload_n hx hb dX12_entryAt_0 rfl (lv_at hl 1 rfl) ?_
  refine xr_if_lt (tgt := 27) hx hb dX12_entryAt_1 (by decide) (by omega) (fun h_1 => ?_) (fun h_1 => ?_)
  · refine lv_null hx hb dX12_entryAt_27 ?_
    refine jt_q (rv (-1)) rv_nul ?_
    rw [← hQ]
    exact W.aret (v := rv (-1)) hx hb hr (Or.inl ⟨_, rfl⟩) (rv_or (-1)) (fun t ht hW => ⟨⟨opt (-1), (), rfl, ⟨-1, rfl, (Or.inl (by decide))⟩, trivial⟩, hS.F ht⟩) hS.2.2 dX12_entryAt_28
  · refine lv_iload_n hx hb dX12_entryAt_4 rfl (lv_at hl 1 rfl) ?_
    refine lv_aload_n hx hb dX12_entryAt_5 rfl (lv_at hl 0 rfl) ?_
    have h_2 : 0 ≤ v p0 7 ∧ v p0 7 ≤ 60 := xf_12_7 hI q0
    refine gx_RX12_203 (y := v p0 7) hx hb hj hown hK hP q0 rfl dX12_entryAt_6 ?_
    refine xr_icmp_ge (tgt := 27) hx hb dX12_entryAt_9 (by decide) (by omega) (by omega) (fun h_3 => ?_) (fun h_3 => ?_)
    · refine lv_null hx hb dX12_entryAt_27 ?_
      refine jt_q (rv (-1)) rv_nul ?_
      rw [← hQ]
      exact W.aret (v := rv (-1)) hx hb hr (Or.inl ⟨_, rfl⟩) (rv_or (-1)) (fun t ht hW => ⟨⟨opt (-1), (), rfl, ⟨-1, rfl, (Or.inl (by decide))⟩, trivial⟩, hS.F ht⟩) hS.2.2 dX12_entryAt_28
    · refine lv_iload_n hx hb dX12_entryAt_12 rfl (lv_at hl 1 rfl) ?_
      refine lv_bipush (v := iI 60) hx hb dX12_entryAt_13 rfl ?_
      refine xr_icmp_ge (tgt := 27) hx hb dX12_entryAt_15 (by decide) (by omega) (by omega) (fun h_4 => ?_) (fun h_4 => ?_)
      · exfalso; omega
      · refine lv_aload_n hx hb dX12_entryAt_18 rfl (lv_at hl 0 rfl) ?_
        have h_5 : ok L K (v p0 6) 36 := xf_12_6 hI q0
        have h_6 : N (v p0 6) = 60 := xn_36 hI h_5
        refine gx_RX12_43 (y := v p0 6) hx hb hj hown hK hP q0 ((xf_12_6 hI q0).1) rfl dX12_entryAt_19 ?_
        refine lv_iload_n hx hb dX12_entryAt_22 rfl (lv_at hl 1 rfl) ?_
        have h_7 : v (v p0 6) p1 < 0 ∨ ok L K (v (v p0 6) p1) 0 := xe_36 hI h_5 (by omega)
        refine ax_36 (y := v (v p0 6) p1) hx hb hK hP h_5 (by omega) (by omega) (by omega) rfl dX12_entryAt_23 ?_
        refine lv_goto (tgt := 28) hx hb dX12_entryAt_24 (by decide) ?_
        rw [← hQ]
        exact W.aret (v := rv (v (v p0 6) p1)) hx hb hr (Or.inl ⟨_, rfl⟩) (rv_or (v (v p0 6) p1)) (fun t ht hW => ⟨⟨opt (v (v p0 6) p1), (), rfl, ⟨v (v p0 6) p1, rfl, h_7⟩, trivial⟩, hS.F ht⟩) hS.2.2 dX12_entryAt_28
set_option maxHeartbeats 2000000 in
set_option maxRecDepth 100000 in
theorem sX6_rank (l : Launch) (dC : Nat → ClassId) (dI : Nat → Nat → Nat) (sz : Nat) (L : List Nat) (cid : Nat → ClassId) (K : Int → Nat) (N : Int → Int) (tW : Nat) (sK sV : Nat → Nat) (v : Int → Int → Int) (p0 : Int) (p1 : Int) (hI : xI L K N v) (q0 : ok L K p0 6) (q1 : rg p1) : Met l yX6_rank (jk yX6_rank cX6_rank 2 (some .int)) ({ frames := 0, cells := 0, slots := 0, locals := 0 }) (va_Pc [.ref p0.toNat, .int (iI p1)] (xP (dC, dI) (xG L cid K N v) (xT cid) tW sK sV sz)) (va_Qi (fun (r : Int32) (_ : Unit) => ∃ z : Int, r = iI z ∧ (rg z)) (fun _ _ => True) (va_A [] sz)) 0 0 (va_A [] sz) := by
  refine Met.ofW (cc := cX6_rank) (maxL := 2) (ret := (some .int)) (by decide) rfl ?_
  intro p e s m args below meth c s₁ B hml hv
  obtain ⟨rfl, ⟨hsz, hP, hK, hD0⟩, hX⟩ := hv
  have hx := B.exec
  have hb := B.bytes
  have hr := B.returns
  have hts := atoms_spec (ws := (jk yX6_rank cX6_rank 2 (some .int))) B.pre
  have hj : ∀ w ∈ jw, w.before ([.ref p0.toNat, .int (iI p1)] : List Value).toArray s = true := fun w h => hts w (jm h)
  have hown : s.vm.findClass RX6 = some m.cls := findClass_of_methodNamed B.named
  subst hsz
  have hDw := hD0.self (sz := s.heap.size)
  have hAA : ∀ q : Nat, s.heap.size ≤ q → va_A (xG L cid K N v) s.heap.size q := fun q h => Or.inr h
  have hAw : ∀ q, va_A [] s.heap.size q → va_A (xG L cid K N v) s.heap.size q := ja_nil va_S.rf hAA
  generalize hAe : (va_A [] s.heap.size) = A at hAw ⊢
  have hA : ∀ q : Nat, s.heap.size ≤ q → A q := fun q h => by rw [← hAe]; exact Or.inr h
  have hS : va_S A s.heap s.heap [] := va_S.rf
  have hXa := hX.nar hAw
  have hP : va_P (dC, dI) vwCl (xG L cid K N v) s.heap := hP
  have hl := lv_entry ([.ref p0.toNat, .int (iI p1)]) (n := 2) (Nat.le_of_ble_eq_true rfl)
  rw [lg_entry_eq]
  generalize (lg_sl ([.ref p0.toNat, .int (iI p1)]) ++ List.replicate (2 - (lg_sl ([.ref p0.toNat, .int (iI p1)])).length) Slot.unset).toArray = ls at hl ⊢
  have hl : lv_has ls 2 [(0, .ref p0.toNat), (1, .int (iI p1))] := hl
  generalize hQ : MQ below (va_Qi (fun (r : Int32) (_ : Unit) => ∃ z : Int, r = iI z ∧ (rg z)) (fun _ _ => True) A) ([.ref p0.toNat, .int (iI p1)] : List Value).toArray s 0 0 A = Q
  suffices ST : ∀ (H : Heap) (locs : List Loc), va_P (dC, dI) vwCl (xG L cid K N v) H → va_S A s.heap H locs → W p l e ({ frames := 0, cells := 0, slots := 0, locals := 0 }) s m ([.ref p0.toNat, .int (iI p1)] : List Value).toArray below meth c H locs 0 0 Q (F0 m 0 ls []) from ST _ _ hP hS
  clear hP hS
  intro H locs hP hS
  refine lv_iload_n hx hb dX6_rank_0 rfl (lv_at hl 1 rfl) ?_
  refine xr_if_ne (tgt := 6) hx hb dX6_rank_1 (by decide) (by omega) (fun h_1 => ?_) (fun h_1 => ?_)
  · refine lv_iload_n hx hb dX6_rank_6 rfl (lv_at hl 1 rfl) ?_
    refine lv_bipush (v := iI 32) hx hb dX6_rank_7 rfl ?_
    refine xr_icmp_ne (tgt := 14) hx hb dX6_rank_9 (by decide) (by omega) (by omega) (fun h_2 => ?_) (fun h_2 => ?_)
    · refine lv_iload_n hx hb dX6_rank_14 rfl (lv_at hl 1 rfl) ?_
      refine lv_bipush (v := iI 57) hx hb dX6_rank_15 rfl ?_
      refine xr_icmp_gt (tgt := 39) hx hb dX6_rank_17 (by decide) (by omega) (by omega) (fun h_3 => ?_) (fun h_3 => ?_)
      · refine lv_bipush (v := iI 50) hx hb dX6_rank_39 rfl ?_
        refine lv_iload_n hx hb dX6_rank_41 rfl (lv_at hl 1 rfl) ?_
        refine xr_add hx hb dX6_rank_42 ?_
        refine xr_kept (fun z_4 h_5 h_6 => ?_)
        refine lv_bipush (v := iI 97) hx hb dX6_rank_43 rfl ?_
        refine xr_sub hx hb dX6_rank_45 ?_
        refine xr_kept (fun z_7 h_8 h_9 => ?_)
        rw [← hQ]
        exact W.iret (v := iI z_7) hx hb hr (fun t ht hW => ⟨⟨iI z_7, (), rfl, ⟨z_7, rfl, by omega⟩, trivial⟩, hS.F ht⟩) hS.2.2 dX6_rank_46
      · refine lv_aload_n hx hb dX6_rank_20 rfl (lv_at hl 0 rfl) ?_
        have h_10 : 0 ≤ v p0 5 ∧ v p0 5 ≤ 1 := xf_6_5 hI q0
        refine gx_RX6_35 (y := v p0 5) hx hb hj hown hK hP q0 rfl dX6_rank_21 ?_
        refine xr_if_eq (tgt := 31) hx hb dX6_rank_24 (by decide) (by omega) (fun h_11 => ?_) (fun h_11 => ?_)
        · refine lv_bipush (v := iI 100) hx hb dX6_rank_31 rfl ?_
          refine lv_iload_n hx hb dX6_rank_33 rfl (lv_at hl 1 rfl) ?_
          refine xr_add hx hb dX6_rank_34 ?_
          refine lv_bipush (v := iI 48) hx hb dX6_rank_35 rfl ?_
          refine xr_sub hx hb dX6_rank_37 ?_
          refine xr_kept (fun z_12 h_13 h_14 => ?_)
          rw [← hQ]
          exact W.iret (v := iI z_12) hx hb hr (fun t ht hW => ⟨⟨iI z_12, (), rfl, ⟨z_12, rfl, by omega⟩, trivial⟩, hS.F ht⟩) hS.2.2 dX6_rank_38
        · refine lv_iconst (v := iI 1) hx hb dX6_rank_27 rfl ?_
          refine lv_goto (tgt := 33) hx hb dX6_rank_28 (by decide) ?_
          refine lv_iload_n hx hb dX6_rank_33 rfl (lv_at hl 1 rfl) ?_
          refine xr_add hx hb dX6_rank_34 ?_
          refine lv_bipush (v := iI 48) hx hb dX6_rank_35 rfl ?_
          refine xr_sub hx hb dX6_rank_37 ?_
          refine xr_kept (fun z_15 h_16 h_17 => ?_)
          rw [← hQ]
          exact W.iret (v := iI z_15) hx hb hr (fun t ht hW => ⟨⟨iI z_15, (), rfl, ⟨z_15, rfl, by omega⟩, trivial⟩, hS.F ht⟩) hS.2.2 dX6_rank_38
    · refine lv_iconst (v := iI 0) hx hb dX6_rank_12 rfl ?_
      rw [← hQ]
      exact W.iret (v := iI 0) hx hb hr (fun t ht hW => ⟨⟨iI 0, (), rfl, ⟨0, rfl, by omega⟩, trivial⟩, hS.F ht⟩) hS.2.2 dX6_rank_13
  · refine lv_iconst (v := iI (-1)) hx hb dX6_rank_4 rfl ?_
    rw [← hQ]
    exact W.iret (v := iI (-1)) hx hb hr (fun t ht hW => ⟨⟨iI (-1), (), rfl, ⟨(-1), rfl, by omega⟩, trivial⟩, hS.F ht⟩) hS.2.2 dX6_rank_5
set_option maxHeartbeats 2000000 in
set_option maxRecDepth 100000 in
theorem sX6_compareKeys (l : Launch) (dC : Nat → ClassId) (dI : Nat → Nat → Nat) (sz : Nat) (L : List Nat) (cid : Nat → ClassId) (K : Int → Nat) (N : Int → Int) (tW : Nat) (sK sV : Nat → Nat) (v : Int → Int → Int) (p0 : Int) (p1 : Int) (p2 : Int) (hI : xI L K N v) (q0 : ok L K p0 6) (q1 : ok L K p1 0) (q2 : ok L K p2 0) : Met l yX6_compareKeys (jk yX6_compareKeys cX6_compareKeys 8 (some .int)) ({ frames := 1, cells := 0, slots := 0, locals := 21 }) (va_Pc [.ref p0.toNat, .ref p1.toNat, .ref p2.toNat] (xP (dC, dI) (xG L cid K N v) (xT cid) tW sK sV sz)) (va_Qi (fun (r : Int32) (_ : Unit) => ∃ z : Int, r = iI z ∧ (rg z)) (fun _ _ => True) (va_A [] sz)) 0 0 (va_A [] sz) := by
  refine Met.ofW (cc := cX6_compareKeys) (maxL := 8) (ret := (some .int)) (by decide) rfl ?_
  intro p e s m args below meth c s₁ B hml hv
  obtain ⟨rfl, ⟨hsz, hP, hK, hD0⟩, hX⟩ := hv
  have hx := B.exec
  have hb := B.bytes
  have hr := B.returns
  have hts := atoms_spec (ws := (jk yX6_compareKeys cX6_compareKeys 8 (some .int))) B.pre
  have hj : ∀ w ∈ jw, w.before ([.ref p0.toNat, .ref p1.toNat, .ref p2.toNat] : List Value).toArray s = true := fun w h => hts w (jm h)
  have hown : s.vm.findClass RX6 = some m.cls := findClass_of_methodNamed B.named
  subst hsz
  have hDw := hD0.self (sz := s.heap.size)
  have hAA : ∀ q : Nat, s.heap.size ≤ q → va_A (xG L cid K N v) s.heap.size q := fun q h => Or.inr h
  have hAw : ∀ q, va_A [] s.heap.size q → va_A (xG L cid K N v) s.heap.size q := ja_nil va_S.rf hAA
  generalize hAe : (va_A [] s.heap.size) = A at hAw ⊢
  have hA : ∀ q : Nat, s.heap.size ≤ q → A q := fun q h => by rw [← hAe]; exact Or.inr h
  have hS : va_S A s.heap s.heap [] := va_S.rf
  have hXa := hX.nar hAw
  have hP : va_P (dC, dI) vwCl (xG L cid K N v) s.heap := hP
  have hl := lv_entry ([.ref p0.toNat, .ref p1.toNat, .ref p2.toNat]) (n := 8) (Nat.le_of_ble_eq_true rfl)
  rw [lg_entry_eq]
  generalize (lg_sl ([.ref p0.toNat, .ref p1.toNat, .ref p2.toNat]) ++ List.replicate (8 - (lg_sl ([.ref p0.toNat, .ref p1.toNat, .ref p2.toNat])).length) Slot.unset).toArray = ls at hl ⊢
  have hl : lv_has ls 8 [(0, .ref p0.toNat), (1, .ref p1.toNat), (2, .ref p2.toNat)] := hl
  generalize hQ : MQ below (va_Qi (fun (r : Int32) (_ : Unit) => ∃ z : Int, r = iI z ∧ (rg z)) (fun _ _ => True) A) ([.ref p0.toNat, .ref p1.toNat, .ref p2.toNat] : List Value).toArray s 0 0 A = Q
  suffices ST : ∀ (H : Heap) (locs : List Loc), va_P (dC, dI) vwCl (xG L cid K N v) H → va_S A s.heap H locs → W p l e ({ frames := 1, cells := 0, slots := 0, locals := 21 }) s m ([.ref p0.toNat, .ref p1.toNat, .ref p2.toNat] : List Value).toArray below meth c H locs 0 0 Q (F0 m 0 ls []) from ST _ _ hP hS
  clear hP hS
  intro H locs hP hS
  refine lv_aload_n hx hb dX6_compareKeys_0 rfl (lv_at hl 1 rfl) ?_
  have h_1 : (-2147483648) ≤ v p1 5 ∧ v p1 5 ≤ 2147483647 := xf_0_5 hI q1
  refine gx_RX6_50 (y := v p1 5) hx hb hj hown hK hP q1 rfl dX6_compareKeys_1 ?_
  refine lv_istore_n (i := 3) (lv' := [(3, .int (iI (v p1 5))), (0, .ref p0.toNat), (1, .ref p1.toNat), (2, .ref p2.toNat)]) hx hb dX6_compareKeys_4 rfl hl (by decide) rfl (fun ls hl => ?_)
  refine lv_aload_n hx hb dX6_compareKeys_5 rfl (lv_at hl 3 rfl) ?_
  have h_2 : (-2147483648) ≤ v p2 5 ∧ v p2 5 ≤ 2147483647 := xf_0_5 hI q2
  refine gx_RX6_50 (y := v p2 5) hx hb hj hown hK hP q2 rfl dX6_compareKeys_6 ?_
  refine lv_istore (i := 4) (lv' := [(4, .int (iI (v p2 5))), (3, .int (iI (v p1 5))), (0, .ref p0.toNat), (1, .ref p1.toNat), (2, .ref p2.toNat)]) hx hb dX6_compareKeys_9 hl (by decide) rfl (fun ls hl => ?_)
  refine lv_iconst (v := iI 0) hx hb dX6_compareKeys_11 rfl ?_
  refine lv_istore (i := 5) (lv' := [(5, .int (iI 0)), (4, .int (iI (v p2 5))), (3, .int (iI (v p1 5))), (0, .ref p0.toNat), (1, .ref p1.toNat), (2, .ref p2.toNat)]) hx hb dX6_compareKeys_12 hl (by decide) rfl (fun ls hl => ?_)
  have L14 : ∀ (n14 : Nat) (a5_14 a4_14 a3_14 : Int) (H : Heap) (locs : List Loc) (ls : Array Slot), (0 ≤ a5_14 ∧ a5_14 ≤ 2147483647) → ((-2147483648) ≤ a4_14 ∧ a4_14 ≤ 2147483647) → ((-2147483648) ≤ a3_14 ∧ a3_14 ≤ 2147483647) → (0 < (n14 : Int) ∧ 12 - a5_14 < (n14 : Int)) → va_P (dC, dI) vwCl (xG L cid K N v) H → va_S A s.heap H locs → lv_has ls 8 [(5, .int (iI a5_14)), (4, .int (iI a4_14)), (3, .int (iI a3_14)), (0, .ref p0.toNat), (1, .ref p1.toNat), (2, .ref p2.toNat)] → W p l e ({ frames := 1, cells := 0, slots := 0, locals := 21 }) s m ([.ref p0.toNat, .ref p1.toNat, .ref p2.toNat] : List Value).toArray below meth c H locs 0 0 Q (F0 m 14 ls []) := by
    intro n14
    induction n14 with
    | zero =>
      intro a5_14 a4_14 a3_14 H locs ls h_3 h_4 h_5 hm14 hP hS hl
      exfalso; omega
    | succ n14 ih14 =>
      intro a5_14 a4_14 a3_14 H locs ls h_6 h_7 h_8 hm14 hP hS hl
      refine lv_iload hx hb dX6_compareKeys_14 (lv_at hl 0 rfl) ?_
      refine lv_bipush (v := iI 12) hx hb dX6_compareKeys_16 rfl ?_
      refine xr_icmp_ge (tgt := 129) hx hb dX6_compareKeys_18 (by decide) (by omega) (by omega) (fun h_9 => ?_) (fun h_9 => ?_)
      · refine lv_iconst (v := iI 0) hx hb dX6_compareKeys_129 rfl ?_
        rw [← hQ]
        exact W.iret (v := iI 0) hx hb hr (fun t ht hW => ⟨⟨iI 0, (), rfl, ⟨0, rfl, by omega⟩, trivial⟩, hS.F ht⟩) hS.2.2 dX6_compareKeys_130
      · refine lv_iload_n hx hb dX6_compareKeys_21 rfl (lv_at hl 2 rfl) ?_
        refine lv_aload_n hx hb dX6_compareKeys_22 rfl (lv_at hl 3 rfl) ?_
        have h_10 : 0 ≤ v p0 4 ∧ v p0 4 ≤ 1 := xf_6_4 hI q0
        refine gx_RX6_32 (y := v p0 4) hx hb hj hown hK hP q0 rfl dX6_compareKeys_23 ?_
        have J44 : ∀ (s0_44 : Int) (H : Heap) (locs : List Loc) (ls : Array Slot), (0 ≤ s0_44 ∧ s0_44 ≤ 1) → va_P (dC, dI) vwCl (xG L cid K N v) H → va_S A s.heap H locs → lv_has ls 8 [(5, .int (iI a5_14)), (4, .int (iI a4_14)), (3, .int (iI a3_14)), (0, .ref p0.toNat), (1, .ref p1.toNat), (2, .ref p2.toNat)] → W p l e ({ frames := 1, cells := 0, slots := 0, locals := 21 }) s m ([.ref p0.toNat, .ref p1.toNat, .ref p2.toNat] : List Value).toArray below meth c H locs 0 0 Q (F0 m 44 ls [.int (iI s0_44), .int (iI a3_14)]) := by
          intro s0_44 H locs ls h_11 hP hS hl
          refine xr_add hx hb dX6_compareKeys_44 ?_
          refine xr_kept (fun z_12 h_13 h_14 => ?_)
          refine lv_istore_n (i := 3) (lv' := [(3, .int (iI z_12)), (5, .int (iI a5_14)), (4, .int (iI a4_14)), (0, .ref p0.toNat), (1, .ref p1.toNat), (2, .ref p2.toNat)]) hx hb dX6_compareKeys_45 rfl hl (by decide) rfl (fun ls hl => ?_)
          refine lv_iload hx hb dX6_compareKeys_46 (lv_at hl 2 rfl) ?_
          refine lv_aload_n hx hb dX6_compareKeys_48 rfl (lv_at hl 3 rfl) ?_
          refine gx_RX6_32 (y := v p0 4) hx hb hj hown hK hP q0 rfl dX6_compareKeys_49 ?_
          have J71 : ∀ (s0_71 : Int) (H : Heap) (locs : List Loc) (ls : Array Slot), (0 ≤ s0_71 ∧ s0_71 ≤ 1) → va_P (dC, dI) vwCl (xG L cid K N v) H → va_S A s.heap H locs → lv_has ls 8 [(3, .int (iI z_12)), (5, .int (iI a5_14)), (4, .int (iI a4_14)), (0, .ref p0.toNat), (1, .ref p1.toNat), (2, .ref p2.toNat)] → W p l e ({ frames := 1, cells := 0, slots := 0, locals := 21 }) s m ([.ref p0.toNat, .ref p1.toNat, .ref p2.toNat] : List Value).toArray below meth c H locs 0 0 Q (F0 m 71 ls [.int (iI s0_71), .int (iI a4_14)]) := by
            intro s0_71 H locs ls h_15 hP hS hl
            refine xr_add hx hb dX6_compareKeys_71 ?_
            refine xr_kept (fun z_16 h_17 h_18 => ?_)
            refine lv_istore (i := 4) (lv' := [(4, .int (iI z_16)), (3, .int (iI z_12)), (5, .int (iI a5_14)), (0, .ref p0.toNat), (1, .ref p1.toNat), (2, .ref p2.toNat)]) hx hb dX6_compareKeys_72 hl (by decide) rfl (fun ls hl => ?_)
            refine lv_aload_n hx hb dX6_compareKeys_74 rfl (lv_at hl 3 rfl) ?_
            refine lv_aload_n hx hb dX6_compareKeys_75 rfl (lv_at hl 4 rfl) ?_
            refine lv_iload_n hx hb dX6_compareKeys_76 rfl (lv_at hl 1 rfl) ?_
            refine jc_i (va_runV (As := [.int (iI z_12)]) (rest := [.ref p0.toNat]) ⟨hx, hb, hml, hown, hts⟩ (sX0_byteAt l dC dI _ L cid K N tW sK sV v p1 z_12 hI q1 (by omega)) (cwV 1 hts (jgoodV m_853 m_854 m_855 m_666 m_856) rfl rfl rfl (by decide +kernel) ⟨(Nat.le_of_ble_eq_true rfl), (Nat.le_of_ble_eq_true rfl)⟩) ⟨xP_blind, xrecv hK hP q1 rfl rfl, fun U hU hW => ⟨rfl, xP_of hU hW hP hK hDw hX hS hAw hAA⟩⟩ rfl rfl hl.1 rfl (lv_room (Nat.le_of_ble_eq_true rfl)) dX6_compareKeys_77 ⟨(Nat.le_of_ble_eq_true rfl), (Nat.le_of_ble_eq_true rfl)⟩) hP hS hA (fun r_19 H locs w_20 hP hS => ?_)
            obtain ⟨z_21, rfl, h_22⟩ := w_20
            refine jc_i (va_runV (As := [.int (iI z_21)]) (rest := []) ⟨hx, hb, hml, hown, hts⟩ (sX6_rank l dC dI _ L cid K N tW sK sV v p0 z_21 hI q0 (by omega)) (cwV 1 hts (jgoodV m_857 m_858 m_859 m_860 m_861) rfl rfl rfl (by decide +kernel) ⟨(Nat.le_of_ble_eq_true rfl), (Nat.le_of_ble_eq_true rfl)⟩) ⟨xP_blind, xrecv hK hP q0 rfl rfl, fun U hU hW => ⟨rfl, xP_of hU hW hP hK hDw hX hS hAw hAA⟩⟩ rfl rfl hl.1 rfl (lv_room (Nat.le_of_ble_eq_true rfl)) dX6_compareKeys_80 ⟨(Nat.le_of_ble_eq_true rfl), (Nat.le_of_ble_eq_true rfl)⟩) hP hS hA (fun r_23 H locs w_24 hP hS => ?_)
            obtain ⟨z_25, rfl, h_26⟩ := w_24
            refine lv_istore (i := 6) (lv' := [(6, .int (iI z_25)), (4, .int (iI z_16)), (3, .int (iI z_12)), (5, .int (iI a5_14)), (0, .ref p0.toNat), (1, .ref p1.toNat), (2, .ref p2.toNat)]) hx hb dX6_compareKeys_83 hl (by decide) rfl (fun ls hl => ?_)
            refine lv_aload_n hx hb dX6_compareKeys_85 rfl (lv_at hl 4 rfl) ?_
            refine lv_aload_n hx hb dX6_compareKeys_86 rfl (lv_at hl 6 rfl) ?_
            refine lv_iload hx hb dX6_compareKeys_87 (lv_at hl 1 rfl) ?_
            refine jc_i (va_runV (As := [.int (iI z_16)]) (rest := [.ref p0.toNat]) ⟨hx, hb, hml, hown, hts⟩ (sX0_byteAt l dC dI _ L cid K N tW sK sV v p2 z_16 hI q2 (by omega)) (cwV 1 hts (jgoodV m_853 m_854 m_855 m_666 m_856) rfl rfl rfl (by decide +kernel) ⟨(Nat.le_of_ble_eq_true rfl), (Nat.le_of_ble_eq_true rfl)⟩) ⟨xP_blind, xrecv hK hP q2 rfl rfl, fun U hU hW => ⟨rfl, xP_of hU hW hP hK hDw hX hS hAw hAA⟩⟩ rfl rfl hl.1 rfl (lv_room (Nat.le_of_ble_eq_true rfl)) dX6_compareKeys_89 ⟨(Nat.le_of_ble_eq_true rfl), (Nat.le_of_ble_eq_true rfl)⟩) hP hS hA (fun r_27 H locs w_28 hP hS => ?_)
            obtain ⟨z_29, rfl, h_30⟩ := w_28
            refine jc_i (va_runV (As := [.int (iI z_29)]) (rest := []) ⟨hx, hb, hml, hown, hts⟩ (sX6_rank l dC dI _ L cid K N tW sK sV v p0 z_29 hI q0 (by omega)) (cwV 1 hts (jgoodV m_857 m_858 m_859 m_860 m_861) rfl rfl rfl (by decide +kernel) ⟨(Nat.le_of_ble_eq_true rfl), (Nat.le_of_ble_eq_true rfl)⟩) ⟨xP_blind, xrecv hK hP q0 rfl rfl, fun U hU hW => ⟨rfl, xP_of hU hW hP hK hDw hX hS hAw hAA⟩⟩ rfl rfl hl.1 rfl (lv_room (Nat.le_of_ble_eq_true rfl)) dX6_compareKeys_92 ⟨(Nat.le_of_ble_eq_true rfl), (Nat.le_of_ble_eq_true rfl)⟩) hP hS hA (fun r_31 H locs w_32 hP hS => ?_)
            obtain ⟨z_33, rfl, h_34⟩ := w_32
            refine lv_istore (i := 7) (lv' := [(7, .int (iI z_33)), (6, .int (iI z_25)), (4, .int (iI z_16)), (3, .int (iI z_12)), (5, .int (iI a5_14)), (0, .ref p0.toNat), (1, .ref p1.toNat), (2, .ref p2.toNat)]) hx hb dX6_compareKeys_95 hl (by decide) rfl (fun ls hl => ?_)
            refine lv_iload hx hb dX6_compareKeys_97 (lv_at hl 1 rfl) ?_
            refine lv_iload hx hb dX6_compareKeys_99 (lv_at hl 0 rfl) ?_
            refine xr_icmp_eq (tgt := 117) hx hb dX6_compareKeys_101 (by decide) (by omega) (by omega) (fun h_35 => ?_) (fun h_35 => ?_)
            · refine lv_iinc (v := iI (z_12 + 1)) (lv' := [(3, .int (iI (z_12 + 1))), (7, .int (iI z_33)), (6, .int (iI z_25)), (4, .int (iI z_16)), (5, .int (iI a5_14)), (0, .ref p0.toNat), (1, .ref p1.toNat), (2, .ref p2.toNat)]) hx hb dX6_compareKeys_117 hl (k := 3) rfl (iI_add _ _) (by decide) rfl (fun ls hl => ?_)
              obtain ⟨z_36, h_37, h_38, e9⟩ := xr_keep (z_12 + 1)
              rw [e9] at hl
              refine lv_iinc (v := iI (z_16 + 1)) (lv' := [(4, .int (iI (z_16 + 1))), (3, .int (iI z_36)), (7, .int (iI z_33)), (6, .int (iI z_25)), (5, .int (iI a5_14)), (0, .ref p0.toNat), (1, .ref p1.toNat), (2, .ref p2.toNat)]) hx hb dX6_compareKeys_120 hl (k := 3) rfl (iI_add _ _) (by decide) rfl (fun ls hl => ?_)
              obtain ⟨z_39, h_40, h_41, e9⟩ := xr_keep (z_16 + 1)
              rw [e9] at hl
              refine lv_iinc (v := iI (a5_14 + 1)) (lv' := [(5, .int (iI (a5_14 + 1))), (4, .int (iI z_39)), (3, .int (iI z_36)), (7, .int (iI z_33)), (6, .int (iI z_25)), (0, .ref p0.toNat), (1, .ref p1.toNat), (2, .ref p2.toNat)]) hx hb dX6_compareKeys_123 hl (k := 4) rfl (iI_add _ _) (by decide) rfl (fun ls hl => ?_)
              refine lv_goto (tgt := 14) hx hb dX6_compareKeys_126 (by decide) ?_
              exact ih14 (a5_14 + 1) z_39 z_36 H locs ls (by omega) (by omega) (by omega) (by omega) hP hS (lv_sub hl [0, 1, 2, 5, 6, 7] rfl)
            · refine lv_iload hx hb dX6_compareKeys_104 (lv_at hl 1 rfl) ?_
              refine lv_iload hx hb dX6_compareKeys_106 (lv_at hl 0 rfl) ?_
              refine xr_icmp_ge (tgt := 115) hx hb dX6_compareKeys_108 (by decide) (by omega) (by omega) (fun h_42 => ?_) (fun h_42 => ?_)
              · refine lv_iconst (v := iI 1) hx hb dX6_compareKeys_115 rfl ?_
                rw [← hQ]
                exact W.iret (v := iI 1) hx hb hr (fun t ht hW => ⟨⟨iI 1, (), rfl, ⟨1, rfl, by omega⟩, trivial⟩, hS.F ht⟩) hS.2.2 dX6_compareKeys_116
              · refine lv_iconst (v := iI (-1)) hx hb dX6_compareKeys_111 rfl ?_
                refine lv_goto (tgt := 116) hx hb dX6_compareKeys_112 (by decide) ?_
                rw [← hQ]
                exact W.iret (v := iI (-1)) hx hb hr (fun t ht hW => ⟨⟨iI (-1), (), rfl, ⟨(-1), rfl, by omega⟩, trivial⟩, hS.F ht⟩) hS.2.2 dX6_compareKeys_116
          have J70 : ∀ (H : Heap) (locs : List Loc) (ls : Array Slot), va_P (dC, dI) vwCl (xG L cid K N v) H → va_S A s.heap H locs → lv_has ls 8 [(3, .int (iI z_12)), (5, .int (iI a5_14)), (4, .int (iI a4_14)), (0, .ref p0.toNat), (1, .ref p1.toNat), (2, .ref p2.toNat)] → W p l e ({ frames := 1, cells := 0, slots := 0, locals := 21 }) s m ([.ref p0.toNat, .ref p1.toNat, .ref p2.toNat] : List Value).toArray below meth c H locs 0 0 Q (F0 m 70 ls [.int (iI a4_14)]) := by
            intro H locs ls hP hS hl
            refine lv_iconst (v := iI 0) hx hb dX6_compareKeys_70 rfl ?_
            exact J71 0 H locs ls (by omega) hP hS hl
          refine xr_if_ne (tgt := 70) hx hb dX6_compareKeys_52 (by decide) (by omega) (fun h_43 => ?_) (fun h_43 => ?_)
          · exact J70 H locs ls hP hS hl
          · refine lv_aload_n hx hb dX6_compareKeys_55 rfl (lv_at hl 5 rfl) ?_
            refine lv_iload hx hb dX6_compareKeys_56 (lv_at hl 2 rfl) ?_
            refine jc_i (va_runV (As := [.int (iI a4_14)]) (rest := [.int (iI a4_14)]) ⟨hx, hb, hml, hown, hts⟩ (sX0_byteAt l dC dI _ L cid K N tW sK sV v p2 a4_14 hI q2 (by omega)) (cwV 1 hts (jgoodV m_853 m_854 m_855 m_666 m_856) rfl rfl rfl (by decide +kernel) ⟨(Nat.le_of_ble_eq_true rfl), (Nat.le_of_ble_eq_true rfl)⟩) ⟨xP_blind, xrecv hK hP q2 rfl rfl, fun U hU hW => ⟨rfl, xP_of hU hW hP hK hDw hX hS hAw hAA⟩⟩ rfl rfl hl.1 rfl (lv_room (Nat.le_of_ble_eq_true rfl)) dX6_compareKeys_58 ⟨(Nat.le_of_ble_eq_true rfl), (Nat.le_of_ble_eq_true rfl)⟩) hP hS hA (fun r_44 H locs w_45 hP hS => ?_)
            obtain ⟨z_46, rfl, h_47⟩ := w_45
            refine lv_bipush (v := iI 32) hx hb dX6_compareKeys_61 rfl ?_
            refine xr_icmp_ne (tgt := 70) hx hb dX6_compareKeys_63 (by decide) (by omega) (by omega) (fun h_48 => ?_) (fun h_48 => ?_)
            · exact J70 H locs ls hP hS hl
            · refine lv_iconst (v := iI 1) hx hb dX6_compareKeys_66 rfl ?_
              refine lv_goto (tgt := 71) hx hb dX6_compareKeys_67 (by decide) ?_
              exact J71 1 H locs ls (by omega) hP hS hl
        have J43 : ∀ (H : Heap) (locs : List Loc) (ls : Array Slot), va_P (dC, dI) vwCl (xG L cid K N v) H → va_S A s.heap H locs → lv_has ls 8 [(5, .int (iI a5_14)), (4, .int (iI a4_14)), (3, .int (iI a3_14)), (0, .ref p0.toNat), (1, .ref p1.toNat), (2, .ref p2.toNat)] → W p l e ({ frames := 1, cells := 0, slots := 0, locals := 21 }) s m ([.ref p0.toNat, .ref p1.toNat, .ref p2.toNat] : List Value).toArray below meth c H locs 0 0 Q (F0 m 43 ls [.int (iI a3_14)]) := by
          intro H locs ls hP hS hl
          refine lv_iconst (v := iI 0) hx hb dX6_compareKeys_43 rfl ?_
          exact J44 0 H locs ls (by omega) hP hS hl
        refine xr_if_ne (tgt := 43) hx hb dX6_compareKeys_26 (by decide) (by omega) (fun h_49 => ?_) (fun h_49 => ?_)
        · exact J43 H locs ls hP hS hl
        · refine lv_aload_n hx hb dX6_compareKeys_29 rfl (lv_at hl 4 rfl) ?_
          refine lv_iload_n hx hb dX6_compareKeys_30 rfl (lv_at hl 2 rfl) ?_
          refine jc_i (va_runV (As := [.int (iI a3_14)]) (rest := [.int (iI a3_14)]) ⟨hx, hb, hml, hown, hts⟩ (sX0_byteAt l dC dI _ L cid K N tW sK sV v p1 a3_14 hI q1 (by omega)) (cwV 1 hts (jgoodV m_853 m_854 m_855 m_666 m_856) rfl rfl rfl (by decide +kernel) ⟨(Nat.le_of_ble_eq_true rfl), (Nat.le_of_ble_eq_true rfl)⟩) ⟨xP_blind, xrecv hK hP q1 rfl rfl, fun U hU hW => ⟨rfl, xP_of hU hW hP hK hDw hX hS hAw hAA⟩⟩ rfl rfl hl.1 rfl (lv_room (Nat.le_of_ble_eq_true rfl)) dX6_compareKeys_31 ⟨(Nat.le_of_ble_eq_true rfl), (Nat.le_of_ble_eq_true rfl)⟩) hP hS hA (fun r_50 H locs w_51 hP hS => ?_)
          obtain ⟨z_52, rfl, h_53⟩ := w_51
          refine lv_bipush (v := iI 32) hx hb dX6_compareKeys_34 rfl ?_
          refine xr_icmp_ne (tgt := 43) hx hb dX6_compareKeys_36 (by decide) (by omega) (by omega) (fun h_54 => ?_) (fun h_54 => ?_)
          · exact J43 H locs ls hP hS hl
          · refine lv_iconst (v := iI 1) hx hb dX6_compareKeys_39 rfl ?_
            refine lv_goto (tgt := 44) hx hb dX6_compareKeys_40 (by decide) ?_
            exact J44 1 H locs ls (by omega) hP hS hl
  exact L14 (((12 - 0 : Int)).toNat + 1) 0 (v p2 5) (v p1 5) H locs ls (by omega) (by omega) (by omega) (by omega) hP hS hl
set_option maxHeartbeats 2000000 in
set_option maxRecDepth 100000 in
theorem sX6_isAhead (l : Launch) (dC : Nat → ClassId) (dI : Nat → Nat → Nat) (sz : Nat) (L : List Nat) (cid : Nat → ClassId) (K : Int → Nat) (N : Int → Int) (tW : Nat) (sK sV : Nat → Nat) (v : Int → Int → Int) (p0 : Int) (p1 : Int) (p2 : Int) (hI : xI L K N v) (q0 : ok L K p0 6) (q1 : ok L K p1 0) (q2 : ok L K p2 0) : Met l yX6_isAhead (jk yX6_isAhead cX6_isAhead 4 (some .boolean)) ({ frames := 2, cells := 0, slots := 0, locals := 48 }) (va_Pc [.ref p0.toNat, .ref p1.toNat, .ref p2.toNat] (xP (dC, dI) (xG L cid K N v) (xT cid) tW sK sV sz)) (va_Qi (fun (r : Int32) (_ : Unit) => ∃ z : Int, r = iI z ∧ (0 ≤ z ∧ z ≤ 1)) (fun _ _ => True) (va_A [] sz)) 0 0 (va_A [] sz) := by
  refine Met.ofW (cc := cX6_isAhead) (maxL := 4) (ret := (some .boolean)) (by decide) rfl ?_
  intro p e s m args below meth c s₁ B hml hv
  obtain ⟨rfl, ⟨hsz, hP, hK, hD0⟩, hX⟩ := hv
  have hx := B.exec
  have hb := B.bytes
  have hr := B.returns
  have hts := atoms_spec (ws := (jk yX6_isAhead cX6_isAhead 4 (some .boolean))) B.pre
  have hj : ∀ w ∈ jw, w.before ([.ref p0.toNat, .ref p1.toNat, .ref p2.toNat] : List Value).toArray s = true := fun w h => hts w (jm h)
  have hown : s.vm.findClass RX6 = some m.cls := findClass_of_methodNamed B.named
  subst hsz
  have hDw := hD0.self (sz := s.heap.size)
  have hAA : ∀ q : Nat, s.heap.size ≤ q → va_A (xG L cid K N v) s.heap.size q := fun q h => Or.inr h
  have hAw : ∀ q, va_A [] s.heap.size q → va_A (xG L cid K N v) s.heap.size q := ja_nil va_S.rf hAA
  generalize hAe : (va_A [] s.heap.size) = A at hAw ⊢
  have hA : ∀ q : Nat, s.heap.size ≤ q → A q := fun q h => by rw [← hAe]; exact Or.inr h
  have hS : va_S A s.heap s.heap [] := va_S.rf
  have hXa := hX.nar hAw
  have hP : va_P (dC, dI) vwCl (xG L cid K N v) s.heap := hP
  have hl := lv_entry ([.ref p0.toNat, .ref p1.toNat, .ref p2.toNat]) (n := 4) (Nat.le_of_ble_eq_true rfl)
  rw [lg_entry_eq]
  generalize (lg_sl ([.ref p0.toNat, .ref p1.toNat, .ref p2.toNat]) ++ List.replicate (4 - (lg_sl ([.ref p0.toNat, .ref p1.toNat, .ref p2.toNat])).length) Slot.unset).toArray = ls at hl ⊢
  have hl : lv_has ls 4 [(0, .ref p0.toNat), (1, .ref p1.toNat), (2, .ref p2.toNat)] := hl
  generalize hQ : MQ below (va_Qi (fun (r : Int32) (_ : Unit) => ∃ z : Int, r = iI z ∧ (0 ≤ z ∧ z ≤ 1)) (fun _ _ => True) A) ([.ref p0.toNat, .ref p1.toNat, .ref p2.toNat] : List Value).toArray s 0 0 A = Q
  suffices ST : ∀ (H : Heap) (locs : List Loc), va_P (dC, dI) vwCl (xG L cid K N v) H → va_S A s.heap H locs → W p l e ({ frames := 2, cells := 0, slots := 0, locals := 48 }) s m ([.ref p0.toNat, .ref p1.toNat, .ref p2.toNat] : List Value).toArray below meth c H locs 0 0 Q (F0 m 0 ls []) from ST _ _ hP hS
  clear hP hS
  intro H locs hP hS
  refine lv_aload_n hx hb dX6_isAhead_0 rfl (lv_at hl 0 rfl) ?_
  refine lv_aload_n hx hb dX6_isAhead_1 rfl (lv_at hl 1 rfl) ?_
  refine lv_aload_n hx hb dX6_isAhead_2 rfl (lv_at hl 2 rfl) ?_
  refine jc_i (va_runV (As := [.ref p1.toNat, .ref p2.toNat]) (rest := []) ⟨hx, hb, hml, hown, hts⟩ (sX6_compareKeys l dC dI _ L cid K N tW sK sV v p0 p1 p2 hI q0 q1 q2) (cwV 2 hts (jgoodV m_862 m_863 m_864 m_860 m_865) rfl rfl rfl (by decide +kernel) ⟨(Nat.le_of_ble_eq_true rfl), (Nat.le_of_ble_eq_true rfl)⟩) ⟨xP_blind, xrecv hK hP q0 rfl rfl, fun U hU hW => ⟨rfl, xP_of hU hW hP hK hDw hX hS hAw hAA⟩⟩ rfl rfl hl.1 rfl (lv_room (Nat.le_of_ble_eq_true rfl)) dX6_isAhead_3 ⟨(Nat.le_of_ble_eq_true rfl), (Nat.le_of_ble_eq_true rfl)⟩) hP hS hA (fun r_1 H locs w_2 hP hS => ?_)
  obtain ⟨z_3, rfl, h_4⟩ := w_2
  refine lv_istore_n (i := 3) (lv' := [(3, .int (iI z_3)), (0, .ref p0.toNat), (1, .ref p1.toNat), (2, .ref p2.toNat)]) hx hb dX6_isAhead_6 rfl hl (by decide) rfl (fun ls hl => ?_)
  refine lv_iload_n hx hb dX6_isAhead_7 rfl (lv_at hl 0 rfl) ?_
  refine xr_if_lt (tgt := 26) hx hb dX6_isAhead_8 (by decide) (by omega) (fun h_5 => ?_) (fun h_5 => ?_)
  · refine lv_iconst (v := iI 1) hx hb dX6_isAhead_26 rfl ?_
    refine lv_goto (tgt := 31) hx hb dX6_isAhead_27 (by decide) ?_
    rw [← hQ]
    exact W.zret (v := iI 1) (ty := .boolean) hx hb hr (nb_bool (by omega) (by omega)) (fun t ht hW => ⟨⟨iI 1, (), rfl, ⟨1, rfl, by omega⟩, trivial⟩, hS.F ht⟩) hS.2.2 dX6_isAhead_31
  · refine lv_iload_n hx hb dX6_isAhead_11 rfl (lv_at hl 0 rfl) ?_
    refine xr_if_ne (tgt := 30) hx hb dX6_isAhead_12 (by decide) (by omega) (fun h_6 => ?_) (fun h_6 => ?_)
    · refine lv_iconst (v := iI 0) hx hb dX6_isAhead_30 rfl ?_
      rw [← hQ]
      exact W.zret (v := iI 0) (ty := .boolean) hx hb hr (nb_bool (by omega) (by omega)) (fun t ht hW => ⟨⟨iI 0, (), rfl, ⟨0, rfl, by omega⟩, trivial⟩, hS.F ht⟩) hS.2.2 dX6_isAhead_31
    · refine lv_aload_n hx hb dX6_isAhead_15 rfl (lv_at hl 2 rfl) ?_
      have h_7 : (-2147483648) ≤ v p1 0 ∧ v p1 0 ≤ 2147483647 := xf_0_0 hI q1
      refine gx_RX6_57 (y := v p1 0) hx hb hj hown hK hP q1 rfl dX6_isAhead_16 ?_
      refine lv_aload_n hx hb dX6_isAhead_19 rfl (lv_at hl 3 rfl) ?_
      have h_8 : (-2147483648) ≤ v p2 0 ∧ v p2 0 ≤ 2147483647 := xf_0_0 hI q2
      refine gx_RX6_57 (y := v p2 0) hx hb hj hown hK hP q2 rfl dX6_isAhead_20 ?_
      refine xr_icmp_ge (tgt := 30) hx hb dX6_isAhead_23 (by decide) (by omega) (by omega) (fun h_9 => ?_) (fun h_9 => ?_)
      · refine lv_iconst (v := iI 0) hx hb dX6_isAhead_30 rfl ?_
        rw [← hQ]
        exact W.zret (v := iI 0) (ty := .boolean) hx hb hr (nb_bool (by omega) (by omega)) (fun t ht hW => ⟨⟨iI 0, (), rfl, ⟨0, rfl, by omega⟩, trivial⟩, hS.F ht⟩) hS.2.2 dX6_isAhead_31
      · refine lv_iconst (v := iI 1) hx hb dX6_isAhead_26 rfl ?_
        refine lv_goto (tgt := 31) hx hb dX6_isAhead_27 (by decide) ?_
        rw [← hQ]
        exact W.zret (v := iI 1) (ty := .boolean) hx hb hr (nb_bool (by omega) (by omega)) (fun t ht hW => ⟨⟨iI 1, (), rfl, ⟨1, rfl, by omega⟩, trivial⟩, hS.F ht⟩) hS.2.2 dX6_isAhead_31
