set_option maxHeartbeats 2000000 in
set_option maxRecDepth 100000 in
theorem sX3_differences (l : Launch) (dC : Nat → ClassId) (dI : Nat → Nat → Nat) (sz : Nat) (L : List Nat) (cid : Nat → ClassId) (K : Int → Nat) (N : Int → Int) (tW : Nat) (sK sV : Nat → Nat) (v : Int → Int → Int) (p0 : Int) (hI : xI L K N v) (q0 : ok L K p0 3) : Met l yX3_differences (jk yX3_differences cX3_differences 3 (some .int)) ({ frames := 1, cells := 0, slots := 0, locals := 40 }) (va_Pc [.ref p0.toNat] (xP (dC, dI) (xG L cid K N v) (xT cid) tW sK sV sz)) (va_Qi (fun (r : Int32) (_ : Unit) => ∃ z : Int, r = iI z ∧ (rg z)) (fun _ _ => True) (va_A [] sz)) 0 0 (va_A [] sz) := by
  refine Met.ofW (cc := cX3_differences) (maxL := 3) (ret := (some .int)) (by decide) rfl ?_
  intro p e s m args below meth c s₁ B hml hv
  obtain ⟨rfl, ⟨hsz, hP, hK, hD0⟩, hX⟩ := hv
  have hx := B.exec
  have hb := B.bytes
  have hr := B.returns
  have hts := atoms_spec (ws := (jk yX3_differences cX3_differences 3 (some .int))) B.pre
  have hj : ∀ w ∈ jw, w.before ([.ref p0.toNat] : List Value).toArray s = true := fun w h => hts w (jm h)
  have hown : s.vm.findClass RX3 = some m.cls := findClass_of_methodNamed B.named
  subst hsz
  have hDw := hD0.self (sz := s.heap.size)
  have hAA : ∀ q : Nat, s.heap.size ≤ q → va_A (xG L cid K N v) s.heap.size q := fun q h => Or.inr h
  have hAw : ∀ q, va_A [] s.heap.size q → va_A (xG L cid K N v) s.heap.size q := ja_nil va_S.rf hAA
  generalize hAe : (va_A [] s.heap.size) = A at hAw ⊢
  have hA : ∀ q : Nat, s.heap.size ≤ q → A q := fun q h => by rw [← hAe]; exact Or.inr h
  have hS : va_S A s.heap s.heap [] := va_S.rf
  have hXa := hX.nar hAw
  have hP : va_P (dC, dI) vwCl (xG L cid K N v) s.heap := hP
  have hl := lv_entry ([.ref p0.toNat]) (n := 3) (Nat.le_of_ble_eq_true rfl)
  rw [lg_entry_eq]
  generalize (lg_sl ([.ref p0.toNat]) ++ List.replicate (3 - (lg_sl ([.ref p0.toNat])).length) Slot.unset).toArray = ls at hl ⊢
  have hl : lv_has ls 3 [(0, .ref p0.toNat)] := hl
  generalize hQ : MQ below (va_Qi (fun (r : Int32) (_ : Unit) => ∃ z : Int, r = iI z ∧ (rg z)) (fun _ _ => True) A) ([.ref p0.toNat] : List Value).toArray s 0 0 A = Q
  suffices ST : ∀ (H : Heap) (locs : List Loc), va_P (dC, dI) vwCl (xG L cid K N v) H → va_S A s.heap H locs → W p l e ({ frames := 1, cells := 0, slots := 0, locals := 40 }) s m ([.ref p0.toNat] : List Value).toArray below meth c H locs 0 0 Q (F0 m 0 ls []) from ST _ _ hP hS
  clear hP hS
  intro H locs hP hS
  refine lv_iconst (v := iI 0) hx hb dX3_differences_0 rfl ?_
  refine lv_istore_n (lv' := [(1, .int (iI 0)), (0, .ref p0.toNat)]) hx hb dX3_differences_1 rfl hl (by decide) rfl (fun ls hl => ?_)
  refine lv_iconst (v := iI 0) hx hb dX3_differences_2 rfl ?_
  refine lv_istore_n (lv' := [(2, .int (iI 0)), (1, .int (iI 0)), (0, .ref p0.toNat)]) hx hb dX3_differences_3 rfl hl (by decide) rfl (fun ls hl => ?_)
  have L4 : ∀ (n4 : Nat) (a2_4 a1_4 : Int) (H : Heap) (locs : List Loc) (ls : Array Slot), (0 ≤ a2_4 ∧ a2_4 ≤ 2147483647) → ((-2147483648) ≤ a1_4 ∧ a1_4 ≤ 2147483647) → (0 < (n4 : Int) ∧ (v p0 5) - a2_4 < (n4 : Int)) → va_P (dC, dI) vwCl (xG L cid K N v) H → va_S A s.heap H locs → lv_has ls 3 [(2, .int (iI a2_4)), (1, .int (iI a1_4)), (0, .ref p0.toNat)] → W p l e ({ frames := 1, cells := 0, slots := 0, locals := 40 }) s m ([.ref p0.toNat] : List Value).toArray below meth c H locs 0 0 Q (F0 m 4 ls []) := by
    intro n4
    induction n4 with
    | zero =>
      intro a2_4 a1_4 H locs ls h_1 h_2 hm4 hP hS hl
      exfalso; omega
    | succ n4 ih4 =>
      intro a2_4 a1_4 H locs ls h_3 h_4 hm4 hP hS hl
      refine lv_iload_n hx hb dX3_differences_4 rfl (lv_at hl 0 rfl) ?_
      refine lv_aload_n hx hb dX3_differences_5 rfl (lv_at hl 2 rfl) ?_
      have h_5 : (-2147483648) ≤ v p0 5 ∧ v p0 5 ≤ 2147483647 := xf_3_5 hI q0
      refine gx_RX3_27 (y := v p0 5) hx hb hj hown hK hP q0 rfl dX3_differences_6 ?_
      refine xr_icmp_ge (tgt := 43) hx hb dX3_differences_9 (by decide) (by omega) (by omega) (fun h_6 => ?_) (fun h_6 => ?_)
      · refine lv_iload_n hx hb dX3_differences_43 rfl (lv_at hl 1 rfl) ?_
        rw [← hQ]
        exact W.iret (v := iI a1_4) hx hb hr (fun t ht hW => ⟨⟨iI a1_4, (), rfl, ⟨a1_4, rfl, by omega⟩, trivial⟩, hS.F ht⟩) hS.2.2 dX3_differences_44
      · refine lv_iload_n hx hb dX3_differences_12 rfl (lv_at hl 0 rfl) ?_
        refine lv_bipush (v := iI 60) hx hb dX3_differences_13 rfl ?_
        refine xr_icmp_ge (tgt := 43) hx hb dX3_differences_15 (by decide) (by omega) (by omega) (fun h_7 => ?_) (fun h_7 => ?_)
        · refine lv_iload_n hx hb dX3_differences_43 rfl (lv_at hl 1 rfl) ?_
          rw [← hQ]
          exact W.iret (v := iI a1_4) hx hb hr (fun t ht hW => ⟨⟨iI a1_4, (), rfl, ⟨a1_4, rfl, by omega⟩, trivial⟩, hS.F ht⟩) hS.2.2 dX3_differences_44
        · refine lv_iload_n hx hb dX3_differences_18 rfl (lv_at hl 1 rfl) ?_
          refine lv_aload_n hx hb dX3_differences_19 rfl (lv_at hl 2 rfl) ?_
          have h_8 : ok L K (v p0 4) 52 := xf_3_4 hI q0
          have h_9 : N (v p0 4) = 60 := xn_52 hI h_8
          refine gx_RX3_24 (y := v p0 4) hx hb hj hown hK hP q0 ((xf_3_4 hI q0).1) rfl dX3_differences_20 ?_
          refine lv_iload_n hx hb dX3_differences_23 rfl (lv_at hl 0 rfl) ?_
          have h_10 : (-2147483648) ≤ v (v p0 4) a2_4 ∧ v (v p0 4) a2_4 ≤ 2147483647 := xe_52 hI h_8 (by omega)
          refine ax_52 (y := v (v p0 4) a2_4) hx hb hK hP h_8 (by omega) (by omega) (by omega) rfl dX3_differences_24 ?_
          refine lv_aload_n hx hb dX3_differences_25 rfl (lv_at hl 2 rfl) ?_
          have h_11 : ok L K (v p0 1) 52 := xf_3_1 hI q0
          have h_12 : N (v p0 1) = 60 := xn_52 hI h_11
          refine gx_RX3_15 (y := v p0 1) hx hb hj hown hK hP q0 ((xf_3_1 hI q0).1) rfl dX3_differences_26 ?_
          refine lv_iload_n hx hb dX3_differences_29 rfl (lv_at hl 0 rfl) ?_
          have h_13 : (-2147483648) ≤ v (v p0 1) a2_4 ∧ v (v p0 1) a2_4 ≤ 2147483647 := xe_52 hI h_11 (by omega)
          refine ax_52 (y := v (v p0 1) a2_4) hx hb hK hP h_11 (by omega) (by omega) (by omega) rfl dX3_differences_30 ?_
          refine xr_sub hx hb dX3_differences_31 ?_
          refine xr_kept (fun z_14 h_15 h_16 => ?_)
          refine va_mabs hx hb (by rw [hml]; exact hl.1.symm) hown (hj _ m_845) (hj _ m_846) (hj _ m_758) (hj _ m_847) (Nat.le_of_ble_eq_true rfl) (Nat.le_of_ble_eq_true rfl) (Nat.le_of_ble_eq_true rfl) (Nat.le_of_ble_eq_true rfl) dX3_differences_32 ?_
          refine xr_any (fun z_17 h_18 => ?_)
          refine xr_add hx hb dX3_differences_35 ?_
          refine xr_kept (fun z_19 h_20 h_21 => ?_)
          refine lv_istore_n (lv' := [(1, .int (iI z_19)), (2, .int (iI a2_4)), (0, .ref p0.toNat)]) hx hb dX3_differences_36 rfl hl (by decide) rfl (fun ls hl => ?_)
          refine lv_iinc (v := iI (a2_4 + 1)) (lv' := [(2, .int (iI (a2_4 + 1))), (1, .int (iI z_19)), (0, .ref p0.toNat)]) hx hb dX3_differences_37 hl (k := 1) rfl (iI_add _ _) (by decide) rfl (fun ls hl => ?_)
          refine lv_goto (tgt := 4) hx hb dX3_differences_40 (by decide) ?_
          exact ih4 (a2_4 + 1) z_19 H locs ls (by omega) (by omega) (by omega) hP hS hl
  exact L4 ((((v p0 5) - 0 : Int)).toNat + 1) 0 0 H locs ls (by omega) (by omega) (by omega) hP hS hl
set_option maxHeartbeats 2000000 in
set_option maxRecDepth 100000 in
theorem sX3_fittedOf (l : Launch) (dC : Nat → ClassId) (dI : Nat → Nat → Nat) (sz : Nat) (L : List Nat) (cid : Nat → ClassId) (K : Int → Nat) (N : Int → Int) (tW : Nat) (sK sV : Nat → Nat) (v : Int → Int → Int) (p0 : Int) (p1 : Int) (hI : xI L K N v) (q0 : ok L K p0 3) (q1 : rg p1) : Met l yX3_fittedOf (jk yX3_fittedOf cX3_fittedOf 3 (some .int)) ({ frames := 0, cells := 0, slots := 0, locals := 0 }) (va_Pc [.ref p0.toNat, .int (iI p1)] (xP (dC, dI) (xG L cid K N v) (xT cid) tW sK sV sz)) (va_Qi (fun (r : Int32) (_ : Unit) => ∃ z : Int, r = iI z ∧ (rg z)) (fun _ _ => True) (va_A [] sz)) 0 0 (va_A [] sz) := by
  refine Met.ofW (cc := cX3_fittedOf) (maxL := 3) (ret := (some .int)) (by decide) rfl ?_
  intro p e s m args below meth c s₁ B hml hv
  obtain ⟨rfl, ⟨hsz, hP, hK, hD0⟩, hX⟩ := hv
  have hx := B.exec
  have hb := B.bytes
  have hr := B.returns
  have hts := atoms_spec (ws := (jk yX3_fittedOf cX3_fittedOf 3 (some .int))) B.pre
  have hj : ∀ w ∈ jw, w.before ([.ref p0.toNat, .int (iI p1)] : List Value).toArray s = true := fun w h => hts w (jm h)
  have hown : s.vm.findClass RX3 = some m.cls := findClass_of_methodNamed B.named
  subst hsz
  have hDw := hD0.self (sz := s.heap.size)
  have hAA : ∀ q : Nat, s.heap.size ≤ q → va_A (xG L cid K N v) s.heap.size q := fun q h => Or.inr h
  have hAw : ∀ q, va_A [] s.heap.size q → va_A (xG L cid K N v) s.heap.size q := ja_nil va_S.rf hAA
  generalize hAe : (va_A [] s.heap.size) = A at hAw ⊢
  have hA : ∀ q : Nat, s.heap.size ≤ q → A q := fun q h => by rw [← hAe]; exact Or.inr h
  have hS : va_S A s.heap s.heap [] := va_S.rf
  have hXa := hX.nar hAw
  have hP : va_P (dC, dI) vwCl (xG L cid K N v) s.heap := hP
  have hl := lv_entry ([.ref p0.toNat, .int (iI p1)]) (n := 3) (Nat.le_of_ble_eq_true rfl)
  rw [lg_entry_eq]
  generalize (lg_sl ([.ref p0.toNat, .int (iI p1)]) ++ List.replicate (3 - (lg_sl ([.ref p0.toNat, .int (iI p1)])).length) Slot.unset).toArray = ls at hl ⊢
  have hl : lv_has ls 3 [(0, .ref p0.toNat), (1, .int (iI p1))] := hl
  generalize hQ : MQ below (va_Qi (fun (r : Int32) (_ : Unit) => ∃ z : Int, r = iI z ∧ (rg z)) (fun _ _ => True) A) ([.ref p0.toNat, .int (iI p1)] : List Value).toArray s 0 0 A = Q
  suffices ST : ∀ (H : Heap) (locs : List Loc), va_P (dC, dI) vwCl (xG L cid K N v) H → va_S A s.heap H locs → W p l e ({ frames := 0, cells := 0, slots := 0, locals := 0 }) s m ([.ref p0.toNat, .int (iI p1)] : List Value).toArray below meth c H locs 0 0 Q (F0 m 0 ls []) from ST _ _ hP hS
  clear hP hS
  intro H locs hP hS
  refine lv_iconst (v := iI 0) hx hb dX3_fittedOf_0 rfl ?_
  refine lv_istore_n (lv' := [(2, .int (iI 0)), (0, .ref p0.toNat), (1, .int (iI p1))]) hx hb dX3_fittedOf_1 rfl hl (by decide) rfl (fun ls hl => ?_)
  have L2 : ∀ (n2 : Nat) (a2_2 : Int) (H : Heap) (locs : List Loc) (ls : Array Slot), (0 ≤ a2_2 ∧ a2_2 ≤ 2147483647) → (0 < (n2 : Int) ∧ (v p0 5) - a2_2 < (n2 : Int)) → va_P (dC, dI) vwCl (xG L cid K N v) H → va_S A s.heap H locs → lv_has ls 3 [(2, .int (iI a2_2)), (0, .ref p0.toNat), (1, .int (iI p1))] → W p l e ({ frames := 0, cells := 0, slots := 0, locals := 0 }) s m ([.ref p0.toNat, .int (iI p1)] : List Value).toArray below meth c H locs 0 0 Q (F0 m 2 ls []) := by
    intro n2
    induction n2 with
    | zero =>
      intro a2_2 H locs ls h_1 hm2 hP hS hl
      exfalso; omega
    | succ n2 ih2 =>
      intro a2_2 H locs ls h_2 hm2 hP hS hl
      refine lv_iload_n hx hb dX3_fittedOf_2 rfl (lv_at hl 0 rfl) ?_
      refine lv_aload_n hx hb dX3_fittedOf_3 rfl (lv_at hl 1 rfl) ?_
      have h_3 : (-2147483648) ≤ v p0 5 ∧ v p0 5 ≤ 2147483647 := xf_3_5 hI q0
      refine gx_RX3_27 (y := v p0 5) hx hb hj hown hK hP q0 rfl dX3_fittedOf_4 ?_
      refine xr_icmp_ge (tgt := 39) hx hb dX3_fittedOf_7 (by decide) (by omega) (by omega) (fun h_4 => ?_) (fun h_4 => ?_)
      · refine lv_iconst (v := iI (-1)) hx hb dX3_fittedOf_39 rfl ?_
        rw [← hQ]
        exact W.iret (v := iI (-1)) hx hb hr (fun t ht hW => ⟨⟨iI (-1), (), rfl, ⟨(-1), rfl, by omega⟩, trivial⟩, hS.F ht⟩) hS.2.2 dX3_fittedOf_40
      · refine lv_iload_n hx hb dX3_fittedOf_10 rfl (lv_at hl 0 rfl) ?_
        refine lv_bipush (v := iI 60) hx hb dX3_fittedOf_11 rfl ?_
        refine xr_icmp_ge (tgt := 39) hx hb dX3_fittedOf_13 (by decide) (by omega) (by omega) (fun h_5 => ?_) (fun h_5 => ?_)
        · refine lv_iconst (v := iI (-1)) hx hb dX3_fittedOf_39 rfl ?_
          rw [← hQ]
          exact W.iret (v := iI (-1)) hx hb hr (fun t ht hW => ⟨⟨iI (-1), (), rfl, ⟨(-1), rfl, by omega⟩, trivial⟩, hS.F ht⟩) hS.2.2 dX3_fittedOf_40
        · refine lv_aload_n hx hb dX3_fittedOf_16 rfl (lv_at hl 1 rfl) ?_
          have h_6 : ok L K (v p0 0) 52 := xf_3_0 hI q0
          have h_7 : N (v p0 0) = 60 := xn_52 hI h_6
          refine gx_RX3_9 (y := v p0 0) hx hb hj hown hK hP q0 ((xf_3_0 hI q0).1) rfl dX3_fittedOf_17 ?_
          refine lv_iload_n hx hb dX3_fittedOf_20 rfl (lv_at hl 0 rfl) ?_
          have h_8 : (-2147483648) ≤ v (v p0 0) a2_2 ∧ v (v p0 0) a2_2 ≤ 2147483647 := xe_52 hI h_6 (by omega)
          refine ax_52 (y := v (v p0 0) a2_2) hx hb hK hP h_6 (by omega) (by omega) (by omega) rfl dX3_fittedOf_21 ?_
          refine lv_iload_n hx hb dX3_fittedOf_22 rfl (lv_at hl 2 rfl) ?_
          refine xr_icmp_ne (tgt := 33) hx hb dX3_fittedOf_23 (by decide) (by omega) (by omega) (fun h_9 => ?_) (fun h_9 => ?_)
          · refine lv_iinc (v := iI (a2_2 + 1)) (lv' := [(2, .int (iI (a2_2 + 1))), (0, .ref p0.toNat), (1, .int (iI p1))]) hx hb dX3_fittedOf_33 hl (k := 0) rfl (iI_add _ _) (by decide) rfl (fun ls hl => ?_)
            refine lv_goto (tgt := 2) hx hb dX3_fittedOf_36 (by decide) ?_
            exact ih2 (a2_2 + 1) H locs ls (by omega) (by omega) hP hS hl
          · refine lv_aload_n hx hb dX3_fittedOf_26 rfl (lv_at hl 1 rfl) ?_
            have h_10 : ok L K (v p0 4) 52 := xf_3_4 hI q0
            have h_11 : N (v p0 4) = 60 := xn_52 hI h_10
            refine gx_RX3_24 (y := v p0 4) hx hb hj hown hK hP q0 ((xf_3_4 hI q0).1) rfl dX3_fittedOf_27 ?_
            refine lv_iload_n hx hb dX3_fittedOf_30 rfl (lv_at hl 0 rfl) ?_
            have h_12 : (-2147483648) ≤ v (v p0 4) a2_2 ∧ v (v p0 4) a2_2 ≤ 2147483647 := xe_52 hI h_10 (by omega)
            refine ax_52 (y := v (v p0 4) a2_2) hx hb hK hP h_10 (by omega) (by omega) (by omega) rfl dX3_fittedOf_31 ?_
            rw [← hQ]
            exact W.iret (v := iI (v (v p0 4) a2_2)) hx hb hr (fun t ht hW => ⟨⟨iI (v (v p0 4) a2_2), (), rfl, ⟨v (v p0 4) a2_2, rfl, by omega⟩, trivial⟩, hS.F ht⟩) hS.2.2 dX3_fittedOf_32
  exact L2 ((((v p0 5) - 0 : Int)).toNat + 1) 0 H locs ls (by omega) (by omega) hP hS hl
set_option maxHeartbeats 2000000 in
set_option maxRecDepth 100000 in
theorem sX5_addFact (l : Launch) (dC : Nat → ClassId) (dI : Nat → Nat → Nat) (sz : Nat) (L : List Nat) (cid : Nat → ClassId) (K : Int → Nat) (N : Int → Int) (tW : Nat) (sK sV : Nat → Nat) (v : Int → Int → Int) (p0 : Int) (p1 : Int) (p2 : Int) (p3 : Int) (p4 : Int) (hI : xI L K N v) (q0 : ok L K p0 5) (q1 : rg p1) (q2 : rg p2) (q3 : rg p3) (q4 : rg p4) : Met l yX5_addFact (jk yX5_addFact cX5_addFact 5 (some .boolean)) ({ frames := 0, cells := 0, slots := 0, locals := 0 }) (va_Pc [.ref p0.toNat, .int (iI p1), .int (iI p2), .int (iI p3), .int (iI p4)] (xP (dC, dI) (xG L cid K N v) (xT cid) tW sK sV sz)) (va_Qi (fun (r : Int32) (u : (Int → Int → Int)) => ∃ z : Int, r = iI z ∧ (xI L K N u) ∧ (fr K [(5, 5), (42, (-1)), (43, (-1)), (44, (-1)), (45, (-1)), (46, (-1))] u v) ∧ (0 ≤ z ∧ z ≤ 1)) (fun u t => va_P (dC, dI) vwCl (xG L cid K N u) t.heap ∧ va_K (dC, dI) vwCl (xT cid) t ∧ va_D (va_A (xG L cid K N v) sz) (xG L cid K N u)) (va_A (xG L cid K N v) sz)) 0 0 (va_A (xG L cid K N v) sz) := by
  refine Met.ofW (cc := cX5_addFact) (maxL := 5) (ret := (some .boolean)) (by decide) rfl ?_
  intro p e s m args below meth c s₁ B hml hv
  obtain ⟨rfl, ⟨hsz, hP, hK, hD0⟩, hX⟩ := hv
  have hx := B.exec
  have hb := B.bytes
  have hr := B.returns
  have hts := atoms_spec (ws := (jk yX5_addFact cX5_addFact 5 (some .boolean))) B.pre
  have hj : ∀ w ∈ jw, w.before ([.ref p0.toNat, .int (iI p1), .int (iI p2), .int (iI p3), .int (iI p4)] : List Value).toArray s = true := fun w h => hts w (jm h)
  have hown : s.vm.findClass RX5 = some m.cls := findClass_of_methodNamed B.named
  subst hsz
  have hD := hD0.self (sz := s.heap.size)
  generalize hAe : (va_A (xG L cid K N v) s.heap.size) = A at hD hX ⊢
  have hA : ∀ q : Nat, s.heap.size ≤ q → A q := fun q h => by rw [← hAe]; exact Or.inr h
  have hS : va_S A s.heap s.heap [] := va_S.rf
  have hXa := hX
  have hP : va_P (dC, dI) vwCl (xG L cid K N v) s.heap := hP
  have hl := lv_entry ([.ref p0.toNat, .int (iI p1), .int (iI p2), .int (iI p3), .int (iI p4)]) (n := 5) (Nat.le_of_ble_eq_true rfl)
  rw [lg_entry_eq]
  generalize (lg_sl ([.ref p0.toNat, .int (iI p1), .int (iI p2), .int (iI p3), .int (iI p4)]) ++ List.replicate (5 - (lg_sl ([.ref p0.toNat, .int (iI p1), .int (iI p2), .int (iI p3), .int (iI p4)])).length) Slot.unset).toArray = ls at hl ⊢
  have hl : lv_has ls 5 [(0, .ref p0.toNat), (1, .int (iI p1)), (2, .int (iI p2)), (3, .int (iI p3)), (4, .int (iI p4))] := hl
  generalize hQ : MQ below (va_Qi (fun (r : Int32) (u : (Int → Int → Int)) => ∃ z : Int, r = iI z ∧ (xI L K N u) ∧ (fr K [(5, 5), (42, (-1)), (43, (-1)), (44, (-1)), (45, (-1)), (46, (-1))] u v) ∧ (0 ≤ z ∧ z ≤ 1)) (fun u t => va_P (dC, dI) vwCl (xG L cid K N u) t.heap ∧ va_K (dC, dI) vwCl (xT cid) t ∧ va_D A (xG L cid K N u)) A) ([.ref p0.toNat, .int (iI p1), .int (iI p2), .int (iI p3), .int (iI p4)] : List Value).toArray s 0 0 A = Q
  suffices ST : ∀ (H : Heap) (locs : List Loc), va_P (dC, dI) vwCl (xG L cid K N v) H → va_S A s.heap H locs → W p l e ({ frames := 0, cells := 0, slots := 0, locals := 0 }) s m ([.ref p0.toNat, .int (iI p1), .int (iI p2), .int (iI p3), .int (iI p4)] : List Value).toArray below meth c H locs 0 0 Q (F0 m 0 ls []) from ST _ _ hP hS
  clear hP hS
  intro H locs hP hS
  refine lv_iload_n hx hb dX5_addFact_0 rfl (lv_at hl 1 rfl) ?_
  refine xr_if_lt (tgt := 27) hx hb dX5_addFact_1 (by decide) (by omega) (fun h_1 => ?_) (fun h_1 => ?_)
  · refine lv_iconst (v := iI 0) hx hb dX5_addFact_27 rfl ?_
    rw [← hQ]
    exact W.zret (v := iI 0) (ty := .boolean) hx hb hr (nb_bool (by omega) (by omega)) (fun t ht hW => ⟨⟨iI 0, v, rfl, ⟨0, rfl, hI, fr_rf, by omega⟩, by rw [ht]; exact hP, va_K.moved hW.alike hK, hD⟩, hS.F ht⟩) hS.2.2 dX5_addFact_28
  · refine lv_iload_n hx hb dX5_addFact_4 rfl (lv_at hl 1 rfl) ?_
    refine lv_bipush (v := iI 40) hx hb dX5_addFact_5 rfl ?_
    refine xr_icmp_ge (tgt := 27) hx hb dX5_addFact_7 (by decide) (by omega) (by omega) (fun h_2 => ?_) (fun h_2 => ?_)
    · refine lv_iconst (v := iI 0) hx hb dX5_addFact_27 rfl ?_
      rw [← hQ]
      exact W.zret (v := iI 0) (ty := .boolean) hx hb hr (nb_bool (by omega) (by omega)) (fun t ht hW => ⟨⟨iI 0, v, rfl, ⟨0, rfl, hI, fr_rf, by omega⟩, by rw [ht]; exact hP, va_K.moved hW.alike hK, hD⟩, hS.F ht⟩) hS.2.2 dX5_addFact_28
    · refine lv_aload_n hx hb dX5_addFact_10 rfl (lv_at hl 0 rfl) ?_
      have h_3 : (-2147483648) ≤ v p0 5 ∧ v p0 5 ≤ 2147483647 := xf_5_5 hI q0
      refine gx_RX5_49 (y := v p0 5) hx hb hj hown hK hP q0 rfl dX5_addFact_11 ?_
      refine xr_if_lt (tgt := 27) hx hb dX5_addFact_14 (by decide) (by omega) (fun h_4 => ?_) (fun h_4 => ?_)
      · refine lv_iconst (v := iI 0) hx hb dX5_addFact_27 rfl ?_
        rw [← hQ]
        exact W.zret (v := iI 0) (ty := .boolean) hx hb hr (nb_bool (by omega) (by omega)) (fun t ht hW => ⟨⟨iI 0, v, rfl, ⟨0, rfl, hI, fr_rf, by omega⟩, by rw [ht]; exact hP, va_K.moved hW.alike hK, hD⟩, hS.F ht⟩) hS.2.2 dX5_addFact_28
      · refine lv_aload_n hx hb dX5_addFact_17 rfl (lv_at hl 0 rfl) ?_
        refine gx_RX5_49 (y := v p0 5) hx hb hj hown hK hP q0 rfl dX5_addFact_18 ?_
        refine lv_sipush (v := iI 600) hx hb dX5_addFact_21 rfl ?_
        refine xr_icmp_lt (tgt := 29) hx hb dX5_addFact_24 (by decide) (by omega) (by omega) (fun h_5 => ?_) (fun h_5 => ?_)
        · refine lv_aload_n hx hb dX5_addFact_29 rfl (lv_at hl 0 rfl) ?_
          have h_6 : ok L K (v p0 1) 43 := xf_5_1 hI q0
          have h_7 : N (v p0 1) = 600 := xn_43 hI h_6
          refine gx_RX5_15 (y := v p0 1) hx hb hj hown hK hP q0 ((xf_5_1 hI q0).1) rfl dX5_addFact_30 ?_
          refine lv_aload_n hx hb dX5_addFact_33 rfl (lv_at hl 0 rfl) ?_
          refine gx_RX5_49 (y := v p0 5) hx hb hj hown hK hP q0 rfl dX5_addFact_34 ?_
          refine lv_iload_n hx hb dX5_addFact_37 rfl (lv_at hl 2 rfl) ?_
          refine sx_43 (y := p2) hx hb hK hP hD hS hI h_6 (by omega) (by omega) (by omega) ⟨by omega, by omega⟩ dX5_addFact_38 (fun v_8 H locs f_9 e_10 o_11 I_12 hP hD hS => ?_)
          refine lv_aload_n hx hb dX5_addFact_39 rfl (lv_at hl 0 rfl) ?_
          have h_13 : ok L K (v p0 2) 44 := xf_5_2 hI q0
          have h_14 : N (v p0 2) = 600 := xn_44 hI h_13
          refine gx_RX5_18 (y := v p0 2) hx hb hj hown hK hP q0 ((xf_5_2 I_12 q0).1) (fr_use q0 f_9 rfl) dX5_addFact_40 ?_
          refine lv_aload_n hx hb dX5_addFact_43 rfl (lv_at hl 0 rfl) ?_
          refine gx_RX5_49 (y := v p0 5) hx hb hj hown hK hP q0 (fr_use q0 f_9 rfl) dX5_addFact_44 ?_
          refine lv_iload_n hx hb dX5_addFact_47 rfl (lv_at hl 3 rfl) ?_
          refine sx_44 (y := p3) hx hb hK hP hD hS I_12 h_13 (by omega) (by omega) (by omega) ⟨by omega, by omega⟩ dX5_addFact_48 (fun v_15 H locs f_16 e_17 o_18 I_19 hP hD hS => ?_)
          refine lv_aload_n hx hb dX5_addFact_49 rfl (lv_at hl 0 rfl) ?_
          have h_20 : ok L K (v p0 3) 45 := xf_5_3 hI q0
          have h_21 : N (v p0 3) = 600 := xn_45 hI h_20
          refine gx_RX5_21 (y := v p0 3) hx hb hj hown hK hP q0 ((xf_5_3 I_19 q0).1) (((fr_use q0 f_16 rfl)).trans (fr_use q0 f_9 rfl)) dX5_addFact_50 ?_
          refine lv_aload_n hx hb dX5_addFact_53 rfl (lv_at hl 0 rfl) ?_
          refine gx_RX5_49 (y := v p0 5) hx hb hj hown hK hP q0 (((fr_use q0 f_16 rfl)).trans (fr_use q0 f_9 rfl)) dX5_addFact_54 ?_
          refine lv_iload hx hb dX5_addFact_57 (lv_at hl 4 rfl) ?_
          refine sx_45 (y := p4) hx hb hK hP hD hS I_19 h_20 (by omega) (by omega) (by omega) ⟨by omega, by omega⟩ dX5_addFact_59 (fun v_22 H locs f_23 e_24 o_25 I_26 hP hD hS => ?_)
          refine lv_aload_n hx hb dX5_addFact_60 rfl (lv_at hl 0 rfl) ?_
          have h_27 : ok L K (v p0 4) 46 := xf_5_4 hI q0
          have h_28 : N (v p0 4) = 600 := xn_46 hI h_27
          refine gx_RX5_24 (y := v p0 4) hx hb hj hown hK hP q0 ((xf_5_4 I_26 q0).1) (((fr_use q0 f_23 rfl)).trans (((fr_use q0 f_16 rfl)).trans (fr_use q0 f_9 rfl))) dX5_addFact_61 ?_
          refine lv_aload_n hx hb dX5_addFact_64 rfl (lv_at hl 0 rfl) ?_
          refine gx_RX5_49 (y := v p0 5) hx hb hj hown hK hP q0 (((fr_use q0 f_23 rfl)).trans (((fr_use q0 f_16 rfl)).trans (fr_use q0 f_9 rfl))) dX5_addFact_65 ?_
          refine lv_aload_n hx hb dX5_addFact_68 rfl (lv_at hl 0 rfl) ?_
          have h_29 : ok L K (v p0 0) 42 := xf_5_0 hI q0
          have h_30 : N (v p0 0) = 40 := xn_42 hI h_29
          refine gx_RX5_11 (y := v p0 0) hx hb hj hown hK hP q0 ((xf_5_0 I_26 q0).1) (((fr_use q0 f_23 rfl)).trans (((fr_use q0 f_16 rfl)).trans (fr_use q0 f_9 rfl))) dX5_addFact_69 ?_
          refine lv_iload_n hx hb dX5_addFact_72 rfl (lv_at hl 1 rfl) ?_
          have h_31 : (-2147483648) ≤ v (v p0 0) p1 ∧ v (v p0 0) p1 ≤ 2147483647 := xe_42 hI h_29 (by omega)
          refine ax_42 (y := v (v p0 0) p1) hx hb hK hP h_29 (by omega) (by omega) (by omega) (((fr_use h_29 f_23 rfl)).trans (((fr_use h_29 f_16 rfl)).trans (fr_use h_29 f_9 rfl))) dX5_addFact_73 ?_
          refine sx_46 (y := v (v p0 0) p1) hx hb hK hP hD hS I_26 h_27 (by omega) (by omega) (by omega) ⟨by omega, by omega⟩ dX5_addFact_74 (fun v_32 H locs f_33 e_34 o_35 I_36 hP hD hS => ?_)
          refine lv_aload_n hx hb dX5_addFact_75 rfl (lv_at hl 0 rfl) ?_
          refine gx_RX5_11 (y := v p0 0) hx hb hj hown hK hP q0 ((xf_5_0 I_36 q0).1) (((fr_use q0 f_33 rfl)).trans (((fr_use q0 f_23 rfl)).trans (((fr_use q0 f_16 rfl)).trans (fr_use q0 f_9 rfl)))) dX5_addFact_76 ?_
          refine lv_iload_n hx hb dX5_addFact_79 rfl (lv_at hl 1 rfl) ?_
          refine lv_aload_n hx hb dX5_addFact_80 rfl (lv_at hl 0 rfl) ?_
          refine gx_RX5_49 (y := v p0 5) hx hb hj hown hK hP q0 (((fr_use q0 f_33 rfl)).trans (((fr_use q0 f_23 rfl)).trans (((fr_use q0 f_16 rfl)).trans (fr_use q0 f_9 rfl)))) dX5_addFact_81 ?_
          refine sx_42 (y := v p0 5) hx hb hK hP hD hS I_36 h_29 (by omega) (by omega) (by omega) ⟨by omega, by omega⟩ dX5_addFact_84 (fun v_37 H locs f_38 e_39 o_40 I_41 hP hD hS => ?_)
          refine lv_aload_n hx hb dX5_addFact_85 rfl (lv_at hl 0 rfl) ?_
          refine lv_dup hx hb dX5_addFact_86 rfl ?_
          refine gx_RX5_49 (y := v p0 5) hx hb hj hown hK hP q0 (((fr_use q0 f_38 rfl)).trans (((fr_use q0 f_33 rfl)).trans (((fr_use q0 f_23 rfl)).trans (((fr_use q0 f_16 rfl)).trans (fr_use q0 f_9 rfl))))) dX5_addFact_87 ?_
          refine lv_iconst (v := iI 1) hx hb dX5_addFact_90 rfl ?_
          refine xr_add hx hb dX5_addFact_91 ?_
          refine xr_kept (fun z_42 h_43 h_44 => ?_)
          refine px_RX5_49 (y := z_42) hx hb hj hown hK hP hD hS I_41 q0 ⟨by omega, by omega⟩ dX5_addFact_92 (fun v_45 H locs f_46 e_47 o_48 I_49 hP hD hS => ?_)
          refine lv_iconst (v := iI 1) hx hb dX5_addFact_95 rfl ?_
          rw [← hQ]
          exact W.zret (v := iI 1) (ty := .boolean) hx hb hr (nb_bool (by omega) (by omega)) (fun t ht hW => ⟨⟨iI 1, v_45, rfl, ⟨1, rfl, I_49, (fr_tr f_46 rfl (fr_tr f_38 rfl (fr_tr f_33 rfl (fr_tr f_23 rfl (fr_tr f_16 rfl (fr_tr f_9 rfl fr_rf)))))), by omega⟩, by rw [ht]; exact hP, va_K.moved hW.alike hK, hD⟩, hS.F ht⟩) hS.2.2 dX5_addFact_96
        · refine lv_iconst (v := iI 0) hx hb dX5_addFact_27 rfl ?_
          rw [← hQ]
          exact W.zret (v := iI 0) (ty := .boolean) hx hb hr (nb_bool (by omega) (by omega)) (fun t ht hW => ⟨⟨iI 0, v, rfl, ⟨0, rfl, hI, fr_rf, by omega⟩, by rw [ht]; exact hP, va_K.moved hW.alike hK, hD⟩, hS.F ht⟩) hS.2.2 dX5_addFact_28
set_option maxHeartbeats 2000000 in
set_option maxRecDepth 100000 in
theorem sX5_tellOn (l : Launch) (dC : Nat → ClassId) (dI : Nat → Nat → Nat) (sz : Nat) (L : List Nat) (cid : Nat → ClassId) (K : Int → Nat) (N : Int → Int) (tW : Nat) (sK sV : Nat → Nat) (v : Int → Int → Int) (p0 : Int) (p1 : Int) (p2 : Int) (hI : xI L K N v) (q0 : ok L K p0 5) (q1 : rg p1) (q2 : rg p2) : Met l yX5_tellOn (jk yX5_tellOn cX5_tellOn 5 (some .int)) ({ frames := 0, cells := 0, slots := 0, locals := 0 }) (va_Pc [.ref p0.toNat, .int (iI p1), .int (iI p2)] (xP (dC, dI) (xG L cid K N v) (xT cid) tW sK sV sz)) (va_Qi (fun (r : Int32) (_ : Unit) => ∃ z : Int, r = iI z ∧ (rg z)) (fun _ _ => True) (va_A [] sz)) 0 0 (va_A [] sz) := by
  refine Met.ofW (cc := cX5_tellOn) (maxL := 5) (ret := (some .int)) (by decide) rfl ?_
  intro p e s m args below meth c s₁ B hml hv
  obtain ⟨rfl, ⟨hsz, hP, hK, hD0⟩, hX⟩ := hv
  have hx := B.exec
  have hb := B.bytes
  have hr := B.returns
  have hts := atoms_spec (ws := (jk yX5_tellOn cX5_tellOn 5 (some .int))) B.pre
  have hj : ∀ w ∈ jw, w.before ([.ref p0.toNat, .int (iI p1), .int (iI p2)] : List Value).toArray s = true := fun w h => hts w (jm h)
  have hown : s.vm.findClass RX5 = some m.cls := findClass_of_methodNamed B.named
  subst hsz
  have hDw := hD0.self (sz := s.heap.size)
  have hAA : ∀ q : Nat, s.heap.size ≤ q → va_A (xG L cid K N v) s.heap.size q := fun q h => Or.inr h
  have hAw : ∀ q, va_A [] s.heap.size q → va_A (xG L cid K N v) s.heap.size q := ja_nil va_S.rf hAA
  generalize hAe : (va_A [] s.heap.size) = A at hAw ⊢
  have hA : ∀ q : Nat, s.heap.size ≤ q → A q := fun q h => by rw [← hAe]; exact Or.inr h
  have hS : va_S A s.heap s.heap [] := va_S.rf
  have hXa := hX.nar hAw
  have hP : va_P (dC, dI) vwCl (xG L cid K N v) s.heap := hP
  have hl := lv_entry ([.ref p0.toNat, .int (iI p1), .int (iI p2)]) (n := 5) (Nat.le_of_ble_eq_true rfl)
  rw [lg_entry_eq]
  generalize (lg_sl ([.ref p0.toNat, .int (iI p1), .int (iI p2)]) ++ List.replicate (5 - (lg_sl ([.ref p0.toNat, .int (iI p1), .int (iI p2)])).length) Slot.unset).toArray = ls at hl ⊢
  have hl : lv_has ls 5 [(0, .ref p0.toNat), (1, .int (iI p1)), (2, .int (iI p2))] := hl
  generalize hQ : MQ below (va_Qi (fun (r : Int32) (_ : Unit) => ∃ z : Int, r = iI z ∧ (rg z)) (fun _ _ => True) A) ([.ref p0.toNat, .int (iI p1), .int (iI p2)] : List Value).toArray s 0 0 A = Q
  suffices ST : ∀ (H : Heap) (locs : List Loc), va_P (dC, dI) vwCl (xG L cid K N v) H → va_S A s.heap H locs → W p l e ({ frames := 0, cells := 0, slots := 0, locals := 0 }) s m ([.ref p0.toNat, .int (iI p1), .int (iI p2)] : List Value).toArray below meth c H locs 0 0 Q (F0 m 0 ls []) from ST _ _ hP hS
  clear hP hS
  intro H locs hP hS
  refine lv_iload_n hx hb dX5_tellOn_0 rfl (lv_at hl 1 rfl) ?_
  have J20 : ∀ (s0_20 : Int) (H : Heap) (locs : List Loc) (ls : Array Slot), ((-2147483648) ≤ s0_20 ∧ s0_20 ≤ 2147483647) → va_P (dC, dI) vwCl (xG L cid K N v) H → va_S A s.heap H locs → lv_has ls 5 [(0, .ref p0.toNat), (1, .int (iI p1)), (2, .int (iI p2))] → W p l e ({ frames := 0, cells := 0, slots := 0, locals := 0 }) s m ([.ref p0.toNat, .int (iI p1), .int (iI p2)] : List Value).toArray below meth c H locs 0 0 Q (F0 m 20 ls [.int (iI s0_20)]) := by
    intro s0_20 H locs ls h_1 hP hS hl
    refine lv_istore_n (lv' := [(3, .int (iI s0_20)), (0, .ref p0.toNat), (1, .int (iI p1)), (2, .int (iI p2))]) hx hb dX5_tellOn_20 rfl hl (by decide) rfl (fun ls hl => ?_)
    refine lv_iconst (v := iI 0) hx hb dX5_tellOn_21 rfl ?_
    refine lv_istore (lv' := [(4, .int (iI 0)), (3, .int (iI s0_20)), (0, .ref p0.toNat), (1, .int (iI p1)), (2, .int (iI p2))]) hx hb dX5_tellOn_22 hl (by decide) rfl (fun ls hl => ?_)
    have L24 : ∀ (n24 : Nat) (a4_24 a3_24 : Int) (H : Heap) (locs : List Loc) (ls : Array Slot), (0 ≤ a4_24 ∧ a4_24 ≤ 2147483647) → ((-2147483648) ≤ a3_24 ∧ a3_24 ≤ 2147483647) → (0 < (n24 : Int) ∧ 600 - a4_24 < (n24 : Int)) → va_P (dC, dI) vwCl (xG L cid K N v) H → va_S A s.heap H locs → lv_has ls 5 [(4, .int (iI a4_24)), (3, .int (iI a3_24)), (0, .ref p0.toNat), (1, .int (iI p1)), (2, .int (iI p2))] → W p l e ({ frames := 0, cells := 0, slots := 0, locals := 0 }) s m ([.ref p0.toNat, .int (iI p1), .int (iI p2)] : List Value).toArray below meth c H locs 0 0 Q (F0 m 24 ls []) := by
      intro n24
      induction n24 with
      | zero =>
        intro a4_24 a3_24 H locs ls h_2 h_3 hm24 hP hS hl
        exfalso; omega
      | succ n24 ih24 =>
        intro a4_24 a3_24 H locs ls h_4 h_5 hm24 hP hS hl
        refine lv_iload hx hb dX5_tellOn_24 (lv_at hl 0 rfl) ?_
        refine lv_sipush (v := iI 600) hx hb dX5_tellOn_26 rfl ?_
        refine xr_icmp_ge (tgt := 68) hx hb dX5_tellOn_29 (by decide) (by omega) (by omega) (fun h_6 => ?_) (fun h_6 => ?_)
        · refine lv_iconst (v := iI (-1)) hx hb dX5_tellOn_68 rfl ?_
          rw [← hQ]
          exact W.iret (v := iI (-1)) hx hb hr (fun t ht hW => ⟨⟨iI (-1), (), rfl, ⟨(-1), rfl, by omega⟩, trivial⟩, hS.F ht⟩) hS.2.2 dX5_tellOn_69
        · refine lv_iload_n hx hb dX5_tellOn_32 rfl (lv_at hl 1 rfl) ?_
          refine xr_if_lt (tgt := 68) hx hb dX5_tellOn_33 (by decide) (by omega) (fun h_7 => ?_) (fun h_7 => ?_)
          · refine lv_iconst (v := iI (-1)) hx hb dX5_tellOn_68 rfl ?_
            rw [← hQ]
            exact W.iret (v := iI (-1)) hx hb hr (fun t ht hW => ⟨⟨iI (-1), (), rfl, ⟨(-1), rfl, by omega⟩, trivial⟩, hS.F ht⟩) hS.2.2 dX5_tellOn_69
          · refine lv_iload_n hx hb dX5_tellOn_36 rfl (lv_at hl 1 rfl) ?_
            refine lv_sipush (v := iI 600) hx hb dX5_tellOn_37 rfl ?_
            refine xr_icmp_ge (tgt := 68) hx hb dX5_tellOn_40 (by decide) (by omega) (by omega) (fun h_8 => ?_) (fun h_8 => ?_)
            · refine lv_iconst (v := iI (-1)) hx hb dX5_tellOn_68 rfl ?_
              rw [← hQ]
              exact W.iret (v := iI (-1)) hx hb hr (fun t ht hW => ⟨⟨iI (-1), (), rfl, ⟨(-1), rfl, by omega⟩, trivial⟩, hS.F ht⟩) hS.2.2 dX5_tellOn_69
            · refine lv_aload_n hx hb dX5_tellOn_43 rfl (lv_at hl 2 rfl) ?_
              have h_9 : ok L K (v p0 3) 45 := xf_5_3 hI q0
              have h_10 : N (v p0 3) = 600 := xn_45 hI h_9
              refine gx_RX5_21 (y := v p0 3) hx hb hj hown hK hP q0 ((xf_5_3 hI q0).1) rfl dX5_tellOn_44 ?_
              refine lv_iload_n hx hb dX5_tellOn_47 rfl (lv_at hl 1 rfl) ?_
              have h_11 : (-2147483648) ≤ v (v p0 3) a3_24 ∧ v (v p0 3) a3_24 ≤ 2147483647 := xe_45 hI h_9 (by omega)
              refine ax_45 (y := v (v p0 3) a3_24) hx hb hK hP h_9 (by omega) (by omega) (by omega) rfl dX5_tellOn_48 ?_
              refine lv_iload_n hx hb dX5_tellOn_49 rfl (lv_at hl 4 rfl) ?_
              refine xr_icmp_gt (tgt := 55) hx hb dX5_tellOn_50 (by decide) (by omega) (by omega) (fun h_12 => ?_) (fun h_12 => ?_)
              · refine lv_aload_n hx hb dX5_tellOn_55 rfl (lv_at hl 2 rfl) ?_
                have h_13 : ok L K (v p0 4) 46 := xf_5_4 hI q0
                have h_14 : N (v p0 4) = 600 := xn_46 hI h_13
                refine gx_RX5_24 (y := v p0 4) hx hb hj hown hK hP q0 ((xf_5_4 hI q0).1) rfl dX5_tellOn_56 ?_
                refine lv_iload_n hx hb dX5_tellOn_59 rfl (lv_at hl 1 rfl) ?_
                have h_15 : (-2147483648) ≤ v (v p0 4) a3_24 ∧ v (v p0 4) a3_24 ≤ 2147483647 := xe_46 hI h_13 (by omega)
                refine ax_46 (y := v (v p0 4) a3_24) hx hb hK hP h_13 (by omega) (by omega) (by omega) rfl dX5_tellOn_60 ?_
                refine lv_istore_n (lv' := [(3, .int (iI (v (v p0 4) a3_24))), (4, .int (iI a4_24)), (0, .ref p0.toNat), (1, .int (iI p1)), (2, .int (iI p2))]) hx hb dX5_tellOn_61 rfl hl (by decide) rfl (fun ls hl => ?_)
                refine lv_iinc (v := iI (a4_24 + 1)) (lv' := [(4, .int (iI (a4_24 + 1))), (3, .int (iI (v (v p0 4) a3_24))), (0, .ref p0.toNat), (1, .int (iI p1)), (2, .int (iI p2))]) hx hb dX5_tellOn_62 hl (k := 1) rfl (iI_add _ _) (by decide) rfl (fun ls hl => ?_)
                refine lv_goto (tgt := 24) hx hb dX5_tellOn_65 (by decide) ?_
                exact ih24 (a4_24 + 1) (v (v p0 4) a3_24) H locs ls (by omega) (by omega) (by omega) hP hS hl
              · refine lv_iload_n hx hb dX5_tellOn_53 rfl (lv_at hl 1 rfl) ?_
                rw [← hQ]
                exact W.iret (v := iI a3_24) hx hb hr (fun t ht hW => ⟨⟨iI a3_24, (), rfl, ⟨a3_24, rfl, by omega⟩, trivial⟩, hS.F ht⟩) hS.2.2 dX5_tellOn_54
    exact L24 (((600 - 0 : Int)).toNat + 1) 0 s0_20 H locs ls (by omega) (by omega) (by omega) hP hS hl
  have J19 : ∀ (H : Heap) (locs : List Loc) (ls : Array Slot), va_P (dC, dI) vwCl (xG L cid K N v) H → va_S A s.heap H locs → lv_has ls 5 [(0, .ref p0.toNat), (1, .int (iI p1)), (2, .int (iI p2))] → W p l e ({ frames := 0, cells := 0, slots := 0, locals := 0 }) s m ([.ref p0.toNat, .int (iI p1), .int (iI p2)] : List Value).toArray below meth c H locs 0 0 Q (F0 m 19 ls []) := by
    intro H locs ls hP hS hl
    refine lv_iconst (v := iI (-1)) hx hb dX5_tellOn_19 rfl ?_
    exact J20 (-1) H locs ls (by omega) hP hS hl
  refine xr_if_lt (tgt := 19) hx hb dX5_tellOn_1 (by decide) (by omega) (fun h_16 => ?_) (fun h_16 => ?_)
  · exact J19 H locs ls hP hS hl
  · refine lv_iload_n hx hb dX5_tellOn_4 rfl (lv_at hl 1 rfl) ?_
    refine lv_bipush (v := iI 40) hx hb dX5_tellOn_5 rfl ?_
    refine xr_icmp_ge (tgt := 19) hx hb dX5_tellOn_7 (by decide) (by omega) (by omega) (fun h_17 => ?_) (fun h_17 => ?_)
    · exact J19 H locs ls hP hS hl
    · refine lv_aload_n hx hb dX5_tellOn_10 rfl (lv_at hl 0 rfl) ?_
      have h_18 : ok L K (v p0 0) 42 := xf_5_0 hI q0
      have h_19 : N (v p0 0) = 40 := xn_42 hI h_18
      refine gx_RX5_11 (y := v p0 0) hx hb hj hown hK hP q0 ((xf_5_0 hI q0).1) rfl dX5_tellOn_11 ?_
      refine lv_iload_n hx hb dX5_tellOn_14 rfl (lv_at hl 1 rfl) ?_
      have h_20 : (-2147483648) ≤ v (v p0 0) p1 ∧ v (v p0 0) p1 ≤ 2147483647 := xe_42 hI h_18 (by omega)
      refine ax_42 (y := v (v p0 0) p1) hx hb hK hP h_18 (by omega) (by omega) (by omega) rfl dX5_tellOn_15 ?_
      refine lv_goto (tgt := 20) hx hb dX5_tellOn_16 (by decide) ?_
      exact J20 (v (v p0 0) p1) H locs ls (by omega) hP hS hl
set_option maxHeartbeats 2000000 in
set_option maxRecDepth 100000 in
theorem sX5_valueOn (l : Launch) (dC : Nat → ClassId) (dI : Nat → Nat → Nat) (sz : Nat) (L : List Nat) (cid : Nat → ClassId) (K : Int → Nat) (N : Int → Int) (tW : Nat) (sK sV : Nat → Nat) (v : Int → Int → Int) (p0 : Int) (p1 : Int) (p2 : Int) (hI : xI L K N v) (q0 : ok L K p0 5) (q1 : rg p1) (q2 : rg p2) : Met l yX5_valueOn (jk yX5_valueOn cX5_valueOn 4 (some .int)) ({ frames := 1, cells := 0, slots := 0, locals := 24 }) (va_Pc [.ref p0.toNat, .int (iI p1), .int (iI p2)] (xP (dC, dI) (xG L cid K N v) (xT cid) tW sK sV sz)) (va_Qi (fun (r : Int32) (_ : Unit) => ∃ z : Int, r = iI z ∧ (rg z)) (fun _ _ => True) (va_A [] sz)) 0 0 (va_A [] sz) := by
  refine Met.ofW (cc := cX5_valueOn) (maxL := 4) (ret := (some .int)) (by decide) rfl ?_
  intro p e s m args below meth c s₁ B hml hv
  obtain ⟨rfl, ⟨hsz, hP, hK, hD0⟩, hX⟩ := hv
  have hx := B.exec
  have hb := B.bytes
  have hr := B.returns
  have hts := atoms_spec (ws := (jk yX5_valueOn cX5_valueOn 4 (some .int))) B.pre
  have hj : ∀ w ∈ jw, w.before ([.ref p0.toNat, .int (iI p1), .int (iI p2)] : List Value).toArray s = true := fun w h => hts w (jm h)
  have hown : s.vm.findClass RX5 = some m.cls := findClass_of_methodNamed B.named
  subst hsz
  have hDw := hD0.self (sz := s.heap.size)
  have hAA : ∀ q : Nat, s.heap.size ≤ q → va_A (xG L cid K N v) s.heap.size q := fun q h => Or.inr h
  have hAw : ∀ q, va_A [] s.heap.size q → va_A (xG L cid K N v) s.heap.size q := ja_nil va_S.rf hAA
  generalize hAe : (va_A [] s.heap.size) = A at hAw ⊢
  have hA : ∀ q : Nat, s.heap.size ≤ q → A q := fun q h => by rw [← hAe]; exact Or.inr h
  have hS : va_S A s.heap s.heap [] := va_S.rf
  have hXa := hX.nar hAw
  have hP : va_P (dC, dI) vwCl (xG L cid K N v) s.heap := hP
  have hl := lv_entry ([.ref p0.toNat, .int (iI p1), .int (iI p2)]) (n := 4) (Nat.le_of_ble_eq_true rfl)
  rw [lg_entry_eq]
  generalize (lg_sl ([.ref p0.toNat, .int (iI p1), .int (iI p2)]) ++ List.replicate (4 - (lg_sl ([.ref p0.toNat, .int (iI p1), .int (iI p2)])).length) Slot.unset).toArray = ls at hl ⊢
  have hl : lv_has ls 4 [(0, .ref p0.toNat), (1, .int (iI p1)), (2, .int (iI p2))] := hl
  generalize hQ : MQ below (va_Qi (fun (r : Int32) (_ : Unit) => ∃ z : Int, r = iI z ∧ (rg z)) (fun _ _ => True) A) ([.ref p0.toNat, .int (iI p1), .int (iI p2)] : List Value).toArray s 0 0 A = Q
  suffices ST : ∀ (H : Heap) (locs : List Loc), va_P (dC, dI) vwCl (xG L cid K N v) H → va_S A s.heap H locs → W p l e ({ frames := 1, cells := 0, slots := 0, locals := 24 }) s m ([.ref p0.toNat, .int (iI p1), .int (iI p2)] : List Value).toArray below meth c H locs 0 0 Q (F0 m 0 ls []) from ST _ _ hP hS
  clear hP hS
  intro H locs hP hS
  refine lv_aload_n hx hb dX5_valueOn_0 rfl (lv_at hl 0 rfl) ?_
  refine lv_iload_n hx hb dX5_valueOn_1 rfl (lv_at hl 1 rfl) ?_
  refine lv_iload_n hx hb dX5_valueOn_2 rfl (lv_at hl 2 rfl) ?_
  refine jc_i (va_runV (As := [.int (iI p1), .int (iI p2)]) (rest := []) ⟨hx, hb, hml, hown, hts⟩ (sX5_tellOn l dC dI _ L cid K N tW sK sV v p0 p1 p2 hI q0 (by omega) (by omega)) (cwV 2 hts (jgoodV m_915 m_916 m_917 m_918 m_919) rfl rfl rfl (by decide +kernel) ⟨(Nat.le_of_ble_eq_true rfl), (Nat.le_of_ble_eq_true rfl)⟩) ⟨xP_blind, xrecv hK hP q0 rfl rfl, fun U hU hW => ⟨rfl, xP_of hU hW hP hK hDw hX hS hAw hAA⟩⟩ rfl rfl hl.1 rfl (lv_room (Nat.le_of_ble_eq_true rfl)) dX5_valueOn_3 ⟨(Nat.le_of_ble_eq_true rfl), (Nat.le_of_ble_eq_true rfl)⟩) hP hS hA (fun r_1 H locs w_2 hP hS => ?_)
  obtain ⟨z_3, rfl, h_4⟩ := w_2
  refine lv_istore_n (lv' := [(3, .int (iI z_3)), (0, .ref p0.toNat), (1, .int (iI p1)), (2, .int (iI p2))]) hx hb dX5_valueOn_6 rfl hl (by decide) rfl (fun ls hl => ?_)
  refine lv_iload_n hx hb dX5_valueOn_7 rfl (lv_at hl 0 rfl) ?_
  refine xr_if_lt (tgt := 27) hx hb dX5_valueOn_8 (by decide) (by omega) (fun h_5 => ?_) (fun h_5 => ?_)
  · refine lv_iconst (v := iI (-1)) hx hb dX5_valueOn_27 rfl ?_
    rw [← hQ]
    exact W.iret (v := iI (-1)) hx hb hr (fun t ht hW => ⟨⟨iI (-1), (), rfl, ⟨(-1), rfl, by omega⟩, trivial⟩, hS.F ht⟩) hS.2.2 dX5_valueOn_28
  · refine lv_iload_n hx hb dX5_valueOn_11 rfl (lv_at hl 0 rfl) ?_
    refine lv_sipush (v := iI 600) hx hb dX5_valueOn_12 rfl ?_
    refine xr_icmp_ge (tgt := 27) hx hb dX5_valueOn_15 (by decide) (by omega) (by omega) (fun h_6 => ?_) (fun h_6 => ?_)
    · refine lv_iconst (v := iI (-1)) hx hb dX5_valueOn_27 rfl ?_
      rw [← hQ]
      exact W.iret (v := iI (-1)) hx hb hr (fun t ht hW => ⟨⟨iI (-1), (), rfl, ⟨(-1), rfl, by omega⟩, trivial⟩, hS.F ht⟩) hS.2.2 dX5_valueOn_28
    · refine lv_aload_n hx hb dX5_valueOn_18 rfl (lv_at hl 1 rfl) ?_
      have h_7 : ok L K (v p0 1) 43 := xf_5_1 hI q0
      have h_8 : N (v p0 1) = 600 := xn_43 hI h_7
      refine gx_RX5_15 (y := v p0 1) hx hb hj hown hK hP q0 ((xf_5_1 hI q0).1) rfl dX5_valueOn_19 ?_
      refine lv_iload_n hx hb dX5_valueOn_22 rfl (lv_at hl 0 rfl) ?_
      have h_9 : (-2147483648) ≤ v (v p0 1) z_3 ∧ v (v p0 1) z_3 ≤ 2147483647 := xe_43 hI h_7 (by omega)
      refine ax_43 (y := v (v p0 1) z_3) hx hb hK hP h_7 (by omega) (by omega) (by omega) rfl dX5_valueOn_23 ?_
      refine lv_goto (tgt := 28) hx hb dX5_valueOn_24 (by decide) ?_
      rw [← hQ]
      exact W.iret (v := iI (v (v p0 1) z_3)) hx hb hr (fun t ht hW => ⟨⟨iI (v (v p0 1) z_3), (), rfl, ⟨v (v p0 1) z_3, rfl, by omega⟩, trivial⟩, hS.F ht⟩) hS.2.2 dX5_valueOn_28
