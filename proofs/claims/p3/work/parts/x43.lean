set_option maxHeartbeats 2000000 in
set_option maxRecDepth 100000 in
theorem sX5_missedBy (l : Launch) (dC : Nat → ClassId) (dI : Nat → Nat → Nat) (sz : Nat) (L : List Nat) (cid : Nat → ClassId) (K : Int → Nat) (N : Int → Int) (tW : Nat) (sK sV : Nat → Nat) (v : Int → Int → Int) (p0 : Int) (p1 : Int) (hI : xI L K N v) (q0 : ok L K p0 5) (q1 : rg p1) : Met l yX5_missedBy (jk yX5_missedBy cX5_missedBy 2 (some .int)) ({ frames := 0, cells := 0, slots := 0, locals := 0 }) (va_Pc [.ref p0.toNat, .int (iI p1)] (xP (dC, dI) (xG L cid K N v) (xT cid) tW sK sV sz)) (va_Qi (fun (r : Int32) (_ : Unit) => ∃ z : Int, r = iI z ∧ (rg z)) (fun _ _ => True) (va_A [] sz)) 0 0 (va_A [] sz) := by
  refine Met.ofW (cc := cX5_missedBy) (maxL := 2) (ret := (some .int)) (by decide) rfl ?_
  intro p e s m args below meth c s₁ B hml hv
  obtain ⟨rfl, ⟨hsz, hP, hK, hD0⟩, hX⟩ := hv
  have hx := B.exec
  have hb := B.bytes
  have hr := B.returns
  have hts := atoms_spec (ws := (jk yX5_missedBy cX5_missedBy 2 (some .int))) B.pre
  have hj : ∀ w ∈ jw, w.before ([.ref p0.toNat, .int (iI p1)] : List Value).toArray s = true := fun w h => hts w (jm h)
  have hown : s.vm.findClass RX5 = some m.cls := findClass_of_methodNamed B.named
  subst hsz
  have hDw := hD0.self (sz := s.heap.size)
  have hAA : ∀ q : Nat, s.heap.size ≤ q → va_A (xG L cid K N v) s.heap.size q := fun q h => Or.inr h
  have hAw : ∀ q, va_A [] s.heap.size q → va_A (xG L cid K N v) s.heap.size q := ja_nil va_S.rf hAA
  generalize hAe : (va_A [] s.heap.size) = A at hAw ⊢
  have hA : ∀ q : Nat, s.heap.size ≤ q → A q := fun q h => by rw [← hAe]; exact Or.inr h
  have hS : va_S A s.heap s.heap [] := va_S.rf
  have hXa := hX.nar hAw
  have hP : va_P (dC, dI) vwCl (xG L cid K N v) s.heap := hP
  have hl := lv_entry ([.ref p0.toNat, .int (iI p1)]) (n := 2) (Nat.le_of_ble_eq_true rfl)
  rw [lg_entry_eq]
  generalize (lg_sl ([.ref p0.toNat, .int (iI p1)]) ++ List.replicate (2 - (lg_sl ([.ref p0.toNat, .int (iI p1)])).length) Slot.unset).toArray = ls at hl ⊢
  have hl : lv_has ls 2 [(0, .ref p0.toNat), (1, .int (iI p1))] := hl
  generalize hQ : MQ below (va_Qi (fun (r : Int32) (_ : Unit) => ∃ z : Int, r = iI z ∧ (rg z)) (fun _ _ => True) A) ([.ref p0.toNat, .int (iI p1)] : List Value).toArray s 0 0 A = Q
  suffices ST : ∀ (H : Heap) (locs : List Loc), va_P (dC, dI) vwCl (xG L cid K N v) H → va_S A s.heap H locs → W p l e ({ frames := 0, cells := 0, slots := 0, locals := 0 }) s m ([.ref p0.toNat, .int (iI p1)] : List Value).toArray below meth c H locs 0 0 Q (F0 m 0 ls []) from ST _ _ hP hS
  clear hP hS
  intro H locs hP hS
  refine lv_iload_n hx hb dX5_missedBy_0 rfl (lv_at hl 1 rfl) ?_
  refine xr_if_lt (tgt := 18) hx hb dX5_missedBy_1 (by decide) (by omega) (fun h_1 => ?_) (fun h_1 => ?_)
  · refine lv_iconst (v := iI (-1)) hx hb dX5_missedBy_18 rfl ?_
    rw [← hQ]
    exact W.iret (v := iI (-1)) hx hb hr (fun t ht hW => ⟨⟨iI (-1), (), rfl, ⟨(-1), rfl, by omega⟩, trivial⟩, hS.F ht⟩) hS.2.2 dX5_missedBy_19
  · refine lv_iload_n hx hb dX5_missedBy_4 rfl (lv_at hl 1 rfl) ?_
    refine lv_aload_n hx hb dX5_missedBy_5 rfl (lv_at hl 0 rfl) ?_
    have h_2 : (-2147483648) ≤ v p0 11 ∧ v p0 11 ≤ 2147483647 := xf_5_11 hI q0
    refine gx_RX5_57 (y := v p0 11) hx hb hj hown hK hP q0 rfl dX5_missedBy_6 ?_
    refine xr_icmp_ge (tgt := 18) hx hb dX5_missedBy_9 (by decide) (by omega) (by omega) (fun h_3 => ?_) (fun h_3 => ?_)
    · refine lv_iconst (v := iI (-1)) hx hb dX5_missedBy_18 rfl ?_
      rw [← hQ]
      exact W.iret (v := iI (-1)) hx hb hr (fun t ht hW => ⟨⟨iI (-1), (), rfl, ⟨(-1), rfl, by omega⟩, trivial⟩, hS.F ht⟩) hS.2.2 dX5_missedBy_19
    · refine lv_iload_n hx hb dX5_missedBy_12 rfl (lv_at hl 1 rfl) ?_
      refine lv_bipush (v := iI 60) hx hb dX5_missedBy_13 rfl ?_
      refine xr_icmp_lt (tgt := 20) hx hb dX5_missedBy_15 (by decide) (by omega) (by omega) (fun h_4 => ?_) (fun h_4 => ?_)
      · refine lv_aload_n hx hb dX5_missedBy_20 rfl (lv_at hl 0 rfl) ?_
        have h_5 : ok L K (v p0 10) 51 := xf_5_10 hI q0
        have h_6 : N (v p0 10) = 60 := xn_51 hI h_5
        refine gx_RX5_39 (y := v p0 10) hx hb hj hown hK hP q0 ((xf_5_10 hI q0).1) rfl dX5_missedBy_21 ?_
        refine lv_iload_n hx hb dX5_missedBy_24 rfl (lv_at hl 1 rfl) ?_
        have h_7 : 0 ≤ v (v p0 10) p1 ∧ v (v p0 10) p1 ≤ 1 := xe_51 hI h_5 (by omega)
        refine ax_51 (y := v (v p0 10) p1) hx hb hK hP h_5 (by omega) (by omega) (by omega) rfl dX5_missedBy_25 ?_
        refine xr_if_eq (tgt := 33) hx hb dX5_missedBy_26 (by decide) (by omega) (fun h_8 => ?_) (fun h_8 => ?_)
        · refine lv_iconst (v := iI 0) hx hb dX5_missedBy_33 rfl ?_
          rw [← hQ]
          exact W.iret (v := iI 0) hx hb hr (fun t ht hW => ⟨⟨iI 0, (), rfl, ⟨0, rfl, by omega⟩, trivial⟩, hS.F ht⟩) hS.2.2 dX5_missedBy_34
        · refine lv_iconst (v := iI 1) hx hb dX5_missedBy_29 rfl ?_
          refine lv_goto (tgt := 34) hx hb dX5_missedBy_30 (by decide) ?_
          rw [← hQ]
          exact W.iret (v := iI 1) hx hb hr (fun t ht hW => ⟨⟨iI 1, (), rfl, ⟨1, rfl, by omega⟩, trivial⟩, hS.F ht⟩) hS.2.2 dX5_missedBy_34
      · refine lv_iconst (v := iI (-1)) hx hb dX5_missedBy_18 rfl ?_
        rw [← hQ]
        exact W.iret (v := iI (-1)) hx hb hr (fun t ht hW => ⟨⟨iI (-1), (), rfl, ⟨(-1), rfl, by omega⟩, trivial⟩, hS.F ht⟩) hS.2.2 dX5_missedBy_19
set_option maxHeartbeats 2000000 in
set_option maxRecDepth 100000 in
theorem sX5_keptOn (l : Launch) (dC : Nat → ClassId) (dI : Nat → Nat → Nat) (sz : Nat) (L : List Nat) (cid : Nat → ClassId) (K : Int → Nat) (N : Int → Int) (tW : Nat) (sK sV : Nat → Nat) (v : Int → Int → Int) (p0 : Int) (p1 : Int) (p2 : Int) (p3 : Int) (hI : xI L K N v) (q0 : ok L K p0 5) (q1 : rg p1) (q2 : rg p2) (q3 : rg p3) : Met l yX5_keptOn (jk yX5_keptOn cX5_keptOn 6 (some .int)) ({ frames := 0, cells := 0, slots := 0, locals := 0 }) (va_Pc [.ref p0.toNat, .int (iI p1), .int (iI p2), .int (iI p3)] (xP (dC, dI) (xG L cid K N v) (xT cid) tW sK sV sz)) (va_Qi (fun (r : Int32) (_ : Unit) => ∃ z : Int, r = iI z ∧ (rg z)) (fun _ _ => True) (va_A [] sz)) 0 0 (va_A [] sz) := by
  refine Met.ofW (cc := cX5_keptOn) (maxL := 6) (ret := (some .int)) (by decide) rfl ?_
  intro p e s m args below meth c s₁ B hml hv
  obtain ⟨rfl, ⟨hsz, hP, hK, hD0⟩, hX⟩ := hv
  have hx := B.exec
  have hb := B.bytes
  have hr := B.returns
  have hts := atoms_spec (ws := (jk yX5_keptOn cX5_keptOn 6 (some .int))) B.pre
  have hj : ∀ w ∈ jw, w.before ([.ref p0.toNat, .int (iI p1), .int (iI p2), .int (iI p3)] : List Value).toArray s = true := fun w h => hts w (jm h)
  have hown : s.vm.findClass RX5 = some m.cls := findClass_of_methodNamed B.named
  subst hsz
  have hDw := hD0.self (sz := s.heap.size)
  have hAA : ∀ q : Nat, s.heap.size ≤ q → va_A (xG L cid K N v) s.heap.size q := fun q h => Or.inr h
  have hAw : ∀ q, va_A [] s.heap.size q → va_A (xG L cid K N v) s.heap.size q := ja_nil va_S.rf hAA
  generalize hAe : (va_A [] s.heap.size) = A at hAw ⊢
  have hA : ∀ q : Nat, s.heap.size ≤ q → A q := fun q h => by rw [← hAe]; exact Or.inr h
  have hS : va_S A s.heap s.heap [] := va_S.rf
  have hXa := hX.nar hAw
  have hP : va_P (dC, dI) vwCl (xG L cid K N v) s.heap := hP
  have hl := lv_entry ([.ref p0.toNat, .int (iI p1), .int (iI p2), .int (iI p3)]) (n := 6) (Nat.le_of_ble_eq_true rfl)
  rw [lg_entry_eq]
  generalize (lg_sl ([.ref p0.toNat, .int (iI p1), .int (iI p2), .int (iI p3)]) ++ List.replicate (6 - (lg_sl ([.ref p0.toNat, .int (iI p1), .int (iI p2), .int (iI p3)])).length) Slot.unset).toArray = ls at hl ⊢
  have hl : lv_has ls 6 [(0, .ref p0.toNat), (1, .int (iI p1)), (2, .int (iI p2)), (3, .int (iI p3))] := hl
  generalize hQ : MQ below (va_Qi (fun (r : Int32) (_ : Unit) => ∃ z : Int, r = iI z ∧ (rg z)) (fun _ _ => True) A) ([.ref p0.toNat, .int (iI p1), .int (iI p2), .int (iI p3)] : List Value).toArray s 0 0 A = Q
  suffices ST : ∀ (H : Heap) (locs : List Loc), va_P (dC, dI) vwCl (xG L cid K N v) H → va_S A s.heap H locs → W p l e ({ frames := 0, cells := 0, slots := 0, locals := 0 }) s m ([.ref p0.toNat, .int (iI p1), .int (iI p2), .int (iI p3)] : List Value).toArray below meth c H locs 0 0 Q (F0 m 0 ls []) from ST _ _ hP hS
  clear hP hS
  intro H locs hP hS
  refine lv_iload_n hx hb dX5_keptOn_0 rfl (lv_at hl 2 rfl) ?_
  refine lv_istore (i := 4) (lv' := [(4, .int (iI p2)), (0, .ref p0.toNat), (1, .int (iI p1)), (2, .int (iI p2)), (3, .int (iI p3))]) hx hb dX5_keptOn_1 hl (by decide) rfl (fun ls hl => ?_)
  refine lv_iconst (v := iI 0) hx hb dX5_keptOn_3 rfl ?_
  refine lv_istore (i := 5) (lv' := [(5, .int (iI 0)), (4, .int (iI p2)), (0, .ref p0.toNat), (1, .int (iI p1)), (2, .int (iI p2)), (3, .int (iI p3))]) hx hb dX5_keptOn_4 hl (by decide) rfl (fun ls hl => ?_)
  have L6 : ∀ (n6 : Nat) (a5_6 a4_6 : Int) (H : Heap) (locs : List Loc) (ls : Array Slot), (0 ≤ a5_6 ∧ a5_6 ≤ 2147483647) → ((-2147483648) ≤ a4_6 ∧ a4_6 ≤ 2147483647) → (0 < (n6 : Int) ∧ (v p0 11) - a5_6 < (n6 : Int)) → va_P (dC, dI) vwCl (xG L cid K N v) H → va_S A s.heap H locs → lv_has ls 6 [(5, .int (iI a5_6)), (4, .int (iI a4_6)), (0, .ref p0.toNat), (1, .int (iI p1)), (2, .int (iI p2)), (3, .int (iI p3))] → W p l e ({ frames := 0, cells := 0, slots := 0, locals := 0 }) s m ([.ref p0.toNat, .int (iI p1), .int (iI p2), .int (iI p3)] : List Value).toArray below meth c H locs 0 0 Q (F0 m 6 ls []) := by
    intro n6
    induction n6 with
    | zero =>
      intro a5_6 a4_6 H locs ls h_1 h_2 hm6 hP hS hl
      exfalso; omega
    | succ n6 ih6 =>
      intro a5_6 a4_6 H locs ls h_3 h_4 hm6 hP hS hl
      refine lv_iload hx hb dX5_keptOn_6 (lv_at hl 0 rfl) ?_
      refine lv_aload_n hx hb dX5_keptOn_8 rfl (lv_at hl 2 rfl) ?_
      have h_5 : (-2147483648) ≤ v p0 11 ∧ v p0 11 ≤ 2147483647 := xf_5_11 hI q0
      refine gx_RX5_57 (y := v p0 11) hx hb hj hown hK hP q0 rfl dX5_keptOn_9 ?_
      refine xr_icmp_ge (tgt := 71) hx hb dX5_keptOn_12 (by decide) (by omega) (by omega) (fun h_6 => ?_) (fun h_6 => ?_)
      · refine lv_iload hx hb dX5_keptOn_71 (lv_at hl 1 rfl) ?_
        rw [← hQ]
        exact W.iret (v := iI a4_6) hx hb hr (fun t ht hW => ⟨⟨iI a4_6, (), rfl, ⟨a4_6, rfl, by omega⟩, trivial⟩, hS.F ht⟩) hS.2.2 dX5_keptOn_73
      · refine lv_iload hx hb dX5_keptOn_15 (lv_at hl 0 rfl) ?_
        refine lv_bipush (v := iI 60) hx hb dX5_keptOn_17 rfl ?_
        refine xr_icmp_ge (tgt := 71) hx hb dX5_keptOn_19 (by decide) (by omega) (by omega) (fun h_7 => ?_) (fun h_7 => ?_)
        · refine lv_iload hx hb dX5_keptOn_71 (lv_at hl 1 rfl) ?_
          rw [← hQ]
          exact W.iret (v := iI a4_6) hx hb hr (fun t ht hW => ⟨⟨iI a4_6, (), rfl, ⟨a4_6, rfl, by omega⟩, trivial⟩, hS.F ht⟩) hS.2.2 dX5_keptOn_73
        · refine lv_aload_n hx hb dX5_keptOn_22 rfl (lv_at hl 2 rfl) ?_
          have h_8 : ok L K (v p0 6) 47 := xf_5_6 hI q0
          have h_9 : N (v p0 6) = 60 := xn_47 hI h_8
          refine gx_RX5_27 (y := v p0 6) hx hb hj hown hK hP q0 ((xf_5_6 hI q0).1) rfl dX5_keptOn_23 ?_
          refine lv_iload hx hb dX5_keptOn_26 (lv_at hl 0 rfl) ?_
          have h_10 : (-2147483648) ≤ v (v p0 6) a5_6 ∧ v (v p0 6) a5_6 ≤ 2147483647 := xe_47 hI h_8 (by omega)
          refine ax_47 (y := v (v p0 6) a5_6) hx hb hK hP h_8 (by omega) (by omega) (by omega) rfl dX5_keptOn_28 ?_
          refine lv_iload_n hx hb dX5_keptOn_29 rfl (lv_at hl 3 rfl) ?_
          have J65 : ∀ (a4_65 : Int) (H : Heap) (locs : List Loc) (ls : Array Slot), ((-2147483648) ≤ a4_65 ∧ a4_65 ≤ 2147483647) → va_P (dC, dI) vwCl (xG L cid K N v) H → va_S A s.heap H locs → lv_has ls 6 [(5, .int (iI a5_6)), (4, .int (iI a4_65)), (0, .ref p0.toNat), (1, .int (iI p1)), (2, .int (iI p2)), (3, .int (iI p3))] → W p l e ({ frames := 0, cells := 0, slots := 0, locals := 0 }) s m ([.ref p0.toNat, .int (iI p1), .int (iI p2), .int (iI p3)] : List Value).toArray below meth c H locs 0 0 Q (F0 m 65 ls []) := by
            intro a4_65 H locs ls h_11 hP hS hl
            refine lv_iinc (v := iI (a5_6 + 1)) (lv' := [(5, .int (iI (a5_6 + 1))), (4, .int (iI a4_65)), (0, .ref p0.toNat), (1, .int (iI p1)), (2, .int (iI p2)), (3, .int (iI p3))]) hx hb dX5_keptOn_65 hl (k := 0) rfl (iI_add _ _) (by decide) rfl (fun ls hl => ?_)
            refine lv_goto (tgt := 6) hx hb dX5_keptOn_68 (by decide) ?_
            exact ih6 (a5_6 + 1) a4_65 H locs ls (by omega) (by omega) (by omega) hP hS hl
          refine xr_icmp_ne (tgt := 65) hx hb dX5_keptOn_30 (by decide) (by omega) (by omega) (fun h_12 => ?_) (fun h_12 => ?_)
          · exact J65 a4_6 H locs ls (by omega) hP hS hl
          · refine lv_aload_n hx hb dX5_keptOn_33 rfl (lv_at hl 2 rfl) ?_
            have h_13 : ok L K (v p0 9) 50 := xf_5_9 hI q0
            have h_14 : N (v p0 9) = 60 := xn_50 hI h_13
            refine gx_RX5_36 (y := v p0 9) hx hb hj hown hK hP q0 ((xf_5_9 hI q0).1) rfl dX5_keptOn_34 ?_
            refine lv_iload hx hb dX5_keptOn_37 (lv_at hl 0 rfl) ?_
            have h_15 : (-2147483648) ≤ v (v p0 9) a5_6 ∧ v (v p0 9) a5_6 ≤ 2147483647 := xe_50 hI h_13 (by omega)
            refine ax_50 (y := v (v p0 9) a5_6) hx hb hK hP h_13 (by omega) (by omega) (by omega) rfl dX5_keptOn_39 ?_
            refine lv_iload_n hx hb dX5_keptOn_40 rfl (lv_at hl 5 rfl) ?_
            refine xr_icmp_gt (tgt := 65) hx hb dX5_keptOn_41 (by decide) (by omega) (by omega) (fun h_16 => ?_) (fun h_16 => ?_)
            · exact J65 a4_6 H locs ls (by omega) hP hS hl
            · refine lv_aload_n hx hb dX5_keptOn_44 rfl (lv_at hl 2 rfl) ?_
              have h_17 : ok L K (v p0 7) 48 := xf_5_7 hI q0
              have h_18 : N (v p0 7) = 60 := xn_48 hI h_17
              refine gx_RX5_30 (y := v p0 7) hx hb hj hown hK hP q0 ((xf_5_7 hI q0).1) rfl dX5_keptOn_45 ?_
              refine lv_iload hx hb dX5_keptOn_48 (lv_at hl 0 rfl) ?_
              have h_19 : (-2147483648) ≤ v (v p0 7) a5_6 ∧ v (v p0 7) a5_6 ≤ 2147483647 := xe_48 hI h_17 (by omega)
              refine ax_48 (y := v (v p0 7) a5_6) hx hb hK hP h_17 (by omega) (by omega) (by omega) rfl dX5_keptOn_50 ?_
              refine lv_iload hx hb dX5_keptOn_51 (lv_at hl 1 rfl) ?_
              refine xr_icmp_ne (tgt := 65) hx hb dX5_keptOn_53 (by decide) (by omega) (by omega) (fun h_20 => ?_) (fun h_20 => ?_)
              · exact J65 a4_6 H locs ls (by omega) hP hS hl
              · refine lv_aload_n hx hb dX5_keptOn_56 rfl (lv_at hl 2 rfl) ?_
                have h_21 : ok L K (v p0 8) 49 := xf_5_8 hI q0
                have h_22 : N (v p0 8) = 60 := xn_49 hI h_21
                refine gx_RX5_33 (y := v p0 8) hx hb hj hown hK hP q0 ((xf_5_8 hI q0).1) rfl dX5_keptOn_57 ?_
                refine lv_iload hx hb dX5_keptOn_60 (lv_at hl 0 rfl) ?_
                have h_23 : (-2147483648) ≤ v (v p0 8) a5_6 ∧ v (v p0 8) a5_6 ≤ 2147483647 := xe_49 hI h_21 (by omega)
                refine ax_49 (y := v (v p0 8) a5_6) hx hb hK hP h_21 (by omega) (by omega) (by omega) rfl dX5_keptOn_62 ?_
                refine lv_istore (i := 4) (lv' := [(4, .int (iI (v (v p0 8) a5_6))), (5, .int (iI a5_6)), (0, .ref p0.toNat), (1, .int (iI p1)), (2, .int (iI p2)), (3, .int (iI p3))]) hx hb dX5_keptOn_63 hl (by decide) rfl (fun ls hl => ?_)
                exact J65 (v (v p0 8) a5_6) H locs ls (by omega) hP hS (lv_sub hl [1, 0, 2, 3, 4, 5] rfl)
  exact L6 ((((v p0 11) - 0 : Int)).toNat + 1) 0 p2 H locs ls (by omega) (by omega) (by omega) hP hS hl
set_option maxHeartbeats 2000000 in
set_option maxRecDepth 100000 in
theorem sX8_sheetOfPut (l : Launch) (dC : Nat → ClassId) (dI : Nat → Nat → Nat) (sz : Nat) (L : List Nat) (cid : Nat → ClassId) (K : Int → Nat) (N : Int → Int) (tW : Nat) (sK sV : Nat → Nat) (v : Int → Int → Int) (p0 : Int) (p1 : Int) (p2 : Int) (p3 : Int) (hI : xI L K N v) (q0 : ok L K p0 8) (q1 : rg p1) (q2 : rg p2) (q3 : rg p3) : Met l yX8_sheetOfPut (jk yX8_sheetOfPut cX8_sheetOfPut 6 (some (.object "BookOfAll$Sheet"))) ({ frames := 0, cells := 0, slots := 0, locals := 0 }) (va_Pc [.ref p0.toNat, .int (iI p1), .int (iI p2), .int (iI p3)] (xP (dC, dI) (xG L cid K N v) (xT cid) tW sK sV sz)) (va_Qq (fun (r : Option Nat) (_ : Unit) => ∃ z : Int, r = opt z ∧ (z < 0 ∨ ok L K z 9)) (fun _ _ => True) (va_A [] sz)) 0 0 (va_A [] sz) := by
  refine Met.ofW (cc := cX8_sheetOfPut) (maxL := 6) (ret := (some (.object "BookOfAll$Sheet"))) (by decide) rfl ?_
  intro p e s m args below meth c s₁ B hml hv
  obtain ⟨rfl, ⟨hsz, hP, hK, hD0⟩, hX⟩ := hv
  have hx := B.exec
  have hb := B.bytes
  have hr := B.returns
  have hts := atoms_spec (ws := (jk yX8_sheetOfPut cX8_sheetOfPut 6 (some (.object "BookOfAll$Sheet")))) B.pre
  have hj : ∀ w ∈ jw, w.before ([.ref p0.toNat, .int (iI p1), .int (iI p2), .int (iI p3)] : List Value).toArray s = true := fun w h => hts w (jm h)
  have hown : s.vm.findClass RX8 = some m.cls := findClass_of_methodNamed B.named
  subst hsz
  have hDw := hD0.self (sz := s.heap.size)
  have hAA : ∀ q : Nat, s.heap.size ≤ q → va_A (xG L cid K N v) s.heap.size q := fun q h => Or.inr h
  have hAw : ∀ q, va_A [] s.heap.size q → va_A (xG L cid K N v) s.heap.size q := ja_nil va_S.rf hAA
  generalize hAe : (va_A [] s.heap.size) = A at hAw ⊢
  have hA : ∀ q : Nat, s.heap.size ≤ q → A q := fun q h => by rw [← hAe]; exact Or.inr h
  have hS : va_S A s.heap s.heap [] := va_S.rf
  have hXa := hX.nar hAw
  have hP : va_P (dC, dI) vwCl (xG L cid K N v) s.heap := hP
  have hl := lv_entry ([.ref p0.toNat, .int (iI p1), .int (iI p2), .int (iI p3)]) (n := 6) (Nat.le_of_ble_eq_true rfl)
  rw [lg_entry_eq]
  generalize (lg_sl ([.ref p0.toNat, .int (iI p1), .int (iI p2), .int (iI p3)]) ++ List.replicate (6 - (lg_sl ([.ref p0.toNat, .int (iI p1), .int (iI p2), .int (iI p3)])).length) Slot.unset).toArray = ls at hl ⊢
  have hl : lv_has ls 6 [(0, .ref p0.toNat), (1, .int (iI p1)), (2, .int (iI p2)), (3, .int (iI p3))] := hl
  generalize hQ : MQ below (va_Qq (fun (r : Option Nat) (_ : Unit) => ∃ z : Int, r = opt z ∧ (z < 0 ∨ ok L K z 9)) (fun _ _ => True) A) ([.ref p0.toNat, .int (iI p1), .int (iI p2), .int (iI p3)] : List Value).toArray s 0 0 A = Q
  suffices ST : ∀ (H : Heap) (locs : List Loc), va_P (dC, dI) vwCl (xG L cid K N v) H → va_S A s.heap H locs → W p l e ({ frames := 0, cells := 0, slots := 0, locals := 0 }) s m ([.ref p0.toNat, .int (iI p1), .int (iI p2), .int (iI p3)] : List Value).toArray below meth c H locs 0 0 Q (F0 m 0 ls []) from ST _ _ hP hS
  clear hP hS
  intro H locs hP hS
  refine lv_iload_n hx hb dX8_sheetOfPut_0 rfl (lv_at hl 1 rfl) ?_
  refine xr_if_lt (tgt := 28) hx hb dX8_sheetOfPut_1 (by decide) (by omega) (fun h_1 => ?_) (fun h_1 => ?_)
  · refine lv_null hx hb dX8_sheetOfPut_28 ?_
    refine jt_q (rv (-1)) rv_nul ?_
    rw [← hQ]
    exact W.aret (v := rv (-1)) hx hb hr (Or.inl ⟨_, rfl⟩) (rv_or (-1)) (fun t ht hW => ⟨⟨opt (-1), (), rfl, ⟨-1, rfl, (Or.inl (by decide))⟩, trivial⟩, hS.F ht⟩) hS.2.2 dX8_sheetOfPut_29
  · refine lv_iload_n hx hb dX8_sheetOfPut_4 rfl (lv_at hl 1 rfl) ?_
    refine lv_aload_n hx hb dX8_sheetOfPut_5 rfl (lv_at hl 0 rfl) ?_
    have h_2 : 0 ≤ v p0 5 ∧ v p0 5 ≤ 20 := xf_8_5 hI q0
    refine gx_RX8_37 (y := v p0 5) hx hb hj hown hK hP q0 rfl dX8_sheetOfPut_6 ?_
    refine xr_icmp_ge (tgt := 28) hx hb dX8_sheetOfPut_9 (by decide) (by omega) (by omega) (fun h_3 => ?_) (fun h_3 => ?_)
    · refine lv_null hx hb dX8_sheetOfPut_28 ?_
      refine jt_q (rv (-1)) rv_nul ?_
      rw [← hQ]
      exact W.aret (v := rv (-1)) hx hb hr (Or.inl ⟨_, rfl⟩) (rv_or (-1)) (fun t ht hW => ⟨⟨opt (-1), (), rfl, ⟨-1, rfl, (Or.inl (by decide))⟩, trivial⟩, hS.F ht⟩) hS.2.2 dX8_sheetOfPut_29
    · refine lv_iload_n hx hb dX8_sheetOfPut_12 rfl (lv_at hl 1 rfl) ?_
      refine lv_bipush (v := iI 20) hx hb dX8_sheetOfPut_13 rfl ?_
      refine xr_icmp_ge (tgt := 28) hx hb dX8_sheetOfPut_15 (by decide) (by omega) (by omega) (fun h_4 => ?_) (fun h_4 => ?_)
      · exfalso; omega
      · refine lv_aload_n hx hb dX8_sheetOfPut_18 rfl (lv_at hl 0 rfl) ?_
        have h_5 : ok L K (v p0 4) 32 := xf_8_4 hI q0
        have h_6 : N (v p0 4) = 20 := xn_32 hI h_5
        refine gx_RX8_24 (y := v p0 4) hx hb hj hown hK hP q0 ((xf_8_4 hI q0).1) rfl dX8_sheetOfPut_19 ?_
        refine lv_iload_n hx hb dX8_sheetOfPut_22 rfl (lv_at hl 1 rfl) ?_
        have h_7 : (-2147483648) ≤ v (v p0 4) p1 ∧ v (v p0 4) p1 ≤ 2147483647 := xe_32 hI h_5 (by omega)
        refine ax_32 (y := v (v p0 4) p1) hx hb hK hP h_5 (by omega) (by omega) (by omega) rfl dX8_sheetOfPut_23 ?_
        refine lv_iload_n hx hb dX8_sheetOfPut_24 rfl (lv_at hl 3 rfl) ?_
        refine xr_icmp_le (tgt := 30) hx hb dX8_sheetOfPut_25 (by decide) (by omega) (by omega) (fun h_8 => ?_) (fun h_8 => ?_)
        · refine lv_aload_n hx hb dX8_sheetOfPut_30 rfl (lv_at hl 0 rfl) ?_
          have h_9 : ok L K (v p0 3) 31 := xf_8_3 hI q0
          have h_10 : N (v p0 3) = 20 := xn_31 hI h_9
          refine gx_RX8_21 (y := v p0 3) hx hb hj hown hK hP q0 ((xf_8_3 hI q0).1) rfl dX8_sheetOfPut_31 ?_
          refine lv_iload_n hx hb dX8_sheetOfPut_34 rfl (lv_at hl 1 rfl) ?_
          have h_11 : (-2147483648) ≤ v (v p0 3) p1 ∧ v (v p0 3) p1 ≤ 2147483647 := xe_31 hI h_9 (by omega)
          refine ax_31 (y := v (v p0 3) p1) hx hb hK hP h_9 (by omega) (by omega) (by omega) rfl dX8_sheetOfPut_35 ?_
          refine lv_iconst (v := iI (-1)) hx hb dX8_sheetOfPut_36 rfl ?_
          have J55 : ∀ (s0_55 : Int) (H : Heap) (locs : List Loc) (ls : Array Slot), (0 ≤ s0_55 ∧ s0_55 ≤ 1) → va_P (dC, dI) vwCl (xG L cid K N v) H → va_S A s.heap H locs → lv_has ls 6 [(0, .ref p0.toNat), (1, .int (iI p1)), (2, .int (iI p2)), (3, .int (iI p3))] → W p l e ({ frames := 0, cells := 0, slots := 0, locals := 0 }) s m ([.ref p0.toNat, .int (iI p1), .int (iI p2), .int (iI p3)] : List Value).toArray below meth c H locs 0 0 Q (F0 m 55 ls [.int (iI s0_55)]) := by
            intro s0_55 H locs ls h_12 hP hS hl
            refine lv_istore (i := 4) (lv' := [(4, .int (iI s0_55)), (0, .ref p0.toNat), (1, .int (iI p1)), (2, .int (iI p2)), (3, .int (iI p3))]) hx hb dX8_sheetOfPut_55 hl (by decide) rfl (fun ls hl => ?_)
            refine lv_aload_n hx hb dX8_sheetOfPut_57 rfl (lv_at hl 1 rfl) ?_
            have h_13 : ok L K (v p0 2) 30 := xf_8_2 hI q0
            have h_14 : N (v p0 2) = 20 := xn_30 hI h_13
            refine gx_RX8_17 (y := v p0 2) hx hb hj hown hK hP q0 ((xf_8_2 hI q0).1) rfl dX8_sheetOfPut_58 ?_
            refine lv_iload_n hx hb dX8_sheetOfPut_61 rfl (lv_at hl 2 rfl) ?_
            have h_15 : (-2147483648) ≤ v (v p0 2) p1 ∧ v (v p0 2) p1 ≤ 2147483647 := xe_30 hI h_13 (by omega)
            refine ax_30 (y := v (v p0 2) p1) hx hb hK hP h_13 (by omega) (by omega) (by omega) rfl dX8_sheetOfPut_62 ?_
            refine lv_istore (i := 5) (lv' := [(5, .int (iI (v (v p0 2) p1))), (4, .int (iI s0_55)), (0, .ref p0.toNat), (1, .int (iI p1)), (2, .int (iI p2)), (3, .int (iI p3))]) hx hb dX8_sheetOfPut_63 hl (by decide) rfl (fun ls hl => ?_)
            refine lv_iload hx hb dX8_sheetOfPut_65 (lv_at hl 1 rfl) ?_
            refine xr_if_eq (tgt := 92) hx hb dX8_sheetOfPut_67 (by decide) (by omega) (fun h_16 => ?_) (fun h_16 => ?_)
            · refine lv_null hx hb dX8_sheetOfPut_92 ?_
              refine jt_q (rv (-1)) rv_nul ?_
              rw [← hQ]
              exact W.aret (v := rv (-1)) hx hb hr (Or.inl ⟨_, rfl⟩) (rv_or (-1)) (fun t ht hW => ⟨⟨opt (-1), (), rfl, ⟨-1, rfl, (Or.inl (by decide))⟩, trivial⟩, hS.F ht⟩) hS.2.2 dX8_sheetOfPut_93
            · refine lv_iload hx hb dX8_sheetOfPut_70 (lv_at hl 0 rfl) ?_
              refine xr_if_lt (tgt := 92) hx hb dX8_sheetOfPut_72 (by decide) (by omega) (fun h_17 => ?_) (fun h_17 => ?_)
              · refine lv_null hx hb dX8_sheetOfPut_92 ?_
                refine jt_q (rv (-1)) rv_nul ?_
                rw [← hQ]
                exact W.aret (v := rv (-1)) hx hb hr (Or.inl ⟨_, rfl⟩) (rv_or (-1)) (fun t ht hW => ⟨⟨opt (-1), (), rfl, ⟨-1, rfl, (Or.inl (by decide))⟩, trivial⟩, hS.F ht⟩) hS.2.2 dX8_sheetOfPut_93
              · refine lv_iload hx hb dX8_sheetOfPut_75 (lv_at hl 0 rfl) ?_
                refine lv_bipush (v := iI 12) hx hb dX8_sheetOfPut_77 rfl ?_
                refine xr_icmp_ge (tgt := 92) hx hb dX8_sheetOfPut_79 (by decide) (by omega) (by omega) (fun h_18 => ?_) (fun h_18 => ?_)
                · refine lv_null hx hb dX8_sheetOfPut_92 ?_
                  refine jt_q (rv (-1)) rv_nul ?_
                  rw [← hQ]
                  exact W.aret (v := rv (-1)) hx hb hr (Or.inl ⟨_, rfl⟩) (rv_or (-1)) (fun t ht hW => ⟨⟨opt (-1), (), rfl, ⟨-1, rfl, (Or.inl (by decide))⟩, trivial⟩, hS.F ht⟩) hS.2.2 dX8_sheetOfPut_93
                · refine lv_aload_n hx hb dX8_sheetOfPut_82 rfl (lv_at hl 2 rfl) ?_
                  have h_19 : ok L K (v p0 0) 29 := xf_8_0 hI q0
                  have h_20 : N (v p0 0) = 12 := xn_29 hI h_19
                  refine gx_RX8_13 (y := v p0 0) hx hb hj hown hK hP q0 ((xf_8_0 hI q0).1) rfl dX8_sheetOfPut_83 ?_
                  refine lv_iload hx hb dX8_sheetOfPut_86 (lv_at hl 0 rfl) ?_
                  have h_21 : v (v p0 0) (v (v p0 2) p1) < 0 ∨ ok L K (v (v p0 0) (v (v p0 2) p1)) 9 := xe_29 hI h_19 (by omega)
                  refine ax_29 (y := v (v p0 0) (v (v p0 2) p1)) hx hb hK hP h_19 (by omega) (by omega) (by omega) rfl dX8_sheetOfPut_88 ?_
                  refine lv_goto (tgt := 93) hx hb dX8_sheetOfPut_89 (by decide) ?_
                  rw [← hQ]
                  exact W.aret (v := rv (v (v p0 0) (v (v p0 2) p1))) hx hb hr (Or.inl ⟨_, rfl⟩) (rv_or (v (v p0 0) (v (v p0 2) p1))) (fun t ht hW => ⟨⟨opt (v (v p0 0) (v (v p0 2) p1)), (), rfl, ⟨v (v p0 0) (v (v p0 2) p1), rfl, h_21⟩, trivial⟩, hS.F ht⟩) hS.2.2 dX8_sheetOfPut_93
          have J50 : ∀ (H : Heap) (locs : List Loc) (ls : Array Slot), va_P (dC, dI) vwCl (xG L cid K N v) H → va_S A s.heap H locs → lv_has ls 6 [(0, .ref p0.toNat), (1, .int (iI p1)), (2, .int (iI p2)), (3, .int (iI p3))] → W p l e ({ frames := 0, cells := 0, slots := 0, locals := 0 }) s m ([.ref p0.toNat, .int (iI p1), .int (iI p2), .int (iI p3)] : List Value).toArray below meth c H locs 0 0 Q (F0 m 50 ls []) := by
            intro H locs ls hP hS hl
            refine lv_iconst (v := iI 1) hx hb dX8_sheetOfPut_50 rfl ?_
            refine lv_goto (tgt := 55) hx hb dX8_sheetOfPut_51 (by decide) ?_
            exact J55 1 H locs ls (by omega) hP hS hl
          refine xr_icmp_eq (tgt := 50) hx hb dX8_sheetOfPut_37 (by decide) (by omega) (by omega) (fun h_22 => ?_) (fun h_22 => ?_)
          · exact J50 H locs ls hP hS hl
          · refine lv_aload_n hx hb dX8_sheetOfPut_40 rfl (lv_at hl 0 rfl) ?_
            refine gx_RX8_21 (y := v p0 3) hx hb hj hown hK hP q0 ((xf_8_3 hI q0).1) rfl dX8_sheetOfPut_41 ?_
            refine lv_iload_n hx hb dX8_sheetOfPut_44 rfl (lv_at hl 1 rfl) ?_
            refine ax_31 (y := v (v p0 3) p1) hx hb hK hP h_9 (by omega) (by omega) (by omega) rfl dX8_sheetOfPut_45 ?_
            refine lv_iload_n hx hb dX8_sheetOfPut_46 rfl (lv_at hl 2 rfl) ?_
            refine xr_icmp_ne (tgt := 54) hx hb dX8_sheetOfPut_47 (by decide) (by omega) (by omega) (fun h_23 => ?_) (fun h_23 => ?_)
            · refine lv_iconst (v := iI 0) hx hb dX8_sheetOfPut_54 rfl ?_
              exact J55 0 H locs ls (by omega) hP hS hl
            · exact J50 H locs ls hP hS hl
        · refine lv_null hx hb dX8_sheetOfPut_28 ?_
          refine jt_q (rv (-1)) rv_nul ?_
          rw [← hQ]
          exact W.aret (v := rv (-1)) hx hb hr (Or.inl ⟨_, rfl⟩) (rv_or (-1)) (fun t ht hW => ⟨⟨opt (-1), (), rfl, ⟨-1, rfl, (Or.inl (by decide))⟩, trivial⟩, hS.F ht⟩) hS.2.2 dX8_sheetOfPut_29
set_option maxHeartbeats 2000000 in
set_option maxRecDepth 100000 in
theorem sX8_inForce (l : Launch) (dC : Nat → ClassId) (dI : Nat → Nat → Nat) (sz : Nat) (L : List Nat) (cid : Nat → ClassId) (K : Int → Nat) (N : Int → Int) (tW : Nat) (sK sV : Nat → Nat) (v : Int → Int → Int) (p0 : Int) (p1 : Int) (p2 : Int) (p3 : Int) (hI : xI L K N v) (q0 : ok L K p0 8) (q1 : rg p1) (q2 : rg p2) (q3 : rg p3) : Met l yX8_inForce (jk yX8_inForce cX8_inForce 6 (some .int)) ({ frames := 1, cells := 0, slots := 0, locals := 25 }) (va_Pc [.ref p0.toNat, .int (iI p1), .int (iI p2), .int (iI p3)] (xP (dC, dI) (xG L cid K N v) (xT cid) tW sK sV sz)) (va_Qi (fun (r : Int32) (_ : Unit) => ∃ z : Int, r = iI z ∧ (rg z)) (fun _ _ => True) (va_A [] sz)) 0 0 (va_A [] sz) := by
  refine Met.ofW (cc := cX8_inForce) (maxL := 6) (ret := (some .int)) (by decide) rfl ?_
  intro p e s m args below meth c s₁ B hml hv
  obtain ⟨rfl, ⟨hsz, hP, hK, hD0⟩, hX⟩ := hv
  have hx := B.exec
  have hb := B.bytes
  have hr := B.returns
  have hts := atoms_spec (ws := (jk yX8_inForce cX8_inForce 6 (some .int))) B.pre
  have hj : ∀ w ∈ jw, w.before ([.ref p0.toNat, .int (iI p1), .int (iI p2), .int (iI p3)] : List Value).toArray s = true := fun w h => hts w (jm h)
  have hown : s.vm.findClass RX8 = some m.cls := findClass_of_methodNamed B.named
  subst hsz
  have hDw := hD0.self (sz := s.heap.size)
  have hAA : ∀ q : Nat, s.heap.size ≤ q → va_A (xG L cid K N v) s.heap.size q := fun q h => Or.inr h
  have hAw : ∀ q, va_A [] s.heap.size q → va_A (xG L cid K N v) s.heap.size q := ja_nil va_S.rf hAA
  generalize hAe : (va_A [] s.heap.size) = A at hAw ⊢
  have hA : ∀ q : Nat, s.heap.size ≤ q → A q := fun q h => by rw [← hAe]; exact Or.inr h
  have hS : va_S A s.heap s.heap [] := va_S.rf
  have hXa := hX.nar hAw
  have hP : va_P (dC, dI) vwCl (xG L cid K N v) s.heap := hP
  have hl := lv_entry ([.ref p0.toNat, .int (iI p1), .int (iI p2), .int (iI p3)]) (n := 6) (Nat.le_of_ble_eq_true rfl)
  rw [lg_entry_eq]
  generalize (lg_sl ([.ref p0.toNat, .int (iI p1), .int (iI p2), .int (iI p3)]) ++ List.replicate (6 - (lg_sl ([.ref p0.toNat, .int (iI p1), .int (iI p2), .int (iI p3)])).length) Slot.unset).toArray = ls at hl ⊢
  have hl : lv_has ls 6 [(0, .ref p0.toNat), (1, .int (iI p1)), (2, .int (iI p2)), (3, .int (iI p3))] := hl
  generalize hQ : MQ below (va_Qi (fun (r : Int32) (_ : Unit) => ∃ z : Int, r = iI z ∧ (rg z)) (fun _ _ => True) A) ([.ref p0.toNat, .int (iI p1), .int (iI p2), .int (iI p3)] : List Value).toArray s 0 0 A = Q
  suffices ST : ∀ (H : Heap) (locs : List Loc), va_P (dC, dI) vwCl (xG L cid K N v) H → va_S A s.heap H locs → W p l e ({ frames := 1, cells := 0, slots := 0, locals := 25 }) s m ([.ref p0.toNat, .int (iI p1), .int (iI p2), .int (iI p3)] : List Value).toArray below meth c H locs 0 0 Q (F0 m 0 ls []) from ST _ _ hP hS
  clear hP hS
  intro H locs hP hS
  refine lv_aload_n hx hb dX8_inForce_0 rfl (lv_at hl 0 rfl) ?_
  have h_1 : 0 ≤ v p0 5 ∧ v p0 5 ≤ 20 := xf_8_5 hI q0
  refine gx_RX8_37 (y := v p0 5) hx hb hj hown hK hP q0 rfl dX8_inForce_1 ?_
  refine lv_iconst (v := iI 1) hx hb dX8_inForce_4 rfl ?_
  refine xr_sub hx hb dX8_inForce_5 ?_
  refine lv_istore (i := 4) (lv' := [(4, .int (iI ((v p0 5) - 1))), (0, .ref p0.toNat), (1, .int (iI p1)), (2, .int (iI p2)), (3, .int (iI p3))]) hx hb dX8_inForce_6 hl (by decide) rfl (fun ls hl => ?_)
  have L8 : ∀ (n8 : Nat) (a4_8 : Int) (H : Heap) (locs : List Loc) (ls : Array Slot), ((-1) ≤ a4_8 ∧ a4_8 ≤ 19) → (0 < (n8 : Int) ∧ a4_8 + 1 < (n8 : Int)) → va_P (dC, dI) vwCl (xG L cid K N v) H → va_S A s.heap H locs → lv_has ls 6 [(4, .int (iI a4_8)), (0, .ref p0.toNat), (1, .int (iI p1)), (2, .int (iI p2)), (3, .int (iI p3))] → W p l e ({ frames := 1, cells := 0, slots := 0, locals := 25 }) s m ([.ref p0.toNat, .int (iI p1), .int (iI p2), .int (iI p3)] : List Value).toArray below meth c H locs 0 0 Q (F0 m 8 ls []) := by
    intro n8
    induction n8 with
    | zero =>
      intro a4_8 H locs ls h_2 hm8 hP hS hl
      exfalso; omega
    | succ n8 ih8 =>
      intro a4_8 H locs ls h_3 hm8 hP hS hl
      refine lv_iload hx hb dX8_inForce_8 (lv_at hl 0 rfl) ?_
      refine xr_if_lt (tgt := 51) hx hb dX8_inForce_10 (by decide) (by omega) (fun h_4 => ?_) (fun h_4 => ?_)
      · refine lv_iconst (v := iI (-1)) hx hb dX8_inForce_51 rfl ?_
        rw [← hQ]
        exact W.iret (v := iI (-1)) hx hb hr (fun t ht hW => ⟨⟨iI (-1), (), rfl, ⟨(-1), rfl, by omega⟩, trivial⟩, hS.F ht⟩) hS.2.2 dX8_inForce_52
      · refine lv_aload_n hx hb dX8_inForce_13 rfl (lv_at hl 1 rfl) ?_
        refine lv_iload hx hb dX8_inForce_14 (lv_at hl 0 rfl) ?_
        refine lv_iload_n hx hb dX8_inForce_16 rfl (lv_at hl 3 rfl) ?_
        refine lv_iload_n hx hb dX8_inForce_17 rfl (lv_at hl 4 rfl) ?_
        refine jc_q (va_runV (As := [.int (iI a4_8), .int (iI p2), .int (iI p3)]) (rest := []) ⟨hx, hb, hml, hown, hts⟩ (sX8_sheetOfPut l dC dI _ L cid K N tW sK sV v p0 a4_8 p2 p3 hI q0 (by omega) (by omega) (by omega)) (cwV 3 hts (jgoodV m_925 m_926 m_927 m_928 m_929) rfl rfl rfl (by decide +kernel) ⟨(Nat.le_of_ble_eq_true rfl), (Nat.le_of_ble_eq_true rfl)⟩) ⟨xP_blind, xrecv hK hP q0 rfl rfl, fun U hU hW => ⟨rfl, xP_of hU hW hP hK hDw hX hS hAw hAA⟩⟩ rfl rfl hl.1 rfl (lv_room (Nat.le_of_ble_eq_true rfl)) dX8_inForce_18 ⟨(Nat.le_of_ble_eq_true rfl), (Nat.le_of_ble_eq_true rfl)⟩) hP hS hA (fun r_5 H locs w_6 hP hS => ?_)
        obtain ⟨z_7, rfl, h_8⟩ := w_6
        refine jt_q (rv z_7) rfl ?_
        refine xq_astore (i := 5) (lv' := [(5, rv z_7), (4, .int (iI a4_8)), (0, .ref p0.toNat), (1, .int (iI p1)), (2, .int (iI p2)), (3, .int (iI p3))]) hx hb dX8_inForce_21 hl (by decide) rfl (fun ls hl => ?_)
        refine xq_aload hx hb dX8_inForce_23 (lv_at hl 0 rfl) ?_
        have J45 : ∀ (H : Heap) (locs : List Loc) (ls : Array Slot), va_P (dC, dI) vwCl (xG L cid K N v) H → va_S A s.heap H locs → lv_has ls 6 [(5, rv z_7), (4, .int (iI a4_8)), (0, .ref p0.toNat), (1, .int (iI p1)), (2, .int (iI p2)), (3, .int (iI p3))] → W p l e ({ frames := 1, cells := 0, slots := 0, locals := 25 }) s m ([.ref p0.toNat, .int (iI p1), .int (iI p2), .int (iI p3)] : List Value).toArray below meth c H locs 0 0 Q (F0 m 45 ls []) := by
          intro H locs ls hP hS hl
          refine lv_iinc (v := iI (a4_8 + (-1))) (lv' := [(4, .int (iI (a4_8 + (-1)))), (5, rv z_7), (0, .ref p0.toNat), (1, .int (iI p1)), (2, .int (iI p2)), (3, .int (iI p3))]) hx hb dX8_inForce_45 hl (k := 1) rfl (iI_add _ _) (by decide) rfl (fun ls hl => ?_)
          refine lv_goto (tgt := 8) hx hb dX8_inForce_48 (by decide) ?_
          exact ih8 (a4_8 + (-1)) H locs ls (by omega) (by omega) hP hS (lv_sub hl [0, 2, 3, 4, 5] rfl)
        refine xq_ifnull (tgt := 45) hx hb dX8_inForce_25 (by decide) (fun h_9 => ?_) (fun h_9 => ?_)
        · exact J45 H locs ls hP hS hl
        · have h_10 : ok L K z_7 9 := h_8.resolve_left (by omega)
          refine xq_aload hx hb dX8_inForce_28 (lv_at hl 0 rfl) ?_
          refine jt_q (.ref z_7.toNat) (rv_ref (h_10).1) ?_
          refine lv_iload_n hx hb dX8_inForce_30 rfl (lv_at hl 3 rfl) ?_
          refine jc_i (va_runV (As := [.int (iI p1)]) (rest := []) ⟨hx, hb, hml, hown, hts⟩ (sX9_has l dC dI _ L cid K N tW sK sV v z_7 p1 hI h_10 (by omega)) (cwV 1 hts (jgoodV m_930 m_931 m_932 m_933 m_934) rfl rfl rfl (by decide +kernel) ⟨(Nat.le_of_ble_eq_true rfl), (Nat.le_of_ble_eq_true rfl)⟩) ⟨xP_blind, xrecv hK hP h_10 rfl rfl, fun U hU hW => ⟨rfl, xP_of hU hW hP hK hDw hX hS hAw hAA⟩⟩ rfl rfl hl.1 rfl (lv_room (Nat.le_of_ble_eq_true rfl)) dX8_inForce_31 ⟨(Nat.le_of_ble_eq_true rfl), (Nat.le_of_ble_eq_true rfl)⟩) hP hS hA (fun r_11 H locs w_12 hP hS => ?_)
          obtain ⟨z_13, rfl, h_14, h_15⟩ := w_12
          refine xr_if_eq (tgt := 45) hx hb dX8_inForce_34 (by decide) (by omega) (fun h_16 => ?_) (fun h_16 => ?_)
          · exact J45 H locs ls hP hS hl
          · refine lv_aload_n hx hb dX8_inForce_37 rfl (lv_at hl 2 rfl) ?_
            have h_17 : ok L K (v p0 2) 30 := xf_8_2 hI q0
            have h_18 : N (v p0 2) = 20 := xn_30 hI h_17
            refine gx_RX8_17 (y := v p0 2) hx hb hj hown hK hP q0 ((xf_8_2 hI q0).1) rfl dX8_inForce_38 ?_
            refine lv_iload hx hb dX8_inForce_41 (lv_at hl 1 rfl) ?_
            have h_19 : (-2147483648) ≤ v (v p0 2) a4_8 ∧ v (v p0 2) a4_8 ≤ 2147483647 := xe_30 hI h_17 (by omega)
            refine ax_30 (y := v (v p0 2) a4_8) hx hb hK hP h_17 (by omega) (by omega) (by omega) rfl dX8_inForce_43 ?_
            rw [← hQ]
            exact W.iret (v := iI (v (v p0 2) a4_8)) hx hb hr (fun t ht hW => ⟨⟨iI (v (v p0 2) a4_8), (), rfl, ⟨v (v p0 2) a4_8, rfl, by omega⟩, trivial⟩, hS.F ht⟩) hS.2.2 dX8_inForce_44
  exact L8 (((((v p0 5) - 1) + 1 : Int)).toNat + 1) ((v p0 5) - 1) H locs ls (by omega) (by omega) hP hS hl
set_option maxHeartbeats 2000000 in
set_option maxRecDepth 100000 in
theorem sX8_combine (l : Launch) (dC : Nat → ClassId) (dI : Nat → Nat → Nat) (sz : Nat) (p1 : Int) (p2 : Int) (p3 : Int) (q1 : rg p1) (q2 : rg p2) (q3 : rg p3) : Met l yX8_combine (jk yX8_combine cX8_combine 5 (some .int)) ({ frames := 1, cells := 0, slots := 0, locals := 40 }) (va_Pc [.int (iI p1), .int (iI p2), .int (iI p3)] (fun U => U.heap.size = sz)) (va_Qi (fun (r : Int32) (_ : Unit) => ∃ z : Int, r = iI z ∧ (rg z)) (fun _ _ => True) (va_A [] sz)) 0 0 (va_A [] sz) := by
  refine Met.ofW (cc := cX8_combine) (maxL := 5) (ret := (some .int)) (by decide) rfl ?_
  intro p e s m args below meth c s₁ B hml hv
  obtain ⟨rfl, hsz⟩ := hv
  have hx := B.exec
  have hb := B.bytes
  have hr := B.returns
  have hts := atoms_spec (ws := (jk yX8_combine cX8_combine 5 (some .int))) B.pre
  have hj : ∀ w ∈ jw, w.before ([.int (iI p1), .int (iI p2), .int (iI p3)] : List Value).toArray s = true := fun w h => hts w (jm h)
  have hown : s.vm.findClass RX8 = some m.cls := findClass_of_methodNamed B.named
  subst hsz
  have hP : va_P (dC, dI) vwCl [] s.heap := fun k q h => by simp at h
  generalize hAe : (va_A [] s.heap.size) = A
  have hA : ∀ q : Nat, s.heap.size ≤ q → A q := fun q h => by rw [← hAe]; exact Or.inr h
  have hS : va_S A s.heap s.heap [] := va_S.rf
  have hl := lv_entry ([.int (iI p1), .int (iI p2), .int (iI p3)]) (n := 5) (Nat.le_of_ble_eq_true rfl)
  rw [lg_entry_eq]
  generalize (lg_sl ([.int (iI p1), .int (iI p2), .int (iI p3)]) ++ List.replicate (5 - (lg_sl ([.int (iI p1), .int (iI p2), .int (iI p3)])).length) Slot.unset).toArray = ls at hl ⊢
  have hl : lv_has ls 5 [(0, .int (iI p1)), (1, .int (iI p2)), (2, .int (iI p3))] := hl
  generalize hQ : MQ below (va_Qi (fun (r : Int32) (_ : Unit) => ∃ z : Int, r = iI z ∧ (rg z)) (fun _ _ => True) A) ([.int (iI p1), .int (iI p2), .int (iI p3)] : List Value).toArray s 0 0 A = Q
  suffices ST : ∀ (H : Heap) (locs : List Loc), va_P (dC, dI) vwCl [] H → va_S A s.heap H locs → W p l e ({ frames := 1, cells := 0, slots := 0, locals := 40 }) s m ([.int (iI p1), .int (iI p2), .int (iI p3)] : List Value).toArray below meth c H locs 0 0 Q (F0 m 0 ls []) from ST _ _ hP hS
  clear hP hS
  intro H locs hP hS
  refine lv_lconst hx hb dX8_combine_0 rfl ?_
  refine lv_lstore_n (i := 3) (lv' := [(3, .long (Int64.ofNat 0)), (0, .int (iI p1)), (1, .int (iI p2)), (2, .int (iI p3))]) hx hb dX8_combine_1 rfl hl (by decide) rfl (fun ls hl => ?_)
  refine lv_iload_n hx hb dX8_combine_2 rfl (lv_at hl 1 rfl) ?_
  have J154 : ∀ (a3_154 : Int64) (H : Heap) (locs : List Loc) (ls : Array Slot), va_P (dC, dI) vwCl [] H → va_S A s.heap H locs → lv_has ls 5 [(3, .long a3_154), (0, .int (iI p1)), (1, .int (iI p2)), (2, .int (iI p3))] → W p l e ({ frames := 1, cells := 0, slots := 0, locals := 40 }) s m ([.int (iI p1), .int (iI p2), .int (iI p3)] : List Value).toArray below meth c H locs 0 0 Q (F0 m 154 ls []) := by
    intro a3_154 H locs ls hP hS hl
    refine lv_ldc2 hx hb hown (hts (.constantLong RX8 81 (-1000000)) (jm m_935)) dX8_combine_154 ?_
    refine lv_ldc2 hx hb hown (hts (.constantLong RX8 83 1000000) (jm m_936)) dX8_combine_157 ?_
    refine lv_lload_n hx hb dX8_combine_160 rfl (lv_at hl 0 rfl) ?_
    refine xl_any (fun u_1 => ?_)
    refine va_mmin_long hx hb (by rw [hml]; exact hl.1.symm) hown (hj _ m_937) (hj _ m_938) (hj _ m_762) (hj _ m_939) (Nat.le_of_ble_eq_true rfl) (Nat.le_of_ble_eq_true rfl) (Nat.le_of_ble_eq_true rfl) (Nat.le_of_ble_eq_true rfl) dX8_combine_161 ?_
    refine xl_any (fun u_2 => ?_)
    refine va_mmax_long hx hb (by rw [hml]; exact hl.1.symm) hown (hj _ m_940) (hj _ m_941) (hj _ m_762) (hj _ m_942) (Nat.le_of_ble_eq_true rfl) (Nat.le_of_ble_eq_true rfl) (Nat.le_of_ble_eq_true rfl) (Nat.le_of_ble_eq_true rfl) dX8_combine_164 ?_
    refine xl_any (fun u_3 => ?_)
    refine lv_l2i hx hb dX8_combine_167 rfl ?_
    refine xr_any (fun z_4 h_5 => ?_)
    rw [← hQ]
    exact W.iret (v := iI z_4) hx hb hr (fun t ht hW => ⟨⟨iI z_4, (), rfl, ⟨z_4, rfl, by omega⟩, trivial⟩, hS.F ht⟩) hS.2.2 dX8_combine_168
  rcases (show (p1 < -19 ∨ -11 < p1) ∨ p1 = (-19) ∨ p1 = (-18) ∨ p1 = (-17) ∨ p1 = (-16) ∨ p1 = (-15) ∨ p1 = (-14) ∨ p1 = (-13) ∨ p1 = (-12) ∨ p1 = (-11) by omega) with h_6 | h_6 | h_6 | h_6 | h_6 | h_6 | h_6 | h_6 | h_6 | h_6
  · refine lv_tableOut (tgt := 152) hx hb dX8_combine_3 (by rw [iI_toInt (by omega)]; omega) (by decide) ?_
    refine lv_iconst (v := iI 0) hx hb dX8_combine_152 rfl ?_
    rw [← hQ]
    exact W.iret (v := iI 0) hx hb hr (fun t ht hW => ⟨⟨iI 0, (), rfl, ⟨0, rfl, by omega⟩, trivial⟩, hS.F ht⟩) hS.2.2 dX8_combine_153
  · refine jtab_in (v := iI (-19)) (off := 135) (tgt := 138) hx hb dX8_combine_3 (by rw [h_6]) (by decide) (by decide) (by decide) (by decide) ?_
    refine lv_iload_n hx hb dX8_combine_138 rfl (lv_at hl 2 rfl) ?_
    refine xr_if_ne (tgt := 146) hx hb dX8_combine_139 (by decide) (by omega) (fun h_7 => ?_) (fun h_7 => ?_)
    · refine lv_iconst (v := iI 1) hx hb dX8_combine_146 rfl ?_
      refine lv_goto (tgt := 151) hx hb dX8_combine_147 (by decide) ?_
      rw [← hQ]
      exact W.iret (v := iI 1) hx hb hr (fun t ht hW => ⟨⟨iI 1, (), rfl, ⟨1, rfl, by omega⟩, trivial⟩, hS.F ht⟩) hS.2.2 dX8_combine_151
    · refine lv_iload_n hx hb dX8_combine_142 rfl (lv_at hl 3 rfl) ?_
      refine xr_if_eq (tgt := 150) hx hb dX8_combine_143 (by decide) (by omega) (fun h_8 => ?_) (fun h_8 => ?_)
      · refine lv_iconst (v := iI 0) hx hb dX8_combine_150 rfl ?_
        rw [← hQ]
        exact W.iret (v := iI 0) hx hb hr (fun t ht hW => ⟨⟨iI 0, (), rfl, ⟨0, rfl, by omega⟩, trivial⟩, hS.F ht⟩) hS.2.2 dX8_combine_151
      · refine lv_iconst (v := iI 1) hx hb dX8_combine_146 rfl ?_
        refine lv_goto (tgt := 151) hx hb dX8_combine_147 (by decide) ?_
        rw [← hQ]
        exact W.iret (v := iI 1) hx hb hr (fun t ht hW => ⟨⟨iI 1, (), rfl, ⟨1, rfl, by omega⟩, trivial⟩, hS.F ht⟩) hS.2.2 dX8_combine_151
  · refine jtab_in (v := iI (-18)) (off := 121) (tgt := 124) hx hb dX8_combine_3 (by rw [h_6]) (by decide) (by decide) (by decide) (by decide) ?_
    refine lv_iload_n hx hb dX8_combine_124 rfl (lv_at hl 2 rfl) ?_
    refine xr_if_eq (tgt := 136) hx hb dX8_combine_125 (by decide) (by omega) (fun h_9 => ?_) (fun h_9 => ?_)
    · refine lv_iconst (v := iI 0) hx hb dX8_combine_136 rfl ?_
      rw [← hQ]
      exact W.iret (v := iI 0) hx hb hr (fun t ht hW => ⟨⟨iI 0, (), rfl, ⟨0, rfl, by omega⟩, trivial⟩, hS.F ht⟩) hS.2.2 dX8_combine_137
    · refine lv_iload_n hx hb dX8_combine_128 rfl (lv_at hl 3 rfl) ?_
      refine xr_if_eq (tgt := 136) hx hb dX8_combine_129 (by decide) (by omega) (fun h_10 => ?_) (fun h_10 => ?_)
      · refine lv_iconst (v := iI 0) hx hb dX8_combine_136 rfl ?_
        rw [← hQ]
        exact W.iret (v := iI 0) hx hb hr (fun t ht hW => ⟨⟨iI 0, (), rfl, ⟨0, rfl, by omega⟩, trivial⟩, hS.F ht⟩) hS.2.2 dX8_combine_137
      · refine lv_iconst (v := iI 1) hx hb dX8_combine_132 rfl ?_
        refine lv_goto (tgt := 137) hx hb dX8_combine_133 (by decide) ?_
        rw [← hQ]
        exact W.iret (v := iI 1) hx hb hr (fun t ht hW => ⟨⟨iI 1, (), rfl, ⟨1, rfl, by omega⟩, trivial⟩, hS.F ht⟩) hS.2.2 dX8_combine_137
  · refine jtab_in (v := iI (-17)) (off := 110) (tgt := 113) hx hb dX8_combine_3 (by rw [h_6]) (by decide) (by decide) (by decide) (by decide) ?_
    refine lv_iload_n hx hb dX8_combine_113 rfl (lv_at hl 2 rfl) ?_
    refine lv_iload_n hx hb dX8_combine_114 rfl (lv_at hl 3 rfl) ?_
    refine xr_icmp_ne (tgt := 122) hx hb dX8_combine_115 (by decide) (by omega) (by omega) (fun h_11 => ?_) (fun h_11 => ?_)
    · refine lv_iconst (v := iI 0) hx hb dX8_combine_122 rfl ?_
      rw [← hQ]
      exact W.iret (v := iI 0) hx hb hr (fun t ht hW => ⟨⟨iI 0, (), rfl, ⟨0, rfl, by omega⟩, trivial⟩, hS.F ht⟩) hS.2.2 dX8_combine_123
    · refine lv_iconst (v := iI 1) hx hb dX8_combine_118 rfl ?_
      refine lv_goto (tgt := 123) hx hb dX8_combine_119 (by decide) ?_
      rw [← hQ]
      exact W.iret (v := iI 1) hx hb hr (fun t ht hW => ⟨⟨iI 1, (), rfl, ⟨1, rfl, by omega⟩, trivial⟩, hS.F ht⟩) hS.2.2 dX8_combine_123
  · refine jtab_in (v := iI (-16)) (off := 99) (tgt := 102) hx hb dX8_combine_3 (by rw [h_6]) (by decide) (by decide) (by decide) (by decide) ?_
    refine lv_iload_n hx hb dX8_combine_102 rfl (lv_at hl 2 rfl) ?_
    refine lv_iload_n hx hb dX8_combine_103 rfl (lv_at hl 3 rfl) ?_
    refine xr_icmp_le (tgt := 111) hx hb dX8_combine_104 (by decide) (by omega) (by omega) (fun h_12 => ?_) (fun h_12 => ?_)
    · refine lv_iconst (v := iI 0) hx hb dX8_combine_111 rfl ?_
      rw [← hQ]
      exact W.iret (v := iI 0) hx hb hr (fun t ht hW => ⟨⟨iI 0, (), rfl, ⟨0, rfl, by omega⟩, trivial⟩, hS.F ht⟩) hS.2.2 dX8_combine_112
    · refine lv_iconst (v := iI 1) hx hb dX8_combine_107 rfl ?_
      refine lv_goto (tgt := 112) hx hb dX8_combine_108 (by decide) ?_
      rw [← hQ]
      exact W.iret (v := iI 1) hx hb hr (fun t ht hW => ⟨⟨iI 1, (), rfl, ⟨1, rfl, by omega⟩, trivial⟩, hS.F ht⟩) hS.2.2 dX8_combine_112
  · refine jtab_in (v := iI (-15)) (off := 88) (tgt := 91) hx hb dX8_combine_3 (by rw [h_6]) (by decide) (by decide) (by decide) (by decide) ?_
    refine lv_iload_n hx hb dX8_combine_91 rfl (lv_at hl 2 rfl) ?_
    refine lv_iload_n hx hb dX8_combine_92 rfl (lv_at hl 3 rfl) ?_
    refine xr_icmp_ge (tgt := 100) hx hb dX8_combine_93 (by decide) (by omega) (by omega) (fun h_13 => ?_) (fun h_13 => ?_)
    · refine lv_iconst (v := iI 0) hx hb dX8_combine_100 rfl ?_
      rw [← hQ]
      exact W.iret (v := iI 0) hx hb hr (fun t ht hW => ⟨⟨iI 0, (), rfl, ⟨0, rfl, by omega⟩, trivial⟩, hS.F ht⟩) hS.2.2 dX8_combine_101
    · refine lv_iconst (v := iI 1) hx hb dX8_combine_96 rfl ?_
      refine lv_goto (tgt := 101) hx hb dX8_combine_97 (by decide) ?_
      rw [← hQ]
      exact W.iret (v := iI 1) hx hb hr (fun t ht hW => ⟨⟨iI 1, (), rfl, ⟨1, rfl, by omega⟩, trivial⟩, hS.F ht⟩) hS.2.2 dX8_combine_101
  · refine jtab_in (v := iI (-14)) (off := 76) (tgt := 79) hx hb dX8_combine_3 (by rw [h_6]) (by decide) (by decide) (by decide) (by decide) ?_
    refine lv_iload_n hx hb dX8_combine_79 rfl (lv_at hl 3 rfl) ?_
    refine xr_if_ne (tgt := 87) hx hb dX8_combine_80 (by decide) (by omega) (fun h_14 => ?_) (fun h_14 => ?_)
    · refine lv_iload_n hx hb dX8_combine_87 rfl (lv_at hl 2 rfl) ?_
      refine lv_iload_n hx hb dX8_combine_88 rfl (lv_at hl 3 rfl) ?_
      refine xr_divA hx hb dX8_combine_89 (by omega) (by omega) (fun z_15 h_16 => ?_)
      rw [← hQ]
      exact W.iret (v := iI z_15) hx hb hr (fun t ht hW => ⟨⟨iI z_15, (), rfl, ⟨z_15, rfl, by omega⟩, trivial⟩, hS.F ht⟩) hS.2.2 dX8_combine_90
    · refine lv_iconst (v := iI 0) hx hb dX8_combine_83 rfl ?_
      refine lv_goto (tgt := 90) hx hb dX8_combine_84 (by decide) ?_
      rw [← hQ]
      exact W.iret (v := iI 0) hx hb hr (fun t ht hW => ⟨⟨iI 0, (), rfl, ⟨0, rfl, by omega⟩, trivial⟩, hS.F ht⟩) hS.2.2 dX8_combine_90
  · refine jtab_in (v := iI (-13)) (off := 67) (tgt := 70) hx hb dX8_combine_3 (by rw [h_6]) (by decide) (by decide) (by decide) (by decide) ?_
    refine lv_iload_n hx hb dX8_combine_70 rfl (lv_at hl 2 rfl) ?_
    refine lv_i2l (v := (iI p2).toInt64) hx hb dX8_combine_71 rfl ?_
    refine xl_any (fun u_17 => ?_)
    refine lv_iload_n hx hb dX8_combine_72 rfl (lv_at hl 3 rfl) ?_
    refine lv_i2l (v := (iI p3).toInt64) hx hb dX8_combine_73 rfl ?_
    refine xl_any (fun u_18 => ?_)
    refine lv_lmul hx hb dX8_combine_74 ?_
    refine xl_any (fun u_19 => ?_)
    refine lv_lstore_n (i := 3) (lv' := [(3, .long (lL u_19)), (0, .int (iI p1)), (1, .int (iI p2)), (2, .int (iI p3))]) hx hb dX8_combine_75 rfl hl (by decide) rfl (fun ls hl => ?_)
    refine lv_goto (tgt := 154) hx hb dX8_combine_76 (by decide) ?_
    exact J154 (lL u_19) H locs ls hP hS hl
  · refine jtab_in (v := iI (-12)) (off := 58) (tgt := 61) hx hb dX8_combine_3 (by rw [h_6]) (by decide) (by decide) (by decide) (by decide) ?_
    refine lv_iload_n hx hb dX8_combine_61 rfl (lv_at hl 2 rfl) ?_
    refine lv_i2l (v := (iI p2).toInt64) hx hb dX8_combine_62 rfl ?_
    refine xl_any (fun u_20 => ?_)
    refine lv_iload_n hx hb dX8_combine_63 rfl (lv_at hl 3 rfl) ?_
    refine lv_i2l (v := (iI p3).toInt64) hx hb dX8_combine_64 rfl ?_
    refine xl_any (fun u_21 => ?_)
    refine lv_lsub hx hb dX8_combine_65 ?_
    refine xl_any (fun u_22 => ?_)
    refine lv_lstore_n (i := 3) (lv' := [(3, .long (lL u_22)), (0, .int (iI p1)), (1, .int (iI p2)), (2, .int (iI p3))]) hx hb dX8_combine_66 rfl hl (by decide) rfl (fun ls hl => ?_)
    refine lv_goto (tgt := 154) hx hb dX8_combine_67 (by decide) ?_
    exact J154 (lL u_22) H locs ls hP hS hl
  · refine jtab_in (v := iI (-11)) (off := 49) (tgt := 52) hx hb dX8_combine_3 (by rw [h_6]) (by decide) (by decide) (by decide) (by decide) ?_
    refine lv_iload_n hx hb dX8_combine_52 rfl (lv_at hl 2 rfl) ?_
    refine lv_i2l (v := (iI p2).toInt64) hx hb dX8_combine_53 rfl ?_
    refine xl_any (fun u_23 => ?_)
    refine lv_iload_n hx hb dX8_combine_54 rfl (lv_at hl 3 rfl) ?_
    refine lv_i2l (v := (iI p3).toInt64) hx hb dX8_combine_55 rfl ?_
    refine xl_any (fun u_24 => ?_)
    refine lv_ladd hx hb dX8_combine_56 ?_
    refine xl_any (fun u_25 => ?_)
    refine lv_lstore_n (i := 3) (lv' := [(3, .long (lL u_25)), (0, .int (iI p1)), (1, .int (iI p2)), (2, .int (iI p3))]) hx hb dX8_combine_57 rfl hl (by decide) rfl (fun ls hl => ?_)
    refine lv_goto (tgt := 154) hx hb dX8_combine_58 (by decide) ?_
    exact J154 (lL u_25) H locs ls hP hS hl
