set_option maxHeartbeats 2000000 in
set_option maxRecDepth 100000 in
theorem sX5_addFact (l : Launch) (dC : Nat → ClassId) (dI : Nat → Nat → Nat) (sz : Nat) (L : List Nat) (cid : Nat → ClassId) (K : Int → Nat) (N : Int → Int) (tW : Nat) (sK sV : Nat → Nat) (v : Int → Int → Int) (p0 : Int) (p1 : Int) (p2 : Int) (p3 : Int) (p4 : Int) (hI : xI L K N v) (q0 : ok L K p0 5) (q1 : rg p1) (q2 : rg p2) (q3 : rg p3) (q4 : rg p4) : Met l yX5_addFact (jk yX5_addFact cX5_addFact 5 (some .boolean)) ({ frames := 0, cells := 0, slots := 0, locals := 0 }) (va_Pc [.ref p0.toNat, .int (iI p1), .int (iI p2), .int (iI p3), .int (iI p4)] (xP (dC, dI) (xG L cid K N v) (xT cid) tW sK sV sz)) (va_Qi (fun (r : Int32) (u : (Int → Int → Int)) => ∃ z : Int, r = iI z ∧ (xI L K N u) ∧ (fr K [(5, 5), (42, (-1)), (43, (-1)), (44, (-1)), (45, (-1)), (46, (-1))] u v) ∧ (0 ≤ z ∧ z ≤ 1) ∧ ((z = 0 ∧ u p0 5 = v p0 5 ∧ (p1 < 0 ∨ 40 ≤ p1 ∨ v p0 5 < 0 ∨ 600 ≤ v p0 5)) ∨ (z = 1 ∧ u p0 5 = v p0 5 + 1 ∧ 0 ≤ p1 ∧ p1 < 40 ∧ 0 ≤ v p0 5 ∧ v p0 5 < 600)) ∧ (z = 0 → u = v) ∧ (z = 1 → u = vu (vu (vu (vu (vu (vu v (v p0 1) (v p0 5) p2) (v p0 2) (v p0 5) p3) (v p0 3) (v p0 5) p4) (v p0 4) (v p0 5) (v (v p0 0) p1)) (v p0 0) p1 (v p0 5)) p0 5 (v p0 5 + 1))) (fun u t => va_P (dC, dI) vwCl (xG L cid K N u) t.heap ∧ va_K (dC, dI) vwCl (xT cid) t ∧ va_D (va_A (xG L cid K N v) sz) (xG L cid K N u)) (va_A (xG L cid K N v) sz)) 0 0 (va_A (xG L cid K N v) sz) := by
  refine Met.ofW (cc := cX5_addFact) (maxL := 5) (ret := (some .boolean)) (by decide) rfl ?_
  intro p e s m args below meth c s₁ B hml hv
  obtain ⟨rfl, ⟨hsz, hP, hK, hD0⟩, hX⟩ := hv
  have hx := B.exec
  have hb := B.bytes
  have hr := B.returns
  have hts := atoms_spec (ws := (jk yX5_addFact cX5_addFact 5 (some .boolean))) B.pre
  have hj : ∀ w ∈ jw, w.before ([.ref p0.toNat, .int (iI p1), .int (iI p2), .int (iI p3), .int (iI p4)] : List Value).toArray s = true := fun w h => hts w (jm h)
  have hown : s.vm.findClass RX5 = some m.cls := findClass_of_methodNamed B.named
  subst hsz
  have hD := hD0.self (sz := s.heap.size)
  generalize hAe : (va_A (xG L cid K N v) s.heap.size) = A at hD hX ⊢
  have hA : ∀ q : Nat, s.heap.size ≤ q → A q := fun q h => by rw [← hAe]; exact Or.inr h
  have hS : va_S A s.heap s.heap [] := va_S.rf
  have hXa := hX
  have hP : va_P (dC, dI) vwCl (xG L cid K N v) s.heap := hP
  have hl := lv_entry ([.ref p0.toNat, .int (iI p1), .int (iI p2), .int (iI p3), .int (iI p4)]) (n := 5) (Nat.le_of_ble_eq_true rfl)
  rw [lg_entry_eq]
  generalize (lg_sl ([.ref p0.toNat, .int (iI p1), .int (iI p2), .int (iI p3), .int (iI p4)]) ++ List.replicate (5 - (lg_sl ([.ref p0.toNat, .int (iI p1), .int (iI p2), .int (iI p3), .int (iI p4)])).length) Slot.unset).toArray = ls at hl ⊢
  have hl : lv_has ls 5 [(0, .ref p0.toNat), (1, .int (iI p1)), (2, .int (iI p2)), (3, .int (iI p3)), (4, .int (iI p4))] := hl
  generalize hQ : MQ below (va_Qi (fun (r : Int32) (u : (Int → Int → Int)) => ∃ z : Int, r = iI z ∧ (xI L K N u) ∧ (fr K [(5, 5), (42, (-1)), (43, (-1)), (44, (-1)), (45, (-1)), (46, (-1))] u v) ∧ (0 ≤ z ∧ z ≤ 1) ∧ ((z = 0 ∧ u p0 5 = v p0 5 ∧ (p1 < 0 ∨ 40 ≤ p1 ∨ v p0 5 < 0 ∨ 600 ≤ v p0 5)) ∨ (z = 1 ∧ u p0 5 = v p0 5 + 1 ∧ 0 ≤ p1 ∧ p1 < 40 ∧ 0 ≤ v p0 5 ∧ v p0 5 < 600)) ∧ (z = 0 → u = v) ∧ (z = 1 → u = vu (vu (vu (vu (vu (vu v (v p0 1) (v p0 5) p2) (v p0 2) (v p0 5) p3) (v p0 3) (v p0 5) p4) (v p0 4) (v p0 5) (v (v p0 0) p1)) (v p0 0) p1 (v p0 5)) p0 5 (v p0 5 + 1))) (fun u t => va_P (dC, dI) vwCl (xG L cid K N u) t.heap ∧ va_K (dC, dI) vwCl (xT cid) t ∧ va_D A (xG L cid K N u)) A) ([.ref p0.toNat, .int (iI p1), .int (iI p2), .int (iI p3), .int (iI p4)] : List Value).toArray s 0 0 A = Q
  suffices ST : ∀ (H : Heap) (locs : List Loc), va_P (dC, dI) vwCl (xG L cid K N v) H → va_S A s.heap H locs → W p l e ({ frames := 0, cells := 0, slots := 0, locals := 0 }) s m ([.ref p0.toNat, .int (iI p1), .int (iI p2), .int (iI p3), .int (iI p4)] : List Value).toArray below meth c H locs 0 0 Q (F0 m 0 ls []) from ST _ _ hP hS
  clear hP hS
  intro H locs hP hS
  refine lv_iload_n hx hb dX5_addFact_0 rfl (lv_at hl 1 rfl) ?_
  refine xr_if_lt (tgt := 27) hx hb dX5_addFact_1 (by decide) (by omega) (fun h_1 => ?_) (fun h_1 => ?_)
  · refine lv_iconst (v := iI 0) hx hb dX5_addFact_27 rfl ?_
    have h_2 : (-2147483648) ≤ v p0 5 ∧ v p0 5 ≤ 2147483647 := xf_5_5 hI q0
    rw [← hQ]
    exact W.zret (v := iI 0) (ty := .boolean) hx hb hr (nb_bool (by omega) (by omega)) (fun t ht hW => ⟨⟨iI 0, v, rfl, ⟨0, rfl, hI, fr_rf, by omega, by omega, fun hz9 => by first | (exfalso; omega) | (rfl), fun hz9 => by first | (exfalso; omega) | (rfl)⟩, by rw [ht]; exact hP, va_K.moved hW.alike hK, hD⟩, hS.F ht⟩) hS.2.2 dX5_addFact_28
  · refine lv_iload_n hx hb dX5_addFact_4 rfl (lv_at hl 1 rfl) ?_
    refine lv_bipush (v := iI 40) hx hb dX5_addFact_5 rfl ?_
    refine xr_icmp_ge (tgt := 27) hx hb dX5_addFact_7 (by decide) (by omega) (by omega) (fun h_3 => ?_) (fun h_3 => ?_)
    · refine lv_iconst (v := iI 0) hx hb dX5_addFact_27 rfl ?_
      have h_4 : (-2147483648) ≤ v p0 5 ∧ v p0 5 ≤ 2147483647 := xf_5_5 hI q0
      rw [← hQ]
      exact W.zret (v := iI 0) (ty := .boolean) hx hb hr (nb_bool (by omega) (by omega)) (fun t ht hW => ⟨⟨iI 0, v, rfl, ⟨0, rfl, hI, fr_rf, by omega, by omega, fun hz9 => by first | (exfalso; omega) | (rfl), fun hz9 => by first | (exfalso; omega) | (rfl)⟩, by rw [ht]; exact hP, va_K.moved hW.alike hK, hD⟩, hS.F ht⟩) hS.2.2 dX5_addFact_28
    · refine lv_aload_n hx hb dX5_addFact_10 rfl (lv_at hl 0 rfl) ?_
      have h_5 : (-2147483648) ≤ v p0 5 ∧ v p0 5 ≤ 2147483647 := xf_5_5 hI q0
      refine gx_RX5_49 (y := v p0 5) hx hb hj hown hK hP q0 rfl dX5_addFact_11 ?_
      refine xr_if_lt (tgt := 27) hx hb dX5_addFact_14 (by decide) (by omega) (fun h_6 => ?_) (fun h_6 => ?_)
      · refine lv_iconst (v := iI 0) hx hb dX5_addFact_27 rfl ?_
        rw [← hQ]
        exact W.zret (v := iI 0) (ty := .boolean) hx hb hr (nb_bool (by omega) (by omega)) (fun t ht hW => ⟨⟨iI 0, v, rfl, ⟨0, rfl, hI, fr_rf, by omega, by omega, fun hz9 => by first | (exfalso; omega) | (rfl), fun hz9 => by first | (exfalso; omega) | (rfl)⟩, by rw [ht]; exact hP, va_K.moved hW.alike hK, hD⟩, hS.F ht⟩) hS.2.2 dX5_addFact_28
      · refine lv_aload_n hx hb dX5_addFact_17 rfl (lv_at hl 0 rfl) ?_
        refine gx_RX5_49 (y := v p0 5) hx hb hj hown hK hP q0 rfl dX5_addFact_18 ?_
        refine lv_sipush (v := iI 600) hx hb dX5_addFact_21 rfl ?_
        refine xr_icmp_lt (tgt := 29) hx hb dX5_addFact_24 (by decide) (by omega) (by omega) (fun h_7 => ?_) (fun h_7 => ?_)
        · refine lv_aload_n hx hb dX5_addFact_29 rfl (lv_at hl 0 rfl) ?_
          have h_8 : ok L K (v p0 1) 43 := xf_5_1 hI q0
          have h_9 : N (v p0 1) = 600 := xn_43 hI h_8
          refine gx_RX5_15 (y := v p0 1) hx hb hj hown hK hP q0 ((xf_5_1 hI q0).1) rfl dX5_addFact_30 ?_
          refine lv_aload_n hx hb dX5_addFact_33 rfl (lv_at hl 0 rfl) ?_
          refine gx_RX5_49 (y := v p0 5) hx hb hj hown hK hP q0 rfl dX5_addFact_34 ?_
          refine lv_iload_n hx hb dX5_addFact_37 rfl (lv_at hl 2 rfl) ?_
          refine sx_43 (y := p2) hx hb hK hP hD hS hI h_8 (by omega) (by omega) (by omega) ⟨by omega, by omega⟩ dX5_addFact_38 (fun v_10 H locs f_11 e_12 o_13 I_14 hP hD hS => ?_)
          refine lv_aload_n hx hb dX5_addFact_39 rfl (lv_at hl 0 rfl) ?_
          have h_15 : ok L K (v p0 2) 44 := xf_5_2 hI q0
          have h_16 : N (v p0 2) = 600 := xn_44 hI h_15
          refine gx_RX5_18 (y := v p0 2) hx hb hj hown hK hP q0 ((xf_5_2 I_14 q0).1) (fr_use q0 f_11 rfl) dX5_addFact_40 ?_
          refine lv_aload_n hx hb dX5_addFact_43 rfl (lv_at hl 0 rfl) ?_
          refine gx_RX5_49 (y := v p0 5) hx hb hj hown hK hP q0 (fr_use q0 f_11 rfl) dX5_addFact_44 ?_
          refine lv_iload_n hx hb dX5_addFact_47 rfl (lv_at hl 3 rfl) ?_
          refine sx_44 (y := p3) hx hb hK hP hD hS I_14 h_15 (by omega) (by omega) (by omega) ⟨by omega, by omega⟩ dX5_addFact_48 (fun v_17 H locs f_18 e_19 o_20 I_21 hP hD hS => ?_)
          refine lv_aload_n hx hb dX5_addFact_49 rfl (lv_at hl 0 rfl) ?_
          have h_22 : ok L K (v p0 3) 45 := xf_5_3 hI q0
          have h_23 : N (v p0 3) = 600 := xn_45 hI h_22
          refine gx_RX5_21 (y := v p0 3) hx hb hj hown hK hP q0 ((xf_5_3 I_21 q0).1) (((fr_use q0 f_18 rfl)).trans (fr_use q0 f_11 rfl)) dX5_addFact_50 ?_
          refine lv_aload_n hx hb dX5_addFact_53 rfl (lv_at hl 0 rfl) ?_
          refine gx_RX5_49 (y := v p0 5) hx hb hj hown hK hP q0 (((fr_use q0 f_18 rfl)).trans (fr_use q0 f_11 rfl)) dX5_addFact_54 ?_
          refine lv_iload hx hb dX5_addFact_57 (lv_at hl 4 rfl) ?_
          refine sx_45 (y := p4) hx hb hK hP hD hS I_21 h_22 (by omega) (by omega) (by omega) ⟨by omega, by omega⟩ dX5_addFact_59 (fun v_24 H locs f_25 e_26 o_27 I_28 hP hD hS => ?_)
          refine lv_aload_n hx hb dX5_addFact_60 rfl (lv_at hl 0 rfl) ?_
          have h_29 : ok L K (v p0 4) 46 := xf_5_4 hI q0
          have h_30 : N (v p0 4) = 600 := xn_46 hI h_29
          refine gx_RX5_24 (y := v p0 4) hx hb hj hown hK hP q0 ((xf_5_4 I_28 q0).1) (((fr_use q0 f_25 rfl)).trans (((fr_use q0 f_18 rfl)).trans (fr_use q0 f_11 rfl))) dX5_addFact_61 ?_
          refine lv_aload_n hx hb dX5_addFact_64 rfl (lv_at hl 0 rfl) ?_
          refine gx_RX5_49 (y := v p0 5) hx hb hj hown hK hP q0 (((fr_use q0 f_25 rfl)).trans (((fr_use q0 f_18 rfl)).trans (fr_use q0 f_11 rfl))) dX5_addFact_65 ?_
          refine lv_aload_n hx hb dX5_addFact_68 rfl (lv_at hl 0 rfl) ?_
          have h_31 : ok L K (v p0 0) 42 := xf_5_0 hI q0
          have h_32 : N (v p0 0) = 40 := xn_42 hI h_31
          refine gx_RX5_11 (y := v p0 0) hx hb hj hown hK hP q0 ((xf_5_0 I_28 q0).1) (((fr_use q0 f_25 rfl)).trans (((fr_use q0 f_18 rfl)).trans (fr_use q0 f_11 rfl))) dX5_addFact_69 ?_
          refine lv_iload_n hx hb dX5_addFact_72 rfl (lv_at hl 1 rfl) ?_
          have h_33 : (-2147483648) ≤ v (v p0 0) p1 ∧ v (v p0 0) p1 ≤ 2147483647 := xe_42 hI h_31 (by omega)
          refine ax_42 (y := v (v p0 0) p1) hx hb hK hP h_31 (by omega) (by omega) (by omega) (((fr_use h_31 f_25 rfl)).trans (((fr_use h_31 f_18 rfl)).trans (fr_use h_31 f_11 rfl))) dX5_addFact_73 ?_
          refine sx_46 (y := v (v p0 0) p1) hx hb hK hP hD hS I_28 h_29 (by omega) (by omega) (by omega) ⟨by omega, by omega⟩ dX5_addFact_74 (fun v_34 H locs f_35 e_36 o_37 I_38 hP hD hS => ?_)
          refine lv_aload_n hx hb dX5_addFact_75 rfl (lv_at hl 0 rfl) ?_
          refine gx_RX5_11 (y := v p0 0) hx hb hj hown hK hP q0 ((xf_5_0 I_38 q0).1) (((fr_use q0 f_35 rfl)).trans (((fr_use q0 f_25 rfl)).trans (((fr_use q0 f_18 rfl)).trans (fr_use q0 f_11 rfl)))) dX5_addFact_76 ?_
          refine lv_iload_n hx hb dX5_addFact_79 rfl (lv_at hl 1 rfl) ?_
          refine lv_aload_n hx hb dX5_addFact_80 rfl (lv_at hl 0 rfl) ?_
          refine gx_RX5_49 (y := v p0 5) hx hb hj hown hK hP q0 (((fr_use q0 f_35 rfl)).trans (((fr_use q0 f_25 rfl)).trans (((fr_use q0 f_18 rfl)).trans (fr_use q0 f_11 rfl)))) dX5_addFact_81 ?_
          refine sx_42 (y := v p0 5) hx hb hK hP hD hS I_38 h_31 (by omega) (by omega) (by omega) ⟨by omega, by omega⟩ dX5_addFact_84 (fun v_39 H locs f_40 e_41 o_42 I_43 hP hD hS => ?_)
          refine lv_aload_n hx hb dX5_addFact_85 rfl (lv_at hl 0 rfl) ?_
          refine lv_dup hx hb dX5_addFact_86 rfl ?_
          refine gx_RX5_49 (y := v p0 5) hx hb hj hown hK hP q0 (((fr_use q0 f_40 rfl)).trans (((fr_use q0 f_35 rfl)).trans (((fr_use q0 f_25 rfl)).trans (((fr_use q0 f_18 rfl)).trans (fr_use q0 f_11 rfl))))) dX5_addFact_87 ?_
          refine lv_iconst (v := iI 1) hx hb dX5_addFact_90 rfl ?_
          refine xr_add hx hb dX5_addFact_91 ?_
          refine xr_kept (fun z_44 h_45 h_46 => ?_)
          refine px_RX5_49 (y := z_44) hx hb hj hown hK hP hD hS I_43 q0 ⟨by omega, by omega⟩ dX5_addFact_92 (fun v_47 H locs f_48 e_49 o_50 I_51 hP hD hS => ?_)
          refine lv_iconst (v := iI 1) hx hb dX5_addFact_95 rfl ?_
          have b_52 : v_47 p0 5 = z_44 := e_49
          rw [← hQ]
          exact W.zret (v := iI 1) (ty := .boolean) hx hb hr (nb_bool (by omega) (by omega)) (fun t ht hW => ⟨⟨iI 1, v_47, rfl, ⟨1, rfl, I_51, (fr_tr f_48 rfl (fr_tr f_40 rfl (fr_tr f_35 rfl (fr_tr f_25 rfl (fr_tr f_18 rfl (fr_tr f_11 rfl fr_rf)))))), by omega, by omega, fun hz9 => by first | (exfalso; omega) | (rw [vu_of e_49 o_50]; rw [vu_of e_41 o_42]; rw [vu_of e_36 o_37]; rw [vu_of e_26 o_27]; rw [vu_of e_19 o_20]; rw [vu_of e_12 o_13]; first | done | (congr <;> omega)), fun hz9 => by first | (exfalso; omega) | (rw [vu_of e_49 o_50]; rw [vu_of e_41 o_42]; rw [vu_of e_36 o_37]; rw [vu_of e_26 o_27]; rw [vu_of e_19 o_20]; rw [vu_of e_12 o_13]; first | done | (congr <;> omega))⟩, by rw [ht]; exact hP, va_K.moved hW.alike hK, hD⟩, hS.F ht⟩) hS.2.2 dX5_addFact_96
        · refine lv_iconst (v := iI 0) hx hb dX5_addFact_27 rfl ?_
          rw [← hQ]
          exact W.zret (v := iI 0) (ty := .boolean) hx hb hr (nb_bool (by omega) (by omega)) (fun t ht hW => ⟨⟨iI 0, v, rfl, ⟨0, rfl, hI, fr_rf, by omega, by omega, fun hz9 => by first | (exfalso; omega) | (rfl), fun hz9 => by first | (exfalso; omega) | (rfl)⟩, by rw [ht]; exact hP, va_K.moved hW.alike hK, hD⟩, hS.F ht⟩) hS.2.2 dX5_addFact_28
set_option maxHeartbeats 2000000 in
set_option maxRecDepth 100000 in
theorem sX5_tellOn (l : Launch) (dC : Nat → ClassId) (dI : Nat → Nat → Nat) (sz : Nat) (L : List Nat) (cid : Nat → ClassId) (K : Int → Nat) (N : Int → Int) (tW : Nat) (sK sV : Nat → Nat) (v : Int → Int → Int) (p0 : Int) (p1 : Int) (p2 : Int) (hI : xI L K N v) (q0 : ok L K p0 5) (q1 : rg p1) (q2 : rg p2) : Met l yX5_tellOn (jk yX5_tellOn cX5_tellOn 5 (some .int)) ({ frames := 0, cells := 0, slots := 0, locals := 0 }) (va_Pc [.ref p0.toNat, .int (iI p1), .int (iI p2)] (xP (dC, dI) (xG L cid K N v) (xT cid) tW sK sV sz)) (va_Qi (fun (r : Int32) (_ : Unit) => ∃ z : Int, r = iI z ∧ (rg z) ∧ (z = chw (v (v p0 3)) (v (v p0 4)) p2 600 (tell0 (v (v p0 0)) p1))) (fun _ _ => True) (va_A [] sz)) 0 0 (va_A [] sz) := by
  refine Met.ofW (cc := cX5_tellOn) (maxL := 5) (ret := (some .int)) (by decide) rfl ?_
  intro p e s m args below meth c s₁ B hml hv
  obtain ⟨rfl, ⟨hsz, hP, hK, hD0⟩, hX⟩ := hv
  have hx := B.exec
  have hb := B.bytes
  have hr := B.returns
  have hts := atoms_spec (ws := (jk yX5_tellOn cX5_tellOn 5 (some .int))) B.pre
  have hj : ∀ w ∈ jw, w.before ([.ref p0.toNat, .int (iI p1), .int (iI p2)] : List Value).toArray s = true := fun w h => hts w (jm h)
  have hown : s.vm.findClass RX5 = some m.cls := findClass_of_methodNamed B.named
  subst hsz
  have hDw := hD0.self (sz := s.heap.size)
  have hAA : ∀ q : Nat, s.heap.size ≤ q → va_A (xG L cid K N v) s.heap.size q := fun q h => Or.inr h
  have hAw : ∀ q, va_A [] s.heap.size q → va_A (xG L cid K N v) s.heap.size q := ja_nil va_S.rf hAA
  generalize hAe : (va_A [] s.heap.size) = A at hAw ⊢
  have hA : ∀ q : Nat, s.heap.size ≤ q → A q := fun q h => by rw [← hAe]; exact Or.inr h
  have hS : va_S A s.heap s.heap [] := va_S.rf
  have hXa := hX.nar hAw
  have hP : va_P (dC, dI) vwCl (xG L cid K N v) s.heap := hP
  have hl := lv_entry ([.ref p0.toNat, .int (iI p1), .int (iI p2)]) (n := 5) (Nat.le_of_ble_eq_true rfl)
  rw [lg_entry_eq]
  generalize (lg_sl ([.ref p0.toNat, .int (iI p1), .int (iI p2)]) ++ List.replicate (5 - (lg_sl ([.ref p0.toNat, .int (iI p1), .int (iI p2)])).length) Slot.unset).toArray = ls at hl ⊢
  have hl : lv_has ls 5 [(0, .ref p0.toNat), (1, .int (iI p1)), (2, .int (iI p2))] := hl
  generalize hQ : MQ below (va_Qi (fun (r : Int32) (_ : Unit) => ∃ z : Int, r = iI z ∧ (rg z) ∧ (z = chw (v (v p0 3)) (v (v p0 4)) p2 600 (tell0 (v (v p0 0)) p1))) (fun _ _ => True) A) ([.ref p0.toNat, .int (iI p1), .int (iI p2)] : List Value).toArray s 0 0 A = Q
  suffices ST : ∀ (H : Heap) (locs : List Loc), va_P (dC, dI) vwCl (xG L cid K N v) H → va_S A s.heap H locs → W p l e ({ frames := 0, cells := 0, slots := 0, locals := 0 }) s m ([.ref p0.toNat, .int (iI p1), .int (iI p2)] : List Value).toArray below meth c H locs 0 0 Q (F0 m 0 ls []) from ST _ _ hP hS
  clear hP hS
  intro H locs hP hS
  refine lv_iload_n hx hb dX5_tellOn_0 rfl (lv_at hl 1 rfl) ?_
  have J20 : ∀ (s0_20 : Int) (H : Heap) (locs : List Loc) (ls : Array Slot), ((-2147483648) ≤ s0_20 ∧ s0_20 ≤ 2147483647) → (s0_20 = tell0 (v (v p0 0)) p1) → va_P (dC, dI) vwCl (xG L cid K N v) H → va_S A s.heap H locs → lv_has ls 5 [(0, .ref p0.toNat), (1, .int (iI p1)), (2, .int (iI p2))] → W p l e ({ frames := 0, cells := 0, slots := 0, locals := 0 }) s m ([.ref p0.toNat, .int (iI p1), .int (iI p2)] : List Value).toArray below meth c H locs 0 0 Q (F0 m 20 ls [.int (iI s0_20)]) := by
    intro s0_20 H locs ls h_1 h_2 hP hS hl
    refine lv_istore_n (i := 3) (lv' := [(3, .int (iI s0_20)), (0, .ref p0.toNat), (1, .int (iI p1)), (2, .int (iI p2))]) hx hb dX5_tellOn_20 rfl hl (by decide) rfl (fun ls hl => ?_)
    refine lv_iconst (v := iI 0) hx hb dX5_tellOn_21 rfl ?_
    refine lv_istore (i := 4) (lv' := [(4, .int (iI 0)), (3, .int (iI s0_20)), (0, .ref p0.toNat), (1, .int (iI p1)), (2, .int (iI p2))]) hx hb dX5_tellOn_22 hl (by decide) rfl (fun ls hl => ?_)
    have L24 : ∀ (n24 : Nat) (a4_24 a3_24 : Int) (H : Heap) (locs : List Loc) (ls : Array Slot), (0 ≤ a4_24 ∧ a4_24 ≤ 2147483647) → ((-2147483648) ≤ a3_24 ∧ a3_24 ≤ 2147483647) → (0 ≤ a4_24 ∧ a4_24 ≤ 600) → (chw (v (v p0 3)) (v (v p0 4)) p2 (600 - a4_24).toNat a3_24 = chw (v (v p0 3)) (v (v p0 4)) p2 600 (tell0 (v (v p0 0)) p1)) → (0 < (n24 : Int) ∧ 600 - a4_24 < (n24 : Int)) → va_P (dC, dI) vwCl (xG L cid K N v) H → va_S A s.heap H locs → lv_has ls 5 [(4, .int (iI a4_24)), (3, .int (iI a3_24)), (0, .ref p0.toNat), (1, .int (iI p1)), (2, .int (iI p2))] → W p l e ({ frames := 0, cells := 0, slots := 0, locals := 0 }) s m ([.ref p0.toNat, .int (iI p1), .int (iI p2)] : List Value).toArray below meth c H locs 0 0 Q (F0 m 24 ls []) := by
      intro n24
      induction n24 with
      | zero =>
        intro a4_24 a3_24 H locs ls h_3 h_4 h_5 h_6 hm24 hP hS hl
        exfalso; omega
      | succ n24 ih24 =>
        intro a4_24 a3_24 H locs ls h_7 h_8 h_9 h_10 hm24 hP hS hl
        refine lv_iload hx hb dX5_tellOn_24 (lv_at hl 0 rfl) ?_
        refine lv_sipush (v := iI 600) hx hb dX5_tellOn_26 rfl ?_
        refine xr_icmp_ge (tgt := 68) hx hb dX5_tellOn_29 (by decide) (by omega) (by omega) (fun h_11 => ?_) (fun h_11 => ?_)
        · refine lv_iconst (v := iI (-1)) hx hb dX5_tellOn_68 rfl ?_
          rw [← hQ]
          exact W.iret (v := iI (-1)) hx hb hr (fun t ht hW => ⟨⟨iI (-1), (), rfl, ⟨(-1), rfl, by omega, by first | exact chw_hit (by assumption) (by omega) (by omega) (by omega) (by omega) (by omega) | exact chw_out (by assumption) (by omega) (by omega)⟩, trivial⟩, hS.F ht⟩) hS.2.2 dX5_tellOn_69
        · refine lv_iload_n hx hb dX5_tellOn_32 rfl (lv_at hl 1 rfl) ?_
          refine xr_if_lt (tgt := 68) hx hb dX5_tellOn_33 (by decide) (by omega) (fun h_12 => ?_) (fun h_12 => ?_)
          · refine lv_iconst (v := iI (-1)) hx hb dX5_tellOn_68 rfl ?_
            rw [← hQ]
            exact W.iret (v := iI (-1)) hx hb hr (fun t ht hW => ⟨⟨iI (-1), (), rfl, ⟨(-1), rfl, by omega, by first | exact chw_hit (by assumption) (by omega) (by omega) (by omega) (by omega) (by omega) | exact chw_out (by assumption) (by omega) (by omega)⟩, trivial⟩, hS.F ht⟩) hS.2.2 dX5_tellOn_69
          · refine lv_iload_n hx hb dX5_tellOn_36 rfl (lv_at hl 1 rfl) ?_
            refine lv_sipush (v := iI 600) hx hb dX5_tellOn_37 rfl ?_
            refine xr_icmp_ge (tgt := 68) hx hb dX5_tellOn_40 (by decide) (by omega) (by omega) (fun h_13 => ?_) (fun h_13 => ?_)
            · refine lv_iconst (v := iI (-1)) hx hb dX5_tellOn_68 rfl ?_
              rw [← hQ]
              exact W.iret (v := iI (-1)) hx hb hr (fun t ht hW => ⟨⟨iI (-1), (), rfl, ⟨(-1), rfl, by omega, by first | exact chw_hit (by assumption) (by omega) (by omega) (by omega) (by omega) (by omega) | exact chw_out (by assumption) (by omega) (by omega)⟩, trivial⟩, hS.F ht⟩) hS.2.2 dX5_tellOn_69
            · refine lv_aload_n hx hb dX5_tellOn_43 rfl (lv_at hl 2 rfl) ?_
              have h_14 : ok L K (v p0 3) 45 := xf_5_3 hI q0
              have h_15 : N (v p0 3) = 600 := xn_45 hI h_14
              refine gx_RX5_21 (y := v p0 3) hx hb hj hown hK hP q0 ((xf_5_3 hI q0).1) rfl dX5_tellOn_44 ?_
              refine lv_iload_n hx hb dX5_tellOn_47 rfl (lv_at hl 1 rfl) ?_
              have h_16 : (-2147483648) ≤ v (v p0 3) a3_24 ∧ v (v p0 3) a3_24 ≤ 2147483647 := xe_45 hI h_14 (by omega)
              refine ax_45 (y := v (v p0 3) a3_24) hx hb hK hP h_14 (by omega) (by omega) (by omega) rfl dX5_tellOn_48 ?_
              refine lv_iload_n hx hb dX5_tellOn_49 rfl (lv_at hl 4 rfl) ?_
              refine xr_icmp_gt (tgt := 55) hx hb dX5_tellOn_50 (by decide) (by omega) (by omega) (fun h_17 => ?_) (fun h_17 => ?_)
              · refine lv_aload_n hx hb dX5_tellOn_55 rfl (lv_at hl 2 rfl) ?_
                have h_18 : ok L K (v p0 4) 46 := xf_5_4 hI q0
                have h_19 : N (v p0 4) = 600 := xn_46 hI h_18
                refine gx_RX5_24 (y := v p0 4) hx hb hj hown hK hP q0 ((xf_5_4 hI q0).1) rfl dX5_tellOn_56 ?_
                refine lv_iload_n hx hb dX5_tellOn_59 rfl (lv_at hl 1 rfl) ?_
                have h_20 : (-2147483648) ≤ v (v p0 4) a3_24 ∧ v (v p0 4) a3_24 ≤ 2147483647 := xe_46 hI h_18 (by omega)
                refine ax_46 (y := v (v p0 4) a3_24) hx hb hK hP h_18 (by omega) (by omega) (by omega) rfl dX5_tellOn_60 ?_
                refine lv_istore_n (i := 3) (lv' := [(3, .int (iI (v (v p0 4) a3_24))), (4, .int (iI a4_24)), (0, .ref p0.toNat), (1, .int (iI p1)), (2, .int (iI p2))]) hx hb dX5_tellOn_61 rfl hl (by decide) rfl (fun ls hl => ?_)
                refine lv_iinc (v := iI (a4_24 + 1)) (lv' := [(4, .int (iI (a4_24 + 1))), (3, .int (iI (v (v p0 4) a3_24))), (0, .ref p0.toNat), (1, .int (iI p1)), (2, .int (iI p2))]) hx hb dX5_tellOn_62 hl (k := 1) rfl (iI_add _ _) (by decide) rfl (fun ls hl => ?_)
                refine lv_goto (tgt := 24) hx hb dX5_tellOn_65 (by decide) ?_
                exact ih24 (a4_24 + 1) (v (v p0 4) a3_24) H locs ls (by omega) (by omega) (by omega) (by first | exact chw_0 (by assumption) | exact chw_s (by assumption) (by omega) (by omega) (by omega) (by omega) (by omega)) (by omega) hP hS hl
              · refine lv_iload_n hx hb dX5_tellOn_53 rfl (lv_at hl 1 rfl) ?_
                rw [← hQ]
                exact W.iret (v := iI a3_24) hx hb hr (fun t ht hW => ⟨⟨iI a3_24, (), rfl, ⟨a3_24, rfl, by omega, by first | exact chw_hit (by assumption) (by omega) (by omega) (by omega) (by omega) (by omega) | exact chw_out (by assumption) (by omega) (by omega)⟩, trivial⟩, hS.F ht⟩) hS.2.2 dX5_tellOn_54
    exact L24 (((600 - 0 : Int)).toNat + 1) 0 s0_20 H locs ls (by omega) (by omega) (by omega) (by first | exact chw_0 (by assumption) | exact chw_s (by assumption) (by omega) (by omega) (by omega) (by omega) (by omega)) (by omega) hP hS hl
  have J19 : ∀ (H : Heap) (locs : List Loc) (ls : Array Slot), (p1 < 0 ∨ 40 ≤ p1) → va_P (dC, dI) vwCl (xG L cid K N v) H → va_S A s.heap H locs → lv_has ls 5 [(0, .ref p0.toNat), (1, .int (iI p1)), (2, .int (iI p2))] → W p l e ({ frames := 0, cells := 0, slots := 0, locals := 0 }) s m ([.ref p0.toNat, .int (iI p1), .int (iI p2)] : List Value).toArray below meth c H locs 0 0 Q (F0 m 19 ls []) := by
    intro H locs ls h_21 hP hS hl
    refine lv_iconst (v := iI (-1)) hx hb dX5_tellOn_19 rfl ?_
    exact J20 (-1) H locs ls (by omega) (by first | exact (tell0_in (by omega) (by omega)).symm | exact (tell0_out (by omega)).symm) hP hS hl
  refine xr_if_lt (tgt := 19) hx hb dX5_tellOn_1 (by decide) (by omega) (fun h_22 => ?_) (fun h_22 => ?_)
  · exact J19 H locs ls (by omega) hP hS hl
  · refine lv_iload_n hx hb dX5_tellOn_4 rfl (lv_at hl 1 rfl) ?_
    refine lv_bipush (v := iI 40) hx hb dX5_tellOn_5 rfl ?_
    refine xr_icmp_ge (tgt := 19) hx hb dX5_tellOn_7 (by decide) (by omega) (by omega) (fun h_23 => ?_) (fun h_23 => ?_)
    · exact J19 H locs ls (by omega) hP hS hl
    · refine lv_aload_n hx hb dX5_tellOn_10 rfl (lv_at hl 0 rfl) ?_
      have h_24 : ok L K (v p0 0) 42 := xf_5_0 hI q0
      have h_25 : N (v p0 0) = 40 := xn_42 hI h_24
      refine gx_RX5_11 (y := v p0 0) hx hb hj hown hK hP q0 ((xf_5_0 hI q0).1) rfl dX5_tellOn_11 ?_
      refine lv_iload_n hx hb dX5_tellOn_14 rfl (lv_at hl 1 rfl) ?_
      have h_26 : (-2147483648) ≤ v (v p0 0) p1 ∧ v (v p0 0) p1 ≤ 2147483647 := xe_42 hI h_24 (by omega)
      refine ax_42 (y := v (v p0 0) p1) hx hb hK hP h_24 (by omega) (by omega) (by omega) rfl dX5_tellOn_15 ?_
      refine lv_goto (tgt := 20) hx hb dX5_tellOn_16 (by decide) ?_
      exact J20 (v (v p0 0) p1) H locs ls (by omega) (by first | exact (tell0_in (by omega) (by omega)).symm | exact (tell0_out (by omega)).symm) hP hS hl
set_option maxHeartbeats 2000000 in
set_option maxRecDepth 100000 in
theorem sX5_valueOn (l : Launch) (dC : Nat → ClassId) (dI : Nat → Nat → Nat) (sz : Nat) (L : List Nat) (cid : Nat → ClassId) (K : Int → Nat) (N : Int → Int) (tW : Nat) (sK sV : Nat → Nat) (v : Int → Int → Int) (p0 : Int) (p1 : Int) (p2 : Int) (hI : xI L K N v) (q0 : ok L K p0 5) (q1 : rg p1) (q2 : rg p2) : Met l yX5_valueOn (jk yX5_valueOn cX5_valueOn 4 (some .int)) ({ frames := 1, cells := 0, slots := 0, locals := 24 }) (va_Pc [.ref p0.toNat, .int (iI p1), .int (iI p2)] (xP (dC, dI) (xG L cid K N v) (xT cid) tW sK sV sz)) (va_Qi (fun (r : Int32) (_ : Unit) => ∃ z : Int, r = iI z ∧ (rg z) ∧ (z = vat (v (v p0 1)) (chw (v (v p0 3)) (v (v p0 4)) p2 600 (tell0 (v (v p0 0)) p1)))) (fun _ _ => True) (va_A [] sz)) 0 0 (va_A [] sz) := by
  refine Met.ofW (cc := cX5_valueOn) (maxL := 4) (ret := (some .int)) (by decide) rfl ?_
  intro p e s m args below meth c s₁ B hml hv
  obtain ⟨rfl, ⟨hsz, hP, hK, hD0⟩, hX⟩ := hv
  have hx := B.exec
  have hb := B.bytes
  have hr := B.returns
  have hts := atoms_spec (ws := (jk yX5_valueOn cX5_valueOn 4 (some .int))) B.pre
  have hj : ∀ w ∈ jw, w.before ([.ref p0.toNat, .int (iI p1), .int (iI p2)] : List Value).toArray s = true := fun w h => hts w (jm h)
  have hown : s.vm.findClass RX5 = some m.cls := findClass_of_methodNamed B.named
  subst hsz
  have hDw := hD0.self (sz := s.heap.size)
  have hAA : ∀ q : Nat, s.heap.size ≤ q → va_A (xG L cid K N v) s.heap.size q := fun q h => Or.inr h
  have hAw : ∀ q, va_A [] s.heap.size q → va_A (xG L cid K N v) s.heap.size q := ja_nil va_S.rf hAA
  generalize hAe : (va_A [] s.heap.size) = A at hAw ⊢
  have hA : ∀ q : Nat, s.heap.size ≤ q → A q := fun q h => by rw [← hAe]; exact Or.inr h
  have hS : va_S A s.heap s.heap [] := va_S.rf
  have hXa := hX.nar hAw
  have hP : va_P (dC, dI) vwCl (xG L cid K N v) s.heap := hP
  have hl := lv_entry ([.ref p0.toNat, .int (iI p1), .int (iI p2)]) (n := 4) (Nat.le_of_ble_eq_true rfl)
  rw [lg_entry_eq]
  generalize (lg_sl ([.ref p0.toNat, .int (iI p1), .int (iI p2)]) ++ List.replicate (4 - (lg_sl ([.ref p0.toNat, .int (iI p1), .int (iI p2)])).length) Slot.unset).toArray = ls at hl ⊢
  have hl : lv_has ls 4 [(0, .ref p0.toNat), (1, .int (iI p1)), (2, .int (iI p2))] := hl
  generalize hQ : MQ below (va_Qi (fun (r : Int32) (_ : Unit) => ∃ z : Int, r = iI z ∧ (rg z) ∧ (z = vat (v (v p0 1)) (chw (v (v p0 3)) (v (v p0 4)) p2 600 (tell0 (v (v p0 0)) p1)))) (fun _ _ => True) A) ([.ref p0.toNat, .int (iI p1), .int (iI p2)] : List Value).toArray s 0 0 A = Q
  suffices ST : ∀ (H : Heap) (locs : List Loc), va_P (dC, dI) vwCl (xG L cid K N v) H → va_S A s.heap H locs → W p l e ({ frames := 1, cells := 0, slots := 0, locals := 24 }) s m ([.ref p0.toNat, .int (iI p1), .int (iI p2)] : List Value).toArray below meth c H locs 0 0 Q (F0 m 0 ls []) from ST _ _ hP hS
  clear hP hS
  intro H locs hP hS
  refine lv_aload_n hx hb dX5_valueOn_0 rfl (lv_at hl 0 rfl) ?_
  refine lv_iload_n hx hb dX5_valueOn_1 rfl (lv_at hl 1 rfl) ?_
  refine lv_iload_n hx hb dX5_valueOn_2 rfl (lv_at hl 2 rfl) ?_
  refine jc_i (va_runV (As := [.int (iI p1), .int (iI p2)]) (rest := []) ⟨hx, hb, hml, hown, hts⟩ (sX5_tellOn l dC dI _ L cid K N tW sK sV v p0 p1 p2 hI q0 (by omega) (by omega)) (cwV 2 hts (jgoodV m_920 m_921 m_922 m_923 m_924) rfl rfl rfl (by decide +kernel) ⟨(Nat.le_of_ble_eq_true rfl), (Nat.le_of_ble_eq_true rfl)⟩) ⟨xP_blind, xrecv hK hP q0 rfl rfl, fun U hU hW => ⟨rfl, xP_of hU hW hP hK hDw hX hS hAw hAA⟩⟩ rfl rfl hl.1 rfl (lv_room (Nat.le_of_ble_eq_true rfl)) dX5_valueOn_3 ⟨(Nat.le_of_ble_eq_true rfl), (Nat.le_of_ble_eq_true rfl)⟩) hP hS hA (fun r_1 H locs w_2 hP hS => ?_)
  obtain ⟨z_3, rfl, h_4, h_5⟩ := w_2
  refine lv_istore_n (i := 3) (lv' := [(3, .int (iI z_3)), (0, .ref p0.toNat), (1, .int (iI p1)), (2, .int (iI p2))]) hx hb dX5_valueOn_6 rfl hl (by decide) rfl (fun ls hl => ?_)
  refine lv_iload_n hx hb dX5_valueOn_7 rfl (lv_at hl 0 rfl) ?_
  refine xr_if_lt (tgt := 27) hx hb dX5_valueOn_8 (by decide) (by omega) (fun h_6 => ?_) (fun h_6 => ?_)
  · refine lv_iconst (v := iI (-1)) hx hb dX5_valueOn_27 rfl ?_
    rw [← hQ]
    exact W.iret (v := iI (-1)) hx hb hr (fun t ht hW => ⟨⟨iI (-1), (), rfl, ⟨(-1), rfl, by omega, by rw [← show z_3 = chw (v (v p0 3)) (v (v p0 4)) p2 600 (tell0 (v (v p0 0)) p1) by assumption]; first | exact (vat_in (by omega) (by omega)).symm | exact (vat_out (by omega)).symm⟩, trivial⟩, hS.F ht⟩) hS.2.2 dX5_valueOn_28
  · refine lv_iload_n hx hb dX5_valueOn_11 rfl (lv_at hl 0 rfl) ?_
    refine lv_sipush (v := iI 600) hx hb dX5_valueOn_12 rfl ?_
    refine xr_icmp_ge (tgt := 27) hx hb dX5_valueOn_15 (by decide) (by omega) (by omega) (fun h_7 => ?_) (fun h_7 => ?_)
    · refine lv_iconst (v := iI (-1)) hx hb dX5_valueOn_27 rfl ?_
      rw [← hQ]
      exact W.iret (v := iI (-1)) hx hb hr (fun t ht hW => ⟨⟨iI (-1), (), rfl, ⟨(-1), rfl, by omega, by rw [← show z_3 = chw (v (v p0 3)) (v (v p0 4)) p2 600 (tell0 (v (v p0 0)) p1) by assumption]; first | exact (vat_in (by omega) (by omega)).symm | exact (vat_out (by omega)).symm⟩, trivial⟩, hS.F ht⟩) hS.2.2 dX5_valueOn_28
    · refine lv_aload_n hx hb dX5_valueOn_18 rfl (lv_at hl 1 rfl) ?_
      have h_8 : ok L K (v p0 1) 43 := xf_5_1 hI q0
      have h_9 : N (v p0 1) = 600 := xn_43 hI h_8
      refine gx_RX5_15 (y := v p0 1) hx hb hj hown hK hP q0 ((xf_5_1 hI q0).1) rfl dX5_valueOn_19 ?_
      refine lv_iload_n hx hb dX5_valueOn_22 rfl (lv_at hl 0 rfl) ?_
      have h_10 : (-2147483648) ≤ v (v p0 1) z_3 ∧ v (v p0 1) z_3 ≤ 2147483647 := xe_43 hI h_8 (by omega)
      refine ax_43 (y := v (v p0 1) z_3) hx hb hK hP h_8 (by omega) (by omega) (by omega) rfl dX5_valueOn_23 ?_
      refine lv_goto (tgt := 28) hx hb dX5_valueOn_24 (by decide) ?_
      rw [← hQ]
      exact W.iret (v := iI (v (v p0 1) z_3)) hx hb hr (fun t ht hW => ⟨⟨iI (v (v p0 1) z_3), (), rfl, ⟨v (v p0 1) z_3, rfl, by omega, by rw [← show z_3 = chw (v (v p0 3)) (v (v p0 4)) p2 600 (tell0 (v (v p0 0)) p1) by assumption]; first | exact (vat_in (by omega) (by omega)).symm | exact (vat_out (by omega)).symm⟩, trivial⟩, hS.F ht⟩) hS.2.2 dX5_valueOn_28
set_option maxHeartbeats 2000000 in
set_option maxRecDepth 100000 in
theorem sX5_sourceOn (l : Launch) (dC : Nat → ClassId) (dI : Nat → Nat → Nat) (sz : Nat) (L : List Nat) (cid : Nat → ClassId) (K : Int → Nat) (N : Int → Int) (tW : Nat) (sK sV : Nat → Nat) (v : Int → Int → Int) (p0 : Int) (p1 : Int) (p2 : Int) (hI : xI L K N v) (q0 : ok L K p0 5) (q1 : rg p1) (q2 : rg p2) : Met l yX5_sourceOn (jk yX5_sourceOn cX5_sourceOn 4 (some .int)) ({ frames := 1, cells := 0, slots := 0, locals := 24 }) (va_Pc [.ref p0.toNat, .int (iI p1), .int (iI p2)] (xP (dC, dI) (xG L cid K N v) (xT cid) tW sK sV sz)) (va_Qi (fun (r : Int32) (_ : Unit) => ∃ z : Int, r = iI z ∧ (rg z) ∧ (z = vat (v (v p0 2)) (chw (v (v p0 3)) (v (v p0 4)) p2 600 (tell0 (v (v p0 0)) p1)))) (fun _ _ => True) (va_A [] sz)) 0 0 (va_A [] sz) := by
  refine Met.ofW (cc := cX5_sourceOn) (maxL := 4) (ret := (some .int)) (by decide) rfl ?_
  intro p e s m args below meth c s₁ B hml hv
  obtain ⟨rfl, ⟨hsz, hP, hK, hD0⟩, hX⟩ := hv
  have hx := B.exec
  have hb := B.bytes
  have hr := B.returns
  have hts := atoms_spec (ws := (jk yX5_sourceOn cX5_sourceOn 4 (some .int))) B.pre
  have hj : ∀ w ∈ jw, w.before ([.ref p0.toNat, .int (iI p1), .int (iI p2)] : List Value).toArray s = true := fun w h => hts w (jm h)
  have hown : s.vm.findClass RX5 = some m.cls := findClass_of_methodNamed B.named
  subst hsz
  have hDw := hD0.self (sz := s.heap.size)
  have hAA : ∀ q : Nat, s.heap.size ≤ q → va_A (xG L cid K N v) s.heap.size q := fun q h => Or.inr h
  have hAw : ∀ q, va_A [] s.heap.size q → va_A (xG L cid K N v) s.heap.size q := ja_nil va_S.rf hAA
  generalize hAe : (va_A [] s.heap.size) = A at hAw ⊢
  have hA : ∀ q : Nat, s.heap.size ≤ q → A q := fun q h => by rw [← hAe]; exact Or.inr h
  have hS : va_S A s.heap s.heap [] := va_S.rf
  have hXa := hX.nar hAw
  have hP : va_P (dC, dI) vwCl (xG L cid K N v) s.heap := hP
  have hl := lv_entry ([.ref p0.toNat, .int (iI p1), .int (iI p2)]) (n := 4) (Nat.le_of_ble_eq_true rfl)
  rw [lg_entry_eq]
  generalize (lg_sl ([.ref p0.toNat, .int (iI p1), .int (iI p2)]) ++ List.replicate (4 - (lg_sl ([.ref p0.toNat, .int (iI p1), .int (iI p2)])).length) Slot.unset).toArray = ls at hl ⊢
  have hl : lv_has ls 4 [(0, .ref p0.toNat), (1, .int (iI p1)), (2, .int (iI p2))] := hl
  generalize hQ : MQ below (va_Qi (fun (r : Int32) (_ : Unit) => ∃ z : Int, r = iI z ∧ (rg z) ∧ (z = vat (v (v p0 2)) (chw (v (v p0 3)) (v (v p0 4)) p2 600 (tell0 (v (v p0 0)) p1)))) (fun _ _ => True) A) ([.ref p0.toNat, .int (iI p1), .int (iI p2)] : List Value).toArray s 0 0 A = Q
  suffices ST : ∀ (H : Heap) (locs : List Loc), va_P (dC, dI) vwCl (xG L cid K N v) H → va_S A s.heap H locs → W p l e ({ frames := 1, cells := 0, slots := 0, locals := 24 }) s m ([.ref p0.toNat, .int (iI p1), .int (iI p2)] : List Value).toArray below meth c H locs 0 0 Q (F0 m 0 ls []) from ST _ _ hP hS
  clear hP hS
  intro H locs hP hS
  refine lv_aload_n hx hb dX5_sourceOn_0 rfl (lv_at hl 0 rfl) ?_
  refine lv_iload_n hx hb dX5_sourceOn_1 rfl (lv_at hl 1 rfl) ?_
  refine lv_iload_n hx hb dX5_sourceOn_2 rfl (lv_at hl 2 rfl) ?_
  refine jc_i (va_runV (As := [.int (iI p1), .int (iI p2)]) (rest := []) ⟨hx, hb, hml, hown, hts⟩ (sX5_tellOn l dC dI _ L cid K N tW sK sV v p0 p1 p2 hI q0 (by omega) (by omega)) (cwV 2 hts (jgoodV m_920 m_921 m_922 m_923 m_924) rfl rfl rfl (by decide +kernel) ⟨(Nat.le_of_ble_eq_true rfl), (Nat.le_of_ble_eq_true rfl)⟩) ⟨xP_blind, xrecv hK hP q0 rfl rfl, fun U hU hW => ⟨rfl, xP_of hU hW hP hK hDw hX hS hAw hAA⟩⟩ rfl rfl hl.1 rfl (lv_room (Nat.le_of_ble_eq_true rfl)) dX5_sourceOn_3 ⟨(Nat.le_of_ble_eq_true rfl), (Nat.le_of_ble_eq_true rfl)⟩) hP hS hA (fun r_1 H locs w_2 hP hS => ?_)
  obtain ⟨z_3, rfl, h_4, h_5⟩ := w_2
  refine lv_istore_n (i := 3) (lv' := [(3, .int (iI z_3)), (0, .ref p0.toNat), (1, .int (iI p1)), (2, .int (iI p2))]) hx hb dX5_sourceOn_6 rfl hl (by decide) rfl (fun ls hl => ?_)
  refine lv_iload_n hx hb dX5_sourceOn_7 rfl (lv_at hl 0 rfl) ?_
  refine xr_if_lt (tgt := 27) hx hb dX5_sourceOn_8 (by decide) (by omega) (fun h_6 => ?_) (fun h_6 => ?_)
  · refine lv_iconst (v := iI (-1)) hx hb dX5_sourceOn_27 rfl ?_
    rw [← hQ]
    exact W.iret (v := iI (-1)) hx hb hr (fun t ht hW => ⟨⟨iI (-1), (), rfl, ⟨(-1), rfl, by omega, by rw [← show z_3 = chw (v (v p0 3)) (v (v p0 4)) p2 600 (tell0 (v (v p0 0)) p1) by assumption]; first | exact (vat_in (by omega) (by omega)).symm | exact (vat_out (by omega)).symm⟩, trivial⟩, hS.F ht⟩) hS.2.2 dX5_sourceOn_28
  · refine lv_iload_n hx hb dX5_sourceOn_11 rfl (lv_at hl 0 rfl) ?_
    refine lv_sipush (v := iI 600) hx hb dX5_sourceOn_12 rfl ?_
    refine xr_icmp_ge (tgt := 27) hx hb dX5_sourceOn_15 (by decide) (by omega) (by omega) (fun h_7 => ?_) (fun h_7 => ?_)
    · refine lv_iconst (v := iI (-1)) hx hb dX5_sourceOn_27 rfl ?_
      rw [← hQ]
      exact W.iret (v := iI (-1)) hx hb hr (fun t ht hW => ⟨⟨iI (-1), (), rfl, ⟨(-1), rfl, by omega, by rw [← show z_3 = chw (v (v p0 3)) (v (v p0 4)) p2 600 (tell0 (v (v p0 0)) p1) by assumption]; first | exact (vat_in (by omega) (by omega)).symm | exact (vat_out (by omega)).symm⟩, trivial⟩, hS.F ht⟩) hS.2.2 dX5_sourceOn_28
    · refine lv_aload_n hx hb dX5_sourceOn_18 rfl (lv_at hl 1 rfl) ?_
      have h_8 : ok L K (v p0 2) 44 := xf_5_2 hI q0
      have h_9 : N (v p0 2) = 600 := xn_44 hI h_8
      refine gx_RX5_18 (y := v p0 2) hx hb hj hown hK hP q0 ((xf_5_2 hI q0).1) rfl dX5_sourceOn_19 ?_
      refine lv_iload_n hx hb dX5_sourceOn_22 rfl (lv_at hl 0 rfl) ?_
      have h_10 : (-2147483648) ≤ v (v p0 2) z_3 ∧ v (v p0 2) z_3 ≤ 2147483647 := xe_44 hI h_8 (by omega)
      refine ax_44 (y := v (v p0 2) z_3) hx hb hK hP h_8 (by omega) (by omega) (by omega) rfl dX5_sourceOn_23 ?_
      refine lv_goto (tgt := 28) hx hb dX5_sourceOn_24 (by decide) ?_
      rw [← hQ]
      exact W.iret (v := iI (v (v p0 2) z_3)) hx hb hr (fun t ht hW => ⟨⟨iI (v (v p0 2) z_3), (), rfl, ⟨v (v p0 2) z_3, rfl, by omega, by rw [← show z_3 = chw (v (v p0 3)) (v (v p0 4)) p2 600 (tell0 (v (v p0 0)) p1) by assumption]; first | exact (vat_in (by omega) (by omega)).symm | exact (vat_out (by omega)).symm⟩, trivial⟩, hS.F ht⟩) hS.2.2 dX5_sourceOn_28
set_option maxHeartbeats 2000000 in
set_option maxRecDepth 100000 in
theorem sX5_addErratum (l : Launch) (dC : Nat → ClassId) (dI : Nat → Nat → Nat) (sz : Nat) (L : List Nat) (cid : Nat → ClassId) (K : Int → Nat) (N : Int → Int) (tW : Nat) (sK sV : Nat → Nat) (v : Int → Int → Int) (p0 : Int) (p1 : Int) (p2 : Int) (p3 : Int) (p4 : Int) (p5 : Int) (hI : xI L K N v) (q0 : ok L K p0 5) (q1 : rg p1) (q2 : rg p2) (q3 : rg p3) (q4 : rg p4) (q5 : 0 ≤ p5 ∧ p5 ≤ 1) : Met l yX5_addErratum (jk yX5_addErratum cX5_addErratum 6 (some .int)) ({ frames := 0, cells := 0, slots := 0, locals := 0 }) (va_Pc [.ref p0.toNat, .int (iI p1), .int (iI p2), .int (iI p3), .int (iI p4), .int (iI p5)] (xP (dC, dI) (xG L cid K N v) (xT cid) tW sK sV sz)) (va_Qi (fun (r : Int32) (u : (Int → Int → Int)) => ∃ z : Int, r = iI z ∧ (xI L K N u) ∧ (fr K [(5, 11), (47, (-1)), (48, (-1)), (49, (-1)), (50, (-1)), (51, (-1))] u v) ∧ (rg z)) (fun u t => va_P (dC, dI) vwCl (xG L cid K N u) t.heap ∧ va_K (dC, dI) vwCl (xT cid) t ∧ va_D (va_A (xG L cid K N v) sz) (xG L cid K N u)) (va_A (xG L cid K N v) sz)) 0 0 (va_A (xG L cid K N v) sz) := by
  refine Met.ofW (cc := cX5_addErratum) (maxL := 6) (ret := (some .int)) (by decide) rfl ?_
  intro p e s m args below meth c s₁ B hml hv
  obtain ⟨rfl, ⟨hsz, hP, hK, hD0⟩, hX⟩ := hv
  have hx := B.exec
  have hb := B.bytes
  have hr := B.returns
  have hts := atoms_spec (ws := (jk yX5_addErratum cX5_addErratum 6 (some .int))) B.pre
  have hj : ∀ w ∈ jw, w.before ([.ref p0.toNat, .int (iI p1), .int (iI p2), .int (iI p3), .int (iI p4), .int (iI p5)] : List Value).toArray s = true := fun w h => hts w (jm h)
  have hown : s.vm.findClass RX5 = some m.cls := findClass_of_methodNamed B.named
  subst hsz
  have hD := hD0.self (sz := s.heap.size)
  generalize hAe : (va_A (xG L cid K N v) s.heap.size) = A at hD hX ⊢
  have hA : ∀ q : Nat, s.heap.size ≤ q → A q := fun q h => by rw [← hAe]; exact Or.inr h
  have hS : va_S A s.heap s.heap [] := va_S.rf
  have hXa := hX
  have hP : va_P (dC, dI) vwCl (xG L cid K N v) s.heap := hP
  have hl := lv_entry ([.ref p0.toNat, .int (iI p1), .int (iI p2), .int (iI p3), .int (iI p4), .int (iI p5)]) (n := 6) (Nat.le_of_ble_eq_true rfl)
  rw [lg_entry_eq]
  generalize (lg_sl ([.ref p0.toNat, .int (iI p1), .int (iI p2), .int (iI p3), .int (iI p4), .int (iI p5)]) ++ List.replicate (6 - (lg_sl ([.ref p0.toNat, .int (iI p1), .int (iI p2), .int (iI p3), .int (iI p4), .int (iI p5)])).length) Slot.unset).toArray = ls at hl ⊢
  have hl : lv_has ls 6 [(0, .ref p0.toNat), (1, .int (iI p1)), (2, .int (iI p2)), (3, .int (iI p3)), (4, .int (iI p4)), (5, .int (iI p5))] := hl
  generalize hQ : MQ below (va_Qi (fun (r : Int32) (u : (Int → Int → Int)) => ∃ z : Int, r = iI z ∧ (xI L K N u) ∧ (fr K [(5, 11), (47, (-1)), (48, (-1)), (49, (-1)), (50, (-1)), (51, (-1))] u v) ∧ (rg z)) (fun u t => va_P (dC, dI) vwCl (xG L cid K N u) t.heap ∧ va_K (dC, dI) vwCl (xT cid) t ∧ va_D A (xG L cid K N u)) A) ([.ref p0.toNat, .int (iI p1), .int (iI p2), .int (iI p3), .int (iI p4), .int (iI p5)] : List Value).toArray s 0 0 A = Q
  suffices ST : ∀ (H : Heap) (locs : List Loc), va_P (dC, dI) vwCl (xG L cid K N v) H → va_S A s.heap H locs → W p l e ({ frames := 0, cells := 0, slots := 0, locals := 0 }) s m ([.ref p0.toNat, .int (iI p1), .int (iI p2), .int (iI p3), .int (iI p4), .int (iI p5)] : List Value).toArray below meth c H locs 0 0 Q (F0 m 0 ls []) from ST _ _ hP hS
  clear hP hS
  intro H locs hP hS
  refine lv_aload_n hx hb dX5_addErratum_0 rfl (lv_at hl 0 rfl) ?_
  have h_1 : (-2147483648) ≤ v p0 11 ∧ v p0 11 ≤ 2147483647 := xf_5_11 hI q0
  refine gx_RX5_57 (y := v p0 11) hx hb hj hown hK hP q0 rfl dX5_addErratum_1 ?_
  refine xr_if_lt (tgt := 16) hx hb dX5_addErratum_4 (by decide) (by omega) (fun h_2 => ?_) (fun h_2 => ?_)
  · refine lv_iconst (v := iI (-1)) hx hb dX5_addErratum_16 rfl ?_
    rw [← hQ]
    exact W.iret (v := iI (-1)) hx hb hr (fun t ht hW => ⟨⟨iI (-1), v, rfl, ⟨(-1), rfl, hI, fr_rf, by omega⟩, by rw [ht]; exact hP, va_K.moved hW.alike hK, hD⟩, hS.F ht⟩) hS.2.2 dX5_addErratum_17
  · refine lv_aload_n hx hb dX5_addErratum_7 rfl (lv_at hl 0 rfl) ?_
    refine gx_RX5_57 (y := v p0 11) hx hb hj hown hK hP q0 rfl dX5_addErratum_8 ?_
    refine lv_bipush (v := iI 60) hx hb dX5_addErratum_11 rfl ?_
    refine xr_icmp_lt (tgt := 18) hx hb dX5_addErratum_13 (by decide) (by omega) (by omega) (fun h_3 => ?_) (fun h_3 => ?_)
    · refine lv_aload_n hx hb dX5_addErratum_18 rfl (lv_at hl 0 rfl) ?_
      have h_4 : ok L K (v p0 6) 47 := xf_5_6 hI q0
      have h_5 : N (v p0 6) = 60 := xn_47 hI h_4
      refine gx_RX5_27 (y := v p0 6) hx hb hj hown hK hP q0 ((xf_5_6 hI q0).1) rfl dX5_addErratum_19 ?_
      refine lv_aload_n hx hb dX5_addErratum_22 rfl (lv_at hl 0 rfl) ?_
      refine gx_RX5_57 (y := v p0 11) hx hb hj hown hK hP q0 rfl dX5_addErratum_23 ?_
      refine lv_iload_n hx hb dX5_addErratum_26 rfl (lv_at hl 1 rfl) ?_
      refine sx_47 (y := p1) hx hb hK hP hD hS hI h_4 (by omega) (by omega) (by omega) ⟨by omega, by omega⟩ dX5_addErratum_27 (fun v_6 H locs f_7 e_8 o_9 I_10 hP hD hS => ?_)
      refine lv_aload_n hx hb dX5_addErratum_28 rfl (lv_at hl 0 rfl) ?_
      have h_11 : ok L K (v p0 7) 48 := xf_5_7 hI q0
      have h_12 : N (v p0 7) = 60 := xn_48 hI h_11
      refine gx_RX5_30 (y := v p0 7) hx hb hj hown hK hP q0 ((xf_5_7 I_10 q0).1) (fr_use q0 f_7 rfl) dX5_addErratum_29 ?_
      refine lv_aload_n hx hb dX5_addErratum_32 rfl (lv_at hl 0 rfl) ?_
      refine gx_RX5_57 (y := v p0 11) hx hb hj hown hK hP q0 (fr_use q0 f_7 rfl) dX5_addErratum_33 ?_
      refine lv_iload_n hx hb dX5_addErratum_36 rfl (lv_at hl 2 rfl) ?_
      refine sx_48 (y := p2) hx hb hK hP hD hS I_10 h_11 (by omega) (by omega) (by omega) ⟨by omega, by omega⟩ dX5_addErratum_37 (fun v_13 H locs f_14 e_15 o_16 I_17 hP hD hS => ?_)
      refine lv_aload_n hx hb dX5_addErratum_38 rfl (lv_at hl 0 rfl) ?_
      have h_18 : ok L K (v p0 8) 49 := xf_5_8 hI q0
      have h_19 : N (v p0 8) = 60 := xn_49 hI h_18
      refine gx_RX5_33 (y := v p0 8) hx hb hj hown hK hP q0 ((xf_5_8 I_17 q0).1) (((fr_use q0 f_14 rfl)).trans (fr_use q0 f_7 rfl)) dX5_addErratum_39 ?_
      refine lv_aload_n hx hb dX5_addErratum_42 rfl (lv_at hl 0 rfl) ?_
      refine gx_RX5_57 (y := v p0 11) hx hb hj hown hK hP q0 (((fr_use q0 f_14 rfl)).trans (fr_use q0 f_7 rfl)) dX5_addErratum_43 ?_
      refine lv_iload_n hx hb dX5_addErratum_46 rfl (lv_at hl 3 rfl) ?_
      refine sx_49 (y := p3) hx hb hK hP hD hS I_17 h_18 (by omega) (by omega) (by omega) ⟨by omega, by omega⟩ dX5_addErratum_47 (fun v_20 H locs f_21 e_22 o_23 I_24 hP hD hS => ?_)
      refine lv_aload_n hx hb dX5_addErratum_48 rfl (lv_at hl 0 rfl) ?_
      have h_25 : ok L K (v p0 9) 50 := xf_5_9 hI q0
      have h_26 : N (v p0 9) = 60 := xn_50 hI h_25
      refine gx_RX5_36 (y := v p0 9) hx hb hj hown hK hP q0 ((xf_5_9 I_24 q0).1) (((fr_use q0 f_21 rfl)).trans (((fr_use q0 f_14 rfl)).trans (fr_use q0 f_7 rfl))) dX5_addErratum_49 ?_
      refine lv_aload_n hx hb dX5_addErratum_52 rfl (lv_at hl 0 rfl) ?_
      refine gx_RX5_57 (y := v p0 11) hx hb hj hown hK hP q0 (((fr_use q0 f_21 rfl)).trans (((fr_use q0 f_14 rfl)).trans (fr_use q0 f_7 rfl))) dX5_addErratum_53 ?_
      refine lv_iload hx hb dX5_addErratum_56 (lv_at hl 4 rfl) ?_
      refine sx_50 (y := p4) hx hb hK hP hD hS I_24 h_25 (by omega) (by omega) (by omega) ⟨by omega, by omega⟩ dX5_addErratum_58 (fun v_27 H locs f_28 e_29 o_30 I_31 hP hD hS => ?_)
      refine lv_aload_n hx hb dX5_addErratum_59 rfl (lv_at hl 0 rfl) ?_
      have h_32 : ok L K (v p0 10) 51 := xf_5_10 hI q0
      have h_33 : N (v p0 10) = 60 := xn_51 hI h_32
      refine gx_RX5_39 (y := v p0 10) hx hb hj hown hK hP q0 ((xf_5_10 I_31 q0).1) (((fr_use q0 f_28 rfl)).trans (((fr_use q0 f_21 rfl)).trans (((fr_use q0 f_14 rfl)).trans (fr_use q0 f_7 rfl)))) dX5_addErratum_60 ?_
      refine lv_aload_n hx hb dX5_addErratum_63 rfl (lv_at hl 0 rfl) ?_
      refine gx_RX5_57 (y := v p0 11) hx hb hj hown hK hP q0 (((fr_use q0 f_28 rfl)).trans (((fr_use q0 f_21 rfl)).trans (((fr_use q0 f_14 rfl)).trans (fr_use q0 f_7 rfl)))) dX5_addErratum_64 ?_
      refine lv_iload hx hb dX5_addErratum_67 (lv_at hl 5 rfl) ?_
      refine sx_51 (y := p5) hx hb hK hP hD hS I_31 h_32 (by omega) (by omega) (by omega) ⟨by omega, by omega⟩ dX5_addErratum_69 (fun v_34 H locs f_35 e_36 o_37 I_38 hP hD hS => ?_)
      refine lv_aload_n hx hb dX5_addErratum_70 rfl (lv_at hl 0 rfl) ?_
      refine lv_dup hx hb dX5_addErratum_71 rfl ?_
      refine gx_RX5_57 (y := v p0 11) hx hb hj hown hK hP q0 (((fr_use q0 f_35 rfl)).trans (((fr_use q0 f_28 rfl)).trans (((fr_use q0 f_21 rfl)).trans (((fr_use q0 f_14 rfl)).trans (fr_use q0 f_7 rfl))))) dX5_addErratum_72 ?_
      refine lv_iconst (v := iI 1) hx hb dX5_addErratum_75 rfl ?_
      refine xr_add hx hb dX5_addErratum_76 ?_
      refine xr_kept (fun z_39 h_40 h_41 => ?_)
      refine px_RX5_57 (y := z_39) hx hb hj hown hK hP hD hS I_38 q0 ⟨by omega, by omega⟩ dX5_addErratum_77 (fun v_42 H locs f_43 e_44 o_45 I_46 hP hD hS => ?_)
      refine lv_aload_n hx hb dX5_addErratum_80 rfl (lv_at hl 0 rfl) ?_
      refine gx_RX5_57 (y := z_39) hx hb hj hown hK hP q0 e_44 dX5_addErratum_81 ?_
      refine lv_iconst (v := iI 1) hx hb dX5_addErratum_84 rfl ?_
      refine xr_sub hx hb dX5_addErratum_85 ?_
      refine xr_kept (fun z_47 h_48 h_49 => ?_)
      rw [← hQ]
      exact W.iret (v := iI z_47) hx hb hr (fun t ht hW => ⟨⟨iI z_47, v_42, rfl, ⟨z_47, rfl, I_46, (fr_tr f_43 rfl (fr_tr f_35 rfl (fr_tr f_28 rfl (fr_tr f_21 rfl (fr_tr f_14 rfl (fr_tr f_7 rfl fr_rf)))))), by omega⟩, by rw [ht]; exact hP, va_K.moved hW.alike hK, hD⟩, hS.F ht⟩) hS.2.2 dX5_addErratum_86
    · refine lv_iconst (v := iI (-1)) hx hb dX5_addErratum_16 rfl ?_
      rw [← hQ]
      exact W.iret (v := iI (-1)) hx hb hr (fun t ht hW => ⟨⟨iI (-1), v, rfl, ⟨(-1), rfl, hI, fr_rf, by omega⟩, by rw [ht]; exact hP, va_K.moved hW.alike hK, hD⟩, hS.F ht⟩) hS.2.2 dX5_addErratum_17
