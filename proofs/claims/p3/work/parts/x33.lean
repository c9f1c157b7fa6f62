set_option maxHeartbeats 2000000 in
set_option maxRecDepth 100000 in
theorem sX7_byteAt (l : Launch) (dC : Nat → ClassId) (dI : Nat → Nat → Nat) (sz : Nat) (L : List Nat) (cid : Nat → ClassId) (K : Int → Nat) (N : Int → Int) (tW : Nat) (sK sV : Nat → Nat) (v : Int → Int → Int) (tT : Int → Int) (tN : Int) (p0 : Int) (p1 : Int) (hI : xI L K N v) (q0 : ok L K p0 7) (q1 : rg p1) (k1 : txt tT tN v p0) : Met l yX7_byteAt (jk yX7_byteAt cX7_byteAt 2 (some .int)) ({ frames := 0, cells := 0, slots := 0, locals := 0 }) (va_Pc [.ref p0.toNat, .int (iI p1)] (xP (dC, dI) (xG L cid K N v) (xT cid) tW sK sV sz)) (va_Qi (fun (r : Int32) (_ : Unit) => ∃ z : Int, r = iI z ∧ (0 ≤ z ∧ z ≤ 255) ∧ (z = tT p1)) (fun _ _ => True) (va_A [] sz)) 0 0 (va_A [] sz) := by
  refine Met.ofW (cc := cX7_byteAt) (maxL := 2) (ret := (some .int)) (by decide) rfl ?_
  intro p e s m args below meth c s₁ B hml hv
  obtain ⟨rfl, ⟨hsz, hP, hK, hD0⟩, hX⟩ := hv
  have hx := B.exec
  have hb := B.bytes
  have hr := B.returns
  have hts := atoms_spec (ws := (jk yX7_byteAt cX7_byteAt 2 (some .int))) B.pre
  have hj : ∀ w ∈ jw, w.before ([.ref p0.toNat, .int (iI p1)] : List Value).toArray s = true := fun w h => hts w (jm h)
  have hown : s.vm.findClass RX7 = some m.cls := findClass_of_methodNamed B.named
  subst hsz
  have hDw := hD0.self (sz := s.heap.size)
  have hAA : ∀ q : Nat, s.heap.size ≤ q → va_A (xG L cid K N v) s.heap.size q := fun q h => Or.inr h
  have hAw : ∀ q, va_A [] s.heap.size q → va_A (xG L cid K N v) s.heap.size q := ja_nil va_S.rf hAA
  generalize hAe : (va_A [] s.heap.size) = A at hAw ⊢
  have hA : ∀ q : Nat, s.heap.size ≤ q → A q := fun q h => by rw [← hAe]; exact Or.inr h
  have hS : va_S A s.heap s.heap [] := va_S.rf
  have hXa := hX.nar hAw
  have hP : va_P (dC, dI) vwCl (xG L cid K N v) s.heap := hP
  have hl := lv_entry ([.ref p0.toNat, .int (iI p1)]) (n := 2) (Nat.le_of_ble_eq_true rfl)
  rw [lg_entry_eq]
  generalize (lg_sl ([.ref p0.toNat, .int (iI p1)]) ++ List.replicate (2 - (lg_sl ([.ref p0.toNat, .int (iI p1)])).length) Slot.unset).toArray = ls at hl ⊢
  have hl : lv_has ls 2 [(0, .ref p0.toNat), (1, .int (iI p1))] := hl
  generalize hQ : MQ below (va_Qi (fun (r : Int32) (_ : Unit) => ∃ z : Int, r = iI z ∧ (0 ≤ z ∧ z ≤ 255) ∧ (z = tT p1)) (fun _ _ => True) A) ([.ref p0.toNat, .int (iI p1)] : List Value).toArray s 0 0 A = Q
  suffices ST : ∀ (H : Heap) (locs : List Loc), va_P (dC, dI) vwCl (xG L cid K N v) H → va_S A s.heap H locs → W p l e ({ frames := 0, cells := 0, slots := 0, locals := 0 }) s m ([.ref p0.toNat, .int (iI p1)] : List Value).toArray below meth c H locs 0 0 Q (F0 m 0 ls []) from ST _ _ hP hS
  clear hP hS
  intro H locs hP hS
  refine lv_iload_n hx hb dX7_byteAt_0 rfl (lv_at hl 1 rfl) ?_
  refine xr_if_lt (tgt := 32) hx hb dX7_byteAt_1 (by decide) (by omega) (fun h_1 => ?_) (fun h_1 => ?_)
  · refine lv_iconst (v := iI 0) hx hb dX7_byteAt_32 rfl ?_
    rw [← hQ]
    exact W.iret (v := iI 0) hx hb hr (fun t ht hW => ⟨⟨iI 0, (), rfl, ⟨0, rfl, by omega, by first | exact txt_in hI q0 k1 (by omega) (by omega) | exact txt_out k1 (by omega)⟩, trivial⟩, hS.F ht⟩) hS.2.2 dX7_byteAt_33
  · refine lv_iload_n hx hb dX7_byteAt_4 rfl (lv_at hl 1 rfl) ?_
    refine lv_aload_n hx hb dX7_byteAt_5 rfl (lv_at hl 0 rfl) ?_
    have h_2 : 0 ≤ v p0 1 ∧ v p0 1 ≤ 600 := xf_7_1 hI q0
    refine gx_RX7_43 (y := v p0 1) hx hb hj hown hK hP q0 rfl dX7_byteAt_6 ?_
    refine xr_icmp_ge (tgt := 32) hx hb dX7_byteAt_9 (by decide) (by omega) (by omega) (fun h_3 => ?_) (fun h_3 => ?_)
    · refine lv_iconst (v := iI 0) hx hb dX7_byteAt_32 rfl ?_
      rw [← hQ]
      exact W.iret (v := iI 0) hx hb hr (fun t ht hW => ⟨⟨iI 0, (), rfl, ⟨0, rfl, by omega, by first | exact txt_in hI q0 k1 (by omega) (by omega) | exact txt_out k1 (by omega)⟩, trivial⟩, hS.F ht⟩) hS.2.2 dX7_byteAt_33
    · refine lv_iload_n hx hb dX7_byteAt_12 rfl (lv_at hl 1 rfl) ?_
      refine lv_sipush (v := iI 600) hx hb dX7_byteAt_13 rfl ?_
      refine xr_icmp_ge (tgt := 32) hx hb dX7_byteAt_16 (by decide) (by omega) (by omega) (fun h_4 => ?_) (fun h_4 => ?_)
      · exfalso; omega
      · refine lv_aload_n hx hb dX7_byteAt_19 rfl (lv_at hl 0 rfl) ?_
        have h_5 : ok L K (v p0 0) 20 := xf_7_0 hI q0
        have h_6 : N (v p0 0) = 600 := xn_20 hI h_5
        refine gx_RX7_11 (y := v p0 0) hx hb hj hown hK hP q0 ((xf_7_0 hI q0).1) rfl dX7_byteAt_20 ?_
        refine lv_iload_n hx hb dX7_byteAt_23 rfl (lv_at hl 1 rfl) ?_
        have h_7 : (-128) ≤ v (v p0 0) p1 ∧ v (v p0 0) p1 ≤ 127 := xe_20 hI h_5 (by omega)
        refine ax_20 (y := v (v p0 0) p1) hx hb hK hP h_5 (by omega) (by omega) (by omega) rfl dX7_byteAt_24 ?_
        refine lv_sipush (v := iI 255) hx hb dX7_byteAt_25 rfl ?_
        refine lv_iand hx hb dX7_byteAt_28 ?_
        refine jt_i (iI (zand (v (v p0 0) p1) 255)) (iI_of _) ?_
        have h_8 : rg (zand (v (v p0 0) p1) 255) := rg_of _
        have h_9 : 0 ≤ zand (v (v p0 0) p1) 255 ∧ zand (v (v p0 0) p1) 255 ≤ 255 := zand_b (by omega) (by omega)
        refine lv_goto (tgt := 33) hx hb dX7_byteAt_29 (by decide) ?_
        rw [← hQ]
        exact W.iret (v := iI (zand (v (v p0 0) p1) 255)) hx hb hr (fun t ht hW => ⟨⟨iI (zand (v (v p0 0) p1) 255), (), rfl, ⟨zand (v (v p0 0) p1) 255, rfl, by omega, by first | exact txt_in hI q0 k1 (by omega) (by omega) | exact txt_out k1 (by omega)⟩, trivial⟩, hS.F ht⟩) hS.2.2 dX7_byteAt_33
set_option maxHeartbeats 2000000 in
set_option maxRecDepth 100000 in
theorem sX7_readSkip (l : Launch) (dC : Nat → ClassId) (dI : Nat → Nat → Nat) (sz : Nat) (L : List Nat) (cid : Nat → ClassId) (K : Int → Nat) (N : Int → Int) (tW : Nat) (sK sV : Nat → Nat) (v : Int → Int → Int) (tT : Int → Int) (tN : Int) (p0 : Int) (hI : xI L K N v) (q0 : ok L K p0 7) (k1 : tks tT tN v p0) (k2 : 0 ≤ v p0 7 ∧ v p0 7 < v p0 6) (k3 : v p0 8 = -1) : Met l yX7_readSkip (jk yX7_readSkip cX7_readSkip 4 none) ({ frames := 1, cells := 0, slots := 0, locals := 21 }) (va_Pc [.ref p0.toNat] (xP (dC, dI) (xG L cid K N v) (xT cid) tW sK sV sz)) (va_Qv (fun (u : (Int → Int → Int)) => (xI L K N u) ∧ (fr K [(7, 7), (7, 8), (7, 14), (28, (-1))] u v) ∧ ((u p0 8 ≠ -1 ∧ u p0 8 = tkx tT tN (v p0 7) ∧ u p0 7 = v p0 7 ∧ (tkd tT tN (tkx tT tN (v p0 7)) ≠ 1 ∨ 8 < ten tT tN (tkx tT tN (v p0 7)) - tkx tT tN (v p0 7) ∨ v p0 14 = 4)) ∨ (u p0 8 = -1 ∧ tkd tT tN (tkx tT tN (v p0 7)) = 1 ∧ ten tT tN (tkx tT tN (v p0 7)) - tkx tT tN (v p0 7) ≤ 8 ∧ v p0 14 ≠ 4 ∧ u p0 14 = v p0 14 + 1 ∧ u p0 7 = v p0 7 + 1)) ∧ (0 ≤ u p0 7 ∧ v p0 7 ≤ u p0 7 ∧ u p0 7 < v p0 6)) (fun u t => va_P (dC, dI) vwCl (xG L cid K N u) t.heap ∧ va_K (dC, dI) vwCl (xT cid) t ∧ va_D (va_A (xG L cid K N v) sz) (xG L cid K N u)) (va_A (xG L cid K N v) sz)) 0 0 (va_A (xG L cid K N v) sz) := by
  refine Met.ofW (cc := cX7_readSkip) (maxL := 4) (ret := none) (by decide) rfl ?_
  intro p e s m args below meth c s₁ B hml hv
  obtain ⟨rfl, ⟨hsz, hP, hK, hD0⟩, hX⟩ := hv
  have hx := B.exec
  have hb := B.bytes
  have hr := B.returns
  have hts := atoms_spec (ws := (jk yX7_readSkip cX7_readSkip 4 none)) B.pre
  have hj : ∀ w ∈ jw, w.before ([.ref p0.toNat] : List Value).toArray s = true := fun w h => hts w (jm h)
  have hown : s.vm.findClass RX7 = some m.cls := findClass_of_methodNamed B.named
  subst hsz
  have hD := hD0.self (sz := s.heap.size)
  generalize hAe : (va_A (xG L cid K N v) s.heap.size) = A at hD hX ⊢
  have hA : ∀ q : Nat, s.heap.size ≤ q → A q := fun q h => by rw [← hAe]; exact Or.inr h
  have hS : va_S A s.heap s.heap [] := va_S.rf
  have hXa := hX
  have hP : va_P (dC, dI) vwCl (xG L cid K N v) s.heap := hP
  have hl := lv_entry ([.ref p0.toNat]) (n := 4) (Nat.le_of_ble_eq_true rfl)
  rw [lg_entry_eq]
  generalize (lg_sl ([.ref p0.toNat]) ++ List.replicate (4 - (lg_sl ([.ref p0.toNat])).length) Slot.unset).toArray = ls at hl ⊢
  have hl : lv_has ls 4 [(0, .ref p0.toNat)] := hl
  generalize hQ : MQ below (va_Qv (fun (u : (Int → Int → Int)) => (xI L K N u) ∧ (fr K [(7, 7), (7, 8), (7, 14), (28, (-1))] u v) ∧ ((u p0 8 ≠ -1 ∧ u p0 8 = tkx tT tN (v p0 7) ∧ u p0 7 = v p0 7 ∧ (tkd tT tN (tkx tT tN (v p0 7)) ≠ 1 ∨ 8 < ten tT tN (tkx tT tN (v p0 7)) - tkx tT tN (v p0 7) ∨ v p0 14 = 4)) ∨ (u p0 8 = -1 ∧ tkd tT tN (tkx tT tN (v p0 7)) = 1 ∧ ten tT tN (tkx tT tN (v p0 7)) - tkx tT tN (v p0 7) ≤ 8 ∧ v p0 14 ≠ 4 ∧ u p0 14 = v p0 14 + 1 ∧ u p0 7 = v p0 7 + 1)) ∧ (0 ≤ u p0 7 ∧ v p0 7 ≤ u p0 7 ∧ u p0 7 < v p0 6)) (fun u t => va_P (dC, dI) vwCl (xG L cid K N u) t.heap ∧ va_K (dC, dI) vwCl (xT cid) t ∧ va_D A (xG L cid K N u)) A) ([.ref p0.toNat] : List Value).toArray s 0 0 A = Q
  suffices ST : ∀ (H : Heap) (locs : List Loc), va_P (dC, dI) vwCl (xG L cid K N v) H → va_S A s.heap H locs → W p l e ({ frames := 1, cells := 0, slots := 0, locals := 21 }) s m ([.ref p0.toNat] : List Value).toArray below meth c H locs 0 0 Q (F0 m 0 ls []) from ST _ _ hP hS
  clear hP hS
  intro H locs hP hS
  have hTK := tks_m k1
  have t7 := tks_s k1 (j := v p0 7) (by omega) (by omega)
  have t6 := tks_e k1 (j := v p0 7) (by omega) (by omega)
  have t5 := tkx_ge (T := tT) (n := tN) (j := v p0 7) (by omega)
  have t4 := ten_ge tT tN (tkx tT tN (v p0 7))
  have t3 := ten_d tT tN (tkx tT tN (v p0 7))
  have t2 := tks_n k1
  have t1 := xf_7_1 hI q0
  refine lv_aload_n hx hb dX7_readSkip_0 rfl (lv_at hl 0 rfl) ?_
  have h_1 : (-2147483648) ≤ v p0 7 ∧ v p0 7 ≤ 2147483647 := xf_7_7 hI q0
  have h_2 : (-2147483648) ≤ v p0 6 ∧ v p0 6 ≤ 2147483647 := xf_7_6 hI q0
  refine jc_i (va_runV (As := []) (rest := []) ⟨hx, hb, hml, hown, hts⟩ (sX7_kind l dC dI _ L cid K N tW sK sV v tT tN p0 hI q0 k1 (by omega)) (cwV 0 hts (jgoodV m_674 m_675 m_676 m_677 m_678) rfl rfl rfl (by decide +kernel) ⟨(Nat.le_of_ble_eq_true rfl), (Nat.le_of_ble_eq_true rfl)⟩) ⟨xP_blind, xrecv hK hP q0 rfl rfl, fun U hU hW => ⟨rfl, xP_of hU hW hP hK hD hX hS (fun _ h => h) hA⟩⟩ rfl rfl hl.1 rfl (lv_room (Nat.le_of_ble_eq_true rfl)) dX7_readSkip_1 ⟨(Nat.le_of_ble_eq_true rfl), (Nat.le_of_ble_eq_true rfl)⟩) hP hS hA (fun r_3 H locs w_4 hP hS => ?_)
  obtain ⟨z_5, rfl, h_6, h_7, h_8⟩ := w_4
  refine lv_iconst (v := iI 1) hx hb dX7_readSkip_4 rfl ?_
  have J47 : ∀ (H : Heap) (locs : List Loc) (ls : Array Slot), (tkd tT tN (tkx tT tN (v p0 7)) ≠ 1 ∨ v p0 14 < 0 ∨ 4 ≤ v p0 14 ∨ 8 < ten tT tN (tkx tT tN (v p0 7)) - tkx tT tN (v p0 7)) → va_P (dC, dI) vwCl (xG L cid K N v) H → va_D A (xG L cid K N v) → va_S A s.heap H locs → lv_has ls 4 [(0, .ref p0.toNat)] → W p l e ({ frames := 1, cells := 0, slots := 0, locals := 21 }) s m ([.ref p0.toNat] : List Value).toArray below meth c H locs 0 0 Q (F0 m 47 ls []) := by
    intro H locs ls h_9 hP hD hS hl
    refine lv_aload_n hx hb dX7_readSkip_47 rfl (lv_at hl 0 rfl) ?_
    refine jcg_v (va_runV (As := []) (rest := []) ⟨hx, hb, hml, hown, hts⟩ (sX7_refuse l dC dI _ L cid K N tW sK sV v tT tN p0 hI q0 k1 (by omega)) (cwV 0 hts (jgoodV m_683 m_684 m_685 m_677 m_686) rfl rfl rfl (by decide +kernel) ⟨(Nat.le_of_ble_eq_true rfl), (Nat.le_of_ble_eq_true rfl)⟩) ⟨xP_blind, xrecv hK hP q0 rfl rfl, fun U hU hW => ⟨rfl, xP_of hU hW hP hK hD hX hS (fun _ h => h) hA⟩⟩ rfl rfl hl.1 rfl (lv_room (Nat.le_of_ble_eq_true rfl)) dX7_readSkip_48 ⟨(Nat.le_of_ble_eq_true rfl), (Nat.le_of_ble_eq_true rfl)⟩) hD hS hA (fun v_14 H locs w_11 hP hK hD hS => ?_)
    obtain ⟨I_16, f_15, h_13⟩ := w_11
    have hP : va_P (dC, dI) vwCl (xG L cid K N v_14) H := hP
    have hD : va_D A (xG L cid K N v_14) := hD
    have h_17 : (-2147483648) ≤ v p0 8 ∧ v p0 8 ≤ 2147483647 := xf_7_8 hI q0
    have h_18 : (-2147483648) ≤ v_14 p0 8 ∧ v_14 p0 8 ≤ 2147483647 := xf_7_8 I_16 q0
    have b_19 : v_14 p0 7 = v p0 7 := (fr_use q0 f_15 rfl)
    have h_20 : 0 ≤ v p0 14 ∧ v p0 14 ≤ 4 := xf_7_14 hI q0
    have b_21 : v_14 p0 14 = v p0 14 := (fr_use q0 f_15 rfl)
    rw [← hQ]
    exact W.vret hx hb hr (fun t ht hW => ⟨⟨v_14, rfl, ⟨I_16, (fr_tr f_15 rfl fr_rf), by omega, by omega⟩, by rw [ht]; exact hP, va_K.moved hW.alike hK, hD⟩, hS.F ht⟩) hS.2.2 dX7_readSkip_51
  refine xr_icmp_ne (tgt := 47) hx hb dX7_readSkip_5 (by decide) (by omega) (by omega) (fun h_22 => ?_) (fun h_22 => ?_)
  · exact J47 H locs ls (by omega) hP hD hS hl
  · refine lv_aload_n hx hb dX7_readSkip_8 rfl (lv_at hl 0 rfl) ?_
    have h_23 : 0 ≤ v p0 14 ∧ v p0 14 ≤ 4 := xf_7_14 hI q0
    refine gx_RX7_59 (y := v p0 14) hx hb hj hown hK hP q0 rfl dX7_readSkip_9 ?_
    refine xr_if_lt (tgt := 47) hx hb dX7_readSkip_12 (by decide) (by omega) (fun h_24 => ?_) (fun h_24 => ?_)
    · exfalso; omega
    · refine lv_aload_n hx hb dX7_readSkip_15 rfl (lv_at hl 0 rfl) ?_
      refine gx_RX7_59 (y := v p0 14) hx hb hj hown hK hP q0 rfl dX7_readSkip_16 ?_
      refine lv_iconst (v := iI 4) hx hb dX7_readSkip_19 rfl ?_
      refine xr_icmp_ge (tgt := 47) hx hb dX7_readSkip_20 (by decide) (by omega) (by omega) (fun h_25 => ?_) (fun h_25 => ?_)
      · exact J47 H locs ls (by omega) hP hD hS hl
      · refine lv_aload_n hx hb dX7_readSkip_23 rfl (lv_at hl 0 rfl) ?_
        have h_26 : ok L K (v p0 4) 23 := xf_7_4 hI q0
        have h_27 : N (v p0 4) = 601 := xn_23 hI h_26
        refine gx_RX7_22 (y := v p0 4) hx hb hj hown hK hP q0 ((xf_7_4 hI q0).1) rfl dX7_readSkip_24 ?_
        refine lv_aload_n hx hb dX7_readSkip_27 rfl (lv_at hl 0 rfl) ?_
        refine gx_RX7_53 (y := v p0 7) hx hb hj hown hK hP q0 rfl dX7_readSkip_28 ?_
        have h_28 : (-2147483648) ≤ v (v p0 4) (v p0 7) ∧ v (v p0 4) (v p0 7) ≤ 2147483647 := xe_23 hI h_26 (by omega)
        refine ax_23 (y := v (v p0 4) (v p0 7)) hx hb hK hP h_26 (by omega) (by omega) (by omega) rfl dX7_readSkip_31 ?_
        refine lv_aload_n hx hb dX7_readSkip_32 rfl (lv_at hl 0 rfl) ?_
        have h_29 : ok L K (v p0 3) 22 := xf_7_3 hI q0
        have h_30 : N (v p0 3) = 601 := xn_22 hI h_29
        refine gx_RX7_19 (y := v p0 3) hx hb hj hown hK hP q0 ((xf_7_3 hI q0).1) rfl dX7_readSkip_33 ?_
        refine lv_aload_n hx hb dX7_readSkip_36 rfl (lv_at hl 0 rfl) ?_
        refine gx_RX7_53 (y := v p0 7) hx hb hj hown hK hP q0 rfl dX7_readSkip_37 ?_
        have h_31 : (-2147483648) ≤ v (v p0 3) (v p0 7) ∧ v (v p0 3) (v p0 7) ≤ 2147483647 := xe_22 hI h_29 (by omega)
        refine ax_22 (y := v (v p0 3) (v p0 7)) hx hb hK hP h_29 (by omega) (by omega) (by omega) rfl dX7_readSkip_40 ?_
        refine xr_sub hx hb dX7_readSkip_41 ?_
        refine xr_kept (fun z_32 h_33 h_34 => ?_)
        refine lv_bipush (v := iI 8) hx hb dX7_readSkip_42 rfl ?_
        refine xr_icmp_le (tgt := 52) hx hb dX7_readSkip_44 (by decide) (by omega) (by omega) (fun h_35 => ?_) (fun h_35 => ?_)
        · refine lv_lconst hx hb dX7_readSkip_52 rfl ?_
          refine lv_lstore_n (i := 1) (lv' := [(1, .long (Int64.ofNat 0)), (0, .ref p0.toNat)]) hx hb dX7_readSkip_53 rfl hl (by decide) rfl (fun ls hl => ?_)
          refine lv_aload_n hx hb dX7_readSkip_54 rfl (lv_at hl 1 rfl) ?_
          refine gx_RX7_19 (y := v p0 3) hx hb hj hown hK hP q0 ((xf_7_3 hI q0).1) rfl dX7_readSkip_55 ?_
          refine lv_aload_n hx hb dX7_readSkip_58 rfl (lv_at hl 1 rfl) ?_
          refine gx_RX7_53 (y := v p0 7) hx hb hj hown hK hP q0 rfl dX7_readSkip_59 ?_
          refine ax_22 (y := v (v p0 3) (v p0 7)) hx hb hK hP h_29 (by omega) (by omega) (by omega) rfl dX7_readSkip_62 ?_
          refine lv_istore_n (i := 3) (lv' := [(3, .int (iI (v (v p0 3) (v p0 7)))), (1, .long (Int64.ofNat 0)), (0, .ref p0.toNat)]) hx hb dX7_readSkip_63 rfl hl (by decide) rfl (fun ls hl => ?_)
          have L64 : ∀ (n64 : Nat) (a3_64 : Int) (a1_64 : Int64) (H : Heap) (locs : List Loc) (ls : Array Slot), ((-2147483648) ≤ a3_64 ∧ a3_64 ≤ 2147483647) → (0 < (n64 : Int) ∧ (v (v p0 4) (v p0 7)) - a3_64 < (n64 : Int)) → va_P (dC, dI) vwCl (xG L cid K N v) H → va_D A (xG L cid K N v) → va_S A s.heap H locs → lv_has ls 4 [(3, .int (iI a3_64)), (1, .long a1_64), (0, .ref p0.toNat)] → W p l e ({ frames := 1, cells := 0, slots := 0, locals := 21 }) s m ([.ref p0.toNat] : List Value).toArray below meth c H locs 0 0 Q (F0 m 64 ls []) := by
            intro n64
            induction n64 with
            | zero =>
              intro a3_64 a1_64 H locs ls h_36 hm64 hP hD hS hl
              exfalso; omega
            | succ n64 ih64 =>
              intro a3_64 a1_64 H locs ls h_37 hm64 hP hD hS hl
              refine lv_iload_n hx hb dX7_readSkip_64 rfl (lv_at hl 0 rfl) ?_
              refine lv_aload_n hx hb dX7_readSkip_65 rfl (lv_at hl 2 rfl) ?_
              refine gx_RX7_22 (y := v p0 4) hx hb hj hown hK hP q0 ((xf_7_4 hI q0).1) rfl dX7_readSkip_66 ?_
              refine lv_aload_n hx hb dX7_readSkip_69 rfl (lv_at hl 2 rfl) ?_
              refine gx_RX7_53 (y := v p0 7) hx hb hj hown hK hP q0 rfl dX7_readSkip_70 ?_
              refine ax_23 (y := v (v p0 4) (v p0 7)) hx hb hK hP h_26 (by omega) (by omega) (by omega) rfl dX7_readSkip_73 ?_
              refine xr_icmp_ge (tgt := 95) hx hb dX7_readSkip_74 (by decide) (by omega) (by omega) (fun h_38 => ?_) (fun h_38 => ?_)
              · refine lv_aload_n hx hb dX7_readSkip_95 rfl (lv_at hl 2 rfl) ?_
                have h_39 : ok L K (v p0 13) 28 := xf_7_13 hI q0
                have h_40 : N (v p0 13) = 4 := xn_28 hI h_39
                refine gx_RX7_39 (y := v p0 13) hx hb hj hown hK hP q0 ((xf_7_13 hI q0).1) rfl dX7_readSkip_96 ?_
                refine lv_aload_n hx hb dX7_readSkip_99 rfl (lv_at hl 2 rfl) ?_
                refine gx_RX7_59 (y := v p0 14) hx hb hj hown hK hP q0 rfl dX7_readSkip_100 ?_
                refine lv_lload_n hx hb dX7_readSkip_103 rfl (lv_at hl 1 rfl) ?_
                refine xl_any (fun u_41 => ?_)
                refine sx_28 (y := u_41) hx hb hK hP hD hS hI h_39 (by omega) (by omega) (by omega) dX7_readSkip_104 (fun v_42 H locs f_43 e_44 o_45 I_46 hP hD hS => ?_)
                refine lv_aload_n hx hb dX7_readSkip_105 rfl (lv_at hl 2 rfl) ?_
                refine lv_dup hx hb dX7_readSkip_106 rfl ?_
                refine gx_RX7_59 (y := v p0 14) hx hb hj hown hK hP q0 (fr_use q0 f_43 rfl) dX7_readSkip_107 ?_
                refine lv_iconst (v := iI 1) hx hb dX7_readSkip_110 rfl ?_
                refine xr_add hx hb dX7_readSkip_111 ?_
                refine px_RX7_59 (y := (v p0 14) + 1) hx hb hj hown hK hP hD hS I_46 q0 ⟨by omega, by omega⟩ dX7_readSkip_112 (fun v_47 H locs f_48 e_49 o_50 I_51 hP hD hS => ?_)
                refine lv_aload_n hx hb dX7_readSkip_115 rfl (lv_at hl 2 rfl) ?_
                have b_52 : v_47 p0 7 = v p0 7 := (((fr_use q0 f_48 rfl)).trans (fr_use q0 f_43 rfl))
                refine jcg_v (va_runV (As := []) (rest := []) ⟨hx, hb, hml, hown, hts⟩ (sX7_advance l dC dI _ L cid K N tW sK sV v_47 p0 I_51 q0 (by omega)) (cwV 0 hts (jgoodV m_692 m_693 m_694 m_677 m_695) rfl rfl rfl (by decide +kernel) ⟨(Nat.le_of_ble_eq_true rfl), (Nat.le_of_ble_eq_true rfl)⟩) ⟨xP_blind, xrecv hK hP q0 rfl rfl, fun U hU hW => ⟨rfl, xP_of hU hW hP hK hD hX hS (fun _ h => h) hA⟩⟩ rfl rfl hl.1 rfl (lv_room (Nat.le_of_ble_eq_true rfl)) dX7_readSkip_116 ⟨(Nat.le_of_ble_eq_true rfl), (Nat.le_of_ble_eq_true rfl)⟩) hD hS hA (fun v_57 H locs w_54 hP hK hD hS => ?_)
                obtain ⟨I_59, f_58, h_56⟩ := w_54
                have hP : va_P (dC, dI) vwCl (xG L cid K N v_57) H := hP
                have hD : va_D A (xG L cid K N v_57) := hD
                have b_60 : v_47 p0 7 = v p0 7 := (((fr_use q0 f_48 rfl)).trans (fr_use q0 f_43 rfl))
                have b_61 : v_47 p0 8 = v p0 8 := (((fr_use q0 f_48 rfl)).trans (fr_use q0 f_43 rfl))
                have h_62 : (-2147483648) ≤ v p0 8 ∧ v p0 8 ≤ 2147483647 := xf_7_8 hI q0
                have h_63 : (-2147483648) ≤ v_57 p0 7 ∧ v_57 p0 7 ≤ 2147483647 := xf_7_7 I_59 q0
                have b_64 : v_57 p0 8 = v p0 8 := (((fr_use q0 f_58 rfl)).trans (((fr_use q0 f_48 rfl)).trans (fr_use q0 f_43 rfl)))
                have b_65 : v_57 p0 14 = (v p0 14) + 1 := (((fr_use q0 f_58 rfl)).trans e_49)
                rw [← hQ]
                exact W.vret hx hb hr (fun t ht hW => ⟨⟨v_57, rfl, ⟨I_59, (fr_tr f_58 rfl (fr_tr f_48 rfl (fr_tr f_43 rfl fr_rf))), by omega, by omega⟩, by rw [ht]; exact hP, va_K.moved hW.alike hK, hD⟩, hS.F ht⟩) hS.2.2 dX7_readSkip_119
              · refine lv_lload_n hx hb dX7_readSkip_77 rfl (lv_at hl 1 rfl) ?_
                refine xl_any (fun u_66 => ?_)
                refine lv_bipush (v := iI 8) hx hb dX7_readSkip_78 rfl ?_
                refine lv_lshl hx hb dX7_readSkip_80 rfl ?_
                refine xl_any (fun u_67 => ?_)
                refine lv_aload_n hx hb dX7_readSkip_81 rfl (lv_at hl 2 rfl) ?_
                refine lv_iload_n hx hb dX7_readSkip_82 rfl (lv_at hl 0 rfl) ?_
                refine jc_i (va_runV (As := [.int (iI a3_64)]) (rest := [.long (lL u_67)]) ⟨hx, hb, hml, hown, hts⟩ (sX7_byteAt l dC dI _ L cid K N tW sK sV v tT tN p0 a3_64 hI q0 (by omega) (k1).1) (cwV 1 hts (jgoodV m_728 m_729 m_730 m_677 m_731) rfl rfl rfl (by decide +kernel) ⟨(Nat.le_of_ble_eq_true rfl), (Nat.le_of_ble_eq_true rfl)⟩) ⟨xP_blind, xrecv hK hP q0 rfl rfl, fun U hU hW => ⟨rfl, xP_of hU hW hP hK hD hX hS (fun _ h => h) hA⟩⟩ rfl rfl hl.1 rfl (lv_room (Nat.le_of_ble_eq_true rfl)) dX7_readSkip_83 ⟨(Nat.le_of_ble_eq_true rfl), (Nat.le_of_ble_eq_true rfl)⟩) hP hS hA (fun r_68 H locs w_69 hP hS => ?_)
                obtain ⟨z_70, rfl, h_71, h_72⟩ := w_69
                refine lv_i2l (v := (iI z_70).toInt64) hx hb dX7_readSkip_86 rfl ?_
                refine xl_any (fun u_73 => ?_)
                refine lv_lor hx hb dX7_readSkip_87 ?_
                refine xl_any (fun u_74 => ?_)
                refine lv_lstore_n (i := 1) (lv' := [(1, .long (lL u_74)), (3, .int (iI a3_64)), (0, .ref p0.toNat)]) hx hb dX7_readSkip_88 rfl hl (by decide) rfl (fun ls hl => ?_)
                refine lv_iinc (v := iI (a3_64 + 1)) (lv' := [(3, .int (iI (a3_64 + 1))), (1, .long (lL u_74)), (0, .ref p0.toNat)]) hx hb dX7_readSkip_89 hl (k := 1) rfl (iI_add _ _) (by decide) rfl (fun ls hl => ?_)
                refine lv_goto (tgt := 64) hx hb dX7_readSkip_92 (by decide) ?_
                exact ih64 (a3_64 + 1) (lL u_74) H locs ls (by omega) (by omega) hP hD hS hl
          exact L64 ((((v (v p0 4) (v p0 7)) - (v (v p0 3) (v p0 7)) : Int)).toNat + 1) (v (v p0 3) (v p0 7)) (Int64.ofNat 0) H locs ls (by omega) (by omega) hP hD hS hl
        · exact J47 H locs ls (by omega) hP hD hS hl
set_option maxHeartbeats 2000000 in
set_option maxRecDepth 100000 in
theorem sX7_readChoice (l : Launch) (dC : Nat → ClassId) (dI : Nat → Nat → Nat) (sz : Nat) (L : List Nat) (cid : Nat → ClassId) (K : Int → Nat) (N : Int → Int) (tW : Nat) (sK sV : Nat → Nat) (v : Int → Int → Int) (tT : Int → Int) (tN : Int) (p0 : Int) (p1 : Int) (hI : xI L K N v) (q0 : ok L K p0 7) (q1 : rg p1) (k1 : tks tT tN v p0) (k2 : 0 ≤ v p0 7 ∧ v p0 7 < v p0 6) (k3 : v p0 8 = -1) (k4 : 0 ≤ p1 ∧ p1 ≤ 23) : Met l yX7_readChoice (jk yX7_readChoice cX7_readChoice 3 none) ({ frames := 2, cells := 0, slots := 0, locals := 40 }) (va_Pc [.ref p0.toNat, .int (iI p1)] (xP (dC, dI) (xG L cid K N v) (xT cid) tW sK sV sz)) (va_Qv (fun (u : (Int → Int → Int)) => (xI L K N u) ∧ (fr K [(7, 7), (7, 8), (7, 10), (25, (-1))] u v) ∧ ((u p0 8 = -1 ∧ u p0 7 = v p0 7 + 1 ∧ p1 ≤ twd tT tN (tkx tT tN (v p0 7)) ∧ twd tT tN (tkx tT tN (v p0 7)) ≤ p1 + 1) ∨ (u p0 8 ≠ -1 ∧ u p0 8 = tkx tT tN (v p0 7) ∧ u p0 7 = v p0 7 ∧ (twd tT tN (tkx tT tN (v p0 7)) < p1 ∨ p1 + 1 < twd tT tN (tkx tT tN (v p0 7))))) ∧ (0 ≤ u p0 7 ∧ v p0 7 ≤ u p0 7 ∧ u p0 7 < v p0 6)) (fun u t => va_P (dC, dI) vwCl (xG L cid K N u) t.heap ∧ va_K (dC, dI) vwCl (xT cid) t ∧ va_D (va_A (xG L cid K N v) sz) (xG L cid K N u)) (va_A (xG L cid K N v) sz)) 0 0 (va_A (xG L cid K N v) sz) := by
  refine Met.ofW (cc := cX7_readChoice) (maxL := 3) (ret := none) (by decide) rfl ?_
  intro p e s m args below meth c s₁ B hml hv
  obtain ⟨rfl, ⟨hsz, hP, hK, hD0⟩, hX⟩ := hv
  have hx := B.exec
  have hb := B.bytes
  have hr := B.returns
  have hts := atoms_spec (ws := (jk yX7_readChoice cX7_readChoice 3 none)) B.pre
  have hj : ∀ w ∈ jw, w.before ([.ref p0.toNat, .int (iI p1)] : List Value).toArray s = true := fun w h => hts w (jm h)
  have hown : s.vm.findClass RX7 = some m.cls := findClass_of_methodNamed B.named
  subst hsz
  have hD := hD0.self (sz := s.heap.size)
  generalize hAe : (va_A (xG L cid K N v) s.heap.size) = A at hD hX ⊢
  have hA : ∀ q : Nat, s.heap.size ≤ q → A q := fun q h => by rw [← hAe]; exact Or.inr h
  have hS : va_S A s.heap s.heap [] := va_S.rf
  have hXa := hX
  have hP : va_P (dC, dI) vwCl (xG L cid K N v) s.heap := hP
  have hl := lv_entry ([.ref p0.toNat, .int (iI p1)]) (n := 3) (Nat.le_of_ble_eq_true rfl)
  rw [lg_entry_eq]
  generalize (lg_sl ([.ref p0.toNat, .int (iI p1)]) ++ List.replicate (3 - (lg_sl ([.ref p0.toNat, .int (iI p1)])).length) Slot.unset).toArray = ls at hl ⊢
  have hl : lv_has ls 3 [(0, .ref p0.toNat), (1, .int (iI p1))] := hl
  generalize hQ : MQ below (va_Qv (fun (u : (Int → Int → Int)) => (xI L K N u) ∧ (fr K [(7, 7), (7, 8), (7, 10), (25, (-1))] u v) ∧ ((u p0 8 = -1 ∧ u p0 7 = v p0 7 + 1 ∧ p1 ≤ twd tT tN (tkx tT tN (v p0 7)) ∧ twd tT tN (tkx tT tN (v p0 7)) ≤ p1 + 1) ∨ (u p0 8 ≠ -1 ∧ u p0 8 = tkx tT tN (v p0 7) ∧ u p0 7 = v p0 7 ∧ (twd tT tN (tkx tT tN (v p0 7)) < p1 ∨ p1 + 1 < twd tT tN (tkx tT tN (v p0 7))))) ∧ (0 ≤ u p0 7 ∧ v p0 7 ≤ u p0 7 ∧ u p0 7 < v p0 6)) (fun u t => va_P (dC, dI) vwCl (xG L cid K N u) t.heap ∧ va_K (dC, dI) vwCl (xT cid) t ∧ va_D A (xG L cid K N u)) A) ([.ref p0.toNat, .int (iI p1)] : List Value).toArray s 0 0 A = Q
  suffices ST : ∀ (H : Heap) (locs : List Loc), va_P (dC, dI) vwCl (xG L cid K N v) H → va_S A s.heap H locs → W p l e ({ frames := 2, cells := 0, slots := 0, locals := 40 }) s m ([.ref p0.toNat, .int (iI p1)] : List Value).toArray below meth c H locs 0 0 Q (F0 m 0 ls []) from ST _ _ hP hS
  clear hP hS
  intro H locs hP hS
  have hTK := tks_m k1
  refine lv_aload_n hx hb dX7_readChoice_0 rfl (lv_at hl 0 rfl) ?_
  have h_1 : (-2147483648) ≤ v p0 7 ∧ v p0 7 ≤ 2147483647 := xf_7_7 hI q0
  have h_2 : (-2147483648) ≤ v p0 6 ∧ v p0 6 ≤ 2147483647 := xf_7_6 hI q0
  refine jc_i (va_runV (As := []) (rest := []) ⟨hx, hb, hml, hown, hts⟩ (sX7_word l dC dI _ L cid K N tW sK sV v tT tN p0 hI q0 k1 (by omega)) (cwV 0 hts (jgoodV m_679 m_680 m_681 m_677 m_682) rfl rfl rfl (by decide +kernel) ⟨(Nat.le_of_ble_eq_true rfl), (Nat.le_of_ble_eq_true rfl)⟩) ⟨xP_blind, xrecv hK hP q0 rfl rfl, fun U hU hW => ⟨rfl, xP_of hU hW hP hK hD hX hS (fun _ h => h) hA⟩⟩ rfl rfl hl.1 rfl (lv_room (Nat.le_of_ble_eq_true rfl)) dX7_readChoice_1 ⟨(Nat.le_of_ble_eq_true rfl), (Nat.le_of_ble_eq_true rfl)⟩) hP hS hA (fun r_3 H locs w_4 hP hS => ?_)
  obtain ⟨z_5, rfl, h_6, h_7, h_8⟩ := w_4
  refine lv_iload_n hx hb dX7_readChoice_4 rfl (lv_at hl 1 rfl) ?_
  refine xr_sub hx hb dX7_readChoice_5 ?_
  refine lv_istore_n (i := 2) (lv' := [(2, .int (iI (z_5 - p1))), (0, .ref p0.toNat), (1, .int (iI p1))]) hx hb dX7_readChoice_6 rfl hl (by decide) rfl (fun ls hl => ?_)
  refine lv_iload_n hx hb dX7_readChoice_7 rfl (lv_at hl 0 rfl) ?_
  have J16 : ∀ (H : Heap) (locs : List Loc) (ls : Array Slot), (z_5 - p1 = 0 ∨ z_5 - p1 = 1) → va_P (dC, dI) vwCl (xG L cid K N v) H → va_D A (xG L cid K N v) → va_S A s.heap H locs → lv_has ls 3 [(2, .int (iI (z_5 - p1))), (0, .ref p0.toNat), (1, .int (iI p1))] → W p l e ({ frames := 2, cells := 0, slots := 0, locals := 40 }) s m ([.ref p0.toNat, .int (iI p1)] : List Value).toArray below meth c H locs 0 0 Q (F0 m 16 ls []) := by
    intro H locs ls h_9 hP hD hS hl
    refine lv_aload_n hx hb dX7_readChoice_16 rfl (lv_at hl 1 rfl) ?_
    refine lv_iload_n hx hb dX7_readChoice_17 rfl (lv_at hl 0 rfl) ?_
    refine jcg_v (va_runV (As := [.int (iI (z_5 - p1))]) (rest := []) ⟨hx, hb, hml, hown, hts⟩ (sX7_emit l dC dI _ L cid K N tW sK sV v p0 (z_5 - p1) hI q0 (by omega)) (cwV 1 hts (jgoodV m_688 m_689 m_690 m_677 m_691) rfl rfl rfl (by decide +kernel) ⟨(Nat.le_of_ble_eq_true rfl), (Nat.le_of_ble_eq_true rfl)⟩) ⟨xP_blind, xrecv hK hP q0 rfl rfl, fun U hU hW => ⟨rfl, xP_of hU hW hP hK hD hX hS (fun _ h => h) hA⟩⟩ rfl rfl hl.1 rfl (lv_room (Nat.le_of_ble_eq_true rfl)) dX7_readChoice_18 ⟨(Nat.le_of_ble_eq_true rfl), (Nat.le_of_ble_eq_true rfl)⟩) hD hS hA (fun v_13 H locs w_11 hP hK hD hS => ?_)
    obtain ⟨I_15, f_14⟩ := w_11
    have hP : va_P (dC, dI) vwCl (xG L cid K N v_13) H := hP
    have hD : va_D A (xG L cid K N v_13) := hD
    refine lv_aload_n hx hb dX7_readChoice_21 rfl (lv_at hl 1 rfl) ?_
    have b_16 : v_13 p0 7 = v p0 7 := (fr_use q0 f_14 rfl)
    refine jcg_v (va_runV (As := []) (rest := []) ⟨hx, hb, hml, hown, hts⟩ (sX7_advance l dC dI _ L cid K N tW sK sV v_13 p0 I_15 q0 (by omega)) (cwV 0 hts (jgoodV m_692 m_693 m_694 m_677 m_695) rfl rfl rfl (by decide +kernel) ⟨(Nat.le_of_ble_eq_true rfl), (Nat.le_of_ble_eq_true rfl)⟩) ⟨xP_blind, xrecv hK hP q0 rfl rfl, fun U hU hW => ⟨rfl, xP_of hU hW hP hK hD hX hS (fun _ h => h) hA⟩⟩ rfl rfl hl.1 rfl (lv_room (Nat.le_of_ble_eq_true rfl)) dX7_readChoice_22 ⟨(Nat.le_of_ble_eq_true rfl), (Nat.le_of_ble_eq_true rfl)⟩) hD hS hA (fun v_21 H locs w_18 hP hK hD hS => ?_)
    obtain ⟨I_23, f_22, h_20⟩ := w_18
    have hP : va_P (dC, dI) vwCl (xG L cid K N v_21) H := hP
    have hD : va_D A (xG L cid K N v_21) := hD
    have b_24 : v_13 p0 7 = v p0 7 := (fr_use q0 f_14 rfl)
    have b_25 : v_13 p0 8 = v p0 8 := (fr_use q0 f_14 rfl)
    have h_26 : (-2147483648) ≤ v p0 8 ∧ v p0 8 ≤ 2147483647 := xf_7_8 hI q0
    have h_27 : (-2147483648) ≤ v_21 p0 7 ∧ v_21 p0 7 ≤ 2147483647 := xf_7_7 I_23 q0
    refine lv_goto (tgt := 32) hx hb dX7_readChoice_25 (by decide) ?_
    have b_28 : v_21 p0 8 = v p0 8 := (((fr_use q0 f_22 rfl)).trans (fr_use q0 f_14 rfl))
    rw [← hQ]
    exact W.vret hx hb hr (fun t ht hW => ⟨⟨v_21, rfl, ⟨I_23, (fr_tr f_22 rfl (fr_tr f_14 rfl fr_rf)), by omega, by omega⟩, by rw [ht]; exact hP, va_K.moved hW.alike hK, hD⟩, hS.F ht⟩) hS.2.2 dX7_readChoice_32
  refine xr_if_eq (tgt := 16) hx hb dX7_readChoice_8 (by decide) (by omega) (fun h_29 => ?_) (fun h_29 => ?_)
  · exact J16 H locs ls (by omega) hP hD hS hl
  · refine lv_iload_n hx hb dX7_readChoice_11 rfl (lv_at hl 0 rfl) ?_
    refine lv_iconst (v := iI 1) hx hb dX7_readChoice_12 rfl ?_
    refine xr_icmp_ne (tgt := 28) hx hb dX7_readChoice_13 (by decide) (by omega) (by omega) (fun h_30 => ?_) (fun h_30 => ?_)
    · refine lv_aload_n hx hb dX7_readChoice_28 rfl (lv_at hl 1 rfl) ?_
      refine jcg_v (va_runV (As := []) (rest := []) ⟨hx, hb, hml, hown, hts⟩ (sX7_refuse l dC dI _ L cid K N tW sK sV v tT tN p0 hI q0 k1 (by omega)) (cwV 0 hts (jgoodV m_683 m_684 m_685 m_677 m_686) rfl rfl rfl (by decide +kernel) ⟨(Nat.le_of_ble_eq_true rfl), (Nat.le_of_ble_eq_true rfl)⟩) ⟨xP_blind, xrecv hK hP q0 rfl rfl, fun U hU hW => ⟨rfl, xP_of hU hW hP hK hD hX hS (fun _ h => h) hA⟩⟩ rfl rfl hl.1 rfl (lv_room (Nat.le_of_ble_eq_true rfl)) dX7_readChoice_29 ⟨(Nat.le_of_ble_eq_true rfl), (Nat.le_of_ble_eq_true rfl)⟩) hD hS hA (fun v_35 H locs w_32 hP hK hD hS => ?_)
      obtain ⟨I_37, f_36, h_34⟩ := w_32
      have hP : va_P (dC, dI) vwCl (xG L cid K N v_35) H := hP
      have hD : va_D A (xG L cid K N v_35) := hD
      have h_38 : (-2147483648) ≤ v p0 8 ∧ v p0 8 ≤ 2147483647 := xf_7_8 hI q0
      have h_39 : (-2147483648) ≤ v_35 p0 8 ∧ v_35 p0 8 ≤ 2147483647 := xf_7_8 I_37 q0
      have b_40 : v_35 p0 7 = v p0 7 := (fr_use q0 f_36 rfl)
      rw [← hQ]
      exact W.vret hx hb hr (fun t ht hW => ⟨⟨v_35, rfl, ⟨I_37, (fr_tr f_36 rfl fr_rf), by omega, by omega⟩, by rw [ht]; exact hP, va_K.moved hW.alike hK, hD⟩, hS.F ht⟩) hS.2.2 dX7_readChoice_32
    · exact J16 H locs ls (by omega) hP hD hS hl
set_option maxHeartbeats 2000000 in
set_option maxRecDepth 100000 in
theorem sX7_closeSort (l : Launch) (dC : Nat → ClassId) (dI : Nat → Nat → Nat) (sz : Nat) (L : List Nat) (cid : Nat → ClassId) (K : Int → Nat) (N : Int → Int) (tW : Nat) (sK sV : Nat → Nat) (v : Int → Int → Int) (p0 : Int) (p1 : Int) (hI : xI L K N v) (q0 : ok L K p0 7) (q1 : rg p1) : Met l yX7_closeSort (jk yX7_closeSort cX7_closeSort 2 none) ({ frames := 0, cells := 0, slots := 0, locals := 0 }) (va_Pc [.ref p0.toNat, .int (iI p1)] (xP (dC, dI) (xG L cid K N v) (xT cid) tW sK sV sz)) (va_Qv (fun (u : (Int → Int → Int)) => (xI L K N u) ∧ (fr K [(27, (-1))] u v)) (fun u t => va_P (dC, dI) vwCl (xG L cid K N u) t.heap ∧ va_K (dC, dI) vwCl (xT cid) t ∧ va_D (va_A (xG L cid K N v) sz) (xG L cid K N u)) (va_A (xG L cid K N v) sz)) 0 0 (va_A (xG L cid K N v) sz) := by
  refine Met.ofW (cc := cX7_closeSort) (maxL := 2) (ret := none) (by decide) rfl ?_
  intro p e s m args below meth c s₁ B hml hv
  obtain ⟨rfl, ⟨hsz, hP, hK, hD0⟩, hX⟩ := hv
  have hx := B.exec
  have hb := B.bytes
  have hr := B.returns
  have hts := atoms_spec (ws := (jk yX7_closeSort cX7_closeSort 2 none)) B.pre
  have hj : ∀ w ∈ jw, w.before ([.ref p0.toNat, .int (iI p1)] : List Value).toArray s = true := fun w h => hts w (jm h)
  have hown : s.vm.findClass RX7 = some m.cls := findClass_of_methodNamed B.named
  subst hsz
  have hD := hD0.self (sz := s.heap.size)
  generalize hAe : (va_A (xG L cid K N v) s.heap.size) = A at hD hX ⊢
  have hA : ∀ q : Nat, s.heap.size ≤ q → A q := fun q h => by rw [← hAe]; exact Or.inr h
  have hS : va_S A s.heap s.heap [] := va_S.rf
  have hXa := hX
  have hP : va_P (dC, dI) vwCl (xG L cid K N v) s.heap := hP
  have hl := lv_entry ([.ref p0.toNat, .int (iI p1)]) (n := 2) (Nat.le_of_ble_eq_true rfl)
  rw [lg_entry_eq]
  generalize (lg_sl ([.ref p0.toNat, .int (iI p1)]) ++ List.replicate (2 - (lg_sl ([.ref p0.toNat, .int (iI p1)])).length) Slot.unset).toArray = ls at hl ⊢
  have hl : lv_has ls 2 [(0, .ref p0.toNat), (1, .int (iI p1))] := hl
  generalize hQ : MQ below (va_Qv (fun (u : (Int → Int → Int)) => (xI L K N u) ∧ (fr K [(27, (-1))] u v)) (fun u t => va_P (dC, dI) vwCl (xG L cid K N u) t.heap ∧ va_K (dC, dI) vwCl (xT cid) t ∧ va_D A (xG L cid K N u)) A) ([.ref p0.toNat, .int (iI p1)] : List Value).toArray s 0 0 A = Q
  suffices ST : ∀ (H : Heap) (locs : List Loc), va_P (dC, dI) vwCl (xG L cid K N v) H → va_S A s.heap H locs → W p l e ({ frames := 0, cells := 0, slots := 0, locals := 0 }) s m ([.ref p0.toNat, .int (iI p1)] : List Value).toArray below meth c H locs 0 0 Q (F0 m 0 ls []) from ST _ _ hP hS
  clear hP hS
  intro H locs hP hS
  refine lv_iload_n hx hb dX7_closeSort_0 rfl (lv_at hl 1 rfl) ?_
  refine xr_if_lt (tgt := 20) hx hb dX7_closeSort_1 (by decide) (by omega) (fun h_1 => ?_) (fun h_1 => ?_)
  · rw [← hQ]
    exact W.vret hx hb hr (fun t ht hW => ⟨⟨v, rfl, ⟨hI, fr_rf⟩, by rw [ht]; exact hP, va_K.moved hW.alike hK, hD⟩, hS.F ht⟩) hS.2.2 dX7_closeSort_20
  · refine lv_iload_n hx hb dX7_closeSort_4 rfl (lv_at hl 1 rfl) ?_
    refine lv_bipush (v := iI 14) hx hb dX7_closeSort_5 rfl ?_
    refine xr_icmp_ge (tgt := 20) hx hb dX7_closeSort_7 (by decide) (by omega) (by omega) (fun h_2 => ?_) (fun h_2 => ?_)
    · rw [← hQ]
      exact W.vret hx hb hr (fun t ht hW => ⟨⟨v, rfl, ⟨hI, fr_rf⟩, by rw [ht]; exact hP, va_K.moved hW.alike hK, hD⟩, hS.F ht⟩) hS.2.2 dX7_closeSort_20
    · refine lv_aload_n hx hb dX7_closeSort_10 rfl (lv_at hl 0 rfl) ?_
      have h_3 : ok L K (v p0 12) 27 := xf_7_12 hI q0
      have h_4 : N (v p0 12) = 14 := xn_27 hI h_3
      refine gx_RX7_36 (y := v p0 12) hx hb hj hown hK hP q0 ((xf_7_12 hI q0).1) rfl dX7_closeSort_11 ?_
      refine lv_iload_n hx hb dX7_closeSort_14 rfl (lv_at hl 1 rfl) ?_
      refine lv_aload_n hx hb dX7_closeSort_15 rfl (lv_at hl 0 rfl) ?_
      have h_5 : 0 ≤ v p0 10 ∧ v p0 10 ≤ 600 := xf_7_10 hI q0
      refine gx_RX7_56 (y := v p0 10) hx hb hj hown hK hP q0 rfl dX7_closeSort_16 ?_
      refine sx_27 (y := v p0 10) hx hb hK hP hD hS hI h_3 (by omega) (by omega) (by omega) ⟨by omega, by omega⟩ dX7_closeSort_19 (fun v_6 H locs f_7 e_8 o_9 I_10 hP hD hS => ?_)
      rw [← hQ]
      exact W.vret hx hb hr (fun t ht hW => ⟨⟨v_6, rfl, ⟨I_10, (fr_tr f_7 rfl fr_rf)⟩, by rw [ht]; exact hP, va_K.moved hW.alike hK, hD⟩, hS.F ht⟩) hS.2.2 dX7_closeSort_20
set_option maxHeartbeats 2000000 in
set_option maxRecDepth 100000 in
theorem sX7_readClause (l : Launch) (dC : Nat → ClassId) (dI : Nat → Nat → Nat) (sz : Nat) (L : List Nat) (cid : Nat → ClassId) (K : Int → Nat) (N : Int → Int) (tW : Nat) (sK sV : Nat → Nat) (v : Int → Int → Int) (tT : Int → Int) (tN : Int) (p0 : Int) (hI : xI L K N v) (q0 : ok L K p0 7) (k1 : tks tT tN v p0) (k2 : 0 ≤ v p0 7 ∧ v p0 7 < v p0 6) (k3 : v p0 8 = -1) (k4 : tkd tT tN (tkx tT tN (v p0 7)) ≠ 0) : Met l yX7_readClause (jk yX7_readClause cX7_readClause 2 none) ({ frames := 33, cells := 0, slots := 0, locals := 749 }) (va_Pc [.ref p0.toNat] (xP (dC, dI) (xG L cid K N v) (xT cid) tW sK sV sz)) (va_Qv (fun (u : (Int → Int → Int)) => (xI L K N u) ∧ (fr K [(7, 7), (7, 8), (7, 10), (7, 14), (25, (-1)), (26, (-1)), (27, (-1)), (28, (-1))] u v) ∧ (0 ≤ u p0 7 ∧ v p0 7 ≤ u p0 7 ∧ u p0 7 < v p0 6) ∧ (u p0 8 ≠ -1 ∨ v p0 7 + 1 ≤ u p0 7) ∧ (RP tT tN [0] 0 (v p0 8) (v p0 7) (bgn (v (v p0 11))) (v p0 14) (u p0 8) (u p0 7) (bgn (u (v p0 11))) (u p0 14) [0] 0)) (fun u t => va_P (dC, dI) vwCl (xG L cid K N u) t.heap ∧ va_K (dC, dI) vwCl (xT cid) t ∧ va_D (va_A (xG L cid K N v) sz) (xG L cid K N u)) (va_A (xG L cid K N v) sz)) 0 0 (va_A (xG L cid K N v) sz) := by
  refine Met.ofW (cc := cX7_readClause) (maxL := 2) (ret := none) (by decide) rfl ?_
  intro p e s m args below meth c s₁ B hml hv
  obtain ⟨rfl, ⟨hsz, hP, hK, hD0⟩, hX⟩ := hv
  have hx := B.exec
  have hb := B.bytes
  have hr := B.returns
  have hts := atoms_spec (ws := (jk yX7_readClause cX7_readClause 2 none)) B.pre
  have hj : ∀ w ∈ jw, w.before ([.ref p0.toNat] : List Value).toArray s = true := fun w h => hts w (jm h)
  have hown : s.vm.findClass RX7 = some m.cls := findClass_of_methodNamed B.named
  subst hsz
  have hD := hD0.self (sz := s.heap.size)
  generalize hAe : (va_A (xG L cid K N v) s.heap.size) = A at hD hX ⊢
  have hA : ∀ q : Nat, s.heap.size ≤ q → A q := fun q h => by rw [← hAe]; exact Or.inr h
  have hS : va_S A s.heap s.heap [] := va_S.rf
  have hXa := hX
  have hP : va_P (dC, dI) vwCl (xG L cid K N v) s.heap := hP
  have hl := lv_entry ([.ref p0.toNat]) (n := 2) (Nat.le_of_ble_eq_true rfl)
  rw [lg_entry_eq]
  generalize (lg_sl ([.ref p0.toNat]) ++ List.replicate (2 - (lg_sl ([.ref p0.toNat])).length) Slot.unset).toArray = ls at hl ⊢
  have hl : lv_has ls 2 [(0, .ref p0.toNat)] := hl
  generalize hQ : MQ below (va_Qv (fun (u : (Int → Int → Int)) => (xI L K N u) ∧ (fr K [(7, 7), (7, 8), (7, 10), (7, 14), (25, (-1)), (26, (-1)), (27, (-1)), (28, (-1))] u v) ∧ (0 ≤ u p0 7 ∧ v p0 7 ≤ u p0 7 ∧ u p0 7 < v p0 6) ∧ (u p0 8 ≠ -1 ∨ v p0 7 + 1 ≤ u p0 7) ∧ (RP tT tN [0] 0 (v p0 8) (v p0 7) (bgn (v (v p0 11))) (v p0 14) (u p0 8) (u p0 7) (bgn (u (v p0 11))) (u p0 14) [0] 0)) (fun u t => va_P (dC, dI) vwCl (xG L cid K N u) t.heap ∧ va_K (dC, dI) vwCl (xT cid) t ∧ va_D A (xG L cid K N u)) A) ([.ref p0.toNat] : List Value).toArray s 0 0 A = Q
  suffices ST : ∀ (H : Heap) (locs : List Loc), va_P (dC, dI) vwCl (xG L cid K N v) H → va_S A s.heap H locs → W p l e ({ frames := 33, cells := 0, slots := 0, locals := 749 }) s m ([.ref p0.toNat] : List Value).toArray below meth c H locs 0 0 Q (F0 m 0 ls []) from ST _ _ hP hS
  clear hP hS
  intro H locs hP hS
  have hTK := tks_m k1
  have h_1 : ok L K (v p0 11) 26 := xf_7_11 hI q0
  have h_2 : N (v p0 11) = 14 := xn_26 hI h_1
  have rp_3 : RP tT tN [0] 0 (v p0 8) (v p0 7) (bgn (v (v p0 11))) (v p0 14) (v p0 8) (v p0 7) (bgn (v (v p0 11))) (v p0 14) [0] 0 := RP_0
  refine lv_aload_n hx hb dX7_readClause_0 rfl (lv_at hl 0 rfl) ?_
  have h_4 : (-2147483648) ≤ v p0 7 ∧ v p0 7 ≤ 2147483647 := xf_7_7 hI q0
  have h_5 : (-2147483648) ≤ v p0 6 ∧ v p0 6 ≤ 2147483647 := xf_7_6 hI q0
  refine jc_i (va_runV (As := []) (rest := []) ⟨hx, hb, hml, hown, hts⟩ (sX7_word l dC dI _ L cid K N tW sK sV v tT tN p0 hI q0 k1 (by omega)) (cwV 0 hts (jgoodV m_679 m_680 m_681 m_677 m_682) rfl rfl rfl (by decide +kernel) ⟨(Nat.le_of_ble_eq_true rfl), (Nat.le_of_ble_eq_true rfl)⟩) ⟨xP_blind, xrecv hK hP q0 rfl rfl, fun U hU hW => ⟨rfl, xP_of hU hW hP hK hD hX hS (fun _ h => h) hA⟩⟩ rfl rfl hl.1 rfl (lv_room (Nat.le_of_ble_eq_true rfl)) dX7_readClause_1 ⟨(Nat.le_of_ble_eq_true rfl), (Nat.le_of_ble_eq_true rfl)⟩) hP hS hA (fun r_6 H locs w_7 hP hS => ?_)
  obtain ⟨z_8, rfl, h_9, h_10, h_11⟩ := w_7
  have J78 : ∀ (vc78 : Int → Int → Int) (H : Heap) (locs : List Loc) (ls : Array Slot), (v p0 7 ≤ vc78 p0 7 ∧ vc78 p0 7 < v p0 6) → (vc78 p0 8 ≠ -1 ∨ v p0 7 + 1 ≤ vc78 p0 7) → (RP tT tN [0] 0 (v p0 8) (v p0 7) (bgn (v (v p0 11))) (v p0 14) (vc78 p0 8) (vc78 p0 7) (bgn (vc78 (v p0 11))) (vc78 p0 14) [159, 0] 0) → fr K [(7, 7), (7, 8), (7, 10), (7, 14), (25, (-1)), (26, (-1)), (27, (-1)), (28, (-1))] vc78 v → xI L K N vc78 → va_P (dC, dI) vwCl (xG L cid K N vc78) H → va_D A (xG L cid K N vc78) → va_S A s.heap H locs → lv_has ls 2 [(0, .ref p0.toNat)] → W p l e ({ frames := 33, cells := 0, slots := 0, locals := 749 }) s m ([.ref p0.toNat] : List Value).toArray below meth c H locs 0 0 Q (F0 m 78 ls []) := by
    intro vc78 H locs ls h_12 h_13 h_14 f_15 I_16 hP hD hS hl
    have rp_17 : RP tT tN [0] 0 (v p0 8) (v p0 7) (bgn (v (v p0 11))) (v p0 14) (vc78 p0 8) (vc78 p0 7) (bgn (vc78 (v p0 11))) (vc78 p0 14) [159, 0] 0 := by assumption
    refine lv_aload_n hx hb dX7_readClause_78 rfl (lv_at hl 0 rfl) ?_
    refine lv_bipush (v := iI 59) hx hb dX7_readClause_79 rfl ?_
    have h_18 : (-2147483648) ≤ vc78 p0 7 ∧ vc78 p0 7 ≤ 2147483647 := xf_7_7 I_16 q0
    have b_19 : vc78 p0 6 = v p0 6 := (fr_use q0 f_15 rfl)
    refine jcg_v (va_runV (As := [.int (iI 59)]) (rest := []) ⟨hx, hb, hml, hown, hts⟩ (sX7_expect l dC dI _ L cid K N tW sK sV vc78 tT tN p0 59 I_16 q0 (by omega) (tks_fr hI q0 (show fr K [(7, 7), (7, 8), (7, 10), (7, 14), (25, (-1)), (26, (-1)), (27, (-1)), (28, (-1))] vc78 v from (fr_tr f_15 rfl fr_rf)) rfl rfl rfl rfl rfl rfl rfl (fun _ => rfl) (fun _ => rfl) (fun _ => rfl) (fun _ => rfl) (fun _ => rfl) k1) (by omega) (by omega)) (cwV 1 hts (jgoodV m_708 m_709 m_710 m_677 m_711) rfl rfl rfl (by decide +kernel) ⟨(Nat.le_of_ble_eq_true rfl), (Nat.le_of_ble_eq_true rfl)⟩) ⟨xP_blind, xrecv hK hP q0 rfl rfl, fun U hU hW => ⟨rfl, xP_of hU hW hP hK hD hX hS (fun _ h => h) hA⟩⟩ rfl rfl hl.1 rfl (lv_room (Nat.le_of_ble_eq_true rfl)) dX7_readClause_81 ⟨(Nat.le_of_ble_eq_true rfl), (Nat.le_of_ble_eq_true rfl)⟩) hD hS hA (fun v_27 H locs w_21 hP hK hD hS => ?_)
    obtain ⟨I_29, f_28, h_23, h_24, h_25, h_26⟩ := w_21
    have hP : va_P (dC, dI) vwCl (xG L cid K N v_27) H := hP
    have hD : va_D A (xG L cid K N v_27) := hD
    have b_30 : vc78 p0 6 = v p0 6 := (fr_use q0 f_15 rfl)
    have h_31 : (-2147483648) ≤ vc78 p0 8 ∧ vc78 p0 8 ≤ 2147483647 := xf_7_8 I_16 q0
    have h_32 : (-2147483648) ≤ v_27 p0 8 ∧ v_27 p0 8 ≤ 2147483647 := xf_7_8 I_29 q0
    have h_33 : (-2147483648) ≤ v_27 p0 7 ∧ v_27 p0 7 ≤ 2147483647 := xf_7_7 I_29 q0
    have g_34 : vc78 p0 8 = -1 ∨ v_27 p0 8 = vc78 p0 8 := jF_o h_23
    have g_35 : vc78 p0 8 ≠ -1 ∨ v_27 p0 8 ≠ -1 ∨ vc78 p0 7 + 1 ≤ v_27 p0 7 := jF_3 h_25
    have rp_36 : RP tT tN [0] 0 (v p0 8) (v p0 7) (bgn (v (v p0 11))) (v p0 14) (v_27 p0 8) (v_27 p0 7) (bgn (vc78 (v p0 11))) (vc78 p0 14) [0] 0 := RP_c rp_17 (h_26 159 0 (by omega) _ _) h_23
    have h_37 : (-2147483648) ≤ v p0 8 ∧ v p0 8 ≤ 2147483647 := xf_7_8 hI q0
    have h_38 : 0 ≤ v p0 14 ∧ v p0 14 ≤ 4 := xf_7_14 hI q0
    have b_39 : v_27 p0 14 = vc78 p0 14 := (fr_use q0 f_28 rfl)
    have h_40 : 0 ≤ vc78 p0 14 ∧ vc78 p0 14 ≤ 4 := xf_7_14 I_16 q0
    rw [← hQ]
    exact W.vret hx hb hr (fun t ht hW => ⟨⟨v_27, rfl, ⟨I_29, (fr_tr f_28 rfl (fr_tr f_15 rfl fr_rf)), by omega, by omega, by exact (by rw [show v_27 p0 14 = vc78 p0 14 from (fr_use q0 f_28 rfl), show v_27 (v p0 11) = vc78 (v p0 11) from (funext fun i => (fr_use (j := i) h_1 f_28 rfl))]; exact rp_36)⟩, by rw [ht]; exact hP, va_K.moved hW.alike hK, hD⟩, hS.F ht⟩) hS.2.2 dX7_readClause_84
  refine xr_if_ne (tgt := 18) hx hb dX7_readClause_4 (by decide) (by omega) (fun h_41 => ?_) (fun h_41 => ?_)
  · refine lv_aload_n hx hb dX7_readClause_18 rfl (lv_at hl 0 rfl) ?_
    have h_42 : (-2147483648) ≤ v p0 8 ∧ v p0 8 ≤ 2147483647 := xf_7_8 hI q0
    refine jcg_i (va_runV (As := []) (rest := []) ⟨hx, hb, hml, hown, hts⟩ (sX7_openSort l dC dI _ L cid K N tW sK sV v tT tN p0 hI q0 k1 (by omega) (by omega)) (cwV 0 hts (jgoodV m_732 m_733 m_734 m_677 m_735) rfl rfl rfl (by decide +kernel) ⟨(Nat.le_of_ble_eq_true rfl), (Nat.le_of_ble_eq_true rfl)⟩) ⟨xP_blind, xrecv hK hP q0 rfl rfl, fun U hU hW => ⟨rfl, xP_of hU hW hP hK hD hX hS (fun _ h => h) hA⟩⟩ rfl rfl hl.1 rfl (lv_room (Nat.le_of_ble_eq_true rfl)) dX7_readClause_19 ⟨(Nat.le_of_ble_eq_true rfl), (Nat.le_of_ble_eq_true rfl)⟩) hD hS hA (fun r_43 v_50 H locs w_44 hP hK hD hS => ?_)
    obtain ⟨z_45, rfl, I_52, f_51, h_46, h_47, h_48, h_49⟩ := w_44
    have hP : va_P (dC, dI) vwCl (xG L cid K N v_50) H := hP
    have hD : va_D A (xG L cid K N v_50) := hD
    have h_53 : (-2147483648) ≤ v_50 p0 8 ∧ v_50 p0 8 ≤ 2147483647 := xf_7_8 I_52 q0
    have h_54 : (-2147483648) ≤ v_50 p0 7 ∧ v_50 p0 7 ≤ 2147483647 := xf_7_7 I_52 q0
    have o7 := osp_z h_47
    refine lv_istore_n (i := 1) (lv' := [(1, .int (iI z_45)), (0, .ref p0.toNat)]) hx hb dX7_readClause_22 rfl hl (by decide) rfl (fun ls hl => ?_)
    refine lv_iload_n hx hb dX7_readClause_23 rfl (lv_at hl 0 rfl) ?_
    have J73 : ∀ (vc73 : Int → Int → Int) (H : Heap) (locs : List Loc) (ls : Array Slot), (v p0 7 ≤ vc73 p0 7 ∧ vc73 p0 7 < v p0 6) → (vc73 p0 8 ≠ -1 ∨ v p0 7 + 1 ≤ vc73 p0 7) → (RP tT tN [0] 0 (v p0 8) (v p0 7) (bgn (v (v p0 11))) (v p0 14) (vc73 p0 8) (vc73 p0 7) (bgn (vc73 (v p0 11))) (vc73 p0 14) [159, 0] 0) → fr K [(7, 7), (7, 8), (7, 10), (25, (-1))] vc73 v_50 → xI L K N vc73 → va_P (dC, dI) vwCl (xG L cid K N vc73) H → va_D A (xG L cid K N vc73) → va_S A s.heap H locs → lv_has ls 2 [(1, .int (iI z_45)), (0, .ref p0.toNat)] → W p l e ({ frames := 33, cells := 0, slots := 0, locals := 749 }) s m ([.ref p0.toNat] : List Value).toArray below meth c H locs 0 0 Q (F0 m 73 ls []) := by
      intro vc73 H locs ls h_55 h_56 h_57 f_58 I_59 hP hD hS hl
      have rp_60 : RP tT tN [0] 0 (v p0 8) (v p0 7) (bgn (v (v p0 11))) (v p0 14) (vc73 p0 8) (vc73 p0 7) (bgn (vc73 (v p0 11))) (vc73 p0 14) [159, 0] 0 := by assumption
      rw [show vc73 p0 14 = v p0 14 from (((fr_use q0 f_58 rfl)).trans (fr_use q0 f_51 rfl)), show vc73 (v p0 11) = v_50 (v p0 11) from (funext fun i => (fr_use (j := i) h_1 f_58 rfl))] at rp_60
      refine lv_aload_n hx hb dX7_readClause_73 rfl (lv_at hl 1 rfl) ?_
      refine lv_iload_n hx hb dX7_readClause_74 rfl (lv_at hl 0 rfl) ?_
      refine jcg_v (va_runV (As := [.int (iI z_45)]) (rest := []) ⟨hx, hb, hml, hown, hts⟩ (sX7_closeSort l dC dI _ L cid K N tW sK sV vc73 p0 z_45 I_59 q0 (by omega)) (cwV 1 hts (jgoodV m_736 m_737 m_738 m_677 m_739) rfl rfl rfl (by decide +kernel) ⟨(Nat.le_of_ble_eq_true rfl), (Nat.le_of_ble_eq_true rfl)⟩) ⟨xP_blind, xrecv hK hP q0 rfl rfl, fun U hU hW => ⟨rfl, xP_of hU hW hP hK hD hX hS (fun _ h => h) hA⟩⟩ rfl rfl hl.1 rfl (lv_room (Nat.le_of_ble_eq_true rfl)) dX7_readClause_75 ⟨(Nat.le_of_ble_eq_true rfl), (Nat.le_of_ble_eq_true rfl)⟩) hD hS hA (fun v_64 H locs w_62 hP hK hD hS => ?_)
      obtain ⟨I_66, f_65⟩ := w_62
      have hP : va_P (dC, dI) vwCl (xG L cid K N v_64) H := hP
      have hD : va_D A (xG L cid K N v_64) := hD
      have b_67 : v_64 p0 8 = vc73 p0 8 := (fr_use q0 f_65 rfl)
      have b_68 : v_64 p0 7 = vc73 p0 7 := (fr_use q0 f_65 rfl)
      exact J78 v_64 H locs ls (by omega) (by omega) (by exact (by rw [show v_64 p0 8 = vc73 p0 8 from (fr_use q0 f_65 rfl), show v_64 p0 7 = vc73 p0 7 from (fr_use q0 f_65 rfl), show v_64 p0 14 = v p0 14 from (((fr_use q0 f_65 rfl)).trans (((fr_use q0 f_58 rfl)).trans (fr_use q0 f_51 rfl))), show v_64 (v p0 11) = v_50 (v p0 11) from (funext fun i => (((fr_use (j := i) h_1 f_65 rfl)).trans (fr_use (j := i) h_1 f_58 rfl)))]; exact rp_60)) (fr_tr f_65 rfl (fr_tr f_58 rfl (fr_tr f_51 rfl fr_rf))) I_66 hP hD hS (lv_sub hl [1] rfl)
    refine xr_if_ne (tgt := 36) hx hb dX7_readClause_24 (by decide) (by omega) (fun h_69 => ?_) (fun h_69 => ?_)
    · refine lv_iload_n hx hb dX7_readClause_36 rfl (lv_at hl 0 rfl) ?_
      refine lv_iconst (v := iI 1) hx hb dX7_readClause_37 rfl ?_
      refine xr_icmp_ne (tgt := 50) hx hb dX7_readClause_38 (by decide) (by omega) (by omega) (fun h_70 => ?_) (fun h_70 => ?_)
      · refine lv_iload_n hx hb dX7_readClause_50 rfl (lv_at hl 0 rfl) ?_
        refine lv_iconst (v := iI 2) hx hb dX7_readClause_51 rfl ?_
        have J60 : ∀ (H : Heap) (locs : List Loc) (ls : Array Slot), (z_45 = 2 ∨ z_45 = 3) → va_P (dC, dI) vwCl (xG L cid K N v_50) H → va_D A (xG L cid K N v_50) → va_S A s.heap H locs → lv_has ls 2 [(1, .int (iI z_45)), (0, .ref p0.toNat)] → W p l e ({ frames := 33, cells := 0, slots := 0, locals := 749 }) s m ([.ref p0.toNat] : List Value).toArray below meth c H locs 0 0 Q (F0 m 60 ls []) := by
          intro H locs ls h_71 hP hD hS hl
          have rp_72 : RP tT tN [0] 0 (v p0 8) (v p0 7) (bgn (v (v p0 11))) (v p0 14) (v_50 p0 8) (v_50 p0 7) (bgn (v_50 (v p0 11))) (v p0 14) [6, 13, 159, 0] 0 := RP_os rp_3 (by omega) (by omega) (by omega) (by omega) h_47 (by omega) h_48
          refine lv_aload_n hx hb dX7_readClause_60 rfl (lv_at hl 1 rfl) ?_
          refine lv_iconst (v := iI 0) hx hb dX7_readClause_61 rfl ?_
          have b_73 : v_50 p0 6 = v p0 6 := (fr_use q0 f_51 rfl)
          refine jcg_v (va_runV (As := [.int (iI 0)]) (rest := []) ⟨hx, hb, hml, hown, hts⟩ (sX7_readEither_q0 l dC dI _ L cid K N tW sK sV v_50 tT tN p0 0 I_52 q0 (by omega) (by omega) (tks_fr hI q0 (show fr K [(7, 7), (7, 8), (26, (-1))] v_50 v from (fr_tr f_51 rfl fr_rf)) rfl rfl rfl rfl rfl rfl rfl (fun _ => rfl) (fun _ => rfl) (fun _ => rfl) (fun _ => rfl) (fun _ => rfl) k1) (by omega)) (cwV 1 hts (jgoodV m_724 m_725 m_726 m_677 m_727) rfl rfl rfl (by decide +kernel) ⟨(Nat.le_of_ble_eq_true rfl), (Nat.le_of_ble_eq_true rfl)⟩) ⟨xP_blind, xrecv hK hP q0 rfl rfl, fun U hU hW => ⟨rfl, xP_of hU hW hP hK hD hX hS (fun _ h => h) hA⟩⟩ rfl rfl hl.1 rfl (lv_room (Nat.le_of_ble_eq_true rfl)) dX7_readClause_62 ⟨(Nat.le_of_ble_eq_true rfl), (Nat.le_of_ble_eq_true rfl)⟩) hD hS hA (fun v_81 H locs w_75 hP hK hD hS => ?_)
          obtain ⟨I_83, f_82, h_77, h_78, h_79, h_80⟩ := w_75
          have hP : va_P (dC, dI) vwCl (xG L cid K N v_81) H := hP
          have hD : va_D A (xG L cid K N v_81) := hD
          have b_84 : v_50 p0 6 = v p0 6 := (fr_use q0 f_51 rfl)
          have h_85 : (-2147483648) ≤ v_81 p0 8 ∧ v_81 p0 8 ≤ 2147483647 := xf_7_8 I_83 q0
          have h_86 : (-2147483648) ≤ v_81 p0 7 ∧ v_81 p0 7 ≤ 2147483647 := xf_7_7 I_83 q0
          have g_87 : v_50 p0 8 = -1 ∨ v_81 p0 8 = v_50 p0 8 := jF_o h_77
          have g_88 : v_50 p0 8 ≠ -1 ∨ v_81 p0 8 ≠ -1 ∨ v_50 p0 7 + 1 ≤ v_81 p0 7 := jF_3 h_79
          have rp_89 : RP tT tN [0] 0 (v p0 8) (v p0 7) (bgn (v (v p0 11))) (v p0 14) (v_81 p0 8) (v_81 p0 7) (bgn (v_50 (v p0 11))) (v p0 14) [159, 0] 0 := RP_13 (RP_c rp_72 (h_80 _ _) h_77)
          refine lv_goto (tgt := 73) hx hb dX7_readClause_65 (by decide) ?_
          exact J73 v_81 H locs ls (by omega) (by omega) (by exact (by rw [show v_81 p0 14 = v p0 14 from (((fr_use q0 f_82 rfl)).trans (fr_use q0 f_51 rfl)), show v_81 (v p0 11) = v_50 (v p0 11) from (funext fun i => (fr_use (j := i) h_1 f_82 rfl))]; exact rp_89)) (fr_tr f_82 rfl fr_rf) I_83 hP hD hS hl
        refine xr_icmp_eq (tgt := 60) hx hb dX7_readClause_52 (by decide) (by omega) (by omega) (fun h_90 => ?_) (fun h_90 => ?_)
        · exact J60 H locs ls (by omega) hP hD hS hl
        · refine lv_iload_n hx hb dX7_readClause_55 rfl (lv_at hl 0 rfl) ?_
          refine lv_iconst (v := iI 3) hx hb dX7_readClause_56 rfl ?_
          refine xr_icmp_ne (tgt := 68) hx hb dX7_readClause_57 (by decide) (by omega) (by omega) (fun h_91 => ?_) (fun h_91 => ?_)
          · have rp_92 : RP tT tN [0] 0 (v p0 8) (v p0 7) (bgn (v (v p0 11))) (v p0 14) (v_50 p0 8) (v_50 p0 7) (bgn (v_50 (v p0 11))) (v p0 14) [1, 13, 159, 0] 0 := RP_os rp_3 (by omega) (by omega) (by omega) (by omega) h_47 (by omega) h_48
            refine lv_aload_n hx hb dX7_readClause_68 rfl (lv_at hl 1 rfl) ?_
            refine lv_iconst (v := iI 0) hx hb dX7_readClause_69 rfl ?_
            have b_93 : v_50 p0 6 = v p0 6 := (fr_use q0 f_51 rfl)
            refine jcg_v (va_runV (As := [.int (iI 0)]) (rest := []) ⟨hx, hb, hml, hown, hts⟩ (sX7_readSum_q0 l dC dI _ L cid K N tW sK sV v_50 tT tN p0 0 I_52 q0 (by omega) (by omega) (tks_fr hI q0 (show fr K [(7, 7), (7, 8), (26, (-1))] v_50 v from (fr_tr f_51 rfl fr_rf)) rfl rfl rfl rfl rfl rfl rfl (fun _ => rfl) (fun _ => rfl) (fun _ => rfl) (fun _ => rfl) (fun _ => rfl) k1) (by omega)) (cwV 1 hts (jgoodV m_704 m_705 m_706 m_677 m_707) rfl rfl rfl (by decide +kernel) ⟨(Nat.le_of_ble_eq_true rfl), (Nat.le_of_ble_eq_true rfl)⟩) ⟨xP_blind, xrecv hK hP q0 rfl rfl, fun U hU hW => ⟨rfl, xP_of hU hW hP hK hD hX hS (fun _ h => h) hA⟩⟩ rfl rfl hl.1 rfl (lv_room (Nat.le_of_ble_eq_true rfl)) dX7_readClause_70 ⟨(Nat.le_of_ble_eq_true rfl), (Nat.le_of_ble_eq_true rfl)⟩) hD hS hA (fun v_101 H locs w_95 hP hK hD hS => ?_)
            obtain ⟨I_103, f_102, h_97, h_98, h_99, h_100⟩ := w_95
            have hP : va_P (dC, dI) vwCl (xG L cid K N v_101) H := hP
            have hD : va_D A (xG L cid K N v_101) := hD
            have b_104 : v_50 p0 6 = v p0 6 := (fr_use q0 f_51 rfl)
            have h_105 : (-2147483648) ≤ v_101 p0 8 ∧ v_101 p0 8 ≤ 2147483647 := xf_7_8 I_103 q0
            have h_106 : (-2147483648) ≤ v_101 p0 7 ∧ v_101 p0 7 ≤ 2147483647 := xf_7_7 I_103 q0
            have g_107 : v_50 p0 8 = -1 ∨ v_101 p0 8 = v_50 p0 8 := jF_o h_97
            have g_108 : v_50 p0 8 ≠ -1 ∨ v_101 p0 8 ≠ -1 ∨ v_50 p0 7 + 1 ≤ v_101 p0 7 := jF_3 h_99
            have rp_109 : RP tT tN [0] 0 (v p0 8) (v p0 7) (bgn (v (v p0 11))) (v p0 14) (v_101 p0 8) (v_101 p0 7) (bgn (v_50 (v p0 11))) (v p0 14) [159, 0] 0 := RP_13 (RP_c rp_92 (h_100 _ _) h_97)
            exact J73 v_101 H locs ls (by omega) (by omega) (by exact (by rw [show v_101 p0 14 = v p0 14 from (((fr_use q0 f_102 rfl)).trans (fr_use q0 f_51 rfl)), show v_101 (v p0 11) = v_50 (v p0 11) from (funext fun i => (fr_use (j := i) h_1 f_102 rfl))]; exact rp_109)) (fr_tr f_102 rfl fr_rf) I_103 hP hD hS hl
          · exact J60 H locs ls (by omega) hP hD hS hl
      · have o8 := osp_j h_47 (by omega)
        refine lv_aload_n hx hb dX7_readClause_41 rfl (lv_at hl 1 rfl) ?_
        refine lv_bipush (v := iI 23) hx hb dX7_readClause_42 rfl ?_
        have b_110 : v_50 p0 6 = v p0 6 := (fr_use q0 f_51 rfl)
        refine jcg_v (va_runV (As := [.int (iI 23)]) (rest := []) ⟨hx, hb, hml, hown, hts⟩ (sX7_readChoice l dC dI _ L cid K N tW sK sV v_50 tT tN p0 23 I_52 q0 (by omega) (tks_fr hI q0 (show fr K [(7, 7), (7, 8), (26, (-1))] v_50 v from (fr_tr f_51 rfl fr_rf)) rfl rfl rfl rfl rfl rfl rfl (fun _ => rfl) (fun _ => rfl) (fun _ => rfl) (fun _ => rfl) (fun _ => rfl) k1) (by omega) (by omega) (by omega)) (cwV 1 hts (jgoodV m_740 m_741 m_742 m_677 m_743) rfl rfl rfl (by decide +kernel) ⟨(Nat.le_of_ble_eq_true rfl), (Nat.le_of_ble_eq_true rfl)⟩) ⟨xP_blind, xrecv hK hP q0 rfl rfl, fun U hU hW => ⟨rfl, xP_of hU hW hP hK hD hX hS (fun _ h => h) hA⟩⟩ rfl rfl hl.1 rfl (lv_room (Nat.le_of_ble_eq_true rfl)) dX7_readClause_44 ⟨(Nat.le_of_ble_eq_true rfl), (Nat.le_of_ble_eq_true rfl)⟩) hD hS hA (fun v_116 H locs w_112 hP hK hD hS => ?_)
        obtain ⟨I_118, f_117, h_114, h_115⟩ := w_112
        have hP : va_P (dC, dI) vwCl (xG L cid K N v_116) H := hP
        have hD : va_D A (xG L cid K N v_116) := hD
        have b_119 : v_50 p0 6 = v p0 6 := (fr_use q0 f_51 rfl)
        have h_120 : (-2147483648) ≤ v_116 p0 8 ∧ v_116 p0 8 ≤ 2147483647 := xf_7_8 I_118 q0
        have h_121 : (-2147483648) ≤ v_116 p0 7 ∧ v_116 p0 7 ≤ 2147483647 := xf_7_7 I_118 q0
        have rp_122 : RP tT tN [0] 0 (v p0 8) (v p0 7) (bgn (v (v p0 11))) (v p0 14) (v_116 p0 8) (v_116 p0 7) (bgn (v_50 (v p0 11))) (v p0 14) [159, 0] 0 := RP_oc (z := z_45) (j1 := v_50 p0 7) (f1 := v_50 p0 8) rp_3 (by omega) (by omega) h_47 (by omega) ((h_48).resolve_left (by omega)) (by omega)
        refine lv_goto (tgt := 73) hx hb dX7_readClause_47 (by decide) ?_
        exact J73 v_116 H locs ls (by omega) (by omega) (by exact (by rw [show v_116 p0 14 = v p0 14 from (((fr_use q0 f_117 rfl)).trans (fr_use q0 f_51 rfl)), show v_116 (v p0 11) = v_50 (v p0 11) from (funext fun i => (fr_use (j := i) h_1 f_117 rfl))]; exact rp_122)) (fr_tr f_117 rfl fr_rf) I_118 hP hD hS hl
    · have o8 := osp_j h_47 (by omega)
      refine lv_aload_n hx hb dX7_readClause_27 rfl (lv_at hl 1 rfl) ?_
      refine lv_bipush (v := iI 21) hx hb dX7_readClause_28 rfl ?_
      have b_123 : v_50 p0 6 = v p0 6 := (fr_use q0 f_51 rfl)
      refine jcg_v (va_runV (As := [.int (iI 21)]) (rest := []) ⟨hx, hb, hml, hown, hts⟩ (sX7_readChoice l dC dI _ L cid K N tW sK sV v_50 tT tN p0 21 I_52 q0 (by omega) (tks_fr hI q0 (show fr K [(7, 7), (7, 8), (26, (-1))] v_50 v from (fr_tr f_51 rfl fr_rf)) rfl rfl rfl rfl rfl rfl rfl (fun _ => rfl) (fun _ => rfl) (fun _ => rfl) (fun _ => rfl) (fun _ => rfl) k1) (by omega) (by omega) (by omega)) (cwV 1 hts (jgoodV m_740 m_741 m_742 m_677 m_743) rfl rfl rfl (by decide +kernel) ⟨(Nat.le_of_ble_eq_true rfl), (Nat.le_of_ble_eq_true rfl)⟩) ⟨xP_blind, xrecv hK hP q0 rfl rfl, fun U hU hW => ⟨rfl, xP_of hU hW hP hK hD hX hS (fun _ h => h) hA⟩⟩ rfl rfl hl.1 rfl (lv_room (Nat.le_of_ble_eq_true rfl)) dX7_readClause_30 ⟨(Nat.le_of_ble_eq_true rfl), (Nat.le_of_ble_eq_true rfl)⟩) hD hS hA (fun v_129 H locs w_125 hP hK hD hS => ?_)
      obtain ⟨I_131, f_130, h_127, h_128⟩ := w_125
      have hP : va_P (dC, dI) vwCl (xG L cid K N v_129) H := hP
      have hD : va_D A (xG L cid K N v_129) := hD
      have b_132 : v_50 p0 6 = v p0 6 := (fr_use q0 f_51 rfl)
      have h_133 : (-2147483648) ≤ v_129 p0 8 ∧ v_129 p0 8 ≤ 2147483647 := xf_7_8 I_131 q0
      have h_134 : (-2147483648) ≤ v_129 p0 7 ∧ v_129 p0 7 ≤ 2147483647 := xf_7_7 I_131 q0
      have rp_135 : RP tT tN [0] 0 (v p0 8) (v p0 7) (bgn (v (v p0 11))) (v p0 14) (v_129 p0 8) (v_129 p0 7) (bgn (v_50 (v p0 11))) (v p0 14) [159, 0] 0 := RP_oc (z := z_45) (j1 := v_50 p0 7) (f1 := v_50 p0 8) rp_3 (by omega) (by omega) h_47 (by omega) ((h_48).resolve_left (by omega)) (by omega)
      refine lv_goto (tgt := 73) hx hb dX7_readClause_33 (by decide) ?_
      exact J73 v_129 H locs ls (by omega) (by omega) (by exact (by rw [show v_129 p0 14 = v p0 14 from (((fr_use q0 f_130 rfl)).trans (fr_use q0 f_51 rfl)), show v_129 (v p0 11) = v_50 (v p0 11) from (funext fun i => (fr_use (j := i) h_1 f_130 rfl))]; exact rp_135)) (fr_tr f_130 rfl fr_rf) I_131 hP hD hS hl
  · refine lv_aload_n hx hb dX7_readClause_7 rfl (lv_at hl 0 rfl) ?_
    refine jcg_v (va_runV (As := []) (rest := []) ⟨hx, hb, hml, hown, hts⟩ (sX7_advance l dC dI _ L cid K N tW sK sV v p0 hI q0 (by omega)) (cwV 0 hts (jgoodV m_692 m_693 m_694 m_677 m_695) rfl rfl rfl (by decide +kernel) ⟨(Nat.le_of_ble_eq_true rfl), (Nat.le_of_ble_eq_true rfl)⟩) ⟨xP_blind, xrecv hK hP q0 rfl rfl, fun U hU hW => ⟨rfl, xP_of hU hW hP hK hD hX hS (fun _ h => h) hA⟩⟩ rfl rfl hl.1 rfl (lv_room (Nat.le_of_ble_eq_true rfl)) dX7_readClause_8 ⟨(Nat.le_of_ble_eq_true rfl), (Nat.le_of_ble_eq_true rfl)⟩) hD hS hA (fun v_140 H locs w_137 hP hK hD hS => ?_)
    obtain ⟨I_142, f_141, h_139⟩ := w_137
    have hP : va_P (dC, dI) vwCl (xG L cid K N v_140) H := hP
    have hD : va_D A (xG L cid K N v_140) := hD
    have h_143 : (-2147483648) ≤ v p0 8 ∧ v p0 8 ≤ 2147483647 := xf_7_8 hI q0
    have h_144 : (-2147483648) ≤ v_140 p0 7 ∧ v_140 p0 7 ≤ 2147483647 := xf_7_7 I_142 q0
    refine lv_aload_n hx hb dX7_readClause_11 rfl (lv_at hl 0 rfl) ?_
    have b_145 : v_140 p0 6 = v p0 6 := (fr_use q0 f_141 rfl)
    have b_146 : v_140 p0 8 = v p0 8 := (fr_use q0 f_141 rfl)
    refine jcg_v (va_runV (As := []) (rest := []) ⟨hx, hb, hml, hown, hts⟩ (sX7_readSkip l dC dI _ L cid K N tW sK sV v_140 tT tN p0 I_142 q0 (tks_fr hI q0 (show fr K [(7, 7)] v_140 v from (fr_tr f_141 rfl fr_rf)) rfl rfl rfl rfl rfl rfl rfl (fun _ => rfl) (fun _ => rfl) (fun _ => rfl) (fun _ => rfl) (fun _ => rfl) k1) (by omega) (by omega)) (cwV 0 hts (jgoodV m_744 m_745 m_746 m_677 m_747) rfl rfl rfl (by decide +kernel) ⟨(Nat.le_of_ble_eq_true rfl), (Nat.le_of_ble_eq_true rfl)⟩) ⟨xP_blind, xrecv hK hP q0 rfl rfl, fun U hU hW => ⟨rfl, xP_of hU hW hP hK hD hX hS (fun _ h => h) hA⟩⟩ rfl rfl hl.1 rfl (lv_room (Nat.le_of_ble_eq_true rfl)) dX7_readClause_12 ⟨(Nat.le_of_ble_eq_true rfl), (Nat.le_of_ble_eq_true rfl)⟩) hD hS hA (fun v_152 H locs w_148 hP hK hD hS => ?_)
    obtain ⟨I_154, f_153, h_150, h_151⟩ := w_148
    have hP : va_P (dC, dI) vwCl (xG L cid K N v_152) H := hP
    have hD : va_D A (xG L cid K N v_152) := hD
    have b_155 : v_140 p0 6 = v p0 6 := (fr_use q0 f_141 rfl)
    have b_156 : v_140 p0 8 = v p0 8 := (fr_use q0 f_141 rfl)
    have h_157 : (-2147483648) ≤ v_152 p0 8 ∧ v_152 p0 8 ≤ 2147483647 := xf_7_8 I_154 q0
    have h_158 : (-2147483648) ≤ v_152 p0 7 ∧ v_152 p0 7 ≤ 2147483647 := xf_7_7 I_154 q0
    have b_159 : v_140 p0 14 = v p0 14 := (fr_use q0 f_141 rfl)
    have h_160 : 0 ≤ v p0 14 ∧ v p0 14 ≤ 4 := xf_7_14 hI q0
    have h_161 : 0 ≤ v_152 p0 14 ∧ v_152 p0 14 ≤ 4 := xf_7_14 I_154 q0
    rw [show v_140 p0 14 = v p0 14 from (fr_use q0 f_141 rfl)] at h_150
    have rp_162 : RP tT tN [0] 0 (v p0 8) (v p0 7) (bgn (v (v p0 11))) (v p0 14) (v_152 p0 8) (v_152 p0 7) (bgn (v (v p0 11))) (v_152 p0 14) [159, 0] 0 := RP_sk (j1 := v_140 p0 7) rp_3 (by omega) (by omega) (by omega) (by omega) (by omega)
    refine lv_goto (tgt := 78) hx hb dX7_readClause_15 (by decide) ?_
    exact J78 v_152 H locs ls (by omega) (by omega) (by exact (by rw [show v_152 (v p0 11) = v (v p0 11) from (funext fun i => (((fr_use (j := i) h_1 f_153 rfl)).trans (fr_use (j := i) h_1 f_141 rfl)))]; exact rp_162)) (fr_tr f_153 rfl (fr_tr f_141 rfl fr_rf)) I_154 hP hD hS hl
