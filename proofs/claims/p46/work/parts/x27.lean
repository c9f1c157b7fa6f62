set_option maxHeartbeats 2000000 in
set_option maxRecDepth 100000 in
theorem sX7_openSort (l : Launch) (dC : Nat → ClassId) (dI : Nat → Nat → Nat) (sz : Nat) (L : List Nat) (cid : Nat → ClassId) (K : Int → Nat) (N : Int → Int) (tW : Nat) (sK sV : Nat → Nat) (v : Int → Int → Int) (p0 : Int) (hI : xI L K N v) (q0 : ok L K p0 7) : Met l yX7_openSort (jk yX7_openSort cX7_openSort 4 (some .int)) ({ frames := 2, cells := 0, slots := 0, locals := 40 }) (va_Pc [.ref p0.toNat] (xP (dC, dI) (xG L cid K N v) (xT cid) tW sK sV sz)) (va_Qi (fun (r : Int32) (u : (Int → Int → Int)) => ∃ z : Int, r = iI z ∧ (xI L K N u) ∧ (fr K [(7, 7), (7, 8), (26, (-1))] u v) ∧ (rg z)) (fun u t => va_P (dC, dI) vwCl (xG L cid K N u) t.heap ∧ va_K (dC, dI) vwCl (xT cid) t ∧ va_D (va_A (xG L cid K N v) sz) (xG L cid K N u)) (va_A (xG L cid K N v) sz)) 0 0 (va_A (xG L cid K N v) sz) := by
  refine Met.ofW (cc := cX7_openSort) (maxL := 4) (ret := (some .int)) (by decide) rfl ?_
  intro p e s m args below meth c s₁ B hml hv
  obtain ⟨rfl, ⟨hsz, hP, hK, hD0⟩, hX⟩ := hv
  have hx := B.exec
  have hb := B.bytes
  have hr := B.returns
  have hts := atoms_spec (ws := (jk yX7_openSort cX7_openSort 4 (some .int))) B.pre
  have hj : ∀ w ∈ jw, w.before ([.ref p0.toNat] : List Value).toArray s = true := fun w h => hts w (jm h)
  have hown : s.vm.findClass RX7 = some m.cls := findClass_of_methodNamed B.named
  subst hsz
  have hD := hD0.self (sz := s.heap.size)
  generalize hAe : (va_A (xG L cid K N v) s.heap.size) = A at hD hX ⊢
  have hA : ∀ q : Nat, s.heap.size ≤ q → A q := fun q h => by rw [← hAe]; exact Or.inr h
  have hS : va_S A s.heap s.heap [] := va_S.rf
  have hXa := hX
  have hP : va_P (dC, dI) vwCl (xG L cid K N v) s.heap := hP
  have hl := lv_entry ([.ref p0.toNat]) (n := 4) (Nat.le_of_ble_eq_true rfl)
  rw [lg_entry_eq]
  generalize (lg_sl ([.ref p0.toNat]) ++ List.replicate (4 - (lg_sl ([.ref p0.toNat])).length) Slot.unset).toArray = ls at hl ⊢
  have hl : lv_has ls 4 [(0, .ref p0.toNat)] := hl
  generalize hQ : MQ below (va_Qi (fun (r : Int32) (u : (Int → Int → Int)) => ∃ z : Int, r = iI z ∧ (xI L K N u) ∧ (fr K [(7, 7), (7, 8), (26, (-1))] u v) ∧ (rg z)) (fun u t => va_P (dC, dI) vwCl (xG L cid K N u) t.heap ∧ va_K (dC, dI) vwCl (xT cid) t ∧ va_D A (xG L cid K N u)) A) ([.ref p0.toNat] : List Value).toArray s 0 0 A = Q
  suffices ST : ∀ (H : Heap) (locs : List Loc), va_P (dC, dI) vwCl (xG L cid K N v) H → va_S A s.heap H locs → W p l e ({ frames := 2, cells := 0, slots := 0, locals := 40 }) s m ([.ref p0.toNat] : List Value).toArray below meth c H locs 0 0 Q (F0 m 0 ls []) from ST _ _ hP hS
  clear hP hS
  intro H locs hP hS
  refine lv_aload_n hx hb dX7_openSort_0 rfl (lv_at hl 0 rfl) ?_
  refine jc_i (va_runV (As := []) (rest := []) ⟨hx, hb, hml, hown, hts⟩ (sX7_word l dC dI _ L cid K N tW sK sV v p0 hI q0) (cwV 0 hts (jgoodV m_679 m_680 m_681 m_677 m_682) rfl rfl rfl (by decide +kernel) ⟨(Nat.le_of_ble_eq_true rfl), (Nat.le_of_ble_eq_true rfl)⟩) ⟨xP_blind, xrecv hK hP q0 rfl rfl, fun U hU hW => ⟨rfl, xP_of hU hW hP hK hD hX hS (fun _ h => h) hA⟩⟩ rfl rfl hl.1 rfl (lv_room (Nat.le_of_ble_eq_true rfl)) dX7_openSort_1 ⟨(Nat.le_of_ble_eq_true rfl), (Nat.le_of_ble_eq_true rfl)⟩) hP hS hA (fun r_1 H locs w_2 hP hS => ?_)
  obtain ⟨z_3, rfl, h_4, h_5⟩ := w_2
  have h_6 : (-2147483648) ≤ v p0 7 ∧ v p0 7 ≤ 2147483647 := xf_7_7 hI q0
  refine lv_istore_n (i := 1) (lv' := [(1, .int (iI z_3)), (0, .ref p0.toNat)]) hx hb dX7_openSort_4 rfl hl (by decide) rfl (fun ls hl => ?_)
  refine lv_iconst (v := iI (-1)) hx hb dX7_openSort_5 rfl ?_
  refine lv_istore_n (i := 2) (lv' := [(2, .int (iI (-1))), (1, .int (iI z_3)), (0, .ref p0.toNat)]) hx hb dX7_openSort_6 rfl hl (by decide) rfl (fun ls hl => ?_)
  refine lv_iload_n hx hb dX7_openSort_7 rfl (lv_at hl 1 rfl) ?_
  refine lv_iconst (v := iI 1) hx hb dX7_openSort_8 rfl ?_
  have J74 : ∀ (a2_74 : Int) (vc74 : Int → Int → Int) (H : Heap) (locs : List Loc) (ls : Array Slot), ((-1) ≤ a2_74 ∧ a2_74 ≤ 13) → fr K [(7, 7)] vc74 v → xI L K N vc74 → va_P (dC, dI) vwCl (xG L cid K N vc74) H → va_D A (xG L cid K N vc74) → va_S A s.heap H locs → lv_has ls 4 [(2, .int (iI a2_74)), (1, .int (iI z_3)), (0, .ref p0.toNat)] → W p l e ({ frames := 2, cells := 0, slots := 0, locals := 40 }) s m ([.ref p0.toNat] : List Value).toArray below meth c H locs 0 0 Q (F0 m 74 ls []) := by
    intro a2_74 vc74 H locs ls h_7 f_8 I_9 hP hD hS hl
    refine lv_iload_n hx hb dX7_openSort_74 rfl (lv_at hl 0 rfl) ?_
    have J94 : ∀ (H : Heap) (locs : List Loc) (ls : Array Slot), va_P (dC, dI) vwCl (xG L cid K N vc74) H → va_D A (xG L cid K N vc74) → va_S A s.heap H locs → lv_has ls 4 [(2, .int (iI a2_74)), (1, .int (iI z_3)), (0, .ref p0.toNat)] → W p l e ({ frames := 2, cells := 0, slots := 0, locals := 40 }) s m ([.ref p0.toNat] : List Value).toArray below meth c H locs 0 0 Q (F0 m 94 ls []) := by
      intro H locs ls hP hD hS hl
      refine lv_aload_n hx hb dX7_openSort_94 rfl (lv_at hl 2 rfl) ?_
      refine jcg_v (va_runV (As := []) (rest := []) ⟨hx, hb, hml, hown, hts⟩ (sX7_refuse l dC dI _ L cid K N tW sK sV vc74 p0 I_9 q0) (cwV 0 hts (jgoodV m_683 m_684 m_685 m_677 m_686) rfl rfl rfl (by decide +kernel) ⟨(Nat.le_of_ble_eq_true rfl), (Nat.le_of_ble_eq_true rfl)⟩) ⟨xP_blind, xrecv hK hP q0 rfl rfl, fun U hU hW => ⟨rfl, xP_of hU hW hP hK hD hX hS (fun _ h => h) hA⟩⟩ rfl rfl hl.1 rfl (lv_room (Nat.le_of_ble_eq_true rfl)) dX7_openSort_95 ⟨(Nat.le_of_ble_eq_true rfl), (Nat.le_of_ble_eq_true rfl)⟩) hD hS hA (fun v_13 H locs w_11 hP hK hD hS => ?_)
      obtain ⟨I_15, f_14⟩ := w_11
      have hP : va_P (dC, dI) vwCl (xG L cid K N v_13) H := hP
      have hD : va_D A (xG L cid K N v_13) := hD
      refine lv_iconst (v := iI (-1)) hx hb dX7_openSort_98 rfl ?_
      rw [← hQ]
      exact W.iret (v := iI (-1)) hx hb hr (fun t ht hW => ⟨⟨iI (-1), v_13, rfl, ⟨(-1), rfl, I_15, (fr_tr f_14 rfl (fr_tr f_8 rfl fr_rf)), by omega⟩, by rw [ht]; exact hP, va_K.moved hW.alike hK, hD⟩, hS.F ht⟩) hS.2.2 dX7_openSort_99
    refine xr_if_lt (tgt := 94) hx hb dX7_openSort_75 (by decide) (by omega) (fun h_16 => ?_) (fun h_16 => ?_)
    · exact J94 H locs ls hP hD hS hl
    · refine lv_iload_n hx hb dX7_openSort_78 rfl (lv_at hl 0 rfl) ?_
      refine lv_bipush (v := iI 14) hx hb dX7_openSort_79 rfl ?_
      refine xr_icmp_ge (tgt := 94) hx hb dX7_openSort_81 (by decide) (by omega) (by omega) (fun h_17 => ?_) (fun h_17 => ?_)
      · exfalso; omega
      · refine lv_aload_n hx hb dX7_openSort_84 rfl (lv_at hl 2 rfl) ?_
        have h_18 : ok L K (v p0 11) 26 := xf_7_11 hI q0
        have h_19 : N (v p0 11) = 14 := xn_26 hI h_18
        refine gx_RX7_33 (y := v p0 11) hx hb hj hown hK hP q0 ((xf_7_11 I_9 q0).1) (fr_use q0 f_8 rfl) dX7_openSort_85 ?_
        refine lv_iload_n hx hb dX7_openSort_88 rfl (lv_at hl 0 rfl) ?_
        have h_20 : (-2147483648) ≤ v (v p0 11) a2_74 ∧ v (v p0 11) a2_74 ≤ 2147483647 := xe_26 hI h_18 (by omega)
        refine ax_26 (y := v (v p0 11) a2_74) hx hb hK hP h_18 (by omega) (by omega) (by omega) (fr_use h_18 f_8 rfl) dX7_openSort_89 ?_
        refine lv_iconst (v := iI (-1)) hx hb dX7_openSort_90 rfl ?_
        refine xr_icmp_eq (tgt := 100) hx hb dX7_openSort_91 (by decide) (by omega) (by omega) (fun h_21 => ?_) (fun h_21 => ?_)
        · refine lv_aload_n hx hb dX7_openSort_100 rfl (lv_at hl 2 rfl) ?_
          refine gx_RX7_33 (y := v p0 11) hx hb hj hown hK hP q0 ((xf_7_11 I_9 q0).1) (fr_use q0 f_8 rfl) dX7_openSort_101 ?_
          refine lv_iload_n hx hb dX7_openSort_104 rfl (lv_at hl 0 rfl) ?_
          refine lv_aload_n hx hb dX7_openSort_105 rfl (lv_at hl 2 rfl) ?_
          have h_22 : 0 ≤ v p0 10 ∧ v p0 10 ≤ 600 := xf_7_10 hI q0
          refine gx_RX7_56 (y := v p0 10) hx hb hj hown hK hP q0 (fr_use q0 f_8 rfl) dX7_openSort_106 ?_
          refine sx_26 (y := v p0 10) hx hb hK hP hD hS I_9 h_18 (by omega) (by omega) (by omega) ⟨by omega, by omega⟩ dX7_openSort_109 (fun v_23 H locs f_24 e_25 o_26 I_27 hP hD hS => ?_)
          refine lv_aload_n hx hb dX7_openSort_110 rfl (lv_at hl 2 rfl) ?_
          refine jcg_v (va_runV (As := []) (rest := []) ⟨hx, hb, hml, hown, hts⟩ (sX7_advance l dC dI _ L cid K N tW sK sV v_23 p0 I_27 q0) (cwV 0 hts (jgoodV m_692 m_693 m_694 m_677 m_695) rfl rfl rfl (by decide +kernel) ⟨(Nat.le_of_ble_eq_true rfl), (Nat.le_of_ble_eq_true rfl)⟩) ⟨xP_blind, xrecv hK hP q0 rfl rfl, fun U hU hW => ⟨rfl, xP_of hU hW hP hK hD hX hS (fun _ h => h) hA⟩⟩ rfl rfl hl.1 rfl (lv_room (Nat.le_of_ble_eq_true rfl)) dX7_openSort_111 ⟨(Nat.le_of_ble_eq_true rfl), (Nat.le_of_ble_eq_true rfl)⟩) hD hS hA (fun v_31 H locs w_29 hP hK hD hS => ?_)
          obtain ⟨I_33, f_32⟩ := w_29
          have hP : va_P (dC, dI) vwCl (xG L cid K N v_31) H := hP
          have hD : va_D A (xG L cid K N v_31) := hD
          refine lv_iload_n hx hb dX7_openSort_114 rfl (lv_at hl 0 rfl) ?_
          rw [← hQ]
          exact W.iret (v := iI a2_74) hx hb hr (fun t ht hW => ⟨⟨iI a2_74, v_31, rfl, ⟨a2_74, rfl, I_33, (fr_tr f_32 rfl (fr_tr f_24 rfl (fr_tr f_8 rfl fr_rf))), by omega⟩, by rw [ht]; exact hP, va_K.moved hW.alike hK, hD⟩, hS.F ht⟩) hS.2.2 dX7_openSort_115
        · exact J94 H locs ls hP hD hS hl
  have J26 : ∀ (H : Heap) (locs : List Loc) (ls : Array Slot), va_P (dC, dI) vwCl (xG L cid K N v) H → va_D A (xG L cid K N v) → va_S A s.heap H locs → lv_has ls 4 [(2, .int (iI (-1))), (1, .int (iI z_3)), (0, .ref p0.toNat)] → W p l e ({ frames := 2, cells := 0, slots := 0, locals := 40 }) s m ([.ref p0.toNat] : List Value).toArray below meth c H locs 0 0 Q (F0 m 26 ls []) := by
    intro H locs ls hP hD hS hl
    refine lv_iload_n hx hb dX7_openSort_26 rfl (lv_at hl 1 rfl) ?_
    refine lv_bipush (v := iI 6) hx hb dX7_openSort_27 rfl ?_
    refine xr_icmp_lt (tgt := 74) hx hb dX7_openSort_29 (by decide) (by omega) (by omega) (fun h_34 => ?_) (fun h_34 => ?_)
    · exact J74 (-1) v H locs ls (by omega) fr_rf hI hP hD hS hl
    · refine lv_iload_n hx hb dX7_openSort_32 rfl (lv_at hl 1 rfl) ?_
      refine lv_bipush (v := iI 8) hx hb dX7_openSort_33 rfl ?_
      refine xr_icmp_gt (tgt := 74) hx hb dX7_openSort_35 (by decide) (by omega) (by omega) (fun h_35 => ?_) (fun h_35 => ?_)
      · exact J74 (-1) v H locs ls (by omega) fr_rf hI hP hD hS hl
      · refine lv_aload_n hx hb dX7_openSort_38 rfl (lv_at hl 2 rfl) ?_
        refine jcg_v (va_runV (As := []) (rest := []) ⟨hx, hb, hml, hown, hts⟩ (sX7_advance l dC dI _ L cid K N tW sK sV v p0 hI q0) (cwV 0 hts (jgoodV m_692 m_693 m_694 m_677 m_695) rfl rfl rfl (by decide +kernel) ⟨(Nat.le_of_ble_eq_true rfl), (Nat.le_of_ble_eq_true rfl)⟩) ⟨xP_blind, xrecv hK hP q0 rfl rfl, fun U hU hW => ⟨rfl, xP_of hU hW hP hK hD hX hS (fun _ h => h) hA⟩⟩ rfl rfl hl.1 rfl (lv_room (Nat.le_of_ble_eq_true rfl)) dX7_openSort_39 ⟨(Nat.le_of_ble_eq_true rfl), (Nat.le_of_ble_eq_true rfl)⟩) hD hS hA (fun v_39 H locs w_37 hP hK hD hS => ?_)
        obtain ⟨I_41, f_40⟩ := w_37
        have hP : va_P (dC, dI) vwCl (xG L cid K N v_39) H := hP
        have hD : va_D A (xG L cid K N v_39) := hD
        refine lv_aload_n hx hb dX7_openSort_42 rfl (lv_at hl 2 rfl) ?_
        refine jc_i (va_runV (As := []) (rest := []) ⟨hx, hb, hml, hown, hts⟩ (sX7_word l dC dI _ L cid K N tW sK sV v_39 p0 I_41 q0) (cwV 0 hts (jgoodV m_679 m_680 m_681 m_677 m_682) rfl rfl rfl (by decide +kernel) ⟨(Nat.le_of_ble_eq_true rfl), (Nat.le_of_ble_eq_true rfl)⟩) ⟨xP_blind, xrecv hK hP q0 rfl rfl, fun U hU hW => ⟨rfl, xP_of hU hW hP hK hD hX hS (fun _ h => h) hA⟩⟩ rfl rfl hl.1 rfl (lv_room (Nat.le_of_ble_eq_true rfl)) dX7_openSort_43 ⟨(Nat.le_of_ble_eq_true rfl), (Nat.le_of_ble_eq_true rfl)⟩) hP hS hA (fun r_42 H locs w_43 hP hS => ?_)
        obtain ⟨z_44, rfl, h_45, h_46⟩ := w_43
        have h_47 : (-2147483648) ≤ v_39 p0 7 ∧ v_39 p0 7 ≤ 2147483647 := xf_7_7 I_41 q0
        refine lv_bipush (v := iI 9) hx hb dX7_openSort_46 rfl ?_
        refine xr_sub hx hb dX7_openSort_48 ?_
        refine xr_kept (fun z_48 h_49 h_50 => ?_)
        refine lv_istore_n (i := 3) (lv' := [(3, .int (iI z_48)), (2, .int (iI (-1))), (1, .int (iI z_3)), (0, .ref p0.toNat)]) hx hb dX7_openSort_49 rfl hl (by decide) rfl (fun ls hl => ?_)
        refine lv_iload_n hx hb dX7_openSort_50 rfl (lv_at hl 0 rfl) ?_
        have J73 : ∀ (s0_73 : Int) (H : Heap) (locs : List Loc) (ls : Array Slot), ((-1) ≤ s0_73 ∧ s0_73 ≤ 13) → va_P (dC, dI) vwCl (xG L cid K N v_39) H → va_D A (xG L cid K N v_39) → va_S A s.heap H locs → lv_has ls 4 [(3, .int (iI z_48)), (2, .int (iI (-1))), (1, .int (iI z_3)), (0, .ref p0.toNat)] → W p l e ({ frames := 2, cells := 0, slots := 0, locals := 40 }) s m ([.ref p0.toNat] : List Value).toArray below meth c H locs 0 0 Q (F0 m 73 ls [.int (iI s0_73)]) := by
          intro s0_73 H locs ls h_51 hP hD hS hl
          refine lv_istore_n (i := 2) (lv' := [(2, .int (iI s0_73)), (3, .int (iI z_48)), (1, .int (iI z_3)), (0, .ref p0.toNat)]) hx hb dX7_openSort_73 rfl hl (by decide) rfl (fun ls hl => ?_)
          exact J74 s0_73 v_39 H locs ls (by omega) (fr_tr f_40 rfl fr_rf) I_41 hP hD hS (lv_sub hl [0, 2, 3] rfl)
        have J72 : ∀ (H : Heap) (locs : List Loc) (ls : Array Slot), va_P (dC, dI) vwCl (xG L cid K N v_39) H → va_D A (xG L cid K N v_39) → va_S A s.heap H locs → lv_has ls 4 [(3, .int (iI z_48)), (2, .int (iI (-1))), (1, .int (iI z_3)), (0, .ref p0.toNat)] → W p l e ({ frames := 2, cells := 0, slots := 0, locals := 40 }) s m ([.ref p0.toNat] : List Value).toArray below meth c H locs 0 0 Q (F0 m 72 ls []) := by
          intro H locs ls hP hD hS hl
          refine lv_iconst (v := iI (-1)) hx hb dX7_openSort_72 rfl ?_
          exact J73 (-1) H locs ls (by omega) hP hD hS hl
        refine xr_if_lt (tgt := 72) hx hb dX7_openSort_51 (by decide) (by omega) (fun h_52 => ?_) (fun h_52 => ?_)
        · exact J72 H locs ls hP hD hS hl
        · refine lv_iload_n hx hb dX7_openSort_54 rfl (lv_at hl 0 rfl) ?_
          refine lv_iconst (v := iI 2) hx hb dX7_openSort_55 rfl ?_
          refine xr_icmp_gt (tgt := 72) hx hb dX7_openSort_56 (by decide) (by omega) (by omega) (fun h_53 => ?_) (fun h_53 => ?_)
          · exact J72 H locs ls hP hD hS hl
          · refine lv_iconst (v := iI 5) hx hb dX7_openSort_59 rfl ?_
            refine lv_iconst (v := iI 3) hx hb dX7_openSort_60 rfl ?_
            refine lv_iload_n hx hb dX7_openSort_61 rfl (lv_at hl 2 rfl) ?_
            refine lv_bipush (v := iI 6) hx hb dX7_openSort_62 rfl ?_
            refine xr_sub hx hb dX7_openSort_64 ?_
            refine xr_mul hx hb dX7_openSort_65 ?_
            refine xr_add hx hb dX7_openSort_66 ?_
            refine lv_iload_n hx hb dX7_openSort_67 rfl (lv_at hl 0 rfl) ?_
            refine xr_add hx hb dX7_openSort_68 ?_
            refine lv_goto (tgt := 73) hx hb dX7_openSort_69 (by decide) ?_
            exact J73 ((5 + (3 * (z_3 - 6))) + z_48) H locs ls (by omega) hP hD hS hl
  refine xr_icmp_lt (tgt := 26) hx hb dX7_openSort_9 (by decide) (by omega) (by omega) (fun h_54 => ?_) (fun h_54 => ?_)
  · exact J26 H locs ls hP hD hS hl
  · refine lv_iload_n hx hb dX7_openSort_12 rfl (lv_at hl 1 rfl) ?_
    refine lv_iconst (v := iI 5) hx hb dX7_openSort_13 rfl ?_
    refine xr_icmp_gt (tgt := 26) hx hb dX7_openSort_14 (by decide) (by omega) (by omega) (fun h_55 => ?_) (fun h_55 => ?_)
    · exact J26 H locs ls hP hD hS hl
    · refine lv_iconst (v := iI 0) hx hb dX7_openSort_17 rfl ?_
      refine lv_iload_n hx hb dX7_openSort_18 rfl (lv_at hl 1 rfl) ?_
      refine xr_add hx hb dX7_openSort_19 ?_
      refine lv_iconst (v := iI 1) hx hb dX7_openSort_20 rfl ?_
      refine xr_sub hx hb dX7_openSort_21 ?_
      refine lv_istore_n (i := 2) (lv' := [(2, .int (iI ((0 + z_3) - 1))), (1, .int (iI z_3)), (0, .ref p0.toNat)]) hx hb dX7_openSort_22 rfl hl (by decide) rfl (fun ls hl => ?_)
      refine lv_goto (tgt := 74) hx hb dX7_openSort_23 (by decide) ?_
      exact J74 ((0 + z_3) - 1) v H locs ls (by omega) fr_rf hI hP hD hS hl
set_option maxHeartbeats 2000000 in
set_option maxRecDepth 100000 in
theorem sX7_byteAt (l : Launch) (dC : Nat → ClassId) (dI : Nat → Nat → Nat) (sz : Nat) (L : List Nat) (cid : Nat → ClassId) (K : Int → Nat) (N : Int → Int) (tW : Nat) (sK sV : Nat → Nat) (v : Int → Int → Int) (p0 : Int) (p1 : Int) (hI : xI L K N v) (q0 : ok L K p0 7) (q1 : rg p1) : Met l yX7_byteAt (jk yX7_byteAt cX7_byteAt 2 (some .int)) ({ frames := 0, cells := 0, slots := 0, locals := 0 }) (va_Pc [.ref p0.toNat, .int (iI p1)] (xP (dC, dI) (xG L cid K N v) (xT cid) tW sK sV sz)) (va_Qi (fun (r : Int32) (_ : Unit) => ∃ z : Int, r = iI z ∧ (rg z)) (fun _ _ => True) (va_A [] sz)) 0 0 (va_A [] sz) := by
  refine Met.ofW (cc := cX7_byteAt) (maxL := 2) (ret := (some .int)) (by decide) rfl ?_
  intro p e s m args below meth c s₁ B hml hv
  obtain ⟨rfl, ⟨hsz, hP, hK, hD0⟩, hX⟩ := hv
  have hx := B.exec
  have hb := B.bytes
  have hr := B.returns
  have hts := atoms_spec (ws := (jk yX7_byteAt cX7_byteAt 2 (some .int))) B.pre
  have hj : ∀ w ∈ jw, w.before ([.ref p0.toNat, .int (iI p1)] : List Value).toArray s = true := fun w h => hts w (jm h)
  have hown : s.vm.findClass RX7 = some m.cls := findClass_of_methodNamed B.named
  subst hsz
  have hDw := hD0.self (sz := s.heap.size)
  have hAA : ∀ q : Nat, s.heap.size ≤ q → va_A (xG L cid K N v) s.heap.size q := fun q h => Or.inr h
  have hAw : ∀ q, va_A [] s.heap.size q → va_A (xG L cid K N v) s.heap.size q := ja_nil va_S.rf hAA
  generalize hAe : (va_A [] s.heap.size) = A at hAw ⊢
  have hA : ∀ q : Nat, s.heap.size ≤ q → A q := fun q h => by rw [← hAe]; exact Or.inr h
  have hS : va_S A s.heap s.heap [] := va_S.rf
  have hXa := hX.nar hAw
  have hP : va_P (dC, dI) vwCl (xG L cid K N v) s.heap := hP
  have hl := lv_entry ([.ref p0.toNat, .int (iI p1)]) (n := 2) (Nat.le_of_ble_eq_true rfl)
  rw [lg_entry_eq]
  generalize (lg_sl ([.ref p0.toNat, .int (iI p1)]) ++ List.replicate (2 - (lg_sl ([.ref p0.toNat, .int (iI p1)])).length) Slot.unset).toArray = ls at hl ⊢
  have hl : lv_has ls 2 [(0, .ref p0.toNat), (1, .int (iI p1))] := hl
  generalize hQ : MQ below (va_Qi (fun (r : Int32) (_ : Unit) => ∃ z : Int, r = iI z ∧ (rg z)) (fun _ _ => True) A) ([.ref p0.toNat, .int (iI p1)] : List Value).toArray s 0 0 A = Q
  suffices ST : ∀ (H : Heap) (locs : List Loc), va_P (dC, dI) vwCl (xG L cid K N v) H → va_S A s.heap H locs → W p l e ({ frames := 0, cells := 0, slots := 0, locals := 0 }) s m ([.ref p0.toNat, .int (iI p1)] : List Value).toArray below meth c H locs 0 0 Q (F0 m 0 ls []) from ST _ _ hP hS
  clear hP hS
  intro H locs hP hS
  refine lv_iload_n hx hb dX7_byteAt_0 rfl (lv_at hl 1 rfl) ?_
  refine xr_if_lt (tgt := 32) hx hb dX7_byteAt_1 (by decide) (by omega) (fun h_1 => ?_) (fun h_1 => ?_)
  · refine lv_iconst (v := iI 0) hx hb dX7_byteAt_32 rfl ?_
    rw [← hQ]
    exact W.iret (v := iI 0) hx hb hr (fun t ht hW => ⟨⟨iI 0, (), rfl, ⟨0, rfl, by omega⟩, trivial⟩, hS.F ht⟩) hS.2.2 dX7_byteAt_33
  · refine lv_iload_n hx hb dX7_byteAt_4 rfl (lv_at hl 1 rfl) ?_
    refine lv_aload_n hx hb dX7_byteAt_5 rfl (lv_at hl 0 rfl) ?_
    have h_2 : 0 ≤ v p0 1 ∧ v p0 1 ≤ 600 := xf_7_1 hI q0
    refine gx_RX7_43 (y := v p0 1) hx hb hj hown hK hP q0 rfl dX7_byteAt_6 ?_
    refine xr_icmp_ge (tgt := 32) hx hb dX7_byteAt_9 (by decide) (by omega) (by omega) (fun h_3 => ?_) (fun h_3 => ?_)
    · refine lv_iconst (v := iI 0) hx hb dX7_byteAt_32 rfl ?_
      rw [← hQ]
      exact W.iret (v := iI 0) hx hb hr (fun t ht hW => ⟨⟨iI 0, (), rfl, ⟨0, rfl, by omega⟩, trivial⟩, hS.F ht⟩) hS.2.2 dX7_byteAt_33
    · refine lv_iload_n hx hb dX7_byteAt_12 rfl (lv_at hl 1 rfl) ?_
      refine lv_sipush (v := iI 600) hx hb dX7_byteAt_13 rfl ?_
      refine xr_icmp_ge (tgt := 32) hx hb dX7_byteAt_16 (by decide) (by omega) (by omega) (fun h_4 => ?_) (fun h_4 => ?_)
      · exfalso; omega
      · refine lv_aload_n hx hb dX7_byteAt_19 rfl (lv_at hl 0 rfl) ?_
        have h_5 : ok L K (v p0 0) 20 := xf_7_0 hI q0
        have h_6 : N (v p0 0) = 600 := xn_20 hI h_5
        refine gx_RX7_11 (y := v p0 0) hx hb hj hown hK hP q0 ((xf_7_0 hI q0).1) rfl dX7_byteAt_20 ?_
        refine lv_iload_n hx hb dX7_byteAt_23 rfl (lv_at hl 1 rfl) ?_
        have h_7 : (-128) ≤ v (v p0 0) p1 ∧ v (v p0 0) p1 ≤ 127 := xe_20 hI h_5 (by omega)
        refine ax_20 (y := v (v p0 0) p1) hx hb hK hP h_5 (by omega) (by omega) (by omega) rfl dX7_byteAt_24 ?_
        refine lv_sipush (v := iI 255) hx hb dX7_byteAt_25 rfl ?_
        refine xr_andR hx hb (by omega) (by omega) dX7_byteAt_28 (fun z_8 h_9 => ?_)
        refine lv_goto (tgt := 33) hx hb dX7_byteAt_29 (by decide) ?_
        rw [← hQ]
        exact W.iret (v := iI z_8) hx hb hr (fun t ht hW => ⟨⟨iI z_8, (), rfl, ⟨z_8, rfl, by omega⟩, trivial⟩, hS.F ht⟩) hS.2.2 dX7_byteAt_33
set_option maxHeartbeats 2000000 in
set_option maxRecDepth 100000 in
theorem sX7_readSkip (l : Launch) (dC : Nat → ClassId) (dI : Nat → Nat → Nat) (sz : Nat) (L : List Nat) (cid : Nat → ClassId) (K : Int → Nat) (N : Int → Int) (tW : Nat) (sK sV : Nat → Nat) (v : Int → Int → Int) (p0 : Int) (hI : xI L K N v) (q0 : ok L K p0 7) : Met l yX7_readSkip (jk yX7_readSkip cX7_readSkip 4 none) ({ frames := 1, cells := 0, slots := 0, locals := 21 }) (va_Pc [.ref p0.toNat] (xP (dC, dI) (xG L cid K N v) (xT cid) tW sK sV sz)) (va_Qv (fun (u : (Int → Int → Int)) => (xI L K N u) ∧ (fr K [(7, 7), (7, 8), (7, 14), (28, (-1))] u v)) (fun u t => va_P (dC, dI) vwCl (xG L cid K N u) t.heap ∧ va_K (dC, dI) vwCl (xT cid) t ∧ va_D (va_A (xG L cid K N v) sz) (xG L cid K N u)) (va_A (xG L cid K N v) sz)) 0 0 (va_A (xG L cid K N v) sz) := by
  refine Met.ofW (cc := cX7_readSkip) (maxL := 4) (ret := none) (by decide) rfl ?_
  intro p e s m args below meth c s₁ B hml hv
  obtain ⟨rfl, ⟨hsz, hP, hK, hD0⟩, hX⟩ := hv
  have hx := B.exec
  have hb := B.bytes
  have hr := B.returns
  have hts := atoms_spec (ws := (jk yX7_readSkip cX7_readSkip 4 none)) B.pre
  have hj : ∀ w ∈ jw, w.before ([.ref p0.toNat] : List Value).toArray s = true := fun w h => hts w (jm h)
  have hown : s.vm.findClass RX7 = some m.cls := findClass_of_methodNamed B.named
  subst hsz
  have hD := hD0.self (sz := s.heap.size)
  generalize hAe : (va_A (xG L cid K N v) s.heap.size) = A at hD hX ⊢
  have hA : ∀ q : Nat, s.heap.size ≤ q → A q := fun q h => by rw [← hAe]; exact Or.inr h
  have hS : va_S A s.heap s.heap [] := va_S.rf
  have hXa := hX
  have hP : va_P (dC, dI) vwCl (xG L cid K N v) s.heap := hP
  have hl := lv_entry ([.ref p0.toNat]) (n := 4) (Nat.le_of_ble_eq_true rfl)
  rw [lg_entry_eq]
  generalize (lg_sl ([.ref p0.toNat]) ++ List.replicate (4 - (lg_sl ([.ref p0.toNat])).length) Slot.unset).toArray = ls at hl ⊢
  have hl : lv_has ls 4 [(0, .ref p0.toNat)] := hl
  generalize hQ : MQ below (va_Qv (fun (u : (Int → Int → Int)) => (xI L K N u) ∧ (fr K [(7, 7), (7, 8), (7, 14), (28, (-1))] u v)) (fun u t => va_P (dC, dI) vwCl (xG L cid K N u) t.heap ∧ va_K (dC, dI) vwCl (xT cid) t ∧ va_D A (xG L cid K N u)) A) ([.ref p0.toNat] : List Value).toArray s 0 0 A = Q
  suffices ST : ∀ (H : Heap) (locs : List Loc), va_P (dC, dI) vwCl (xG L cid K N v) H → va_S A s.heap H locs → W p l e ({ frames := 1, cells := 0, slots := 0, locals := 21 }) s m ([.ref p0.toNat] : List Value).toArray below meth c H locs 0 0 Q (F0 m 0 ls []) from ST _ _ hP hS
  clear hP hS
  intro H locs hP hS
  refine lv_aload_n hx hb dX7_readSkip_0 rfl (lv_at hl 0 rfl) ?_
  refine jc_i (va_runV (As := []) (rest := []) ⟨hx, hb, hml, hown, hts⟩ (sX7_kind l dC dI _ L cid K N tW sK sV v p0 hI q0) (cwV 0 hts (jgoodV m_674 m_675 m_676 m_677 m_678) rfl rfl rfl (by decide +kernel) ⟨(Nat.le_of_ble_eq_true rfl), (Nat.le_of_ble_eq_true rfl)⟩) ⟨xP_blind, xrecv hK hP q0 rfl rfl, fun U hU hW => ⟨rfl, xP_of hU hW hP hK hD hX hS (fun _ h => h) hA⟩⟩ rfl rfl hl.1 rfl (lv_room (Nat.le_of_ble_eq_true rfl)) dX7_readSkip_1 ⟨(Nat.le_of_ble_eq_true rfl), (Nat.le_of_ble_eq_true rfl)⟩) hP hS hA (fun r_1 H locs w_2 hP hS => ?_)
  obtain ⟨z_3, rfl, h_4, h_5⟩ := w_2
  have h_6 : (-2147483648) ≤ v p0 7 ∧ v p0 7 ≤ 2147483647 := xf_7_7 hI q0
  refine lv_iconst (v := iI 1) hx hb dX7_readSkip_4 rfl ?_
  have J47 : ∀ (H : Heap) (locs : List Loc) (ls : Array Slot), va_P (dC, dI) vwCl (xG L cid K N v) H → va_D A (xG L cid K N v) → va_S A s.heap H locs → lv_has ls 4 [(0, .ref p0.toNat)] → W p l e ({ frames := 1, cells := 0, slots := 0, locals := 21 }) s m ([.ref p0.toNat] : List Value).toArray below meth c H locs 0 0 Q (F0 m 47 ls []) := by
    intro H locs ls hP hD hS hl
    refine lv_aload_n hx hb dX7_readSkip_47 rfl (lv_at hl 0 rfl) ?_
    refine jcg_v (va_runV (As := []) (rest := []) ⟨hx, hb, hml, hown, hts⟩ (sX7_refuse l dC dI _ L cid K N tW sK sV v p0 hI q0) (cwV 0 hts (jgoodV m_683 m_684 m_685 m_677 m_686) rfl rfl rfl (by decide +kernel) ⟨(Nat.le_of_ble_eq_true rfl), (Nat.le_of_ble_eq_true rfl)⟩) ⟨xP_blind, xrecv hK hP q0 rfl rfl, fun U hU hW => ⟨rfl, xP_of hU hW hP hK hD hX hS (fun _ h => h) hA⟩⟩ rfl rfl hl.1 rfl (lv_room (Nat.le_of_ble_eq_true rfl)) dX7_readSkip_48 ⟨(Nat.le_of_ble_eq_true rfl), (Nat.le_of_ble_eq_true rfl)⟩) hD hS hA (fun v_10 H locs w_8 hP hK hD hS => ?_)
    obtain ⟨I_12, f_11⟩ := w_8
    have hP : va_P (dC, dI) vwCl (xG L cid K N v_10) H := hP
    have hD : va_D A (xG L cid K N v_10) := hD
    rw [← hQ]
    exact W.vret hx hb hr (fun t ht hW => ⟨⟨v_10, rfl, ⟨I_12, (fr_tr f_11 rfl fr_rf)⟩, by rw [ht]; exact hP, va_K.moved hW.alike hK, hD⟩, hS.F ht⟩) hS.2.2 dX7_readSkip_51
  refine xr_icmp_ne (tgt := 47) hx hb dX7_readSkip_5 (by decide) (by omega) (by omega) (fun h_13 => ?_) (fun h_13 => ?_)
  · exact J47 H locs ls hP hD hS hl
  · refine lv_aload_n hx hb dX7_readSkip_8 rfl (lv_at hl 0 rfl) ?_
    have h_14 : 0 ≤ v p0 14 ∧ v p0 14 ≤ 4 := xf_7_14 hI q0
    refine gx_RX7_59 (y := v p0 14) hx hb hj hown hK hP q0 rfl dX7_readSkip_9 ?_
    refine xr_if_lt (tgt := 47) hx hb dX7_readSkip_12 (by decide) (by omega) (fun h_15 => ?_) (fun h_15 => ?_)
    · exfalso; omega
    · refine lv_aload_n hx hb dX7_readSkip_15 rfl (lv_at hl 0 rfl) ?_
      refine gx_RX7_59 (y := v p0 14) hx hb hj hown hK hP q0 rfl dX7_readSkip_16 ?_
      refine lv_iconst (v := iI 4) hx hb dX7_readSkip_19 rfl ?_
      refine xr_icmp_ge (tgt := 47) hx hb dX7_readSkip_20 (by decide) (by omega) (by omega) (fun h_16 => ?_) (fun h_16 => ?_)
      · exact J47 H locs ls hP hD hS hl
      · refine lv_aload_n hx hb dX7_readSkip_23 rfl (lv_at hl 0 rfl) ?_
        have h_17 : ok L K (v p0 4) 23 := xf_7_4 hI q0
        have h_18 : N (v p0 4) = 601 := xn_23 hI h_17
        refine gx_RX7_22 (y := v p0 4) hx hb hj hown hK hP q0 ((xf_7_4 hI q0).1) rfl dX7_readSkip_24 ?_
        refine lv_aload_n hx hb dX7_readSkip_27 rfl (lv_at hl 0 rfl) ?_
        refine gx_RX7_53 (y := v p0 7) hx hb hj hown hK hP q0 rfl dX7_readSkip_28 ?_
        have h_19 : (-2147483648) ≤ v (v p0 4) (v p0 7) ∧ v (v p0 4) (v p0 7) ≤ 2147483647 := xe_23 hI h_17 (by omega)
        refine ax_23 (y := v (v p0 4) (v p0 7)) hx hb hK hP h_17 (by omega) (by omega) (by omega) rfl dX7_readSkip_31 ?_
        refine lv_aload_n hx hb dX7_readSkip_32 rfl (lv_at hl 0 rfl) ?_
        have h_20 : ok L K (v p0 3) 22 := xf_7_3 hI q0
        have h_21 : N (v p0 3) = 601 := xn_22 hI h_20
        refine gx_RX7_19 (y := v p0 3) hx hb hj hown hK hP q0 ((xf_7_3 hI q0).1) rfl dX7_readSkip_33 ?_
        refine lv_aload_n hx hb dX7_readSkip_36 rfl (lv_at hl 0 rfl) ?_
        refine gx_RX7_53 (y := v p0 7) hx hb hj hown hK hP q0 rfl dX7_readSkip_37 ?_
        have h_22 : (-2147483648) ≤ v (v p0 3) (v p0 7) ∧ v (v p0 3) (v p0 7) ≤ 2147483647 := xe_22 hI h_20 (by omega)
        refine ax_22 (y := v (v p0 3) (v p0 7)) hx hb hK hP h_20 (by omega) (by omega) (by omega) rfl dX7_readSkip_40 ?_
        refine xr_sub hx hb dX7_readSkip_41 ?_
        refine xr_kept (fun z_23 h_24 h_25 => ?_)
        refine lv_bipush (v := iI 8) hx hb dX7_readSkip_42 rfl ?_
        refine xr_icmp_le (tgt := 52) hx hb dX7_readSkip_44 (by decide) (by omega) (by omega) (fun h_26 => ?_) (fun h_26 => ?_)
        · refine lv_lconst hx hb dX7_readSkip_52 rfl ?_
          refine lv_lstore_n (i := 1) (lv' := [(1, .long (Int64.ofNat 0)), (0, .ref p0.toNat)]) hx hb dX7_readSkip_53 rfl hl (by decide) rfl (fun ls hl => ?_)
          refine lv_aload_n hx hb dX7_readSkip_54 rfl (lv_at hl 1 rfl) ?_
          refine gx_RX7_19 (y := v p0 3) hx hb hj hown hK hP q0 ((xf_7_3 hI q0).1) rfl dX7_readSkip_55 ?_
          refine lv_aload_n hx hb dX7_readSkip_58 rfl (lv_at hl 1 rfl) ?_
          refine gx_RX7_53 (y := v p0 7) hx hb hj hown hK hP q0 rfl dX7_readSkip_59 ?_
          refine ax_22 (y := v (v p0 3) (v p0 7)) hx hb hK hP h_20 (by omega) (by omega) (by omega) rfl dX7_readSkip_62 ?_
          refine lv_istore_n (i := 3) (lv' := [(3, .int (iI (v (v p0 3) (v p0 7)))), (1, .long (Int64.ofNat 0)), (0, .ref p0.toNat)]) hx hb dX7_readSkip_63 rfl hl (by decide) rfl (fun ls hl => ?_)
          have L64 : ∀ (n64 : Nat) (a3_64 : Int) (a1_64 : Int64) (H : Heap) (locs : List Loc) (ls : Array Slot), ((-2147483648) ≤ a3_64 ∧ a3_64 ≤ 2147483647) → (0 < (n64 : Int) ∧ (v (v p0 4) (v p0 7)) - a3_64 < (n64 : Int)) → va_P (dC, dI) vwCl (xG L cid K N v) H → va_D A (xG L cid K N v) → va_S A s.heap H locs → lv_has ls 4 [(3, .int (iI a3_64)), (1, .long a1_64), (0, .ref p0.toNat)] → W p l e ({ frames := 1, cells := 0, slots := 0, locals := 21 }) s m ([.ref p0.toNat] : List Value).toArray below meth c H locs 0 0 Q (F0 m 64 ls []) := by
            intro n64
            induction n64 with
            | zero =>
              intro a3_64 a1_64 H locs ls h_27 hm64 hP hD hS hl
              exfalso; omega
            | succ n64 ih64 =>
              intro a3_64 a1_64 H locs ls h_28 hm64 hP hD hS hl
              refine lv_iload_n hx hb dX7_readSkip_64 rfl (lv_at hl 0 rfl) ?_
              refine lv_aload_n hx hb dX7_readSkip_65 rfl (lv_at hl 2 rfl) ?_
              refine gx_RX7_22 (y := v p0 4) hx hb hj hown hK hP q0 ((xf_7_4 hI q0).1) rfl dX7_readSkip_66 ?_
              refine lv_aload_n hx hb dX7_readSkip_69 rfl (lv_at hl 2 rfl) ?_
              refine gx_RX7_53 (y := v p0 7) hx hb hj hown hK hP q0 rfl dX7_readSkip_70 ?_
              refine ax_23 (y := v (v p0 4) (v p0 7)) hx hb hK hP h_17 (by omega) (by omega) (by omega) rfl dX7_readSkip_73 ?_
              refine xr_icmp_ge (tgt := 95) hx hb dX7_readSkip_74 (by decide) (by omega) (by omega) (fun h_29 => ?_) (fun h_29 => ?_)
              · refine lv_aload_n hx hb dX7_readSkip_95 rfl (lv_at hl 2 rfl) ?_
                have h_30 : ok L K (v p0 13) 28 := xf_7_13 hI q0
                have h_31 : N (v p0 13) = 4 := xn_28 hI h_30
                refine gx_RX7_39 (y := v p0 13) hx hb hj hown hK hP q0 ((xf_7_13 hI q0).1) rfl dX7_readSkip_96 ?_
                refine lv_aload_n hx hb dX7_readSkip_99 rfl (lv_at hl 2 rfl) ?_
                refine gx_RX7_59 (y := v p0 14) hx hb hj hown hK hP q0 rfl dX7_readSkip_100 ?_
                refine lv_lload_n hx hb dX7_readSkip_103 rfl (lv_at hl 1 rfl) ?_
                refine xl_any (fun u_32 => ?_)
                refine sx_28 (y := u_32) hx hb hK hP hD hS hI h_30 (by omega) (by omega) (by omega) dX7_readSkip_104 (fun v_33 H locs f_34 e_35 o_36 I_37 hP hD hS => ?_)
                refine lv_aload_n hx hb dX7_readSkip_105 rfl (lv_at hl 2 rfl) ?_
                refine lv_dup hx hb dX7_readSkip_106 rfl ?_
                refine gx_RX7_59 (y := v p0 14) hx hb hj hown hK hP q0 (fr_use q0 f_34 rfl) dX7_readSkip_107 ?_
                refine lv_iconst (v := iI 1) hx hb dX7_readSkip_110 rfl ?_
                refine xr_add hx hb dX7_readSkip_111 ?_
                refine px_RX7_59 (y := (v p0 14) + 1) hx hb hj hown hK hP hD hS I_37 q0 ⟨by omega, by omega⟩ dX7_readSkip_112 (fun v_38 H locs f_39 e_40 o_41 I_42 hP hD hS => ?_)
                refine lv_aload_n hx hb dX7_readSkip_115 rfl (lv_at hl 2 rfl) ?_
                refine jcg_v (va_runV (As := []) (rest := []) ⟨hx, hb, hml, hown, hts⟩ (sX7_advance l dC dI _ L cid K N tW sK sV v_38 p0 I_42 q0) (cwV 0 hts (jgoodV m_692 m_693 m_694 m_677 m_695) rfl rfl rfl (by decide +kernel) ⟨(Nat.le_of_ble_eq_true rfl), (Nat.le_of_ble_eq_true rfl)⟩) ⟨xP_blind, xrecv hK hP q0 rfl rfl, fun U hU hW => ⟨rfl, xP_of hU hW hP hK hD hX hS (fun _ h => h) hA⟩⟩ rfl rfl hl.1 rfl (lv_room (Nat.le_of_ble_eq_true rfl)) dX7_readSkip_116 ⟨(Nat.le_of_ble_eq_true rfl), (Nat.le_of_ble_eq_true rfl)⟩) hD hS hA (fun v_46 H locs w_44 hP hK hD hS => ?_)
                obtain ⟨I_48, f_47⟩ := w_44
                have hP : va_P (dC, dI) vwCl (xG L cid K N v_46) H := hP
                have hD : va_D A (xG L cid K N v_46) := hD
                rw [← hQ]
                exact W.vret hx hb hr (fun t ht hW => ⟨⟨v_46, rfl, ⟨I_48, (fr_tr f_47 rfl (fr_tr f_39 rfl (fr_tr f_34 rfl fr_rf)))⟩, by rw [ht]; exact hP, va_K.moved hW.alike hK, hD⟩, hS.F ht⟩) hS.2.2 dX7_readSkip_119
              · refine lv_lload_n hx hb dX7_readSkip_77 rfl (lv_at hl 1 rfl) ?_
                refine xl_any (fun u_49 => ?_)
                refine lv_bipush (v := iI 8) hx hb dX7_readSkip_78 rfl ?_
                refine lv_lshl hx hb dX7_readSkip_80 rfl ?_
                refine xl_any (fun u_50 => ?_)
                refine lv_aload_n hx hb dX7_readSkip_81 rfl (lv_at hl 2 rfl) ?_
                refine lv_iload_n hx hb dX7_readSkip_82 rfl (lv_at hl 0 rfl) ?_
                refine jc_i (va_runV (As := [.int (iI a3_64)]) (rest := [.long (lL u_50)]) ⟨hx, hb, hml, hown, hts⟩ (sX7_byteAt l dC dI _ L cid K N tW sK sV v p0 a3_64 hI q0 (by omega)) (cwV 1 hts (jgoodV m_728 m_729 m_730 m_677 m_731) rfl rfl rfl (by decide +kernel) ⟨(Nat.le_of_ble_eq_true rfl), (Nat.le_of_ble_eq_true rfl)⟩) ⟨xP_blind, xrecv hK hP q0 rfl rfl, fun U hU hW => ⟨rfl, xP_of hU hW hP hK hD hX hS (fun _ h => h) hA⟩⟩ rfl rfl hl.1 rfl (lv_room (Nat.le_of_ble_eq_true rfl)) dX7_readSkip_83 ⟨(Nat.le_of_ble_eq_true rfl), (Nat.le_of_ble_eq_true rfl)⟩) hP hS hA (fun r_51 H locs w_52 hP hS => ?_)
                obtain ⟨z_53, rfl, h_54⟩ := w_52
                refine lv_i2l (v := (iI z_53).toInt64) hx hb dX7_readSkip_86 rfl ?_
                refine xl_any (fun u_55 => ?_)
                refine lv_lor hx hb dX7_readSkip_87 ?_
                refine xl_any (fun u_56 => ?_)
                refine lv_lstore_n (i := 1) (lv' := [(1, .long (lL u_56)), (3, .int (iI a3_64)), (0, .ref p0.toNat)]) hx hb dX7_readSkip_88 rfl hl (by decide) rfl (fun ls hl => ?_)
                refine lv_iinc (v := iI (a3_64 + 1)) (lv' := [(3, .int (iI (a3_64 + 1))), (1, .long (lL u_56)), (0, .ref p0.toNat)]) hx hb dX7_readSkip_89 hl (k := 1) rfl (iI_add _ _) (by decide) rfl (fun ls hl => ?_)
                refine lv_goto (tgt := 64) hx hb dX7_readSkip_92 (by decide) ?_
                exact ih64 (a3_64 + 1) (lL u_56) H locs ls (by omega) (by omega) hP hD hS hl
          exact L64 ((((v (v p0 4) (v p0 7)) - (v (v p0 3) (v p0 7)) : Int)).toNat + 1) (v (v p0 3) (v p0 7)) (Int64.ofNat 0) H locs ls (by omega) (by omega) hP hD hS hl
        · exact J47 H locs ls hP hD hS hl
set_option maxHeartbeats 2000000 in
set_option maxRecDepth 100000 in
theorem sX7_readChoice (l : Launch) (dC : Nat → ClassId) (dI : Nat → Nat → Nat) (sz : Nat) (L : List Nat) (cid : Nat → ClassId) (K : Int → Nat) (N : Int → Int) (tW : Nat) (sK sV : Nat → Nat) (v : Int → Int → Int) (p0 : Int) (p1 : Int) (hI : xI L K N v) (q0 : ok L K p0 7) (q1 : rg p1) : Met l yX7_readChoice (jk yX7_readChoice cX7_readChoice 3 none) ({ frames := 2, cells := 0, slots := 0, locals := 40 }) (va_Pc [.ref p0.toNat, .int (iI p1)] (xP (dC, dI) (xG L cid K N v) (xT cid) tW sK sV sz)) (va_Qv (fun (u : (Int → Int → Int)) => (xI L K N u) ∧ (fr K [(7, 7), (7, 8), (7, 10), (25, (-1))] u v)) (fun u t => va_P (dC, dI) vwCl (xG L cid K N u) t.heap ∧ va_K (dC, dI) vwCl (xT cid) t ∧ va_D (va_A (xG L cid K N v) sz) (xG L cid K N u)) (va_A (xG L cid K N v) sz)) 0 0 (va_A (xG L cid K N v) sz) := by
  refine Met.ofW (cc := cX7_readChoice) (maxL := 3) (ret := none) (by decide) rfl ?_
  intro p e s m args below meth c s₁ B hml hv
  obtain ⟨rfl, ⟨hsz, hP, hK, hD0⟩, hX⟩ := hv
  have hx := B.exec
  have hb := B.bytes
  have hr := B.returns
  have hts := atoms_spec (ws := (jk yX7_readChoice cX7_readChoice 3 none)) B.pre
  have hj : ∀ w ∈ jw, w.before ([.ref p0.toNat, .int (iI p1)] : List Value).toArray s = true := fun w h => hts w (jm h)
  have hown : s.vm.findClass RX7 = some m.cls := findClass_of_methodNamed B.named
  subst hsz
  have hD := hD0.self (sz := s.heap.size)
  generalize hAe : (va_A (xG L cid K N v) s.heap.size) = A at hD hX ⊢
  have hA : ∀ q : Nat, s.heap.size ≤ q → A q := fun q h => by rw [← hAe]; exact Or.inr h
  have hS : va_S A s.heap s.heap [] := va_S.rf
  have hXa := hX
  have hP : va_P (dC, dI) vwCl (xG L cid K N v) s.heap := hP
  have hl := lv_entry ([.ref p0.toNat, .int (iI p1)]) (n := 3) (Nat.le_of_ble_eq_true rfl)
  rw [lg_entry_eq]
  generalize (lg_sl ([.ref p0.toNat, .int (iI p1)]) ++ List.replicate (3 - (lg_sl ([.ref p0.toNat, .int (iI p1)])).length) Slot.unset).toArray = ls at hl ⊢
  have hl : lv_has ls 3 [(0, .ref p0.toNat), (1, .int (iI p1))] := hl
  generalize hQ : MQ below (va_Qv (fun (u : (Int → Int → Int)) => (xI L K N u) ∧ (fr K [(7, 7), (7, 8), (7, 10), (25, (-1))] u v)) (fun u t => va_P (dC, dI) vwCl (xG L cid K N u) t.heap ∧ va_K (dC, dI) vwCl (xT cid) t ∧ va_D A (xG L cid K N u)) A) ([.ref p0.toNat, .int (iI p1)] : List Value).toArray s 0 0 A = Q
  suffices ST : ∀ (H : Heap) (locs : List Loc), va_P (dC, dI) vwCl (xG L cid K N v) H → va_S A s.heap H locs → W p l e ({ frames := 2, cells := 0, slots := 0, locals := 40 }) s m ([.ref p0.toNat, .int (iI p1)] : List Value).toArray below meth c H locs 0 0 Q (F0 m 0 ls []) from ST _ _ hP hS
  clear hP hS
  intro H locs hP hS
  refine lv_aload_n hx hb dX7_readChoice_0 rfl (lv_at hl 0 rfl) ?_
  refine jc_i (va_runV (As := []) (rest := []) ⟨hx, hb, hml, hown, hts⟩ (sX7_word l dC dI _ L cid K N tW sK sV v p0 hI q0) (cwV 0 hts (jgoodV m_679 m_680 m_681 m_677 m_682) rfl rfl rfl (by decide +kernel) ⟨(Nat.le_of_ble_eq_true rfl), (Nat.le_of_ble_eq_true rfl)⟩) ⟨xP_blind, xrecv hK hP q0 rfl rfl, fun U hU hW => ⟨rfl, xP_of hU hW hP hK hD hX hS (fun _ h => h) hA⟩⟩ rfl rfl hl.1 rfl (lv_room (Nat.le_of_ble_eq_true rfl)) dX7_readChoice_1 ⟨(Nat.le_of_ble_eq_true rfl), (Nat.le_of_ble_eq_true rfl)⟩) hP hS hA (fun r_1 H locs w_2 hP hS => ?_)
  obtain ⟨z_3, rfl, h_4, h_5⟩ := w_2
  have h_6 : (-2147483648) ≤ v p0 7 ∧ v p0 7 ≤ 2147483647 := xf_7_7 hI q0
  refine lv_iload_n hx hb dX7_readChoice_4 rfl (lv_at hl 1 rfl) ?_
  refine xr_sub hx hb dX7_readChoice_5 ?_
  refine xr_kept (fun z_7 h_8 h_9 => ?_)
  refine lv_istore_n (i := 2) (lv' := [(2, .int (iI z_7)), (0, .ref p0.toNat), (1, .int (iI p1))]) hx hb dX7_readChoice_6 rfl hl (by decide) rfl (fun ls hl => ?_)
  refine lv_iload_n hx hb dX7_readChoice_7 rfl (lv_at hl 0 rfl) ?_
  have J16 : ∀ (H : Heap) (locs : List Loc) (ls : Array Slot), va_P (dC, dI) vwCl (xG L cid K N v) H → va_D A (xG L cid K N v) → va_S A s.heap H locs → lv_has ls 3 [(2, .int (iI z_7)), (0, .ref p0.toNat), (1, .int (iI p1))] → W p l e ({ frames := 2, cells := 0, slots := 0, locals := 40 }) s m ([.ref p0.toNat, .int (iI p1)] : List Value).toArray below meth c H locs 0 0 Q (F0 m 16 ls []) := by
    intro H locs ls hP hD hS hl
    refine lv_aload_n hx hb dX7_readChoice_16 rfl (lv_at hl 1 rfl) ?_
    refine lv_iload_n hx hb dX7_readChoice_17 rfl (lv_at hl 0 rfl) ?_
    refine jcg_v (va_runV (As := [.int (iI z_7)]) (rest := []) ⟨hx, hb, hml, hown, hts⟩ (sX7_emit l dC dI _ L cid K N tW sK sV v p0 z_7 hI q0 (by omega)) (cwV 1 hts (jgoodV m_688 m_689 m_690 m_677 m_691) rfl rfl rfl (by decide +kernel) ⟨(Nat.le_of_ble_eq_true rfl), (Nat.le_of_ble_eq_true rfl)⟩) ⟨xP_blind, xrecv hK hP q0 rfl rfl, fun U hU hW => ⟨rfl, xP_of hU hW hP hK hD hX hS (fun _ h => h) hA⟩⟩ rfl rfl hl.1 rfl (lv_room (Nat.le_of_ble_eq_true rfl)) dX7_readChoice_18 ⟨(Nat.le_of_ble_eq_true rfl), (Nat.le_of_ble_eq_true rfl)⟩) hD hS hA (fun v_13 H locs w_11 hP hK hD hS => ?_)
    obtain ⟨I_15, f_14⟩ := w_11
    have hP : va_P (dC, dI) vwCl (xG L cid K N v_13) H := hP
    have hD : va_D A (xG L cid K N v_13) := hD
    refine lv_aload_n hx hb dX7_readChoice_21 rfl (lv_at hl 1 rfl) ?_
    refine jcg_v (va_runV (As := []) (rest := []) ⟨hx, hb, hml, hown, hts⟩ (sX7_advance l dC dI _ L cid K N tW sK sV v_13 p0 I_15 q0) (cwV 0 hts (jgoodV m_692 m_693 m_694 m_677 m_695) rfl rfl rfl (by decide +kernel) ⟨(Nat.le_of_ble_eq_true rfl), (Nat.le_of_ble_eq_true rfl)⟩) ⟨xP_blind, xrecv hK hP q0 rfl rfl, fun U hU hW => ⟨rfl, xP_of hU hW hP hK hD hX hS (fun _ h => h) hA⟩⟩ rfl rfl hl.1 rfl (lv_room (Nat.le_of_ble_eq_true rfl)) dX7_readChoice_22 ⟨(Nat.le_of_ble_eq_true rfl), (Nat.le_of_ble_eq_true rfl)⟩) hD hS hA (fun v_19 H locs w_17 hP hK hD hS => ?_)
    obtain ⟨I_21, f_20⟩ := w_17
    have hP : va_P (dC, dI) vwCl (xG L cid K N v_19) H := hP
    have hD : va_D A (xG L cid K N v_19) := hD
    refine lv_goto (tgt := 32) hx hb dX7_readChoice_25 (by decide) ?_
    rw [← hQ]
    exact W.vret hx hb hr (fun t ht hW => ⟨⟨v_19, rfl, ⟨I_21, (fr_tr f_20 rfl (fr_tr f_14 rfl fr_rf))⟩, by rw [ht]; exact hP, va_K.moved hW.alike hK, hD⟩, hS.F ht⟩) hS.2.2 dX7_readChoice_32
  refine xr_if_eq (tgt := 16) hx hb dX7_readChoice_8 (by decide) (by omega) (fun h_22 => ?_) (fun h_22 => ?_)
  · exact J16 H locs ls hP hD hS hl
  · refine lv_iload_n hx hb dX7_readChoice_11 rfl (lv_at hl 0 rfl) ?_
    refine lv_iconst (v := iI 1) hx hb dX7_readChoice_12 rfl ?_
    refine xr_icmp_ne (tgt := 28) hx hb dX7_readChoice_13 (by decide) (by omega) (by omega) (fun h_23 => ?_) (fun h_23 => ?_)
    · refine lv_aload_n hx hb dX7_readChoice_28 rfl (lv_at hl 1 rfl) ?_
      refine jcg_v (va_runV (As := []) (rest := []) ⟨hx, hb, hml, hown, hts⟩ (sX7_refuse l dC dI _ L cid K N tW sK sV v p0 hI q0) (cwV 0 hts (jgoodV m_683 m_684 m_685 m_677 m_686) rfl rfl rfl (by decide +kernel) ⟨(Nat.le_of_ble_eq_true rfl), (Nat.le_of_ble_eq_true rfl)⟩) ⟨xP_blind, xrecv hK hP q0 rfl rfl, fun U hU hW => ⟨rfl, xP_of hU hW hP hK hD hX hS (fun _ h => h) hA⟩⟩ rfl rfl hl.1 rfl (lv_room (Nat.le_of_ble_eq_true rfl)) dX7_readChoice_29 ⟨(Nat.le_of_ble_eq_true rfl), (Nat.le_of_ble_eq_true rfl)⟩) hD hS hA (fun v_27 H locs w_25 hP hK hD hS => ?_)
      obtain ⟨I_29, f_28⟩ := w_25
      have hP : va_P (dC, dI) vwCl (xG L cid K N v_27) H := hP
      have hD : va_D A (xG L cid K N v_27) := hD
      rw [← hQ]
      exact W.vret hx hb hr (fun t ht hW => ⟨⟨v_27, rfl, ⟨I_29, (fr_tr f_28 rfl fr_rf)⟩, by rw [ht]; exact hP, va_K.moved hW.alike hK, hD⟩, hS.F ht⟩) hS.2.2 dX7_readChoice_32
    · exact J16 H locs ls hP hD hS hl
