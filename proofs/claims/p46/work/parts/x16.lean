set_option maxHeartbeats 2000000 in
set_option maxRecDepth 100000 in
theorem sX7_readSum_q4 (l : Launch) (dC : Nat → ClassId) (dI : Nat → Nat → Nat) (sz : Nat) (L : List Nat) (cid : Nat → ClassId) (K : Int → Nat) (N : Int → Int) (tW : Nat) (sK sV : Nat → Nat) (v : Int → Int → Int) (p0 : Int) (p1 : Int) (hI : xI L K N v) (q0 : ok L K p0 7) (q1 : rg p1) (k1 : 4 ≤ p1 ∧ p1 ≤ 4) : Met l yX7_readSum (jk yX7_readSum cX7_readSum 4 none) ({ frames := 16, cells := 0, slots := 0, locals := 362 }) (va_Pc [.ref p0.toNat, .int (iI p1)] (xP (dC, dI) (xG L cid K N v) (xT cid) tW sK sV sz)) (va_Qv (fun (u : (Int → Int → Int)) => (xI L K N u) ∧ (fr K [(7, 7), (7, 8), (7, 10), (25, (-1))] u v)) (fun u t => va_P (dC, dI) vwCl (xG L cid K N u) t.heap ∧ va_K (dC, dI) vwCl (xT cid) t ∧ va_D (va_A (xG L cid K N v) sz) (xG L cid K N u)) (va_A (xG L cid K N v) sz)) 0 0 (va_A (xG L cid K N v) sz) := by
  refine Met.ofW (cc := cX7_readSum) (maxL := 4) (ret := none) (by decide) rfl ?_
  intro p e s m args below meth c s₁ B hml hv
  obtain ⟨rfl, ⟨hsz, hP, hK, hD0⟩, hX⟩ := hv
  have hx := B.exec
  have hb := B.bytes
  have hr := B.returns
  have hts := atoms_spec (ws := (jk yX7_readSum cX7_readSum 4 none)) B.pre
  have hj : ∀ w ∈ jw, w.before ([.ref p0.toNat, .int (iI p1)] : List Value).toArray s = true := fun w h => hts w (jm h)
  have hown : s.vm.findClass RX7 = some m.cls := findClass_of_methodNamed B.named
  subst hsz
  have hD := hD0.self (sz := s.heap.size)
  generalize hAe : (va_A (xG L cid K N v) s.heap.size) = A at hD hX ⊢
  have hA : ∀ q : Nat, s.heap.size ≤ q → A q := fun q h => by rw [← hAe]; exact Or.inr h
  have hS : va_S A s.heap s.heap [] := va_S.rf
  have hXa := hX
  have hP : va_P (dC, dI) vwCl (xG L cid K N v) s.heap := hP
  have hl := lv_entry ([.ref p0.toNat, .int (iI p1)]) (n := 4) (Nat.le_of_ble_eq_true rfl)
  rw [lg_entry_eq]
  generalize (lg_sl ([.ref p0.toNat, .int (iI p1)]) ++ List.replicate (4 - (lg_sl ([.ref p0.toNat, .int (iI p1)])).length) Slot.unset).toArray = ls at hl ⊢
  have hl : lv_has ls 4 [(0, .ref p0.toNat), (1, .int (iI p1))] := hl
  generalize hQ : MQ below (va_Qv (fun (u : (Int → Int → Int)) => (xI L K N u) ∧ (fr K [(7, 7), (7, 8), (7, 10), (25, (-1))] u v)) (fun u t => va_P (dC, dI) vwCl (xG L cid K N u) t.heap ∧ va_K (dC, dI) vwCl (xT cid) t ∧ va_D A (xG L cid K N u)) A) ([.ref p0.toNat, .int (iI p1)] : List Value).toArray s 0 0 A = Q
  suffices ST : ∀ (H : Heap) (locs : List Loc), va_P (dC, dI) vwCl (xG L cid K N v) H → va_S A s.heap H locs → W p l e ({ frames := 16, cells := 0, slots := 0, locals := 362 }) s m ([.ref p0.toNat, .int (iI p1)] : List Value).toArray below meth c H locs 0 0 Q (F0 m 0 ls []) from ST _ _ hP hS
  clear hP hS
  intro H locs hP hS
  refine lv_aload_n hx hb dX7_readSum_0 rfl (lv_at hl 0 rfl) ?_
  refine lv_iload_n hx hb dX7_readSum_1 rfl (lv_at hl 1 rfl) ?_
  refine jcg_v (va_runV (As := [.int (iI p1)]) (rest := []) ⟨hx, hb, hml, hown, hts⟩ (sX7_readProduct_q4 l dC dI _ L cid K N tW sK sV v p0 p1 hI q0 (by omega) (by omega)) (cwV 1 hts (jgoodV m_700 m_701 m_702 m_677 m_703) rfl rfl rfl (by decide +kernel) ⟨(Nat.le_of_ble_eq_true rfl), (Nat.le_of_ble_eq_true rfl)⟩) ⟨xP_blind, xrecv hK hP q0 rfl rfl, fun U hU hW => ⟨rfl, xP_of hU hW hP hK hD hX hS (fun _ h => h) hA⟩⟩ rfl rfl hl.1 rfl (lv_room (Nat.le_of_ble_eq_true rfl)) dX7_readSum_2 ⟨(Nat.le_of_ble_eq_true rfl), (Nat.le_of_ble_eq_true rfl)⟩) hD hS hA (fun v_4 H locs w_2 hP hK hD hS => ?_)
  obtain ⟨I_6, f_5⟩ := w_2
  have hP : va_P (dC, dI) vwCl (xG L cid K N v_4) H := hP
  have hD : va_D A (xG L cid K N v_4) := hD
  refine lv_iconst (v := iI 0) hx hb dX7_readSum_5 rfl ?_
  refine lv_istore_n (i := 2) (lv' := [(2, .int (iI 0)), (0, .ref p0.toNat), (1, .int (iI p1))]) hx hb dX7_readSum_6 rfl hl (by decide) rfl (fun ls hl => ?_)
  have L7 : ∀ (n7 : Nat) (a2_7 : Int) (vc7 : Int → Int → Int) (H : Heap) (locs : List Loc) (ls : Array Slot), (0 ≤ a2_7 ∧ a2_7 ≤ 2147483647) → (0 < (n7 : Int) ∧ (v p0 1) - a2_7 < (n7 : Int)) → fr K [(7, 7), (7, 8), (7, 10), (25, (-1))] vc7 v_4 → xI L K N vc7 → va_P (dC, dI) vwCl (xG L cid K N vc7) H → va_D A (xG L cid K N vc7) → va_S A s.heap H locs → lv_has ls 4 [(2, .int (iI a2_7)), (0, .ref p0.toNat), (1, .int (iI p1))] → W p l e ({ frames := 16, cells := 0, slots := 0, locals := 362 }) s m ([.ref p0.toNat, .int (iI p1)] : List Value).toArray below meth c H locs 0 0 Q (F0 m 7 ls []) := by
    intro n7
    induction n7 with
    | zero =>
      intro a2_7 vc7 H locs ls h_7 hm7 f_8 I_9 hP hD hS hl
      exfalso; omega
    | succ n7 ih7 =>
      intro a2_7 vc7 H locs ls h_10 hm7 f_11 I_12 hP hD hS hl
      refine lv_iload_n hx hb dX7_readSum_7 rfl (lv_at hl 0 rfl) ?_
      refine lv_aload_n hx hb dX7_readSum_8 rfl (lv_at hl 1 rfl) ?_
      have h_13 : 0 ≤ v p0 1 ∧ v p0 1 ≤ 600 := xf_7_1 hI q0
      refine gx_RX7_43 (y := v p0 1) hx hb hj hown hK hP q0 (((fr_use q0 f_11 rfl)).trans (fr_use q0 f_5 rfl)) dX7_readSum_9 ?_
      refine xr_icmp_ge (tgt := 78) hx hb dX7_readSum_12 (by decide) (by omega) (by omega) (fun h_14 => ?_) (fun h_14 => ?_)
      · rw [← hQ]
        exact W.vret hx hb hr (fun t ht hW => ⟨⟨vc7, rfl, ⟨I_12, (fr_tr f_11 rfl (fr_tr f_5 rfl fr_rf))⟩, by rw [ht]; exact hP, va_K.moved hW.alike hK, hD⟩, hS.F ht⟩) hS.2.2 dX7_readSum_78
      · refine lv_aload_n hx hb dX7_readSum_15 rfl (lv_at hl 1 rfl) ?_
        have h_15 : (-2147483648) ≤ vc7 p0 8 ∧ vc7 p0 8 ≤ 2147483647 := xf_7_8 I_12 q0
        refine gx_RX7_50 (y := vc7 p0 8) hx hb hj hown hK hP q0 rfl dX7_readSum_16 ?_
        refine lv_iconst (v := iI (-1)) hx hb dX7_readSum_19 rfl ?_
        refine xr_icmp_ne (tgt := 78) hx hb dX7_readSum_20 (by decide) (by omega) (by omega) (fun h_16 => ?_) (fun h_16 => ?_)
        · rw [← hQ]
          exact W.vret hx hb hr (fun t ht hW => ⟨⟨vc7, rfl, ⟨I_12, (fr_tr f_11 rfl (fr_tr f_5 rfl fr_rf))⟩, by rw [ht]; exact hP, va_K.moved hW.alike hK, hD⟩, hS.F ht⟩) hS.2.2 dX7_readSum_78
        · refine lv_aload_n hx hb dX7_readSum_23 rfl (lv_at hl 1 rfl) ?_
          refine jc_i (va_runV (As := []) (rest := []) ⟨hx, hb, hml, hown, hts⟩ (sX7_kind l dC dI _ L cid K N tW sK sV vc7 p0 I_12 q0) (cwV 0 hts (jgoodV m_674 m_675 m_676 m_677 m_678) rfl rfl rfl (by decide +kernel) ⟨(Nat.le_of_ble_eq_true rfl), (Nat.le_of_ble_eq_true rfl)⟩) ⟨xP_blind, xrecv hK hP q0 rfl rfl, fun U hU hW => ⟨rfl, xP_of hU hW hP hK hD hX hS (fun _ h => h) hA⟩⟩ rfl rfl hl.1 rfl (lv_room (Nat.le_of_ble_eq_true rfl)) dX7_readSum_24 ⟨(Nat.le_of_ble_eq_true rfl), (Nat.le_of_ble_eq_true rfl)⟩) hP hS hA (fun r_17 H locs w_18 hP hS => ?_)
          obtain ⟨z_19, rfl, h_20, h_21⟩ := w_18
          have h_22 : (-2147483648) ≤ vc7 p0 7 ∧ vc7 p0 7 ≤ 2147483647 := xf_7_7 I_12 q0
          refine lv_bipush (v := iI 43) hx hb dX7_readSum_27 rfl ?_
          have J41 : ∀ (H : Heap) (locs : List Loc) (ls : Array Slot), va_P (dC, dI) vwCl (xG L cid K N vc7) H → va_D A (xG L cid K N vc7) → va_S A s.heap H locs → lv_has ls 4 [(2, .int (iI a2_7)), (0, .ref p0.toNat), (1, .int (iI p1))] → W p l e ({ frames := 16, cells := 0, slots := 0, locals := 362 }) s m ([.ref p0.toNat, .int (iI p1)] : List Value).toArray below meth c H locs 0 0 Q (F0 m 41 ls []) := by
            intro H locs ls hP hD hS hl
            refine lv_aload_n hx hb dX7_readSum_41 rfl (lv_at hl 1 rfl) ?_
            refine jc_i (va_runV (As := []) (rest := []) ⟨hx, hb, hml, hown, hts⟩ (sX7_kind l dC dI _ L cid K N tW sK sV vc7 p0 I_12 q0) (cwV 0 hts (jgoodV m_674 m_675 m_676 m_677 m_678) rfl rfl rfl (by decide +kernel) ⟨(Nat.le_of_ble_eq_true rfl), (Nat.le_of_ble_eq_true rfl)⟩) ⟨xP_blind, xrecv hK hP q0 rfl rfl, fun U hU hW => ⟨rfl, xP_of hU hW hP hK hD hX hS (fun _ h => h) hA⟩⟩ rfl rfl hl.1 rfl (lv_room (Nat.le_of_ble_eq_true rfl)) dX7_readSum_42 ⟨(Nat.le_of_ble_eq_true rfl), (Nat.le_of_ble_eq_true rfl)⟩) hP hS hA (fun r_23 H locs w_24 hP hS => ?_)
            obtain ⟨z_25, rfl, h_26, h_27⟩ := w_24
            refine lv_bipush (v := iI 43) hx hb dX7_readSum_45 rfl ?_
            have J57 : ∀ (s0_57 : Int) (H : Heap) (locs : List Loc) (ls : Array Slot), ((-12) ≤ s0_57 ∧ s0_57 ≤ (-11)) → va_P (dC, dI) vwCl (xG L cid K N vc7) H → va_D A (xG L cid K N vc7) → va_S A s.heap H locs → lv_has ls 4 [(2, .int (iI a2_7)), (0, .ref p0.toNat), (1, .int (iI p1))] → W p l e ({ frames := 16, cells := 0, slots := 0, locals := 362 }) s m ([.ref p0.toNat, .int (iI p1)] : List Value).toArray below meth c H locs 0 0 Q (F0 m 57 ls [.int (iI s0_57)]) := by
              intro s0_57 H locs ls h_28 hP hD hS hl
              refine lv_istore_n (i := 3) (lv' := [(3, .int (iI s0_57)), (2, .int (iI a2_7)), (0, .ref p0.toNat), (1, .int (iI p1))]) hx hb dX7_readSum_57 rfl hl (by decide) rfl (fun ls hl => ?_)
              refine lv_aload_n hx hb dX7_readSum_58 rfl (lv_at hl 2 rfl) ?_
              refine jcg_v (va_runV (As := []) (rest := []) ⟨hx, hb, hml, hown, hts⟩ (sX7_advance l dC dI _ L cid K N tW sK sV vc7 p0 I_12 q0) (cwV 0 hts (jgoodV m_692 m_693 m_694 m_677 m_695) rfl rfl rfl (by decide +kernel) ⟨(Nat.le_of_ble_eq_true rfl), (Nat.le_of_ble_eq_true rfl)⟩) ⟨xP_blind, xrecv hK hP q0 rfl rfl, fun U hU hW => ⟨rfl, xP_of hU hW hP hK hD hX hS (fun _ h => h) hA⟩⟩ rfl rfl hl.1 rfl (lv_room (Nat.le_of_ble_eq_true rfl)) dX7_readSum_59 ⟨(Nat.le_of_ble_eq_true rfl), (Nat.le_of_ble_eq_true rfl)⟩) hD hS hA (fun v_32 H locs w_30 hP hK hD hS => ?_)
              obtain ⟨I_34, f_33⟩ := w_30
              have hP : va_P (dC, dI) vwCl (xG L cid K N v_32) H := hP
              have hD : va_D A (xG L cid K N v_32) := hD
              refine lv_aload_n hx hb dX7_readSum_62 rfl (lv_at hl 2 rfl) ?_
              refine lv_iload_n hx hb dX7_readSum_63 rfl (lv_at hl 3 rfl) ?_
              refine jcg_v (va_runV (As := [.int (iI p1)]) (rest := []) ⟨hx, hb, hml, hown, hts⟩ (sX7_readProduct_q4 l dC dI _ L cid K N tW sK sV v_32 p0 p1 I_34 q0 (by omega) (by omega)) (cwV 1 hts (jgoodV m_700 m_701 m_702 m_677 m_703) rfl rfl rfl (by decide +kernel) ⟨(Nat.le_of_ble_eq_true rfl), (Nat.le_of_ble_eq_true rfl)⟩) ⟨xP_blind, xrecv hK hP q0 rfl rfl, fun U hU hW => ⟨rfl, xP_of hU hW hP hK hD hX hS (fun _ h => h) hA⟩⟩ rfl rfl hl.1 rfl (lv_room (Nat.le_of_ble_eq_true rfl)) dX7_readSum_64 ⟨(Nat.le_of_ble_eq_true rfl), (Nat.le_of_ble_eq_true rfl)⟩) hD hS hA (fun v_38 H locs w_36 hP hK hD hS => ?_)
              obtain ⟨I_40, f_39⟩ := w_36
              have hP : va_P (dC, dI) vwCl (xG L cid K N v_38) H := hP
              have hD : va_D A (xG L cid K N v_38) := hD
              refine lv_aload_n hx hb dX7_readSum_67 rfl (lv_at hl 2 rfl) ?_
              refine lv_iload_n hx hb dX7_readSum_68 rfl (lv_at hl 0 rfl) ?_
              refine jcg_v (va_runV (As := [.int (iI s0_57)]) (rest := []) ⟨hx, hb, hml, hown, hts⟩ (sX7_emit l dC dI _ L cid K N tW sK sV v_38 p0 s0_57 I_40 q0 (by omega)) (cwV 1 hts (jgoodV m_688 m_689 m_690 m_677 m_691) rfl rfl rfl (by decide +kernel) ⟨(Nat.le_of_ble_eq_true rfl), (Nat.le_of_ble_eq_true rfl)⟩) ⟨xP_blind, xrecv hK hP q0 rfl rfl, fun U hU hW => ⟨rfl, xP_of hU hW hP hK hD hX hS (fun _ h => h) hA⟩⟩ rfl rfl hl.1 rfl (lv_room (Nat.le_of_ble_eq_true rfl)) dX7_readSum_69 ⟨(Nat.le_of_ble_eq_true rfl), (Nat.le_of_ble_eq_true rfl)⟩) hD hS hA (fun v_44 H locs w_42 hP hK hD hS => ?_)
              obtain ⟨I_46, f_45⟩ := w_42
              have hP : va_P (dC, dI) vwCl (xG L cid K N v_44) H := hP
              have hD : va_D A (xG L cid K N v_44) := hD
              refine lv_iinc (v := iI (a2_7 + 1)) (lv' := [(2, .int (iI (a2_7 + 1))), (3, .int (iI s0_57)), (0, .ref p0.toNat), (1, .int (iI p1))]) hx hb dX7_readSum_72 hl (k := 1) rfl (iI_add _ _) (by decide) rfl (fun ls hl => ?_)
              refine lv_goto (tgt := 7) hx hb dX7_readSum_75 (by decide) ?_
              exact ih7 (a2_7 + 1) v_44 H locs ls (by omega) (by omega) (fr_tr f_45 rfl (fr_tr f_39 rfl (fr_tr f_33 rfl (fr_tr f_11 rfl fr_rf)))) I_46 hP hD hS (lv_sub hl [0, 2, 3] rfl)
            refine xr_icmp_ne (tgt := 55) hx hb dX7_readSum_47 (by decide) (by omega) (by omega) (fun h_47 => ?_) (fun h_47 => ?_)
            · refine lv_bipush (v := iI (-12)) hx hb dX7_readSum_55 rfl ?_
              exact J57 (-12) H locs ls (by omega) hP hD hS hl
            · refine lv_bipush (v := iI (-11)) hx hb dX7_readSum_50 rfl ?_
              refine lv_goto (tgt := 57) hx hb dX7_readSum_52 (by decide) ?_
              exact J57 (-11) H locs ls (by omega) hP hD hS hl
          refine xr_icmp_eq (tgt := 41) hx hb dX7_readSum_29 (by decide) (by omega) (by omega) (fun h_48 => ?_) (fun h_48 => ?_)
          · exact J41 H locs ls hP hD hS hl
          · refine lv_aload_n hx hb dX7_readSum_32 rfl (lv_at hl 1 rfl) ?_
            refine jc_i (va_runV (As := []) (rest := []) ⟨hx, hb, hml, hown, hts⟩ (sX7_kind l dC dI _ L cid K N tW sK sV vc7 p0 I_12 q0) (cwV 0 hts (jgoodV m_674 m_675 m_676 m_677 m_678) rfl rfl rfl (by decide +kernel) ⟨(Nat.le_of_ble_eq_true rfl), (Nat.le_of_ble_eq_true rfl)⟩) ⟨xP_blind, xrecv hK hP q0 rfl rfl, fun U hU hW => ⟨rfl, xP_of hU hW hP hK hD hX hS (fun _ h => h) hA⟩⟩ rfl rfl hl.1 rfl (lv_room (Nat.le_of_ble_eq_true rfl)) dX7_readSum_33 ⟨(Nat.le_of_ble_eq_true rfl), (Nat.le_of_ble_eq_true rfl)⟩) hP hS hA (fun r_49 H locs w_50 hP hS => ?_)
            obtain ⟨z_51, rfl, h_52, h_53⟩ := w_50
            refine lv_bipush (v := iI 45) hx hb dX7_readSum_36 rfl ?_
            refine xr_icmp_ne (tgt := 78) hx hb dX7_readSum_38 (by decide) (by omega) (by omega) (fun h_54 => ?_) (fun h_54 => ?_)
            · rw [← hQ]
              exact W.vret hx hb hr (fun t ht hW => ⟨⟨vc7, rfl, ⟨I_12, (fr_tr f_11 rfl (fr_tr f_5 rfl fr_rf))⟩, by rw [ht]; exact hP, va_K.moved hW.alike hK, hD⟩, hS.F ht⟩) hS.2.2 dX7_readSum_78
            · exact J41 H locs ls hP hD hS hl
  exact L7 ((((v p0 1) - 0 : Int)).toNat + 1) 0 v_4 H locs ls (by omega) (by omega) fr_rf I_6 hP hD hS hl
set_option maxHeartbeats 2000000 in
set_option maxRecDepth 100000 in
theorem sX7_readFactor_q3 (l : Launch) (dC : Nat → ClassId) (dI : Nat → Nat → Nat) (sz : Nat) (L : List Nat) (cid : Nat → ClassId) (K : Int → Nat) (N : Int → Int) (tW : Nat) (sK sV : Nat → Nat) (v : Int → Int → Int) (p0 : Int) (p1 : Int) (hI : xI L K N v) (q0 : ok L K p0 7) (q1 : rg p1) (k1 : 3 ≤ p1 ∧ p1 ≤ 3) : Met l yX7_readFactor (jk yX7_readFactor cX7_readFactor 4 none) ({ frames := 17, cells := 0, slots := 0, locals := 385 }) (va_Pc [.ref p0.toNat, .int (iI p1)] (xP (dC, dI) (xG L cid K N v) (xT cid) tW sK sV sz)) (va_Qv (fun (u : (Int → Int → Int)) => (xI L K N u) ∧ (fr K [(7, 7), (7, 8), (7, 10), (25, (-1))] u v)) (fun u t => va_P (dC, dI) vwCl (xG L cid K N u) t.heap ∧ va_K (dC, dI) vwCl (xT cid) t ∧ va_D (va_A (xG L cid K N v) sz) (xG L cid K N u)) (va_A (xG L cid K N v) sz)) 0 0 (va_A (xG L cid K N v) sz) := by
  refine Met.ofW (cc := cX7_readFactor) (maxL := 4) (ret := none) (by decide) rfl ?_
  intro p e s m args below meth c s₁ B hml hv
  obtain ⟨rfl, ⟨hsz, hP, hK, hD0⟩, hX⟩ := hv
  have hx := B.exec
  have hb := B.bytes
  have hr := B.returns
  have hts := atoms_spec (ws := (jk yX7_readFactor cX7_readFactor 4 none)) B.pre
  have hj : ∀ w ∈ jw, w.before ([.ref p0.toNat, .int (iI p1)] : List Value).toArray s = true := fun w h => hts w (jm h)
  have hown : s.vm.findClass RX7 = some m.cls := findClass_of_methodNamed B.named
  subst hsz
  have hD := hD0.self (sz := s.heap.size)
  generalize hAe : (va_A (xG L cid K N v) s.heap.size) = A at hD hX ⊢
  have hA : ∀ q : Nat, s.heap.size ≤ q → A q := fun q h => by rw [← hAe]; exact Or.inr h
  have hS : va_S A s.heap s.heap [] := va_S.rf
  have hXa := hX
  have hP : va_P (dC, dI) vwCl (xG L cid K N v) s.heap := hP
  have hl := lv_entry ([.ref p0.toNat, .int (iI p1)]) (n := 4) (Nat.le_of_ble_eq_true rfl)
  rw [lg_entry_eq]
  generalize (lg_sl ([.ref p0.toNat, .int (iI p1)]) ++ List.replicate (4 - (lg_sl ([.ref p0.toNat, .int (iI p1)])).length) Slot.unset).toArray = ls at hl ⊢
  have hl : lv_has ls 4 [(0, .ref p0.toNat), (1, .int (iI p1))] := hl
  generalize hQ : MQ below (va_Qv (fun (u : (Int → Int → Int)) => (xI L K N u) ∧ (fr K [(7, 7), (7, 8), (7, 10), (25, (-1))] u v)) (fun u t => va_P (dC, dI) vwCl (xG L cid K N u) t.heap ∧ va_K (dC, dI) vwCl (xT cid) t ∧ va_D A (xG L cid K N u)) A) ([.ref p0.toNat, .int (iI p1)] : List Value).toArray s 0 0 A = Q
  suffices ST : ∀ (H : Heap) (locs : List Loc), va_P (dC, dI) vwCl (xG L cid K N v) H → va_S A s.heap H locs → W p l e ({ frames := 17, cells := 0, slots := 0, locals := 385 }) s m ([.ref p0.toNat, .int (iI p1)] : List Value).toArray below meth c H locs 0 0 Q (F0 m 0 ls []) from ST _ _ hP hS
  clear hP hS
  intro H locs hP hS
  refine lv_aload_n hx hb dX7_readFactor_0 rfl (lv_at hl 0 rfl) ?_
  have h_1 : (-2147483648) ≤ v p0 8 ∧ v p0 8 ≤ 2147483647 := xf_7_8 hI q0
  refine gx_RX7_50 (y := v p0 8) hx hb hj hown hK hP q0 rfl dX7_readFactor_1 ?_
  refine lv_iconst (v := iI (-1)) hx hb dX7_readFactor_4 rfl ?_
  refine xr_icmp_eq (tgt := 9) hx hb dX7_readFactor_5 (by decide) (by omega) (by omega) (fun h_2 => ?_) (fun h_2 => ?_)
  · refine lv_aload_n hx hb dX7_readFactor_9 rfl (lv_at hl 0 rfl) ?_
    refine jc_i (va_runV (As := []) (rest := []) ⟨hx, hb, hml, hown, hts⟩ (sX7_kind l dC dI _ L cid K N tW sK sV v p0 hI q0) (cwV 0 hts (jgoodV m_674 m_675 m_676 m_677 m_678) rfl rfl rfl (by decide +kernel) ⟨(Nat.le_of_ble_eq_true rfl), (Nat.le_of_ble_eq_true rfl)⟩) ⟨xP_blind, xrecv hK hP q0 rfl rfl, fun U hU hW => ⟨rfl, xP_of hU hW hP hK hD hX hS (fun _ h => h) hA⟩⟩ rfl rfl hl.1 rfl (lv_room (Nat.le_of_ble_eq_true rfl)) dX7_readFactor_10 ⟨(Nat.le_of_ble_eq_true rfl), (Nat.le_of_ble_eq_true rfl)⟩) hP hS hA (fun r_3 H locs w_4 hP hS => ?_)
    obtain ⟨z_5, rfl, h_6, h_7⟩ := w_4
    have h_8 : (-2147483648) ≤ v p0 7 ∧ v p0 7 ≤ 2147483647 := xf_7_7 hI q0
    refine lv_istore_n (i := 2) (lv' := [(2, .int (iI z_5)), (0, .ref p0.toNat), (1, .int (iI p1))]) hx hb dX7_readFactor_13 rfl hl (by decide) rfl (fun ls hl => ?_)
    refine lv_aload_n hx hb dX7_readFactor_14 rfl (lv_at hl 1 rfl) ?_
    refine jc_i (va_runV (As := []) (rest := []) ⟨hx, hb, hml, hown, hts⟩ (sX7_word l dC dI _ L cid K N tW sK sV v p0 hI q0) (cwV 0 hts (jgoodV m_679 m_680 m_681 m_677 m_682) rfl rfl rfl (by decide +kernel) ⟨(Nat.le_of_ble_eq_true rfl), (Nat.le_of_ble_eq_true rfl)⟩) ⟨xP_blind, xrecv hK hP q0 rfl rfl, fun U hU hW => ⟨rfl, xP_of hU hW hP hK hD hX hS (fun _ h => h) hA⟩⟩ rfl rfl hl.1 rfl (lv_room (Nat.le_of_ble_eq_true rfl)) dX7_readFactor_15 ⟨(Nat.le_of_ble_eq_true rfl), (Nat.le_of_ble_eq_true rfl)⟩) hP hS hA (fun r_9 H locs w_10 hP hS => ?_)
    obtain ⟨z_11, rfl, h_12, h_13⟩ := w_10
    refine lv_istore_n (i := 3) (lv' := [(3, .int (iI z_11)), (2, .int (iI z_5)), (0, .ref p0.toNat), (1, .int (iI p1))]) hx hb dX7_readFactor_18 rfl hl (by decide) rfl (fun ls hl => ?_)
    refine lv_iload_n hx hb dX7_readFactor_19 rfl (lv_at hl 0 rfl) ?_
    refine lv_bipush (v := iI 12) hx hb dX7_readFactor_20 rfl ?_
    have J48 : ∀ (H : Heap) (locs : List Loc) (ls : Array Slot), va_P (dC, dI) vwCl (xG L cid K N v) H → va_D A (xG L cid K N v) → va_S A s.heap H locs → lv_has ls 4 [(3, .int (iI z_11)), (2, .int (iI z_5)), (0, .ref p0.toNat), (1, .int (iI p1))] → W p l e ({ frames := 17, cells := 0, slots := 0, locals := 385 }) s m ([.ref p0.toNat, .int (iI p1)] : List Value).toArray below meth c H locs 0 0 Q (F0 m 48 ls []) := by
      intro H locs ls hP hD hS hl
      refine lv_iload_n hx hb dX7_readFactor_48 rfl (lv_at hl 1 rfl) ?_
      refine lv_iconst (v := iI 2) hx hb dX7_readFactor_49 rfl ?_
      have J87 : ∀ (H : Heap) (locs : List Loc) (ls : Array Slot), va_P (dC, dI) vwCl (xG L cid K N v) H → va_D A (xG L cid K N v) → va_S A s.heap H locs → lv_has ls 4 [(3, .int (iI z_11)), (2, .int (iI z_5)), (0, .ref p0.toNat), (1, .int (iI p1))] → W p l e ({ frames := 17, cells := 0, slots := 0, locals := 385 }) s m ([.ref p0.toNat, .int (iI p1)] : List Value).toArray below meth c H locs 0 0 Q (F0 m 87 ls []) := by
        intro H locs ls hP hD hS hl
        refine lv_iload_n hx hb dX7_readFactor_87 rfl (lv_at hl 1 rfl) ?_
        refine lv_bipush (v := iI 40) hx hb dX7_readFactor_88 rfl ?_
        refine xr_icmp_ne (tgt := 119) hx hb dX7_readFactor_90 (by decide) (by omega) (by omega) (fun h_14 => ?_) (fun h_14 => ?_)
        · refine lv_aload_n hx hb dX7_readFactor_119 rfl (lv_at hl 2 rfl) ?_
          refine jcg_v (va_runV (As := []) (rest := []) ⟨hx, hb, hml, hown, hts⟩ (sX7_refuse l dC dI _ L cid K N tW sK sV v p0 hI q0) (cwV 0 hts (jgoodV m_683 m_684 m_685 m_677 m_686) rfl rfl rfl (by decide +kernel) ⟨(Nat.le_of_ble_eq_true rfl), (Nat.le_of_ble_eq_true rfl)⟩) ⟨xP_blind, xrecv hK hP q0 rfl rfl, fun U hU hW => ⟨rfl, xP_of hU hW hP hK hD hX hS (fun _ h => h) hA⟩⟩ rfl rfl hl.1 rfl (lv_room (Nat.le_of_ble_eq_true rfl)) dX7_readFactor_120 ⟨(Nat.le_of_ble_eq_true rfl), (Nat.le_of_ble_eq_true rfl)⟩) hD hS hA (fun v_18 H locs w_16 hP hK hD hS => ?_)
          obtain ⟨I_20, f_19⟩ := w_16
          have hP : va_P (dC, dI) vwCl (xG L cid K N v_18) H := hP
          have hD : va_D A (xG L cid K N v_18) := hD
          rw [← hQ]
          exact W.vret hx hb hr (fun t ht hW => ⟨⟨v_18, rfl, ⟨I_20, (fr_tr f_19 rfl fr_rf)⟩, by rw [ht]; exact hP, va_K.moved hW.alike hK, hD⟩, hS.F ht⟩) hS.2.2 dX7_readFactor_123
        · refine lv_iload_n hx hb dX7_readFactor_93 rfl (lv_at hl 3 rfl) ?_
          refine lv_bipush (v := iI 8) hx hb dX7_readFactor_94 rfl ?_
          refine xr_icmp_ge (tgt := 119) hx hb dX7_readFactor_96 (by decide) (by omega) (by omega) (fun h_21 => ?_) (fun h_21 => ?_)
          · exfalso; omega
          · refine lv_aload_n hx hb dX7_readFactor_99 rfl (lv_at hl 2 rfl) ?_
            refine jcg_v (va_runV (As := []) (rest := []) ⟨hx, hb, hml, hown, hts⟩ (sX7_advance l dC dI _ L cid K N tW sK sV v p0 hI q0) (cwV 0 hts (jgoodV m_692 m_693 m_694 m_677 m_695) rfl rfl rfl (by decide +kernel) ⟨(Nat.le_of_ble_eq_true rfl), (Nat.le_of_ble_eq_true rfl)⟩) ⟨xP_blind, xrecv hK hP q0 rfl rfl, fun U hU hW => ⟨rfl, xP_of hU hW hP hK hD hX hS (fun _ h => h) hA⟩⟩ rfl rfl hl.1 rfl (lv_room (Nat.le_of_ble_eq_true rfl)) dX7_readFactor_100 ⟨(Nat.le_of_ble_eq_true rfl), (Nat.le_of_ble_eq_true rfl)⟩) hD hS hA (fun v_25 H locs w_23 hP hK hD hS => ?_)
            obtain ⟨I_27, f_26⟩ := w_23
            have hP : va_P (dC, dI) vwCl (xG L cid K N v_25) H := hP
            have hD : va_D A (xG L cid K N v_25) := hD
            refine lv_aload_n hx hb dX7_readFactor_103 rfl (lv_at hl 2 rfl) ?_
            refine lv_iload_n hx hb dX7_readFactor_104 rfl (lv_at hl 3 rfl) ?_
            refine lv_iconst (v := iI 1) hx hb dX7_readFactor_105 rfl ?_
            refine xr_add hx hb dX7_readFactor_106 ?_
            refine jcg_v (va_runV (As := [.int (iI (p1 + 1))]) (rest := []) ⟨hx, hb, hml, hown, hts⟩ (sX7_readSum_q4 l dC dI _ L cid K N tW sK sV v_25 p0 (p1 + 1) I_27 q0 (by omega) (by omega)) (cwV 1 hts (jgoodV m_704 m_705 m_706 m_677 m_707) rfl rfl rfl (by decide +kernel) ⟨(Nat.le_of_ble_eq_true rfl), (Nat.le_of_ble_eq_true rfl)⟩) ⟨xP_blind, xrecv hK hP q0 rfl rfl, fun U hU hW => ⟨rfl, xP_of hU hW hP hK hD hX hS (fun _ h => h) hA⟩⟩ rfl rfl hl.1 rfl (lv_room (Nat.le_of_ble_eq_true rfl)) dX7_readFactor_107 ⟨(Nat.le_of_ble_eq_true rfl), (Nat.le_of_ble_eq_true rfl)⟩) hD hS hA (fun v_31 H locs w_29 hP hK hD hS => ?_)
            obtain ⟨I_33, f_32⟩ := w_29
            have hP : va_P (dC, dI) vwCl (xG L cid K N v_31) H := hP
            have hD : va_D A (xG L cid K N v_31) := hD
            refine lv_aload_n hx hb dX7_readFactor_110 rfl (lv_at hl 2 rfl) ?_
            refine lv_bipush (v := iI 41) hx hb dX7_readFactor_111 rfl ?_
            refine jcg_v (va_runV (As := [.int (iI 41)]) (rest := []) ⟨hx, hb, hml, hown, hts⟩ (sX7_expect l dC dI _ L cid K N tW sK sV v_31 p0 41 I_33 q0 (by omega)) (cwV 1 hts (jgoodV m_708 m_709 m_710 m_677 m_711) rfl rfl rfl (by decide +kernel) ⟨(Nat.le_of_ble_eq_true rfl), (Nat.le_of_ble_eq_true rfl)⟩) ⟨xP_blind, xrecv hK hP q0 rfl rfl, fun U hU hW => ⟨rfl, xP_of hU hW hP hK hD hX hS (fun _ h => h) hA⟩⟩ rfl rfl hl.1 rfl (lv_room (Nat.le_of_ble_eq_true rfl)) dX7_readFactor_113 ⟨(Nat.le_of_ble_eq_true rfl), (Nat.le_of_ble_eq_true rfl)⟩) hD hS hA (fun v_37 H locs w_35 hP hK hD hS => ?_)
            obtain ⟨I_39, f_38⟩ := w_35
            have hP : va_P (dC, dI) vwCl (xG L cid K N v_37) H := hP
            have hD : va_D A (xG L cid K N v_37) := hD
            refine lv_goto (tgt := 123) hx hb dX7_readFactor_116 (by decide) ?_
            rw [← hQ]
            exact W.vret hx hb hr (fun t ht hW => ⟨⟨v_37, rfl, ⟨I_39, (fr_tr f_38 rfl (fr_tr f_32 rfl (fr_tr f_26 rfl fr_rf)))⟩, by rw [ht]; exact hP, va_K.moved hW.alike hK, hD⟩, hS.F ht⟩) hS.2.2 dX7_readFactor_123
      refine xr_icmp_ne (tgt := 87) hx hb dX7_readFactor_50 (by decide) (by omega) (by omega) (fun h_40 => ?_) (fun h_40 => ?_)
      · exact J87 H locs ls hP hD hS hl
      · refine lv_aload_n hx hb dX7_readFactor_53 rfl (lv_at hl 2 rfl) ?_
        have h_41 : ok L K (v p0 5) 24 := xf_7_5 hI q0
        have h_42 : N (v p0 5) = 601 := xn_24 hI h_41
        refine gx_RX7_25 (y := v p0 5) hx hb hj hown hK hP q0 ((xf_7_5 hI q0).1) rfl dX7_readFactor_54 ?_
        refine lv_aload_n hx hb dX7_readFactor_57 rfl (lv_at hl 2 rfl) ?_
        refine gx_RX7_53 (y := v p0 7) hx hb hj hown hK hP q0 rfl dX7_readFactor_58 ?_
        have h_43 : (-2147483648) ≤ v (v p0 5) (v p0 7) ∧ v (v p0 5) (v p0 7) ≤ 2147483647 := xe_24 hI h_41 (by omega)
        refine ax_24 (y := v (v p0 5) (v p0 7)) hx hb hK hP h_41 (by omega) (by omega) (by omega) rfl dX7_readFactor_61 ?_
        refine lv_ldc hx hb hown (hts (.constant RX7 140 99999) (jm m_687)) dX7_readFactor_62 ?_
        refine jt_i (iI 99999) (by decide) ?_
        refine xr_icmp_gt (tgt := 87) hx hb dX7_readFactor_64 (by decide) (by omega) (by omega) (fun h_44 => ?_) (fun h_44 => ?_)
        · exact J87 H locs ls hP hD hS hl
        · refine lv_aload_n hx hb dX7_readFactor_67 rfl (lv_at hl 2 rfl) ?_
          refine lv_aload_n hx hb dX7_readFactor_68 rfl (lv_at hl 2 rfl) ?_
          refine gx_RX7_25 (y := v p0 5) hx hb hj hown hK hP q0 ((xf_7_5 hI q0).1) rfl dX7_readFactor_69 ?_
          refine lv_aload_n hx hb dX7_readFactor_72 rfl (lv_at hl 2 rfl) ?_
          refine gx_RX7_53 (y := v p0 7) hx hb hj hown hK hP q0 rfl dX7_readFactor_73 ?_
          refine ax_24 (y := v (v p0 5) (v p0 7)) hx hb hK hP h_41 (by omega) (by omega) (by omega) rfl dX7_readFactor_76 ?_
          refine jcg_v (va_runV (As := [.int (iI (v (v p0 5) (v p0 7)))]) (rest := []) ⟨hx, hb, hml, hown, hts⟩ (sX7_emit l dC dI _ L cid K N tW sK sV v p0 (v (v p0 5) (v p0 7)) hI q0 (by omega)) (cwV 1 hts (jgoodV m_688 m_689 m_690 m_677 m_691) rfl rfl rfl (by decide +kernel) ⟨(Nat.le_of_ble_eq_true rfl), (Nat.le_of_ble_eq_true rfl)⟩) ⟨xP_blind, xrecv hK hP q0 rfl rfl, fun U hU hW => ⟨rfl, xP_of hU hW hP hK hD hX hS (fun _ h => h) hA⟩⟩ rfl rfl hl.1 rfl (lv_room (Nat.le_of_ble_eq_true rfl)) dX7_readFactor_77 ⟨(Nat.le_of_ble_eq_true rfl), (Nat.le_of_ble_eq_true rfl)⟩) hD hS hA (fun v_48 H locs w_46 hP hK hD hS => ?_)
          obtain ⟨I_50, f_49⟩ := w_46
          have hP : va_P (dC, dI) vwCl (xG L cid K N v_48) H := hP
          have hD : va_D A (xG L cid K N v_48) := hD
          refine lv_aload_n hx hb dX7_readFactor_80 rfl (lv_at hl 2 rfl) ?_
          refine jcg_v (va_runV (As := []) (rest := []) ⟨hx, hb, hml, hown, hts⟩ (sX7_advance l dC dI _ L cid K N tW sK sV v_48 p0 I_50 q0) (cwV 0 hts (jgoodV m_692 m_693 m_694 m_677 m_695) rfl rfl rfl (by decide +kernel) ⟨(Nat.le_of_ble_eq_true rfl), (Nat.le_of_ble_eq_true rfl)⟩) ⟨xP_blind, xrecv hK hP q0 rfl rfl, fun U hU hW => ⟨rfl, xP_of hU hW hP hK hD hX hS (fun _ h => h) hA⟩⟩ rfl rfl hl.1 rfl (lv_room (Nat.le_of_ble_eq_true rfl)) dX7_readFactor_81 ⟨(Nat.le_of_ble_eq_true rfl), (Nat.le_of_ble_eq_true rfl)⟩) hD hS hA (fun v_54 H locs w_52 hP hK hD hS => ?_)
          obtain ⟨I_56, f_55⟩ := w_52
          have hP : va_P (dC, dI) vwCl (xG L cid K N v_54) H := hP
          have hD : va_D A (xG L cid K N v_54) := hD
          refine lv_goto (tgt := 123) hx hb dX7_readFactor_84 (by decide) ?_
          rw [← hQ]
          exact W.vret hx hb hr (fun t ht hW => ⟨⟨v_54, rfl, ⟨I_56, (fr_tr f_55 rfl (fr_tr f_49 rfl fr_rf))⟩, by rw [ht]; exact hP, va_K.moved hW.alike hK, hD⟩, hS.F ht⟩) hS.2.2 dX7_readFactor_123
    refine xr_icmp_lt (tgt := 48) hx hb dX7_readFactor_22 (by decide) (by omega) (by omega) (fun h_57 => ?_) (fun h_57 => ?_)
    · exact J48 H locs ls hP hD hS hl
    · refine lv_iload_n hx hb dX7_readFactor_25 rfl (lv_at hl 0 rfl) ?_
      refine lv_bipush (v := iI 20) hx hb dX7_readFactor_26 rfl ?_
      refine xr_icmp_gt (tgt := 48) hx hb dX7_readFactor_28 (by decide) (by omega) (by omega) (fun h_58 => ?_) (fun h_58 => ?_)
      · exact J48 H locs ls hP hD hS hl
      · refine lv_aload_n hx hb dX7_readFactor_31 rfl (lv_at hl 2 rfl) ?_
        refine lv_iconst (v := iI (-1)) hx hb dX7_readFactor_32 rfl ?_
        refine lv_iload_n hx hb dX7_readFactor_33 rfl (lv_at hl 0 rfl) ?_
        refine lv_bipush (v := iI 12) hx hb dX7_readFactor_34 rfl ?_
        refine xr_sub hx hb dX7_readFactor_36 ?_
        refine xr_sub hx hb dX7_readFactor_37 ?_
        refine jcg_v (va_runV (As := [.int (iI ((-1) - (z_11 - 12)))]) (rest := []) ⟨hx, hb, hml, hown, hts⟩ (sX7_emit l dC dI _ L cid K N tW sK sV v p0 ((-1) - (z_11 - 12)) hI q0 (by omega)) (cwV 1 hts (jgoodV m_688 m_689 m_690 m_677 m_691) rfl rfl rfl (by decide +kernel) ⟨(Nat.le_of_ble_eq_true rfl), (Nat.le_of_ble_eq_true rfl)⟩) ⟨xP_blind, xrecv hK hP q0 rfl rfl, fun U hU hW => ⟨rfl, xP_of hU hW hP hK hD hX hS (fun _ h => h) hA⟩⟩ rfl rfl hl.1 rfl (lv_room (Nat.le_of_ble_eq_true rfl)) dX7_readFactor_38 ⟨(Nat.le_of_ble_eq_true rfl), (Nat.le_of_ble_eq_true rfl)⟩) hD hS hA (fun v_62 H locs w_60 hP hK hD hS => ?_)
        obtain ⟨I_64, f_63⟩ := w_60
        have hP : va_P (dC, dI) vwCl (xG L cid K N v_62) H := hP
        have hD : va_D A (xG L cid K N v_62) := hD
        refine lv_aload_n hx hb dX7_readFactor_41 rfl (lv_at hl 2 rfl) ?_
        refine jcg_v (va_runV (As := []) (rest := []) ⟨hx, hb, hml, hown, hts⟩ (sX7_advance l dC dI _ L cid K N tW sK sV v_62 p0 I_64 q0) (cwV 0 hts (jgoodV m_692 m_693 m_694 m_677 m_695) rfl rfl rfl (by decide +kernel) ⟨(Nat.le_of_ble_eq_true rfl), (Nat.le_of_ble_eq_true rfl)⟩) ⟨xP_blind, xrecv hK hP q0 rfl rfl, fun U hU hW => ⟨rfl, xP_of hU hW hP hK hD hX hS (fun _ h => h) hA⟩⟩ rfl rfl hl.1 rfl (lv_room (Nat.le_of_ble_eq_true rfl)) dX7_readFactor_42 ⟨(Nat.le_of_ble_eq_true rfl), (Nat.le_of_ble_eq_true rfl)⟩) hD hS hA (fun v_68 H locs w_66 hP hK hD hS => ?_)
        obtain ⟨I_70, f_69⟩ := w_66
        have hP : va_P (dC, dI) vwCl (xG L cid K N v_68) H := hP
        have hD : va_D A (xG L cid K N v_68) := hD
        refine lv_goto (tgt := 123) hx hb dX7_readFactor_45 (by decide) ?_
        rw [← hQ]
        exact W.vret hx hb hr (fun t ht hW => ⟨⟨v_68, rfl, ⟨I_70, (fr_tr f_69 rfl (fr_tr f_63 rfl fr_rf))⟩, by rw [ht]; exact hP, va_K.moved hW.alike hK, hD⟩, hS.F ht⟩) hS.2.2 dX7_readFactor_123
  · rw [← hQ]
    exact W.vret hx hb hr (fun t ht hW => ⟨⟨v, rfl, ⟨hI, fr_rf⟩, by rw [ht]; exact hP, va_K.moved hW.alike hK, hD⟩, hS.F ht⟩) hS.2.2 dX7_readFactor_8
set_option maxHeartbeats 2000000 in
set_option maxRecDepth 100000 in
theorem sX7_readProduct_q3 (l : Launch) (dC : Nat → ClassId) (dI : Nat → Nat → Nat) (sz : Nat) (L : List Nat) (cid : Nat → ClassId) (K : Int → Nat) (N : Int → Int) (tW : Nat) (sK sV : Nat → Nat) (v : Int → Int → Int) (p0 : Int) (p1 : Int) (hI : xI L K N v) (q0 : ok L K p0 7) (q1 : rg p1) (k1 : 3 ≤ p1 ∧ p1 ≤ 3) : Met l yX7_readProduct (jk yX7_readProduct cX7_readProduct 4 none) ({ frames := 18, cells := 0, slots := 0, locals := 408 }) (va_Pc [.ref p0.toNat, .int (iI p1)] (xP (dC, dI) (xG L cid K N v) (xT cid) tW sK sV sz)) (va_Qv (fun (u : (Int → Int → Int)) => (xI L K N u) ∧ (fr K [(7, 7), (7, 8), (7, 10), (25, (-1))] u v)) (fun u t => va_P (dC, dI) vwCl (xG L cid K N u) t.heap ∧ va_K (dC, dI) vwCl (xT cid) t ∧ va_D (va_A (xG L cid K N v) sz) (xG L cid K N u)) (va_A (xG L cid K N v) sz)) 0 0 (va_A (xG L cid K N v) sz) := by
  refine Met.ofW (cc := cX7_readProduct) (maxL := 4) (ret := none) (by decide) rfl ?_
  intro p e s m args below meth c s₁ B hml hv
  obtain ⟨rfl, ⟨hsz, hP, hK, hD0⟩, hX⟩ := hv
  have hx := B.exec
  have hb := B.bytes
  have hr := B.returns
  have hts := atoms_spec (ws := (jk yX7_readProduct cX7_readProduct 4 none)) B.pre
  have hj : ∀ w ∈ jw, w.before ([.ref p0.toNat, .int (iI p1)] : List Value).toArray s = true := fun w h => hts w (jm h)
  have hown : s.vm.findClass RX7 = some m.cls := findClass_of_methodNamed B.named
  subst hsz
  have hD := hD0.self (sz := s.heap.size)
  generalize hAe : (va_A (xG L cid K N v) s.heap.size) = A at hD hX ⊢
  have hA : ∀ q : Nat, s.heap.size ≤ q → A q := fun q h => by rw [← hAe]; exact Or.inr h
  have hS : va_S A s.heap s.heap [] := va_S.rf
  have hXa := hX
  have hP : va_P (dC, dI) vwCl (xG L cid K N v) s.heap := hP
  have hl := lv_entry ([.ref p0.toNat, .int (iI p1)]) (n := 4) (Nat.le_of_ble_eq_true rfl)
  rw [lg_entry_eq]
  generalize (lg_sl ([.ref p0.toNat, .int (iI p1)]) ++ List.replicate (4 - (lg_sl ([.ref p0.toNat, .int (iI p1)])).length) Slot.unset).toArray = ls at hl ⊢
  have hl : lv_has ls 4 [(0, .ref p0.toNat), (1, .int (iI p1))] := hl
  generalize hQ : MQ below (va_Qv (fun (u : (Int → Int → Int)) => (xI L K N u) ∧ (fr K [(7, 7), (7, 8), (7, 10), (25, (-1))] u v)) (fun u t => va_P (dC, dI) vwCl (xG L cid K N u) t.heap ∧ va_K (dC, dI) vwCl (xT cid) t ∧ va_D A (xG L cid K N u)) A) ([.ref p0.toNat, .int (iI p1)] : List Value).toArray s 0 0 A = Q
  suffices ST : ∀ (H : Heap) (locs : List Loc), va_P (dC, dI) vwCl (xG L cid K N v) H → va_S A s.heap H locs → W p l e ({ frames := 18, cells := 0, slots := 0, locals := 408 }) s m ([.ref p0.toNat, .int (iI p1)] : List Value).toArray below meth c H locs 0 0 Q (F0 m 0 ls []) from ST _ _ hP hS
  clear hP hS
  intro H locs hP hS
  refine lv_aload_n hx hb dX7_readProduct_0 rfl (lv_at hl 0 rfl) ?_
  refine lv_iload_n hx hb dX7_readProduct_1 rfl (lv_at hl 1 rfl) ?_
  refine jcg_v (va_runV (As := [.int (iI p1)]) (rest := []) ⟨hx, hb, hml, hown, hts⟩ (sX7_readFactor_q3 l dC dI _ L cid K N tW sK sV v p0 p1 hI q0 (by omega) (by omega)) (cwV 1 hts (jgoodV m_696 m_697 m_698 m_677 m_699) rfl rfl rfl (by decide +kernel) ⟨(Nat.le_of_ble_eq_true rfl), (Nat.le_of_ble_eq_true rfl)⟩) ⟨xP_blind, xrecv hK hP q0 rfl rfl, fun U hU hW => ⟨rfl, xP_of hU hW hP hK hD hX hS (fun _ h => h) hA⟩⟩ rfl rfl hl.1 rfl (lv_room (Nat.le_of_ble_eq_true rfl)) dX7_readProduct_2 ⟨(Nat.le_of_ble_eq_true rfl), (Nat.le_of_ble_eq_true rfl)⟩) hD hS hA (fun v_4 H locs w_2 hP hK hD hS => ?_)
  obtain ⟨I_6, f_5⟩ := w_2
  have hP : va_P (dC, dI) vwCl (xG L cid K N v_4) H := hP
  have hD : va_D A (xG L cid K N v_4) := hD
  refine lv_iconst (v := iI 0) hx hb dX7_readProduct_5 rfl ?_
  refine lv_istore_n (i := 2) (lv' := [(2, .int (iI 0)), (0, .ref p0.toNat), (1, .int (iI p1))]) hx hb dX7_readProduct_6 rfl hl (by decide) rfl (fun ls hl => ?_)
  have L7 : ∀ (n7 : Nat) (a2_7 : Int) (vc7 : Int → Int → Int) (H : Heap) (locs : List Loc) (ls : Array Slot), (0 ≤ a2_7 ∧ a2_7 ≤ 2147483647) → (0 < (n7 : Int) ∧ (v p0 1) - a2_7 < (n7 : Int)) → fr K [(7, 7), (7, 8), (7, 10), (25, (-1))] vc7 v_4 → xI L K N vc7 → va_P (dC, dI) vwCl (xG L cid K N vc7) H → va_D A (xG L cid K N vc7) → va_S A s.heap H locs → lv_has ls 4 [(2, .int (iI a2_7)), (0, .ref p0.toNat), (1, .int (iI p1))] → W p l e ({ frames := 18, cells := 0, slots := 0, locals := 408 }) s m ([.ref p0.toNat, .int (iI p1)] : List Value).toArray below meth c H locs 0 0 Q (F0 m 7 ls []) := by
    intro n7
    induction n7 with
    | zero =>
      intro a2_7 vc7 H locs ls h_7 hm7 f_8 I_9 hP hD hS hl
      exfalso; omega
    | succ n7 ih7 =>
      intro a2_7 vc7 H locs ls h_10 hm7 f_11 I_12 hP hD hS hl
      refine lv_iload_n hx hb dX7_readProduct_7 rfl (lv_at hl 0 rfl) ?_
      refine lv_aload_n hx hb dX7_readProduct_8 rfl (lv_at hl 1 rfl) ?_
      have h_13 : 0 ≤ v p0 1 ∧ v p0 1 ≤ 600 := xf_7_1 hI q0
      refine gx_RX7_43 (y := v p0 1) hx hb hj hown hK hP q0 (((fr_use q0 f_11 rfl)).trans (fr_use q0 f_5 rfl)) dX7_readProduct_9 ?_
      refine xr_icmp_ge (tgt := 78) hx hb dX7_readProduct_12 (by decide) (by omega) (by omega) (fun h_14 => ?_) (fun h_14 => ?_)
      · rw [← hQ]
        exact W.vret hx hb hr (fun t ht hW => ⟨⟨vc7, rfl, ⟨I_12, (fr_tr f_11 rfl (fr_tr f_5 rfl fr_rf))⟩, by rw [ht]; exact hP, va_K.moved hW.alike hK, hD⟩, hS.F ht⟩) hS.2.2 dX7_readProduct_78
      · refine lv_aload_n hx hb dX7_readProduct_15 rfl (lv_at hl 1 rfl) ?_
        have h_15 : (-2147483648) ≤ vc7 p0 8 ∧ vc7 p0 8 ≤ 2147483647 := xf_7_8 I_12 q0
        refine gx_RX7_50 (y := vc7 p0 8) hx hb hj hown hK hP q0 rfl dX7_readProduct_16 ?_
        refine lv_iconst (v := iI (-1)) hx hb dX7_readProduct_19 rfl ?_
        refine xr_icmp_ne (tgt := 78) hx hb dX7_readProduct_20 (by decide) (by omega) (by omega) (fun h_16 => ?_) (fun h_16 => ?_)
        · rw [← hQ]
          exact W.vret hx hb hr (fun t ht hW => ⟨⟨vc7, rfl, ⟨I_12, (fr_tr f_11 rfl (fr_tr f_5 rfl fr_rf))⟩, by rw [ht]; exact hP, va_K.moved hW.alike hK, hD⟩, hS.F ht⟩) hS.2.2 dX7_readProduct_78
        · refine lv_aload_n hx hb dX7_readProduct_23 rfl (lv_at hl 1 rfl) ?_
          refine jc_i (va_runV (As := []) (rest := []) ⟨hx, hb, hml, hown, hts⟩ (sX7_kind l dC dI _ L cid K N tW sK sV vc7 p0 I_12 q0) (cwV 0 hts (jgoodV m_674 m_675 m_676 m_677 m_678) rfl rfl rfl (by decide +kernel) ⟨(Nat.le_of_ble_eq_true rfl), (Nat.le_of_ble_eq_true rfl)⟩) ⟨xP_blind, xrecv hK hP q0 rfl rfl, fun U hU hW => ⟨rfl, xP_of hU hW hP hK hD hX hS (fun _ h => h) hA⟩⟩ rfl rfl hl.1 rfl (lv_room (Nat.le_of_ble_eq_true rfl)) dX7_readProduct_24 ⟨(Nat.le_of_ble_eq_true rfl), (Nat.le_of_ble_eq_true rfl)⟩) hP hS hA (fun r_17 H locs w_18 hP hS => ?_)
          obtain ⟨z_19, rfl, h_20, h_21⟩ := w_18
          have h_22 : (-2147483648) ≤ vc7 p0 7 ∧ vc7 p0 7 ≤ 2147483647 := xf_7_7 I_12 q0
          refine lv_bipush (v := iI 42) hx hb dX7_readProduct_27 rfl ?_
          have J41 : ∀ (H : Heap) (locs : List Loc) (ls : Array Slot), va_P (dC, dI) vwCl (xG L cid K N vc7) H → va_D A (xG L cid K N vc7) → va_S A s.heap H locs → lv_has ls 4 [(2, .int (iI a2_7)), (0, .ref p0.toNat), (1, .int (iI p1))] → W p l e ({ frames := 18, cells := 0, slots := 0, locals := 408 }) s m ([.ref p0.toNat, .int (iI p1)] : List Value).toArray below meth c H locs 0 0 Q (F0 m 41 ls []) := by
            intro H locs ls hP hD hS hl
            refine lv_aload_n hx hb dX7_readProduct_41 rfl (lv_at hl 1 rfl) ?_
            refine jc_i (va_runV (As := []) (rest := []) ⟨hx, hb, hml, hown, hts⟩ (sX7_kind l dC dI _ L cid K N tW sK sV vc7 p0 I_12 q0) (cwV 0 hts (jgoodV m_674 m_675 m_676 m_677 m_678) rfl rfl rfl (by decide +kernel) ⟨(Nat.le_of_ble_eq_true rfl), (Nat.le_of_ble_eq_true rfl)⟩) ⟨xP_blind, xrecv hK hP q0 rfl rfl, fun U hU hW => ⟨rfl, xP_of hU hW hP hK hD hX hS (fun _ h => h) hA⟩⟩ rfl rfl hl.1 rfl (lv_room (Nat.le_of_ble_eq_true rfl)) dX7_readProduct_42 ⟨(Nat.le_of_ble_eq_true rfl), (Nat.le_of_ble_eq_true rfl)⟩) hP hS hA (fun r_23 H locs w_24 hP hS => ?_)
            obtain ⟨z_25, rfl, h_26, h_27⟩ := w_24
            refine lv_bipush (v := iI 42) hx hb dX7_readProduct_45 rfl ?_
            have J57 : ∀ (s0_57 : Int) (H : Heap) (locs : List Loc) (ls : Array Slot), ((-14) ≤ s0_57 ∧ s0_57 ≤ (-13)) → va_P (dC, dI) vwCl (xG L cid K N vc7) H → va_D A (xG L cid K N vc7) → va_S A s.heap H locs → lv_has ls 4 [(2, .int (iI a2_7)), (0, .ref p0.toNat), (1, .int (iI p1))] → W p l e ({ frames := 18, cells := 0, slots := 0, locals := 408 }) s m ([.ref p0.toNat, .int (iI p1)] : List Value).toArray below meth c H locs 0 0 Q (F0 m 57 ls [.int (iI s0_57)]) := by
              intro s0_57 H locs ls h_28 hP hD hS hl
              refine lv_istore_n (i := 3) (lv' := [(3, .int (iI s0_57)), (2, .int (iI a2_7)), (0, .ref p0.toNat), (1, .int (iI p1))]) hx hb dX7_readProduct_57 rfl hl (by decide) rfl (fun ls hl => ?_)
              refine lv_aload_n hx hb dX7_readProduct_58 rfl (lv_at hl 2 rfl) ?_
              refine jcg_v (va_runV (As := []) (rest := []) ⟨hx, hb, hml, hown, hts⟩ (sX7_advance l dC dI _ L cid K N tW sK sV vc7 p0 I_12 q0) (cwV 0 hts (jgoodV m_692 m_693 m_694 m_677 m_695) rfl rfl rfl (by decide +kernel) ⟨(Nat.le_of_ble_eq_true rfl), (Nat.le_of_ble_eq_true rfl)⟩) ⟨xP_blind, xrecv hK hP q0 rfl rfl, fun U hU hW => ⟨rfl, xP_of hU hW hP hK hD hX hS (fun _ h => h) hA⟩⟩ rfl rfl hl.1 rfl (lv_room (Nat.le_of_ble_eq_true rfl)) dX7_readProduct_59 ⟨(Nat.le_of_ble_eq_true rfl), (Nat.le_of_ble_eq_true rfl)⟩) hD hS hA (fun v_32 H locs w_30 hP hK hD hS => ?_)
              obtain ⟨I_34, f_33⟩ := w_30
              have hP : va_P (dC, dI) vwCl (xG L cid K N v_32) H := hP
              have hD : va_D A (xG L cid K N v_32) := hD
              refine lv_aload_n hx hb dX7_readProduct_62 rfl (lv_at hl 2 rfl) ?_
              refine lv_iload_n hx hb dX7_readProduct_63 rfl (lv_at hl 3 rfl) ?_
              refine jcg_v (va_runV (As := [.int (iI p1)]) (rest := []) ⟨hx, hb, hml, hown, hts⟩ (sX7_readFactor_q3 l dC dI _ L cid K N tW sK sV v_32 p0 p1 I_34 q0 (by omega) (by omega)) (cwV 1 hts (jgoodV m_696 m_697 m_698 m_677 m_699) rfl rfl rfl (by decide +kernel) ⟨(Nat.le_of_ble_eq_true rfl), (Nat.le_of_ble_eq_true rfl)⟩) ⟨xP_blind, xrecv hK hP q0 rfl rfl, fun U hU hW => ⟨rfl, xP_of hU hW hP hK hD hX hS (fun _ h => h) hA⟩⟩ rfl rfl hl.1 rfl (lv_room (Nat.le_of_ble_eq_true rfl)) dX7_readProduct_64 ⟨(Nat.le_of_ble_eq_true rfl), (Nat.le_of_ble_eq_true rfl)⟩) hD hS hA (fun v_38 H locs w_36 hP hK hD hS => ?_)
              obtain ⟨I_40, f_39⟩ := w_36
              have hP : va_P (dC, dI) vwCl (xG L cid K N v_38) H := hP
              have hD : va_D A (xG L cid K N v_38) := hD
              refine lv_aload_n hx hb dX7_readProduct_67 rfl (lv_at hl 2 rfl) ?_
              refine lv_iload_n hx hb dX7_readProduct_68 rfl (lv_at hl 0 rfl) ?_
              refine jcg_v (va_runV (As := [.int (iI s0_57)]) (rest := []) ⟨hx, hb, hml, hown, hts⟩ (sX7_emit l dC dI _ L cid K N tW sK sV v_38 p0 s0_57 I_40 q0 (by omega)) (cwV 1 hts (jgoodV m_688 m_689 m_690 m_677 m_691) rfl rfl rfl (by decide +kernel) ⟨(Nat.le_of_ble_eq_true rfl), (Nat.le_of_ble_eq_true rfl)⟩) ⟨xP_blind, xrecv hK hP q0 rfl rfl, fun U hU hW => ⟨rfl, xP_of hU hW hP hK hD hX hS (fun _ h => h) hA⟩⟩ rfl rfl hl.1 rfl (lv_room (Nat.le_of_ble_eq_true rfl)) dX7_readProduct_69 ⟨(Nat.le_of_ble_eq_true rfl), (Nat.le_of_ble_eq_true rfl)⟩) hD hS hA (fun v_44 H locs w_42 hP hK hD hS => ?_)
              obtain ⟨I_46, f_45⟩ := w_42
              have hP : va_P (dC, dI) vwCl (xG L cid K N v_44) H := hP
              have hD : va_D A (xG L cid K N v_44) := hD
              refine lv_iinc (v := iI (a2_7 + 1)) (lv' := [(2, .int (iI (a2_7 + 1))), (3, .int (iI s0_57)), (0, .ref p0.toNat), (1, .int (iI p1))]) hx hb dX7_readProduct_72 hl (k := 1) rfl (iI_add _ _) (by decide) rfl (fun ls hl => ?_)
              refine lv_goto (tgt := 7) hx hb dX7_readProduct_75 (by decide) ?_
              exact ih7 (a2_7 + 1) v_44 H locs ls (by omega) (by omega) (fr_tr f_45 rfl (fr_tr f_39 rfl (fr_tr f_33 rfl (fr_tr f_11 rfl fr_rf)))) I_46 hP hD hS (lv_sub hl [0, 2, 3] rfl)
            refine xr_icmp_ne (tgt := 55) hx hb dX7_readProduct_47 (by decide) (by omega) (by omega) (fun h_47 => ?_) (fun h_47 => ?_)
            · refine lv_bipush (v := iI (-14)) hx hb dX7_readProduct_55 rfl ?_
              exact J57 (-14) H locs ls (by omega) hP hD hS hl
            · refine lv_bipush (v := iI (-13)) hx hb dX7_readProduct_50 rfl ?_
              refine lv_goto (tgt := 57) hx hb dX7_readProduct_52 (by decide) ?_
              exact J57 (-13) H locs ls (by omega) hP hD hS hl
          refine xr_icmp_eq (tgt := 41) hx hb dX7_readProduct_29 (by decide) (by omega) (by omega) (fun h_48 => ?_) (fun h_48 => ?_)
          · exact J41 H locs ls hP hD hS hl
          · refine lv_aload_n hx hb dX7_readProduct_32 rfl (lv_at hl 1 rfl) ?_
            refine jc_i (va_runV (As := []) (rest := []) ⟨hx, hb, hml, hown, hts⟩ (sX7_kind l dC dI _ L cid K N tW sK sV vc7 p0 I_12 q0) (cwV 0 hts (jgoodV m_674 m_675 m_676 m_677 m_678) rfl rfl rfl (by decide +kernel) ⟨(Nat.le_of_ble_eq_true rfl), (Nat.le_of_ble_eq_true rfl)⟩) ⟨xP_blind, xrecv hK hP q0 rfl rfl, fun U hU hW => ⟨rfl, xP_of hU hW hP hK hD hX hS (fun _ h => h) hA⟩⟩ rfl rfl hl.1 rfl (lv_room (Nat.le_of_ble_eq_true rfl)) dX7_readProduct_33 ⟨(Nat.le_of_ble_eq_true rfl), (Nat.le_of_ble_eq_true rfl)⟩) hP hS hA (fun r_49 H locs w_50 hP hS => ?_)
            obtain ⟨z_51, rfl, h_52, h_53⟩ := w_50
            refine lv_bipush (v := iI 47) hx hb dX7_readProduct_36 rfl ?_
            refine xr_icmp_ne (tgt := 78) hx hb dX7_readProduct_38 (by decide) (by omega) (by omega) (fun h_54 => ?_) (fun h_54 => ?_)
            · rw [← hQ]
              exact W.vret hx hb hr (fun t ht hW => ⟨⟨vc7, rfl, ⟨I_12, (fr_tr f_11 rfl (fr_tr f_5 rfl fr_rf))⟩, by rw [ht]; exact hP, va_K.moved hW.alike hK, hD⟩, hS.F ht⟩) hS.2.2 dX7_readProduct_78
            · exact J41 H locs ls hP hD hS hl
  exact L7 ((((v p0 1) - 0 : Int)).toNat + 1) 0 v_4 H locs ls (by omega) (by omega) fr_rf I_6 hP hD hS hl
set_option maxHeartbeats 2000000 in
set_option maxRecDepth 100000 in
theorem sX7_readSum_q3 (l : Launch) (dC : Nat → ClassId) (dI : Nat → Nat → Nat) (sz : Nat) (L : List Nat) (cid : Nat → ClassId) (K : Int → Nat) (N : Int → Int) (tW : Nat) (sK sV : Nat → Nat) (v : Int → Int → Int) (p0 : Int) (p1 : Int) (hI : xI L K N v) (q0 : ok L K p0 7) (q1 : rg p1) (k1 : 3 ≤ p1 ∧ p1 ≤ 3) : Met l yX7_readSum (jk yX7_readSum cX7_readSum 4 none) ({ frames := 19, cells := 0, slots := 0, locals := 431 }) (va_Pc [.ref p0.toNat, .int (iI p1)] (xP (dC, dI) (xG L cid K N v) (xT cid) tW sK sV sz)) (va_Qv (fun (u : (Int → Int → Int)) => (xI L K N u) ∧ (fr K [(7, 7), (7, 8), (7, 10), (25, (-1))] u v)) (fun u t => va_P (dC, dI) vwCl (xG L cid K N u) t.heap ∧ va_K (dC, dI) vwCl (xT cid) t ∧ va_D (va_A (xG L cid K N v) sz) (xG L cid K N u)) (va_A (xG L cid K N v) sz)) 0 0 (va_A (xG L cid K N v) sz) := by
  refine Met.ofW (cc := cX7_readSum) (maxL := 4) (ret := none) (by decide) rfl ?_
  intro p e s m args below meth c s₁ B hml hv
  obtain ⟨rfl, ⟨hsz, hP, hK, hD0⟩, hX⟩ := hv
  have hx := B.exec
  have hb := B.bytes
  have hr := B.returns
  have hts := atoms_spec (ws := (jk yX7_readSum cX7_readSum 4 none)) B.pre
  have hj : ∀ w ∈ jw, w.before ([.ref p0.toNat, .int (iI p1)] : List Value).toArray s = true := fun w h => hts w (jm h)
  have hown : s.vm.findClass RX7 = some m.cls := findClass_of_methodNamed B.named
  subst hsz
  have hD := hD0.self (sz := s.heap.size)
  generalize hAe : (va_A (xG L cid K N v) s.heap.size) = A at hD hX ⊢
  have hA : ∀ q : Nat, s.heap.size ≤ q → A q := fun q h => by rw [← hAe]; exact Or.inr h
  have hS : va_S A s.heap s.heap [] := va_S.rf
  have hXa := hX
  have hP : va_P (dC, dI) vwCl (xG L cid K N v) s.heap := hP
  have hl := lv_entry ([.ref p0.toNat, .int (iI p1)]) (n := 4) (Nat.le_of_ble_eq_true rfl)
  rw [lg_entry_eq]
  generalize (lg_sl ([.ref p0.toNat, .int (iI p1)]) ++ List.replicate (4 - (lg_sl ([.ref p0.toNat, .int (iI p1)])).length) Slot.unset).toArray = ls at hl ⊢
  have hl : lv_has ls 4 [(0, .ref p0.toNat), (1, .int (iI p1))] := hl
  generalize hQ : MQ below (va_Qv (fun (u : (Int → Int → Int)) => (xI L K N u) ∧ (fr K [(7, 7), (7, 8), (7, 10), (25, (-1))] u v)) (fun u t => va_P (dC, dI) vwCl (xG L cid K N u) t.heap ∧ va_K (dC, dI) vwCl (xT cid) t ∧ va_D A (xG L cid K N u)) A) ([.ref p0.toNat, .int (iI p1)] : List Value).toArray s 0 0 A = Q
  suffices ST : ∀ (H : Heap) (locs : List Loc), va_P (dC, dI) vwCl (xG L cid K N v) H → va_S A s.heap H locs → W p l e ({ frames := 19, cells := 0, slots := 0, locals := 431 }) s m ([.ref p0.toNat, .int (iI p1)] : List Value).toArray below meth c H locs 0 0 Q (F0 m 0 ls []) from ST _ _ hP hS
  clear hP hS
  intro H locs hP hS
  refine lv_aload_n hx hb dX7_readSum_0 rfl (lv_at hl 0 rfl) ?_
  refine lv_iload_n hx hb dX7_readSum_1 rfl (lv_at hl 1 rfl) ?_
  refine jcg_v (va_runV (As := [.int (iI p1)]) (rest := []) ⟨hx, hb, hml, hown, hts⟩ (sX7_readProduct_q3 l dC dI _ L cid K N tW sK sV v p0 p1 hI q0 (by omega) (by omega)) (cwV 1 hts (jgoodV m_700 m_701 m_702 m_677 m_703) rfl rfl rfl (by decide +kernel) ⟨(Nat.le_of_ble_eq_true rfl), (Nat.le_of_ble_eq_true rfl)⟩) ⟨xP_blind, xrecv hK hP q0 rfl rfl, fun U hU hW => ⟨rfl, xP_of hU hW hP hK hD hX hS (fun _ h => h) hA⟩⟩ rfl rfl hl.1 rfl (lv_room (Nat.le_of_ble_eq_true rfl)) dX7_readSum_2 ⟨(Nat.le_of_ble_eq_true rfl), (Nat.le_of_ble_eq_true rfl)⟩) hD hS hA (fun v_4 H locs w_2 hP hK hD hS => ?_)
  obtain ⟨I_6, f_5⟩ := w_2
  have hP : va_P (dC, dI) vwCl (xG L cid K N v_4) H := hP
  have hD : va_D A (xG L cid K N v_4) := hD
  refine lv_iconst (v := iI 0) hx hb dX7_readSum_5 rfl ?_
  refine lv_istore_n (i := 2) (lv' := [(2, .int (iI 0)), (0, .ref p0.toNat), (1, .int (iI p1))]) hx hb dX7_readSum_6 rfl hl (by decide) rfl (fun ls hl => ?_)
  have L7 : ∀ (n7 : Nat) (a2_7 : Int) (vc7 : Int → Int → Int) (H : Heap) (locs : List Loc) (ls : Array Slot), (0 ≤ a2_7 ∧ a2_7 ≤ 2147483647) → (0 < (n7 : Int) ∧ (v p0 1) - a2_7 < (n7 : Int)) → fr K [(7, 7), (7, 8), (7, 10), (25, (-1))] vc7 v_4 → xI L K N vc7 → va_P (dC, dI) vwCl (xG L cid K N vc7) H → va_D A (xG L cid K N vc7) → va_S A s.heap H locs → lv_has ls 4 [(2, .int (iI a2_7)), (0, .ref p0.toNat), (1, .int (iI p1))] → W p l e ({ frames := 19, cells := 0, slots := 0, locals := 431 }) s m ([.ref p0.toNat, .int (iI p1)] : List Value).toArray below meth c H locs 0 0 Q (F0 m 7 ls []) := by
    intro n7
    induction n7 with
    | zero =>
      intro a2_7 vc7 H locs ls h_7 hm7 f_8 I_9 hP hD hS hl
      exfalso; omega
    | succ n7 ih7 =>
      intro a2_7 vc7 H locs ls h_10 hm7 f_11 I_12 hP hD hS hl
      refine lv_iload_n hx hb dX7_readSum_7 rfl (lv_at hl 0 rfl) ?_
      refine lv_aload_n hx hb dX7_readSum_8 rfl (lv_at hl 1 rfl) ?_
      have h_13 : 0 ≤ v p0 1 ∧ v p0 1 ≤ 600 := xf_7_1 hI q0
      refine gx_RX7_43 (y := v p0 1) hx hb hj hown hK hP q0 (((fr_use q0 f_11 rfl)).trans (fr_use q0 f_5 rfl)) dX7_readSum_9 ?_
      refine xr_icmp_ge (tgt := 78) hx hb dX7_readSum_12 (by decide) (by omega) (by omega) (fun h_14 => ?_) (fun h_14 => ?_)
      · rw [← hQ]
        exact W.vret hx hb hr (fun t ht hW => ⟨⟨vc7, rfl, ⟨I_12, (fr_tr f_11 rfl (fr_tr f_5 rfl fr_rf))⟩, by rw [ht]; exact hP, va_K.moved hW.alike hK, hD⟩, hS.F ht⟩) hS.2.2 dX7_readSum_78
      · refine lv_aload_n hx hb dX7_readSum_15 rfl (lv_at hl 1 rfl) ?_
        have h_15 : (-2147483648) ≤ vc7 p0 8 ∧ vc7 p0 8 ≤ 2147483647 := xf_7_8 I_12 q0
        refine gx_RX7_50 (y := vc7 p0 8) hx hb hj hown hK hP q0 rfl dX7_readSum_16 ?_
        refine lv_iconst (v := iI (-1)) hx hb dX7_readSum_19 rfl ?_
        refine xr_icmp_ne (tgt := 78) hx hb dX7_readSum_20 (by decide) (by omega) (by omega) (fun h_16 => ?_) (fun h_16 => ?_)
        · rw [← hQ]
          exact W.vret hx hb hr (fun t ht hW => ⟨⟨vc7, rfl, ⟨I_12, (fr_tr f_11 rfl (fr_tr f_5 rfl fr_rf))⟩, by rw [ht]; exact hP, va_K.moved hW.alike hK, hD⟩, hS.F ht⟩) hS.2.2 dX7_readSum_78
        · refine lv_aload_n hx hb dX7_readSum_23 rfl (lv_at hl 1 rfl) ?_
          refine jc_i (va_runV (As := []) (rest := []) ⟨hx, hb, hml, hown, hts⟩ (sX7_kind l dC dI _ L cid K N tW sK sV vc7 p0 I_12 q0) (cwV 0 hts (jgoodV m_674 m_675 m_676 m_677 m_678) rfl rfl rfl (by decide +kernel) ⟨(Nat.le_of_ble_eq_true rfl), (Nat.le_of_ble_eq_true rfl)⟩) ⟨xP_blind, xrecv hK hP q0 rfl rfl, fun U hU hW => ⟨rfl, xP_of hU hW hP hK hD hX hS (fun _ h => h) hA⟩⟩ rfl rfl hl.1 rfl (lv_room (Nat.le_of_ble_eq_true rfl)) dX7_readSum_24 ⟨(Nat.le_of_ble_eq_true rfl), (Nat.le_of_ble_eq_true rfl)⟩) hP hS hA (fun r_17 H locs w_18 hP hS => ?_)
          obtain ⟨z_19, rfl, h_20, h_21⟩ := w_18
          have h_22 : (-2147483648) ≤ vc7 p0 7 ∧ vc7 p0 7 ≤ 2147483647 := xf_7_7 I_12 q0
          refine lv_bipush (v := iI 43) hx hb dX7_readSum_27 rfl ?_
          have J41 : ∀ (H : Heap) (locs : List Loc) (ls : Array Slot), va_P (dC, dI) vwCl (xG L cid K N vc7) H → va_D A (xG L cid K N vc7) → va_S A s.heap H locs → lv_has ls 4 [(2, .int (iI a2_7)), (0, .ref p0.toNat), (1, .int (iI p1))] → W p l e ({ frames := 19, cells := 0, slots := 0, locals := 431 }) s m ([.ref p0.toNat, .int (iI p1)] : List Value).toArray below meth c H locs 0 0 Q (F0 m 41 ls []) := by
            intro H locs ls hP hD hS hl
            refine lv_aload_n hx hb dX7_readSum_41 rfl (lv_at hl 1 rfl) ?_
            refine jc_i (va_runV (As := []) (rest := []) ⟨hx, hb, hml, hown, hts⟩ (sX7_kind l dC dI _ L cid K N tW sK sV vc7 p0 I_12 q0) (cwV 0 hts (jgoodV m_674 m_675 m_676 m_677 m_678) rfl rfl rfl (by decide +kernel) ⟨(Nat.le_of_ble_eq_true rfl), (Nat.le_of_ble_eq_true rfl)⟩) ⟨xP_blind, xrecv hK hP q0 rfl rfl, fun U hU hW => ⟨rfl, xP_of hU hW hP hK hD hX hS (fun _ h => h) hA⟩⟩ rfl rfl hl.1 rfl (lv_room (Nat.le_of_ble_eq_true rfl)) dX7_readSum_42 ⟨(Nat.le_of_ble_eq_true rfl), (Nat.le_of_ble_eq_true rfl)⟩) hP hS hA (fun r_23 H locs w_24 hP hS => ?_)
            obtain ⟨z_25, rfl, h_26, h_27⟩ := w_24
            refine lv_bipush (v := iI 43) hx hb dX7_readSum_45 rfl ?_
            have J57 : ∀ (s0_57 : Int) (H : Heap) (locs : List Loc) (ls : Array Slot), ((-12) ≤ s0_57 ∧ s0_57 ≤ (-11)) → va_P (dC, dI) vwCl (xG L cid K N vc7) H → va_D A (xG L cid K N vc7) → va_S A s.heap H locs → lv_has ls 4 [(2, .int (iI a2_7)), (0, .ref p0.toNat), (1, .int (iI p1))] → W p l e ({ frames := 19, cells := 0, slots := 0, locals := 431 }) s m ([.ref p0.toNat, .int (iI p1)] : List Value).toArray below meth c H locs 0 0 Q (F0 m 57 ls [.int (iI s0_57)]) := by
              intro s0_57 H locs ls h_28 hP hD hS hl
              refine lv_istore_n (i := 3) (lv' := [(3, .int (iI s0_57)), (2, .int (iI a2_7)), (0, .ref p0.toNat), (1, .int (iI p1))]) hx hb dX7_readSum_57 rfl hl (by decide) rfl (fun ls hl => ?_)
              refine lv_aload_n hx hb dX7_readSum_58 rfl (lv_at hl 2 rfl) ?_
              refine jcg_v (va_runV (As := []) (rest := []) ⟨hx, hb, hml, hown, hts⟩ (sX7_advance l dC dI _ L cid K N tW sK sV vc7 p0 I_12 q0) (cwV 0 hts (jgoodV m_692 m_693 m_694 m_677 m_695) rfl rfl rfl (by decide +kernel) ⟨(Nat.le_of_ble_eq_true rfl), (Nat.le_of_ble_eq_true rfl)⟩) ⟨xP_blind, xrecv hK hP q0 rfl rfl, fun U hU hW => ⟨rfl, xP_of hU hW hP hK hD hX hS (fun _ h => h) hA⟩⟩ rfl rfl hl.1 rfl (lv_room (Nat.le_of_ble_eq_true rfl)) dX7_readSum_59 ⟨(Nat.le_of_ble_eq_true rfl), (Nat.le_of_ble_eq_true rfl)⟩) hD hS hA (fun v_32 H locs w_30 hP hK hD hS => ?_)
              obtain ⟨I_34, f_33⟩ := w_30
              have hP : va_P (dC, dI) vwCl (xG L cid K N v_32) H := hP
              have hD : va_D A (xG L cid K N v_32) := hD
              refine lv_aload_n hx hb dX7_readSum_62 rfl (lv_at hl 2 rfl) ?_
              refine lv_iload_n hx hb dX7_readSum_63 rfl (lv_at hl 3 rfl) ?_
              refine jcg_v (va_runV (As := [.int (iI p1)]) (rest := []) ⟨hx, hb, hml, hown, hts⟩ (sX7_readProduct_q3 l dC dI _ L cid K N tW sK sV v_32 p0 p1 I_34 q0 (by omega) (by omega)) (cwV 1 hts (jgoodV m_700 m_701 m_702 m_677 m_703) rfl rfl rfl (by decide +kernel) ⟨(Nat.le_of_ble_eq_true rfl), (Nat.le_of_ble_eq_true rfl)⟩) ⟨xP_blind, xrecv hK hP q0 rfl rfl, fun U hU hW => ⟨rfl, xP_of hU hW hP hK hD hX hS (fun _ h => h) hA⟩⟩ rfl rfl hl.1 rfl (lv_room (Nat.le_of_ble_eq_true rfl)) dX7_readSum_64 ⟨(Nat.le_of_ble_eq_true rfl), (Nat.le_of_ble_eq_true rfl)⟩) hD hS hA (fun v_38 H locs w_36 hP hK hD hS => ?_)
              obtain ⟨I_40, f_39⟩ := w_36
              have hP : va_P (dC, dI) vwCl (xG L cid K N v_38) H := hP
              have hD : va_D A (xG L cid K N v_38) := hD
              refine lv_aload_n hx hb dX7_readSum_67 rfl (lv_at hl 2 rfl) ?_
              refine lv_iload_n hx hb dX7_readSum_68 rfl (lv_at hl 0 rfl) ?_
              refine jcg_v (va_runV (As := [.int (iI s0_57)]) (rest := []) ⟨hx, hb, hml, hown, hts⟩ (sX7_emit l dC dI _ L cid K N tW sK sV v_38 p0 s0_57 I_40 q0 (by omega)) (cwV 1 hts (jgoodV m_688 m_689 m_690 m_677 m_691) rfl rfl rfl (by decide +kernel) ⟨(Nat.le_of_ble_eq_true rfl), (Nat.le_of_ble_eq_true rfl)⟩) ⟨xP_blind, xrecv hK hP q0 rfl rfl, fun U hU hW => ⟨rfl, xP_of hU hW hP hK hD hX hS (fun _ h => h) hA⟩⟩ rfl rfl hl.1 rfl (lv_room (Nat.le_of_ble_eq_true rfl)) dX7_readSum_69 ⟨(Nat.le_of_ble_eq_true rfl), (Nat.le_of_ble_eq_true rfl)⟩) hD hS hA (fun v_44 H locs w_42 hP hK hD hS => ?_)
              obtain ⟨I_46, f_45⟩ := w_42
              have hP : va_P (dC, dI) vwCl (xG L cid K N v_44) H := hP
              have hD : va_D A (xG L cid K N v_44) := hD
              refine lv_iinc (v := iI (a2_7 + 1)) (lv' := [(2, .int (iI (a2_7 + 1))), (3, .int (iI s0_57)), (0, .ref p0.toNat), (1, .int (iI p1))]) hx hb dX7_readSum_72 hl (k := 1) rfl (iI_add _ _) (by decide) rfl (fun ls hl => ?_)
              refine lv_goto (tgt := 7) hx hb dX7_readSum_75 (by decide) ?_
              exact ih7 (a2_7 + 1) v_44 H locs ls (by omega) (by omega) (fr_tr f_45 rfl (fr_tr f_39 rfl (fr_tr f_33 rfl (fr_tr f_11 rfl fr_rf)))) I_46 hP hD hS (lv_sub hl [0, 2, 3] rfl)
            refine xr_icmp_ne (tgt := 55) hx hb dX7_readSum_47 (by decide) (by omega) (by omega) (fun h_47 => ?_) (fun h_47 => ?_)
            · refine lv_bipush (v := iI (-12)) hx hb dX7_readSum_55 rfl ?_
              exact J57 (-12) H locs ls (by omega) hP hD hS hl
            · refine lv_bipush (v := iI (-11)) hx hb dX7_readSum_50 rfl ?_
              refine lv_goto (tgt := 57) hx hb dX7_readSum_52 (by decide) ?_
              exact J57 (-11) H locs ls (by omega) hP hD hS hl
          refine xr_icmp_eq (tgt := 41) hx hb dX7_readSum_29 (by decide) (by omega) (by omega) (fun h_48 => ?_) (fun h_48 => ?_)
          · exact J41 H locs ls hP hD hS hl
          · refine lv_aload_n hx hb dX7_readSum_32 rfl (lv_at hl 1 rfl) ?_
            refine jc_i (va_runV (As := []) (rest := []) ⟨hx, hb, hml, hown, hts⟩ (sX7_kind l dC dI _ L cid K N tW sK sV vc7 p0 I_12 q0) (cwV 0 hts (jgoodV m_674 m_675 m_676 m_677 m_678) rfl rfl rfl (by decide +kernel) ⟨(Nat.le_of_ble_eq_true rfl), (Nat.le_of_ble_eq_true rfl)⟩) ⟨xP_blind, xrecv hK hP q0 rfl rfl, fun U hU hW => ⟨rfl, xP_of hU hW hP hK hD hX hS (fun _ h => h) hA⟩⟩ rfl rfl hl.1 rfl (lv_room (Nat.le_of_ble_eq_true rfl)) dX7_readSum_33 ⟨(Nat.le_of_ble_eq_true rfl), (Nat.le_of_ble_eq_true rfl)⟩) hP hS hA (fun r_49 H locs w_50 hP hS => ?_)
            obtain ⟨z_51, rfl, h_52, h_53⟩ := w_50
            refine lv_bipush (v := iI 45) hx hb dX7_readSum_36 rfl ?_
            refine xr_icmp_ne (tgt := 78) hx hb dX7_readSum_38 (by decide) (by omega) (by omega) (fun h_54 => ?_) (fun h_54 => ?_)
            · rw [← hQ]
              exact W.vret hx hb hr (fun t ht hW => ⟨⟨vc7, rfl, ⟨I_12, (fr_tr f_11 rfl (fr_tr f_5 rfl fr_rf))⟩, by rw [ht]; exact hP, va_K.moved hW.alike hK, hD⟩, hS.F ht⟩) hS.2.2 dX7_readSum_78
            · exact J41 H locs ls hP hD hS hl
  exact L7 ((((v p0 1) - 0 : Int)).toNat + 1) 0 v_4 H locs ls (by omega) (by omega) fr_rf I_6 hP hD hS hl
