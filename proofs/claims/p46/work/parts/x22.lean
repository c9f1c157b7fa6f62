set_option maxHeartbeats 2000000 in
set_option maxRecDepth 100000 in
theorem sX7_readBoth_q7 (l : Launch) (dC : Nat → ClassId) (dI : Nat → Nat → Nat) (sz : Nat) (L : List Nat) (cid : Nat → ClassId) (K : Int → Nat) (N : Int → Int) (tW : Nat) (sK sV : Nat → Nat) (v : Int → Int → Int) (p0 : Int) (p1 : Int) (hI : xI L K N v) (q0 : ok L K p0 7) (q1 : rg p1) (k1 : 7 ≤ p1 ∧ p1 ≤ 7) : Met l yX7_readBoth (jk yX7_readBoth cX7_readBoth 3 none) ({ frames := 10, cells := 0, slots := 0, locals := 222 }) (va_Pc [.ref p0.toNat, .int (iI p1)] (xP (dC, dI) (xG L cid K N v) (xT cid) tW sK sV sz)) (va_Qv (fun (u : (Int → Int → Int)) => (xI L K N u) ∧ (fr K [(7, 7), (7, 8), (7, 10), (25, (-1))] u v)) (fun u t => va_P (dC, dI) vwCl (xG L cid K N u) t.heap ∧ va_K (dC, dI) vwCl (xT cid) t ∧ va_D (va_A (xG L cid K N v) sz) (xG L cid K N u)) (va_A (xG L cid K N v) sz)) 0 0 (va_A (xG L cid K N v) sz) := by
  refine Met.ofW (cc := cX7_readBoth) (maxL := 3) (ret := none) (by decide) rfl ?_
  intro p e s m args below meth c s₁ B hml hv
  obtain ⟨rfl, ⟨hsz, hP, hK, hD0⟩, hX⟩ := hv
  have hx := B.exec
  have hb := B.bytes
  have hr := B.returns
  have hts := atoms_spec (ws := (jk yX7_readBoth cX7_readBoth 3 none)) B.pre
  have hj : ∀ w ∈ jw, w.before ([.ref p0.toNat, .int (iI p1)] : List Value).toArray s = true := fun w h => hts w (jm h)
  have hown : s.vm.findClass RX7 = some m.cls := findClass_of_methodNamed B.named
  subst hsz
  have hD := hD0.self (sz := s.heap.size)
  generalize hAe : (va_A (xG L cid K N v) s.heap.size) = A at hD hX ⊢
  have hA : ∀ q : Nat, s.heap.size ≤ q → A q := fun q h => by rw [← hAe]; exact Or.inr h
  have hS : va_S A s.heap s.heap [] := va_S.rf
  have hXa := hX
  have hP : va_P (dC, dI) vwCl (xG L cid K N v) s.heap := hP
  have hl := lv_entry ([.ref p0.toNat, .int (iI p1)]) (n := 3) (Nat.le_of_ble_eq_true rfl)
  rw [lg_entry_eq]
  generalize (lg_sl ([.ref p0.toNat, .int (iI p1)]) ++ List.replicate (3 - (lg_sl ([.ref p0.toNat, .int (iI p1)])).length) Slot.unset).toArray = ls at hl ⊢
  have hl : lv_has ls 3 [(0, .ref p0.toNat), (1, .int (iI p1))] := hl
  generalize hQ : MQ below (va_Qv (fun (u : (Int → Int → Int)) => (xI L K N u) ∧ (fr K [(7, 7), (7, 8), (7, 10), (25, (-1))] u v)) (fun u t => va_P (dC, dI) vwCl (xG L cid K N u) t.heap ∧ va_K (dC, dI) vwCl (xT cid) t ∧ va_D A (xG L cid K N u)) A) ([.ref p0.toNat, .int (iI p1)] : List Value).toArray s 0 0 A = Q
  suffices ST : ∀ (H : Heap) (locs : List Loc), va_P (dC, dI) vwCl (xG L cid K N v) H → va_S A s.heap H locs → W p l e ({ frames := 10, cells := 0, slots := 0, locals := 222 }) s m ([.ref p0.toNat, .int (iI p1)] : List Value).toArray below meth c H locs 0 0 Q (F0 m 0 ls []) from ST _ _ hP hS
  clear hP hS
  intro H locs hP hS
  refine lv_aload_n hx hb dX7_readBoth_0 rfl (lv_at hl 0 rfl) ?_
  refine lv_iload_n hx hb dX7_readBoth_1 rfl (lv_at hl 1 rfl) ?_
  refine jcg_v (va_runV (As := [.int (iI p1)]) (rest := []) ⟨hx, hb, hml, hown, hts⟩ (sX7_readBasic_q7 l dC dI _ L cid K N tW sK sV v p0 p1 hI q0 (by omega) (by omega)) (cwV 1 hts (jgoodV m_716 m_717 m_718 m_677 m_719) rfl rfl rfl (by decide +kernel) ⟨(Nat.le_of_ble_eq_true rfl), (Nat.le_of_ble_eq_true rfl)⟩) ⟨xP_blind, xrecv hK hP q0 rfl rfl, fun U hU hW => ⟨rfl, xP_of hU hW hP hK hD hX hS (fun _ h => h) hA⟩⟩ rfl rfl hl.1 rfl (lv_room (Nat.le_of_ble_eq_true rfl)) dX7_readBoth_2 ⟨(Nat.le_of_ble_eq_true rfl), (Nat.le_of_ble_eq_true rfl)⟩) hD hS hA (fun v_4 H locs w_2 hP hK hD hS => ?_)
  obtain ⟨I_6, f_5⟩ := w_2
  have hP : va_P (dC, dI) vwCl (xG L cid K N v_4) H := hP
  have hD : va_D A (xG L cid K N v_4) := hD
  refine lv_iconst (v := iI 0) hx hb dX7_readBoth_5 rfl ?_
  refine lv_istore_n (i := 2) (lv' := [(2, .int (iI 0)), (0, .ref p0.toNat), (1, .int (iI p1))]) hx hb dX7_readBoth_6 rfl hl (by decide) rfl (fun ls hl => ?_)
  have L7 : ∀ (n7 : Nat) (a2_7 : Int) (vc7 : Int → Int → Int) (H : Heap) (locs : List Loc) (ls : Array Slot), (0 ≤ a2_7 ∧ a2_7 ≤ 2147483647) → (0 < (n7 : Int) ∧ (v p0 1) - a2_7 < (n7 : Int)) → fr K [(7, 7), (7, 8), (7, 10), (25, (-1))] vc7 v_4 → xI L K N vc7 → va_P (dC, dI) vwCl (xG L cid K N vc7) H → va_D A (xG L cid K N vc7) → va_S A s.heap H locs → lv_has ls 3 [(2, .int (iI a2_7)), (0, .ref p0.toNat), (1, .int (iI p1))] → W p l e ({ frames := 10, cells := 0, slots := 0, locals := 222 }) s m ([.ref p0.toNat, .int (iI p1)] : List Value).toArray below meth c H locs 0 0 Q (F0 m 7 ls []) := by
    intro n7
    induction n7 with
    | zero =>
      intro a2_7 vc7 H locs ls h_7 hm7 f_8 I_9 hP hD hS hl
      exfalso; omega
    | succ n7 ih7 =>
      intro a2_7 vc7 H locs ls h_10 hm7 f_11 I_12 hP hD hS hl
      refine lv_iload_n hx hb dX7_readBoth_7 rfl (lv_at hl 0 rfl) ?_
      refine lv_aload_n hx hb dX7_readBoth_8 rfl (lv_at hl 1 rfl) ?_
      have h_13 : 0 ≤ v p0 1 ∧ v p0 1 ≤ 600 := xf_7_1 hI q0
      refine gx_RX7_43 (y := v p0 1) hx hb hj hown hK hP q0 (((fr_use q0 f_11 rfl)).trans (fr_use q0 f_5 rfl)) dX7_readBoth_9 ?_
      refine xr_icmp_ge (tgt := 53) hx hb dX7_readBoth_12 (by decide) (by omega) (by omega) (fun h_14 => ?_) (fun h_14 => ?_)
      · rw [← hQ]
        exact W.vret hx hb hr (fun t ht hW => ⟨⟨vc7, rfl, ⟨I_12, (fr_tr f_11 rfl (fr_tr f_5 rfl fr_rf))⟩, by rw [ht]; exact hP, va_K.moved hW.alike hK, hD⟩, hS.F ht⟩) hS.2.2 dX7_readBoth_53
      · refine lv_aload_n hx hb dX7_readBoth_15 rfl (lv_at hl 1 rfl) ?_
        have h_15 : (-2147483648) ≤ vc7 p0 8 ∧ vc7 p0 8 ≤ 2147483647 := xf_7_8 I_12 q0
        refine gx_RX7_50 (y := vc7 p0 8) hx hb hj hown hK hP q0 rfl dX7_readBoth_16 ?_
        refine lv_iconst (v := iI (-1)) hx hb dX7_readBoth_19 rfl ?_
        refine xr_icmp_ne (tgt := 53) hx hb dX7_readBoth_20 (by decide) (by omega) (by omega) (fun h_16 => ?_) (fun h_16 => ?_)
        · rw [← hQ]
          exact W.vret hx hb hr (fun t ht hW => ⟨⟨vc7, rfl, ⟨I_12, (fr_tr f_11 rfl (fr_tr f_5 rfl fr_rf))⟩, by rw [ht]; exact hP, va_K.moved hW.alike hK, hD⟩, hS.F ht⟩) hS.2.2 dX7_readBoth_53
        · refine lv_aload_n hx hb dX7_readBoth_23 rfl (lv_at hl 1 rfl) ?_
          refine jc_i (va_runV (As := []) (rest := []) ⟨hx, hb, hml, hown, hts⟩ (sX7_word l dC dI _ L cid K N tW sK sV vc7 p0 I_12 q0) (cwV 0 hts (jgoodV m_679 m_680 m_681 m_677 m_682) rfl rfl rfl (by decide +kernel) ⟨(Nat.le_of_ble_eq_true rfl), (Nat.le_of_ble_eq_true rfl)⟩) ⟨xP_blind, xrecv hK hP q0 rfl rfl, fun U hU hW => ⟨rfl, xP_of hU hW hP hK hD hX hS (fun _ h => h) hA⟩⟩ rfl rfl hl.1 rfl (lv_room (Nat.le_of_ble_eq_true rfl)) dX7_readBoth_24 ⟨(Nat.le_of_ble_eq_true rfl), (Nat.le_of_ble_eq_true rfl)⟩) hP hS hA (fun r_17 H locs w_18 hP hS => ?_)
          obtain ⟨z_19, rfl, h_20, h_21⟩ := w_18
          have h_22 : (-2147483648) ≤ vc7 p0 7 ∧ vc7 p0 7 ≤ 2147483647 := xf_7_7 I_12 q0
          refine lv_bipush (v := iI 26) hx hb dX7_readBoth_27 rfl ?_
          refine xr_icmp_ne (tgt := 53) hx hb dX7_readBoth_29 (by decide) (by omega) (by omega) (fun h_23 => ?_) (fun h_23 => ?_)
          · rw [← hQ]
            exact W.vret hx hb hr (fun t ht hW => ⟨⟨vc7, rfl, ⟨I_12, (fr_tr f_11 rfl (fr_tr f_5 rfl fr_rf))⟩, by rw [ht]; exact hP, va_K.moved hW.alike hK, hD⟩, hS.F ht⟩) hS.2.2 dX7_readBoth_53
          · refine lv_aload_n hx hb dX7_readBoth_32 rfl (lv_at hl 1 rfl) ?_
            refine jcg_v (va_runV (As := []) (rest := []) ⟨hx, hb, hml, hown, hts⟩ (sX7_advance l dC dI _ L cid K N tW sK sV vc7 p0 I_12 q0) (cwV 0 hts (jgoodV m_692 m_693 m_694 m_677 m_695) rfl rfl rfl (by decide +kernel) ⟨(Nat.le_of_ble_eq_true rfl), (Nat.le_of_ble_eq_true rfl)⟩) ⟨xP_blind, xrecv hK hP q0 rfl rfl, fun U hU hW => ⟨rfl, xP_of hU hW hP hK hD hX hS (fun _ h => h) hA⟩⟩ rfl rfl hl.1 rfl (lv_room (Nat.le_of_ble_eq_true rfl)) dX7_readBoth_33 ⟨(Nat.le_of_ble_eq_true rfl), (Nat.le_of_ble_eq_true rfl)⟩) hD hS hA (fun v_27 H locs w_25 hP hK hD hS => ?_)
            obtain ⟨I_29, f_28⟩ := w_25
            have hP : va_P (dC, dI) vwCl (xG L cid K N v_27) H := hP
            have hD : va_D A (xG L cid K N v_27) := hD
            refine lv_aload_n hx hb dX7_readBoth_36 rfl (lv_at hl 1 rfl) ?_
            refine lv_iload_n hx hb dX7_readBoth_37 rfl (lv_at hl 2 rfl) ?_
            refine jcg_v (va_runV (As := [.int (iI p1)]) (rest := []) ⟨hx, hb, hml, hown, hts⟩ (sX7_readBasic_q7 l dC dI _ L cid K N tW sK sV v_27 p0 p1 I_29 q0 (by omega) (by omega)) (cwV 1 hts (jgoodV m_716 m_717 m_718 m_677 m_719) rfl rfl rfl (by decide +kernel) ⟨(Nat.le_of_ble_eq_true rfl), (Nat.le_of_ble_eq_true rfl)⟩) ⟨xP_blind, xrecv hK hP q0 rfl rfl, fun U hU hW => ⟨rfl, xP_of hU hW hP hK hD hX hS (fun _ h => h) hA⟩⟩ rfl rfl hl.1 rfl (lv_room (Nat.le_of_ble_eq_true rfl)) dX7_readBoth_38 ⟨(Nat.le_of_ble_eq_true rfl), (Nat.le_of_ble_eq_true rfl)⟩) hD hS hA (fun v_33 H locs w_31 hP hK hD hS => ?_)
            obtain ⟨I_35, f_34⟩ := w_31
            have hP : va_P (dC, dI) vwCl (xG L cid K N v_33) H := hP
            have hD : va_D A (xG L cid K N v_33) := hD
            refine lv_aload_n hx hb dX7_readBoth_41 rfl (lv_at hl 1 rfl) ?_
            refine lv_bipush (v := iI (-18)) hx hb dX7_readBoth_42 rfl ?_
            refine jcg_v (va_runV (As := [.int (iI (-18))]) (rest := []) ⟨hx, hb, hml, hown, hts⟩ (sX7_emit l dC dI _ L cid K N tW sK sV v_33 p0 (-18) I_35 q0 (by omega)) (cwV 1 hts (jgoodV m_688 m_689 m_690 m_677 m_691) rfl rfl rfl (by decide +kernel) ⟨(Nat.le_of_ble_eq_true rfl), (Nat.le_of_ble_eq_true rfl)⟩) ⟨xP_blind, xrecv hK hP q0 rfl rfl, fun U hU hW => ⟨rfl, xP_of hU hW hP hK hD hX hS (fun _ h => h) hA⟩⟩ rfl rfl hl.1 rfl (lv_room (Nat.le_of_ble_eq_true rfl)) dX7_readBoth_44 ⟨(Nat.le_of_ble_eq_true rfl), (Nat.le_of_ble_eq_true rfl)⟩) hD hS hA (fun v_39 H locs w_37 hP hK hD hS => ?_)
            obtain ⟨I_41, f_40⟩ := w_37
            have hP : va_P (dC, dI) vwCl (xG L cid K N v_39) H := hP
            have hD : va_D A (xG L cid K N v_39) := hD
            refine lv_iinc (v := iI (a2_7 + 1)) (lv' := [(2, .int (iI (a2_7 + 1))), (0, .ref p0.toNat), (1, .int (iI p1))]) hx hb dX7_readBoth_47 hl (k := 0) rfl (iI_add _ _) (by decide) rfl (fun ls hl => ?_)
            refine lv_goto (tgt := 7) hx hb dX7_readBoth_50 (by decide) ?_
            exact ih7 (a2_7 + 1) v_39 H locs ls (by omega) (by omega) (fr_tr f_40 rfl (fr_tr f_34 rfl (fr_tr f_28 rfl (fr_tr f_11 rfl fr_rf)))) I_41 hP hD hS hl
  exact L7 ((((v p0 1) - 0 : Int)).toNat + 1) 0 v_4 H locs ls (by omega) (by omega) fr_rf I_6 hP hD hS hl
set_option maxHeartbeats 2000000 in
set_option maxRecDepth 100000 in
theorem sX7_readEither_q7 (l : Launch) (dC : Nat → ClassId) (dI : Nat → Nat → Nat) (sz : Nat) (L : List Nat) (cid : Nat → ClassId) (K : Int → Nat) (N : Int → Int) (tW : Nat) (sK sV : Nat → Nat) (v : Int → Int → Int) (p0 : Int) (p1 : Int) (hI : xI L K N v) (q0 : ok L K p0 7) (q1 : rg p1) (k1 : 7 ≤ p1 ∧ p1 ≤ 7) : Met l yX7_readEither (jk yX7_readEither cX7_readEither 3 none) ({ frames := 11, cells := 0, slots := 0, locals := 244 }) (va_Pc [.ref p0.toNat, .int (iI p1)] (xP (dC, dI) (xG L cid K N v) (xT cid) tW sK sV sz)) (va_Qv (fun (u : (Int → Int → Int)) => (xI L K N u) ∧ (fr K [(7, 7), (7, 8), (7, 10), (25, (-1))] u v)) (fun u t => va_P (dC, dI) vwCl (xG L cid K N u) t.heap ∧ va_K (dC, dI) vwCl (xT cid) t ∧ va_D (va_A (xG L cid K N v) sz) (xG L cid K N u)) (va_A (xG L cid K N v) sz)) 0 0 (va_A (xG L cid K N v) sz) := by
  refine Met.ofW (cc := cX7_readEither) (maxL := 3) (ret := none) (by decide) rfl ?_
  intro p e s m args below meth c s₁ B hml hv
  obtain ⟨rfl, ⟨hsz, hP, hK, hD0⟩, hX⟩ := hv
  have hx := B.exec
  have hb := B.bytes
  have hr := B.returns
  have hts := atoms_spec (ws := (jk yX7_readEither cX7_readEither 3 none)) B.pre
  have hj : ∀ w ∈ jw, w.before ([.ref p0.toNat, .int (iI p1)] : List Value).toArray s = true := fun w h => hts w (jm h)
  have hown : s.vm.findClass RX7 = some m.cls := findClass_of_methodNamed B.named
  subst hsz
  have hD := hD0.self (sz := s.heap.size)
  generalize hAe : (va_A (xG L cid K N v) s.heap.size) = A at hD hX ⊢
  have hA : ∀ q : Nat, s.heap.size ≤ q → A q := fun q h => by rw [← hAe]; exact Or.inr h
  have hS : va_S A s.heap s.heap [] := va_S.rf
  have hXa := hX
  have hP : va_P (dC, dI) vwCl (xG L cid K N v) s.heap := hP
  have hl := lv_entry ([.ref p0.toNat, .int (iI p1)]) (n := 3) (Nat.le_of_ble_eq_true rfl)
  rw [lg_entry_eq]
  generalize (lg_sl ([.ref p0.toNat, .int (iI p1)]) ++ List.replicate (3 - (lg_sl ([.ref p0.toNat, .int (iI p1)])).length) Slot.unset).toArray = ls at hl ⊢
  have hl : lv_has ls 3 [(0, .ref p0.toNat), (1, .int (iI p1))] := hl
  generalize hQ : MQ below (va_Qv (fun (u : (Int → Int → Int)) => (xI L K N u) ∧ (fr K [(7, 7), (7, 8), (7, 10), (25, (-1))] u v)) (fun u t => va_P (dC, dI) vwCl (xG L cid K N u) t.heap ∧ va_K (dC, dI) vwCl (xT cid) t ∧ va_D A (xG L cid K N u)) A) ([.ref p0.toNat, .int (iI p1)] : List Value).toArray s 0 0 A = Q
  suffices ST : ∀ (H : Heap) (locs : List Loc), va_P (dC, dI) vwCl (xG L cid K N v) H → va_S A s.heap H locs → W p l e ({ frames := 11, cells := 0, slots := 0, locals := 244 }) s m ([.ref p0.toNat, .int (iI p1)] : List Value).toArray below meth c H locs 0 0 Q (F0 m 0 ls []) from ST _ _ hP hS
  clear hP hS
  intro H locs hP hS
  refine lv_aload_n hx hb dX7_readEither_0 rfl (lv_at hl 0 rfl) ?_
  refine lv_iload_n hx hb dX7_readEither_1 rfl (lv_at hl 1 rfl) ?_
  refine jcg_v (va_runV (As := [.int (iI p1)]) (rest := []) ⟨hx, hb, hml, hown, hts⟩ (sX7_readBoth_q7 l dC dI _ L cid K N tW sK sV v p0 p1 hI q0 (by omega) (by omega)) (cwV 1 hts (jgoodV m_720 m_721 m_722 m_677 m_723) rfl rfl rfl (by decide +kernel) ⟨(Nat.le_of_ble_eq_true rfl), (Nat.le_of_ble_eq_true rfl)⟩) ⟨xP_blind, xrecv hK hP q0 rfl rfl, fun U hU hW => ⟨rfl, xP_of hU hW hP hK hD hX hS (fun _ h => h) hA⟩⟩ rfl rfl hl.1 rfl (lv_room (Nat.le_of_ble_eq_true rfl)) dX7_readEither_2 ⟨(Nat.le_of_ble_eq_true rfl), (Nat.le_of_ble_eq_true rfl)⟩) hD hS hA (fun v_4 H locs w_2 hP hK hD hS => ?_)
  obtain ⟨I_6, f_5⟩ := w_2
  have hP : va_P (dC, dI) vwCl (xG L cid K N v_4) H := hP
  have hD : va_D A (xG L cid K N v_4) := hD
  refine lv_iconst (v := iI 0) hx hb dX7_readEither_5 rfl ?_
  refine lv_istore_n (i := 2) (lv' := [(2, .int (iI 0)), (0, .ref p0.toNat), (1, .int (iI p1))]) hx hb dX7_readEither_6 rfl hl (by decide) rfl (fun ls hl => ?_)
  have L7 : ∀ (n7 : Nat) (a2_7 : Int) (vc7 : Int → Int → Int) (H : Heap) (locs : List Loc) (ls : Array Slot), (0 ≤ a2_7 ∧ a2_7 ≤ 2147483647) → (0 < (n7 : Int) ∧ (v p0 1) - a2_7 < (n7 : Int)) → fr K [(7, 7), (7, 8), (7, 10), (25, (-1))] vc7 v_4 → xI L K N vc7 → va_P (dC, dI) vwCl (xG L cid K N vc7) H → va_D A (xG L cid K N vc7) → va_S A s.heap H locs → lv_has ls 3 [(2, .int (iI a2_7)), (0, .ref p0.toNat), (1, .int (iI p1))] → W p l e ({ frames := 11, cells := 0, slots := 0, locals := 244 }) s m ([.ref p0.toNat, .int (iI p1)] : List Value).toArray below meth c H locs 0 0 Q (F0 m 7 ls []) := by
    intro n7
    induction n7 with
    | zero =>
      intro a2_7 vc7 H locs ls h_7 hm7 f_8 I_9 hP hD hS hl
      exfalso; omega
    | succ n7 ih7 =>
      intro a2_7 vc7 H locs ls h_10 hm7 f_11 I_12 hP hD hS hl
      refine lv_iload_n hx hb dX7_readEither_7 rfl (lv_at hl 0 rfl) ?_
      refine lv_aload_n hx hb dX7_readEither_8 rfl (lv_at hl 1 rfl) ?_
      have h_13 : 0 ≤ v p0 1 ∧ v p0 1 ≤ 600 := xf_7_1 hI q0
      refine gx_RX7_43 (y := v p0 1) hx hb hj hown hK hP q0 (((fr_use q0 f_11 rfl)).trans (fr_use q0 f_5 rfl)) dX7_readEither_9 ?_
      refine xr_icmp_ge (tgt := 53) hx hb dX7_readEither_12 (by decide) (by omega) (by omega) (fun h_14 => ?_) (fun h_14 => ?_)
      · rw [← hQ]
        exact W.vret hx hb hr (fun t ht hW => ⟨⟨vc7, rfl, ⟨I_12, (fr_tr f_11 rfl (fr_tr f_5 rfl fr_rf))⟩, by rw [ht]; exact hP, va_K.moved hW.alike hK, hD⟩, hS.F ht⟩) hS.2.2 dX7_readEither_53
      · refine lv_aload_n hx hb dX7_readEither_15 rfl (lv_at hl 1 rfl) ?_
        have h_15 : (-2147483648) ≤ vc7 p0 8 ∧ vc7 p0 8 ≤ 2147483647 := xf_7_8 I_12 q0
        refine gx_RX7_50 (y := vc7 p0 8) hx hb hj hown hK hP q0 rfl dX7_readEither_16 ?_
        refine lv_iconst (v := iI (-1)) hx hb dX7_readEither_19 rfl ?_
        refine xr_icmp_ne (tgt := 53) hx hb dX7_readEither_20 (by decide) (by omega) (by omega) (fun h_16 => ?_) (fun h_16 => ?_)
        · rw [← hQ]
          exact W.vret hx hb hr (fun t ht hW => ⟨⟨vc7, rfl, ⟨I_12, (fr_tr f_11 rfl (fr_tr f_5 rfl fr_rf))⟩, by rw [ht]; exact hP, va_K.moved hW.alike hK, hD⟩, hS.F ht⟩) hS.2.2 dX7_readEither_53
        · refine lv_aload_n hx hb dX7_readEither_23 rfl (lv_at hl 1 rfl) ?_
          refine jc_i (va_runV (As := []) (rest := []) ⟨hx, hb, hml, hown, hts⟩ (sX7_word l dC dI _ L cid K N tW sK sV vc7 p0 I_12 q0) (cwV 0 hts (jgoodV m_679 m_680 m_681 m_677 m_682) rfl rfl rfl (by decide +kernel) ⟨(Nat.le_of_ble_eq_true rfl), (Nat.le_of_ble_eq_true rfl)⟩) ⟨xP_blind, xrecv hK hP q0 rfl rfl, fun U hU hW => ⟨rfl, xP_of hU hW hP hK hD hX hS (fun _ h => h) hA⟩⟩ rfl rfl hl.1 rfl (lv_room (Nat.le_of_ble_eq_true rfl)) dX7_readEither_24 ⟨(Nat.le_of_ble_eq_true rfl), (Nat.le_of_ble_eq_true rfl)⟩) hP hS hA (fun r_17 H locs w_18 hP hS => ?_)
          obtain ⟨z_19, rfl, h_20, h_21⟩ := w_18
          have h_22 : (-2147483648) ≤ vc7 p0 7 ∧ vc7 p0 7 ≤ 2147483647 := xf_7_7 I_12 q0
          refine lv_bipush (v := iI 25) hx hb dX7_readEither_27 rfl ?_
          refine xr_icmp_ne (tgt := 53) hx hb dX7_readEither_29 (by decide) (by omega) (by omega) (fun h_23 => ?_) (fun h_23 => ?_)
          · rw [← hQ]
            exact W.vret hx hb hr (fun t ht hW => ⟨⟨vc7, rfl, ⟨I_12, (fr_tr f_11 rfl (fr_tr f_5 rfl fr_rf))⟩, by rw [ht]; exact hP, va_K.moved hW.alike hK, hD⟩, hS.F ht⟩) hS.2.2 dX7_readEither_53
          · refine lv_aload_n hx hb dX7_readEither_32 rfl (lv_at hl 1 rfl) ?_
            refine jcg_v (va_runV (As := []) (rest := []) ⟨hx, hb, hml, hown, hts⟩ (sX7_advance l dC dI _ L cid K N tW sK sV vc7 p0 I_12 q0) (cwV 0 hts (jgoodV m_692 m_693 m_694 m_677 m_695) rfl rfl rfl (by decide +kernel) ⟨(Nat.le_of_ble_eq_true rfl), (Nat.le_of_ble_eq_true rfl)⟩) ⟨xP_blind, xrecv hK hP q0 rfl rfl, fun U hU hW => ⟨rfl, xP_of hU hW hP hK hD hX hS (fun _ h => h) hA⟩⟩ rfl rfl hl.1 rfl (lv_room (Nat.le_of_ble_eq_true rfl)) dX7_readEither_33 ⟨(Nat.le_of_ble_eq_true rfl), (Nat.le_of_ble_eq_true rfl)⟩) hD hS hA (fun v_27 H locs w_25 hP hK hD hS => ?_)
            obtain ⟨I_29, f_28⟩ := w_25
            have hP : va_P (dC, dI) vwCl (xG L cid K N v_27) H := hP
            have hD : va_D A (xG L cid K N v_27) := hD
            refine lv_aload_n hx hb dX7_readEither_36 rfl (lv_at hl 1 rfl) ?_
            refine lv_iload_n hx hb dX7_readEither_37 rfl (lv_at hl 2 rfl) ?_
            refine jcg_v (va_runV (As := [.int (iI p1)]) (rest := []) ⟨hx, hb, hml, hown, hts⟩ (sX7_readBoth_q7 l dC dI _ L cid K N tW sK sV v_27 p0 p1 I_29 q0 (by omega) (by omega)) (cwV 1 hts (jgoodV m_720 m_721 m_722 m_677 m_723) rfl rfl rfl (by decide +kernel) ⟨(Nat.le_of_ble_eq_true rfl), (Nat.le_of_ble_eq_true rfl)⟩) ⟨xP_blind, xrecv hK hP q0 rfl rfl, fun U hU hW => ⟨rfl, xP_of hU hW hP hK hD hX hS (fun _ h => h) hA⟩⟩ rfl rfl hl.1 rfl (lv_room (Nat.le_of_ble_eq_true rfl)) dX7_readEither_38 ⟨(Nat.le_of_ble_eq_true rfl), (Nat.le_of_ble_eq_true rfl)⟩) hD hS hA (fun v_33 H locs w_31 hP hK hD hS => ?_)
            obtain ⟨I_35, f_34⟩ := w_31
            have hP : va_P (dC, dI) vwCl (xG L cid K N v_33) H := hP
            have hD : va_D A (xG L cid K N v_33) := hD
            refine lv_aload_n hx hb dX7_readEither_41 rfl (lv_at hl 1 rfl) ?_
            refine lv_bipush (v := iI (-19)) hx hb dX7_readEither_42 rfl ?_
            refine jcg_v (va_runV (As := [.int (iI (-19))]) (rest := []) ⟨hx, hb, hml, hown, hts⟩ (sX7_emit l dC dI _ L cid K N tW sK sV v_33 p0 (-19) I_35 q0 (by omega)) (cwV 1 hts (jgoodV m_688 m_689 m_690 m_677 m_691) rfl rfl rfl (by decide +kernel) ⟨(Nat.le_of_ble_eq_true rfl), (Nat.le_of_ble_eq_true rfl)⟩) ⟨xP_blind, xrecv hK hP q0 rfl rfl, fun U hU hW => ⟨rfl, xP_of hU hW hP hK hD hX hS (fun _ h => h) hA⟩⟩ rfl rfl hl.1 rfl (lv_room (Nat.le_of_ble_eq_true rfl)) dX7_readEither_44 ⟨(Nat.le_of_ble_eq_true rfl), (Nat.le_of_ble_eq_true rfl)⟩) hD hS hA (fun v_39 H locs w_37 hP hK hD hS => ?_)
            obtain ⟨I_41, f_40⟩ := w_37
            have hP : va_P (dC, dI) vwCl (xG L cid K N v_39) H := hP
            have hD : va_D A (xG L cid K N v_39) := hD
            refine lv_iinc (v := iI (a2_7 + 1)) (lv' := [(2, .int (iI (a2_7 + 1))), (0, .ref p0.toNat), (1, .int (iI p1))]) hx hb dX7_readEither_47 hl (k := 0) rfl (iI_add _ _) (by decide) rfl (fun ls hl => ?_)
            refine lv_goto (tgt := 7) hx hb dX7_readEither_50 (by decide) ?_
            exact ih7 (a2_7 + 1) v_39 H locs ls (by omega) (by omega) (fr_tr f_40 rfl (fr_tr f_34 rfl (fr_tr f_28 rfl (fr_tr f_11 rfl fr_rf)))) I_41 hP hD hS hl
  exact L7 ((((v p0 1) - 0 : Int)).toNat + 1) 0 v_4 H locs ls (by omega) (by omega) fr_rf I_6 hP hD hS hl
set_option maxHeartbeats 2000000 in
set_option maxRecDepth 100000 in
theorem sX7_readBasic_q6 (l : Launch) (dC : Nat → ClassId) (dI : Nat → Nat → Nat) (sz : Nat) (L : List Nat) (cid : Nat → ClassId) (K : Int → Nat) (N : Int → Int) (tW : Nat) (sK sV : Nat → Nat) (v : Int → Int → Int) (p0 : Int) (p1 : Int) (hI : xI L K N v) (q0 : ok L K p0 7) (q1 : rg p1) (k1 : 6 ≤ p1 ∧ p1 ≤ 6) : Met l yX7_readBasic (jk yX7_readBasic cX7_readBasic 3 none) ({ frames := 12, cells := 0, slots := 0, locals := 269 }) (va_Pc [.ref p0.toNat, .int (iI p1)] (xP (dC, dI) (xG L cid K N v) (xT cid) tW sK sV sz)) (va_Qv (fun (u : (Int → Int → Int)) => (xI L K N u) ∧ (fr K [(7, 7), (7, 8), (7, 10), (25, (-1))] u v)) (fun u t => va_P (dC, dI) vwCl (xG L cid K N u) t.heap ∧ va_K (dC, dI) vwCl (xT cid) t ∧ va_D (va_A (xG L cid K N v) sz) (xG L cid K N u)) (va_A (xG L cid K N v) sz)) 0 0 (va_A (xG L cid K N v) sz) := by
  refine Met.ofW (cc := cX7_readBasic) (maxL := 3) (ret := none) (by decide) rfl ?_
  intro p e s m args below meth c s₁ B hml hv
  obtain ⟨rfl, ⟨hsz, hP, hK, hD0⟩, hX⟩ := hv
  have hx := B.exec
  have hb := B.bytes
  have hr := B.returns
  have hts := atoms_spec (ws := (jk yX7_readBasic cX7_readBasic 3 none)) B.pre
  have hj : ∀ w ∈ jw, w.before ([.ref p0.toNat, .int (iI p1)] : List Value).toArray s = true := fun w h => hts w (jm h)
  have hown : s.vm.findClass RX7 = some m.cls := findClass_of_methodNamed B.named
  subst hsz
  have hD := hD0.self (sz := s.heap.size)
  generalize hAe : (va_A (xG L cid K N v) s.heap.size) = A at hD hX ⊢
  have hA : ∀ q : Nat, s.heap.size ≤ q → A q := fun q h => by rw [← hAe]; exact Or.inr h
  have hS : va_S A s.heap s.heap [] := va_S.rf
  have hXa := hX
  have hP : va_P (dC, dI) vwCl (xG L cid K N v) s.heap := hP
  have hl := lv_entry ([.ref p0.toNat, .int (iI p1)]) (n := 3) (Nat.le_of_ble_eq_true rfl)
  rw [lg_entry_eq]
  generalize (lg_sl ([.ref p0.toNat, .int (iI p1)]) ++ List.replicate (3 - (lg_sl ([.ref p0.toNat, .int (iI p1)])).length) Slot.unset).toArray = ls at hl ⊢
  have hl : lv_has ls 3 [(0, .ref p0.toNat), (1, .int (iI p1))] := hl
  generalize hQ : MQ below (va_Qv (fun (u : (Int → Int → Int)) => (xI L K N u) ∧ (fr K [(7, 7), (7, 8), (7, 10), (25, (-1))] u v)) (fun u t => va_P (dC, dI) vwCl (xG L cid K N u) t.heap ∧ va_K (dC, dI) vwCl (xT cid) t ∧ va_D A (xG L cid K N u)) A) ([.ref p0.toNat, .int (iI p1)] : List Value).toArray s 0 0 A = Q
  suffices ST : ∀ (H : Heap) (locs : List Loc), va_P (dC, dI) vwCl (xG L cid K N v) H → va_S A s.heap H locs → W p l e ({ frames := 12, cells := 0, slots := 0, locals := 269 }) s m ([.ref p0.toNat, .int (iI p1)] : List Value).toArray below meth c H locs 0 0 Q (F0 m 0 ls []) from ST _ _ hP hS
  clear hP hS
  intro H locs hP hS
  refine lv_aload_n hx hb dX7_readBasic_0 rfl (lv_at hl 0 rfl) ?_
  refine jc_i (va_runV (As := []) (rest := []) ⟨hx, hb, hml, hown, hts⟩ (sX7_word l dC dI _ L cid K N tW sK sV v p0 hI q0) (cwV 0 hts (jgoodV m_679 m_680 m_681 m_677 m_682) rfl rfl rfl (by decide +kernel) ⟨(Nat.le_of_ble_eq_true rfl), (Nat.le_of_ble_eq_true rfl)⟩) ⟨xP_blind, xrecv hK hP q0 rfl rfl, fun U hU hW => ⟨rfl, xP_of hU hW hP hK hD hX hS (fun _ h => h) hA⟩⟩ rfl rfl hl.1 rfl (lv_room (Nat.le_of_ble_eq_true rfl)) dX7_readBasic_1 ⟨(Nat.le_of_ble_eq_true rfl), (Nat.le_of_ble_eq_true rfl)⟩) hP hS hA (fun r_1 H locs w_2 hP hS => ?_)
  obtain ⟨z_3, rfl, h_4, h_5⟩ := w_2
  have h_6 : (-2147483648) ≤ v p0 7 ∧ v p0 7 ≤ 2147483647 := xf_7_7 hI q0
  refine lv_bipush (v := iI 27) hx hb dX7_readBasic_4 rfl ?_
  have J14 : ∀ (s0_14 : Int) (H : Heap) (locs : List Loc) (ls : Array Slot), (0 ≤ s0_14 ∧ s0_14 ≤ 1) → va_P (dC, dI) vwCl (xG L cid K N v) H → va_D A (xG L cid K N v) → va_S A s.heap H locs → lv_has ls 3 [(0, .ref p0.toNat), (1, .int (iI p1))] → W p l e ({ frames := 12, cells := 0, slots := 0, locals := 269 }) s m ([.ref p0.toNat, .int (iI p1)] : List Value).toArray below meth c H locs 0 0 Q (F0 m 14 ls [.int (iI s0_14)]) := by
    intro s0_14 H locs ls h_7 hP hD hS hl
    refine lv_istore_n (i := 2) (lv' := [(2, .int (iI s0_14)), (0, .ref p0.toNat), (1, .int (iI p1))]) hx hb dX7_readBasic_14 rfl hl (by decide) rfl (fun ls hl => ?_)
    refine lv_iload_n hx hb dX7_readBasic_15 rfl (lv_at hl 0 rfl) ?_
    have J34 : ∀ (H : Heap) (locs : List Loc) (ls : Array Slot), va_P (dC, dI) vwCl (xG L cid K N v) H → va_D A (xG L cid K N v) → va_S A s.heap H locs → lv_has ls 3 [(2, .int (iI s0_14)), (0, .ref p0.toNat), (1, .int (iI p1))] → W p l e ({ frames := 12, cells := 0, slots := 0, locals := 269 }) s m ([.ref p0.toNat, .int (iI p1)] : List Value).toArray below meth c H locs 0 0 Q (F0 m 34 ls []) := by
      intro H locs ls hP hD hS hl
      refine lv_aload_n hx hb dX7_readBasic_34 rfl (lv_at hl 1 rfl) ?_
      have h_8 : (-2147483648) ≤ v p0 8 ∧ v p0 8 ≤ 2147483647 := xf_7_8 hI q0
      refine gx_RX7_50 (y := v p0 8) hx hb hj hown hK hP q0 rfl dX7_readBasic_35 ?_
      refine lv_iconst (v := iI (-1)) hx hb dX7_readBasic_38 rfl ?_
      refine xr_icmp_ne (tgt := 48) hx hb dX7_readBasic_39 (by decide) (by omega) (by omega) (fun h_9 => ?_) (fun h_9 => ?_)
      · refine lv_aload_n hx hb dX7_readBasic_48 rfl (lv_at hl 1 rfl) ?_
        refine jcg_v (va_runV (As := []) (rest := []) ⟨hx, hb, hml, hown, hts⟩ (sX7_refuse l dC dI _ L cid K N tW sK sV v p0 hI q0) (cwV 0 hts (jgoodV m_683 m_684 m_685 m_677 m_686) rfl rfl rfl (by decide +kernel) ⟨(Nat.le_of_ble_eq_true rfl), (Nat.le_of_ble_eq_true rfl)⟩) ⟨xP_blind, xrecv hK hP q0 rfl rfl, fun U hU hW => ⟨rfl, xP_of hU hW hP hK hD hX hS (fun _ h => h) hA⟩⟩ rfl rfl hl.1 rfl (lv_room (Nat.le_of_ble_eq_true rfl)) dX7_readBasic_49 ⟨(Nat.le_of_ble_eq_true rfl), (Nat.le_of_ble_eq_true rfl)⟩) hD hS hA (fun v_13 H locs w_11 hP hK hD hS => ?_)
        obtain ⟨I_15, f_14⟩ := w_11
        have hP : va_P (dC, dI) vwCl (xG L cid K N v_13) H := hP
        have hD : va_D A (xG L cid K N v_13) := hD
        rw [← hQ]
        exact W.vret hx hb hr (fun t ht hW => ⟨⟨v_13, rfl, ⟨I_15, (fr_tr f_14 rfl fr_rf)⟩, by rw [ht]; exact hP, va_K.moved hW.alike hK, hD⟩, hS.F ht⟩) hS.2.2 dX7_readBasic_52
      · refine lv_iload_n hx hb dX7_readBasic_42 rfl (lv_at hl 2 rfl) ?_
        refine lv_bipush (v := iI 8) hx hb dX7_readBasic_43 rfl ?_
        refine xr_icmp_lt (tgt := 53) hx hb dX7_readBasic_45 (by decide) (by omega) (by omega) (fun h_16 => ?_) (fun h_16 => ?_)
        · refine lv_aload_n hx hb dX7_readBasic_53 rfl (lv_at hl 1 rfl) ?_
          refine jcg_v (va_runV (As := []) (rest := []) ⟨hx, hb, hml, hown, hts⟩ (sX7_advance l dC dI _ L cid K N tW sK sV v p0 hI q0) (cwV 0 hts (jgoodV m_692 m_693 m_694 m_677 m_695) rfl rfl rfl (by decide +kernel) ⟨(Nat.le_of_ble_eq_true rfl), (Nat.le_of_ble_eq_true rfl)⟩) ⟨xP_blind, xrecv hK hP q0 rfl rfl, fun U hU hW => ⟨rfl, xP_of hU hW hP hK hD hX hS (fun _ h => h) hA⟩⟩ rfl rfl hl.1 rfl (lv_room (Nat.le_of_ble_eq_true rfl)) dX7_readBasic_54 ⟨(Nat.le_of_ble_eq_true rfl), (Nat.le_of_ble_eq_true rfl)⟩) hD hS hA (fun v_20 H locs w_18 hP hK hD hS => ?_)
          obtain ⟨I_22, f_21⟩ := w_18
          have hP : va_P (dC, dI) vwCl (xG L cid K N v_20) H := hP
          have hD : va_D A (xG L cid K N v_20) := hD
          refine lv_iload_n hx hb dX7_readBasic_57 rfl (lv_at hl 0 rfl) ?_
          refine xr_if_eq (tgt := 77) hx hb dX7_readBasic_58 (by decide) (by omega) (fun h_23 => ?_) (fun h_23 => ?_)
          · refine lv_aload_n hx hb dX7_readBasic_77 rfl (lv_at hl 1 rfl) ?_
            refine lv_iload_n hx hb dX7_readBasic_78 rfl (lv_at hl 2 rfl) ?_
            refine lv_iconst (v := iI 1) hx hb dX7_readBasic_79 rfl ?_
            refine xr_add hx hb dX7_readBasic_80 ?_
            refine jcg_v (va_runV (As := [.int (iI (p1 + 1))]) (rest := []) ⟨hx, hb, hml, hown, hts⟩ (sX7_readEither_q7 l dC dI _ L cid K N tW sK sV v_20 p0 (p1 + 1) I_22 q0 (by omega) (by omega)) (cwV 1 hts (jgoodV m_724 m_725 m_726 m_677 m_727) rfl rfl rfl (by decide +kernel) ⟨(Nat.le_of_ble_eq_true rfl), (Nat.le_of_ble_eq_true rfl)⟩) ⟨xP_blind, xrecv hK hP q0 rfl rfl, fun U hU hW => ⟨rfl, xP_of hU hW hP hK hD hX hS (fun _ h => h) hA⟩⟩ rfl rfl hl.1 rfl (lv_room (Nat.le_of_ble_eq_true rfl)) dX7_readBasic_81 ⟨(Nat.le_of_ble_eq_true rfl), (Nat.le_of_ble_eq_true rfl)⟩) hD hS hA (fun v_27 H locs w_25 hP hK hD hS => ?_)
            obtain ⟨I_29, f_28⟩ := w_25
            have hP : va_P (dC, dI) vwCl (xG L cid K N v_27) H := hP
            have hD : va_D A (xG L cid K N v_27) := hD
            refine lv_aload_n hx hb dX7_readBasic_84 rfl (lv_at hl 1 rfl) ?_
            refine lv_bipush (v := iI 93) hx hb dX7_readBasic_85 rfl ?_
            refine jcg_v (va_runV (As := [.int (iI 93)]) (rest := []) ⟨hx, hb, hml, hown, hts⟩ (sX7_expect l dC dI _ L cid K N tW sK sV v_27 p0 93 I_29 q0 (by omega)) (cwV 1 hts (jgoodV m_708 m_709 m_710 m_677 m_711) rfl rfl rfl (by decide +kernel) ⟨(Nat.le_of_ble_eq_true rfl), (Nat.le_of_ble_eq_true rfl)⟩) ⟨xP_blind, xrecv hK hP q0 rfl rfl, fun U hU hW => ⟨rfl, xP_of hU hW hP hK hD hX hS (fun _ h => h) hA⟩⟩ rfl rfl hl.1 rfl (lv_room (Nat.le_of_ble_eq_true rfl)) dX7_readBasic_87 ⟨(Nat.le_of_ble_eq_true rfl), (Nat.le_of_ble_eq_true rfl)⟩) hD hS hA (fun v_33 H locs w_31 hP hK hD hS => ?_)
            obtain ⟨I_35, f_34⟩ := w_31
            have hP : va_P (dC, dI) vwCl (xG L cid K N v_33) H := hP
            have hD : va_D A (xG L cid K N v_33) := hD
            rw [← hQ]
            exact W.vret hx hb hr (fun t ht hW => ⟨⟨v_33, rfl, ⟨I_35, (fr_tr f_34 rfl (fr_tr f_28 rfl (fr_tr f_21 rfl fr_rf)))⟩, by rw [ht]; exact hP, va_K.moved hW.alike hK, hD⟩, hS.F ht⟩) hS.2.2 dX7_readBasic_90
          · refine lv_aload_n hx hb dX7_readBasic_61 rfl (lv_at hl 1 rfl) ?_
            refine lv_iload_n hx hb dX7_readBasic_62 rfl (lv_at hl 2 rfl) ?_
            refine lv_iconst (v := iI 1) hx hb dX7_readBasic_63 rfl ?_
            refine xr_add hx hb dX7_readBasic_64 ?_
            refine jcg_v (va_runV (As := [.int (iI (p1 + 1))]) (rest := []) ⟨hx, hb, hml, hown, hts⟩ (sX7_readBasic_q7 l dC dI _ L cid K N tW sK sV v_20 p0 (p1 + 1) I_22 q0 (by omega) (by omega)) (cwV 1 hts (jgoodV m_716 m_717 m_718 m_677 m_719) rfl rfl rfl (by decide +kernel) ⟨(Nat.le_of_ble_eq_true rfl), (Nat.le_of_ble_eq_true rfl)⟩) ⟨xP_blind, xrecv hK hP q0 rfl rfl, fun U hU hW => ⟨rfl, xP_of hU hW hP hK hD hX hS (fun _ h => h) hA⟩⟩ rfl rfl hl.1 rfl (lv_room (Nat.le_of_ble_eq_true rfl)) dX7_readBasic_65 ⟨(Nat.le_of_ble_eq_true rfl), (Nat.le_of_ble_eq_true rfl)⟩) hD hS hA (fun v_39 H locs w_37 hP hK hD hS => ?_)
            obtain ⟨I_41, f_40⟩ := w_37
            have hP : va_P (dC, dI) vwCl (xG L cid K N v_39) H := hP
            have hD : va_D A (xG L cid K N v_39) := hD
            refine lv_aload_n hx hb dX7_readBasic_68 rfl (lv_at hl 1 rfl) ?_
            refine lv_bipush (v := iI (-20)) hx hb dX7_readBasic_69 rfl ?_
            refine jcg_v (va_runV (As := [.int (iI (-20))]) (rest := []) ⟨hx, hb, hml, hown, hts⟩ (sX7_emit l dC dI _ L cid K N tW sK sV v_39 p0 (-20) I_41 q0 (by omega)) (cwV 1 hts (jgoodV m_688 m_689 m_690 m_677 m_691) rfl rfl rfl (by decide +kernel) ⟨(Nat.le_of_ble_eq_true rfl), (Nat.le_of_ble_eq_true rfl)⟩) ⟨xP_blind, xrecv hK hP q0 rfl rfl, fun U hU hW => ⟨rfl, xP_of hU hW hP hK hD hX hS (fun _ h => h) hA⟩⟩ rfl rfl hl.1 rfl (lv_room (Nat.le_of_ble_eq_true rfl)) dX7_readBasic_71 ⟨(Nat.le_of_ble_eq_true rfl), (Nat.le_of_ble_eq_true rfl)⟩) hD hS hA (fun v_45 H locs w_43 hP hK hD hS => ?_)
            obtain ⟨I_47, f_46⟩ := w_43
            have hP : va_P (dC, dI) vwCl (xG L cid K N v_45) H := hP
            have hD : va_D A (xG L cid K N v_45) := hD
            refine lv_goto (tgt := 90) hx hb dX7_readBasic_74 (by decide) ?_
            rw [← hQ]
            exact W.vret hx hb hr (fun t ht hW => ⟨⟨v_45, rfl, ⟨I_47, (fr_tr f_46 rfl (fr_tr f_40 rfl (fr_tr f_21 rfl fr_rf)))⟩, by rw [ht]; exact hP, va_K.moved hW.alike hK, hD⟩, hS.F ht⟩) hS.2.2 dX7_readBasic_90
        · exfalso; omega
    refine xr_if_ne (tgt := 34) hx hb dX7_readBasic_16 (by decide) (by omega) (fun h_48 => ?_) (fun h_48 => ?_)
    · exact J34 H locs ls hP hD hS hl
    · refine lv_aload_n hx hb dX7_readBasic_19 rfl (lv_at hl 1 rfl) ?_
      refine jc_i (va_runV (As := []) (rest := []) ⟨hx, hb, hml, hown, hts⟩ (sX7_kind l dC dI _ L cid K N tW sK sV v p0 hI q0) (cwV 0 hts (jgoodV m_674 m_675 m_676 m_677 m_678) rfl rfl rfl (by decide +kernel) ⟨(Nat.le_of_ble_eq_true rfl), (Nat.le_of_ble_eq_true rfl)⟩) ⟨xP_blind, xrecv hK hP q0 rfl rfl, fun U hU hW => ⟨rfl, xP_of hU hW hP hK hD hX hS (fun _ h => h) hA⟩⟩ rfl rfl hl.1 rfl (lv_room (Nat.le_of_ble_eq_true rfl)) dX7_readBasic_20 ⟨(Nat.le_of_ble_eq_true rfl), (Nat.le_of_ble_eq_true rfl)⟩) hP hS hA (fun r_49 H locs w_50 hP hS => ?_)
      obtain ⟨z_51, rfl, h_52, h_53⟩ := w_50
      refine lv_bipush (v := iI 91) hx hb dX7_readBasic_23 rfl ?_
      refine xr_icmp_eq (tgt := 34) hx hb dX7_readBasic_25 (by decide) (by omega) (by omega) (fun h_54 => ?_) (fun h_54 => ?_)
      · exact J34 H locs ls hP hD hS hl
      · refine lv_aload_n hx hb dX7_readBasic_28 rfl (lv_at hl 1 rfl) ?_
        refine lv_iload_n hx hb dX7_readBasic_29 rfl (lv_at hl 2 rfl) ?_
        refine jcg_v (va_runV (As := [.int (iI p1)]) (rest := []) ⟨hx, hb, hml, hown, hts⟩ (sX7_readComparison_q6 l dC dI _ L cid K N tW sK sV v p0 p1 hI q0 (by omega) (by omega)) (cwV 1 hts (jgoodV m_712 m_713 m_714 m_677 m_715) rfl rfl rfl (by decide +kernel) ⟨(Nat.le_of_ble_eq_true rfl), (Nat.le_of_ble_eq_true rfl)⟩) ⟨xP_blind, xrecv hK hP q0 rfl rfl, fun U hU hW => ⟨rfl, xP_of hU hW hP hK hD hX hS (fun _ h => h) hA⟩⟩ rfl rfl hl.1 rfl (lv_room (Nat.le_of_ble_eq_true rfl)) dX7_readBasic_30 ⟨(Nat.le_of_ble_eq_true rfl), (Nat.le_of_ble_eq_true rfl)⟩) hD hS hA (fun v_58 H locs w_56 hP hK hD hS => ?_)
        obtain ⟨I_60, f_59⟩ := w_56
        have hP : va_P (dC, dI) vwCl (xG L cid K N v_58) H := hP
        have hD : va_D A (xG L cid K N v_58) := hD
        rw [← hQ]
        exact W.vret hx hb hr (fun t ht hW => ⟨⟨v_58, rfl, ⟨I_60, (fr_tr f_59 rfl fr_rf)⟩, by rw [ht]; exact hP, va_K.moved hW.alike hK, hD⟩, hS.F ht⟩) hS.2.2 dX7_readBasic_33
  refine xr_icmp_ne (tgt := 13) hx hb dX7_readBasic_6 (by decide) (by omega) (by omega) (fun h_61 => ?_) (fun h_61 => ?_)
  · refine lv_iconst (v := iI 0) hx hb dX7_readBasic_13 rfl ?_
    exact J14 0 H locs ls (by omega) hP hD hS hl
  · refine lv_iconst (v := iI 1) hx hb dX7_readBasic_9 rfl ?_
    refine lv_goto (tgt := 14) hx hb dX7_readBasic_10 (by decide) ?_
    exact J14 1 H locs ls (by omega) hP hD hS hl
set_option maxHeartbeats 2000000 in
set_option maxRecDepth 100000 in
theorem sX7_readBoth_q6 (l : Launch) (dC : Nat → ClassId) (dI : Nat → Nat → Nat) (sz : Nat) (L : List Nat) (cid : Nat → ClassId) (K : Int → Nat) (N : Int → Int) (tW : Nat) (sK sV : Nat → Nat) (v : Int → Int → Int) (p0 : Int) (p1 : Int) (hI : xI L K N v) (q0 : ok L K p0 7) (q1 : rg p1) (k1 : 6 ≤ p1 ∧ p1 ≤ 6) : Met l yX7_readBoth (jk yX7_readBoth cX7_readBoth 3 none) ({ frames := 13, cells := 0, slots := 0, locals := 291 }) (va_Pc [.ref p0.toNat, .int (iI p1)] (xP (dC, dI) (xG L cid K N v) (xT cid) tW sK sV sz)) (va_Qv (fun (u : (Int → Int → Int)) => (xI L K N u) ∧ (fr K [(7, 7), (7, 8), (7, 10), (25, (-1))] u v)) (fun u t => va_P (dC, dI) vwCl (xG L cid K N u) t.heap ∧ va_K (dC, dI) vwCl (xT cid) t ∧ va_D (va_A (xG L cid K N v) sz) (xG L cid K N u)) (va_A (xG L cid K N v) sz)) 0 0 (va_A (xG L cid K N v) sz) := by
  refine Met.ofW (cc := cX7_readBoth) (maxL := 3) (ret := none) (by decide) rfl ?_
  intro p e s m args below meth c s₁ B hml hv
  obtain ⟨rfl, ⟨hsz, hP, hK, hD0⟩, hX⟩ := hv
  have hx := B.exec
  have hb := B.bytes
  have hr := B.returns
  have hts := atoms_spec (ws := (jk yX7_readBoth cX7_readBoth 3 none)) B.pre
  have hj : ∀ w ∈ jw, w.before ([.ref p0.toNat, .int (iI p1)] : List Value).toArray s = true := fun w h => hts w (jm h)
  have hown : s.vm.findClass RX7 = some m.cls := findClass_of_methodNamed B.named
  subst hsz
  have hD := hD0.self (sz := s.heap.size)
  generalize hAe : (va_A (xG L cid K N v) s.heap.size) = A at hD hX ⊢
  have hA : ∀ q : Nat, s.heap.size ≤ q → A q := fun q h => by rw [← hAe]; exact Or.inr h
  have hS : va_S A s.heap s.heap [] := va_S.rf
  have hXa := hX
  have hP : va_P (dC, dI) vwCl (xG L cid K N v) s.heap := hP
  have hl := lv_entry ([.ref p0.toNat, .int (iI p1)]) (n := 3) (Nat.le_of_ble_eq_true rfl)
  rw [lg_entry_eq]
  generalize (lg_sl ([.ref p0.toNat, .int (iI p1)]) ++ List.replicate (3 - (lg_sl ([.ref p0.toNat, .int (iI p1)])).length) Slot.unset).toArray = ls at hl ⊢
  have hl : lv_has ls 3 [(0, .ref p0.toNat), (1, .int (iI p1))] := hl
  generalize hQ : MQ below (va_Qv (fun (u : (Int → Int → Int)) => (xI L K N u) ∧ (fr K [(7, 7), (7, 8), (7, 10), (25, (-1))] u v)) (fun u t => va_P (dC, dI) vwCl (xG L cid K N u) t.heap ∧ va_K (dC, dI) vwCl (xT cid) t ∧ va_D A (xG L cid K N u)) A) ([.ref p0.toNat, .int (iI p1)] : List Value).toArray s 0 0 A = Q
  suffices ST : ∀ (H : Heap) (locs : List Loc), va_P (dC, dI) vwCl (xG L cid K N v) H → va_S A s.heap H locs → W p l e ({ frames := 13, cells := 0, slots := 0, locals := 291 }) s m ([.ref p0.toNat, .int (iI p1)] : List Value).toArray below meth c H locs 0 0 Q (F0 m 0 ls []) from ST _ _ hP hS
  clear hP hS
  intro H locs hP hS
  refine lv_aload_n hx hb dX7_readBoth_0 rfl (lv_at hl 0 rfl) ?_
  refine lv_iload_n hx hb dX7_readBoth_1 rfl (lv_at hl 1 rfl) ?_
  refine jcg_v (va_runV (As := [.int (iI p1)]) (rest := []) ⟨hx, hb, hml, hown, hts⟩ (sX7_readBasic_q6 l dC dI _ L cid K N tW sK sV v p0 p1 hI q0 (by omega) (by omega)) (cwV 1 hts (jgoodV m_716 m_717 m_718 m_677 m_719) rfl rfl rfl (by decide +kernel) ⟨(Nat.le_of_ble_eq_true rfl), (Nat.le_of_ble_eq_true rfl)⟩) ⟨xP_blind, xrecv hK hP q0 rfl rfl, fun U hU hW => ⟨rfl, xP_of hU hW hP hK hD hX hS (fun _ h => h) hA⟩⟩ rfl rfl hl.1 rfl (lv_room (Nat.le_of_ble_eq_true rfl)) dX7_readBoth_2 ⟨(Nat.le_of_ble_eq_true rfl), (Nat.le_of_ble_eq_true rfl)⟩) hD hS hA (fun v_4 H locs w_2 hP hK hD hS => ?_)
  obtain ⟨I_6, f_5⟩ := w_2
  have hP : va_P (dC, dI) vwCl (xG L cid K N v_4) H := hP
  have hD : va_D A (xG L cid K N v_4) := hD
  refine lv_iconst (v := iI 0) hx hb dX7_readBoth_5 rfl ?_
  refine lv_istore_n (i := 2) (lv' := [(2, .int (iI 0)), (0, .ref p0.toNat), (1, .int (iI p1))]) hx hb dX7_readBoth_6 rfl hl (by decide) rfl (fun ls hl => ?_)
  have L7 : ∀ (n7 : Nat) (a2_7 : Int) (vc7 : Int → Int → Int) (H : Heap) (locs : List Loc) (ls : Array Slot), (0 ≤ a2_7 ∧ a2_7 ≤ 2147483647) → (0 < (n7 : Int) ∧ (v p0 1) - a2_7 < (n7 : Int)) → fr K [(7, 7), (7, 8), (7, 10), (25, (-1))] vc7 v_4 → xI L K N vc7 → va_P (dC, dI) vwCl (xG L cid K N vc7) H → va_D A (xG L cid K N vc7) → va_S A s.heap H locs → lv_has ls 3 [(2, .int (iI a2_7)), (0, .ref p0.toNat), (1, .int (iI p1))] → W p l e ({ frames := 13, cells := 0, slots := 0, locals := 291 }) s m ([.ref p0.toNat, .int (iI p1)] : List Value).toArray below meth c H locs 0 0 Q (F0 m 7 ls []) := by
    intro n7
    induction n7 with
    | zero =>
      intro a2_7 vc7 H locs ls h_7 hm7 f_8 I_9 hP hD hS hl
      exfalso; omega
    | succ n7 ih7 =>
      intro a2_7 vc7 H locs ls h_10 hm7 f_11 I_12 hP hD hS hl
      refine lv_iload_n hx hb dX7_readBoth_7 rfl (lv_at hl 0 rfl) ?_
      refine lv_aload_n hx hb dX7_readBoth_8 rfl (lv_at hl 1 rfl) ?_
      have h_13 : 0 ≤ v p0 1 ∧ v p0 1 ≤ 600 := xf_7_1 hI q0
      refine gx_RX7_43 (y := v p0 1) hx hb hj hown hK hP q0 (((fr_use q0 f_11 rfl)).trans (fr_use q0 f_5 rfl)) dX7_readBoth_9 ?_
      refine xr_icmp_ge (tgt := 53) hx hb dX7_readBoth_12 (by decide) (by omega) (by omega) (fun h_14 => ?_) (fun h_14 => ?_)
      · rw [← hQ]
        exact W.vret hx hb hr (fun t ht hW => ⟨⟨vc7, rfl, ⟨I_12, (fr_tr f_11 rfl (fr_tr f_5 rfl fr_rf))⟩, by rw [ht]; exact hP, va_K.moved hW.alike hK, hD⟩, hS.F ht⟩) hS.2.2 dX7_readBoth_53
      · refine lv_aload_n hx hb dX7_readBoth_15 rfl (lv_at hl 1 rfl) ?_
        have h_15 : (-2147483648) ≤ vc7 p0 8 ∧ vc7 p0 8 ≤ 2147483647 := xf_7_8 I_12 q0
        refine gx_RX7_50 (y := vc7 p0 8) hx hb hj hown hK hP q0 rfl dX7_readBoth_16 ?_
        refine lv_iconst (v := iI (-1)) hx hb dX7_readBoth_19 rfl ?_
        refine xr_icmp_ne (tgt := 53) hx hb dX7_readBoth_20 (by decide) (by omega) (by omega) (fun h_16 => ?_) (fun h_16 => ?_)
        · rw [← hQ]
          exact W.vret hx hb hr (fun t ht hW => ⟨⟨vc7, rfl, ⟨I_12, (fr_tr f_11 rfl (fr_tr f_5 rfl fr_rf))⟩, by rw [ht]; exact hP, va_K.moved hW.alike hK, hD⟩, hS.F ht⟩) hS.2.2 dX7_readBoth_53
        · refine lv_aload_n hx hb dX7_readBoth_23 rfl (lv_at hl 1 rfl) ?_
          refine jc_i (va_runV (As := []) (rest := []) ⟨hx, hb, hml, hown, hts⟩ (sX7_word l dC dI _ L cid K N tW sK sV vc7 p0 I_12 q0) (cwV 0 hts (jgoodV m_679 m_680 m_681 m_677 m_682) rfl rfl rfl (by decide +kernel) ⟨(Nat.le_of_ble_eq_true rfl), (Nat.le_of_ble_eq_true rfl)⟩) ⟨xP_blind, xrecv hK hP q0 rfl rfl, fun U hU hW => ⟨rfl, xP_of hU hW hP hK hD hX hS (fun _ h => h) hA⟩⟩ rfl rfl hl.1 rfl (lv_room (Nat.le_of_ble_eq_true rfl)) dX7_readBoth_24 ⟨(Nat.le_of_ble_eq_true rfl), (Nat.le_of_ble_eq_true rfl)⟩) hP hS hA (fun r_17 H locs w_18 hP hS => ?_)
          obtain ⟨z_19, rfl, h_20, h_21⟩ := w_18
          have h_22 : (-2147483648) ≤ vc7 p0 7 ∧ vc7 p0 7 ≤ 2147483647 := xf_7_7 I_12 q0
          refine lv_bipush (v := iI 26) hx hb dX7_readBoth_27 rfl ?_
          refine xr_icmp_ne (tgt := 53) hx hb dX7_readBoth_29 (by decide) (by omega) (by omega) (fun h_23 => ?_) (fun h_23 => ?_)
          · rw [← hQ]
            exact W.vret hx hb hr (fun t ht hW => ⟨⟨vc7, rfl, ⟨I_12, (fr_tr f_11 rfl (fr_tr f_5 rfl fr_rf))⟩, by rw [ht]; exact hP, va_K.moved hW.alike hK, hD⟩, hS.F ht⟩) hS.2.2 dX7_readBoth_53
          · refine lv_aload_n hx hb dX7_readBoth_32 rfl (lv_at hl 1 rfl) ?_
            refine jcg_v (va_runV (As := []) (rest := []) ⟨hx, hb, hml, hown, hts⟩ (sX7_advance l dC dI _ L cid K N tW sK sV vc7 p0 I_12 q0) (cwV 0 hts (jgoodV m_692 m_693 m_694 m_677 m_695) rfl rfl rfl (by decide +kernel) ⟨(Nat.le_of_ble_eq_true rfl), (Nat.le_of_ble_eq_true rfl)⟩) ⟨xP_blind, xrecv hK hP q0 rfl rfl, fun U hU hW => ⟨rfl, xP_of hU hW hP hK hD hX hS (fun _ h => h) hA⟩⟩ rfl rfl hl.1 rfl (lv_room (Nat.le_of_ble_eq_true rfl)) dX7_readBoth_33 ⟨(Nat.le_of_ble_eq_true rfl), (Nat.le_of_ble_eq_true rfl)⟩) hD hS hA (fun v_27 H locs w_25 hP hK hD hS => ?_)
            obtain ⟨I_29, f_28⟩ := w_25
            have hP : va_P (dC, dI) vwCl (xG L cid K N v_27) H := hP
            have hD : va_D A (xG L cid K N v_27) := hD
            refine lv_aload_n hx hb dX7_readBoth_36 rfl (lv_at hl 1 rfl) ?_
            refine lv_iload_n hx hb dX7_readBoth_37 rfl (lv_at hl 2 rfl) ?_
            refine jcg_v (va_runV (As := [.int (iI p1)]) (rest := []) ⟨hx, hb, hml, hown, hts⟩ (sX7_readBasic_q6 l dC dI _ L cid K N tW sK sV v_27 p0 p1 I_29 q0 (by omega) (by omega)) (cwV 1 hts (jgoodV m_716 m_717 m_718 m_677 m_719) rfl rfl rfl (by decide +kernel) ⟨(Nat.le_of_ble_eq_true rfl), (Nat.le_of_ble_eq_true rfl)⟩) ⟨xP_blind, xrecv hK hP q0 rfl rfl, fun U hU hW => ⟨rfl, xP_of hU hW hP hK hD hX hS (fun _ h => h) hA⟩⟩ rfl rfl hl.1 rfl (lv_room (Nat.le_of_ble_eq_true rfl)) dX7_readBoth_38 ⟨(Nat.le_of_ble_eq_true rfl), (Nat.le_of_ble_eq_true rfl)⟩) hD hS hA (fun v_33 H locs w_31 hP hK hD hS => ?_)
            obtain ⟨I_35, f_34⟩ := w_31
            have hP : va_P (dC, dI) vwCl (xG L cid K N v_33) H := hP
            have hD : va_D A (xG L cid K N v_33) := hD
            refine lv_aload_n hx hb dX7_readBoth_41 rfl (lv_at hl 1 rfl) ?_
            refine lv_bipush (v := iI (-18)) hx hb dX7_readBoth_42 rfl ?_
            refine jcg_v (va_runV (As := [.int (iI (-18))]) (rest := []) ⟨hx, hb, hml, hown, hts⟩ (sX7_emit l dC dI _ L cid K N tW sK sV v_33 p0 (-18) I_35 q0 (by omega)) (cwV 1 hts (jgoodV m_688 m_689 m_690 m_677 m_691) rfl rfl rfl (by decide +kernel) ⟨(Nat.le_of_ble_eq_true rfl), (Nat.le_of_ble_eq_true rfl)⟩) ⟨xP_blind, xrecv hK hP q0 rfl rfl, fun U hU hW => ⟨rfl, xP_of hU hW hP hK hD hX hS (fun _ h => h) hA⟩⟩ rfl rfl hl.1 rfl (lv_room (Nat.le_of_ble_eq_true rfl)) dX7_readBoth_44 ⟨(Nat.le_of_ble_eq_true rfl), (Nat.le_of_ble_eq_true rfl)⟩) hD hS hA (fun v_39 H locs w_37 hP hK hD hS => ?_)
            obtain ⟨I_41, f_40⟩ := w_37
            have hP : va_P (dC, dI) vwCl (xG L cid K N v_39) H := hP
            have hD : va_D A (xG L cid K N v_39) := hD
            refine lv_iinc (v := iI (a2_7 + 1)) (lv' := [(2, .int (iI (a2_7 + 1))), (0, .ref p0.toNat), (1, .int (iI p1))]) hx hb dX7_readBoth_47 hl (k := 0) rfl (iI_add _ _) (by decide) rfl (fun ls hl => ?_)
            refine lv_goto (tgt := 7) hx hb dX7_readBoth_50 (by decide) ?_
            exact ih7 (a2_7 + 1) v_39 H locs ls (by omega) (by omega) (fr_tr f_40 rfl (fr_tr f_34 rfl (fr_tr f_28 rfl (fr_tr f_11 rfl fr_rf)))) I_41 hP hD hS hl
  exact L7 ((((v p0 1) - 0 : Int)).toNat + 1) 0 v_4 H locs ls (by omega) (by omega) fr_rf I_6 hP hD hS hl
set_option maxHeartbeats 2000000 in
set_option maxRecDepth 100000 in
theorem sX7_readEither_q6 (l : Launch) (dC : Nat → ClassId) (dI : Nat → Nat → Nat) (sz : Nat) (L : List Nat) (cid : Nat → ClassId) (K : Int → Nat) (N : Int → Int) (tW : Nat) (sK sV : Nat → Nat) (v : Int → Int → Int) (p0 : Int) (p1 : Int) (hI : xI L K N v) (q0 : ok L K p0 7) (q1 : rg p1) (k1 : 6 ≤ p1 ∧ p1 ≤ 6) : Met l yX7_readEither (jk yX7_readEither cX7_readEither 3 none) ({ frames := 14, cells := 0, slots := 0, locals := 313 }) (va_Pc [.ref p0.toNat, .int (iI p1)] (xP (dC, dI) (xG L cid K N v) (xT cid) tW sK sV sz)) (va_Qv (fun (u : (Int → Int → Int)) => (xI L K N u) ∧ (fr K [(7, 7), (7, 8), (7, 10), (25, (-1))] u v)) (fun u t => va_P (dC, dI) vwCl (xG L cid K N u) t.heap ∧ va_K (dC, dI) vwCl (xT cid) t ∧ va_D (va_A (xG L cid K N v) sz) (xG L cid K N u)) (va_A (xG L cid K N v) sz)) 0 0 (va_A (xG L cid K N v) sz) := by
  refine Met.ofW (cc := cX7_readEither) (maxL := 3) (ret := none) (by decide) rfl ?_
  intro p e s m args below meth c s₁ B hml hv
  obtain ⟨rfl, ⟨hsz, hP, hK, hD0⟩, hX⟩ := hv
  have hx := B.exec
  have hb := B.bytes
  have hr := B.returns
  have hts := atoms_spec (ws := (jk yX7_readEither cX7_readEither 3 none)) B.pre
  have hj : ∀ w ∈ jw, w.before ([.ref p0.toNat, .int (iI p1)] : List Value).toArray s = true := fun w h => hts w (jm h)
  have hown : s.vm.findClass RX7 = some m.cls := findClass_of_methodNamed B.named
  subst hsz
  have hD := hD0.self (sz := s.heap.size)
  generalize hAe : (va_A (xG L cid K N v) s.heap.size) = A at hD hX ⊢
  have hA : ∀ q : Nat, s.heap.size ≤ q → A q := fun q h => by rw [← hAe]; exact Or.inr h
  have hS : va_S A s.heap s.heap [] := va_S.rf
  have hXa := hX
  have hP : va_P (dC, dI) vwCl (xG L cid K N v) s.heap := hP
  have hl := lv_entry ([.ref p0.toNat, .int (iI p1)]) (n := 3) (Nat.le_of_ble_eq_true rfl)
  rw [lg_entry_eq]
  generalize (lg_sl ([.ref p0.toNat, .int (iI p1)]) ++ List.replicate (3 - (lg_sl ([.ref p0.toNat, .int (iI p1)])).length) Slot.unset).toArray = ls at hl ⊢
  have hl : lv_has ls 3 [(0, .ref p0.toNat), (1, .int (iI p1))] := hl
  generalize hQ : MQ below (va_Qv (fun (u : (Int → Int → Int)) => (xI L K N u) ∧ (fr K [(7, 7), (7, 8), (7, 10), (25, (-1))] u v)) (fun u t => va_P (dC, dI) vwCl (xG L cid K N u) t.heap ∧ va_K (dC, dI) vwCl (xT cid) t ∧ va_D A (xG L cid K N u)) A) ([.ref p0.toNat, .int (iI p1)] : List Value).toArray s 0 0 A = Q
  suffices ST : ∀ (H : Heap) (locs : List Loc), va_P (dC, dI) vwCl (xG L cid K N v) H → va_S A s.heap H locs → W p l e ({ frames := 14, cells := 0, slots := 0, locals := 313 }) s m ([.ref p0.toNat, .int (iI p1)] : List Value).toArray below meth c H locs 0 0 Q (F0 m 0 ls []) from ST _ _ hP hS
  clear hP hS
  intro H locs hP hS
  refine lv_aload_n hx hb dX7_readEither_0 rfl (lv_at hl 0 rfl) ?_
  refine lv_iload_n hx hb dX7_readEither_1 rfl (lv_at hl 1 rfl) ?_
  refine jcg_v (va_runV (As := [.int (iI p1)]) (rest := []) ⟨hx, hb, hml, hown, hts⟩ (sX7_readBoth_q6 l dC dI _ L cid K N tW sK sV v p0 p1 hI q0 (by omega) (by omega)) (cwV 1 hts (jgoodV m_720 m_721 m_722 m_677 m_723) rfl rfl rfl (by decide +kernel) ⟨(Nat.le_of_ble_eq_true rfl), (Nat.le_of_ble_eq_true rfl)⟩) ⟨xP_blind, xrecv hK hP q0 rfl rfl, fun U hU hW => ⟨rfl, xP_of hU hW hP hK hD hX hS (fun _ h => h) hA⟩⟩ rfl rfl hl.1 rfl (lv_room (Nat.le_of_ble_eq_true rfl)) dX7_readEither_2 ⟨(Nat.le_of_ble_eq_true rfl), (Nat.le_of_ble_eq_true rfl)⟩) hD hS hA (fun v_4 H locs w_2 hP hK hD hS => ?_)
  obtain ⟨I_6, f_5⟩ := w_2
  have hP : va_P (dC, dI) vwCl (xG L cid K N v_4) H := hP
  have hD : va_D A (xG L cid K N v_4) := hD
  refine lv_iconst (v := iI 0) hx hb dX7_readEither_5 rfl ?_
  refine lv_istore_n (i := 2) (lv' := [(2, .int (iI 0)), (0, .ref p0.toNat), (1, .int (iI p1))]) hx hb dX7_readEither_6 rfl hl (by decide) rfl (fun ls hl => ?_)
  have L7 : ∀ (n7 : Nat) (a2_7 : Int) (vc7 : Int → Int → Int) (H : Heap) (locs : List Loc) (ls : Array Slot), (0 ≤ a2_7 ∧ a2_7 ≤ 2147483647) → (0 < (n7 : Int) ∧ (v p0 1) - a2_7 < (n7 : Int)) → fr K [(7, 7), (7, 8), (7, 10), (25, (-1))] vc7 v_4 → xI L K N vc7 → va_P (dC, dI) vwCl (xG L cid K N vc7) H → va_D A (xG L cid K N vc7) → va_S A s.heap H locs → lv_has ls 3 [(2, .int (iI a2_7)), (0, .ref p0.toNat), (1, .int (iI p1))] → W p l e ({ frames := 14, cells := 0, slots := 0, locals := 313 }) s m ([.ref p0.toNat, .int (iI p1)] : List Value).toArray below meth c H locs 0 0 Q (F0 m 7 ls []) := by
    intro n7
    induction n7 with
    | zero =>
      intro a2_7 vc7 H locs ls h_7 hm7 f_8 I_9 hP hD hS hl
      exfalso; omega
    | succ n7 ih7 =>
      intro a2_7 vc7 H locs ls h_10 hm7 f_11 I_12 hP hD hS hl
      refine lv_iload_n hx hb dX7_readEither_7 rfl (lv_at hl 0 rfl) ?_
      refine lv_aload_n hx hb dX7_readEither_8 rfl (lv_at hl 1 rfl) ?_
      have h_13 : 0 ≤ v p0 1 ∧ v p0 1 ≤ 600 := xf_7_1 hI q0
      refine gx_RX7_43 (y := v p0 1) hx hb hj hown hK hP q0 (((fr_use q0 f_11 rfl)).trans (fr_use q0 f_5 rfl)) dX7_readEither_9 ?_
      refine xr_icmp_ge (tgt := 53) hx hb dX7_readEither_12 (by decide) (by omega) (by omega) (fun h_14 => ?_) (fun h_14 => ?_)
      · rw [← hQ]
        exact W.vret hx hb hr (fun t ht hW => ⟨⟨vc7, rfl, ⟨I_12, (fr_tr f_11 rfl (fr_tr f_5 rfl fr_rf))⟩, by rw [ht]; exact hP, va_K.moved hW.alike hK, hD⟩, hS.F ht⟩) hS.2.2 dX7_readEither_53
      · refine lv_aload_n hx hb dX7_readEither_15 rfl (lv_at hl 1 rfl) ?_
        have h_15 : (-2147483648) ≤ vc7 p0 8 ∧ vc7 p0 8 ≤ 2147483647 := xf_7_8 I_12 q0
        refine gx_RX7_50 (y := vc7 p0 8) hx hb hj hown hK hP q0 rfl dX7_readEither_16 ?_
        refine lv_iconst (v := iI (-1)) hx hb dX7_readEither_19 rfl ?_
        refine xr_icmp_ne (tgt := 53) hx hb dX7_readEither_20 (by decide) (by omega) (by omega) (fun h_16 => ?_) (fun h_16 => ?_)
        · rw [← hQ]
          exact W.vret hx hb hr (fun t ht hW => ⟨⟨vc7, rfl, ⟨I_12, (fr_tr f_11 rfl (fr_tr f_5 rfl fr_rf))⟩, by rw [ht]; exact hP, va_K.moved hW.alike hK, hD⟩, hS.F ht⟩) hS.2.2 dX7_readEither_53
        · refine lv_aload_n hx hb dX7_readEither_23 rfl (lv_at hl 1 rfl) ?_
          refine jc_i (va_runV (As := []) (rest := []) ⟨hx, hb, hml, hown, hts⟩ (sX7_word l dC dI _ L cid K N tW sK sV vc7 p0 I_12 q0) (cwV 0 hts (jgoodV m_679 m_680 m_681 m_677 m_682) rfl rfl rfl (by decide +kernel) ⟨(Nat.le_of_ble_eq_true rfl), (Nat.le_of_ble_eq_true rfl)⟩) ⟨xP_blind, xrecv hK hP q0 rfl rfl, fun U hU hW => ⟨rfl, xP_of hU hW hP hK hD hX hS (fun _ h => h) hA⟩⟩ rfl rfl hl.1 rfl (lv_room (Nat.le_of_ble_eq_true rfl)) dX7_readEither_24 ⟨(Nat.le_of_ble_eq_true rfl), (Nat.le_of_ble_eq_true rfl)⟩) hP hS hA (fun r_17 H locs w_18 hP hS => ?_)
          obtain ⟨z_19, rfl, h_20, h_21⟩ := w_18
          have h_22 : (-2147483648) ≤ vc7 p0 7 ∧ vc7 p0 7 ≤ 2147483647 := xf_7_7 I_12 q0
          refine lv_bipush (v := iI 25) hx hb dX7_readEither_27 rfl ?_
          refine xr_icmp_ne (tgt := 53) hx hb dX7_readEither_29 (by decide) (by omega) (by omega) (fun h_23 => ?_) (fun h_23 => ?_)
          · rw [← hQ]
            exact W.vret hx hb hr (fun t ht hW => ⟨⟨vc7, rfl, ⟨I_12, (fr_tr f_11 rfl (fr_tr f_5 rfl fr_rf))⟩, by rw [ht]; exact hP, va_K.moved hW.alike hK, hD⟩, hS.F ht⟩) hS.2.2 dX7_readEither_53
          · refine lv_aload_n hx hb dX7_readEither_32 rfl (lv_at hl 1 rfl) ?_
            refine jcg_v (va_runV (As := []) (rest := []) ⟨hx, hb, hml, hown, hts⟩ (sX7_advance l dC dI _ L cid K N tW sK sV vc7 p0 I_12 q0) (cwV 0 hts (jgoodV m_692 m_693 m_694 m_677 m_695) rfl rfl rfl (by decide +kernel) ⟨(Nat.le_of_ble_eq_true rfl), (Nat.le_of_ble_eq_true rfl)⟩) ⟨xP_blind, xrecv hK hP q0 rfl rfl, fun U hU hW => ⟨rfl, xP_of hU hW hP hK hD hX hS (fun _ h => h) hA⟩⟩ rfl rfl hl.1 rfl (lv_room (Nat.le_of_ble_eq_true rfl)) dX7_readEither_33 ⟨(Nat.le_of_ble_eq_true rfl), (Nat.le_of_ble_eq_true rfl)⟩) hD hS hA (fun v_27 H locs w_25 hP hK hD hS => ?_)
            obtain ⟨I_29, f_28⟩ := w_25
            have hP : va_P (dC, dI) vwCl (xG L cid K N v_27) H := hP
            have hD : va_D A (xG L cid K N v_27) := hD
            refine lv_aload_n hx hb dX7_readEither_36 rfl (lv_at hl 1 rfl) ?_
            refine lv_iload_n hx hb dX7_readEither_37 rfl (lv_at hl 2 rfl) ?_
            refine jcg_v (va_runV (As := [.int (iI p1)]) (rest := []) ⟨hx, hb, hml, hown, hts⟩ (sX7_readBoth_q6 l dC dI _ L cid K N tW sK sV v_27 p0 p1 I_29 q0 (by omega) (by omega)) (cwV 1 hts (jgoodV m_720 m_721 m_722 m_677 m_723) rfl rfl rfl (by decide +kernel) ⟨(Nat.le_of_ble_eq_true rfl), (Nat.le_of_ble_eq_true rfl)⟩) ⟨xP_blind, xrecv hK hP q0 rfl rfl, fun U hU hW => ⟨rfl, xP_of hU hW hP hK hD hX hS (fun _ h => h) hA⟩⟩ rfl rfl hl.1 rfl (lv_room (Nat.le_of_ble_eq_true rfl)) dX7_readEither_38 ⟨(Nat.le_of_ble_eq_true rfl), (Nat.le_of_ble_eq_true rfl)⟩) hD hS hA (fun v_33 H locs w_31 hP hK hD hS => ?_)
            obtain ⟨I_35, f_34⟩ := w_31
            have hP : va_P (dC, dI) vwCl (xG L cid K N v_33) H := hP
            have hD : va_D A (xG L cid K N v_33) := hD
            refine lv_aload_n hx hb dX7_readEither_41 rfl (lv_at hl 1 rfl) ?_
            refine lv_bipush (v := iI (-19)) hx hb dX7_readEither_42 rfl ?_
            refine jcg_v (va_runV (As := [.int (iI (-19))]) (rest := []) ⟨hx, hb, hml, hown, hts⟩ (sX7_emit l dC dI _ L cid K N tW sK sV v_33 p0 (-19) I_35 q0 (by omega)) (cwV 1 hts (jgoodV m_688 m_689 m_690 m_677 m_691) rfl rfl rfl (by decide +kernel) ⟨(Nat.le_of_ble_eq_true rfl), (Nat.le_of_ble_eq_true rfl)⟩) ⟨xP_blind, xrecv hK hP q0 rfl rfl, fun U hU hW => ⟨rfl, xP_of hU hW hP hK hD hX hS (fun _ h => h) hA⟩⟩ rfl rfl hl.1 rfl (lv_room (Nat.le_of_ble_eq_true rfl)) dX7_readEither_44 ⟨(Nat.le_of_ble_eq_true rfl), (Nat.le_of_ble_eq_true rfl)⟩) hD hS hA (fun v_39 H locs w_37 hP hK hD hS => ?_)
            obtain ⟨I_41, f_40⟩ := w_37
            have hP : va_P (dC, dI) vwCl (xG L cid K N v_39) H := hP
            have hD : va_D A (xG L cid K N v_39) := hD
            refine lv_iinc (v := iI (a2_7 + 1)) (lv' := [(2, .int (iI (a2_7 + 1))), (0, .ref p0.toNat), (1, .int (iI p1))]) hx hb dX7_readEither_47 hl (k := 0) rfl (iI_add _ _) (by decide) rfl (fun ls hl => ?_)
            refine lv_goto (tgt := 7) hx hb dX7_readEither_50 (by decide) ?_
            exact ih7 (a2_7 + 1) v_39 H locs ls (by omega) (by omega) (fr_tr f_40 rfl (fr_tr f_34 rfl (fr_tr f_28 rfl (fr_tr f_11 rfl fr_rf)))) I_41 hP hD hS hl
  exact L7 ((((v p0 1) - 0 : Int)).toNat + 1) 0 v_4 H locs ls (by omega) (by omega) fr_rf I_6 hP hD hS hl
