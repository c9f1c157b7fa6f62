set_option maxHeartbeats 2000000 in
set_option maxRecDepth 100000 in
theorem sX7_readBoth_q4 (l : Launch) (dC : Nat → ClassId) (dI : Nat → Nat → Nat) (sz : Nat) (L : List Nat) (cid : Nat → ClassId) (K : Int → Nat) (N : Int → Int) (tW : Nat) (sK sV : Nat → Nat) (v : Int → Int → Int) (tT : Int → Int) (tN : Int) (p0 : Int) (p1 : Int) (hI : xI L K N v) (q0 : ok L K p0 7) (q1 : rg p1) (k1 : 4 ≤ p1 ∧ p1 ≤ 4) (k2 : tks tT tN v p0) (k3 : 0 ≤ v p0 7 ∧ v p0 7 < v p0 6) : Met l yX7_readBoth (jk yX7_readBoth cX7_readBoth 3 none) ({ frames := 19, cells := 0, slots := 0, locals := 429 }) (va_Pc [.ref p0.toNat, .int (iI p1)] (xP (dC, dI) (xG L cid K N v) (xT cid) tW sK sV sz)) (va_Qv (fun (u : (Int → Int → Int)) => (xI L K N u) ∧ (fr K [(7, 7), (7, 8), (7, 10), (25, (-1))] u v) ∧ (jF (v p0 8 ≠ -1) (u p0 8 = v p0 8)) ∧ (0 ≤ u p0 7 ∧ v p0 7 ≤ u p0 7 ∧ u p0 7 < v p0 6) ∧ (jF (v p0 8 = -1 ∧ u p0 8 = -1) (v p0 7 + 1 ≤ u p0 7)) ∧ (EP tT tN [8] p1 (v p0 8) (v p0 7) (u p0 8) (u p0 7) [] p1)) (fun u t => va_P (dC, dI) vwCl (xG L cid K N u) t.heap ∧ va_K (dC, dI) vwCl (xT cid) t ∧ va_D (va_A (xG L cid K N v) sz) (xG L cid K N u)) (va_A (xG L cid K N v) sz)) 0 0 (va_A (xG L cid K N v) sz) := by
  refine Met.ofW (cc := cX7_readBoth) (maxL := 3) (ret := none) (by decide) rfl ?_
  intro p e s m args below meth c s₁ B hml hv
  obtain ⟨rfl, ⟨hsz, hP, hK, hD0⟩, hX⟩ := hv
  have hx := B.exec
  have hb := B.bytes
  have hr := B.returns
  have hts := atoms_spec (ws := (jk yX7_readBoth cX7_readBoth 3 none)) B.pre
  have hj : ∀ w ∈ jw, w.before ([.ref p0.toNat, .int (iI p1)] : List Value).toArray s = true := fun w h => hts w (jm h)
  have hown : s.vm.findClass RX7 = some m.cls := findClass_of_methodNamed B.named
  subst hsz
  have hD := hD0.self (sz := s.heap.size)
  generalize hAe : (va_A (xG L cid K N v) s.heap.size) = A at hD hX ⊢
  have hA : ∀ q : Nat, s.heap.size ≤ q → A q := fun q h => by rw [← hAe]; exact Or.inr h
  have hS : va_S A s.heap s.heap [] := va_S.rf
  have hXa := hX
  have hP : va_P (dC, dI) vwCl (xG L cid K N v) s.heap := hP
  have hl := lv_entry ([.ref p0.toNat, .int (iI p1)]) (n := 3) (Nat.le_of_ble_eq_true rfl)
  rw [lg_entry_eq]
  generalize (lg_sl ([.ref p0.toNat, .int (iI p1)]) ++ List.replicate (3 - (lg_sl ([.ref p0.toNat, .int (iI p1)])).length) Slot.unset).toArray = ls at hl ⊢
  have hl : lv_has ls 3 [(0, .ref p0.toNat), (1, .int (iI p1))] := hl
  generalize hQ : MQ below (va_Qv (fun (u : (Int → Int → Int)) => (xI L K N u) ∧ (fr K [(7, 7), (7, 8), (7, 10), (25, (-1))] u v) ∧ (jF (v p0 8 ≠ -1) (u p0 8 = v p0 8)) ∧ (0 ≤ u p0 7 ∧ v p0 7 ≤ u p0 7 ∧ u p0 7 < v p0 6) ∧ (jF (v p0 8 = -1 ∧ u p0 8 = -1) (v p0 7 + 1 ≤ u p0 7)) ∧ (EP tT tN [8] p1 (v p0 8) (v p0 7) (u p0 8) (u p0 7) [] p1)) (fun u t => va_P (dC, dI) vwCl (xG L cid K N u) t.heap ∧ va_K (dC, dI) vwCl (xT cid) t ∧ va_D A (xG L cid K N u)) A) ([.ref p0.toNat, .int (iI p1)] : List Value).toArray s 0 0 A = Q
  suffices ST : ∀ (H : Heap) (locs : List Loc), va_P (dC, dI) vwCl (xG L cid K N v) H → va_S A s.heap H locs → W p l e ({ frames := 19, cells := 0, slots := 0, locals := 429 }) s m ([.ref p0.toNat, .int (iI p1)] : List Value).toArray below meth c H locs 0 0 Q (F0 m 0 ls []) from ST _ _ hP hS
  clear hP hS
  intro H locs hP hS
  have hTK := tks_m k2
  have rp_1 : EP tT tN [8] p1 (v p0 8) (v p0 7) (v p0 8) (v p0 7) [8] p1 := EP_0
  have rp_2 : EP tT tN [8] p1 (v p0 8) (v p0 7) (v p0 8) (v p0 7) [10, 9] (p1) := EP_8 rp_1
  refine lv_aload_n hx hb dX7_readBoth_0 rfl (lv_at hl 0 rfl) ?_
  refine lv_iload_n hx hb dX7_readBoth_1 rfl (lv_at hl 1 rfl) ?_
  have h_3 : (-2147483648) ≤ v p0 7 ∧ v p0 7 ≤ 2147483647 := xf_7_7 hI q0
  have h_4 : (-2147483648) ≤ v p0 6 ∧ v p0 6 ≤ 2147483647 := xf_7_6 hI q0
  refine jcg_v (va_runV (As := [.int (iI p1)]) (rest := []) ⟨hx, hb, hml, hown, hts⟩ (sX7_readBasic_q4 l dC dI _ L cid K N tW sK sV v tT tN p0 p1 hI q0 (by omega) (by omega) k2 (by omega)) (cwV 1 hts (jgoodV m_716 m_717 m_718 m_677 m_719) rfl rfl rfl (by decide +kernel) ⟨(Nat.le_of_ble_eq_true rfl), (Nat.le_of_ble_eq_true rfl)⟩) ⟨xP_blind, xrecv hK hP q0 rfl rfl, fun U hU hW => ⟨rfl, xP_of hU hW hP hK hD hX hS (fun _ h => h) hA⟩⟩ rfl rfl hl.1 rfl (lv_room (Nat.le_of_ble_eq_true rfl)) dX7_readBoth_2 ⟨(Nat.le_of_ble_eq_true rfl), (Nat.le_of_ble_eq_true rfl)⟩) hD hS hA (fun v_12 H locs w_6 hP hK hD hS => ?_)
  obtain ⟨I_14, f_13, h_8, h_9, h_10, h_11⟩ := w_6
  have hP : va_P (dC, dI) vwCl (xG L cid K N v_12) H := hP
  have hD : va_D A (xG L cid K N v_12) := hD
  have h_15 : (-2147483648) ≤ v p0 8 ∧ v p0 8 ≤ 2147483647 := xf_7_8 hI q0
  have h_16 : (-2147483648) ≤ v_12 p0 8 ∧ v_12 p0 8 ≤ 2147483647 := xf_7_8 I_14 q0
  have h_17 : (-2147483648) ≤ v_12 p0 7 ∧ v_12 p0 7 ≤ 2147483647 := xf_7_7 I_14 q0
  have rp_18 : EP tT tN [8] p1 (v p0 8) (v p0 7) (v_12 p0 8) (v_12 p0 7) [9] (p1) := EP_c rp_2 h_11 h_8
  have g_19 : v p0 8 = -1 ∨ v_12 p0 8 = v p0 8 := jF_o h_8
  have g_20 : v p0 8 ≠ -1 ∨ v_12 p0 8 ≠ -1 ∨ v p0 7 + 1 ≤ v_12 p0 7 := jF_3 h_10
  refine lv_iconst (v := iI 0) hx hb dX7_readBoth_5 rfl ?_
  refine lv_istore_n (i := 2) (lv' := [(2, .int (iI 0)), (0, .ref p0.toNat), (1, .int (iI p1))]) hx hb dX7_readBoth_6 rfl hl (by decide) rfl (fun ls hl => ?_)
  have L7 : ∀ (n7 : Nat) (a2_7 : Int) (vc7 : Int → Int → Int) (H : Heap) (locs : List Loc) (ls : Array Slot), (0 ≤ a2_7 ∧ a2_7 ≤ 2147483647) → (0 ≤ a2_7) → (v p0 7 ≤ vc7 p0 7 ∧ vc7 p0 7 < v p0 6) → (v p0 8 = -1 ∨ vc7 p0 8 = v p0 8) → (vc7 p0 8 ≠ -1 ∨ a2_7 + v p0 7 + 1 ≤ vc7 p0 7) → (EP tT tN [8] p1 (v p0 8) (v p0 7) (vc7 p0 8) (vc7 p0 7) [9] p1) → (0 < (n7 : Int) ∧ (v p0 1) - a2_7 < (n7 : Int)) → fr K [(7, 7), (7, 8), (7, 10), (25, (-1))] vc7 v_12 → xI L K N vc7 → va_P (dC, dI) vwCl (xG L cid K N vc7) H → va_D A (xG L cid K N vc7) → va_S A s.heap H locs → lv_has ls 3 [(2, .int (iI a2_7)), (0, .ref p0.toNat), (1, .int (iI p1))] → W p l e ({ frames := 19, cells := 0, slots := 0, locals := 429 }) s m ([.ref p0.toNat, .int (iI p1)] : List Value).toArray below meth c H locs 0 0 Q (F0 m 7 ls []) := by
    intro n7
    induction n7 with
    | zero =>
      intro a2_7 vc7 H locs ls h_21 h_22 h_23 h_24 h_25 h_26 hm7 f_27 I_28 hP hD hS hl
      exfalso; omega
    | succ n7 ih7 =>
      intro a2_7 vc7 H locs ls h_29 h_30 h_31 h_32 h_33 h_34 hm7 f_35 I_36 hP hD hS hl
      have rp_37 : EP tT tN [8] p1 (v p0 8) (v p0 7) (vc7 p0 8) (vc7 p0 7) [9] p1 := by assumption
      refine lv_iload_n hx hb dX7_readBoth_7 rfl (lv_at hl 0 rfl) ?_
      refine lv_aload_n hx hb dX7_readBoth_8 rfl (lv_at hl 1 rfl) ?_
      have h_38 : 0 ≤ v p0 1 ∧ v p0 1 ≤ 600 := xf_7_1 hI q0
      refine gx_RX7_43 (y := v p0 1) hx hb hj hown hK hP q0 (((fr_use q0 f_35 rfl)).trans (fr_use q0 f_13 rfl)) dX7_readBoth_9 ?_
      refine xr_icmp_ge (tgt := 53) hx hb dX7_readBoth_12 (by decide) (by omega) (by omega) (fun h_39 => ?_) (fun h_39 => ?_)
      · have t_40 := tk_lt (T := tT) (n := tN) (j := vc7 p0 7) (by omega)
        have t2 := tks_n k2
        have t3 := twd_d tT tN (tkx tT tN (vc7 p0 7))
        have rp_41 : EP tT tN [8] p1 (v p0 8) (v p0 7) (vc7 p0 8) (vc7 p0 7) [] (p1) := EP_9n rp_37 (by omega)
        have h_42 : (-2147483648) ≤ vc7 p0 8 ∧ vc7 p0 8 ≤ 2147483647 := xf_7_8 I_36 q0
        have h_43 : (-2147483648) ≤ vc7 p0 7 ∧ vc7 p0 7 ≤ 2147483647 := xf_7_7 I_36 q0
        rw [← hQ]
        exact W.vret hx hb hr (fun t ht hW => ⟨⟨vc7, rfl, ⟨I_36, (fr_tr f_35 rfl (fr_tr f_13 rfl fr_rf)), by unfold jF; omega, by omega, by unfold jF; omega, by first | exact rp_41 | exact EP_x (by omega)⟩, by rw [ht]; exact hP, va_K.moved hW.alike hK, hD⟩, hS.F ht⟩) hS.2.2 dX7_readBoth_53
      · refine lv_aload_n hx hb dX7_readBoth_15 rfl (lv_at hl 1 rfl) ?_
        have h_44 : (-2147483648) ≤ vc7 p0 8 ∧ vc7 p0 8 ≤ 2147483647 := xf_7_8 I_36 q0
        refine gx_RX7_50 (y := vc7 p0 8) hx hb hj hown hK hP q0 rfl dX7_readBoth_16 ?_
        refine lv_iconst (v := iI (-1)) hx hb dX7_readBoth_19 rfl ?_
        refine xr_icmp_ne (tgt := 53) hx hb dX7_readBoth_20 (by decide) (by omega) (by omega) (fun h_45 => ?_) (fun h_45 => ?_)
        · have t_46 := tk_lt (T := tT) (n := tN) (j := vc7 p0 7) (by omega)
          have t2 := tks_n k2
          have t3 := twd_d tT tN (tkx tT tN (vc7 p0 7))
          have rp_47 : EP tT tN [8] p1 (v p0 8) (v p0 7) (vc7 p0 8) (vc7 p0 7) [] (p1) := EP_9n rp_37 (by omega)
          have h_48 : (-2147483648) ≤ vc7 p0 7 ∧ vc7 p0 7 ≤ 2147483647 := xf_7_7 I_36 q0
          rw [← hQ]
          exact W.vret hx hb hr (fun t ht hW => ⟨⟨vc7, rfl, ⟨I_36, (fr_tr f_35 rfl (fr_tr f_13 rfl fr_rf)), by unfold jF; omega, by omega, by unfold jF; omega, by first | exact rp_47 | exact EP_x (by omega)⟩, by rw [ht]; exact hP, va_K.moved hW.alike hK, hD⟩, hS.F ht⟩) hS.2.2 dX7_readBoth_53
        · refine lv_aload_n hx hb dX7_readBoth_23 rfl (lv_at hl 1 rfl) ?_
          have h_49 : (-2147483648) ≤ vc7 p0 7 ∧ vc7 p0 7 ≤ 2147483647 := xf_7_7 I_36 q0
          have b_50 : vc7 p0 6 = v p0 6 := (((fr_use q0 f_35 rfl)).trans (fr_use q0 f_13 rfl))
          refine jc_i (va_runV (As := []) (rest := []) ⟨hx, hb, hml, hown, hts⟩ (sX7_word l dC dI _ L cid K N tW sK sV vc7 tT tN p0 I_36 q0 (tks_fr hI q0 (show fr K [(7, 7), (7, 8), (7, 10), (25, (-1))] vc7 v from (fr_tr f_35 rfl (fr_tr f_13 rfl fr_rf))) rfl rfl rfl rfl rfl rfl rfl (fun _ => rfl) (fun _ => rfl) (fun _ => rfl) (fun _ => rfl) (fun _ => rfl) k2) (by omega)) (cwV 0 hts (jgoodV m_679 m_680 m_681 m_677 m_682) rfl rfl rfl (by decide +kernel) ⟨(Nat.le_of_ble_eq_true rfl), (Nat.le_of_ble_eq_true rfl)⟩) ⟨xP_blind, xrecv hK hP q0 rfl rfl, fun U hU hW => ⟨rfl, xP_of hU hW hP hK hD hX hS (fun _ h => h) hA⟩⟩ rfl rfl hl.1 rfl (lv_room (Nat.le_of_ble_eq_true rfl)) dX7_readBoth_24 ⟨(Nat.le_of_ble_eq_true rfl), (Nat.le_of_ble_eq_true rfl)⟩) hP hS hA (fun r_51 H locs w_52 hP hS => ?_)
          obtain ⟨z_53, rfl, h_54, h_55, h_56⟩ := w_52
          have b_57 : vc7 p0 6 = v p0 6 := (((fr_use q0 f_35 rfl)).trans (fr_use q0 f_13 rfl))
          refine lv_bipush (v := iI 26) hx hb dX7_readBoth_27 rfl ?_
          refine xr_icmp_ne (tgt := 53) hx hb dX7_readBoth_29 (by decide) (by omega) (by omega) (fun h_58 => ?_) (fun h_58 => ?_)
          · have t_59 := tk_lt (T := tT) (n := tN) (j := vc7 p0 7) (by omega)
            have t2 := tks_n k2
            have t3 := twd_d tT tN (tkx tT tN (vc7 p0 7))
            have rp_60 : EP tT tN [8] p1 (v p0 8) (v p0 7) (vc7 p0 8) (vc7 p0 7) [] (p1) := EP_9n rp_37 (by omega)
            rw [← hQ]
            exact W.vret hx hb hr (fun t ht hW => ⟨⟨vc7, rfl, ⟨I_36, (fr_tr f_35 rfl (fr_tr f_13 rfl fr_rf)), by unfold jF; omega, by omega, by unfold jF; omega, by first | exact rp_60 | exact EP_x (by omega)⟩, by rw [ht]; exact hP, va_K.moved hW.alike hK, hD⟩, hS.F ht⟩) hS.2.2 dX7_readBoth_53
          · refine lv_aload_n hx hb dX7_readBoth_32 rfl (lv_at hl 1 rfl) ?_
            refine jcg_v (va_runV (As := []) (rest := []) ⟨hx, hb, hml, hown, hts⟩ (sX7_advance l dC dI _ L cid K N tW sK sV vc7 p0 I_36 q0 (by omega)) (cwV 0 hts (jgoodV m_692 m_693 m_694 m_677 m_695) rfl rfl rfl (by decide +kernel) ⟨(Nat.le_of_ble_eq_true rfl), (Nat.le_of_ble_eq_true rfl)⟩) ⟨xP_blind, xrecv hK hP q0 rfl rfl, fun U hU hW => ⟨rfl, xP_of hU hW hP hK hD hX hS (fun _ h => h) hA⟩⟩ rfl rfl hl.1 rfl (lv_room (Nat.le_of_ble_eq_true rfl)) dX7_readBoth_33 ⟨(Nat.le_of_ble_eq_true rfl), (Nat.le_of_ble_eq_true rfl)⟩) hD hS hA (fun v_65 H locs w_62 hP hK hD hS => ?_)
            obtain ⟨I_67, f_66, h_64⟩ := w_62
            have hP : va_P (dC, dI) vwCl (xG L cid K N v_65) H := hP
            have hD : va_D A (xG L cid K N v_65) := hD
            have h_68 : (-2147483648) ≤ v_65 p0 7 ∧ v_65 p0 7 ≤ 2147483647 := xf_7_7 I_67 q0
            have rp_69 : EP tT tN [8] p1 (v p0 8) (v p0 7) (vc7 p0 8) (v_65 p0 7) [10, 9] (p1) := EP_9y rp_37 (by omega) (by omega) (by omega)
            refine lv_aload_n hx hb dX7_readBoth_36 rfl (lv_at hl 1 rfl) ?_
            refine lv_iload_n hx hb dX7_readBoth_37 rfl (lv_at hl 2 rfl) ?_
            have b_70 : v_65 p0 6 = v p0 6 := (((fr_use q0 f_66 rfl)).trans (((fr_use q0 f_35 rfl)).trans (fr_use q0 f_13 rfl)))
            refine jcg_v (va_runV (As := [.int (iI p1)]) (rest := []) ⟨hx, hb, hml, hown, hts⟩ (sX7_readBasic_q4 l dC dI _ L cid K N tW sK sV v_65 tT tN p0 p1 I_67 q0 (by omega) (by omega) (tks_fr hI q0 (show fr K [(7, 7), (7, 8), (7, 10), (25, (-1))] v_65 v from (fr_tr f_66 rfl (fr_tr f_35 rfl (fr_tr f_13 rfl fr_rf)))) rfl rfl rfl rfl rfl rfl rfl (fun _ => rfl) (fun _ => rfl) (fun _ => rfl) (fun _ => rfl) (fun _ => rfl) k2) (by omega)) (cwV 1 hts (jgoodV m_716 m_717 m_718 m_677 m_719) rfl rfl rfl (by decide +kernel) ⟨(Nat.le_of_ble_eq_true rfl), (Nat.le_of_ble_eq_true rfl)⟩) ⟨xP_blind, xrecv hK hP q0 rfl rfl, fun U hU hW => ⟨rfl, xP_of hU hW hP hK hD hX hS (fun _ h => h) hA⟩⟩ rfl rfl hl.1 rfl (lv_room (Nat.le_of_ble_eq_true rfl)) dX7_readBoth_38 ⟨(Nat.le_of_ble_eq_true rfl), (Nat.le_of_ble_eq_true rfl)⟩) hD hS hA (fun v_78 H locs w_72 hP hK hD hS => ?_)
            obtain ⟨I_80, f_79, h_74, h_75, h_76, h_77⟩ := w_72
            have hP : va_P (dC, dI) vwCl (xG L cid K N v_78) H := hP
            have hD : va_D A (xG L cid K N v_78) := hD
            have b_81 : v_65 p0 6 = v p0 6 := (((fr_use q0 f_66 rfl)).trans (((fr_use q0 f_35 rfl)).trans (fr_use q0 f_13 rfl)))
            have b_82 : v_65 p0 8 = vc7 p0 8 := (fr_use q0 f_66 rfl)
            have h_83 : (-2147483648) ≤ v_78 p0 8 ∧ v_78 p0 8 ≤ 2147483647 := xf_7_8 I_80 q0
            have h_84 : (-2147483648) ≤ v_78 p0 7 ∧ v_78 p0 7 ≤ 2147483647 := xf_7_7 I_80 q0
            rw [show v_65 p0 8 = vc7 p0 8 from (fr_use q0 f_66 rfl)] at h_74
            rw [show v_65 p0 8 = vc7 p0 8 from (fr_use q0 f_66 rfl)] at h_76
            rw [show v_65 p0 8 = vc7 p0 8 from (fr_use q0 f_66 rfl)] at h_77
            have rp_85 : EP tT tN [8] p1 (v p0 8) (v p0 7) (v_78 p0 8) (v_78 p0 7) [9] (p1) := EP_c rp_69 h_77 h_74
            have g_86 : v_78 p0 8 ≠ -1 ∨ v_65 p0 7 + 1 ≤ v_78 p0 7 := jF_2 h_76 (by omega)
            refine lv_aload_n hx hb dX7_readBoth_41 rfl (lv_at hl 1 rfl) ?_
            refine lv_bipush (v := iI (-18)) hx hb dX7_readBoth_42 rfl ?_
            refine jcg_v (va_runV (As := [.int (iI (-18))]) (rest := []) ⟨hx, hb, hml, hown, hts⟩ (sX7_emit l dC dI _ L cid K N tW sK sV v_78 p0 (-18) I_80 q0 (by omega)) (cwV 1 hts (jgoodV m_688 m_689 m_690 m_677 m_691) rfl rfl rfl (by decide +kernel) ⟨(Nat.le_of_ble_eq_true rfl), (Nat.le_of_ble_eq_true rfl)⟩) ⟨xP_blind, xrecv hK hP q0 rfl rfl, fun U hU hW => ⟨rfl, xP_of hU hW hP hK hD hX hS (fun _ h => h) hA⟩⟩ rfl rfl hl.1 rfl (lv_room (Nat.le_of_ble_eq_true rfl)) dX7_readBoth_44 ⟨(Nat.le_of_ble_eq_true rfl), (Nat.le_of_ble_eq_true rfl)⟩) hD hS hA (fun v_90 H locs w_88 hP hK hD hS => ?_)
            obtain ⟨I_92, f_91⟩ := w_88
            have hP : va_P (dC, dI) vwCl (xG L cid K N v_90) H := hP
            have hD : va_D A (xG L cid K N v_90) := hD
            refine lv_iinc (v := iI (a2_7 + 1)) (lv' := [(2, .int (iI (a2_7 + 1))), (0, .ref p0.toNat), (1, .int (iI p1))]) hx hb dX7_readBoth_47 hl (k := 0) rfl (iI_add _ _) (by decide) rfl (fun ls hl => ?_)
            refine lv_goto (tgt := 7) hx hb dX7_readBoth_50 (by decide) ?_
            have b_93 : v_90 p0 8 = v_78 p0 8 := (fr_use q0 f_91 rfl)
            have b_94 : v_90 p0 7 = v_78 p0 7 := (fr_use q0 f_91 rfl)
            exact ih7 (a2_7 + 1) v_90 H locs ls (by omega) (by omega) (by omega) (by omega) (by omega) (by exact (by rw [show v_90 p0 8 = v_78 p0 8 from (fr_use q0 f_91 rfl), show v_90 p0 7 = v_78 p0 7 from (fr_use q0 f_91 rfl)]; exact rp_85)) (by omega) (fr_tr f_91 rfl (fr_tr f_79 rfl (fr_tr f_66 rfl (fr_tr f_35 rfl fr_rf)))) I_92 hP hD hS hl
  exact L7 ((((v p0 1) - 0 : Int)).toNat + 1) 0 v_12 H locs ls (by omega) (by omega) (by omega) (by omega) (by omega) (by exact rp_18) (by omega) fr_rf I_14 hP hD hS hl
set_option maxHeartbeats 2000000 in
set_option maxRecDepth 100000 in
theorem sX7_readEither_q4 (l : Launch) (dC : Nat → ClassId) (dI : Nat → Nat → Nat) (sz : Nat) (L : List Nat) (cid : Nat → ClassId) (K : Int → Nat) (N : Int → Int) (tW : Nat) (sK sV : Nat → Nat) (v : Int → Int → Int) (tT : Int → Int) (tN : Int) (p0 : Int) (p1 : Int) (hI : xI L K N v) (q0 : ok L K p0 7) (q1 : rg p1) (k1 : 4 ≤ p1 ∧ p1 ≤ 4) (k2 : tks tT tN v p0) (k3 : 0 ≤ v p0 7 ∧ v p0 7 < v p0 6) : Met l yX7_readEither (jk yX7_readEither cX7_readEither 3 none) ({ frames := 20, cells := 0, slots := 0, locals := 451 }) (va_Pc [.ref p0.toNat, .int (iI p1)] (xP (dC, dI) (xG L cid K N v) (xT cid) tW sK sV sz)) (va_Qv (fun (u : (Int → Int → Int)) => (xI L K N u) ∧ (fr K [(7, 7), (7, 8), (7, 10), (25, (-1))] u v) ∧ (jF (v p0 8 ≠ -1) (u p0 8 = v p0 8)) ∧ (0 ≤ u p0 7 ∧ v p0 7 ≤ u p0 7 ∧ u p0 7 < v p0 6) ∧ (jF (v p0 8 = -1 ∧ u p0 8 = -1) (v p0 7 + 1 ≤ u p0 7)) ∧ (EP tT tN [6] p1 (v p0 8) (v p0 7) (u p0 8) (u p0 7) [] p1)) (fun u t => va_P (dC, dI) vwCl (xG L cid K N u) t.heap ∧ va_K (dC, dI) vwCl (xT cid) t ∧ va_D (va_A (xG L cid K N v) sz) (xG L cid K N u)) (va_A (xG L cid K N v) sz)) 0 0 (va_A (xG L cid K N v) sz) := by
  refine Met.ofW (cc := cX7_readEither) (maxL := 3) (ret := none) (by decide) rfl ?_
  intro p e s m args below meth c s₁ B hml hv
  obtain ⟨rfl, ⟨hsz, hP, hK, hD0⟩, hX⟩ := hv
  have hx := B.exec
  have hb := B.bytes
  have hr := B.returns
  have hts := atoms_spec (ws := (jk yX7_readEither cX7_readEither 3 none)) B.pre
  have hj : ∀ w ∈ jw, w.before ([.ref p0.toNat, .int (iI p1)] : List Value).toArray s = true := fun w h => hts w (jm h)
  have hown : s.vm.findClass RX7 = some m.cls := findClass_of_methodNamed B.named
  subst hsz
  have hD := hD0.self (sz := s.heap.size)
  generalize hAe : (va_A (xG L cid K N v) s.heap.size) = A at hD hX ⊢
  have hA : ∀ q : Nat, s.heap.size ≤ q → A q := fun q h => by rw [← hAe]; exact Or.inr h
  have hS : va_S A s.heap s.heap [] := va_S.rf
  have hXa := hX
  have hP : va_P (dC, dI) vwCl (xG L cid K N v) s.heap := hP
  have hl := lv_entry ([.ref p0.toNat, .int (iI p1)]) (n := 3) (Nat.le_of_ble_eq_true rfl)
  rw [lg_entry_eq]
  generalize (lg_sl ([.ref p0.toNat, .int (iI p1)]) ++ List.replicate (3 - (lg_sl ([.ref p0.toNat, .int (iI p1)])).length) Slot.unset).toArray = ls at hl ⊢
  have hl : lv_has ls 3 [(0, .ref p0.toNat), (1, .int (iI p1))] := hl
  generalize hQ : MQ below (va_Qv (fun (u : (Int → Int → Int)) => (xI L K N u) ∧ (fr K [(7, 7), (7, 8), (7, 10), (25, (-1))] u v) ∧ (jF (v p0 8 ≠ -1) (u p0 8 = v p0 8)) ∧ (0 ≤ u p0 7 ∧ v p0 7 ≤ u p0 7 ∧ u p0 7 < v p0 6) ∧ (jF (v p0 8 = -1 ∧ u p0 8 = -1) (v p0 7 + 1 ≤ u p0 7)) ∧ (EP tT tN [6] p1 (v p0 8) (v p0 7) (u p0 8) (u p0 7) [] p1)) (fun u t => va_P (dC, dI) vwCl (xG L cid K N u) t.heap ∧ va_K (dC, dI) vwCl (xT cid) t ∧ va_D A (xG L cid K N u)) A) ([.ref p0.toNat, .int (iI p1)] : List Value).toArray s 0 0 A = Q
  suffices ST : ∀ (H : Heap) (locs : List Loc), va_P (dC, dI) vwCl (xG L cid K N v) H → va_S A s.heap H locs → W p l e ({ frames := 20, cells := 0, slots := 0, locals := 451 }) s m ([.ref p0.toNat, .int (iI p1)] : List Value).toArray below meth c H locs 0 0 Q (F0 m 0 ls []) from ST _ _ hP hS
  clear hP hS
  intro H locs hP hS
  have hTK := tks_m k2
  have rp_1 : EP tT tN [6] p1 (v p0 8) (v p0 7) (v p0 8) (v p0 7) [6] p1 := EP_0
  have rp_2 : EP tT tN [6] p1 (v p0 8) (v p0 7) (v p0 8) (v p0 7) [8, 7] (p1) := EP_6 rp_1
  refine lv_aload_n hx hb dX7_readEither_0 rfl (lv_at hl 0 rfl) ?_
  refine lv_iload_n hx hb dX7_readEither_1 rfl (lv_at hl 1 rfl) ?_
  have h_3 : (-2147483648) ≤ v p0 7 ∧ v p0 7 ≤ 2147483647 := xf_7_7 hI q0
  have h_4 : (-2147483648) ≤ v p0 6 ∧ v p0 6 ≤ 2147483647 := xf_7_6 hI q0
  refine jcg_v (va_runV (As := [.int (iI p1)]) (rest := []) ⟨hx, hb, hml, hown, hts⟩ (sX7_readBoth_q4 l dC dI _ L cid K N tW sK sV v tT tN p0 p1 hI q0 (by omega) (by omega) k2 (by omega)) (cwV 1 hts (jgoodV m_720 m_721 m_722 m_677 m_723) rfl rfl rfl (by decide +kernel) ⟨(Nat.le_of_ble_eq_true rfl), (Nat.le_of_ble_eq_true rfl)⟩) ⟨xP_blind, xrecv hK hP q0 rfl rfl, fun U hU hW => ⟨rfl, xP_of hU hW hP hK hD hX hS (fun _ h => h) hA⟩⟩ rfl rfl hl.1 rfl (lv_room (Nat.le_of_ble_eq_true rfl)) dX7_readEither_2 ⟨(Nat.le_of_ble_eq_true rfl), (Nat.le_of_ble_eq_true rfl)⟩) hD hS hA (fun v_12 H locs w_6 hP hK hD hS => ?_)
  obtain ⟨I_14, f_13, h_8, h_9, h_10, h_11⟩ := w_6
  have hP : va_P (dC, dI) vwCl (xG L cid K N v_12) H := hP
  have hD : va_D A (xG L cid K N v_12) := hD
  have h_15 : (-2147483648) ≤ v p0 8 ∧ v p0 8 ≤ 2147483647 := xf_7_8 hI q0
  have h_16 : (-2147483648) ≤ v_12 p0 8 ∧ v_12 p0 8 ≤ 2147483647 := xf_7_8 I_14 q0
  have h_17 : (-2147483648) ≤ v_12 p0 7 ∧ v_12 p0 7 ≤ 2147483647 := xf_7_7 I_14 q0
  have rp_18 : EP tT tN [6] p1 (v p0 8) (v p0 7) (v_12 p0 8) (v_12 p0 7) [7] (p1) := EP_c rp_2 h_11 h_8
  have g_19 : v p0 8 = -1 ∨ v_12 p0 8 = v p0 8 := jF_o h_8
  have g_20 : v p0 8 ≠ -1 ∨ v_12 p0 8 ≠ -1 ∨ v p0 7 + 1 ≤ v_12 p0 7 := jF_3 h_10
  refine lv_iconst (v := iI 0) hx hb dX7_readEither_5 rfl ?_
  refine lv_istore_n (i := 2) (lv' := [(2, .int (iI 0)), (0, .ref p0.toNat), (1, .int (iI p1))]) hx hb dX7_readEither_6 rfl hl (by decide) rfl (fun ls hl => ?_)
  have L7 : ∀ (n7 : Nat) (a2_7 : Int) (vc7 : Int → Int → Int) (H : Heap) (locs : List Loc) (ls : Array Slot), (0 ≤ a2_7 ∧ a2_7 ≤ 2147483647) → (0 ≤ a2_7) → (v p0 7 ≤ vc7 p0 7 ∧ vc7 p0 7 < v p0 6) → (v p0 8 = -1 ∨ vc7 p0 8 = v p0 8) → (vc7 p0 8 ≠ -1 ∨ a2_7 + v p0 7 + 1 ≤ vc7 p0 7) → (EP tT tN [6] p1 (v p0 8) (v p0 7) (vc7 p0 8) (vc7 p0 7) [7] p1) → (0 < (n7 : Int) ∧ (v p0 1) - a2_7 < (n7 : Int)) → fr K [(7, 7), (7, 8), (7, 10), (25, (-1))] vc7 v_12 → xI L K N vc7 → va_P (dC, dI) vwCl (xG L cid K N vc7) H → va_D A (xG L cid K N vc7) → va_S A s.heap H locs → lv_has ls 3 [(2, .int (iI a2_7)), (0, .ref p0.toNat), (1, .int (iI p1))] → W p l e ({ frames := 20, cells := 0, slots := 0, locals := 451 }) s m ([.ref p0.toNat, .int (iI p1)] : List Value).toArray below meth c H locs 0 0 Q (F0 m 7 ls []) := by
    intro n7
    induction n7 with
    | zero =>
      intro a2_7 vc7 H locs ls h_21 h_22 h_23 h_24 h_25 h_26 hm7 f_27 I_28 hP hD hS hl
      exfalso; omega
    | succ n7 ih7 =>
      intro a2_7 vc7 H locs ls h_29 h_30 h_31 h_32 h_33 h_34 hm7 f_35 I_36 hP hD hS hl
      have rp_37 : EP tT tN [6] p1 (v p0 8) (v p0 7) (vc7 p0 8) (vc7 p0 7) [7] p1 := by assumption
      refine lv_iload_n hx hb dX7_readEither_7 rfl (lv_at hl 0 rfl) ?_
      refine lv_aload_n hx hb dX7_readEither_8 rfl (lv_at hl 1 rfl) ?_
      have h_38 : 0 ≤ v p0 1 ∧ v p0 1 ≤ 600 := xf_7_1 hI q0
      refine gx_RX7_43 (y := v p0 1) hx hb hj hown hK hP q0 (((fr_use q0 f_35 rfl)).trans (fr_use q0 f_13 rfl)) dX7_readEither_9 ?_
      refine xr_icmp_ge (tgt := 53) hx hb dX7_readEither_12 (by decide) (by omega) (by omega) (fun h_39 => ?_) (fun h_39 => ?_)
      · have t_40 := tk_lt (T := tT) (n := tN) (j := vc7 p0 7) (by omega)
        have t2 := tks_n k2
        have t3 := twd_d tT tN (tkx tT tN (vc7 p0 7))
        have rp_41 : EP tT tN [6] p1 (v p0 8) (v p0 7) (vc7 p0 8) (vc7 p0 7) [] (p1) := EP_7n rp_37 (by omega)
        have h_42 : (-2147483648) ≤ vc7 p0 8 ∧ vc7 p0 8 ≤ 2147483647 := xf_7_8 I_36 q0
        have h_43 : (-2147483648) ≤ vc7 p0 7 ∧ vc7 p0 7 ≤ 2147483647 := xf_7_7 I_36 q0
        rw [← hQ]
        exact W.vret hx hb hr (fun t ht hW => ⟨⟨vc7, rfl, ⟨I_36, (fr_tr f_35 rfl (fr_tr f_13 rfl fr_rf)), by unfold jF; omega, by omega, by unfold jF; omega, by first | exact rp_41 | exact EP_x (by omega)⟩, by rw [ht]; exact hP, va_K.moved hW.alike hK, hD⟩, hS.F ht⟩) hS.2.2 dX7_readEither_53
      · refine lv_aload_n hx hb dX7_readEither_15 rfl (lv_at hl 1 rfl) ?_
        have h_44 : (-2147483648) ≤ vc7 p0 8 ∧ vc7 p0 8 ≤ 2147483647 := xf_7_8 I_36 q0
        refine gx_RX7_50 (y := vc7 p0 8) hx hb hj hown hK hP q0 rfl dX7_readEither_16 ?_
        refine lv_iconst (v := iI (-1)) hx hb dX7_readEither_19 rfl ?_
        refine xr_icmp_ne (tgt := 53) hx hb dX7_readEither_20 (by decide) (by omega) (by omega) (fun h_45 => ?_) (fun h_45 => ?_)
        · have t_46 := tk_lt (T := tT) (n := tN) (j := vc7 p0 7) (by omega)
          have t2 := tks_n k2
          have t3 := twd_d tT tN (tkx tT tN (vc7 p0 7))
          have rp_47 : EP tT tN [6] p1 (v p0 8) (v p0 7) (vc7 p0 8) (vc7 p0 7) [] (p1) := EP_7n rp_37 (by omega)
          have h_48 : (-2147483648) ≤ vc7 p0 7 ∧ vc7 p0 7 ≤ 2147483647 := xf_7_7 I_36 q0
          rw [← hQ]
          exact W.vret hx hb hr (fun t ht hW => ⟨⟨vc7, rfl, ⟨I_36, (fr_tr f_35 rfl (fr_tr f_13 rfl fr_rf)), by unfold jF; omega, by omega, by unfold jF; omega, by first | exact rp_47 | exact EP_x (by omega)⟩, by rw [ht]; exact hP, va_K.moved hW.alike hK, hD⟩, hS.F ht⟩) hS.2.2 dX7_readEither_53
        · refine lv_aload_n hx hb dX7_readEither_23 rfl (lv_at hl 1 rfl) ?_
          have h_49 : (-2147483648) ≤ vc7 p0 7 ∧ vc7 p0 7 ≤ 2147483647 := xf_7_7 I_36 q0
          have b_50 : vc7 p0 6 = v p0 6 := (((fr_use q0 f_35 rfl)).trans (fr_use q0 f_13 rfl))
          refine jc_i (va_runV (As := []) (rest := []) ⟨hx, hb, hml, hown, hts⟩ (sX7_word l dC dI _ L cid K N tW sK sV vc7 tT tN p0 I_36 q0 (tks_fr hI q0 (show fr K [(7, 7), (7, 8), (7, 10), (25, (-1))] vc7 v from (fr_tr f_35 rfl (fr_tr f_13 rfl fr_rf))) rfl rfl rfl rfl rfl rfl rfl (fun _ => rfl) (fun _ => rfl) (fun _ => rfl) (fun _ => rfl) (fun _ => rfl) k2) (by omega)) (cwV 0 hts (jgoodV m_679 m_680 m_681 m_677 m_682) rfl rfl rfl (by decide +kernel) ⟨(Nat.le_of_ble_eq_true rfl), (Nat.le_of_ble_eq_true rfl)⟩) ⟨xP_blind, xrecv hK hP q0 rfl rfl, fun U hU hW => ⟨rfl, xP_of hU hW hP hK hD hX hS (fun _ h => h) hA⟩⟩ rfl rfl hl.1 rfl (lv_room (Nat.le_of_ble_eq_true rfl)) dX7_readEither_24 ⟨(Nat.le_of_ble_eq_true rfl), (Nat.le_of_ble_eq_true rfl)⟩) hP hS hA (fun r_51 H locs w_52 hP hS => ?_)
          obtain ⟨z_53, rfl, h_54, h_55, h_56⟩ := w_52
          have b_57 : vc7 p0 6 = v p0 6 := (((fr_use q0 f_35 rfl)).trans (fr_use q0 f_13 rfl))
          refine lv_bipush (v := iI 25) hx hb dX7_readEither_27 rfl ?_
          refine xr_icmp_ne (tgt := 53) hx hb dX7_readEither_29 (by decide) (by omega) (by omega) (fun h_58 => ?_) (fun h_58 => ?_)
          · have t_59 := tk_lt (T := tT) (n := tN) (j := vc7 p0 7) (by omega)
            have t2 := tks_n k2
            have t3 := twd_d tT tN (tkx tT tN (vc7 p0 7))
            have rp_60 : EP tT tN [6] p1 (v p0 8) (v p0 7) (vc7 p0 8) (vc7 p0 7) [] (p1) := EP_7n rp_37 (by omega)
            rw [← hQ]
            exact W.vret hx hb hr (fun t ht hW => ⟨⟨vc7, rfl, ⟨I_36, (fr_tr f_35 rfl (fr_tr f_13 rfl fr_rf)), by unfold jF; omega, by omega, by unfold jF; omega, by first | exact rp_60 | exact EP_x (by omega)⟩, by rw [ht]; exact hP, va_K.moved hW.alike hK, hD⟩, hS.F ht⟩) hS.2.2 dX7_readEither_53
          · refine lv_aload_n hx hb dX7_readEither_32 rfl (lv_at hl 1 rfl) ?_
            refine jcg_v (va_runV (As := []) (rest := []) ⟨hx, hb, hml, hown, hts⟩ (sX7_advance l dC dI _ L cid K N tW sK sV vc7 p0 I_36 q0 (by omega)) (cwV 0 hts (jgoodV m_692 m_693 m_694 m_677 m_695) rfl rfl rfl (by decide +kernel) ⟨(Nat.le_of_ble_eq_true rfl), (Nat.le_of_ble_eq_true rfl)⟩) ⟨xP_blind, xrecv hK hP q0 rfl rfl, fun U hU hW => ⟨rfl, xP_of hU hW hP hK hD hX hS (fun _ h => h) hA⟩⟩ rfl rfl hl.1 rfl (lv_room (Nat.le_of_ble_eq_true rfl)) dX7_readEither_33 ⟨(Nat.le_of_ble_eq_true rfl), (Nat.le_of_ble_eq_true rfl)⟩) hD hS hA (fun v_65 H locs w_62 hP hK hD hS => ?_)
            obtain ⟨I_67, f_66, h_64⟩ := w_62
            have hP : va_P (dC, dI) vwCl (xG L cid K N v_65) H := hP
            have hD : va_D A (xG L cid K N v_65) := hD
            have h_68 : (-2147483648) ≤ v_65 p0 7 ∧ v_65 p0 7 ≤ 2147483647 := xf_7_7 I_67 q0
            have rp_69 : EP tT tN [6] p1 (v p0 8) (v p0 7) (vc7 p0 8) (v_65 p0 7) [8, 7] (p1) := EP_7y rp_37 (by omega) (by omega) (by omega)
            refine lv_aload_n hx hb dX7_readEither_36 rfl (lv_at hl 1 rfl) ?_
            refine lv_iload_n hx hb dX7_readEither_37 rfl (lv_at hl 2 rfl) ?_
            have b_70 : v_65 p0 6 = v p0 6 := (((fr_use q0 f_66 rfl)).trans (((fr_use q0 f_35 rfl)).trans (fr_use q0 f_13 rfl)))
            refine jcg_v (va_runV (As := [.int (iI p1)]) (rest := []) ⟨hx, hb, hml, hown, hts⟩ (sX7_readBoth_q4 l dC dI _ L cid K N tW sK sV v_65 tT tN p0 p1 I_67 q0 (by omega) (by omega) (tks_fr hI q0 (show fr K [(7, 7), (7, 8), (7, 10), (25, (-1))] v_65 v from (fr_tr f_66 rfl (fr_tr f_35 rfl (fr_tr f_13 rfl fr_rf)))) rfl rfl rfl rfl rfl rfl rfl (fun _ => rfl) (fun _ => rfl) (fun _ => rfl) (fun _ => rfl) (fun _ => rfl) k2) (by omega)) (cwV 1 hts (jgoodV m_720 m_721 m_722 m_677 m_723) rfl rfl rfl (by decide +kernel) ⟨(Nat.le_of_ble_eq_true rfl), (Nat.le_of_ble_eq_true rfl)⟩) ⟨xP_blind, xrecv hK hP q0 rfl rfl, fun U hU hW => ⟨rfl, xP_of hU hW hP hK hD hX hS (fun _ h => h) hA⟩⟩ rfl rfl hl.1 rfl (lv_room (Nat.le_of_ble_eq_true rfl)) dX7_readEither_38 ⟨(Nat.le_of_ble_eq_true rfl), (Nat.le_of_ble_eq_true rfl)⟩) hD hS hA (fun v_78 H locs w_72 hP hK hD hS => ?_)
            obtain ⟨I_80, f_79, h_74, h_75, h_76, h_77⟩ := w_72
            have hP : va_P (dC, dI) vwCl (xG L cid K N v_78) H := hP
            have hD : va_D A (xG L cid K N v_78) := hD
            have b_81 : v_65 p0 6 = v p0 6 := (((fr_use q0 f_66 rfl)).trans (((fr_use q0 f_35 rfl)).trans (fr_use q0 f_13 rfl)))
            have b_82 : v_65 p0 8 = vc7 p0 8 := (fr_use q0 f_66 rfl)
            have h_83 : (-2147483648) ≤ v_78 p0 8 ∧ v_78 p0 8 ≤ 2147483647 := xf_7_8 I_80 q0
            have h_84 : (-2147483648) ≤ v_78 p0 7 ∧ v_78 p0 7 ≤ 2147483647 := xf_7_7 I_80 q0
            rw [show v_65 p0 8 = vc7 p0 8 from (fr_use q0 f_66 rfl)] at h_74
            rw [show v_65 p0 8 = vc7 p0 8 from (fr_use q0 f_66 rfl)] at h_76
            rw [show v_65 p0 8 = vc7 p0 8 from (fr_use q0 f_66 rfl)] at h_77
            have rp_85 : EP tT tN [6] p1 (v p0 8) (v p0 7) (v_78 p0 8) (v_78 p0 7) [7] (p1) := EP_c rp_69 h_77 h_74
            have g_86 : v_78 p0 8 ≠ -1 ∨ v_65 p0 7 + 1 ≤ v_78 p0 7 := jF_2 h_76 (by omega)
            refine lv_aload_n hx hb dX7_readEither_41 rfl (lv_at hl 1 rfl) ?_
            refine lv_bipush (v := iI (-19)) hx hb dX7_readEither_42 rfl ?_
            refine jcg_v (va_runV (As := [.int (iI (-19))]) (rest := []) ⟨hx, hb, hml, hown, hts⟩ (sX7_emit l dC dI _ L cid K N tW sK sV v_78 p0 (-19) I_80 q0 (by omega)) (cwV 1 hts (jgoodV m_688 m_689 m_690 m_677 m_691) rfl rfl rfl (by decide +kernel) ⟨(Nat.le_of_ble_eq_true rfl), (Nat.le_of_ble_eq_true rfl)⟩) ⟨xP_blind, xrecv hK hP q0 rfl rfl, fun U hU hW => ⟨rfl, xP_of hU hW hP hK hD hX hS (fun _ h => h) hA⟩⟩ rfl rfl hl.1 rfl (lv_room (Nat.le_of_ble_eq_true rfl)) dX7_readEither_44 ⟨(Nat.le_of_ble_eq_true rfl), (Nat.le_of_ble_eq_true rfl)⟩) hD hS hA (fun v_90 H locs w_88 hP hK hD hS => ?_)
            obtain ⟨I_92, f_91⟩ := w_88
            have hP : va_P (dC, dI) vwCl (xG L cid K N v_90) H := hP
            have hD : va_D A (xG L cid K N v_90) := hD
            refine lv_iinc (v := iI (a2_7 + 1)) (lv' := [(2, .int (iI (a2_7 + 1))), (0, .ref p0.toNat), (1, .int (iI p1))]) hx hb dX7_readEither_47 hl (k := 0) rfl (iI_add _ _) (by decide) rfl (fun ls hl => ?_)
            refine lv_goto (tgt := 7) hx hb dX7_readEither_50 (by decide) ?_
            have b_93 : v_90 p0 8 = v_78 p0 8 := (fr_use q0 f_91 rfl)
            have b_94 : v_90 p0 7 = v_78 p0 7 := (fr_use q0 f_91 rfl)
            exact ih7 (a2_7 + 1) v_90 H locs ls (by omega) (by omega) (by omega) (by omega) (by omega) (by exact (by rw [show v_90 p0 8 = v_78 p0 8 from (fr_use q0 f_91 rfl), show v_90 p0 7 = v_78 p0 7 from (fr_use q0 f_91 rfl)]; exact rp_85)) (by omega) (fr_tr f_91 rfl (fr_tr f_79 rfl (fr_tr f_66 rfl (fr_tr f_35 rfl fr_rf)))) I_92 hP hD hS hl
  exact L7 ((((v p0 1) - 0 : Int)).toNat + 1) 0 v_12 H locs ls (by omega) (by omega) (by omega) (by omega) (by omega) (by exact rp_18) (by omega) fr_rf I_14 hP hD hS hl
set_option maxHeartbeats 2000000 in
set_option maxRecDepth 100000 in
theorem sX7_readBasic_q3 (l : Launch) (dC : Nat → ClassId) (dI : Nat → Nat → Nat) (sz : Nat) (L : List Nat) (cid : Nat → ClassId) (K : Int → Nat) (N : Int → Int) (tW : Nat) (sK sV : Nat → Nat) (v : Int → Int → Int) (tT : Int → Int) (tN : Int) (p0 : Int) (p1 : Int) (hI : xI L K N v) (q0 : ok L K p0 7) (q1 : rg p1) (k1 : 3 ≤ p1 ∧ p1 ≤ 3) (k2 : tks tT tN v p0) (k3 : 0 ≤ v p0 7 ∧ v p0 7 < v p0 6) : Met l yX7_readBasic (jk yX7_readBasic cX7_readBasic 3 none) ({ frames := 21, cells := 0, slots := 0, locals := 476 }) (va_Pc [.ref p0.toNat, .int (iI p1)] (xP (dC, dI) (xG L cid K N v) (xT cid) tW sK sV sz)) (va_Qv (fun (u : (Int → Int → Int)) => (xI L K N u) ∧ (fr K [(7, 7), (7, 8), (7, 10), (25, (-1))] u v) ∧ (jF (v p0 8 ≠ -1) (u p0 8 = v p0 8)) ∧ (0 ≤ u p0 7 ∧ v p0 7 ≤ u p0 7 ∧ u p0 7 < v p0 6) ∧ (jF (v p0 8 = -1 ∧ u p0 8 = -1) (v p0 7 + 1 ≤ u p0 7)) ∧ (EP tT tN [10] p1 (v p0 8) (v p0 7) (u p0 8) (u p0 7) [] p1)) (fun u t => va_P (dC, dI) vwCl (xG L cid K N u) t.heap ∧ va_K (dC, dI) vwCl (xT cid) t ∧ va_D (va_A (xG L cid K N v) sz) (xG L cid K N u)) (va_A (xG L cid K N v) sz)) 0 0 (va_A (xG L cid K N v) sz) := by
  refine Met.ofW (cc := cX7_readBasic) (maxL := 3) (ret := none) (by decide) rfl ?_
  intro p e s m args below meth c s₁ B hml hv
  obtain ⟨rfl, ⟨hsz, hP, hK, hD0⟩, hX⟩ := hv
  have hx := B.exec
  have hb := B.bytes
  have hr := B.returns
  have hts := atoms_spec (ws := (jk yX7_readBasic cX7_readBasic 3 none)) B.pre
  have hj : ∀ w ∈ jw, w.before ([.ref p0.toNat, .int (iI p1)] : List Value).toArray s = true := fun w h => hts w (jm h)
  have hown : s.vm.findClass RX7 = some m.cls := findClass_of_methodNamed B.named
  subst hsz
  have hD := hD0.self (sz := s.heap.size)
  generalize hAe : (va_A (xG L cid K N v) s.heap.size) = A at hD hX ⊢
  have hA : ∀ q : Nat, s.heap.size ≤ q → A q := fun q h => by rw [← hAe]; exact Or.inr h
  have hS : va_S A s.heap s.heap [] := va_S.rf
  have hXa := hX
  have hP : va_P (dC, dI) vwCl (xG L cid K N v) s.heap := hP
  have hl := lv_entry ([.ref p0.toNat, .int (iI p1)]) (n := 3) (Nat.le_of_ble_eq_true rfl)
  rw [lg_entry_eq]
  generalize (lg_sl ([.ref p0.toNat, .int (iI p1)]) ++ List.replicate (3 - (lg_sl ([.ref p0.toNat, .int (iI p1)])).length) Slot.unset).toArray = ls at hl ⊢
  have hl : lv_has ls 3 [(0, .ref p0.toNat), (1, .int (iI p1))] := hl
  generalize hQ : MQ below (va_Qv (fun (u : (Int → Int → Int)) => (xI L K N u) ∧ (fr K [(7, 7), (7, 8), (7, 10), (25, (-1))] u v) ∧ (jF (v p0 8 ≠ -1) (u p0 8 = v p0 8)) ∧ (0 ≤ u p0 7 ∧ v p0 7 ≤ u p0 7 ∧ u p0 7 < v p0 6) ∧ (jF (v p0 8 = -1 ∧ u p0 8 = -1) (v p0 7 + 1 ≤ u p0 7)) ∧ (EP tT tN [10] p1 (v p0 8) (v p0 7) (u p0 8) (u p0 7) [] p1)) (fun u t => va_P (dC, dI) vwCl (xG L cid K N u) t.heap ∧ va_K (dC, dI) vwCl (xT cid) t ∧ va_D A (xG L cid K N u)) A) ([.ref p0.toNat, .int (iI p1)] : List Value).toArray s 0 0 A = Q
  suffices ST : ∀ (H : Heap) (locs : List Loc), va_P (dC, dI) vwCl (xG L cid K N v) H → va_S A s.heap H locs → W p l e ({ frames := 21, cells := 0, slots := 0, locals := 476 }) s m ([.ref p0.toNat, .int (iI p1)] : List Value).toArray below meth c H locs 0 0 Q (F0 m 0 ls []) from ST _ _ hP hS
  clear hP hS
  intro H locs hP hS
  have hTK := tks_m k2
  have rp_1 : EP tT tN [10] p1 (v p0 8) (v p0 7) (v p0 8) (v p0 7) [10] p1 := EP_0
  refine lv_aload_n hx hb dX7_readBasic_0 rfl (lv_at hl 0 rfl) ?_
  have h_2 : (-2147483648) ≤ v p0 7 ∧ v p0 7 ≤ 2147483647 := xf_7_7 hI q0
  have h_3 : (-2147483648) ≤ v p0 6 ∧ v p0 6 ≤ 2147483647 := xf_7_6 hI q0
  refine jc_i (va_runV (As := []) (rest := []) ⟨hx, hb, hml, hown, hts⟩ (sX7_word l dC dI _ L cid K N tW sK sV v tT tN p0 hI q0 k2 (by omega)) (cwV 0 hts (jgoodV m_679 m_680 m_681 m_677 m_682) rfl rfl rfl (by decide +kernel) ⟨(Nat.le_of_ble_eq_true rfl), (Nat.le_of_ble_eq_true rfl)⟩) ⟨xP_blind, xrecv hK hP q0 rfl rfl, fun U hU hW => ⟨rfl, xP_of hU hW hP hK hD hX hS (fun _ h => h) hA⟩⟩ rfl rfl hl.1 rfl (lv_room (Nat.le_of_ble_eq_true rfl)) dX7_readBasic_1 ⟨(Nat.le_of_ble_eq_true rfl), (Nat.le_of_ble_eq_true rfl)⟩) hP hS hA (fun r_4 H locs w_5 hP hS => ?_)
  obtain ⟨z_6, rfl, h_7, h_8, h_9⟩ := w_5
  refine lv_bipush (v := iI 27) hx hb dX7_readBasic_4 rfl ?_
  have J14 : ∀ (s0_14 : Int) (H : Heap) (locs : List Loc) (ls : Array Slot), (0 ≤ s0_14 ∧ s0_14 ≤ 1) → ((s0_14 = 1 ∧ twd tT tN (tkx tT tN (v p0 7)) = 27) ∨ (s0_14 = 0 ∧ twd tT tN (tkx tT tN (v p0 7)) ≠ 27)) → va_P (dC, dI) vwCl (xG L cid K N v) H → va_D A (xG L cid K N v) → va_S A s.heap H locs → lv_has ls 3 [(0, .ref p0.toNat), (1, .int (iI p1))] → W p l e ({ frames := 21, cells := 0, slots := 0, locals := 476 }) s m ([.ref p0.toNat, .int (iI p1)] : List Value).toArray below meth c H locs 0 0 Q (F0 m 14 ls [.int (iI s0_14)]) := by
    intro s0_14 H locs ls h_10 h_11 hP hD hS hl
    refine lv_istore_n (i := 2) (lv' := [(2, .int (iI s0_14)), (0, .ref p0.toNat), (1, .int (iI p1))]) hx hb dX7_readBasic_14 rfl hl (by decide) rfl (fun ls hl => ?_)
    refine lv_iload_n hx hb dX7_readBasic_15 rfl (lv_at hl 0 rfl) ?_
    have J34 : ∀ (H : Heap) (locs : List Loc) (ls : Array Slot), ((s0_14 = 1 ∧ twd tT tN (tkx tT tN (v p0 7)) = 27) ∨ (s0_14 = 0 ∧ twd tT tN (tkx tT tN (v p0 7)) ≠ 27 ∧ tkd tT tN (tkx tT tN (v p0 7)) = 91)) → (v p0 7 + 1 < v p0 6) → va_P (dC, dI) vwCl (xG L cid K N v) H → va_D A (xG L cid K N v) → va_S A s.heap H locs → lv_has ls 3 [(2, .int (iI s0_14)), (0, .ref p0.toNat), (1, .int (iI p1))] → W p l e ({ frames := 21, cells := 0, slots := 0, locals := 476 }) s m ([.ref p0.toNat, .int (iI p1)] : List Value).toArray below meth c H locs 0 0 Q (F0 m 34 ls []) := by
      intro H locs ls h_12 h_13 hP hD hS hl
      refine lv_aload_n hx hb dX7_readBasic_34 rfl (lv_at hl 1 rfl) ?_
      have h_14 : (-2147483648) ≤ v p0 8 ∧ v p0 8 ≤ 2147483647 := xf_7_8 hI q0
      refine gx_RX7_50 (y := v p0 8) hx hb hj hown hK hP q0 rfl dX7_readBasic_35 ?_
      refine lv_iconst (v := iI (-1)) hx hb dX7_readBasic_38 rfl ?_
      refine xr_icmp_ne (tgt := 48) hx hb dX7_readBasic_39 (by decide) (by omega) (by omega) (fun h_15 => ?_) (fun h_15 => ?_)
      · refine lv_aload_n hx hb dX7_readBasic_48 rfl (lv_at hl 1 rfl) ?_
        refine jcg_v (va_runV (As := []) (rest := []) ⟨hx, hb, hml, hown, hts⟩ (sX7_refuse l dC dI _ L cid K N tW sK sV v tT tN p0 hI q0 k2 (by omega)) (cwV 0 hts (jgoodV m_683 m_684 m_685 m_677 m_686) rfl rfl rfl (by decide +kernel) ⟨(Nat.le_of_ble_eq_true rfl), (Nat.le_of_ble_eq_true rfl)⟩) ⟨xP_blind, xrecv hK hP q0 rfl rfl, fun U hU hW => ⟨rfl, xP_of hU hW hP hK hD hX hS (fun _ h => h) hA⟩⟩ rfl rfl hl.1 rfl (lv_room (Nat.le_of_ble_eq_true rfl)) dX7_readBasic_49 ⟨(Nat.le_of_ble_eq_true rfl), (Nat.le_of_ble_eq_true rfl)⟩) hD hS hA (fun v_20 H locs w_17 hP hK hD hS => ?_)
        obtain ⟨I_22, f_21, h_19⟩ := w_17
        have hP : va_P (dC, dI) vwCl (xG L cid K N v_20) H := hP
        have hD : va_D A (xG L cid K N v_20) := hD
        have h_23 : (-2147483648) ≤ v_20 p0 8 ∧ v_20 p0 8 ≤ 2147483647 := xf_7_8 I_22 q0
        have rp_24 : EP tT tN [10] p1 (v p0 8) (v p0 7) (v_20 p0 8) (v p0 7) [] (p1) := EP_10b rp_1 (by omega) (by omega) (by omega) (by omega)
        have b_25 : v_20 p0 7 = v p0 7 := (fr_use q0 f_21 rfl)
        rw [← hQ]
        exact W.vret hx hb hr (fun t ht hW => ⟨⟨v_20, rfl, ⟨I_22, (fr_tr f_21 rfl fr_rf), by unfold jF; omega, by omega, by unfold jF; omega, by first | exact (by rw [show v_20 p0 7 = v p0 7 from (fr_use q0 f_21 rfl)]; exact rp_24) | exact EP_x (by omega)⟩, by rw [ht]; exact hP, va_K.moved hW.alike hK, hD⟩, hS.F ht⟩) hS.2.2 dX7_readBasic_52
      · refine lv_iload_n hx hb dX7_readBasic_42 rfl (lv_at hl 2 rfl) ?_
        refine lv_bipush (v := iI 8) hx hb dX7_readBasic_43 rfl ?_
        refine xr_icmp_lt (tgt := 53) hx hb dX7_readBasic_45 (by decide) (by omega) (by omega) (fun h_26 => ?_) (fun h_26 => ?_)
        · refine lv_aload_n hx hb dX7_readBasic_53 rfl (lv_at hl 1 rfl) ?_
          refine jcg_v (va_runV (As := []) (rest := []) ⟨hx, hb, hml, hown, hts⟩ (sX7_advance l dC dI _ L cid K N tW sK sV v p0 hI q0 (by omega)) (cwV 0 hts (jgoodV m_692 m_693 m_694 m_677 m_695) rfl rfl rfl (by decide +kernel) ⟨(Nat.le_of_ble_eq_true rfl), (Nat.le_of_ble_eq_true rfl)⟩) ⟨xP_blind, xrecv hK hP q0 rfl rfl, fun U hU hW => ⟨rfl, xP_of hU hW hP hK hD hX hS (fun _ h => h) hA⟩⟩ rfl rfl hl.1 rfl (lv_room (Nat.le_of_ble_eq_true rfl)) dX7_readBasic_54 ⟨(Nat.le_of_ble_eq_true rfl), (Nat.le_of_ble_eq_true rfl)⟩) hD hS hA (fun v_31 H locs w_28 hP hK hD hS => ?_)
          obtain ⟨I_33, f_32, h_30⟩ := w_28
          have hP : va_P (dC, dI) vwCl (xG L cid K N v_31) H := hP
          have hD : va_D A (xG L cid K N v_31) := hD
          have h_34 : (-2147483648) ≤ v_31 p0 7 ∧ v_31 p0 7 ≤ 2147483647 := xf_7_7 I_33 q0
          refine lv_iload_n hx hb dX7_readBasic_57 rfl (lv_at hl 0 rfl) ?_
          refine xr_if_eq (tgt := 77) hx hb dX7_readBasic_58 (by decide) (by omega) (fun h_35 => ?_) (fun h_35 => ?_)
          · have rp_36 : EP tT tN [10] p1 (v p0 8) (v p0 7) (v p0 8) (v_31 p0 7) [6, 193, 12] (p1 + 1) := EP_10k rp_1 (by omega) (by omega) (by omega)
            refine lv_aload_n hx hb dX7_readBasic_77 rfl (lv_at hl 1 rfl) ?_
            refine lv_iload_n hx hb dX7_readBasic_78 rfl (lv_at hl 2 rfl) ?_
            refine lv_iconst (v := iI 1) hx hb dX7_readBasic_79 rfl ?_
            refine xr_add hx hb dX7_readBasic_80 ?_
            have b_37 : v_31 p0 6 = v p0 6 := (fr_use q0 f_32 rfl)
            refine jcg_v (va_runV (As := [.int (iI (p1 + 1))]) (rest := []) ⟨hx, hb, hml, hown, hts⟩ (sX7_readEither_q4 l dC dI _ L cid K N tW sK sV v_31 tT tN p0 (p1 + 1) I_33 q0 (by omega) (by omega) (tks_fr hI q0 (show fr K [(7, 7)] v_31 v from (fr_tr f_32 rfl fr_rf)) rfl rfl rfl rfl rfl rfl rfl (fun _ => rfl) (fun _ => rfl) (fun _ => rfl) (fun _ => rfl) (fun _ => rfl) k2) (by omega)) (cwV 1 hts (jgoodV m_724 m_725 m_726 m_677 m_727) rfl rfl rfl (by decide +kernel) ⟨(Nat.le_of_ble_eq_true rfl), (Nat.le_of_ble_eq_true rfl)⟩) ⟨xP_blind, xrecv hK hP q0 rfl rfl, fun U hU hW => ⟨rfl, xP_of hU hW hP hK hD hX hS (fun _ h => h) hA⟩⟩ rfl rfl hl.1 rfl (lv_room (Nat.le_of_ble_eq_true rfl)) dX7_readBasic_81 ⟨(Nat.le_of_ble_eq_true rfl), (Nat.le_of_ble_eq_true rfl)⟩) hD hS hA (fun v_45 H locs w_39 hP hK hD hS => ?_)
            obtain ⟨I_47, f_46, h_41, h_42, h_43, h_44⟩ := w_39
            have hP : va_P (dC, dI) vwCl (xG L cid K N v_45) H := hP
            have hD : va_D A (xG L cid K N v_45) := hD
            have b_48 : v_31 p0 6 = v p0 6 := (fr_use q0 f_32 rfl)
            have b_49 : v_31 p0 8 = v p0 8 := (fr_use q0 f_32 rfl)
            have h_50 : (-2147483648) ≤ v_45 p0 8 ∧ v_45 p0 8 ≤ 2147483647 := xf_7_8 I_47 q0
            have h_51 : (-2147483648) ≤ v_45 p0 7 ∧ v_45 p0 7 ≤ 2147483647 := xf_7_7 I_47 q0
            rw [show v_31 p0 8 = v p0 8 from (fr_use q0 f_32 rfl)] at h_41
            rw [show v_31 p0 8 = v p0 8 from (fr_use q0 f_32 rfl)] at h_43
            rw [show v_31 p0 8 = v p0 8 from (fr_use q0 f_32 rfl)] at h_44
            have rp_52 : EP tT tN [10] p1 (v p0 8) (v p0 7) (v_45 p0 8) (v_45 p0 7) [193, 12] (p1 + 1) := EP_c rp_36 h_44 h_41
            have g_53 : v_45 p0 8 ≠ -1 ∨ v_31 p0 7 + 1 ≤ v_45 p0 7 := jF_2 h_43 (by omega)
            refine lv_aload_n hx hb dX7_readBasic_84 rfl (lv_at hl 1 rfl) ?_
            refine lv_bipush (v := iI 93) hx hb dX7_readBasic_85 rfl ?_
            have b_54 : v_45 p0 6 = v p0 6 := (((fr_use q0 f_46 rfl)).trans (fr_use q0 f_32 rfl))
            refine jcg_v (va_runV (As := [.int (iI 93)]) (rest := []) ⟨hx, hb, hml, hown, hts⟩ (sX7_expect l dC dI _ L cid K N tW sK sV v_45 tT tN p0 93 I_47 q0 (by omega) (tks_fr hI q0 (show fr K [(7, 7), (7, 8), (7, 10), (25, (-1))] v_45 v from (fr_tr f_46 rfl (fr_tr f_32 rfl fr_rf))) rfl rfl rfl rfl rfl rfl rfl (fun _ => rfl) (fun _ => rfl) (fun _ => rfl) (fun _ => rfl) (fun _ => rfl) k2) (by omega) (by omega)) (cwV 1 hts (jgoodV m_708 m_709 m_710 m_677 m_711) rfl rfl rfl (by decide +kernel) ⟨(Nat.le_of_ble_eq_true rfl), (Nat.le_of_ble_eq_true rfl)⟩) ⟨xP_blind, xrecv hK hP q0 rfl rfl, fun U hU hW => ⟨rfl, xP_of hU hW hP hK hD hX hS (fun _ h => h) hA⟩⟩ rfl rfl hl.1 rfl (lv_room (Nat.le_of_ble_eq_true rfl)) dX7_readBasic_87 ⟨(Nat.le_of_ble_eq_true rfl), (Nat.le_of_ble_eq_true rfl)⟩) hD hS hA (fun v_62 H locs w_56 hP hK hD hS => ?_)
            obtain ⟨I_64, f_63, h_58, h_59, h_60, h_61⟩ := w_56
            have hP : va_P (dC, dI) vwCl (xG L cid K N v_62) H := hP
            have hD : va_D A (xG L cid K N v_62) := hD
            have b_65 : v_45 p0 6 = v p0 6 := (((fr_use q0 f_46 rfl)).trans (fr_use q0 f_32 rfl))
            have h_66 : (-2147483648) ≤ v_62 p0 8 ∧ v_62 p0 8 ≤ 2147483647 := xf_7_8 I_64 q0
            have h_67 : (-2147483648) ≤ v_62 p0 7 ∧ v_62 p0 7 ≤ 2147483647 := xf_7_7 I_64 q0
            have rp_68 : EP tT tN [10] p1 (v p0 8) (v p0 7) (v_62 p0 8) (v_62 p0 7) [12] (p1 + 1) := EP_c rp_52 (h_61 193 (p1 + 1) (by omega)) h_58
            have g_69 : v_45 p0 8 = -1 ∨ v_62 p0 8 = v_45 p0 8 := jF_o h_58
            have g_70 : v_45 p0 8 ≠ -1 ∨ v_62 p0 8 ≠ -1 ∨ v_45 p0 7 + 1 ≤ v_62 p0 7 := jF_3 h_60
            have rp_71 : EP tT tN [10] p1 (v p0 8) (v p0 7) (v_62 p0 8) (v_62 p0 7) [] (p1) := by have h9 := EP_12 rp_68; rw [show p1 + 1 - 1 = p1 by omega] at h9; exact h9
            rw [← hQ]
            exact W.vret hx hb hr (fun t ht hW => ⟨⟨v_62, rfl, ⟨I_64, (fr_tr f_63 rfl (fr_tr f_46 rfl (fr_tr f_32 rfl fr_rf))), by unfold jF; omega, by omega, by unfold jF; omega, by first | exact rp_71 | exact EP_x (by omega)⟩, by rw [ht]; exact hP, va_K.moved hW.alike hK, hD⟩, hS.F ht⟩) hS.2.2 dX7_readBasic_90
          · have rp_72 : EP tT tN [10] p1 (v p0 8) (v p0 7) (v p0 8) (v_31 p0 7) [10, 12] (p1 + 1) := EP_10n rp_1 (by omega) (by omega) (by omega)
            refine lv_aload_n hx hb dX7_readBasic_61 rfl (lv_at hl 1 rfl) ?_
            refine lv_iload_n hx hb dX7_readBasic_62 rfl (lv_at hl 2 rfl) ?_
            refine lv_iconst (v := iI 1) hx hb dX7_readBasic_63 rfl ?_
            refine xr_add hx hb dX7_readBasic_64 ?_
            have b_73 : v_31 p0 6 = v p0 6 := (fr_use q0 f_32 rfl)
            refine jcg_v (va_runV (As := [.int (iI (p1 + 1))]) (rest := []) ⟨hx, hb, hml, hown, hts⟩ (sX7_readBasic_q4 l dC dI _ L cid K N tW sK sV v_31 tT tN p0 (p1 + 1) I_33 q0 (by omega) (by omega) (tks_fr hI q0 (show fr K [(7, 7)] v_31 v from (fr_tr f_32 rfl fr_rf)) rfl rfl rfl rfl rfl rfl rfl (fun _ => rfl) (fun _ => rfl) (fun _ => rfl) (fun _ => rfl) (fun _ => rfl) k2) (by omega)) (cwV 1 hts (jgoodV m_716 m_717 m_718 m_677 m_719) rfl rfl rfl (by decide +kernel) ⟨(Nat.le_of_ble_eq_true rfl), (Nat.le_of_ble_eq_true rfl)⟩) ⟨xP_blind, xrecv hK hP q0 rfl rfl, fun U hU hW => ⟨rfl, xP_of hU hW hP hK hD hX hS (fun _ h => h) hA⟩⟩ rfl rfl hl.1 rfl (lv_room (Nat.le_of_ble_eq_true rfl)) dX7_readBasic_65 ⟨(Nat.le_of_ble_eq_true rfl), (Nat.le_of_ble_eq_true rfl)⟩) hD hS hA (fun v_81 H locs w_75 hP hK hD hS => ?_)
            obtain ⟨I_83, f_82, h_77, h_78, h_79, h_80⟩ := w_75
            have hP : va_P (dC, dI) vwCl (xG L cid K N v_81) H := hP
            have hD : va_D A (xG L cid K N v_81) := hD
            have b_84 : v_31 p0 6 = v p0 6 := (fr_use q0 f_32 rfl)
            have b_85 : v_31 p0 8 = v p0 8 := (fr_use q0 f_32 rfl)
            have h_86 : (-2147483648) ≤ v_81 p0 8 ∧ v_81 p0 8 ≤ 2147483647 := xf_7_8 I_83 q0
            have h_87 : (-2147483648) ≤ v_81 p0 7 ∧ v_81 p0 7 ≤ 2147483647 := xf_7_7 I_83 q0
            rw [show v_31 p0 8 = v p0 8 from (fr_use q0 f_32 rfl)] at h_77
            rw [show v_31 p0 8 = v p0 8 from (fr_use q0 f_32 rfl)] at h_79
            rw [show v_31 p0 8 = v p0 8 from (fr_use q0 f_32 rfl)] at h_80
            have rp_88 : EP tT tN [10] p1 (v p0 8) (v p0 7) (v_81 p0 8) (v_81 p0 7) [12] (p1 + 1) := EP_c rp_72 h_80 h_77
            have g_89 : v_81 p0 8 ≠ -1 ∨ v_31 p0 7 + 1 ≤ v_81 p0 7 := jF_2 h_79 (by omega)
            have rp_90 : EP tT tN [10] p1 (v p0 8) (v p0 7) (v_81 p0 8) (v_81 p0 7) [] (p1) := by have h9 := EP_12 rp_88; rw [show p1 + 1 - 1 = p1 by omega] at h9; exact h9
            refine lv_aload_n hx hb dX7_readBasic_68 rfl (lv_at hl 1 rfl) ?_
            refine lv_bipush (v := iI (-20)) hx hb dX7_readBasic_69 rfl ?_
            refine jcg_v (va_runV (As := [.int (iI (-20))]) (rest := []) ⟨hx, hb, hml, hown, hts⟩ (sX7_emit l dC dI _ L cid K N tW sK sV v_81 p0 (-20) I_83 q0 (by omega)) (cwV 1 hts (jgoodV m_688 m_689 m_690 m_677 m_691) rfl rfl rfl (by decide +kernel) ⟨(Nat.le_of_ble_eq_true rfl), (Nat.le_of_ble_eq_true rfl)⟩) ⟨xP_blind, xrecv hK hP q0 rfl rfl, fun U hU hW => ⟨rfl, xP_of hU hW hP hK hD hX hS (fun _ h => h) hA⟩⟩ rfl rfl hl.1 rfl (lv_room (Nat.le_of_ble_eq_true rfl)) dX7_readBasic_71 ⟨(Nat.le_of_ble_eq_true rfl), (Nat.le_of_ble_eq_true rfl)⟩) hD hS hA (fun v_94 H locs w_92 hP hK hD hS => ?_)
            obtain ⟨I_96, f_95⟩ := w_92
            have hP : va_P (dC, dI) vwCl (xG L cid K N v_94) H := hP
            have hD : va_D A (xG L cid K N v_94) := hD
            refine lv_goto (tgt := 90) hx hb dX7_readBasic_74 (by decide) ?_
            have b_97 : v_94 p0 8 = v_81 p0 8 := (fr_use q0 f_95 rfl)
            have b_98 : v_94 p0 7 = v_81 p0 7 := (fr_use q0 f_95 rfl)
            rw [← hQ]
            exact W.vret hx hb hr (fun t ht hW => ⟨⟨v_94, rfl, ⟨I_96, (fr_tr f_95 rfl (fr_tr f_82 rfl (fr_tr f_32 rfl fr_rf))), by unfold jF; omega, by omega, by unfold jF; omega, by first | exact (by rw [show v_94 p0 8 = v_81 p0 8 from (fr_use q0 f_95 rfl), show v_94 p0 7 = v_81 p0 7 from (fr_use q0 f_95 rfl)]; exact rp_90) | exact EP_x (by omega)⟩, by rw [ht]; exact hP, va_K.moved hW.alike hK, hD⟩, hS.F ht⟩) hS.2.2 dX7_readBasic_90
        · exfalso; omega
    refine xr_if_ne (tgt := 34) hx hb dX7_readBasic_16 (by decide) (by omega) (fun h_99 => ?_) (fun h_99 => ?_)
    · exact J34 H locs ls (by omega) (by omega) hP hD hS hl
    · refine lv_aload_n hx hb dX7_readBasic_19 rfl (lv_at hl 1 rfl) ?_
      refine jc_i (va_runV (As := []) (rest := []) ⟨hx, hb, hml, hown, hts⟩ (sX7_kind l dC dI _ L cid K N tW sK sV v tT tN p0 hI q0 k2 (by omega)) (cwV 0 hts (jgoodV m_674 m_675 m_676 m_677 m_678) rfl rfl rfl (by decide +kernel) ⟨(Nat.le_of_ble_eq_true rfl), (Nat.le_of_ble_eq_true rfl)⟩) ⟨xP_blind, xrecv hK hP q0 rfl rfl, fun U hU hW => ⟨rfl, xP_of hU hW hP hK hD hX hS (fun _ h => h) hA⟩⟩ rfl rfl hl.1 rfl (lv_room (Nat.le_of_ble_eq_true rfl)) dX7_readBasic_20 ⟨(Nat.le_of_ble_eq_true rfl), (Nat.le_of_ble_eq_true rfl)⟩) hP hS hA (fun r_100 H locs w_101 hP hS => ?_)
      obtain ⟨z_102, rfl, h_103, h_104, h_105⟩ := w_101
      refine lv_bipush (v := iI 91) hx hb dX7_readBasic_23 rfl ?_
      refine xr_icmp_eq (tgt := 34) hx hb dX7_readBasic_25 (by decide) (by omega) (by omega) (fun h_106 => ?_) (fun h_106 => ?_)
      · exact J34 H locs ls (by omega) (by omega) hP hD hS hl
      · have rp_107 : EP tT tN [10] p1 (v p0 8) (v p0 7) (v p0 8) (v p0 7) [1, 11] (p1) := EP_10c rp_1 (by omega)
        refine lv_aload_n hx hb dX7_readBasic_28 rfl (lv_at hl 1 rfl) ?_
        refine lv_iload_n hx hb dX7_readBasic_29 rfl (lv_at hl 2 rfl) ?_
        refine jcg_v (va_runV (As := [.int (iI p1)]) (rest := []) ⟨hx, hb, hml, hown, hts⟩ (sX7_readComparison_q3 l dC dI _ L cid K N tW sK sV v tT tN p0 p1 hI q0 (by omega) (by omega) k2 (by omega)) (cwV 1 hts (jgoodV m_712 m_713 m_714 m_677 m_715) rfl rfl rfl (by decide +kernel) ⟨(Nat.le_of_ble_eq_true rfl), (Nat.le_of_ble_eq_true rfl)⟩) ⟨xP_blind, xrecv hK hP q0 rfl rfl, fun U hU hW => ⟨rfl, xP_of hU hW hP hK hD hX hS (fun _ h => h) hA⟩⟩ rfl rfl hl.1 rfl (lv_room (Nat.le_of_ble_eq_true rfl)) dX7_readBasic_30 ⟨(Nat.le_of_ble_eq_true rfl), (Nat.le_of_ble_eq_true rfl)⟩) hD hS hA (fun v_115 H locs w_109 hP hK hD hS => ?_)
        obtain ⟨I_117, f_116, h_111, h_112, h_113, h_114⟩ := w_109
        have hP : va_P (dC, dI) vwCl (xG L cid K N v_115) H := hP
        have hD : va_D A (xG L cid K N v_115) := hD
        have h_118 : (-2147483648) ≤ v p0 8 ∧ v p0 8 ≤ 2147483647 := xf_7_8 hI q0
        have h_119 : (-2147483648) ≤ v_115 p0 8 ∧ v_115 p0 8 ≤ 2147483647 := xf_7_8 I_117 q0
        have h_120 : (-2147483648) ≤ v_115 p0 7 ∧ v_115 p0 7 ≤ 2147483647 := xf_7_7 I_117 q0
        have rp_121 : EP tT tN [10] p1 (v p0 8) (v p0 7) (v_115 p0 8) (v_115 p0 7) [] (p1) := EP_tr rp_107 h_114 h_111
        have g_122 : v p0 8 = -1 ∨ v_115 p0 8 = v p0 8 := jF_o h_111
        have g_123 : v p0 8 ≠ -1 ∨ v_115 p0 8 ≠ -1 ∨ v p0 7 + 1 ≤ v_115 p0 7 := jF_3 h_113
        rw [← hQ]
        exact W.vret hx hb hr (fun t ht hW => ⟨⟨v_115, rfl, ⟨I_117, (fr_tr f_116 rfl fr_rf), by unfold jF; omega, by omega, by unfold jF; omega, by first | exact rp_121 | exact EP_x (by omega)⟩, by rw [ht]; exact hP, va_K.moved hW.alike hK, hD⟩, hS.F ht⟩) hS.2.2 dX7_readBasic_33
  refine xr_icmp_ne (tgt := 13) hx hb dX7_readBasic_6 (by decide) (by omega) (by omega) (fun h_124 => ?_) (fun h_124 => ?_)
  · refine lv_iconst (v := iI 0) hx hb dX7_readBasic_13 rfl ?_
    exact J14 0 H locs ls (by omega) (by omega) hP hD hS hl
  · refine lv_iconst (v := iI 1) hx hb dX7_readBasic_9 rfl ?_
    refine lv_goto (tgt := 14) hx hb dX7_readBasic_10 (by decide) ?_
    exact J14 1 H locs ls (by omega) (by omega) hP hD hS hl
