set_option maxHeartbeats 2000000 in
set_option maxRecDepth 100000 in
theorem sX7_readBoth_q0 (l : Launch) (dC : Nat → ClassId) (dI : Nat → Nat → Nat) (sz : Nat) (L : List Nat) (cid : Nat → ClassId) (K : Int → Nat) (N : Int → Int) (tW : Nat) (sK sV : Nat → Nat) (v : Int → Int → Int) (tT : Int → Int) (tN : Int) (p0 : Int) (p1 : Int) (hI : xI L K N v) (q0 : ok L K p0 7) (q1 : rg p1) (k1 : 0 ≤ p1 ∧ p1 ≤ 0) (k2 : tks tT tN v p0) (k3 : 0 ≤ v p0 7 ∧ v p0 7 < v p0 6) : Met l yX7_readBoth (jk yX7_readBoth cX7_readBoth 3 none) ({ frames := 31, cells := 0, slots := 0, locals := 705 }) (va_Pc [.ref p0.toNat, .int (iI p1)] (xP (dC, dI) (xG L cid K N v) (xT cid) tW sK sV sz)) (va_Qv (fun (u : (Int → Int → Int)) => (xI L K N u) ∧ (fr K [(7, 7), (7, 8), (7, 10), (25, (-1))] u v) ∧ (jF (v p0 8 ≠ -1) (u p0 8 = v p0 8)) ∧ (0 ≤ u p0 7 ∧ v p0 7 ≤ u p0 7 ∧ u p0 7 < v p0 6) ∧ (jF (v p0 8 = -1 ∧ u p0 8 = -1) (v p0 7 + 1 ≤ u p0 7)) ∧ (EP tT tN [8] p1 (v p0 8) (v p0 7) (u p0 8) (u p0 7) [] p1)) (fun u t => va_P (dC, dI) vwCl (xG L cid K N u) t.heap ∧ va_K (dC, dI) vwCl (xT cid) t ∧ va_D (va_A (xG L cid K N v) sz) (xG L cid K N u)) (va_A (xG L cid K N v) sz)) 0 0 (va_A (xG L cid K N v) sz) := by
  refine Met.ofW (cc := cX7_readBoth) (maxL := 3) (ret := none) (by decide) rfl ?_
  intro p e s m args below meth c s₁ B hml hv
  obtain ⟨rfl, ⟨hsz, hP, hK, hD0⟩, hX⟩ := hv
  have hx := B.exec
  have hb := B.bytes
  have hr := B.returns
  have hts := atoms_spec (ws := (jk yX7_readBoth cX7_readBoth 3 none)) B.pre
  have hj : ∀ w ∈ jw, w.before ([.ref p0.toNat, .int (iI p1)] : List Value).toArray s = true := fun w h => hts w (jm h)
  have hown : s.vm.findClass RX7 = some m.cls := findClass_of_methodNamed B.named
  subst hsz
  have hD := hD0.self (sz := s.heap.size)
  generalize hAe : (va_A (xG L cid K N v) s.heap.size) = A at hD hX ⊢
  have hA : ∀ q : Nat, s.heap.size ≤ q → A q := fun q h => by rw [← hAe]; exact Or.inr h
  have hS : va_S A s.heap s.heap [] := va_S.rf
  have hXa := hX
  have hP : va_P (dC, dI) vwCl (xG L cid K N v) s.heap := hP
  have hl := lv_entry ([.ref p0.toNat, .int (iI p1)]) (n := 3) (Nat.le_of_ble_eq_true rfl)
  rw [lg_entry_eq]
  generalize (lg_sl ([.ref p0.toNat, .int (iI p1)]) ++ List.replicate (3 - (lg_sl ([.ref p0.toNat, .int (iI p1)])).length) Slot.unset).toArray = ls at hl ⊢
  have hl : lv_has ls 3 [(0, .ref p0.toNat), (1, .int (iI p1))] := hl
  generalize hQ : MQ below (va_Qv (fun (u : (Int → Int → Int)) => (xI L K N u) ∧ (fr K [(7, 7), (7, 8), (7, 10), (25, (-1))] u v) ∧ (jF (v p0 8 ≠ -1) (u p0 8 = v p0 8)) ∧ (0 ≤ u p0 7 ∧ v p0 7 ≤ u p0 7 ∧ u p0 7 < v p0 6) ∧ (jF (v p0 8 = -1 ∧ u p0 8 = -1) (v p0 7 + 1 ≤ u p0 7)) ∧ (EP tT tN [8] p1 (v p0 8) (v p0 7) (u p0 8) (u p0 7) [] p1)) (fun u t => va_P (dC, dI) vwCl (xG L cid K N u) t.heap ∧ va_K (dC, dI) vwCl (xT cid) t ∧ va_D A (xG L cid K N u)) A) ([.ref p0.toNat, .int (iI p1)] : List Value).toArray s 0 0 A = Q
  suffices ST : ∀ (H : Heap) (locs : List Loc), va_P (dC, dI) vwCl (xG L cid K N v) H → va_S A s.heap H locs → W p l e ({ frames := 31, cells := 0, slots := 0, locals := 705 }) s m ([.ref p0.toNat, .int (iI p1)] : List Value).toArray below meth c H locs 0 0 Q (F0 m 0 ls []) from ST _ _ hP hS
  clear hP hS
  intro H locs hP hS
  have hTK := tks_m k2
  have rp_1 : EP tT tN [8] p1 (v p0 8) (v p0 7) (v p0 8) (v p0 7) [8] p1 := EP_0
  have rp_2 : EP tT tN [8] p1 (v p0 8) (v p0 7) (v p0 8) (v p0 7) [10, 9] (p1) := EP_8 rp_1
  refine lv_aload_n hx hb dX7_readBoth_0 rfl (lv_at hl 0 rfl) ?_
  refine lv_iload_n hx hb dX7_readBoth_1 rfl (lv_at hl 1 rfl) ?_
  have h_3 : (-2147483648) ≤ v p0 7 ∧ v p0 7 ≤ 2147483647 := xf_7_7 hI q0
  have h_4 : (-2147483648) ≤ v p0 6 ∧ v p0 6 ≤ 2147483647 := xf_7_6 hI q0
  refine jcg_v (va_runV (As := [.int (iI p1)]) (rest := []) ⟨hx, hb, hml, hown, hts⟩ (sX7_readBasic_q0 l dC dI _ L cid K N tW sK sV v tT tN p0 p1 hI q0 (by omega) (by omega) k2 (by omega)) (cwV 1 hts (jgoodV m_716 m_717 m_718 m_677 m_719) rfl rfl rfl (by decide +kernel) ⟨(Nat.le_of_ble_eq_true rfl), (Nat.le_of_ble_eq_true rfl)⟩) ⟨xP_blind, xrecv hK hP q0 rfl rfl, fun U hU hW => ⟨rfl, xP_of hU hW hP hK hD hX hS (fun _ h => h) hA⟩⟩ rfl rfl hl.1 rfl (lv_room (Nat.le_of_ble_eq_true rfl)) dX7_readBoth_2 ⟨(Nat.le_of_ble_eq_true rfl), (Nat.le_of_ble_eq_true rfl)⟩) hD hS hA (fun v_12 H locs w_6 hP hK hD hS => ?_)
  obtain ⟨I_14, f_13, h_8, h_9, h_10, h_11⟩ := w_6
  have hP : va_P (dC, dI) vwCl (xG L cid K N v_12) H := hP
  have hD : va_D A (xG L cid K N v_12) := hD
  have h_15 : (-2147483648) ≤ v p0 8 ∧ v p0 8 ≤ 2147483647 := xf_7_8 hI q0
  have h_16 : (-2147483648) ≤ v_12 p0 8 ∧ v_12 p0 8 ≤ 2147483647 := xf_7_8 I_14 q0
  have h_17 : (-2147483648) ≤ v_12 p0 7 ∧ v_12 p0 7 ≤ 2147483647 := xf_7_7 I_14 q0
  have rp_18 : EP tT tN [8] p1 (v p0 8) (v p0 7) (v_12 p0 8) (v_12 p0 7) [9] (p1) := EP_c rp_2 h_11 h_8
  have g_19 : v p0 8 = -1 ∨ v_12 p0 8 = v p0 8 := jF_o h_8
  have g_20 : v p0 8 ≠ -1 ∨ v_12 p0 8 ≠ -1 ∨ v p0 7 + 1 ≤ v_12 p0 7 := jF_3 h_10
  refine lv_iconst (v := iI 0) hx hb dX7_readBoth_5 rfl ?_
  refine lv_istore_n (i := 2) (lv' := [(2, .int (iI 0)), (0, .ref p0.toNat), (1, .int (iI p1))]) hx hb dX7_readBoth_6 rfl hl (by decide) rfl (fun ls hl => ?_)
  have L7 : ∀ (n7 : Nat) (a2_7 : Int) (vc7 : Int → Int → Int) (H : Heap) (locs : List Loc) (ls : Array Slot), (0 ≤ a2_7 ∧ a2_7 ≤ 2147483647) → (0 ≤ a2_7) → (v p0 7 ≤ vc7 p0 7 ∧ vc7 p0 7 < v p0 6) → (v p0 8 = -1 ∨ vc7 p0 8 = v p0 8) → (vc7 p0 8 ≠ -1 ∨ a2_7 + v p0 7 + 1 ≤ vc7 p0 7) → (EP tT tN [8] p1 (v p0 8) (v p0 7) (vc7 p0 8) (vc7 p0 7) [9] p1) → (0 < (n7 : Int) ∧ (v p0 1) - a2_7 < (n7 : Int)) → fr K [(7, 7), (7, 8), (7, 10), (25, (-1))] vc7 v_12 → xI L K N vc7 → va_P (dC, dI) vwCl (xG L cid K N vc7) H → va_D A (xG L cid K N vc7) → va_S A s.heap H locs → lv_has ls 3 [(2, .int (iI a2_7)), (0, .ref p0.toNat), (1, .int (iI p1))] → W p l e ({ frames := 31, cells := 0, slots := 0, locals := 705 }) s m ([.ref p0.toNat, .int (iI p1)] : List Value).toArray below meth c H locs 0 0 Q (F0 m 7 ls []) := by
    intro n7
    induction n7 with
    | zero =>
      intro a2_7 vc7 H locs ls h_21 h_22 h_23 h_24 h_25 h_26 hm7 f_27 I_28 hP hD hS hl
      exfalso; omega
    | succ n7 ih7 =>
      intro a2_7 vc7 H locs ls h_29 h_30 h_31 h_32 h_33 h_34 hm7 f_35 I_36 hP hD hS hl
      have rp_37 : EP tT tN [8] p1 (v p0 8) (v p0 7) (vc7 p0 8) (vc7 p0 7) [9] p1 := by assumption
      refine lv_iload_n hx hb dX7_readBoth_7 rfl (lv_at hl 0 rfl) ?_
      refine lv_aload_n hx hb dX7_readBoth_8 rfl (lv_at hl 1 rfl) ?_
      have h_38 : 0 ≤ v p0 1 ∧ v p0 1 ≤ 600 := xf_7_1 hI q0
      refine gx_RX7_43 (y := v p0 1) hx hb hj hown hK hP q0 (((fr_use q0 f_35 rfl)).trans (fr_use q0 f_13 rfl)) dX7_readBoth_9 ?_
      refine xr_icmp_ge (tgt := 53) hx hb dX7_readBoth_12 (by decide) (by omega) (by omega) (fun h_39 => ?_) (fun h_39 => ?_)
      · have t_40 := tk_lt (T := tT) (n := tN) (j := vc7 p0 7) (by omega)
        have t2 := tks_n k2
        have t3 := twd_d tT tN (tkx tT tN (vc7 p0 7))
        have rp_41 : EP tT tN [8] p1 (v p0 8) (v p0 7) (vc7 p0 8) (vc7 p0 7) [] (p1) := EP_9n rp_37 (by omega)
        have h_42 : (-2147483648) ≤ vc7 p0 8 ∧ vc7 p0 8 ≤ 2147483647 := xf_7_8 I_36 q0
        have h_43 : (-2147483648) ≤ vc7 p0 7 ∧ vc7 p0 7 ≤ 2147483647 := xf_7_7 I_36 q0
        rw [← hQ]
        exact W.vret hx hb hr (fun t ht hW => ⟨⟨vc7, rfl, ⟨I_36, (fr_tr f_35 rfl (fr_tr f_13 rfl fr_rf)), by unfold jF; omega, by omega, by unfold jF; omega, by first | exact rp_41 | exact EP_x (by omega)⟩, by rw [ht]; exact hP, va_K.moved hW.alike hK, hD⟩, hS.F ht⟩) hS.2.2 dX7_readBoth_53
      · refine lv_aload_n hx hb dX7_readBoth_15 rfl (lv_at hl 1 rfl) ?_
        have h_44 : (-2147483648) ≤ vc7 p0 8 ∧ vc7 p0 8 ≤ 2147483647 := xf_7_8 I_36 q0
        refine gx_RX7_50 (y := vc7 p0 8) hx hb hj hown hK hP q0 rfl dX7_readBoth_16 ?_
        refine lv_iconst (v := iI (-1)) hx hb dX7_readBoth_19 rfl ?_
        refine xr_icmp_ne (tgt := 53) hx hb dX7_readBoth_20 (by decide) (by omega) (by omega) (fun h_45 => ?_) (fun h_45 => ?_)
        · have t_46 := tk_lt (T := tT) (n := tN) (j := vc7 p0 7) (by omega)
          have t2 := tks_n k2
          have t3 := twd_d tT tN (tkx tT tN (vc7 p0 7))
          have rp_47 : EP tT tN [8] p1 (v p0 8) (v p0 7) (vc7 p0 8) (vc7 p0 7) [] (p1) := EP_9n rp_37 (by omega)
          have h_48 : (-2147483648) ≤ vc7 p0 7 ∧ vc7 p0 7 ≤ 2147483647 := xf_7_7 I_36 q0
          rw [← hQ]
          exact W.vret hx hb hr (fun t ht hW => ⟨⟨vc7, rfl, ⟨I_36, (fr_tr f_35 rfl (fr_tr f_13 rfl fr_rf)), by unfold jF; omega, by omega, by unfold jF; omega, by first | exact rp_47 | exact EP_x (by omega)⟩, by rw [ht]; exact hP, va_K.moved hW.alike hK, hD⟩, hS.F ht⟩) hS.2.2 dX7_readBoth_53
        · refine lv_aload_n hx hb dX7_readBoth_23 rfl (lv_at hl 1 rfl) ?_
          have h_49 : (-2147483648) ≤ vc7 p0 7 ∧ vc7 p0 7 ≤ 2147483647 := xf_7_7 I_36 q0
          have b_50 : vc7 p0 6 = v p0 6 := (((fr_use q0 f_35 rfl)).trans (fr_use q0 f_13 rfl))
          refine jc_i (va_runV (As := []) (rest := []) ⟨hx, hb, hml, hown, hts⟩ (sX7_word l dC dI _ L cid K N tW sK sV vc7 tT tN p0 I_36 q0 (tks_fr hI q0 (show fr K [(7, 7), (7, 8), (7, 10), (25, (-1))] vc7 v from (fr_tr f_35 rfl (fr_tr f_13 rfl fr_rf))) rfl rfl rfl rfl rfl rfl rfl (fun _ => rfl) (fun _ => rfl) (fun _ => rfl) (fun _ => rfl) (fun _ => rfl) k2) (by omega)) (cwV 0 hts (jgoodV m_679 m_680 m_681 m_677 m_682) rfl rfl rfl (by decide +kernel) ⟨(Nat.le_of_ble_eq_true rfl), (Nat.le_of_ble_eq_true rfl)⟩) ⟨xP_blind, xrecv hK hP q0 rfl rfl, fun U hU hW => ⟨rfl, xP_of hU hW hP hK hD hX hS (fun _ h => h) hA⟩⟩ rfl rfl hl.1 rfl (lv_room (Nat.le_of_ble_eq_true rfl)) dX7_readBoth_24 ⟨(Nat.le_of_ble_eq_true rfl), (Nat.le_of_ble_eq_true rfl)⟩) hP hS hA (fun r_51 H locs w_52 hP hS => ?_)
          obtain ⟨z_53, rfl, h_54, h_55, h_56⟩ := w_52
          have b_57 : vc7 p0 6 = v p0 6 := (((fr_use q0 f_35 rfl)).trans (fr_use q0 f_13 rfl))
          refine lv_bipush (v := iI 26) hx hb dX7_readBoth_27 rfl ?_
          refine xr_icmp_ne (tgt := 53) hx hb dX7_readBoth_29 (by decide) (by omega) (by omega) (fun h_58 => ?_) (fun h_58 => ?_)
          · have t_59 := tk_lt (T := tT) (n := tN) (j := vc7 p0 7) (by omega)
            have t2 := tks_n k2
            have t3 := twd_d tT tN (tkx tT tN (vc7 p0 7))
            have rp_60 : EP tT tN [8] p1 (v p0 8) (v p0 7) (vc7 p0 8) (vc7 p0 7) [] (p1) := EP_9n rp_37 (by omega)
            rw [← hQ]
            exact W.vret hx hb hr (fun t ht hW => ⟨⟨vc7, rfl, ⟨I_36, (fr_tr f_35 rfl (fr_tr f_13 rfl fr_rf)), by unfold jF; omega, by omega, by unfold jF; omega, by first | exact rp_60 | exact EP_x (by omega)⟩, by rw [ht]; exact hP, va_K.moved hW.alike hK, hD⟩, hS.F ht⟩) hS.2.2 dX7_readBoth_53
          · refine lv_aload_n hx hb dX7_readBoth_32 rfl (lv_at hl 1 rfl) ?_
            refine jcg_v (va_runV (As := []) (rest := []) ⟨hx, hb, hml, hown, hts⟩ (sX7_advance l dC dI _ L cid K N tW sK sV vc7 p0 I_36 q0 (by omega)) (cwV 0 hts (jgoodV m_692 m_693 m_694 m_677 m_695) rfl rfl rfl (by decide +kernel) ⟨(Nat.le_of_ble_eq_true rfl), (Nat.le_of_ble_eq_true rfl)⟩) ⟨xP_blind, xrecv hK hP q0 rfl rfl, fun U hU hW => ⟨rfl, xP_of hU hW hP hK hD hX hS (fun _ h => h) hA⟩⟩ rfl rfl hl.1 rfl (lv_room (Nat.le_of_ble_eq_true rfl)) dX7_readBoth_33 ⟨(Nat.le_of_ble_eq_true rfl), (Nat.le_of_ble_eq_true rfl)⟩) hD hS hA (fun v_65 H locs w_62 hP hK hD hS => ?_)
            obtain ⟨I_67, f_66, h_64⟩ := w_62
            have hP : va_P (dC, dI) vwCl (xG L cid K N v_65) H := hP
            have hD : va_D A (xG L cid K N v_65) := hD
            have h_68 : (-2147483648) ≤ v_65 p0 7 ∧ v_65 p0 7 ≤ 2147483647 := xf_7_7 I_67 q0
            have rp_69 : EP tT tN [8] p1 (v p0 8) (v p0 7) (vc7 p0 8) (v_65 p0 7) [10, 9] (p1) := EP_9y rp_37 (by omega) (by omega) (by omega)
            refine lv_aload_n hx hb dX7_readBoth_36 rfl (lv_at hl 1 rfl) ?_
            refine lv_iload_n hx hb dX7_readBoth_37 rfl (lv_at hl 2 rfl) ?_
            have b_70 : v_65 p0 6 = v p0 6 := (((fr_use q0 f_66 rfl)).trans (((fr_use q0 f_35 rfl)).trans (fr_use q0 f_13 rfl)))
            refine jcg_v (va_runV (As := [.int (iI p1)]) (rest := []) ⟨hx, hb, hml, hown, hts⟩ (sX7_readBasic_q0 l dC dI _ L cid K N tW sK sV v_65 tT tN p0 p1 I_67 q0 (by omega) (by omega) (tks_fr hI q0 (show fr K [(7, 7), (7, 8), (7, 10), (25, (-1))] v_65 v from (fr_tr f_66 rfl (fr_tr f_35 rfl (fr_tr f_13 rfl fr_rf)))) rfl rfl rfl rfl rfl rfl rfl (fun _ => rfl) (fun _ => rfl) (fun _ => rfl) (fun _ => rfl) (fun _ => rfl) k2) (by omega)) (cwV 1 hts (jgoodV m_716 m_717 m_718 m_677 m_719) rfl rfl rfl (by decide +kernel) ⟨(Nat.le_of_ble_eq_true rfl), (Nat.le_of_ble_eq_true rfl)⟩) ⟨xP_blind, xrecv hK hP q0 rfl rfl, fun U hU hW => ⟨rfl, xP_of hU hW hP hK hD hX hS (fun _ h => h) hA⟩⟩ rfl rfl hl.1 rfl (lv_room (Nat.le_of_ble_eq_true rfl)) dX7_readBoth_38 ⟨(Nat.le_of_ble_eq_true rfl), (Nat.le_of_ble_eq_true rfl)⟩) hD hS hA (fun v_78 H locs w_72 hP hK hD hS => ?_)
            obtain ⟨I_80, f_79, h_74, h_75, h_76, h_77⟩ := w_72
            have hP : va_P (dC, dI) vwCl (xG L cid K N v_78) H := hP
            have hD : va_D A (xG L cid K N v_78) := hD
            have b_81 : v_65 p0 6 = v p0 6 := (((fr_use q0 f_66 rfl)).trans (((fr_use q0 f_35 rfl)).trans (fr_use q0 f_13 rfl)))
            have b_82 : v_65 p0 8 = vc7 p0 8 := (fr_use q0 f_66 rfl)
            have h_83 : (-2147483648) ≤ v_78 p0 8 ∧ v_78 p0 8 ≤ 2147483647 := xf_7_8 I_80 q0
            have h_84 : (-2147483648) ≤ v_78 p0 7 ∧ v_78 p0 7 ≤ 2147483647 := xf_7_7 I_80 q0
            rw [show v_65 p0 8 = vc7 p0 8 from (fr_use q0 f_66 rfl)] at h_74
            rw [show v_65 p0 8 = vc7 p0 8 from (fr_use q0 f_66 rfl)] at h_76
            rw [show v_65 p0 8 = vc7 p0 8 from (fr_use q0 f_66 rfl)] at h_77
            have rp_85 : EP tT tN [8] p1 (v p0 8) (v p0 7) (v_78 p0 8) (v_78 p0 7) [9] (p1) := EP_c rp_69 h_77 h_74
            have g_86 : v_78 p0 8 ≠ -1 ∨ v_65 p0 7 + 1 ≤ v_78 p0 7 := jF_2 h_76 (by omega)
            refine lv_aload_n hx hb dX7_readBoth_41 rfl (lv_at hl 1 rfl) ?_
            refine lv_bipush (v := iI (-18)) hx hb dX7_readBoth_42 rfl ?_
            refine jcg_v (va_runV (As := [.int (iI (-18))]) (rest := []) ⟨hx, hb, hml, hown, hts⟩ (sX7_emit l dC dI _ L cid K N tW sK sV v_78 p0 (-18) I_80 q0 (by omega)) (cwV 1 hts (jgoodV m_688 m_689 m_690 m_677 m_691) rfl rfl rfl (by decide +kernel) ⟨(Nat.le_of_ble_eq_true rfl), (Nat.le_of_ble_eq_true rfl)⟩) ⟨xP_blind, xrecv hK hP q0 rfl rfl, fun U hU hW => ⟨rfl, xP_of hU hW hP hK hD hX hS (fun _ h => h) hA⟩⟩ rfl rfl hl.1 rfl (lv_room (Nat.le_of_ble_eq_true rfl)) dX7_readBoth_44 ⟨(Nat.le_of_ble_eq_true rfl), (Nat.le_of_ble_eq_true rfl)⟩) hD hS hA (fun v_90 H locs w_88 hP hK hD hS => ?_)
            obtain ⟨I_92, f_91⟩ := w_88
            have hP : va_P (dC, dI) vwCl (xG L cid K N v_90) H := hP
            have hD : va_D A (xG L cid K N v_90) := hD
            refine lv_iinc (v := iI (a2_7 + 1)) (lv' := [(2, .int (iI (a2_7 + 1))), (0, .ref p0.toNat), (1, .int (iI p1))]) hx hb dX7_readBoth_47 hl (k := 0) rfl (iI_add _ _) (by decide) rfl (fun ls hl => ?_)
            refine lv_goto (tgt := 7) hx hb dX7_readBoth_50 (by decide) ?_
            have b_93 : v_90 p0 8 = v_78 p0 8 := (fr_use q0 f_91 rfl)
            have b_94 : v_90 p0 7 = v_78 p0 7 := (fr_use q0 f_91 rfl)
            exact ih7 (a2_7 + 1) v_90 H locs ls (by omega) (by omega) (by omega) (by omega) (by omega) (by exact (by rw [show v_90 p0 8 = v_78 p0 8 from (fr_use q0 f_91 rfl), show v_90 p0 7 = v_78 p0 7 from (fr_use q0 f_91 rfl)]; exact rp_85)) (by omega) (fr_tr f_91 rfl (fr_tr f_79 rfl (fr_tr f_66 rfl (fr_tr f_35 rfl fr_rf)))) I_92 hP hD hS hl
  exact L7 ((((v p0 1) - 0 : Int)).toNat + 1) 0 v_12 H locs ls (by omega) (by omega) (by omega) (by omega) (by omega) (by exact rp_18) (by omega) fr_rf I_14 hP hD hS hl
set_option maxHeartbeats 2000000 in
set_option maxRecDepth 100000 in
theorem sX7_readEither_q0 (l : Launch) (dC : Nat → ClassId) (dI : Nat → Nat → Nat) (sz : Nat) (L : List Nat) (cid : Nat → ClassId) (K : Int → Nat) (N : Int → Int) (tW : Nat) (sK sV : Nat → Nat) (v : Int → Int → Int) (tT : Int → Int) (tN : Int) (p0 : Int) (p1 : Int) (hI : xI L K N v) (q0 : ok L K p0 7) (q1 : rg p1) (k1 : 0 ≤ p1 ∧ p1 ≤ 0) (k2 : tks tT tN v p0) (k3 : 0 ≤ v p0 7 ∧ v p0 7 < v p0 6) : Met l yX7_readEither (jk yX7_readEither cX7_readEither 3 none) ({ frames := 32, cells := 0, slots := 0, locals := 727 }) (va_Pc [.ref p0.toNat, .int (iI p1)] (xP (dC, dI) (xG L cid K N v) (xT cid) tW sK sV sz)) (va_Qv (fun (u : (Int → Int → Int)) => (xI L K N u) ∧ (fr K [(7, 7), (7, 8), (7, 10), (25, (-1))] u v) ∧ (jF (v p0 8 ≠ -1) (u p0 8 = v p0 8)) ∧ (0 ≤ u p0 7 ∧ v p0 7 ≤ u p0 7 ∧ u p0 7 < v p0 6) ∧ (jF (v p0 8 = -1 ∧ u p0 8 = -1) (v p0 7 + 1 ≤ u p0 7)) ∧ (EP tT tN [6] p1 (v p0 8) (v p0 7) (u p0 8) (u p0 7) [] p1)) (fun u t => va_P (dC, dI) vwCl (xG L cid K N u) t.heap ∧ va_K (dC, dI) vwCl (xT cid) t ∧ va_D (va_A (xG L cid K N v) sz) (xG L cid K N u)) (va_A (xG L cid K N v) sz)) 0 0 (va_A (xG L cid K N v) sz) := by
  refine Met.ofW (cc := cX7_readEither) (maxL := 3) (ret := none) (by decide) rfl ?_
  intro p e s m args below meth c s₁ B hml hv
  obtain ⟨rfl, ⟨hsz, hP, hK, hD0⟩, hX⟩ := hv
  have hx := B.exec
  have hb := B.bytes
  have hr := B.returns
  have hts := atoms_spec (ws := (jk yX7_readEither cX7_readEither 3 none)) B.pre
  have hj : ∀ w ∈ jw, w.before ([.ref p0.toNat, .int (iI p1)] : List Value).toArray s = true := fun w h => hts w (jm h)
  have hown : s.vm.findClass RX7 = some m.cls := findClass_of_methodNamed B.named
  subst hsz
  have hD := hD0.self (sz := s.heap.size)
  generalize hAe : (va_A (xG L cid K N v) s.heap.size) = A at hD hX ⊢
  have hA : ∀ q : Nat, s.heap.size ≤ q → A q := fun q h => by rw [← hAe]; exact Or.inr h
  have hS : va_S A s.heap s.heap [] := va_S.rf
  have hXa := hX
  have hP : va_P (dC, dI) vwCl (xG L cid K N v) s.heap := hP
  have hl := lv_entry ([.ref p0.toNat, .int (iI p1)]) (n := 3) (Nat.le_of_ble_eq_true rfl)
  rw [lg_entry_eq]
  generalize (lg_sl ([.ref p0.toNat, .int (iI p1)]) ++ List.replicate (3 - (lg_sl ([.ref p0.toNat, .int (iI p1)])).length) Slot.unset).toArray = ls at hl ⊢
  have hl : lv_has ls 3 [(0, .ref p0.toNat), (1, .int (iI p1))] := hl
  generalize hQ : MQ below (va_Qv (fun (u : (Int → Int → Int)) => (xI L K N u) ∧ (fr K [(7, 7), (7, 8), (7, 10), (25, (-1))] u v) ∧ (jF (v p0 8 ≠ -1) (u p0 8 = v p0 8)) ∧ (0 ≤ u p0 7 ∧ v p0 7 ≤ u p0 7 ∧ u p0 7 < v p0 6) ∧ (jF (v p0 8 = -1 ∧ u p0 8 = -1) (v p0 7 + 1 ≤ u p0 7)) ∧ (EP tT tN [6] p1 (v p0 8) (v p0 7) (u p0 8) (u p0 7) [] p1)) (fun u t => va_P (dC, dI) vwCl (xG L cid K N u) t.heap ∧ va_K (dC, dI) vwCl (xT cid) t ∧ va_D A (xG L cid K N u)) A) ([.ref p0.toNat, .int (iI p1)] : List Value).toArray s 0 0 A = Q
  suffices ST : ∀ (H : Heap) (locs : List Loc), va_P (dC, dI) vwCl (xG L cid K N v) H → va_S A s.heap H locs → W p l e ({ frames := 32, cells := 0, slots := 0, locals := 727 }) s m ([.ref p0.toNat, .int (iI p1)] : List Value).toArray below meth c H locs 0 0 Q (F0 m 0 ls []) from ST _ _ hP hS
  clear hP hS
  intro H locs hP hS
  have hTK := tks_m k2
  have rp_1 : EP tT tN [6] p1 (v p0 8) (v p0 7) (v p0 8) (v p0 7) [6] p1 := EP_0
  have rp_2 : EP tT tN [6] p1 (v p0 8) (v p0 7) (v p0 8) (v p0 7) [8, 7] (p1) := EP_6 rp_1
  refine lv_aload_n hx hb dX7_readEither_0 rfl (lv_at hl 0 rfl) ?_
  refine lv_iload_n hx hb dX7_readEither_1 rfl (lv_at hl 1 rfl) ?_
  have h_3 : (-2147483648) ≤ v p0 7 ∧ v p0 7 ≤ 2147483647 := xf_7_7 hI q0
  have h_4 : (-2147483648) ≤ v p0 6 ∧ v p0 6 ≤ 2147483647 := xf_7_6 hI q0
  refine jcg_v (va_runV (As := [.int (iI p1)]) (rest := []) ⟨hx, hb, hml, hown, hts⟩ (sX7_readBoth_q0 l dC dI _ L cid K N tW sK sV v tT tN p0 p1 hI q0 (by omega) (by omega) k2 (by omega)) (cwV 1 hts (jgoodV m_720 m_721 m_722 m_677 m_723) rfl rfl rfl (by decide +kernel) ⟨(Nat.le_of_ble_eq_true rfl), (Nat.le_of_ble_eq_true rfl)⟩) ⟨xP_blind, xrecv hK hP q0 rfl rfl, fun U hU hW => ⟨rfl, xP_of hU hW hP hK hD hX hS (fun _ h => h) hA⟩⟩ rfl rfl hl.1 rfl (lv_room (Nat.le_of_ble_eq_true rfl)) dX7_readEither_2 ⟨(Nat.le_of_ble_eq_true rfl), (Nat.le_of_ble_eq_true rfl)⟩) hD hS hA (fun v_12 H locs w_6 hP hK hD hS => ?_)
  obtain ⟨I_14, f_13, h_8, h_9, h_10, h_11⟩ := w_6
  have hP : va_P (dC, dI) vwCl (xG L cid K N v_12) H := hP
  have hD : va_D A (xG L cid K N v_12) := hD
  have h_15 : (-2147483648) ≤ v p0 8 ∧ v p0 8 ≤ 2147483647 := xf_7_8 hI q0
  have h_16 : (-2147483648) ≤ v_12 p0 8 ∧ v_12 p0 8 ≤ 2147483647 := xf_7_8 I_14 q0
  have h_17 : (-2147483648) ≤ v_12 p0 7 ∧ v_12 p0 7 ≤ 2147483647 := xf_7_7 I_14 q0
  have rp_18 : EP tT tN [6] p1 (v p0 8) (v p0 7) (v_12 p0 8) (v_12 p0 7) [7] (p1) := EP_c rp_2 h_11 h_8
  have g_19 : v p0 8 = -1 ∨ v_12 p0 8 = v p0 8 := jF_o h_8
  have g_20 : v p0 8 ≠ -1 ∨ v_12 p0 8 ≠ -1 ∨ v p0 7 + 1 ≤ v_12 p0 7 := jF_3 h_10
  refine lv_iconst (v := iI 0) hx hb dX7_readEither_5 rfl ?_
  refine lv_istore_n (i := 2) (lv' := [(2, .int (iI 0)), (0, .ref p0.toNat), (1, .int (iI p1))]) hx hb dX7_readEither_6 rfl hl (by decide) rfl (fun ls hl => ?_)
  have L7 : ∀ (n7 : Nat) (a2_7 : Int) (vc7 : Int → Int → Int) (H : Heap) (locs : List Loc) (ls : Array Slot), (0 ≤ a2_7 ∧ a2_7 ≤ 2147483647) → (0 ≤ a2_7) → (v p0 7 ≤ vc7 p0 7 ∧ vc7 p0 7 < v p0 6) → (v p0 8 = -1 ∨ vc7 p0 8 = v p0 8) → (vc7 p0 8 ≠ -1 ∨ a2_7 + v p0 7 + 1 ≤ vc7 p0 7) → (EP tT tN [6] p1 (v p0 8) (v p0 7) (vc7 p0 8) (vc7 p0 7) [7] p1) → (0 < (n7 : Int) ∧ (v p0 1) - a2_7 < (n7 : Int)) → fr K [(7, 7), (7, 8), (7, 10), (25, (-1))] vc7 v_12 → xI L K N vc7 → va_P (dC, dI) vwCl (xG L cid K N vc7) H → va_D A (xG L cid K N vc7) → va_S A s.heap H locs → lv_has ls 3 [(2, .int (iI a2_7)), (0, .ref p0.toNat), (1, .int (iI p1))] → W p l e ({ frames := 32, cells := 0, slots := 0, locals := 727 }) s m ([.ref p0.toNat, .int (iI p1)] : List Value).toArray below meth c H locs 0 0 Q (F0 m 7 ls []) := by
    intro n7
    induction n7 with
    | zero =>
      intro a2_7 vc7 H locs ls h_21 h_22 h_23 h_24 h_25 h_26 hm7 f_27 I_28 hP hD hS hl
      exfalso; omega
    | succ n7 ih7 =>
      intro a2_7 vc7 H locs ls h_29 h_30 h_31 h_32 h_33 h_34 hm7 f_35 I_36 hP hD hS hl
      have rp_37 : EP tT tN [6] p1 (v p0 8) (v p0 7) (vc7 p0 8) (vc7 p0 7) [7] p1 := by assumption
      refine lv_iload_n hx hb dX7_readEither_7 rfl (lv_at hl 0 rfl) ?_
      refine lv_aload_n hx hb dX7_readEither_8 rfl (lv_at hl 1 rfl) ?_
      have h_38 : 0 ≤ v p0 1 ∧ v p0 1 ≤ 600 := xf_7_1 hI q0
      refine gx_RX7_43 (y := v p0 1) hx hb hj hown hK hP q0 (((fr_use q0 f_35 rfl)).trans (fr_use q0 f_13 rfl)) dX7_readEither_9 ?_
      refine xr_icmp_ge (tgt := 53) hx hb dX7_readEither_12 (by decide) (by omega) (by omega) (fun h_39 => ?_) (fun h_39 => ?_)
      · have t_40 := tk_lt (T := tT) (n := tN) (j := vc7 p0 7) (by omega)
        have t2 := tks_n k2
        have t3 := twd_d tT tN (tkx tT tN (vc7 p0 7))
        have rp_41 : EP tT tN [6] p1 (v p0 8) (v p0 7) (vc7 p0 8) (vc7 p0 7) [] (p1) := EP_7n rp_37 (by omega)
        have h_42 : (-2147483648) ≤ vc7 p0 8 ∧ vc7 p0 8 ≤ 2147483647 := xf_7_8 I_36 q0
        have h_43 : (-2147483648) ≤ vc7 p0 7 ∧ vc7 p0 7 ≤ 2147483647 := xf_7_7 I_36 q0
        rw [← hQ]
        exact W.vret hx hb hr (fun t ht hW => ⟨⟨vc7, rfl, ⟨I_36, (fr_tr f_35 rfl (fr_tr f_13 rfl fr_rf)), by unfold jF; omega, by omega, by unfold jF; omega, by first | exact rp_41 | exact EP_x (by omega)⟩, by rw [ht]; exact hP, va_K.moved hW.alike hK, hD⟩, hS.F ht⟩) hS.2.2 dX7_readEither_53
      · refine lv_aload_n hx hb dX7_readEither_15 rfl (lv_at hl 1 rfl) ?_
        have h_44 : (-2147483648) ≤ vc7 p0 8 ∧ vc7 p0 8 ≤ 2147483647 := xf_7_8 I_36 q0
        refine gx_RX7_50 (y := vc7 p0 8) hx hb hj hown hK hP q0 rfl dX7_readEither_16 ?_
        refine lv_iconst (v := iI (-1)) hx hb dX7_readEither_19 rfl ?_
        refine xr_icmp_ne (tgt := 53) hx hb dX7_readEither_20 (by decide) (by omega) (by omega) (fun h_45 => ?_) (fun h_45 => ?_)
        · have t_46 := tk_lt (T := tT) (n := tN) (j := vc7 p0 7) (by omega)
          have t2 := tks_n k2
          have t3 := twd_d tT tN (tkx tT tN (vc7 p0 7))
          have rp_47 : EP tT tN [6] p1 (v p0 8) (v p0 7) (vc7 p0 8) (vc7 p0 7) [] (p1) := EP_7n rp_37 (by omega)
          have h_48 : (-2147483648) ≤ vc7 p0 7 ∧ vc7 p0 7 ≤ 2147483647 := xf_7_7 I_36 q0
          rw [← hQ]
          exact W.vret hx hb hr (fun t ht hW => ⟨⟨vc7, rfl, ⟨I_36, (fr_tr f_35 rfl (fr_tr f_13 rfl fr_rf)), by unfold jF; omega, by omega, by unfold jF; omega, by first | exact rp_47 | exact EP_x (by omega)⟩, by rw [ht]; exact hP, va_K.moved hW.alike hK, hD⟩, hS.F ht⟩) hS.2.2 dX7_readEither_53
        · refine lv_aload_n hx hb dX7_readEither_23 rfl (lv_at hl 1 rfl) ?_
          have h_49 : (-2147483648) ≤ vc7 p0 7 ∧ vc7 p0 7 ≤ 2147483647 := xf_7_7 I_36 q0
          have b_50 : vc7 p0 6 = v p0 6 := (((fr_use q0 f_35 rfl)).trans (fr_use q0 f_13 rfl))
          refine jc_i (va_runV (As := []) (rest := []) ⟨hx, hb, hml, hown, hts⟩ (sX7_word l dC dI _ L cid K N tW sK sV vc7 tT tN p0 I_36 q0 (tks_fr hI q0 (show fr K [(7, 7), (7, 8), (7, 10), (25, (-1))] vc7 v from (fr_tr f_35 rfl (fr_tr f_13 rfl fr_rf))) rfl rfl rfl rfl rfl rfl rfl (fun _ => rfl) (fun _ => rfl) (fun _ => rfl) (fun _ => rfl) (fun _ => rfl) k2) (by omega)) (cwV 0 hts (jgoodV m_679 m_680 m_681 m_677 m_682) rfl rfl rfl (by decide +kernel) ⟨(Nat.le_of_ble_eq_true rfl), (Nat.le_of_ble_eq_true rfl)⟩) ⟨xP_blind, xrecv hK hP q0 rfl rfl, fun U hU hW => ⟨rfl, xP_of hU hW hP hK hD hX hS (fun _ h => h) hA⟩⟩ rfl rfl hl.1 rfl (lv_room (Nat.le_of_ble_eq_true rfl)) dX7_readEither_24 ⟨(Nat.le_of_ble_eq_true rfl), (Nat.le_of_ble_eq_true rfl)⟩) hP hS hA (fun r_51 H locs w_52 hP hS => ?_)
          obtain ⟨z_53, rfl, h_54, h_55, h_56⟩ := w_52
          have b_57 : vc7 p0 6 = v p0 6 := (((fr_use q0 f_35 rfl)).trans (fr_use q0 f_13 rfl))
          refine lv_bipush (v := iI 25) hx hb dX7_readEither_27 rfl ?_
          refine xr_icmp_ne (tgt := 53) hx hb dX7_readEither_29 (by decide) (by omega) (by omega) (fun h_58 => ?_) (fun h_58 => ?_)
          · have t_59 := tk_lt (T := tT) (n := tN) (j := vc7 p0 7) (by omega)
            have t2 := tks_n k2
            have t3 := twd_d tT tN (tkx tT tN (vc7 p0 7))
            have rp_60 : EP tT tN [6] p1 (v p0 8) (v p0 7) (vc7 p0 8) (vc7 p0 7) [] (p1) := EP_7n rp_37 (by omega)
            rw [← hQ]
            exact W.vret hx hb hr (fun t ht hW => ⟨⟨vc7, rfl, ⟨I_36, (fr_tr f_35 rfl (fr_tr f_13 rfl fr_rf)), by unfold jF; omega, by omega, by unfold jF; omega, by first | exact rp_60 | exact EP_x (by omega)⟩, by rw [ht]; exact hP, va_K.moved hW.alike hK, hD⟩, hS.F ht⟩) hS.2.2 dX7_readEither_53
          · refine lv_aload_n hx hb dX7_readEither_32 rfl (lv_at hl 1 rfl) ?_
            refine jcg_v (va_runV (As := []) (rest := []) ⟨hx, hb, hml, hown, hts⟩ (sX7_advance l dC dI _ L cid K N tW sK sV vc7 p0 I_36 q0 (by omega)) (cwV 0 hts (jgoodV m_692 m_693 m_694 m_677 m_695) rfl rfl rfl (by decide +kernel) ⟨(Nat.le_of_ble_eq_true rfl), (Nat.le_of_ble_eq_true rfl)⟩) ⟨xP_blind, xrecv hK hP q0 rfl rfl, fun U hU hW => ⟨rfl, xP_of hU hW hP hK hD hX hS (fun _ h => h) hA⟩⟩ rfl rfl hl.1 rfl (lv_room (Nat.le_of_ble_eq_true rfl)) dX7_readEither_33 ⟨(Nat.le_of_ble_eq_true rfl), (Nat.le_of_ble_eq_true rfl)⟩) hD hS hA (fun v_65 H locs w_62 hP hK hD hS => ?_)
            obtain ⟨I_67, f_66, h_64⟩ := w_62
            have hP : va_P (dC, dI) vwCl (xG L cid K N v_65) H := hP
            have hD : va_D A (xG L cid K N v_65) := hD
            have h_68 : (-2147483648) ≤ v_65 p0 7 ∧ v_65 p0 7 ≤ 2147483647 := xf_7_7 I_67 q0
            have rp_69 : EP tT tN [6] p1 (v p0 8) (v p0 7) (vc7 p0 8) (v_65 p0 7) [8, 7] (p1) := EP_7y rp_37 (by omega) (by omega) (by omega)
            refine lv_aload_n hx hb dX7_readEither_36 rfl (lv_at hl 1 rfl) ?_
            refine lv_iload_n hx hb dX7_readEither_37 rfl (lv_at hl 2 rfl) ?_
            have b_70 : v_65 p0 6 = v p0 6 := (((fr_use q0 f_66 rfl)).trans (((fr_use q0 f_35 rfl)).trans (fr_use q0 f_13 rfl)))
            refine jcg_v (va_runV (As := [.int (iI p1)]) (rest := []) ⟨hx, hb, hml, hown, hts⟩ (sX7_readBoth_q0 l dC dI _ L cid K N tW sK sV v_65 tT tN p0 p1 I_67 q0 (by omega) (by omega) (tks_fr hI q0 (show fr K [(7, 7), (7, 8), (7, 10), (25, (-1))] v_65 v from (fr_tr f_66 rfl (fr_tr f_35 rfl (fr_tr f_13 rfl fr_rf)))) rfl rfl rfl rfl rfl rfl rfl (fun _ => rfl) (fun _ => rfl) (fun _ => rfl) (fun _ => rfl) (fun _ => rfl) k2) (by omega)) (cwV 1 hts (jgoodV m_720 m_721 m_722 m_677 m_723) rfl rfl rfl (by decide +kernel) ⟨(Nat.le_of_ble_eq_true rfl), (Nat.le_of_ble_eq_true rfl)⟩) ⟨xP_blind, xrecv hK hP q0 rfl rfl, fun U hU hW => ⟨rfl, xP_of hU hW hP hK hD hX hS (fun _ h => h) hA⟩⟩ rfl rfl hl.1 rfl (lv_room (Nat.le_of_ble_eq_true rfl)) dX7_readEither_38 ⟨(Nat.le_of_ble_eq_true rfl), (Nat.le_of_ble_eq_true rfl)⟩) hD hS hA (fun v_78 H locs w_72 hP hK hD hS => ?_)
            obtain ⟨I_80, f_79, h_74, h_75, h_76, h_77⟩ := w_72
            have hP : va_P (dC, dI) vwCl (xG L cid K N v_78) H := hP
            have hD : va_D A (xG L cid K N v_78) := hD
            have b_81 : v_65 p0 6 = v p0 6 := (((fr_use q0 f_66 rfl)).trans (((fr_use q0 f_35 rfl)).trans (fr_use q0 f_13 rfl)))
            have b_82 : v_65 p0 8 = vc7 p0 8 := (fr_use q0 f_66 rfl)
            have h_83 : (-2147483648) ≤ v_78 p0 8 ∧ v_78 p0 8 ≤ 2147483647 := xf_7_8 I_80 q0
            have h_84 : (-2147483648) ≤ v_78 p0 7 ∧ v_78 p0 7 ≤ 2147483647 := xf_7_7 I_80 q0
            rw [show v_65 p0 8 = vc7 p0 8 from (fr_use q0 f_66 rfl)] at h_74
            rw [show v_65 p0 8 = vc7 p0 8 from (fr_use q0 f_66 rfl)] at h_76
            rw [show v_65 p0 8 = vc7 p0 8 from (fr_use q0 f_66 rfl)] at h_77
            have rp_85 : EP tT tN [6] p1 (v p0 8) (v p0 7) (v_78 p0 8) (v_78 p0 7) [7] (p1) := EP_c rp_69 h_77 h_74
            have g_86 : v_78 p0 8 ≠ -1 ∨ v_65 p0 7 + 1 ≤ v_78 p0 7 := jF_2 h_76 (by omega)
            refine lv_aload_n hx hb dX7_readEither_41 rfl (lv_at hl 1 rfl) ?_
            refine lv_bipush (v := iI (-19)) hx hb dX7_readEither_42 rfl ?_
            refine jcg_v (va_runV (As := [.int (iI (-19))]) (rest := []) ⟨hx, hb, hml, hown, hts⟩ (sX7_emit l dC dI _ L cid K N tW sK sV v_78 p0 (-19) I_80 q0 (by omega)) (cwV 1 hts (jgoodV m_688 m_689 m_690 m_677 m_691) rfl rfl rfl (by decide +kernel) ⟨(Nat.le_of_ble_eq_true rfl), (Nat.le_of_ble_eq_true rfl)⟩) ⟨xP_blind, xrecv hK hP q0 rfl rfl, fun U hU hW => ⟨rfl, xP_of hU hW hP hK hD hX hS (fun _ h => h) hA⟩⟩ rfl rfl hl.1 rfl (lv_room (Nat.le_of_ble_eq_true rfl)) dX7_readEither_44 ⟨(Nat.le_of_ble_eq_true rfl), (Nat.le_of_ble_eq_true rfl)⟩) hD hS hA (fun v_90 H locs w_88 hP hK hD hS => ?_)
            obtain ⟨I_92, f_91⟩ := w_88
            have hP : va_P (dC, dI) vwCl (xG L cid K N v_90) H := hP
            have hD : va_D A (xG L cid K N v_90) := hD
            refine lv_iinc (v := iI (a2_7 + 1)) (lv' := [(2, .int (iI (a2_7 + 1))), (0, .ref p0.toNat), (1, .int (iI p1))]) hx hb dX7_readEither_47 hl (k := 0) rfl (iI_add _ _) (by decide) rfl (fun ls hl => ?_)
            refine lv_goto (tgt := 7) hx hb dX7_readEither_50 (by decide) ?_
            have b_93 : v_90 p0 8 = v_78 p0 8 := (fr_use q0 f_91 rfl)
            have b_94 : v_90 p0 7 = v_78 p0 7 := (fr_use q0 f_91 rfl)
            exact ih7 (a2_7 + 1) v_90 H locs ls (by omega) (by omega) (by omega) (by omega) (by omega) (by exact (by rw [show v_90 p0 8 = v_78 p0 8 from (fr_use q0 f_91 rfl), show v_90 p0 7 = v_78 p0 7 from (fr_use q0 f_91 rfl)]; exact rp_85)) (by omega) (fr_tr f_91 rfl (fr_tr f_79 rfl (fr_tr f_66 rfl (fr_tr f_35 rfl fr_rf)))) I_92 hP hD hS hl
  exact L7 ((((v p0 1) - 0 : Int)).toNat + 1) 0 v_12 H locs ls (by omega) (by omega) (by omega) (by omega) (by omega) (by exact rp_18) (by omega) fr_rf I_14 hP hD hS hl
set_option maxHeartbeats 2000000 in
set_option maxRecDepth 100000 in
theorem sX7_openSort (l : Launch) (dC : Nat → ClassId) (dI : Nat → Nat → Nat) (sz : Nat) (L : List Nat) (cid : Nat → ClassId) (K : Int → Nat) (N : Int → Int) (tW : Nat) (sK sV : Nat → Nat) (v : Int → Int → Int) (tT : Int → Int) (tN : Int) (p0 : Int) (hI : xI L K N v) (q0 : ok L K p0 7) (k1 : tks tT tN v p0) (k2 : 0 ≤ v p0 7 ∧ v p0 7 < v p0 6) (k3 : v p0 8 = -1) : Met l yX7_openSort (jk yX7_openSort cX7_openSort 4 (some .int)) ({ frames := 2, cells := 0, slots := 0, locals := 40 }) (va_Pc [.ref p0.toNat] (xP (dC, dI) (xG L cid K N v) (xT cid) tW sK sV sz)) (va_Qi (fun (r : Int32) (u : (Int → Int → Int)) => ∃ z : Int, r = iI z ∧ (xI L K N u) ∧ (fr K [(7, 7), (7, 8), (26, (-1))] u v) ∧ ((-1) ≤ z ∧ z ≤ 13) ∧ (osp tT tN (v (v p0 11)) (v p0 7) z (u p0 8) (u p0 7)) ∧ (z = -1 ∨ bgn (u (v p0 11)) = sbp (bgn (v (v p0 11))) z) ∧ (0 ≤ u p0 7 ∧ v p0 7 ≤ u p0 7 ∧ u p0 7 < v p0 6)) (fun u t => va_P (dC, dI) vwCl (xG L cid K N u) t.heap ∧ va_K (dC, dI) vwCl (xT cid) t ∧ va_D (va_A (xG L cid K N v) sz) (xG L cid K N u)) (va_A (xG L cid K N v) sz)) 0 0 (va_A (xG L cid K N v) sz) := by
  refine Met.ofW (cc := cX7_openSort) (maxL := 4) (ret := (some .int)) (by decide) rfl ?_
  intro p e s m args below meth c s₁ B hml hv
  obtain ⟨rfl, ⟨hsz, hP, hK, hD0⟩, hX⟩ := hv
  have hx := B.exec
  have hb := B.bytes
  have hr := B.returns
  have hts := atoms_spec (ws := (jk yX7_openSort cX7_openSort 4 (some .int))) B.pre
  have hj : ∀ w ∈ jw, w.before ([.ref p0.toNat] : List Value).toArray s = true := fun w h => hts w (jm h)
  have hown : s.vm.findClass RX7 = some m.cls := findClass_of_methodNamed B.named
  subst hsz
  have hD := hD0.self (sz := s.heap.size)
  generalize hAe : (va_A (xG L cid K N v) s.heap.size) = A at hD hX ⊢
  have hA : ∀ q : Nat, s.heap.size ≤ q → A q := fun q h => by rw [← hAe]; exact Or.inr h
  have hS : va_S A s.heap s.heap [] := va_S.rf
  have hXa := hX
  have hP : va_P (dC, dI) vwCl (xG L cid K N v) s.heap := hP
  have hl := lv_entry ([.ref p0.toNat]) (n := 4) (Nat.le_of_ble_eq_true rfl)
  rw [lg_entry_eq]
  generalize (lg_sl ([.ref p0.toNat]) ++ List.replicate (4 - (lg_sl ([.ref p0.toNat])).length) Slot.unset).toArray = ls at hl ⊢
  have hl : lv_has ls 4 [(0, .ref p0.toNat)] := hl
  generalize hQ : MQ below (va_Qi (fun (r : Int32) (u : (Int → Int → Int)) => ∃ z : Int, r = iI z ∧ (xI L K N u) ∧ (fr K [(7, 7), (7, 8), (26, (-1))] u v) ∧ ((-1) ≤ z ∧ z ≤ 13) ∧ (osp tT tN (v (v p0 11)) (v p0 7) z (u p0 8) (u p0 7)) ∧ (z = -1 ∨ bgn (u (v p0 11)) = sbp (bgn (v (v p0 11))) z) ∧ (0 ≤ u p0 7 ∧ v p0 7 ≤ u p0 7 ∧ u p0 7 < v p0 6)) (fun u t => va_P (dC, dI) vwCl (xG L cid K N u) t.heap ∧ va_K (dC, dI) vwCl (xT cid) t ∧ va_D A (xG L cid K N u)) A) ([.ref p0.toNat] : List Value).toArray s 0 0 A = Q
  suffices ST : ∀ (H : Heap) (locs : List Loc), va_P (dC, dI) vwCl (xG L cid K N v) H → va_S A s.heap H locs → W p l e ({ frames := 2, cells := 0, slots := 0, locals := 40 }) s m ([.ref p0.toNat] : List Value).toArray below meth c H locs 0 0 Q (F0 m 0 ls []) from ST _ _ hP hS
  clear hP hS
  intro H locs hP hS
  have hTK := tks_m k1
  refine lv_aload_n hx hb dX7_openSort_0 rfl (lv_at hl 0 rfl) ?_
  have h_1 : (-2147483648) ≤ v p0 7 ∧ v p0 7 ≤ 2147483647 := xf_7_7 hI q0
  have h_2 : (-2147483648) ≤ v p0 6 ∧ v p0 6 ≤ 2147483647 := xf_7_6 hI q0
  refine jc_i (va_runV (As := []) (rest := []) ⟨hx, hb, hml, hown, hts⟩ (sX7_word l dC dI _ L cid K N tW sK sV v tT tN p0 hI q0 k1 (by omega)) (cwV 0 hts (jgoodV m_679 m_680 m_681 m_677 m_682) rfl rfl rfl (by decide +kernel) ⟨(Nat.le_of_ble_eq_true rfl), (Nat.le_of_ble_eq_true rfl)⟩) ⟨xP_blind, xrecv hK hP q0 rfl rfl, fun U hU hW => ⟨rfl, xP_of hU hW hP hK hD hX hS (fun _ h => h) hA⟩⟩ rfl rfl hl.1 rfl (lv_room (Nat.le_of_ble_eq_true rfl)) dX7_openSort_1 ⟨(Nat.le_of_ble_eq_true rfl), (Nat.le_of_ble_eq_true rfl)⟩) hP hS hA (fun r_3 H locs w_4 hP hS => ?_)
  obtain ⟨z_5, rfl, h_6, h_7, h_8⟩ := w_4
  refine lv_istore_n (i := 1) (lv' := [(1, .int (iI z_5)), (0, .ref p0.toNat)]) hx hb dX7_openSort_4 rfl hl (by decide) rfl (fun ls hl => ?_)
  refine lv_iconst (v := iI (-1)) hx hb dX7_openSort_5 rfl ?_
  refine lv_istore_n (i := 2) (lv' := [(2, .int (iI (-1))), (1, .int (iI z_5)), (0, .ref p0.toNat)]) hx hb dX7_openSort_6 rfl hl (by decide) rfl (fun ls hl => ?_)
  refine lv_iload_n hx hb dX7_openSort_7 rfl (lv_at hl 1 rfl) ?_
  refine lv_iconst (v := iI 1) hx hb dX7_openSort_8 rfl ?_
  have J74 : ∀ (a2_74 : Int) (vc74 : Int → Int → Int) (H : Heap) (locs : List Loc) (ls : Array Slot), ((-1) ≤ a2_74 ∧ a2_74 ≤ 13) → ((1 ≤ z_5 ∧ z_5 ≤ 5 ∧ a2_74 = z_5 - 1 ∧ vc74 p0 7 = v p0 7) ∨ (6 ≤ z_5 ∧ z_5 ≤ 8 ∧ vc74 p0 7 = v p0 7 + 1 ∧ ((9 ≤ twd tT tN (tkx tT tN (vc74 p0 7)) ∧ twd tT tN (tkx tT tN (vc74 p0 7)) ≤ 11 ∧ a2_74 = 5 + 3 * (z_5 - 6) + (twd tT tN (tkx tT tN (vc74 p0 7)) - 9)) ∨ ((twd tT tN (tkx tT tN (vc74 p0 7)) < 9 ∨ 11 < twd tT tN (tkx tT tN (vc74 p0 7))) ∧ a2_74 = -1))) ∨ ((z_5 < 1 ∨ 8 < z_5) ∧ a2_74 = -1 ∧ vc74 p0 7 = v p0 7)) → (vc74 p0 7 < v p0 6) → (a2_74 = -1 ∨ vc74 p0 7 + 1 < v p0 6) → fr K [(7, 7)] vc74 v → xI L K N vc74 → va_P (dC, dI) vwCl (xG L cid K N vc74) H → va_D A (xG L cid K N vc74) → va_S A s.heap H locs → lv_has ls 4 [(2, .int (iI a2_74)), (1, .int (iI z_5)), (0, .ref p0.toNat)] → W p l e ({ frames := 2, cells := 0, slots := 0, locals := 40 }) s m ([.ref p0.toNat] : List Value).toArray below meth c H locs 0 0 Q (F0 m 74 ls []) := by
    intro a2_74 vc74 H locs ls h_9 h_10 h_11 h_12 f_13 I_14 hP hD hS hl
    refine lv_iload_n hx hb dX7_openSort_74 rfl (lv_at hl 0 rfl) ?_
    have J94 : ∀ (H : Heap) (locs : List Loc) (ls : Array Slot), (a2_74 < 0 ∨ 13 < a2_74 ∨ v (v p0 11) (a2_74) ≠ -1) → va_P (dC, dI) vwCl (xG L cid K N vc74) H → va_D A (xG L cid K N vc74) → va_S A s.heap H locs → lv_has ls 4 [(2, .int (iI a2_74)), (1, .int (iI z_5)), (0, .ref p0.toNat)] → W p l e ({ frames := 2, cells := 0, slots := 0, locals := 40 }) s m ([.ref p0.toNat] : List Value).toArray below meth c H locs 0 0 Q (F0 m 94 ls []) := by
      intro H locs ls h_15 hP hD hS hl
      refine lv_aload_n hx hb dX7_openSort_94 rfl (lv_at hl 2 rfl) ?_
      have h_16 : (-2147483648) ≤ vc74 p0 7 ∧ vc74 p0 7 ≤ 2147483647 := xf_7_7 I_14 q0
      have b_17 : vc74 p0 6 = v p0 6 := (fr_use q0 f_13 rfl)
      refine jcg_v (va_runV (As := []) (rest := []) ⟨hx, hb, hml, hown, hts⟩ (sX7_refuse l dC dI _ L cid K N tW sK sV vc74 tT tN p0 I_14 q0 (tks_fr hI q0 (show fr K [(7, 7)] vc74 v from (fr_tr f_13 rfl fr_rf)) rfl rfl rfl rfl rfl rfl rfl (fun _ => rfl) (fun _ => rfl) (fun _ => rfl) (fun _ => rfl) (fun _ => rfl) k1) (by omega)) (cwV 0 hts (jgoodV m_683 m_684 m_685 m_677 m_686) rfl rfl rfl (by decide +kernel) ⟨(Nat.le_of_ble_eq_true rfl), (Nat.le_of_ble_eq_true rfl)⟩) ⟨xP_blind, xrecv hK hP q0 rfl rfl, fun U hU hW => ⟨rfl, xP_of hU hW hP hK hD hX hS (fun _ h => h) hA⟩⟩ rfl rfl hl.1 rfl (lv_room (Nat.le_of_ble_eq_true rfl)) dX7_openSort_95 ⟨(Nat.le_of_ble_eq_true rfl), (Nat.le_of_ble_eq_true rfl)⟩) hD hS hA (fun v_22 H locs w_19 hP hK hD hS => ?_)
      obtain ⟨I_24, f_23, h_21⟩ := w_19
      have hP : va_P (dC, dI) vwCl (xG L cid K N v_22) H := hP
      have hD : va_D A (xG L cid K N v_22) := hD
      have b_25 : vc74 p0 6 = v p0 6 := (fr_use q0 f_13 rfl)
      have b_26 : vc74 p0 8 = v p0 8 := (fr_use q0 f_13 rfl)
      have h_27 : (-2147483648) ≤ v p0 8 ∧ v p0 8 ≤ 2147483647 := xf_7_8 hI q0
      have h_28 : (-2147483648) ≤ v_22 p0 8 ∧ v_22 p0 8 ≤ 2147483647 := xf_7_8 I_24 q0
      rw [show vc74 p0 8 = v p0 8 from (fr_use q0 f_13 rfl)] at h_21
      refine lv_iconst (v := iI (-1)) hx hb dX7_openSort_98 rfl ?_
      have h_29 : ok L K (v p0 11) 26 := xf_7_11 hI q0
      have h_30 : N (v p0 11) = 14 := xn_26 hI h_29
      have b_31 : v_22 p0 7 = vc74 p0 7 := (fr_use q0 f_23 rfl)
      rw [← hQ]
      exact W.iret (v := iI (-1)) hx hb hr (fun t ht hW => ⟨⟨iI (-1), v_22, rfl, ⟨(-1), rfl, I_24, (fr_tr f_23 rfl (fr_tr f_13 rfl fr_rf)), by omega, by first | exact osp_b (w := z_5) (s := a2_74) (j1 := vc74 p0 7) (by omega) (by omega) rfl (by assumption) (by omega) (by omega) | exact osp_g (w := z_5) (j1 := vc74 p0 7) (by omega) rfl (by assumption) (by omega) (by omega) (by omega) (by omega) (by omega), by first | exact Or.inl rfl | exact Or.inr (bgn_up (by omega) (by omega) (x := _) (by omega) hA9), by omega⟩, by rw [ht]; exact hP, va_K.moved hW.alike hK, hD⟩, hS.F ht⟩) hS.2.2 dX7_openSort_99
    refine xr_if_lt (tgt := 94) hx hb dX7_openSort_75 (by decide) (by omega) (fun h_32 => ?_) (fun h_32 => ?_)
    · have b_33 : vc74 p0 8 = v p0 8 := (fr_use q0 f_13 rfl)
      exact J94 H locs ls (by omega) hP hD hS hl
    · refine lv_iload_n hx hb dX7_openSort_78 rfl (lv_at hl 0 rfl) ?_
      refine lv_bipush (v := iI 14) hx hb dX7_openSort_79 rfl ?_
      refine xr_icmp_ge (tgt := 94) hx hb dX7_openSort_81 (by decide) (by omega) (by omega) (fun h_34 => ?_) (fun h_34 => ?_)
      · exfalso; omega
      · refine lv_aload_n hx hb dX7_openSort_84 rfl (lv_at hl 2 rfl) ?_
        have h_35 : ok L K (v p0 11) 26 := xf_7_11 hI q0
        have h_36 : N (v p0 11) = 14 := xn_26 hI h_35
        refine gx_RX7_33 (y := v p0 11) hx hb hj hown hK hP q0 ((xf_7_11 I_14 q0).1) (fr_use q0 f_13 rfl) dX7_openSort_85 ?_
        refine lv_iload_n hx hb dX7_openSort_88 rfl (lv_at hl 0 rfl) ?_
        have h_37 : (-2147483648) ≤ v (v p0 11) a2_74 ∧ v (v p0 11) a2_74 ≤ 2147483647 := xe_26 hI h_35 (by omega)
        refine ax_26 (y := v (v p0 11) a2_74) hx hb hK hP h_35 (by omega) (by omega) (by omega) (fr_use h_35 f_13 rfl) dX7_openSort_89 ?_
        refine lv_iconst (v := iI (-1)) hx hb dX7_openSort_90 rfl ?_
        refine xr_icmp_eq (tgt := 100) hx hb dX7_openSort_91 (by decide) (by omega) (by omega) (fun h_38 => ?_) (fun h_38 => ?_)
        · refine lv_aload_n hx hb dX7_openSort_100 rfl (lv_at hl 2 rfl) ?_
          refine gx_RX7_33 (y := v p0 11) hx hb hj hown hK hP q0 ((xf_7_11 I_14 q0).1) (fr_use q0 f_13 rfl) dX7_openSort_101 ?_
          refine lv_iload_n hx hb dX7_openSort_104 rfl (lv_at hl 0 rfl) ?_
          refine lv_aload_n hx hb dX7_openSort_105 rfl (lv_at hl 2 rfl) ?_
          have h_39 : 0 ≤ v p0 10 ∧ v p0 10 ≤ 600 := xf_7_10 hI q0
          refine gx_RX7_56 (y := v p0 10) hx hb hj hown hK hP q0 (fr_use q0 f_13 rfl) dX7_openSort_106 ?_
          refine sx_26 (y := v p0 10) hx hb hK hP hD hS I_14 h_35 (by omega) (by omega) (by omega) ⟨by omega, by omega⟩ dX7_openSort_109 (fun v_40 H locs f_41 e_42 o_43 I_44 hP hD hS => ?_)
          refine lv_aload_n hx hb dX7_openSort_110 rfl (lv_at hl 2 rfl) ?_
          have b_45 : v_40 p0 7 = vc74 p0 7 := (fr_use q0 f_41 rfl)
          have h_46 : (-2147483648) ≤ vc74 p0 7 ∧ vc74 p0 7 ≤ 2147483647 := xf_7_7 I_14 q0
          refine jcg_v (va_runV (As := []) (rest := []) ⟨hx, hb, hml, hown, hts⟩ (sX7_advance l dC dI _ L cid K N tW sK sV v_40 p0 I_44 q0 (by omega)) (cwV 0 hts (jgoodV m_692 m_693 m_694 m_677 m_695) rfl rfl rfl (by decide +kernel) ⟨(Nat.le_of_ble_eq_true rfl), (Nat.le_of_ble_eq_true rfl)⟩) ⟨xP_blind, xrecv hK hP q0 rfl rfl, fun U hU hW => ⟨rfl, xP_of hU hW hP hK hD hX hS (fun _ h => h) hA⟩⟩ rfl rfl hl.1 rfl (lv_room (Nat.le_of_ble_eq_true rfl)) dX7_openSort_111 ⟨(Nat.le_of_ble_eq_true rfl), (Nat.le_of_ble_eq_true rfl)⟩) hD hS hA (fun v_51 H locs w_48 hP hK hD hS => ?_)
          obtain ⟨I_53, f_52, h_50⟩ := w_48
          have hP : va_P (dC, dI) vwCl (xG L cid K N v_51) H := hP
          have hD : va_D A (xG L cid K N v_51) := hD
          have b_54 : v_40 p0 7 = vc74 p0 7 := (fr_use q0 f_41 rfl)
          have b_55 : v_40 p0 8 = v p0 8 := (((fr_use q0 f_41 rfl)).trans (fr_use q0 f_13 rfl))
          have h_56 : (-2147483648) ≤ v p0 8 ∧ v p0 8 ≤ 2147483647 := xf_7_8 hI q0
          have h_57 : (-2147483648) ≤ v_51 p0 7 ∧ v_51 p0 7 ≤ 2147483647 := xf_7_7 I_53 q0
          have hA9 : ∀ i, v_51 (v p0 11) i = if i = a2_74 then v p0 10 else v (v p0 11) i := fun i => by
            rw [fr_use (j := i) h_35 f_52 rfl, vu_of e_42 o_43]
            by_cases c : i = a2_74
            · rw [if_pos c, c, vu_self]
            · rw [if_neg c, vu_ne _ (fun d => c d.2), fr_use (j := i) h_35 f_13 rfl]
          refine lv_iload_n hx hb dX7_openSort_114 rfl (lv_at hl 0 rfl) ?_
          have b_58 : v_51 p0 8 = v p0 8 := (((fr_use q0 f_52 rfl)).trans (((fr_use q0 f_41 rfl)).trans (fr_use q0 f_13 rfl)))
          rw [← hQ]
          exact W.iret (v := iI a2_74) hx hb hr (fun t ht hW => ⟨⟨iI a2_74, v_51, rfl, ⟨a2_74, rfl, I_53, (fr_tr f_52 rfl (fr_tr f_41 rfl (fr_tr f_13 rfl fr_rf))), by omega, by first | exact osp_b (w := z_5) (s := a2_74) (j1 := vc74 p0 7) (by omega) (by omega) rfl (by assumption) (by omega) (by omega) | exact osp_g (w := z_5) (j1 := vc74 p0 7) (by omega) rfl (by assumption) (by omega) (by omega) (by omega) (by omega) (by omega), by first | exact Or.inl rfl | exact Or.inr (bgn_up (by omega) (by omega) (x := v p0 10) (by omega) hA9), by omega⟩, by rw [ht]; exact hP, va_K.moved hW.alike hK, hD⟩, hS.F ht⟩) hS.2.2 dX7_openSort_115
        · have b_59 : vc74 p0 8 = v p0 8 := (fr_use q0 f_13 rfl)
          exact J94 H locs ls (by omega) hP hD hS hl
  have J26 : ∀ (H : Heap) (locs : List Loc) (ls : Array Slot), (z_5 < 1 ∨ 5 < z_5) → va_P (dC, dI) vwCl (xG L cid K N v) H → va_D A (xG L cid K N v) → va_S A s.heap H locs → lv_has ls 4 [(2, .int (iI (-1))), (1, .int (iI z_5)), (0, .ref p0.toNat)] → W p l e ({ frames := 2, cells := 0, slots := 0, locals := 40 }) s m ([.ref p0.toNat] : List Value).toArray below meth c H locs 0 0 Q (F0 m 26 ls []) := by
    intro H locs ls h_60 hP hD hS hl
    refine lv_iload_n hx hb dX7_openSort_26 rfl (lv_at hl 1 rfl) ?_
    refine lv_bipush (v := iI 6) hx hb dX7_openSort_27 rfl ?_
    refine xr_icmp_lt (tgt := 74) hx hb dX7_openSort_29 (by decide) (by omega) (by omega) (fun h_61 => ?_) (fun h_61 => ?_)
    · exact J74 (-1) v H locs ls (by omega) (by omega) (by omega) (by omega) fr_rf hI hP hD hS hl
    · refine lv_iload_n hx hb dX7_openSort_32 rfl (lv_at hl 1 rfl) ?_
      refine lv_bipush (v := iI 8) hx hb dX7_openSort_33 rfl ?_
      refine xr_icmp_gt (tgt := 74) hx hb dX7_openSort_35 (by decide) (by omega) (by omega) (fun h_62 => ?_) (fun h_62 => ?_)
      · exact J74 (-1) v H locs ls (by omega) (by omega) (by omega) (by omega) fr_rf hI hP hD hS hl
      · refine lv_aload_n hx hb dX7_openSort_38 rfl (lv_at hl 2 rfl) ?_
        refine jcg_v (va_runV (As := []) (rest := []) ⟨hx, hb, hml, hown, hts⟩ (sX7_advance l dC dI _ L cid K N tW sK sV v p0 hI q0 (by omega)) (cwV 0 hts (jgoodV m_692 m_693 m_694 m_677 m_695) rfl rfl rfl (by decide +kernel) ⟨(Nat.le_of_ble_eq_true rfl), (Nat.le_of_ble_eq_true rfl)⟩) ⟨xP_blind, xrecv hK hP q0 rfl rfl, fun U hU hW => ⟨rfl, xP_of hU hW hP hK hD hX hS (fun _ h => h) hA⟩⟩ rfl rfl hl.1 rfl (lv_room (Nat.le_of_ble_eq_true rfl)) dX7_openSort_39 ⟨(Nat.le_of_ble_eq_true rfl), (Nat.le_of_ble_eq_true rfl)⟩) hD hS hA (fun v_67 H locs w_64 hP hK hD hS => ?_)
        obtain ⟨I_69, f_68, h_66⟩ := w_64
        have hP : va_P (dC, dI) vwCl (xG L cid K N v_67) H := hP
        have hD : va_D A (xG L cid K N v_67) := hD
        have h_70 : (-2147483648) ≤ v p0 8 ∧ v p0 8 ≤ 2147483647 := xf_7_8 hI q0
        have h_71 : (-2147483648) ≤ v_67 p0 7 ∧ v_67 p0 7 ≤ 2147483647 := xf_7_7 I_69 q0
        refine lv_aload_n hx hb dX7_openSort_42 rfl (lv_at hl 2 rfl) ?_
        have b_72 : v_67 p0 6 = v p0 6 := (fr_use q0 f_68 rfl)
        refine jc_i (va_runV (As := []) (rest := []) ⟨hx, hb, hml, hown, hts⟩ (sX7_word l dC dI _ L cid K N tW sK sV v_67 tT tN p0 I_69 q0 (tks_fr hI q0 (show fr K [(7, 7)] v_67 v from (fr_tr f_68 rfl fr_rf)) rfl rfl rfl rfl rfl rfl rfl (fun _ => rfl) (fun _ => rfl) (fun _ => rfl) (fun _ => rfl) (fun _ => rfl) k1) (by omega)) (cwV 0 hts (jgoodV m_679 m_680 m_681 m_677 m_682) rfl rfl rfl (by decide +kernel) ⟨(Nat.le_of_ble_eq_true rfl), (Nat.le_of_ble_eq_true rfl)⟩) ⟨xP_blind, xrecv hK hP q0 rfl rfl, fun U hU hW => ⟨rfl, xP_of hU hW hP hK hD hX hS (fun _ h => h) hA⟩⟩ rfl rfl hl.1 rfl (lv_room (Nat.le_of_ble_eq_true rfl)) dX7_openSort_43 ⟨(Nat.le_of_ble_eq_true rfl), (Nat.le_of_ble_eq_true rfl)⟩) hP hS hA (fun r_73 H locs w_74 hP hS => ?_)
        obtain ⟨z_75, rfl, h_76, h_77, h_78⟩ := w_74
        have b_79 : v_67 p0 6 = v p0 6 := (fr_use q0 f_68 rfl)
        refine lv_bipush (v := iI 9) hx hb dX7_openSort_46 rfl ?_
        refine xr_sub hx hb dX7_openSort_48 ?_
        refine lv_istore_n (i := 3) (lv' := [(3, .int (iI (z_75 - 9))), (2, .int (iI (-1))), (1, .int (iI z_5)), (0, .ref p0.toNat)]) hx hb dX7_openSort_49 rfl hl (by decide) rfl (fun ls hl => ?_)
        refine lv_iload_n hx hb dX7_openSort_50 rfl (lv_at hl 0 rfl) ?_
        have J73 : ∀ (s0_73 : Int) (H : Heap) (locs : List Loc) (ls : Array Slot), ((-1) ≤ s0_73 ∧ s0_73 ≤ 13) → ((0 ≤ z_75 - 9 ∧ z_75 - 9 ≤ 2 ∧ s0_73 = 5 + 3 * (z_5 - 6) + (z_75 - 9)) ∨ ((z_75 - 9 < 0 ∨ 2 < z_75 - 9) ∧ s0_73 = -1)) → va_P (dC, dI) vwCl (xG L cid K N v_67) H → va_D A (xG L cid K N v_67) → va_S A s.heap H locs → lv_has ls 4 [(3, .int (iI (z_75 - 9))), (2, .int (iI (-1))), (1, .int (iI z_5)), (0, .ref p0.toNat)] → W p l e ({ frames := 2, cells := 0, slots := 0, locals := 40 }) s m ([.ref p0.toNat] : List Value).toArray below meth c H locs 0 0 Q (F0 m 73 ls [.int (iI s0_73)]) := by
          intro s0_73 H locs ls h_80 h_81 hP hD hS hl
          refine lv_istore_n (i := 2) (lv' := [(2, .int (iI s0_73)), (3, .int (iI (z_75 - 9))), (1, .int (iI z_5)), (0, .ref p0.toNat)]) hx hb dX7_openSort_73 rfl hl (by decide) rfl (fun ls hl => ?_)
          have b_82 : v_67 p0 8 = v p0 8 := (fr_use q0 f_68 rfl)
          exact J74 s0_73 v_67 H locs ls (by omega) (by omega) (by omega) (by omega) (fr_tr f_68 rfl fr_rf) I_69 hP hD hS (lv_sub hl [0, 2, 3] rfl)
        have J72 : ∀ (H : Heap) (locs : List Loc) (ls : Array Slot), (z_75 - 9 < 0 ∨ 2 < z_75 - 9) → va_P (dC, dI) vwCl (xG L cid K N v_67) H → va_D A (xG L cid K N v_67) → va_S A s.heap H locs → lv_has ls 4 [(3, .int (iI (z_75 - 9))), (2, .int (iI (-1))), (1, .int (iI z_5)), (0, .ref p0.toNat)] → W p l e ({ frames := 2, cells := 0, slots := 0, locals := 40 }) s m ([.ref p0.toNat] : List Value).toArray below meth c H locs 0 0 Q (F0 m 72 ls []) := by
          intro H locs ls h_83 hP hD hS hl
          refine lv_iconst (v := iI (-1)) hx hb dX7_openSort_72 rfl ?_
          have b_84 : v_67 p0 8 = v p0 8 := (fr_use q0 f_68 rfl)
          exact J73 (-1) H locs ls (by omega) (by omega) hP hD hS hl
        refine xr_if_lt (tgt := 72) hx hb dX7_openSort_51 (by decide) (by omega) (fun h_85 => ?_) (fun h_85 => ?_)
        · have b_86 : v_67 p0 8 = v p0 8 := (fr_use q0 f_68 rfl)
          exact J72 H locs ls (by omega) hP hD hS hl
        · refine lv_iload_n hx hb dX7_openSort_54 rfl (lv_at hl 0 rfl) ?_
          refine lv_iconst (v := iI 2) hx hb dX7_openSort_55 rfl ?_
          refine xr_icmp_gt (tgt := 72) hx hb dX7_openSort_56 (by decide) (by omega) (by omega) (fun h_87 => ?_) (fun h_87 => ?_)
          · have b_88 : v_67 p0 8 = v p0 8 := (fr_use q0 f_68 rfl)
            exact J72 H locs ls (by omega) hP hD hS hl
          · refine lv_iconst (v := iI 5) hx hb dX7_openSort_59 rfl ?_
            refine lv_iconst (v := iI 3) hx hb dX7_openSort_60 rfl ?_
            refine lv_iload_n hx hb dX7_openSort_61 rfl (lv_at hl 2 rfl) ?_
            refine lv_bipush (v := iI 6) hx hb dX7_openSort_62 rfl ?_
            refine xr_sub hx hb dX7_openSort_64 ?_
            refine xr_mul hx hb dX7_openSort_65 ?_
            refine xr_add hx hb dX7_openSort_66 ?_
            refine lv_iload_n hx hb dX7_openSort_67 rfl (lv_at hl 0 rfl) ?_
            refine xr_add hx hb dX7_openSort_68 ?_
            refine lv_goto (tgt := 73) hx hb dX7_openSort_69 (by decide) ?_
            have b_89 : v_67 p0 8 = v p0 8 := (fr_use q0 f_68 rfl)
            exact J73 ((5 + (3 * (z_5 - 6))) + (z_75 - 9)) H locs ls (by omega) (by omega) hP hD hS hl
  refine xr_icmp_lt (tgt := 26) hx hb dX7_openSort_9 (by decide) (by omega) (by omega) (fun h_90 => ?_) (fun h_90 => ?_)
  · exact J26 H locs ls (by omega) hP hD hS hl
  · refine lv_iload_n hx hb dX7_openSort_12 rfl (lv_at hl 1 rfl) ?_
    refine lv_iconst (v := iI 5) hx hb dX7_openSort_13 rfl ?_
    refine xr_icmp_gt (tgt := 26) hx hb dX7_openSort_14 (by decide) (by omega) (by omega) (fun h_91 => ?_) (fun h_91 => ?_)
    · exact J26 H locs ls (by omega) hP hD hS hl
    · refine lv_iconst (v := iI 0) hx hb dX7_openSort_17 rfl ?_
      refine lv_iload_n hx hb dX7_openSort_18 rfl (lv_at hl 1 rfl) ?_
      refine xr_add hx hb dX7_openSort_19 ?_
      refine lv_iconst (v := iI 1) hx hb dX7_openSort_20 rfl ?_
      refine xr_sub hx hb dX7_openSort_21 ?_
      refine lv_istore_n (i := 2) (lv' := [(2, .int (iI ((0 + z_5) - 1))), (1, .int (iI z_5)), (0, .ref p0.toNat)]) hx hb dX7_openSort_22 rfl hl (by decide) rfl (fun ls hl => ?_)
      refine lv_goto (tgt := 74) hx hb dX7_openSort_23 (by decide) ?_
      exact J74 ((0 + z_5) - 1) v H locs ls (by omega) (by omega) (by omega) (by omega) fr_rf hI hP hD hS hl
