set_option maxHeartbeats 2000000 in
set_option maxRecDepth 100000 in
theorem sX7_readSum_q0 (l : Launch) (dC : Nat → ClassId) (dI : Nat → Nat → Nat) (sz : Nat) (L : List Nat) (cid : Nat → ClassId) (K : Int → Nat) (N : Int → Int) (tW : Nat) (sK sV : Nat → Nat) (v : Int → Int → Int) (tT : Int → Int) (tN : Int) (p0 : Int) (p1 : Int) (hI : xI L K N v) (q0 : ok L K p0 7) (q1 : rg p1) (k1 : 0 ≤ p1 ∧ p1 ≤ 0) (k2 : tks tT tN v p0) (k3 : 0 ≤ v p0 7 ∧ v p0 7 < v p0 6) : Met l yX7_readSum (jk yX7_readSum cX7_readSum 4 none) ({ frames := 28, cells := 0, slots := 0, locals := 638 }) (va_Pc [.ref p0.toNat, .int (iI p1)] (xP (dC, dI) (xG L cid K N v) (xT cid) tW sK sV sz)) (va_Qv (fun (u : (Int → Int → Int)) => (xI L K N u) ∧ (fr K [(7, 7), (7, 8), (7, 10), (25, (-1))] u v) ∧ (jF (v p0 8 ≠ -1) (u p0 8 = v p0 8)) ∧ (0 ≤ u p0 7 ∧ v p0 7 ≤ u p0 7 ∧ u p0 7 < v p0 6) ∧ (jF (v p0 8 = -1 ∧ u p0 8 = -1) (v p0 7 + 1 ≤ u p0 7)) ∧ (EP tT tN [1] p1 (v p0 8) (v p0 7) (u p0 8) (u p0 7) [] p1)) (fun u t => va_P (dC, dI) vwCl (xG L cid K N u) t.heap ∧ va_K (dC, dI) vwCl (xT cid) t ∧ va_D (va_A (xG L cid K N v) sz) (xG L cid K N u)) (va_A (xG L cid K N v) sz)) 0 0 (va_A (xG L cid K N v) sz) := by
  refine Met.ofW (cc := cX7_readSum) (maxL := 4) (ret := none) (by decide) rfl ?_
  intro p e s m args below meth c s₁ B hml hv
  obtain ⟨rfl, ⟨hsz, hP, hK, hD0⟩, hX⟩ := hv
  have hx := B.exec
  have hb := B.bytes
  have hr := B.returns
  have hts := atoms_spec (ws := (jk yX7_readSum cX7_readSum 4 none)) B.pre
  have hj : ∀ w ∈ jw, w.before ([.ref p0.toNat, .int (iI p1)] : List Value).toArray s = true := fun w h => hts w (jm h)
  have hown : s.vm.findClass RX7 = some m.cls := findClass_of_methodNamed B.named
  subst hsz
  have hD := hD0.self (sz := s.heap.size)
  generalize hAe : (va_A (xG L cid K N v) s.heap.size) = A at hD hX ⊢
  have hA : ∀ q : Nat, s.heap.size ≤ q → A q := fun q h => by rw [← hAe]; exact Or.inr h
  have hS : va_S A s.heap s.heap [] := va_S.rf
  have hXa := hX
  have hP : va_P (dC, dI) vwCl (xG L cid K N v) s.heap := hP
  have hl := lv_entry ([.ref p0.toNat, .int (iI p1)]) (n := 4) (Nat.le_of_ble_eq_true rfl)
  rw [lg_entry_eq]
  generalize (lg_sl ([.ref p0.toNat, .int (iI p1)]) ++ List.replicate (4 - (lg_sl ([.ref p0.toNat, .int (iI p1)])).length) Slot.unset).toArray = ls at hl ⊢
  have hl : lv_has ls 4 [(0, .ref p0.toNat), (1, .int (iI p1))] := hl
  generalize hQ : MQ below (va_Qv (fun (u : (Int → Int → Int)) => (xI L K N u) ∧ (fr K [(7, 7), (7, 8), (7, 10), (25, (-1))] u v) ∧ (jF (v p0 8 ≠ -1) (u p0 8 = v p0 8)) ∧ (0 ≤ u p0 7 ∧ v p0 7 ≤ u p0 7 ∧ u p0 7 < v p0 6) ∧ (jF (v p0 8 = -1 ∧ u p0 8 = -1) (v p0 7 + 1 ≤ u p0 7)) ∧ (EP tT tN [1] p1 (v p0 8) (v p0 7) (u p0 8) (u p0 7) [] p1)) (fun u t => va_P (dC, dI) vwCl (xG L cid K N u) t.heap ∧ va_K (dC, dI) vwCl (xT cid) t ∧ va_D A (xG L cid K N u)) A) ([.ref p0.toNat, .int (iI p1)] : List Value).toArray s 0 0 A = Q
  suffices ST : ∀ (H : Heap) (locs : List Loc), va_P (dC, dI) vwCl (xG L cid K N v) H → va_S A s.heap H locs → W p l e ({ frames := 28, cells := 0, slots := 0, locals := 638 }) s m ([.ref p0.toNat, .int (iI p1)] : List Value).toArray below meth c H locs 0 0 Q (F0 m 0 ls []) from ST _ _ hP hS
  clear hP hS
  intro H locs hP hS
  have hTK := tks_m k2
  have rp_1 : EP tT tN [1] p1 (v p0 8) (v p0 7) (v p0 8) (v p0 7) [1] p1 := EP_0
  have rp_2 : EP tT tN [1] p1 (v p0 8) (v p0 7) (v p0 8) (v p0 7) [3, 2] (p1) := EP_1 rp_1
  refine lv_aload_n hx hb dX7_readSum_0 rfl (lv_at hl 0 rfl) ?_
  refine lv_iload_n hx hb dX7_readSum_1 rfl (lv_at hl 1 rfl) ?_
  have h_3 : (-2147483648) ≤ v p0 7 ∧ v p0 7 ≤ 2147483647 := xf_7_7 hI q0
  have h_4 : (-2147483648) ≤ v p0 6 ∧ v p0 6 ≤ 2147483647 := xf_7_6 hI q0
  refine jcg_v (va_runV (As := [.int (iI p1)]) (rest := []) ⟨hx, hb, hml, hown, hts⟩ (sX7_readProduct_q0 l dC dI _ L cid K N tW sK sV v tT tN p0 p1 hI q0 (by omega) (by omega) k2 (by omega)) (cwV 1 hts (jgoodV m_700 m_701 m_702 m_677 m_703) rfl rfl rfl (by decide +kernel) ⟨(Nat.le_of_ble_eq_true rfl), (Nat.le_of_ble_eq_true rfl)⟩) ⟨xP_blind, xrecv hK hP q0 rfl rfl, fun U hU hW => ⟨rfl, xP_of hU hW hP hK hD hX hS (fun _ h => h) hA⟩⟩ rfl rfl hl.1 rfl (lv_room (Nat.le_of_ble_eq_true rfl)) dX7_readSum_2 ⟨(Nat.le_of_ble_eq_true rfl), (Nat.le_of_ble_eq_true rfl)⟩) hD hS hA (fun v_12 H locs w_6 hP hK hD hS => ?_)
  obtain ⟨I_14, f_13, h_8, h_9, h_10, h_11⟩ := w_6
  have hP : va_P (dC, dI) vwCl (xG L cid K N v_12) H := hP
  have hD : va_D A (xG L cid K N v_12) := hD
  have h_15 : (-2147483648) ≤ v p0 8 ∧ v p0 8 ≤ 2147483647 := xf_7_8 hI q0
  have h_16 : (-2147483648) ≤ v_12 p0 8 ∧ v_12 p0 8 ≤ 2147483647 := xf_7_8 I_14 q0
  have h_17 : (-2147483648) ≤ v_12 p0 7 ∧ v_12 p0 7 ≤ 2147483647 := xf_7_7 I_14 q0
  have rp_18 : EP tT tN [1] p1 (v p0 8) (v p0 7) (v_12 p0 8) (v_12 p0 7) [2] (p1) := EP_c rp_2 h_11 h_8
  have g_19 : v p0 8 = -1 ∨ v_12 p0 8 = v p0 8 := jF_o h_8
  have g_20 : v p0 8 ≠ -1 ∨ v_12 p0 8 ≠ -1 ∨ v p0 7 + 1 ≤ v_12 p0 7 := jF_3 h_10
  refine lv_iconst (v := iI 0) hx hb dX7_readSum_5 rfl ?_
  refine lv_istore_n (i := 2) (lv' := [(2, .int (iI 0)), (0, .ref p0.toNat), (1, .int (iI p1))]) hx hb dX7_readSum_6 rfl hl (by decide) rfl (fun ls hl => ?_)
  have L7 : ∀ (n7 : Nat) (a2_7 : Int) (vc7 : Int → Int → Int) (H : Heap) (locs : List Loc) (ls : Array Slot), (0 ≤ a2_7 ∧ a2_7 ≤ 2147483647) → (0 ≤ a2_7) → (v p0 7 ≤ vc7 p0 7 ∧ vc7 p0 7 < v p0 6) → (v p0 8 = -1 ∨ vc7 p0 8 = v p0 8) → (vc7 p0 8 ≠ -1 ∨ a2_7 + v p0 7 + 1 ≤ vc7 p0 7) → (EP tT tN [1] p1 (v p0 8) (v p0 7) (vc7 p0 8) (vc7 p0 7) [2] p1) → (0 < (n7 : Int) ∧ (v p0 1) - a2_7 < (n7 : Int)) → fr K [(7, 7), (7, 8), (7, 10), (25, (-1))] vc7 v_12 → xI L K N vc7 → va_P (dC, dI) vwCl (xG L cid K N vc7) H → va_D A (xG L cid K N vc7) → va_S A s.heap H locs → lv_has ls 4 [(2, .int (iI a2_7)), (0, .ref p0.toNat), (1, .int (iI p1))] → W p l e ({ frames := 28, cells := 0, slots := 0, locals := 638 }) s m ([.ref p0.toNat, .int (iI p1)] : List Value).toArray below meth c H locs 0 0 Q (F0 m 7 ls []) := by
    intro n7
    induction n7 with
    | zero =>
      intro a2_7 vc7 H locs ls h_21 h_22 h_23 h_24 h_25 h_26 hm7 f_27 I_28 hP hD hS hl
      exfalso; omega
    | succ n7 ih7 =>
      intro a2_7 vc7 H locs ls h_29 h_30 h_31 h_32 h_33 h_34 hm7 f_35 I_36 hP hD hS hl
      have rp_37 : EP tT tN [1] p1 (v p0 8) (v p0 7) (vc7 p0 8) (vc7 p0 7) [2] p1 := by assumption
      refine lv_iload_n hx hb dX7_readSum_7 rfl (lv_at hl 0 rfl) ?_
      refine lv_aload_n hx hb dX7_readSum_8 rfl (lv_at hl 1 rfl) ?_
      have h_38 : 0 ≤ v p0 1 ∧ v p0 1 ≤ 600 := xf_7_1 hI q0
      refine gx_RX7_43 (y := v p0 1) hx hb hj hown hK hP q0 (((fr_use q0 f_35 rfl)).trans (fr_use q0 f_13 rfl)) dX7_readSum_9 ?_
      refine xr_icmp_ge (tgt := 78) hx hb dX7_readSum_12 (by decide) (by omega) (by omega) (fun h_39 => ?_) (fun h_39 => ?_)
      · have t_40 := tk_lt (T := tT) (n := tN) (j := vc7 p0 7) (by omega)
        have t2 := tks_n k2
        have t3 := twd_d tT tN (tkx tT tN (vc7 p0 7))
        have rp_41 : EP tT tN [1] p1 (v p0 8) (v p0 7) (vc7 p0 8) (vc7 p0 7) [] (p1) := EP_2n rp_37 (by omega)
        have h_42 : (-2147483648) ≤ vc7 p0 8 ∧ vc7 p0 8 ≤ 2147483647 := xf_7_8 I_36 q0
        have h_43 : (-2147483648) ≤ vc7 p0 7 ∧ vc7 p0 7 ≤ 2147483647 := xf_7_7 I_36 q0
        rw [← hQ]
        exact W.vret hx hb hr (fun t ht hW => ⟨⟨vc7, rfl, ⟨I_36, (fr_tr f_35 rfl (fr_tr f_13 rfl fr_rf)), by unfold jF; omega, by omega, by unfold jF; omega, by first | exact rp_41 | exact EP_x (by omega)⟩, by rw [ht]; exact hP, va_K.moved hW.alike hK, hD⟩, hS.F ht⟩) hS.2.2 dX7_readSum_78
      · refine lv_aload_n hx hb dX7_readSum_15 rfl (lv_at hl 1 rfl) ?_
        have h_44 : (-2147483648) ≤ vc7 p0 8 ∧ vc7 p0 8 ≤ 2147483647 := xf_7_8 I_36 q0
        refine gx_RX7_50 (y := vc7 p0 8) hx hb hj hown hK hP q0 rfl dX7_readSum_16 ?_
        refine lv_iconst (v := iI (-1)) hx hb dX7_readSum_19 rfl ?_
        refine xr_icmp_ne (tgt := 78) hx hb dX7_readSum_20 (by decide) (by omega) (by omega) (fun h_45 => ?_) (fun h_45 => ?_)
        · have t_46 := tk_lt (T := tT) (n := tN) (j := vc7 p0 7) (by omega)
          have t2 := tks_n k2
          have t3 := twd_d tT tN (tkx tT tN (vc7 p0 7))
          have rp_47 : EP tT tN [1] p1 (v p0 8) (v p0 7) (vc7 p0 8) (vc7 p0 7) [] (p1) := EP_2n rp_37 (by omega)
          have h_48 : (-2147483648) ≤ vc7 p0 7 ∧ vc7 p0 7 ≤ 2147483647 := xf_7_7 I_36 q0
          rw [← hQ]
          exact W.vret hx hb hr (fun t ht hW => ⟨⟨vc7, rfl, ⟨I_36, (fr_tr f_35 rfl (fr_tr f_13 rfl fr_rf)), by unfold jF; omega, by omega, by unfold jF; omega, by first | exact rp_47 | exact EP_x (by omega)⟩, by rw [ht]; exact hP, va_K.moved hW.alike hK, hD⟩, hS.F ht⟩) hS.2.2 dX7_readSum_78
        · refine lv_aload_n hx hb dX7_readSum_23 rfl (lv_at hl 1 rfl) ?_
          have h_49 : (-2147483648) ≤ vc7 p0 7 ∧ vc7 p0 7 ≤ 2147483647 := xf_7_7 I_36 q0
          have b_50 : vc7 p0 6 = v p0 6 := (((fr_use q0 f_35 rfl)).trans (fr_use q0 f_13 rfl))
          refine jc_i (va_runV (As := []) (rest := []) ⟨hx, hb, hml, hown, hts⟩ (sX7_kind l dC dI _ L cid K N tW sK sV vc7 tT tN p0 I_36 q0 (tks_fr hI q0 (show fr K [(7, 7), (7, 8), (7, 10), (25, (-1))] vc7 v from (fr_tr f_35 rfl (fr_tr f_13 rfl fr_rf))) rfl rfl rfl rfl rfl rfl rfl (fun _ => rfl) (fun _ => rfl) (fun _ => rfl) (fun _ => rfl) (fun _ => rfl) k2) (by omega)) (cwV 0 hts (jgoodV m_674 m_675 m_676 m_677 m_678) rfl rfl rfl (by decide +kernel) ⟨(Nat.le_of_ble_eq_true rfl), (Nat.le_of_ble_eq_true rfl)⟩) ⟨xP_blind, xrecv hK hP q0 rfl rfl, fun U hU hW => ⟨rfl, xP_of hU hW hP hK hD hX hS (fun _ h => h) hA⟩⟩ rfl rfl hl.1 rfl (lv_room (Nat.le_of_ble_eq_true rfl)) dX7_readSum_24 ⟨(Nat.le_of_ble_eq_true rfl), (Nat.le_of_ble_eq_true rfl)⟩) hP hS hA (fun r_51 H locs w_52 hP hS => ?_)
          obtain ⟨z_53, rfl, h_54, h_55, h_56⟩ := w_52
          have b_57 : vc7 p0 6 = v p0 6 := (((fr_use q0 f_35 rfl)).trans (fr_use q0 f_13 rfl))
          refine lv_bipush (v := iI 43) hx hb dX7_readSum_27 rfl ?_
          have J41 : ∀ (H : Heap) (locs : List Loc) (ls : Array Slot), (tkd tT tN (tkx tT tN (vc7 p0 7)) = 43 ∨ tkd tT tN (tkx tT tN (vc7 p0 7)) = 45) → va_P (dC, dI) vwCl (xG L cid K N vc7) H → va_D A (xG L cid K N vc7) → va_S A s.heap H locs → lv_has ls 4 [(2, .int (iI a2_7)), (0, .ref p0.toNat), (1, .int (iI p1))] → W p l e ({ frames := 28, cells := 0, slots := 0, locals := 638 }) s m ([.ref p0.toNat, .int (iI p1)] : List Value).toArray below meth c H locs 0 0 Q (F0 m 41 ls []) := by
            intro H locs ls h_58 hP hD hS hl
            refine lv_aload_n hx hb dX7_readSum_41 rfl (lv_at hl 1 rfl) ?_
            have b_59 : vc7 p0 6 = v p0 6 := (((fr_use q0 f_35 rfl)).trans (fr_use q0 f_13 rfl))
            refine jc_i (va_runV (As := []) (rest := []) ⟨hx, hb, hml, hown, hts⟩ (sX7_kind l dC dI _ L cid K N tW sK sV vc7 tT tN p0 I_36 q0 (tks_fr hI q0 (show fr K [(7, 7), (7, 8), (7, 10), (25, (-1))] vc7 v from (fr_tr f_35 rfl (fr_tr f_13 rfl fr_rf))) rfl rfl rfl rfl rfl rfl rfl (fun _ => rfl) (fun _ => rfl) (fun _ => rfl) (fun _ => rfl) (fun _ => rfl) k2) (by omega)) (cwV 0 hts (jgoodV m_674 m_675 m_676 m_677 m_678) rfl rfl rfl (by decide +kernel) ⟨(Nat.le_of_ble_eq_true rfl), (Nat.le_of_ble_eq_true rfl)⟩) ⟨xP_blind, xrecv hK hP q0 rfl rfl, fun U hU hW => ⟨rfl, xP_of hU hW hP hK hD hX hS (fun _ h => h) hA⟩⟩ rfl rfl hl.1 rfl (lv_room (Nat.le_of_ble_eq_true rfl)) dX7_readSum_42 ⟨(Nat.le_of_ble_eq_true rfl), (Nat.le_of_ble_eq_true rfl)⟩) hP hS hA (fun r_60 H locs w_61 hP hS => ?_)
            obtain ⟨z_62, rfl, h_63, h_64, h_65⟩ := w_61
            have b_66 : vc7 p0 6 = v p0 6 := (((fr_use q0 f_35 rfl)).trans (fr_use q0 f_13 rfl))
            refine lv_bipush (v := iI 43) hx hb dX7_readSum_45 rfl ?_
            have J57 : ∀ (s0_57 : Int) (H : Heap) (locs : List Loc) (ls : Array Slot), ((-12) ≤ s0_57 ∧ s0_57 ≤ (-11)) → va_P (dC, dI) vwCl (xG L cid K N vc7) H → va_D A (xG L cid K N vc7) → va_S A s.heap H locs → lv_has ls 4 [(2, .int (iI a2_7)), (0, .ref p0.toNat), (1, .int (iI p1))] → W p l e ({ frames := 28, cells := 0, slots := 0, locals := 638 }) s m ([.ref p0.toNat, .int (iI p1)] : List Value).toArray below meth c H locs 0 0 Q (F0 m 57 ls [.int (iI s0_57)]) := by
              intro s0_57 H locs ls h_67 hP hD hS hl
              refine lv_istore_n (i := 3) (lv' := [(3, .int (iI s0_57)), (2, .int (iI a2_7)), (0, .ref p0.toNat), (1, .int (iI p1))]) hx hb dX7_readSum_57 rfl hl (by decide) rfl (fun ls hl => ?_)
              refine lv_aload_n hx hb dX7_readSum_58 rfl (lv_at hl 2 rfl) ?_
              refine jcg_v (va_runV (As := []) (rest := []) ⟨hx, hb, hml, hown, hts⟩ (sX7_advance l dC dI _ L cid K N tW sK sV vc7 p0 I_36 q0 (by omega)) (cwV 0 hts (jgoodV m_692 m_693 m_694 m_677 m_695) rfl rfl rfl (by decide +kernel) ⟨(Nat.le_of_ble_eq_true rfl), (Nat.le_of_ble_eq_true rfl)⟩) ⟨xP_blind, xrecv hK hP q0 rfl rfl, fun U hU hW => ⟨rfl, xP_of hU hW hP hK hD hX hS (fun _ h => h) hA⟩⟩ rfl rfl hl.1 rfl (lv_room (Nat.le_of_ble_eq_true rfl)) dX7_readSum_59 ⟨(Nat.le_of_ble_eq_true rfl), (Nat.le_of_ble_eq_true rfl)⟩) hD hS hA (fun v_72 H locs w_69 hP hK hD hS => ?_)
              obtain ⟨I_74, f_73, h_71⟩ := w_69
              have hP : va_P (dC, dI) vwCl (xG L cid K N v_72) H := hP
              have hD : va_D A (xG L cid K N v_72) := hD
              have h_75 : (-2147483648) ≤ v_72 p0 7 ∧ v_72 p0 7 ≤ 2147483647 := xf_7_7 I_74 q0
              have rp_76 : EP tT tN [1] p1 (v p0 8) (v p0 7) (vc7 p0 8) (v_72 p0 7) [3, 2] (p1) := EP_2y rp_37 (by omega) (by omega) (by omega)
              refine lv_aload_n hx hb dX7_readSum_62 rfl (lv_at hl 2 rfl) ?_
              refine lv_iload_n hx hb dX7_readSum_63 rfl (lv_at hl 3 rfl) ?_
              have b_77 : v_72 p0 6 = v p0 6 := (((fr_use q0 f_73 rfl)).trans (((fr_use q0 f_35 rfl)).trans (fr_use q0 f_13 rfl)))
              refine jcg_v (va_runV (As := [.int (iI p1)]) (rest := []) ⟨hx, hb, hml, hown, hts⟩ (sX7_readProduct_q0 l dC dI _ L cid K N tW sK sV v_72 tT tN p0 p1 I_74 q0 (by omega) (by omega) (tks_fr hI q0 (show fr K [(7, 7), (7, 8), (7, 10), (25, (-1))] v_72 v from (fr_tr f_73 rfl (fr_tr f_35 rfl (fr_tr f_13 rfl fr_rf)))) rfl rfl rfl rfl rfl rfl rfl (fun _ => rfl) (fun _ => rfl) (fun _ => rfl) (fun _ => rfl) (fun _ => rfl) k2) (by omega)) (cwV 1 hts (jgoodV m_700 m_701 m_702 m_677 m_703) rfl rfl rfl (by decide +kernel) ⟨(Nat.le_of_ble_eq_true rfl), (Nat.le_of_ble_eq_true rfl)⟩) ⟨xP_blind, xrecv hK hP q0 rfl rfl, fun U hU hW => ⟨rfl, xP_of hU hW hP hK hD hX hS (fun _ h => h) hA⟩⟩ rfl rfl hl.1 rfl (lv_room (Nat.le_of_ble_eq_true rfl)) dX7_readSum_64 ⟨(Nat.le_of_ble_eq_true rfl), (Nat.le_of_ble_eq_true rfl)⟩) hD hS hA (fun v_85 H locs w_79 hP hK hD hS => ?_)
              obtain ⟨I_87, f_86, h_81, h_82, h_83, h_84⟩ := w_79
              have hP : va_P (dC, dI) vwCl (xG L cid K N v_85) H := hP
              have hD : va_D A (xG L cid K N v_85) := hD
              have b_88 : v_72 p0 6 = v p0 6 := (((fr_use q0 f_73 rfl)).trans (((fr_use q0 f_35 rfl)).trans (fr_use q0 f_13 rfl)))
              have b_89 : v_72 p0 8 = vc7 p0 8 := (fr_use q0 f_73 rfl)
              have h_90 : (-2147483648) ≤ v_85 p0 8 ∧ v_85 p0 8 ≤ 2147483647 := xf_7_8 I_87 q0
              have h_91 : (-2147483648) ≤ v_85 p0 7 ∧ v_85 p0 7 ≤ 2147483647 := xf_7_7 I_87 q0
              rw [show v_72 p0 8 = vc7 p0 8 from (fr_use q0 f_73 rfl)] at h_81
              rw [show v_72 p0 8 = vc7 p0 8 from (fr_use q0 f_73 rfl)] at h_83
              rw [show v_72 p0 8 = vc7 p0 8 from (fr_use q0 f_73 rfl)] at h_84
              have rp_92 : EP tT tN [1] p1 (v p0 8) (v p0 7) (v_85 p0 8) (v_85 p0 7) [2] (p1) := EP_c rp_76 h_84 h_81
              have g_93 : v_85 p0 8 ≠ -1 ∨ v_72 p0 7 + 1 ≤ v_85 p0 7 := jF_2 h_83 (by omega)
              refine lv_aload_n hx hb dX7_readSum_67 rfl (lv_at hl 2 rfl) ?_
              refine lv_iload_n hx hb dX7_readSum_68 rfl (lv_at hl 0 rfl) ?_
              refine jcg_v (va_runV (As := [.int (iI s0_57)]) (rest := []) ⟨hx, hb, hml, hown, hts⟩ (sX7_emit l dC dI _ L cid K N tW sK sV v_85 p0 s0_57 I_87 q0 (by omega)) (cwV 1 hts (jgoodV m_688 m_689 m_690 m_677 m_691) rfl rfl rfl (by decide +kernel) ⟨(Nat.le_of_ble_eq_true rfl), (Nat.le_of_ble_eq_true rfl)⟩) ⟨xP_blind, xrecv hK hP q0 rfl rfl, fun U hU hW => ⟨rfl, xP_of hU hW hP hK hD hX hS (fun _ h => h) hA⟩⟩ rfl rfl hl.1 rfl (lv_room (Nat.le_of_ble_eq_true rfl)) dX7_readSum_69 ⟨(Nat.le_of_ble_eq_true rfl), (Nat.le_of_ble_eq_true rfl)⟩) hD hS hA (fun v_97 H locs w_95 hP hK hD hS => ?_)
              obtain ⟨I_99, f_98⟩ := w_95
              have hP : va_P (dC, dI) vwCl (xG L cid K N v_97) H := hP
              have hD : va_D A (xG L cid K N v_97) := hD
              refine lv_iinc (v := iI (a2_7 + 1)) (lv' := [(2, .int (iI (a2_7 + 1))), (3, .int (iI s0_57)), (0, .ref p0.toNat), (1, .int (iI p1))]) hx hb dX7_readSum_72 hl (k := 1) rfl (iI_add _ _) (by decide) rfl (fun ls hl => ?_)
              refine lv_goto (tgt := 7) hx hb dX7_readSum_75 (by decide) ?_
              have b_100 : v_97 p0 8 = v_85 p0 8 := (fr_use q0 f_98 rfl)
              have b_101 : v_97 p0 7 = v_85 p0 7 := (fr_use q0 f_98 rfl)
              exact ih7 (a2_7 + 1) v_97 H locs ls (by omega) (by omega) (by omega) (by omega) (by omega) (by exact (by rw [show v_97 p0 8 = v_85 p0 8 from (fr_use q0 f_98 rfl), show v_97 p0 7 = v_85 p0 7 from (fr_use q0 f_98 rfl)]; exact rp_92)) (by omega) (fr_tr f_98 rfl (fr_tr f_86 rfl (fr_tr f_73 rfl (fr_tr f_35 rfl fr_rf)))) I_99 hP hD hS (lv_sub hl [0, 2, 3] rfl)
            refine xr_icmp_ne (tgt := 55) hx hb dX7_readSum_47 (by decide) (by omega) (by omega) (fun h_102 => ?_) (fun h_102 => ?_)
            · refine lv_bipush (v := iI (-12)) hx hb dX7_readSum_55 rfl ?_
              exact J57 (-12) H locs ls (by omega) hP hD hS hl
            · refine lv_bipush (v := iI (-11)) hx hb dX7_readSum_50 rfl ?_
              refine lv_goto (tgt := 57) hx hb dX7_readSum_52 (by decide) ?_
              exact J57 (-11) H locs ls (by omega) hP hD hS hl
          refine xr_icmp_eq (tgt := 41) hx hb dX7_readSum_29 (by decide) (by omega) (by omega) (fun h_103 => ?_) (fun h_103 => ?_)
          · exact J41 H locs ls (by omega) hP hD hS hl
          · refine lv_aload_n hx hb dX7_readSum_32 rfl (lv_at hl 1 rfl) ?_
            have b_104 : vc7 p0 6 = v p0 6 := (((fr_use q0 f_35 rfl)).trans (fr_use q0 f_13 rfl))
            refine jc_i (va_runV (As := []) (rest := []) ⟨hx, hb, hml, hown, hts⟩ (sX7_kind l dC dI _ L cid K N tW sK sV vc7 tT tN p0 I_36 q0 (tks_fr hI q0 (show fr K [(7, 7), (7, 8), (7, 10), (25, (-1))] vc7 v from (fr_tr f_35 rfl (fr_tr f_13 rfl fr_rf))) rfl rfl rfl rfl rfl rfl rfl (fun _ => rfl) (fun _ => rfl) (fun _ => rfl) (fun _ => rfl) (fun _ => rfl) k2) (by omega)) (cwV 0 hts (jgoodV m_674 m_675 m_676 m_677 m_678) rfl rfl rfl (by decide +kernel) ⟨(Nat.le_of_ble_eq_true rfl), (Nat.le_of_ble_eq_true rfl)⟩) ⟨xP_blind, xrecv hK hP q0 rfl rfl, fun U hU hW => ⟨rfl, xP_of hU hW hP hK hD hX hS (fun _ h => h) hA⟩⟩ rfl rfl hl.1 rfl (lv_room (Nat.le_of_ble_eq_true rfl)) dX7_readSum_33 ⟨(Nat.le_of_ble_eq_true rfl), (Nat.le_of_ble_eq_true rfl)⟩) hP hS hA (fun r_105 H locs w_106 hP hS => ?_)
            obtain ⟨z_107, rfl, h_108, h_109, h_110⟩ := w_106
            have b_111 : vc7 p0 6 = v p0 6 := (((fr_use q0 f_35 rfl)).trans (fr_use q0 f_13 rfl))
            refine lv_bipush (v := iI 45) hx hb dX7_readSum_36 rfl ?_
            refine xr_icmp_ne (tgt := 78) hx hb dX7_readSum_38 (by decide) (by omega) (by omega) (fun h_112 => ?_) (fun h_112 => ?_)
            · have t_113 := tk_lt (T := tT) (n := tN) (j := vc7 p0 7) (by omega)
              have t2 := tks_n k2
              have t3 := twd_d tT tN (tkx tT tN (vc7 p0 7))
              have rp_114 : EP tT tN [1] p1 (v p0 8) (v p0 7) (vc7 p0 8) (vc7 p0 7) [] (p1) := EP_2n rp_37 (by omega)
              rw [← hQ]
              exact W.vret hx hb hr (fun t ht hW => ⟨⟨vc7, rfl, ⟨I_36, (fr_tr f_35 rfl (fr_tr f_13 rfl fr_rf)), by unfold jF; omega, by omega, by unfold jF; omega, by first | exact rp_114 | exact EP_x (by omega)⟩, by rw [ht]; exact hP, va_K.moved hW.alike hK, hD⟩, hS.F ht⟩) hS.2.2 dX7_readSum_78
            · exact J41 H locs ls (by omega) hP hD hS hl
  exact L7 ((((v p0 1) - 0 : Int)).toNat + 1) 0 v_12 H locs ls (by omega) (by omega) (by omega) (by omega) (by omega) (by exact rp_18) (by omega) fr_rf I_14 hP hD hS hl
set_option maxHeartbeats 2000000 in
set_option maxRecDepth 100000 in
theorem sX7_readComparison_q0 (l : Launch) (dC : Nat → ClassId) (dI : Nat → Nat → Nat) (sz : Nat) (L : List Nat) (cid : Nat → ClassId) (K : Int → Nat) (N : Int → Int) (tW : Nat) (sK sV : Nat → Nat) (v : Int → Int → Int) (tT : Int → Int) (tN : Int) (p0 : Int) (p1 : Int) (hI : xI L K N v) (q0 : ok L K p0 7) (q1 : rg p1) (k1 : 0 ≤ p1 ∧ p1 ≤ 0) (k2 : tks tT tN v p0) (k3 : 0 ≤ v p0 7 ∧ v p0 7 < v p0 6) : Met l yX7_readComparison (jk yX7_readComparison cX7_readComparison 3 none) ({ frames := 29, cells := 0, slots := 0, locals := 661 }) (va_Pc [.ref p0.toNat, .int (iI p1)] (xP (dC, dI) (xG L cid K N v) (xT cid) tW sK sV sz)) (va_Qv (fun (u : (Int → Int → Int)) => (xI L K N u) ∧ (fr K [(7, 7), (7, 8), (7, 10), (25, (-1))] u v) ∧ (jF (v p0 8 ≠ -1) (u p0 8 = v p0 8)) ∧ (0 ≤ u p0 7 ∧ v p0 7 ≤ u p0 7 ∧ u p0 7 < v p0 6) ∧ (jF (v p0 8 = -1 ∧ u p0 8 = -1) (v p0 7 + 1 ≤ u p0 7)) ∧ (EP tT tN [1, 11] p1 (v p0 8) (v p0 7) (u p0 8) (u p0 7) [] p1)) (fun u t => va_P (dC, dI) vwCl (xG L cid K N u) t.heap ∧ va_K (dC, dI) vwCl (xT cid) t ∧ va_D (va_A (xG L cid K N v) sz) (xG L cid K N u)) (va_A (xG L cid K N v) sz)) 0 0 (va_A (xG L cid K N v) sz) := by
  refine Met.ofW (cc := cX7_readComparison) (maxL := 3) (ret := none) (by decide) rfl ?_
  intro p e s m args below meth c s₁ B hml hv
  obtain ⟨rfl, ⟨hsz, hP, hK, hD0⟩, hX⟩ := hv
  have hx := B.exec
  have hb := B.bytes
  have hr := B.returns
  have hts := atoms_spec (ws := (jk yX7_readComparison cX7_readComparison 3 none)) B.pre
  have hj : ∀ w ∈ jw, w.before ([.ref p0.toNat, .int (iI p1)] : List Value).toArray s = true := fun w h => hts w (jm h)
  have hown : s.vm.findClass RX7 = some m.cls := findClass_of_methodNamed B.named
  subst hsz
  have hD := hD0.self (sz := s.heap.size)
  generalize hAe : (va_A (xG L cid K N v) s.heap.size) = A at hD hX ⊢
  have hA : ∀ q : Nat, s.heap.size ≤ q → A q := fun q h => by rw [← hAe]; exact Or.inr h
  have hS : va_S A s.heap s.heap [] := va_S.rf
  have hXa := hX
  have hP : va_P (dC, dI) vwCl (xG L cid K N v) s.heap := hP
  have hl := lv_entry ([.ref p0.toNat, .int (iI p1)]) (n := 3) (Nat.le_of_ble_eq_true rfl)
  rw [lg_entry_eq]
  generalize (lg_sl ([.ref p0.toNat, .int (iI p1)]) ++ List.replicate (3 - (lg_sl ([.ref p0.toNat, .int (iI p1)])).length) Slot.unset).toArray = ls at hl ⊢
  have hl : lv_has ls 3 [(0, .ref p0.toNat), (1, .int (iI p1))] := hl
  generalize hQ : MQ below (va_Qv (fun (u : (Int → Int → Int)) => (xI L K N u) ∧ (fr K [(7, 7), (7, 8), (7, 10), (25, (-1))] u v) ∧ (jF (v p0 8 ≠ -1) (u p0 8 = v p0 8)) ∧ (0 ≤ u p0 7 ∧ v p0 7 ≤ u p0 7 ∧ u p0 7 < v p0 6) ∧ (jF (v p0 8 = -1 ∧ u p0 8 = -1) (v p0 7 + 1 ≤ u p0 7)) ∧ (EP tT tN [1, 11] p1 (v p0 8) (v p0 7) (u p0 8) (u p0 7) [] p1)) (fun u t => va_P (dC, dI) vwCl (xG L cid K N u) t.heap ∧ va_K (dC, dI) vwCl (xT cid) t ∧ va_D A (xG L cid K N u)) A) ([.ref p0.toNat, .int (iI p1)] : List Value).toArray s 0 0 A = Q
  suffices ST : ∀ (H : Heap) (locs : List Loc), va_P (dC, dI) vwCl (xG L cid K N v) H → va_S A s.heap H locs → W p l e ({ frames := 29, cells := 0, slots := 0, locals := 661 }) s m ([.ref p0.toNat, .int (iI p1)] : List Value).toArray below meth c H locs 0 0 Q (F0 m 0 ls []) from ST _ _ hP hS
  clear hP hS
  intro H locs hP hS
  have hTK := tks_m k2
  have rp_1 : EP tT tN [1, 11] p1 (v p0 8) (v p0 7) (v p0 8) (v p0 7) [1, 11] p1 := EP_0
  refine lv_aload_n hx hb dX7_readComparison_0 rfl (lv_at hl 0 rfl) ?_
  refine lv_iload_n hx hb dX7_readComparison_1 rfl (lv_at hl 1 rfl) ?_
  have h_2 : (-2147483648) ≤ v p0 7 ∧ v p0 7 ≤ 2147483647 := xf_7_7 hI q0
  have h_3 : (-2147483648) ≤ v p0 6 ∧ v p0 6 ≤ 2147483647 := xf_7_6 hI q0
  refine jcg_v (va_runV (As := [.int (iI p1)]) (rest := []) ⟨hx, hb, hml, hown, hts⟩ (sX7_readSum_q0 l dC dI _ L cid K N tW sK sV v tT tN p0 p1 hI q0 (by omega) (by omega) k2 (by omega)) (cwV 1 hts (jgoodV m_704 m_705 m_706 m_677 m_707) rfl rfl rfl (by decide +kernel) ⟨(Nat.le_of_ble_eq_true rfl), (Nat.le_of_ble_eq_true rfl)⟩) ⟨xP_blind, xrecv hK hP q0 rfl rfl, fun U hU hW => ⟨rfl, xP_of hU hW hP hK hD hX hS (fun _ h => h) hA⟩⟩ rfl rfl hl.1 rfl (lv_room (Nat.le_of_ble_eq_true rfl)) dX7_readComparison_2 ⟨(Nat.le_of_ble_eq_true rfl), (Nat.le_of_ble_eq_true rfl)⟩) hD hS hA (fun v_11 H locs w_5 hP hK hD hS => ?_)
  obtain ⟨I_13, f_12, h_7, h_8, h_9, h_10⟩ := w_5
  have hP : va_P (dC, dI) vwCl (xG L cid K N v_11) H := hP
  have hD : va_D A (xG L cid K N v_11) := hD
  have h_14 : (-2147483648) ≤ v p0 8 ∧ v p0 8 ≤ 2147483647 := xf_7_8 hI q0
  have h_15 : (-2147483648) ≤ v_11 p0 8 ∧ v_11 p0 8 ≤ 2147483647 := xf_7_8 I_13 q0
  have h_16 : (-2147483648) ≤ v_11 p0 7 ∧ v_11 p0 7 ≤ 2147483647 := xf_7_7 I_13 q0
  have rp_17 : EP tT tN [1, 11] p1 (v p0 8) (v p0 7) (v_11 p0 8) (v_11 p0 7) [11] (p1) := EP_c rp_1 h_10 h_7
  have g_18 : v p0 8 = -1 ∨ v_11 p0 8 = v p0 8 := jF_o h_7
  have g_19 : v p0 8 ≠ -1 ∨ v_11 p0 8 ≠ -1 ∨ v p0 7 + 1 ≤ v_11 p0 7 := jF_3 h_9
  refine lv_aload_n hx hb dX7_readComparison_5 rfl (lv_at hl 0 rfl) ?_
  have b_20 : v_11 p0 6 = v p0 6 := (fr_use q0 f_12 rfl)
  refine jc_i (va_runV (As := []) (rest := []) ⟨hx, hb, hml, hown, hts⟩ (sX7_kind l dC dI _ L cid K N tW sK sV v_11 tT tN p0 I_13 q0 (tks_fr hI q0 (show fr K [(7, 7), (7, 8), (7, 10), (25, (-1))] v_11 v from (fr_tr f_12 rfl fr_rf)) rfl rfl rfl rfl rfl rfl rfl (fun _ => rfl) (fun _ => rfl) (fun _ => rfl) (fun _ => rfl) (fun _ => rfl) k2) (by omega)) (cwV 0 hts (jgoodV m_674 m_675 m_676 m_677 m_678) rfl rfl rfl (by decide +kernel) ⟨(Nat.le_of_ble_eq_true rfl), (Nat.le_of_ble_eq_true rfl)⟩) ⟨xP_blind, xrecv hK hP q0 rfl rfl, fun U hU hW => ⟨rfl, xP_of hU hW hP hK hD hX hS (fun _ h => h) hA⟩⟩ rfl rfl hl.1 rfl (lv_room (Nat.le_of_ble_eq_true rfl)) dX7_readComparison_6 ⟨(Nat.le_of_ble_eq_true rfl), (Nat.le_of_ble_eq_true rfl)⟩) hP hS hA (fun r_21 H locs w_22 hP hS => ?_)
  obtain ⟨z_23, rfl, h_24, h_25, h_26⟩ := w_22
  have b_27 : v_11 p0 6 = v p0 6 := (fr_use q0 f_12 rfl)
  refine lv_istore_n (i := 2) (lv' := [(2, .int (iI z_23)), (0, .ref p0.toNat), (1, .int (iI p1))]) hx hb dX7_readComparison_9 rfl hl (by decide) rfl (fun ls hl => ?_)
  refine lv_iload_n hx hb dX7_readComparison_10 rfl (lv_at hl 0 rfl) ?_
  refine lv_bipush (v := iI 60) hx hb dX7_readComparison_11 rfl ?_
  have J33 : ∀ (H : Heap) (locs : List Loc) (ls : Array Slot), (z_23 = 60 ∨ z_23 = 62 ∨ z_23 = 61) → va_P (dC, dI) vwCl (xG L cid K N v_11) H → va_D A (xG L cid K N v_11) → va_S A s.heap H locs → lv_has ls 3 [(2, .int (iI z_23)), (0, .ref p0.toNat), (1, .int (iI p1))] → W p l e ({ frames := 29, cells := 0, slots := 0, locals := 661 }) s m ([.ref p0.toNat, .int (iI p1)] : List Value).toArray below meth c H locs 0 0 Q (F0 m 33 ls []) := by
    intro H locs ls h_28 hP hD hS hl
    refine lv_aload_n hx hb dX7_readComparison_33 rfl (lv_at hl 1 rfl) ?_
    refine jcg_v (va_runV (As := []) (rest := []) ⟨hx, hb, hml, hown, hts⟩ (sX7_advance l dC dI _ L cid K N tW sK sV v_11 p0 I_13 q0 (by omega)) (cwV 0 hts (jgoodV m_692 m_693 m_694 m_677 m_695) rfl rfl rfl (by decide +kernel) ⟨(Nat.le_of_ble_eq_true rfl), (Nat.le_of_ble_eq_true rfl)⟩) ⟨xP_blind, xrecv hK hP q0 rfl rfl, fun U hU hW => ⟨rfl, xP_of hU hW hP hK hD hX hS (fun _ h => h) hA⟩⟩ rfl rfl hl.1 rfl (lv_room (Nat.le_of_ble_eq_true rfl)) dX7_readComparison_34 ⟨(Nat.le_of_ble_eq_true rfl), (Nat.le_of_ble_eq_true rfl)⟩) hD hS hA (fun v_33 H locs w_30 hP hK hD hS => ?_)
    obtain ⟨I_35, f_34, h_32⟩ := w_30
    have hP : va_P (dC, dI) vwCl (xG L cid K N v_33) H := hP
    have hD : va_D A (xG L cid K N v_33) := hD
    have h_36 : (-2147483648) ≤ v_33 p0 7 ∧ v_33 p0 7 ≤ 2147483647 := xf_7_7 I_35 q0
    have rp_37 : EP tT tN [1, 11] p1 (v p0 8) (v p0 7) (v_11 p0 8) (v_33 p0 7) [1] (p1) := EP_11y rp_17 (by omega) (by omega) (by omega)
    refine lv_aload_n hx hb dX7_readComparison_37 rfl (lv_at hl 1 rfl) ?_
    refine lv_iload_n hx hb dX7_readComparison_38 rfl (lv_at hl 2 rfl) ?_
    have b_38 : v_33 p0 6 = v p0 6 := (((fr_use q0 f_34 rfl)).trans (fr_use q0 f_12 rfl))
    refine jcg_v (va_runV (As := [.int (iI p1)]) (rest := []) ⟨hx, hb, hml, hown, hts⟩ (sX7_readSum_q0 l dC dI _ L cid K N tW sK sV v_33 tT tN p0 p1 I_35 q0 (by omega) (by omega) (tks_fr hI q0 (show fr K [(7, 7), (7, 8), (7, 10), (25, (-1))] v_33 v from (fr_tr f_34 rfl (fr_tr f_12 rfl fr_rf))) rfl rfl rfl rfl rfl rfl rfl (fun _ => rfl) (fun _ => rfl) (fun _ => rfl) (fun _ => rfl) (fun _ => rfl) k2) (by omega)) (cwV 1 hts (jgoodV m_704 m_705 m_706 m_677 m_707) rfl rfl rfl (by decide +kernel) ⟨(Nat.le_of_ble_eq_true rfl), (Nat.le_of_ble_eq_true rfl)⟩) ⟨xP_blind, xrecv hK hP q0 rfl rfl, fun U hU hW => ⟨rfl, xP_of hU hW hP hK hD hX hS (fun _ h => h) hA⟩⟩ rfl rfl hl.1 rfl (lv_room (Nat.le_of_ble_eq_true rfl)) dX7_readComparison_39 ⟨(Nat.le_of_ble_eq_true rfl), (Nat.le_of_ble_eq_true rfl)⟩) hD hS hA (fun v_46 H locs w_40 hP hK hD hS => ?_)
    obtain ⟨I_48, f_47, h_42, h_43, h_44, h_45⟩ := w_40
    have hP : va_P (dC, dI) vwCl (xG L cid K N v_46) H := hP
    have hD : va_D A (xG L cid K N v_46) := hD
    have b_49 : v_33 p0 6 = v p0 6 := (((fr_use q0 f_34 rfl)).trans (fr_use q0 f_12 rfl))
    have b_50 : v_33 p0 8 = v_11 p0 8 := (fr_use q0 f_34 rfl)
    have h_51 : (-2147483648) ≤ v_46 p0 8 ∧ v_46 p0 8 ≤ 2147483647 := xf_7_8 I_48 q0
    have h_52 : (-2147483648) ≤ v_46 p0 7 ∧ v_46 p0 7 ≤ 2147483647 := xf_7_7 I_48 q0
    rw [show v_33 p0 8 = v_11 p0 8 from (fr_use q0 f_34 rfl)] at h_42
    rw [show v_33 p0 8 = v_11 p0 8 from (fr_use q0 f_34 rfl)] at h_44
    rw [show v_33 p0 8 = v_11 p0 8 from (fr_use q0 f_34 rfl)] at h_45
    have rp_53 : EP tT tN [1, 11] p1 (v p0 8) (v p0 7) (v_46 p0 8) (v_46 p0 7) [] (p1) := EP_c rp_37 h_45 h_42
    have g_54 : v_11 p0 8 = -1 ∨ v_46 p0 8 = v_11 p0 8 := jF_o h_42
    have g_55 : v_11 p0 8 ≠ -1 ∨ v_46 p0 8 ≠ -1 ∨ v_33 p0 7 + 1 ≤ v_46 p0 7 := jF_3 h_44
    refine lv_aload_n hx hb dX7_readComparison_42 rfl (lv_at hl 1 rfl) ?_
    refine lv_iload_n hx hb dX7_readComparison_43 rfl (lv_at hl 0 rfl) ?_
    refine lv_bipush (v := iI 60) hx hb dX7_readComparison_44 rfl ?_
    have J67 : ∀ (s0_67 : Int) (H : Heap) (locs : List Loc) (ls : Array Slot), ((-17) ≤ s0_67 ∧ s0_67 ≤ (-15)) → va_P (dC, dI) vwCl (xG L cid K N v_46) H → va_D A (xG L cid K N v_46) → va_S A s.heap H locs → lv_has ls 3 [(2, .int (iI z_23)), (0, .ref p0.toNat), (1, .int (iI p1))] → W p l e ({ frames := 29, cells := 0, slots := 0, locals := 661 }) s m ([.ref p0.toNat, .int (iI p1)] : List Value).toArray below meth c H locs 0 0 Q (F0 m 67 ls [.int (iI s0_67), .ref p0.toNat]) := by
      intro s0_67 H locs ls h_56 hP hD hS hl
      refine jcg_v (va_runV (As := [.int (iI s0_67)]) (rest := []) ⟨hx, hb, hml, hown, hts⟩ (sX7_emit l dC dI _ L cid K N tW sK sV v_46 p0 s0_67 I_48 q0 (by omega)) (cwV 1 hts (jgoodV m_688 m_689 m_690 m_677 m_691) rfl rfl rfl (by decide +kernel) ⟨(Nat.le_of_ble_eq_true rfl), (Nat.le_of_ble_eq_true rfl)⟩) ⟨xP_blind, xrecv hK hP q0 rfl rfl, fun U hU hW => ⟨rfl, xP_of hU hW hP hK hD hX hS (fun _ h => h) hA⟩⟩ rfl rfl hl.1 rfl (lv_room (Nat.le_of_ble_eq_true rfl)) dX7_readComparison_67 ⟨(Nat.le_of_ble_eq_true rfl), (Nat.le_of_ble_eq_true rfl)⟩) hD hS hA (fun v_60 H locs w_58 hP hK hD hS => ?_)
      obtain ⟨I_62, f_61⟩ := w_58
      have hP : va_P (dC, dI) vwCl (xG L cid K N v_60) H := hP
      have hD : va_D A (xG L cid K N v_60) := hD
      have b_63 : v_60 p0 8 = v_46 p0 8 := (fr_use q0 f_61 rfl)
      have b_64 : v_60 p0 7 = v_46 p0 7 := (fr_use q0 f_61 rfl)
      rw [← hQ]
      exact W.vret hx hb hr (fun t ht hW => ⟨⟨v_60, rfl, ⟨I_62, (fr_tr f_61 rfl (fr_tr f_47 rfl (fr_tr f_34 rfl (fr_tr f_12 rfl fr_rf)))), by unfold jF; omega, by omega, by unfold jF; omega, by first | exact (by rw [show v_60 p0 8 = v_46 p0 8 from (fr_use q0 f_61 rfl), show v_60 p0 7 = v_46 p0 7 from (fr_use q0 f_61 rfl)]; exact rp_53) | exact EP_x (by omega)⟩, by rw [ht]; exact hP, va_K.moved hW.alike hK, hD⟩, hS.F ht⟩) hS.2.2 dX7_readComparison_70
    refine xr_icmp_ne (tgt := 54) hx hb dX7_readComparison_46 (by decide) (by omega) (by omega) (fun h_65 => ?_) (fun h_65 => ?_)
    · refine lv_iload_n hx hb dX7_readComparison_54 rfl (lv_at hl 0 rfl) ?_
      refine lv_bipush (v := iI 62) hx hb dX7_readComparison_55 rfl ?_
      refine xr_icmp_ne (tgt := 65) hx hb dX7_readComparison_57 (by decide) (by omega) (by omega) (fun h_66 => ?_) (fun h_66 => ?_)
      · refine lv_bipush (v := iI (-17)) hx hb dX7_readComparison_65 rfl ?_
        exact J67 (-17) H locs ls (by omega) hP hD hS hl
      · refine lv_bipush (v := iI (-16)) hx hb dX7_readComparison_60 rfl ?_
        refine lv_goto (tgt := 67) hx hb dX7_readComparison_62 (by decide) ?_
        exact J67 (-16) H locs ls (by omega) hP hD hS hl
    · refine lv_bipush (v := iI (-15)) hx hb dX7_readComparison_49 rfl ?_
      refine lv_goto (tgt := 67) hx hb dX7_readComparison_51 (by decide) ?_
      exact J67 (-15) H locs ls (by omega) hP hD hS hl
  refine xr_icmp_eq (tgt := 33) hx hb dX7_readComparison_13 (by decide) (by omega) (by omega) (fun h_67 => ?_) (fun h_67 => ?_)
  · exact J33 H locs ls (by omega) hP hD hS hl
  · refine lv_iload_n hx hb dX7_readComparison_16 rfl (lv_at hl 0 rfl) ?_
    refine lv_bipush (v := iI 62) hx hb dX7_readComparison_17 rfl ?_
    refine xr_icmp_eq (tgt := 33) hx hb dX7_readComparison_19 (by decide) (by omega) (by omega) (fun h_68 => ?_) (fun h_68 => ?_)
    · exact J33 H locs ls (by omega) hP hD hS hl
    · refine lv_iload_n hx hb dX7_readComparison_22 rfl (lv_at hl 0 rfl) ?_
      refine lv_bipush (v := iI 61) hx hb dX7_readComparison_23 rfl ?_
      refine xr_icmp_eq (tgt := 33) hx hb dX7_readComparison_25 (by decide) (by omega) (by omega) (fun h_69 => ?_) (fun h_69 => ?_)
      · exact J33 H locs ls (by omega) hP hD hS hl
      · refine lv_aload_n hx hb dX7_readComparison_28 rfl (lv_at hl 1 rfl) ?_
        have b_70 : v_11 p0 6 = v p0 6 := (fr_use q0 f_12 rfl)
        refine jcg_v (va_runV (As := []) (rest := []) ⟨hx, hb, hml, hown, hts⟩ (sX7_refuse l dC dI _ L cid K N tW sK sV v_11 tT tN p0 I_13 q0 (tks_fr hI q0 (show fr K [(7, 7), (7, 8), (7, 10), (25, (-1))] v_11 v from (fr_tr f_12 rfl fr_rf)) rfl rfl rfl rfl rfl rfl rfl (fun _ => rfl) (fun _ => rfl) (fun _ => rfl) (fun _ => rfl) (fun _ => rfl) k2) (by omega)) (cwV 0 hts (jgoodV m_683 m_684 m_685 m_677 m_686) rfl rfl rfl (by decide +kernel) ⟨(Nat.le_of_ble_eq_true rfl), (Nat.le_of_ble_eq_true rfl)⟩) ⟨xP_blind, xrecv hK hP q0 rfl rfl, fun U hU hW => ⟨rfl, xP_of hU hW hP hK hD hX hS (fun _ h => h) hA⟩⟩ rfl rfl hl.1 rfl (lv_room (Nat.le_of_ble_eq_true rfl)) dX7_readComparison_29 ⟨(Nat.le_of_ble_eq_true rfl), (Nat.le_of_ble_eq_true rfl)⟩) hD hS hA (fun v_75 H locs w_72 hP hK hD hS => ?_)
        obtain ⟨I_77, f_76, h_74⟩ := w_72
        have hP : va_P (dC, dI) vwCl (xG L cid K N v_75) H := hP
        have hD : va_D A (xG L cid K N v_75) := hD
        have b_78 : v_11 p0 6 = v p0 6 := (fr_use q0 f_12 rfl)
        have h_79 : (-2147483648) ≤ v_75 p0 8 ∧ v_75 p0 8 ≤ 2147483647 := xf_7_8 I_77 q0
        have rp_80 : EP tT tN [1, 11] p1 (v p0 8) (v p0 7) (v_75 p0 8) (v_11 p0 7) [] (p1) := EP_11b rp_17 (by omega) (by omega) (by omega) (by omega)
        have b_81 : v_75 p0 7 = v_11 p0 7 := (fr_use q0 f_76 rfl)
        rw [← hQ]
        exact W.vret hx hb hr (fun t ht hW => ⟨⟨v_75, rfl, ⟨I_77, (fr_tr f_76 rfl (fr_tr f_12 rfl fr_rf)), by unfold jF; omega, by omega, by unfold jF; omega, by first | exact (by rw [show v_75 p0 7 = v_11 p0 7 from (fr_use q0 f_76 rfl)]; exact rp_80) | exact EP_x (by omega)⟩, by rw [ht]; exact hP, va_K.moved hW.alike hK, hD⟩, hS.F ht⟩) hS.2.2 dX7_readComparison_32
set_option maxHeartbeats 2000000 in
set_option maxRecDepth 100000 in
theorem sX7_readComparison_q1 (l : Launch) (dC : Nat → ClassId) (dI : Nat → Nat → Nat) (sz : Nat) (L : List Nat) (cid : Nat → ClassId) (K : Int → Nat) (N : Int → Int) (tW : Nat) (sK sV : Nat → Nat) (v : Int → Int → Int) (tT : Int → Int) (tN : Int) (p0 : Int) (p1 : Int) (hI : xI L K N v) (q0 : ok L K p0 7) (q1 : rg p1) (k1 : 1 ≤ p1 ∧ p1 ≤ 1) (k2 : tks tT tN v p0) (k3 : 0 ≤ v p0 7 ∧ v p0 7 < v p0 6) : Met l yX7_readComparison (jk yX7_readComparison cX7_readComparison 3 none) ({ frames := 26, cells := 0, slots := 0, locals := 592 }) (va_Pc [.ref p0.toNat, .int (iI p1)] (xP (dC, dI) (xG L cid K N v) (xT cid) tW sK sV sz)) (va_Qv (fun (u : (Int → Int → Int)) => (xI L K N u) ∧ (fr K [(7, 7), (7, 8), (7, 10), (25, (-1))] u v) ∧ (jF (v p0 8 ≠ -1) (u p0 8 = v p0 8)) ∧ (0 ≤ u p0 7 ∧ v p0 7 ≤ u p0 7 ∧ u p0 7 < v p0 6) ∧ (jF (v p0 8 = -1 ∧ u p0 8 = -1) (v p0 7 + 1 ≤ u p0 7)) ∧ (EP tT tN [1, 11] p1 (v p0 8) (v p0 7) (u p0 8) (u p0 7) [] p1)) (fun u t => va_P (dC, dI) vwCl (xG L cid K N u) t.heap ∧ va_K (dC, dI) vwCl (xT cid) t ∧ va_D (va_A (xG L cid K N v) sz) (xG L cid K N u)) (va_A (xG L cid K N v) sz)) 0 0 (va_A (xG L cid K N v) sz) := by
  refine Met.ofW (cc := cX7_readComparison) (maxL := 3) (ret := none) (by decide) rfl ?_
  intro p e s m args below meth c s₁ B hml hv
  obtain ⟨rfl, ⟨hsz, hP, hK, hD0⟩, hX⟩ := hv
  have hx := B.exec
  have hb := B.bytes
  have hr := B.returns
  have hts := atoms_spec (ws := (jk yX7_readComparison cX7_readComparison 3 none)) B.pre
  have hj : ∀ w ∈ jw, w.before ([.ref p0.toNat, .int (iI p1)] : List Value).toArray s = true := fun w h => hts w (jm h)
  have hown : s.vm.findClass RX7 = some m.cls := findClass_of_methodNamed B.named
  subst hsz
  have hD := hD0.self (sz := s.heap.size)
  generalize hAe : (va_A (xG L cid K N v) s.heap.size) = A at hD hX ⊢
  have hA : ∀ q : Nat, s.heap.size ≤ q → A q := fun q h => by rw [← hAe]; exact Or.inr h
  have hS : va_S A s.heap s.heap [] := va_S.rf
  have hXa := hX
  have hP : va_P (dC, dI) vwCl (xG L cid K N v) s.heap := hP
  have hl := lv_entry ([.ref p0.toNat, .int (iI p1)]) (n := 3) (Nat.le_of_ble_eq_true rfl)
  rw [lg_entry_eq]
  generalize (lg_sl ([.ref p0.toNat, .int (iI p1)]) ++ List.replicate (3 - (lg_sl ([.ref p0.toNat, .int (iI p1)])).length) Slot.unset).toArray = ls at hl ⊢
  have hl : lv_has ls 3 [(0, .ref p0.toNat), (1, .int (iI p1))] := hl
  generalize hQ : MQ below (va_Qv (fun (u : (Int → Int → Int)) => (xI L K N u) ∧ (fr K [(7, 7), (7, 8), (7, 10), (25, (-1))] u v) ∧ (jF (v p0 8 ≠ -1) (u p0 8 = v p0 8)) ∧ (0 ≤ u p0 7 ∧ v p0 7 ≤ u p0 7 ∧ u p0 7 < v p0 6) ∧ (jF (v p0 8 = -1 ∧ u p0 8 = -1) (v p0 7 + 1 ≤ u p0 7)) ∧ (EP tT tN [1, 11] p1 (v p0 8) (v p0 7) (u p0 8) (u p0 7) [] p1)) (fun u t => va_P (dC, dI) vwCl (xG L cid K N u) t.heap ∧ va_K (dC, dI) vwCl (xT cid) t ∧ va_D A (xG L cid K N u)) A) ([.ref p0.toNat, .int (iI p1)] : List Value).toArray s 0 0 A = Q
  suffices ST : ∀ (H : Heap) (locs : List Loc), va_P (dC, dI) vwCl (xG L cid K N v) H → va_S A s.heap H locs → W p l e ({ frames := 26, cells := 0, slots := 0, locals := 592 }) s m ([.ref p0.toNat, .int (iI p1)] : List Value).toArray below meth c H locs 0 0 Q (F0 m 0 ls []) from ST _ _ hP hS
  clear hP hS
  intro H locs hP hS
  have hTK := tks_m k2
  have rp_1 : EP tT tN [1, 11] p1 (v p0 8) (v p0 7) (v p0 8) (v p0 7) [1, 11] p1 := EP_0
  refine lv_aload_n hx hb dX7_readComparison_0 rfl (lv_at hl 0 rfl) ?_
  refine lv_iload_n hx hb dX7_readComparison_1 rfl (lv_at hl 1 rfl) ?_
  have h_2 : (-2147483648) ≤ v p0 7 ∧ v p0 7 ≤ 2147483647 := xf_7_7 hI q0
  have h_3 : (-2147483648) ≤ v p0 6 ∧ v p0 6 ≤ 2147483647 := xf_7_6 hI q0
  refine jcg_v (va_runV (As := [.int (iI p1)]) (rest := []) ⟨hx, hb, hml, hown, hts⟩ (sX7_readSum_q1 l dC dI _ L cid K N tW sK sV v tT tN p0 p1 hI q0 (by omega) (by omega) k2 (by omega)) (cwV 1 hts (jgoodV m_704 m_705 m_706 m_677 m_707) rfl rfl rfl (by decide +kernel) ⟨(Nat.le_of_ble_eq_true rfl), (Nat.le_of_ble_eq_true rfl)⟩) ⟨xP_blind, xrecv hK hP q0 rfl rfl, fun U hU hW => ⟨rfl, xP_of hU hW hP hK hD hX hS (fun _ h => h) hA⟩⟩ rfl rfl hl.1 rfl (lv_room (Nat.le_of_ble_eq_true rfl)) dX7_readComparison_2 ⟨(Nat.le_of_ble_eq_true rfl), (Nat.le_of_ble_eq_true rfl)⟩) hD hS hA (fun v_11 H locs w_5 hP hK hD hS => ?_)
  obtain ⟨I_13, f_12, h_7, h_8, h_9, h_10⟩ := w_5
  have hP : va_P (dC, dI) vwCl (xG L cid K N v_11) H := hP
  have hD : va_D A (xG L cid K N v_11) := hD
  have h_14 : (-2147483648) ≤ v p0 8 ∧ v p0 8 ≤ 2147483647 := xf_7_8 hI q0
  have h_15 : (-2147483648) ≤ v_11 p0 8 ∧ v_11 p0 8 ≤ 2147483647 := xf_7_8 I_13 q0
  have h_16 : (-2147483648) ≤ v_11 p0 7 ∧ v_11 p0 7 ≤ 2147483647 := xf_7_7 I_13 q0
  have rp_17 : EP tT tN [1, 11] p1 (v p0 8) (v p0 7) (v_11 p0 8) (v_11 p0 7) [11] (p1) := EP_c rp_1 h_10 h_7
  have g_18 : v p0 8 = -1 ∨ v_11 p0 8 = v p0 8 := jF_o h_7
  have g_19 : v p0 8 ≠ -1 ∨ v_11 p0 8 ≠ -1 ∨ v p0 7 + 1 ≤ v_11 p0 7 := jF_3 h_9
  refine lv_aload_n hx hb dX7_readComparison_5 rfl (lv_at hl 0 rfl) ?_
  have b_20 : v_11 p0 6 = v p0 6 := (fr_use q0 f_12 rfl)
  refine jc_i (va_runV (As := []) (rest := []) ⟨hx, hb, hml, hown, hts⟩ (sX7_kind l dC dI _ L cid K N tW sK sV v_11 tT tN p0 I_13 q0 (tks_fr hI q0 (show fr K [(7, 7), (7, 8), (7, 10), (25, (-1))] v_11 v from (fr_tr f_12 rfl fr_rf)) rfl rfl rfl rfl rfl rfl rfl (fun _ => rfl) (fun _ => rfl) (fun _ => rfl) (fun _ => rfl) (fun _ => rfl) k2) (by omega)) (cwV 0 hts (jgoodV m_674 m_675 m_676 m_677 m_678) rfl rfl rfl (by decide +kernel) ⟨(Nat.le_of_ble_eq_true rfl), (Nat.le_of_ble_eq_true rfl)⟩) ⟨xP_blind, xrecv hK hP q0 rfl rfl, fun U hU hW => ⟨rfl, xP_of hU hW hP hK hD hX hS (fun _ h => h) hA⟩⟩ rfl rfl hl.1 rfl (lv_room (Nat.le_of_ble_eq_true rfl)) dX7_readComparison_6 ⟨(Nat.le_of_ble_eq_true rfl), (Nat.le_of_ble_eq_true rfl)⟩) hP hS hA (fun r_21 H locs w_22 hP hS => ?_)
  obtain ⟨z_23, rfl, h_24, h_25, h_26⟩ := w_22
  have b_27 : v_11 p0 6 = v p0 6 := (fr_use q0 f_12 rfl)
  refine lv_istore_n (i := 2) (lv' := [(2, .int (iI z_23)), (0, .ref p0.toNat), (1, .int (iI p1))]) hx hb dX7_readComparison_9 rfl hl (by decide) rfl (fun ls hl => ?_)
  refine lv_iload_n hx hb dX7_readComparison_10 rfl (lv_at hl 0 rfl) ?_
  refine lv_bipush (v := iI 60) hx hb dX7_readComparison_11 rfl ?_
  have J33 : ∀ (H : Heap) (locs : List Loc) (ls : Array Slot), (z_23 = 60 ∨ z_23 = 62 ∨ z_23 = 61) → va_P (dC, dI) vwCl (xG L cid K N v_11) H → va_D A (xG L cid K N v_11) → va_S A s.heap H locs → lv_has ls 3 [(2, .int (iI z_23)), (0, .ref p0.toNat), (1, .int (iI p1))] → W p l e ({ frames := 26, cells := 0, slots := 0, locals := 592 }) s m ([.ref p0.toNat, .int (iI p1)] : List Value).toArray below meth c H locs 0 0 Q (F0 m 33 ls []) := by
    intro H locs ls h_28 hP hD hS hl
    refine lv_aload_n hx hb dX7_readComparison_33 rfl (lv_at hl 1 rfl) ?_
    refine jcg_v (va_runV (As := []) (rest := []) ⟨hx, hb, hml, hown, hts⟩ (sX7_advance l dC dI _ L cid K N tW sK sV v_11 p0 I_13 q0 (by omega)) (cwV 0 hts (jgoodV m_692 m_693 m_694 m_677 m_695) rfl rfl rfl (by decide +kernel) ⟨(Nat.le_of_ble_eq_true rfl), (Nat.le_of_ble_eq_true rfl)⟩) ⟨xP_blind, xrecv hK hP q0 rfl rfl, fun U hU hW => ⟨rfl, xP_of hU hW hP hK hD hX hS (fun _ h => h) hA⟩⟩ rfl rfl hl.1 rfl (lv_room (Nat.le_of_ble_eq_true rfl)) dX7_readComparison_34 ⟨(Nat.le_of_ble_eq_true rfl), (Nat.le_of_ble_eq_true rfl)⟩) hD hS hA (fun v_33 H locs w_30 hP hK hD hS => ?_)
    obtain ⟨I_35, f_34, h_32⟩ := w_30
    have hP : va_P (dC, dI) vwCl (xG L cid K N v_33) H := hP
    have hD : va_D A (xG L cid K N v_33) := hD
    have h_36 : (-2147483648) ≤ v_33 p0 7 ∧ v_33 p0 7 ≤ 2147483647 := xf_7_7 I_35 q0
    have rp_37 : EP tT tN [1, 11] p1 (v p0 8) (v p0 7) (v_11 p0 8) (v_33 p0 7) [1] (p1) := EP_11y rp_17 (by omega) (by omega) (by omega)
    refine lv_aload_n hx hb dX7_readComparison_37 rfl (lv_at hl 1 rfl) ?_
    refine lv_iload_n hx hb dX7_readComparison_38 rfl (lv_at hl 2 rfl) ?_
    have b_38 : v_33 p0 6 = v p0 6 := (((fr_use q0 f_34 rfl)).trans (fr_use q0 f_12 rfl))
    refine jcg_v (va_runV (As := [.int (iI p1)]) (rest := []) ⟨hx, hb, hml, hown, hts⟩ (sX7_readSum_q1 l dC dI _ L cid K N tW sK sV v_33 tT tN p0 p1 I_35 q0 (by omega) (by omega) (tks_fr hI q0 (show fr K [(7, 7), (7, 8), (7, 10), (25, (-1))] v_33 v from (fr_tr f_34 rfl (fr_tr f_12 rfl fr_rf))) rfl rfl rfl rfl rfl rfl rfl (fun _ => rfl) (fun _ => rfl) (fun _ => rfl) (fun _ => rfl) (fun _ => rfl) k2) (by omega)) (cwV 1 hts (jgoodV m_704 m_705 m_706 m_677 m_707) rfl rfl rfl (by decide +kernel) ⟨(Nat.le_of_ble_eq_true rfl), (Nat.le_of_ble_eq_true rfl)⟩) ⟨xP_blind, xrecv hK hP q0 rfl rfl, fun U hU hW => ⟨rfl, xP_of hU hW hP hK hD hX hS (fun _ h => h) hA⟩⟩ rfl rfl hl.1 rfl (lv_room (Nat.le_of_ble_eq_true rfl)) dX7_readComparison_39 ⟨(Nat.le_of_ble_eq_true rfl), (Nat.le_of_ble_eq_true rfl)⟩) hD hS hA (fun v_46 H locs w_40 hP hK hD hS => ?_)
    obtain ⟨I_48, f_47, h_42, h_43, h_44, h_45⟩ := w_40
    have hP : va_P (dC, dI) vwCl (xG L cid K N v_46) H := hP
    have hD : va_D A (xG L cid K N v_46) := hD
    have b_49 : v_33 p0 6 = v p0 6 := (((fr_use q0 f_34 rfl)).trans (fr_use q0 f_12 rfl))
    have b_50 : v_33 p0 8 = v_11 p0 8 := (fr_use q0 f_34 rfl)
    have h_51 : (-2147483648) ≤ v_46 p0 8 ∧ v_46 p0 8 ≤ 2147483647 := xf_7_8 I_48 q0
    have h_52 : (-2147483648) ≤ v_46 p0 7 ∧ v_46 p0 7 ≤ 2147483647 := xf_7_7 I_48 q0
    rw [show v_33 p0 8 = v_11 p0 8 from (fr_use q0 f_34 rfl)] at h_42
    rw [show v_33 p0 8 = v_11 p0 8 from (fr_use q0 f_34 rfl)] at h_44
    rw [show v_33 p0 8 = v_11 p0 8 from (fr_use q0 f_34 rfl)] at h_45
    have rp_53 : EP tT tN [1, 11] p1 (v p0 8) (v p0 7) (v_46 p0 8) (v_46 p0 7) [] (p1) := EP_c rp_37 h_45 h_42
    have g_54 : v_11 p0 8 = -1 ∨ v_46 p0 8 = v_11 p0 8 := jF_o h_42
    have g_55 : v_11 p0 8 ≠ -1 ∨ v_46 p0 8 ≠ -1 ∨ v_33 p0 7 + 1 ≤ v_46 p0 7 := jF_3 h_44
    refine lv_aload_n hx hb dX7_readComparison_42 rfl (lv_at hl 1 rfl) ?_
    refine lv_iload_n hx hb dX7_readComparison_43 rfl (lv_at hl 0 rfl) ?_
    refine lv_bipush (v := iI 60) hx hb dX7_readComparison_44 rfl ?_
    have J67 : ∀ (s0_67 : Int) (H : Heap) (locs : List Loc) (ls : Array Slot), ((-17) ≤ s0_67 ∧ s0_67 ≤ (-15)) → va_P (dC, dI) vwCl (xG L cid K N v_46) H → va_D A (xG L cid K N v_46) → va_S A s.heap H locs → lv_has ls 3 [(2, .int (iI z_23)), (0, .ref p0.toNat), (1, .int (iI p1))] → W p l e ({ frames := 26, cells := 0, slots := 0, locals := 592 }) s m ([.ref p0.toNat, .int (iI p1)] : List Value).toArray below meth c H locs 0 0 Q (F0 m 67 ls [.int (iI s0_67), .ref p0.toNat]) := by
      intro s0_67 H locs ls h_56 hP hD hS hl
      refine jcg_v (va_runV (As := [.int (iI s0_67)]) (rest := []) ⟨hx, hb, hml, hown, hts⟩ (sX7_emit l dC dI _ L cid K N tW sK sV v_46 p0 s0_67 I_48 q0 (by omega)) (cwV 1 hts (jgoodV m_688 m_689 m_690 m_677 m_691) rfl rfl rfl (by decide +kernel) ⟨(Nat.le_of_ble_eq_true rfl), (Nat.le_of_ble_eq_true rfl)⟩) ⟨xP_blind, xrecv hK hP q0 rfl rfl, fun U hU hW => ⟨rfl, xP_of hU hW hP hK hD hX hS (fun _ h => h) hA⟩⟩ rfl rfl hl.1 rfl (lv_room (Nat.le_of_ble_eq_true rfl)) dX7_readComparison_67 ⟨(Nat.le_of_ble_eq_true rfl), (Nat.le_of_ble_eq_true rfl)⟩) hD hS hA (fun v_60 H locs w_58 hP hK hD hS => ?_)
      obtain ⟨I_62, f_61⟩ := w_58
      have hP : va_P (dC, dI) vwCl (xG L cid K N v_60) H := hP
      have hD : va_D A (xG L cid K N v_60) := hD
      have b_63 : v_60 p0 8 = v_46 p0 8 := (fr_use q0 f_61 rfl)
      have b_64 : v_60 p0 7 = v_46 p0 7 := (fr_use q0 f_61 rfl)
      rw [← hQ]
      exact W.vret hx hb hr (fun t ht hW => ⟨⟨v_60, rfl, ⟨I_62, (fr_tr f_61 rfl (fr_tr f_47 rfl (fr_tr f_34 rfl (fr_tr f_12 rfl fr_rf)))), by unfold jF; omega, by omega, by unfold jF; omega, by first | exact (by rw [show v_60 p0 8 = v_46 p0 8 from (fr_use q0 f_61 rfl), show v_60 p0 7 = v_46 p0 7 from (fr_use q0 f_61 rfl)]; exact rp_53) | exact EP_x (by omega)⟩, by rw [ht]; exact hP, va_K.moved hW.alike hK, hD⟩, hS.F ht⟩) hS.2.2 dX7_readComparison_70
    refine xr_icmp_ne (tgt := 54) hx hb dX7_readComparison_46 (by decide) (by omega) (by omega) (fun h_65 => ?_) (fun h_65 => ?_)
    · refine lv_iload_n hx hb dX7_readComparison_54 rfl (lv_at hl 0 rfl) ?_
      refine lv_bipush (v := iI 62) hx hb dX7_readComparison_55 rfl ?_
      refine xr_icmp_ne (tgt := 65) hx hb dX7_readComparison_57 (by decide) (by omega) (by omega) (fun h_66 => ?_) (fun h_66 => ?_)
      · refine lv_bipush (v := iI (-17)) hx hb dX7_readComparison_65 rfl ?_
        exact J67 (-17) H locs ls (by omega) hP hD hS hl
      · refine lv_bipush (v := iI (-16)) hx hb dX7_readComparison_60 rfl ?_
        refine lv_goto (tgt := 67) hx hb dX7_readComparison_62 (by decide) ?_
        exact J67 (-16) H locs ls (by omega) hP hD hS hl
    · refine lv_bipush (v := iI (-15)) hx hb dX7_readComparison_49 rfl ?_
      refine lv_goto (tgt := 67) hx hb dX7_readComparison_51 (by decide) ?_
      exact J67 (-15) H locs ls (by omega) hP hD hS hl
  refine xr_icmp_eq (tgt := 33) hx hb dX7_readComparison_13 (by decide) (by omega) (by omega) (fun h_67 => ?_) (fun h_67 => ?_)
  · exact J33 H locs ls (by omega) hP hD hS hl
  · refine lv_iload_n hx hb dX7_readComparison_16 rfl (lv_at hl 0 rfl) ?_
    refine lv_bipush (v := iI 62) hx hb dX7_readComparison_17 rfl ?_
    refine xr_icmp_eq (tgt := 33) hx hb dX7_readComparison_19 (by decide) (by omega) (by omega) (fun h_68 => ?_) (fun h_68 => ?_)
    · exact J33 H locs ls (by omega) hP hD hS hl
    · refine lv_iload_n hx hb dX7_readComparison_22 rfl (lv_at hl 0 rfl) ?_
      refine lv_bipush (v := iI 61) hx hb dX7_readComparison_23 rfl ?_
      refine xr_icmp_eq (tgt := 33) hx hb dX7_readComparison_25 (by decide) (by omega) (by omega) (fun h_69 => ?_) (fun h_69 => ?_)
      · exact J33 H locs ls (by omega) hP hD hS hl
      · refine lv_aload_n hx hb dX7_readComparison_28 rfl (lv_at hl 1 rfl) ?_
        have b_70 : v_11 p0 6 = v p0 6 := (fr_use q0 f_12 rfl)
        refine jcg_v (va_runV (As := []) (rest := []) ⟨hx, hb, hml, hown, hts⟩ (sX7_refuse l dC dI _ L cid K N tW sK sV v_11 tT tN p0 I_13 q0 (tks_fr hI q0 (show fr K [(7, 7), (7, 8), (7, 10), (25, (-1))] v_11 v from (fr_tr f_12 rfl fr_rf)) rfl rfl rfl rfl rfl rfl rfl (fun _ => rfl) (fun _ => rfl) (fun _ => rfl) (fun _ => rfl) (fun _ => rfl) k2) (by omega)) (cwV 0 hts (jgoodV m_683 m_684 m_685 m_677 m_686) rfl rfl rfl (by decide +kernel) ⟨(Nat.le_of_ble_eq_true rfl), (Nat.le_of_ble_eq_true rfl)⟩) ⟨xP_blind, xrecv hK hP q0 rfl rfl, fun U hU hW => ⟨rfl, xP_of hU hW hP hK hD hX hS (fun _ h => h) hA⟩⟩ rfl rfl hl.1 rfl (lv_room (Nat.le_of_ble_eq_true rfl)) dX7_readComparison_29 ⟨(Nat.le_of_ble_eq_true rfl), (Nat.le_of_ble_eq_true rfl)⟩) hD hS hA (fun v_75 H locs w_72 hP hK hD hS => ?_)
        obtain ⟨I_77, f_76, h_74⟩ := w_72
        have hP : va_P (dC, dI) vwCl (xG L cid K N v_75) H := hP
        have hD : va_D A (xG L cid K N v_75) := hD
        have b_78 : v_11 p0 6 = v p0 6 := (fr_use q0 f_12 rfl)
        have h_79 : (-2147483648) ≤ v_75 p0 8 ∧ v_75 p0 8 ≤ 2147483647 := xf_7_8 I_77 q0
        have rp_80 : EP tT tN [1, 11] p1 (v p0 8) (v p0 7) (v_75 p0 8) (v_11 p0 7) [] (p1) := EP_11b rp_17 (by omega) (by omega) (by omega) (by omega)
        have b_81 : v_75 p0 7 = v_11 p0 7 := (fr_use q0 f_76 rfl)
        rw [← hQ]
        exact W.vret hx hb hr (fun t ht hW => ⟨⟨v_75, rfl, ⟨I_77, (fr_tr f_76 rfl (fr_tr f_12 rfl fr_rf)), by unfold jF; omega, by omega, by unfold jF; omega, by first | exact (by rw [show v_75 p0 7 = v_11 p0 7 from (fr_use q0 f_76 rfl)]; exact rp_80) | exact EP_x (by omega)⟩, by rw [ht]; exact hP, va_K.moved hW.alike hK, hD⟩, hS.F ht⟩) hS.2.2 dX7_readComparison_32
