set_option maxHeartbeats 2000000 in
set_option maxRecDepth 100000 in
theorem sX7_readComparison_q2 (l : Launch) (dC : Nat → ClassId) (dI : Nat → Nat → Nat) (sz : Nat) (L : List Nat) (cid : Nat → ClassId) (K : Int → Nat) (N : Int → Int) (tW : Nat) (sK sV : Nat → Nat) (v : Int → Int → Int) (tT : Int → Int) (tN : Int) (p0 : Int) (p1 : Int) (hI : xI L K N v) (q0 : ok L K p0 7) (q1 : rg p1) (k1 : 2 ≤ p1 ∧ p1 ≤ 2) (k2 : tks tT tN v p0) (k3 : 0 ≤ v p0 7 ∧ v p0 7 < v p0 6) : Met l yX7_readComparison (jk yX7_readComparison cX7_readComparison 3 none) ({ frames := 23, cells := 0, slots := 0, locals := 523 }) (va_Pc [.ref p0.toNat, .int (iI p1)] (xP (dC, dI) (xG L cid K N v) (xT cid) tW sK sV sz)) (va_Qv (fun (u : (Int → Int → Int)) => (xI L K N u) ∧ (fr K [(7, 7), (7, 8), (7, 10), (25, (-1))] u v) ∧ (jF (v p0 8 ≠ -1) (u p0 8 = v p0 8)) ∧ (0 ≤ u p0 7 ∧ v p0 7 ≤ u p0 7 ∧ u p0 7 < v p0 6) ∧ (jF (v p0 8 = -1 ∧ u p0 8 = -1) (v p0 7 + 1 ≤ u p0 7)) ∧ (EP tT tN [1, 11] p1 (v p0 8) (v p0 7) (u p0 8) (u p0 7) [] p1)) (fun u t => va_P (dC, dI) vwCl (xG L cid K N u) t.heap ∧ va_K (dC, dI) vwCl (xT cid) t ∧ va_D (va_A (xG L cid K N v) sz) (xG L cid K N u)) (va_A (xG L cid K N v) sz)) 0 0 (va_A (xG L cid K N v) sz) := by
  refine Met.ofW (cc := cX7_readComparison) (maxL := 3) (ret := none) (by decide) rfl ?_
  intro p e s m args below meth c s₁ B hml hv
  obtain ⟨rfl, ⟨hsz, hP, hK, hD0⟩, hX⟩ := hv
  have hx := B.exec
  have hb := B.bytes
  have hr := B.returns
  have hts := atoms_spec (ws := (jk yX7_readComparison cX7_readComparison 3 none)) B.pre
  have hj : ∀ w ∈ jw, w.before ([.ref p0.toNat, .int (iI p1)] : List Value).toArray s = true := fun w h => hts w (jm h)
  have hown : s.vm.findClass RX7 = some m.cls := findClass_of_methodNamed B.named
  subst hsz
  have hD := hD0.self (sz := s.heap.size)
  generalize hAe : (va_A (xG L cid K N v) s.heap.size) = A at hD hX ⊢
  have hA : ∀ q : Nat, s.heap.size ≤ q → A q := fun q h => by rw [← hAe]; exact Or.inr h
  have hS : va_S A s.heap s.heap [] := va_S.rf
  have hXa := hX
  have hP : va_P (dC, dI) vwCl (xG L cid K N v) s.heap := hP
  have hl := lv_entry ([.ref p0.toNat, .int (iI p1)]) (n := 3) (Nat.le_of_ble_eq_true rfl)
  rw [lg_entry_eq]
  generalize (lg_sl ([.ref p0.toNat, .int (iI p1)]) ++ List.replicate (3 - (lg_sl ([.ref p0.toNat, .int (iI p1)])).length) Slot.unset).toArray = ls at hl ⊢
  have hl : lv_has ls 3 [(0, .ref p0.toNat), (1, .int (iI p1))] := hl
  generalize hQ : MQ below (va_Qv (fun (u : (Int → Int → Int)) => (xI L K N u) ∧ (fr K [(7, 7), (7, 8), (7, 10), (25, (-1))] u v) ∧ (jF (v p0 8 ≠ -1) (u p0 8 = v p0 8)) ∧ (0 ≤ u p0 7 ∧ v p0 7 ≤ u p0 7 ∧ u p0 7 < v p0 6) ∧ (jF (v p0 8 = -1 ∧ u p0 8 = -1) (v p0 7 + 1 ≤ u p0 7)) ∧ (EP tT tN [1, 11] p1 (v p0 8) (v p0 7) (u p0 8) (u p0 7) [] p1)) (fun u t => va_P (dC, dI) vwCl (xG L cid K N u) t.heap ∧ va_K (dC, dI) vwCl (xT cid) t ∧ va_D A (xG L cid K N u)) A) ([.ref p0.toNat, .int (iI p1)] : List Value).toArray s 0 0 A = Q
  suffices ST : ∀ (H : Heap) (locs : List Loc), va_P (dC, dI) vwCl (xG L cid K N v) H → va_S A s.heap H locs → W p l e ({ frames := 23, cells := 0, slots := 0, locals := 523 }) s m ([.ref p0.toNat, .int (iI p1)] : List Value).toArray below meth c H locs 0 0 Q (F0 m 0 ls []) from ST _ _ hP hS
  clear hP hS
  intro H locs hP hS
  have hTK := tks_m k2
  have rp_1 : EP tT tN [1, 11] p1 (v p0 8) (v p0 7) (v p0 8) (v p0 7) [1, 11] p1 := EP_0
  refine lv_aload_n hx hb dX7_readComparison_0 rfl (lv_at hl 0 rfl) ?_
  refine lv_iload_n hx hb dX7_readComparison_1 rfl (lv_at hl 1 rfl) ?_
  have h_2 : (-2147483648) ≤ v p0 7 ∧ v p0 7 ≤ 2147483647 := xf_7_7 hI q0
  have h_3 : (-2147483648) ≤ v p0 6 ∧ v p0 6 ≤ 2147483647 := xf_7_6 hI q0
  refine jcg_v (va_runV (As := [.int (iI p1)]) (rest := []) ⟨hx, hb, hml, hown, hts⟩ (sX7_readSum_q2 l dC dI _ L cid K N tW sK sV v tT tN p0 p1 hI q0 (by omega) (by omega) k2 (by omega)) (cwV 1 hts (jgoodV m_704 m_705 m_706 m_677 m_707) rfl rfl rfl (by decide +kernel) ⟨(Nat.le_of_ble_eq_true rfl), (Nat.le_of_ble_eq_true rfl)⟩) ⟨xP_blind, xrecv hK hP q0 rfl rfl, fun U hU hW => ⟨rfl, xP_of hU hW hP hK hD hX hS (fun _ h => h) hA⟩⟩ rfl rfl hl.1 rfl (lv_room (Nat.le_of_ble_eq_true rfl)) dX7_readComparison_2 ⟨(Nat.le_of_ble_eq_true rfl), (Nat.le_of_ble_eq_true rfl)⟩) hD hS hA (fun v_11 H locs w_5 hP hK hD hS => ?_)
  obtain ⟨I_13, f_12, h_7, h_8, h_9, h_10⟩ := w_5
  have hP : va_P (dC, dI) vwCl (xG L cid K N v_11) H := hP
  have hD : va_D A (xG L cid K N v_11) := hD
  have h_14 : (-2147483648) ≤ v p0 8 ∧ v p0 8 ≤ 2147483647 := xf_7_8 hI q0
  have h_15 : (-2147483648) ≤ v_11 p0 8 ∧ v_11 p0 8 ≤ 2147483647 := xf_7_8 I_13 q0
  have h_16 : (-2147483648) ≤ v_11 p0 7 ∧ v_11 p0 7 ≤ 2147483647 := xf_7_7 I_13 q0
  have rp_17 : EP tT tN [1, 11] p1 (v p0 8) (v p0 7) (v_11 p0 8) (v_11 p0 7) [11] (p1) := EP_c rp_1 h_10 h_7
  have g_18 : v p0 8 = -1 ∨ v_11 p0 8 = v p0 8 := jF_o h_7
  have g_19 : v p0 8 ≠ -1 ∨ v_11 p0 8 ≠ -1 ∨ v p0 7 + 1 ≤ v_11 p0 7 := jF_3 h_9
  refine lv_aload_n hx hb dX7_readComparison_5 rfl (lv_at hl 0 rfl) ?_
  have b_20 : v_11 p0 6 = v p0 6 := (fr_use q0 f_12 rfl)
  refine jc_i (va_runV (As := []) (rest := []) ⟨hx, hb, hml, hown, hts⟩ (sX7_kind l dC dI _ L cid K N tW sK sV v_11 tT tN p0 I_13 q0 (tks_fr hI q0 (show fr K [(7, 7), (7, 8), (7, 10), (25, (-1))] v_11 v from (fr_tr f_12 rfl fr_rf)) rfl rfl rfl rfl rfl rfl rfl (fun _ => rfl) (fun _ => rfl) (fun _ => rfl) (fun _ => rfl) (fun _ => rfl) k2) (by omega)) (cwV 0 hts (jgoodV m_674 m_675 m_676 m_677 m_678) rfl rfl rfl (by decide +kernel) ⟨(Nat.le_of_ble_eq_true rfl), (Nat.le_of_ble_eq_true rfl)⟩) ⟨xP_blind, xrecv hK hP q0 rfl rfl, fun U hU hW => ⟨rfl, xP_of hU hW hP hK hD hX hS (fun _ h => h) hA⟩⟩ rfl rfl hl.1 rfl (lv_room (Nat.le_of_ble_eq_true rfl)) dX7_readComparison_6 ⟨(Nat.le_of_ble_eq_true rfl), (Nat.le_of_ble_eq_true rfl)⟩) hP hS hA (fun r_21 H locs w_22 hP hS => ?_)
  obtain ⟨z_23, rfl, h_24, h_25, h_26⟩ := w_22
  have b_27 : v_11 p0 6 = v p0 6 := (fr_use q0 f_12 rfl)
  refine lv_istore_n (i := 2) (lv' := [(2, .int (iI z_23)), (0, .ref p0.toNat), (1, .int (iI p1))]) hx hb dX7_readComparison_9 rfl hl (by decide) rfl (fun ls hl => ?_)
  refine lv_iload_n hx hb dX7_readComparison_10 rfl (lv_at hl 0 rfl) ?_
  refine lv_bipush (v := iI 60) hx hb dX7_readComparison_11 rfl ?_
  have J33 : ∀ (H : Heap) (locs : List Loc) (ls : Array Slot), (z_23 = 60 ∨ z_23 = 62 ∨ z_23 = 61) → va_P (dC, dI) vwCl (xG L cid K N v_11) H → va_D A (xG L cid K N v_11) → va_S A s.heap H locs → lv_has ls 3 [(2, .int (iI z_23)), (0, .ref p0.toNat), (1, .int (iI p1))] → W p l e ({ frames := 23, cells := 0, slots := 0, locals := 523 }) s m ([.ref p0.toNat, .int (iI p1)] : List Value).toArray below meth c H locs 0 0 Q (F0 m 33 ls []) := by
    intro H locs ls h_28 hP hD hS hl
    refine lv_aload_n hx hb dX7_readComparison_33 rfl (lv_at hl 1 rfl) ?_
    refine jcg_v (va_runV (As := []) (rest := []) ⟨hx, hb, hml, hown, hts⟩ (sX7_advance l dC dI _ L cid K N tW sK sV v_11 p0 I_13 q0 (by omega)) (cwV 0 hts (jgoodV m_692 m_693 m_694 m_677 m_695) rfl rfl rfl (by decide +kernel) ⟨(Nat.le_of_ble_eq_true rfl), (Nat.le_of_ble_eq_true rfl)⟩) ⟨xP_blind, xrecv hK hP q0 rfl rfl, fun U hU hW => ⟨rfl, xP_of hU hW hP hK hD hX hS (fun _ h => h) hA⟩⟩ rfl rfl hl.1 rfl (lv_room (Nat.le_of_ble_eq_true rfl)) dX7_readComparison_34 ⟨(Nat.le_of_ble_eq_true rfl), (Nat.le_of_ble_eq_true rfl)⟩) hD hS hA (fun v_33 H locs w_30 hP hK hD hS => ?_)
    obtain ⟨I_35, f_34, h_32⟩ := w_30
    have hP : va_P (dC, dI) vwCl (xG L cid K N v_33) H := hP
    have hD : va_D A (xG L cid K N v_33) := hD
    have h_36 : (-2147483648) ≤ v_33 p0 7 ∧ v_33 p0 7 ≤ 2147483647 := xf_7_7 I_35 q0
    have rp_37 : EP tT tN [1, 11] p1 (v p0 8) (v p0 7) (v_11 p0 8) (v_33 p0 7) [1] (p1) := EP_11y rp_17 (by omega) (by omega) (by omega)
    refine lv_aload_n hx hb dX7_readComparison_37 rfl (lv_at hl 1 rfl) ?_
    refine lv_iload_n hx hb dX7_readComparison_38 rfl (lv_at hl 2 rfl) ?_
    have b_38 : v_33 p0 6 = v p0 6 := (((fr_use q0 f_34 rfl)).trans (fr_use q0 f_12 rfl))
    refine jcg_v (va_runV (As := [.int (iI p1)]) (rest := []) ⟨hx, hb, hml, hown, hts⟩ (sX7_readSum_q2 l dC dI _ L cid K N tW sK sV v_33 tT tN p0 p1 I_35 q0 (by omega) (by omega) (tks_fr hI q0 (show fr K [(7, 7), (7, 8), (7, 10), (25, (-1))] v_33 v from (fr_tr f_34 rfl (fr_tr f_12 rfl fr_rf))) rfl rfl rfl rfl rfl rfl rfl (fun _ => rfl) (fun _ => rfl) (fun _ => rfl) (fun _ => rfl) (fun _ => rfl) k2) (by omega)) (cwV 1 hts (jgoodV m_704 m_705 m_706 m_677 m_707) rfl rfl rfl (by decide +kernel) ⟨(Nat.le_of_ble_eq_true rfl), (Nat.le_of_ble_eq_true rfl)⟩) ⟨xP_blind, xrecv hK hP q0 rfl rfl, fun U hU hW => ⟨rfl, xP_of hU hW hP hK hD hX hS (fun _ h => h) hA⟩⟩ rfl rfl hl.1 rfl (lv_room (Nat.le_of_ble_eq_true rfl)) dX7_readComparison_39 ⟨(Nat.le_of_ble_eq_true rfl), (Nat.le_of_ble_eq_true rfl)⟩) hD hS hA (fun v_46 H locs w_40 hP hK hD hS => ?_)
    obtain ⟨I_48, f_47, h_42, h_43, h_44, h_45⟩ := w_40
    have hP : va_P (dC, dI) vwCl (xG L cid K N v_46) H := hP
    have hD : va_D A (xG L cid K N v_46) := hD
    have b_49 : v_33 p0 6 = v p0 6 := (((fr_use q0 f_34 rfl)).trans (fr_use q0 f_12 rfl))
    have b_50 : v_33 p0 8 = v_11 p0 8 := (fr_use q0 f_34 rfl)
    have h_51 : (-2147483648) ≤ v_46 p0 8 ∧ v_46 p0 8 ≤ 2147483647 := xf_7_8 I_48 q0
    have h_52 : (-2147483648) ≤ v_46 p0 7 ∧ v_46 p0 7 ≤ 2147483647 := xf_7_7 I_48 q0
    rw [show v_33 p0 8 = v_11 p0 8 from (fr_use q0 f_34 rfl)] at h_42
    rw [show v_33 p0 8 = v_11 p0 8 from (fr_use q0 f_34 rfl)] at h_44
    rw [show v_33 p0 8 = v_11 p0 8 from (fr_use q0 f_34 rfl)] at h_45
    have rp_53 : EP tT tN [1, 11] p1 (v p0 8) (v p0 7) (v_46 p0 8) (v_46 p0 7) [] (p1) := EP_c rp_37 h_45 h_42
    have g_54 : v_11 p0 8 = -1 ∨ v_46 p0 8 = v_11 p0 8 := jF_o h_42
    have g_55 : v_11 p0 8 ≠ -1 ∨ v_46 p0 8 ≠ -1 ∨ v_33 p0 7 + 1 ≤ v_46 p0 7 := jF_3 h_44
    refine lv_aload_n hx hb dX7_readComparison_42 rfl (lv_at hl 1 rfl) ?_
    refine lv_iload_n hx hb dX7_readComparison_43 rfl (lv_at hl 0 rfl) ?_
    refine lv_bipush (v := iI 60) hx hb dX7_readComparison_44 rfl ?_
    have J67 : ∀ (s0_67 : Int) (H : Heap) (locs : List Loc) (ls : Array Slot), ((-17) ≤ s0_67 ∧ s0_67 ≤ (-15)) → va_P (dC, dI) vwCl (xG L cid K N v_46) H → va_D A (xG L cid K N v_46) → va_S A s.heap H locs → lv_has ls 3 [(2, .int (iI z_23)), (0, .ref p0.toNat), (1, .int (iI p1))] → W p l e ({ frames := 23, cells := 0, slots := 0, locals := 523 }) s m ([.ref p0.toNat, .int (iI p1)] : List Value).toArray below meth c H locs 0 0 Q (F0 m 67 ls [.int (iI s0_67), .ref p0.toNat]) := by
      intro s0_67 H locs ls h_56 hP hD hS hl
      refine jcg_v (va_runV (As := [.int (iI s0_67)]) (rest := []) ⟨hx, hb, hml, hown, hts⟩ (sX7_emit l dC dI _ L cid K N tW sK sV v_46 p0 s0_67 I_48 q0 (by omega)) (cwV 1 hts (jgoodV m_688 m_689 m_690 m_677 m_691) rfl rfl rfl (by decide +kernel) ⟨(Nat.le_of_ble_eq_true rfl), (Nat.le_of_ble_eq_true rfl)⟩) ⟨xP_blind, xrecv hK hP q0 rfl rfl, fun U hU hW => ⟨rfl, xP_of hU hW hP hK hD hX hS (fun _ h => h) hA⟩⟩ rfl rfl hl.1 rfl (lv_room (Nat.le_of_ble_eq_true rfl)) dX7_readComparison_67 ⟨(Nat.le_of_ble_eq_true rfl), (Nat.le_of_ble_eq_true rfl)⟩) hD hS hA (fun v_60 H locs w_58 hP hK hD hS => ?_)
      obtain ⟨I_62, f_61⟩ := w_58
      have hP : va_P (dC, dI) vwCl (xG L cid K N v_60) H := hP
      have hD : va_D A (xG L cid K N v_60) := hD
      have b_63 : v_60 p0 8 = v_46 p0 8 := (fr_use q0 f_61 rfl)
      have b_64 : v_60 p0 7 = v_46 p0 7 := (fr_use q0 f_61 rfl)
      rw [← hQ]
      exact W.vret hx hb hr (fun t ht hW => ⟨⟨v_60, rfl, ⟨I_62, (fr_tr f_61 rfl (fr_tr f_47 rfl (fr_tr f_34 rfl (fr_tr f_12 rfl fr_rf)))), by unfold jF; omega, by omega, by unfold jF; omega, by first | exact (by rw [show v_60 p0 8 = v_46 p0 8 from (fr_use q0 f_61 rfl), show v_60 p0 7 = v_46 p0 7 from (fr_use q0 f_61 rfl)]; exact rp_53) | exact EP_x (by omega)⟩, by rw [ht]; exact hP, va_K.moved hW.alike hK, hD⟩, hS.F ht⟩) hS.2.2 dX7_readComparison_70
    refine xr_icmp_ne (tgt := 54) hx hb dX7_readComparison_46 (by decide) (by omega) (by omega) (fun h_65 => ?_) (fun h_65 => ?_)
    · refine lv_iload_n hx hb dX7_readComparison_54 rfl (lv_at hl 0 rfl) ?_
      refine lv_bipush (v := iI 62) hx hb dX7_readComparison_55 rfl ?_
      refine xr_icmp_ne (tgt := 65) hx hb dX7_readComparison_57 (by decide) (by omega) (by omega) (fun h_66 => ?_) (fun h_66 => ?_)
      · refine lv_bipush (v := iI (-17)) hx hb dX7_readComparison_65 rfl ?_
        exact J67 (-17) H locs ls (by omega) hP hD hS hl
      · refine lv_bipush (v := iI (-16)) hx hb dX7_readComparison_60 rfl ?_
        refine lv_goto (tgt := 67) hx hb dX7_readComparison_62 (by decide) ?_
        exact J67 (-16) H locs ls (by omega) hP hD hS hl
    · refine lv_bipush (v := iI (-15)) hx hb dX7_readComparison_49 rfl ?_
      refine lv_goto (tgt := 67) hx hb dX7_readComparison_51 (by decide) ?_
      exact J67 (-15) H locs ls (by omega) hP hD hS hl
  refine xr_icmp_eq (tgt := 33) hx hb dX7_readComparison_13 (by decide) (by omega) (by omega) (fun h_67 => ?_) (fun h_67 => ?_)
  · exact J33 H locs ls (by omega) hP hD hS hl
  · refine lv_iload_n hx hb dX7_readComparison_16 rfl (lv_at hl 0 rfl) ?_
    refine lv_bipush (v := iI 62) hx hb dX7_readComparison_17 rfl ?_
    refine xr_icmp_eq (tgt := 33) hx hb dX7_readComparison_19 (by decide) (by omega) (by omega) (fun h_68 => ?_) (fun h_68 => ?_)
    · exact J33 H locs ls (by omega) hP hD hS hl
    · refine lv_iload_n hx hb dX7_readComparison_22 rfl (lv_at hl 0 rfl) ?_
      refine lv_bipush (v := iI 61) hx hb dX7_readComparison_23 rfl ?_
      refine xr_icmp_eq (tgt := 33) hx hb dX7_readComparison_25 (by decide) (by omega) (by omega) (fun h_69 => ?_) (fun h_69 => ?_)
      · exact J33 H locs ls (by omega) hP hD hS hl
      · refine lv_aload_n hx hb dX7_readComparison_28 rfl (lv_at hl 1 rfl) ?_
        have b_70 : v_11 p0 6 = v p0 6 := (fr_use q0 f_12 rfl)
        refine jcg_v (va_runV (As := []) (rest := []) ⟨hx, hb, hml, hown, hts⟩ (sX7_refuse l dC dI _ L cid K N tW sK sV v_11 tT tN p0 I_13 q0 (tks_fr hI q0 (show fr K [(7, 7), (7, 8), (7, 10), (25, (-1))] v_11 v from (fr_tr f_12 rfl fr_rf)) rfl rfl rfl rfl rfl rfl rfl (fun _ => rfl) (fun _ => rfl) (fun _ => rfl) (fun _ => rfl) (fun _ => rfl) k2) (by omega)) (cwV 0 hts (jgoodV m_683 m_684 m_685 m_677 m_686) rfl rfl rfl (by decide +kernel) ⟨(Nat.le_of_ble_eq_true rfl), (Nat.le_of_ble_eq_true rfl)⟩) ⟨xP_blind, xrecv hK hP q0 rfl rfl, fun U hU hW => ⟨rfl, xP_of hU hW hP hK hD hX hS (fun _ h => h) hA⟩⟩ rfl rfl hl.1 rfl (lv_room (Nat.le_of_ble_eq_true rfl)) dX7_readComparison_29 ⟨(Nat.le_of_ble_eq_true rfl), (Nat.le_of_ble_eq_true rfl)⟩) hD hS hA (fun v_75 H locs w_72 hP hK hD hS => ?_)
        obtain ⟨I_77, f_76, h_74⟩ := w_72
        have hP : va_P (dC, dI) vwCl (xG L cid K N v_75) H := hP
        have hD : va_D A (xG L cid K N v_75) := hD
        have b_78 : v_11 p0 6 = v p0 6 := (fr_use q0 f_12 rfl)
        have h_79 : (-2147483648) ≤ v_75 p0 8 ∧ v_75 p0 8 ≤ 2147483647 := xf_7_8 I_77 q0
        have rp_80 : EP tT tN [1, 11] p1 (v p0 8) (v p0 7) (v_75 p0 8) (v_11 p0 7) [] (p1) := EP_11b rp_17 (by omega) (by omega) (by omega) (by omega)
        have b_81 : v_75 p0 7 = v_11 p0 7 := (fr_use q0 f_76 rfl)
        rw [← hQ]
        exact W.vret hx hb hr (fun t ht hW => ⟨⟨v_75, rfl, ⟨I_77, (fr_tr f_76 rfl (fr_tr f_12 rfl fr_rf)), by unfold jF; omega, by omega, by unfold jF; omega, by first | exact (by rw [show v_75 p0 7 = v_11 p0 7 from (fr_use q0 f_76 rfl)]; exact rp_80) | exact EP_x (by omega)⟩, by rw [ht]; exact hP, va_K.moved hW.alike hK, hD⟩, hS.F ht⟩) hS.2.2 dX7_readComparison_32
set_option maxHeartbeats 2000000 in
set_option maxRecDepth 100000 in
theorem sX7_readComparison_q3 (l : Launch) (dC : Nat → ClassId) (dI : Nat → Nat → Nat) (sz : Nat) (L : List Nat) (cid : Nat → ClassId) (K : Int → Nat) (N : Int → Int) (tW : Nat) (sK sV : Nat → Nat) (v : Int → Int → Int) (tT : Int → Int) (tN : Int) (p0 : Int) (p1 : Int) (hI : xI L K N v) (q0 : ok L K p0 7) (q1 : rg p1) (k1 : 3 ≤ p1 ∧ p1 ≤ 3) (k2 : tks tT tN v p0) (k3 : 0 ≤ v p0 7 ∧ v p0 7 < v p0 6) : Met l yX7_readComparison (jk yX7_readComparison cX7_readComparison 3 none) ({ frames := 20, cells := 0, slots := 0, locals := 454 }) (va_Pc [.ref p0.toNat, .int (iI p1)] (xP (dC, dI) (xG L cid K N v) (xT cid) tW sK sV sz)) (va_Qv (fun (u : (Int → Int → Int)) => (xI L K N u) ∧ (fr K [(7, 7), (7, 8), (7, 10), (25, (-1))] u v) ∧ (jF (v p0 8 ≠ -1) (u p0 8 = v p0 8)) ∧ (0 ≤ u p0 7 ∧ v p0 7 ≤ u p0 7 ∧ u p0 7 < v p0 6) ∧ (jF (v p0 8 = -1 ∧ u p0 8 = -1) (v p0 7 + 1 ≤ u p0 7)) ∧ (EP tT tN [1, 11] p1 (v p0 8) (v p0 7) (u p0 8) (u p0 7) [] p1)) (fun u t => va_P (dC, dI) vwCl (xG L cid K N u) t.heap ∧ va_K (dC, dI) vwCl (xT cid) t ∧ va_D (va_A (xG L cid K N v) sz) (xG L cid K N u)) (va_A (xG L cid K N v) sz)) 0 0 (va_A (xG L cid K N v) sz) := by
  refine Met.ofW (cc := cX7_readComparison) (maxL := 3) (ret := none) (by decide) rfl ?_
  intro p e s m args below meth c s₁ B hml hv
  obtain ⟨rfl, ⟨hsz, hP, hK, hD0⟩, hX⟩ := hv
  have hx := B.exec
  have hb := B.bytes
  have hr := B.returns
  have hts := atoms_spec (ws := (jk yX7_readComparison cX7_readComparison 3 none)) B.pre
  have hj : ∀ w ∈ jw, w.before ([.ref p0.toNat, .int (iI p1)] : List Value).toArray s = true := fun w h => hts w (jm h)
  have hown : s.vm.findClass RX7 = some m.cls := findClass_of_methodNamed B.named
  subst hsz
  have hD := hD0.self (sz := s.heap.size)
  generalize hAe : (va_A (xG L cid K N v) s.heap.size) = A at hD hX ⊢
  have hA : ∀ q : Nat, s.heap.size ≤ q → A q := fun q h => by rw [← hAe]; exact Or.inr h
  have hS : va_S A s.heap s.heap [] := va_S.rf
  have hXa := hX
  have hP : va_P (dC, dI) vwCl (xG L cid K N v) s.heap := hP
  have hl := lv_entry ([.ref p0.toNat, .int (iI p1)]) (n := 3) (Nat.le_of_ble_eq_true rfl)
  rw [lg_entry_eq]
  generalize (lg_sl ([.ref p0.toNat, .int (iI p1)]) ++ List.replicate (3 - (lg_sl ([.ref p0.toNat, .int (iI p1)])).length) Slot.unset).toArray = ls at hl ⊢
  have hl : lv_has ls 3 [(0, .ref p0.toNat), (1, .int (iI p1))] := hl
  generalize hQ : MQ below (va_Qv (fun (u : (Int → Int → Int)) => (xI L K N u) ∧ (fr K [(7, 7), (7, 8), (7, 10), (25, (-1))] u v) ∧ (jF (v p0 8 ≠ -1) (u p0 8 = v p0 8)) ∧ (0 ≤ u p0 7 ∧ v p0 7 ≤ u p0 7 ∧ u p0 7 < v p0 6) ∧ (jF (v p0 8 = -1 ∧ u p0 8 = -1) (v p0 7 + 1 ≤ u p0 7)) ∧ (EP tT tN [1, 11] p1 (v p0 8) (v p0 7) (u p0 8) (u p0 7) [] p1)) (fun u t => va_P (dC, dI) vwCl (xG L cid K N u) t.heap ∧ va_K (dC, dI) vwCl (xT cid) t ∧ va_D A (xG L cid K N u)) A) ([.ref p0.toNat, .int (iI p1)] : List Value).toArray s 0 0 A = Q
  suffices ST : ∀ (H : Heap) (locs : List Loc), va_P (dC, dI) vwCl (xG L cid K N v) H → va_S A s.heap H locs → W p l e ({ frames := 20, cells := 0, slots := 0, locals := 454 }) s m ([.ref p0.toNat, .int (iI p1)] : List Value).toArray below meth c H locs 0 0 Q (F0 m 0 ls []) from ST _ _ hP hS
  clear hP hS
  intro H locs hP hS
  have hTK := tks_m k2
  have rp_1 : EP tT tN [1, 11] p1 (v p0 8) (v p0 7) (v p0 8) (v p0 7) [1, 11] p1 := EP_0
  refine lv_aload_n hx hb dX7_readComparison_0 rfl (lv_at hl 0 rfl) ?_
  refine lv_iload_n hx hb dX7_readComparison_1 rfl (lv_at hl 1 rfl) ?_
  have h_2 : (-2147483648) ≤ v p0 7 ∧ v p0 7 ≤ 2147483647 := xf_7_7 hI q0
  have h_3 : (-2147483648) ≤ v p0 6 ∧ v p0 6 ≤ 2147483647 := xf_7_6 hI q0
  refine jcg_v (va_runV (As := [.int (iI p1)]) (rest := []) ⟨hx, hb, hml, hown, hts⟩ (sX7_readSum_q3 l dC dI _ L cid K N tW sK sV v tT tN p0 p1 hI q0 (by omega) (by omega) k2 (by omega)) (cwV 1 hts (jgoodV m_704 m_705 m_706 m_677 m_707) rfl rfl rfl (by decide +kernel) ⟨(Nat.le_of_ble_eq_true rfl), (Nat.le_of_ble_eq_true rfl)⟩) ⟨xP_blind, xrecv hK hP q0 rfl rfl, fun U hU hW => ⟨rfl, xP_of hU hW hP hK hD hX hS (fun _ h => h) hA⟩⟩ rfl rfl hl.1 rfl (lv_room (Nat.le_of_ble_eq_true rfl)) dX7_readComparison_2 ⟨(Nat.le_of_ble_eq_true rfl), (Nat.le_of_ble_eq_true rfl)⟩) hD hS hA (fun v_11 H locs w_5 hP hK hD hS => ?_)
  obtain ⟨I_13, f_12, h_7, h_8, h_9, h_10⟩ := w_5
  have hP : va_P (dC, dI) vwCl (xG L cid K N v_11) H := hP
  have hD : va_D A (xG L cid K N v_11) := hD
  have h_14 : (-2147483648) ≤ v p0 8 ∧ v p0 8 ≤ 2147483647 := xf_7_8 hI q0
  have h_15 : (-2147483648) ≤ v_11 p0 8 ∧ v_11 p0 8 ≤ 2147483647 := xf_7_8 I_13 q0
  have h_16 : (-2147483648) ≤ v_11 p0 7 ∧ v_11 p0 7 ≤ 2147483647 := xf_7_7 I_13 q0
  have rp_17 : EP tT tN [1, 11] p1 (v p0 8) (v p0 7) (v_11 p0 8) (v_11 p0 7) [11] (p1) := EP_c rp_1 h_10 h_7
  have g_18 : v p0 8 = -1 ∨ v_11 p0 8 = v p0 8 := jF_o h_7
  have g_19 : v p0 8 ≠ -1 ∨ v_11 p0 8 ≠ -1 ∨ v p0 7 + 1 ≤ v_11 p0 7 := jF_3 h_9
  refine lv_aload_n hx hb dX7_readComparison_5 rfl (lv_at hl 0 rfl) ?_
  have b_20 : v_11 p0 6 = v p0 6 := (fr_use q0 f_12 rfl)
  refine jc_i (va_runV (As := []) (rest := []) ⟨hx, hb, hml, hown, hts⟩ (sX7_kind l dC dI _ L cid K N tW sK sV v_11 tT tN p0 I_13 q0 (tks_fr hI q0 (show fr K [(7, 7), (7, 8), (7, 10), (25, (-1))] v_11 v from (fr_tr f_12 rfl fr_rf)) rfl rfl rfl rfl rfl rfl rfl (fun _ => rfl) (fun _ => rfl) (fun _ => rfl) (fun _ => rfl) (fun _ => rfl) k2) (by omega)) (cwV 0 hts (jgoodV m_674 m_675 m_676 m_677 m_678) rfl rfl rfl (by decide +kernel) ⟨(Nat.le_of_ble_eq_true rfl), (Nat.le_of_ble_eq_true rfl)⟩) ⟨xP_blind, xrecv hK hP q0 rfl rfl, fun U hU hW => ⟨rfl, xP_of hU hW hP hK hD hX hS (fun _ h => h) hA⟩⟩ rfl rfl hl.1 rfl (lv_room (Nat.le_of_ble_eq_true rfl)) dX7_readComparison_6 ⟨(Nat.le_of_ble_eq_true rfl), (Nat.le_of_ble_eq_true rfl)⟩) hP hS hA (fun r_21 H locs w_22 hP hS => ?_)
  obtain ⟨z_23, rfl, h_24, h_25, h_26⟩ := w_22
  have b_27 : v_11 p0 6 = v p0 6 := (fr_use q0 f_12 rfl)
  refine lv_istore_n (i := 2) (lv' := [(2, .int (iI z_23)), (0, .ref p0.toNat), (1, .int (iI p1))]) hx hb dX7_readComparison_9 rfl hl (by decide) rfl (fun ls hl => ?_)
  refine lv_iload_n hx hb dX7_readComparison_10 rfl (lv_at hl 0 rfl) ?_
  refine lv_bipush (v := iI 60) hx hb dX7_readComparison_11 rfl ?_
  have J33 : ∀ (H : Heap) (locs : List Loc) (ls : Array Slot), (z_23 = 60 ∨ z_23 = 62 ∨ z_23 = 61) → va_P (dC, dI) vwCl (xG L cid K N v_11) H → va_D A (xG L cid K N v_11) → va_S A s.heap H locs → lv_has ls 3 [(2, .int (iI z_23)), (0, .ref p0.toNat), (1, .int (iI p1))] → W p l e ({ frames := 20, cells := 0, slots := 0, locals := 454 }) s m ([.ref p0.toNat, .int (iI p1)] : List Value).toArray below meth c H locs 0 0 Q (F0 m 33 ls []) := by
    intro H locs ls h_28 hP hD hS hl
    refine lv_aload_n hx hb dX7_readComparison_33 rfl (lv_at hl 1 rfl) ?_
    refine jcg_v (va_runV (As := []) (rest := []) ⟨hx, hb, hml, hown, hts⟩ (sX7_advance l dC dI _ L cid K N tW sK sV v_11 p0 I_13 q0 (by omega)) (cwV 0 hts (jgoodV m_692 m_693 m_694 m_677 m_695) rfl rfl rfl (by decide +kernel) ⟨(Nat.le_of_ble_eq_true rfl), (Nat.le_of_ble_eq_true rfl)⟩) ⟨xP_blind, xrecv hK hP q0 rfl rfl, fun U hU hW => ⟨rfl, xP_of hU hW hP hK hD hX hS (fun _ h => h) hA⟩⟩ rfl rfl hl.1 rfl (lv_room (Nat.le_of_ble_eq_true rfl)) dX7_readComparison_34 ⟨(Nat.le_of_ble_eq_true rfl), (Nat.le_of_ble_eq_true rfl)⟩) hD hS hA (fun v_33 H locs w_30 hP hK hD hS => ?_)
    obtain ⟨I_35, f_34, h_32⟩ := w_30
    have hP : va_P (dC, dI) vwCl (xG L cid K N v_33) H := hP
    have hD : va_D A (xG L cid K N v_33) := hD
    have h_36 : (-2147483648) ≤ v_33 p0 7 ∧ v_33 p0 7 ≤ 2147483647 := xf_7_7 I_35 q0
    have rp_37 : EP tT tN [1, 11] p1 (v p0 8) (v p0 7) (v_11 p0 8) (v_33 p0 7) [1] (p1) := EP_11y rp_17 (by omega) (by omega) (by omega)
    refine lv_aload_n hx hb dX7_readComparison_37 rfl (lv_at hl 1 rfl) ?_
    refine lv_iload_n hx hb dX7_readComparison_38 rfl (lv_at hl 2 rfl) ?_
    have b_38 : v_33 p0 6 = v p0 6 := (((fr_use q0 f_34 rfl)).trans (fr_use q0 f_12 rfl))
    refine jcg_v (va_runV (As := [.int (iI p1)]) (rest := []) ⟨hx, hb, hml, hown, hts⟩ (sX7_readSum_q3 l dC dI _ L cid K N tW sK sV v_33 tT tN p0 p1 I_35 q0 (by omega) (by omega) (tks_fr hI q0 (show fr K [(7, 7), (7, 8), (7, 10), (25, (-1))] v_33 v from (fr_tr f_34 rfl (fr_tr f_12 rfl fr_rf))) rfl rfl rfl rfl rfl rfl rfl (fun _ => rfl) (fun _ => rfl) (fun _ => rfl) (fun _ => rfl) (fun _ => rfl) k2) (by omega)) (cwV 1 hts (jgoodV m_704 m_705 m_706 m_677 m_707) rfl rfl rfl (by decide +kernel) ⟨(Nat.le_of_ble_eq_true rfl), (Nat.le_of_ble_eq_true rfl)⟩) ⟨xP_blind, xrecv hK hP q0 rfl rfl, fun U hU hW => ⟨rfl, xP_of hU hW hP hK hD hX hS (fun _ h => h) hA⟩⟩ rfl rfl hl.1 rfl (lv_room (Nat.le_of_ble_eq_true rfl)) dX7_readComparison_39 ⟨(Nat.le_of_ble_eq_true rfl), (Nat.le_of_ble_eq_true rfl)⟩) hD hS hA (fun v_46 H locs w_40 hP hK hD hS => ?_)
    obtain ⟨I_48, f_47, h_42, h_43, h_44, h_45⟩ := w_40
    have hP : va_P (dC, dI) vwCl (xG L cid K N v_46) H := hP
    have hD : va_D A (xG L cid K N v_46) := hD
    have b_49 : v_33 p0 6 = v p0 6 := (((fr_use q0 f_34 rfl)).trans (fr_use q0 f_12 rfl))
    have b_50 : v_33 p0 8 = v_11 p0 8 := (fr_use q0 f_34 rfl)
    have h_51 : (-2147483648) ≤ v_46 p0 8 ∧ v_46 p0 8 ≤ 2147483647 := xf_7_8 I_48 q0
    have h_52 : (-2147483648) ≤ v_46 p0 7 ∧ v_46 p0 7 ≤ 2147483647 := xf_7_7 I_48 q0
    rw [show v_33 p0 8 = v_11 p0 8 from (fr_use q0 f_34 rfl)] at h_42
    rw [show v_33 p0 8 = v_11 p0 8 from (fr_use q0 f_34 rfl)] at h_44
    rw [show v_33 p0 8 = v_11 p0 8 from (fr_use q0 f_34 rfl)] at h_45
    have rp_53 : EP tT tN [1, 11] p1 (v p0 8) (v p0 7) (v_46 p0 8) (v_46 p0 7) [] (p1) := EP_c rp_37 h_45 h_42
    have g_54 : v_11 p0 8 = -1 ∨ v_46 p0 8 = v_11 p0 8 := jF_o h_42
    have g_55 : v_11 p0 8 ≠ -1 ∨ v_46 p0 8 ≠ -1 ∨ v_33 p0 7 + 1 ≤ v_46 p0 7 := jF_3 h_44
    refine lv_aload_n hx hb dX7_readComparison_42 rfl (lv_at hl 1 rfl) ?_
    refine lv_iload_n hx hb dX7_readComparison_43 rfl (lv_at hl 0 rfl) ?_
    refine lv_bipush (v := iI 60) hx hb dX7_readComparison_44 rfl ?_
    have J67 : ∀ (s0_67 : Int) (H : Heap) (locs : List Loc) (ls : Array Slot), ((-17) ≤ s0_67 ∧ s0_67 ≤ (-15)) → va_P (dC, dI) vwCl (xG L cid K N v_46) H → va_D A (xG L cid K N v_46) → va_S A s.heap H locs → lv_has ls 3 [(2, .int (iI z_23)), (0, .ref p0.toNat), (1, .int (iI p1))] → W p l e ({ frames := 20, cells := 0, slots := 0, locals := 454 }) s m ([.ref p0.toNat, .int (iI p1)] : List Value).toArray below meth c H locs 0 0 Q (F0 m 67 ls [.int (iI s0_67), .ref p0.toNat]) := by
      intro s0_67 H locs ls h_56 hP hD hS hl
      refine jcg_v (va_runV (As := [.int (iI s0_67)]) (rest := []) ⟨hx, hb, hml, hown, hts⟩ (sX7_emit l dC dI _ L cid K N tW sK sV v_46 p0 s0_67 I_48 q0 (by omega)) (cwV 1 hts (jgoodV m_688 m_689 m_690 m_677 m_691) rfl rfl rfl (by decide +kernel) ⟨(Nat.le_of_ble_eq_true rfl), (Nat.le_of_ble_eq_true rfl)⟩) ⟨xP_blind, xrecv hK hP q0 rfl rfl, fun U hU hW => ⟨rfl, xP_of hU hW hP hK hD hX hS (fun _ h => h) hA⟩⟩ rfl rfl hl.1 rfl (lv_room (Nat.le_of_ble_eq_true rfl)) dX7_readComparison_67 ⟨(Nat.le_of_ble_eq_true rfl), (Nat.le_of_ble_eq_true rfl)⟩) hD hS hA (fun v_60 H locs w_58 hP hK hD hS => ?_)
      obtain ⟨I_62, f_61⟩ := w_58
      have hP : va_P (dC, dI) vwCl (xG L cid K N v_60) H := hP
      have hD : va_D A (xG L cid K N v_60) := hD
      have b_63 : v_60 p0 8 = v_46 p0 8 := (fr_use q0 f_61 rfl)
      have b_64 : v_60 p0 7 = v_46 p0 7 := (fr_use q0 f_61 rfl)
      rw [← hQ]
      exact W.vret hx hb hr (fun t ht hW => ⟨⟨v_60, rfl, ⟨I_62, (fr_tr f_61 rfl (fr_tr f_47 rfl (fr_tr f_34 rfl (fr_tr f_12 rfl fr_rf)))), by unfold jF; omega, by omega, by unfold jF; omega, by first | exact (by rw [show v_60 p0 8 = v_46 p0 8 from (fr_use q0 f_61 rfl), show v_60 p0 7 = v_46 p0 7 from (fr_use q0 f_61 rfl)]; exact rp_53) | exact EP_x (by omega)⟩, by rw [ht]; exact hP, va_K.moved hW.alike hK, hD⟩, hS.F ht⟩) hS.2.2 dX7_readComparison_70
    refine xr_icmp_ne (tgt := 54) hx hb dX7_readComparison_46 (by decide) (by omega) (by omega) (fun h_65 => ?_) (fun h_65 => ?_)
    · refine lv_iload_n hx hb dX7_readComparison_54 rfl (lv_at hl 0 rfl) ?_
      refine lv_bipush (v := iI 62) hx hb dX7_readComparison_55 rfl ?_
      refine xr_icmp_ne (tgt := 65) hx hb dX7_readComparison_57 (by decide) (by omega) (by omega) (fun h_66 => ?_) (fun h_66 => ?_)
      · refine lv_bipush (v := iI (-17)) hx hb dX7_readComparison_65 rfl ?_
        exact J67 (-17) H locs ls (by omega) hP hD hS hl
      · refine lv_bipush (v := iI (-16)) hx hb dX7_readComparison_60 rfl ?_
        refine lv_goto (tgt := 67) hx hb dX7_readComparison_62 (by decide) ?_
        exact J67 (-16) H locs ls (by omega) hP hD hS hl
    · refine lv_bipush (v := iI (-15)) hx hb dX7_readComparison_49 rfl ?_
      refine lv_goto (tgt := 67) hx hb dX7_readComparison_51 (by decide) ?_
      exact J67 (-15) H locs ls (by omega) hP hD hS hl
  refine xr_icmp_eq (tgt := 33) hx hb dX7_readComparison_13 (by decide) (by omega) (by omega) (fun h_67 => ?_) (fun h_67 => ?_)
  · exact J33 H locs ls (by omega) hP hD hS hl
  · refine lv_iload_n hx hb dX7_readComparison_16 rfl (lv_at hl 0 rfl) ?_
    refine lv_bipush (v := iI 62) hx hb dX7_readComparison_17 rfl ?_
    refine xr_icmp_eq (tgt := 33) hx hb dX7_readComparison_19 (by decide) (by omega) (by omega) (fun h_68 => ?_) (fun h_68 => ?_)
    · exact J33 H locs ls (by omega) hP hD hS hl
    · refine lv_iload_n hx hb dX7_readComparison_22 rfl (lv_at hl 0 rfl) ?_
      refine lv_bipush (v := iI 61) hx hb dX7_readComparison_23 rfl ?_
      refine xr_icmp_eq (tgt := 33) hx hb dX7_readComparison_25 (by decide) (by omega) (by omega) (fun h_69 => ?_) (fun h_69 => ?_)
      · exact J33 H locs ls (by omega) hP hD hS hl
      · refine lv_aload_n hx hb dX7_readComparison_28 rfl (lv_at hl 1 rfl) ?_
        have b_70 : v_11 p0 6 = v p0 6 := (fr_use q0 f_12 rfl)
        refine jcg_v (va_runV (As := []) (rest := []) ⟨hx, hb, hml, hown, hts⟩ (sX7_refuse l dC dI _ L cid K N tW sK sV v_11 tT tN p0 I_13 q0 (tks_fr hI q0 (show fr K [(7, 7), (7, 8), (7, 10), (25, (-1))] v_11 v from (fr_tr f_12 rfl fr_rf)) rfl rfl rfl rfl rfl rfl rfl (fun _ => rfl) (fun _ => rfl) (fun _ => rfl) (fun _ => rfl) (fun _ => rfl) k2) (by omega)) (cwV 0 hts (jgoodV m_683 m_684 m_685 m_677 m_686) rfl rfl rfl (by decide +kernel) ⟨(Nat.le_of_ble_eq_true rfl), (Nat.le_of_ble_eq_true rfl)⟩) ⟨xP_blind, xrecv hK hP q0 rfl rfl, fun U hU hW => ⟨rfl, xP_of hU hW hP hK hD hX hS (fun _ h => h) hA⟩⟩ rfl rfl hl.1 rfl (lv_room (Nat.le_of_ble_eq_true rfl)) dX7_readComparison_29 ⟨(Nat.le_of_ble_eq_true rfl), (Nat.le_of_ble_eq_true rfl)⟩) hD hS hA (fun v_75 H locs w_72 hP hK hD hS => ?_)
        obtain ⟨I_77, f_76, h_74⟩ := w_72
        have hP : va_P (dC, dI) vwCl (xG L cid K N v_75) H := hP
        have hD : va_D A (xG L cid K N v_75) := hD
        have b_78 : v_11 p0 6 = v p0 6 := (fr_use q0 f_12 rfl)
        have h_79 : (-2147483648) ≤ v_75 p0 8 ∧ v_75 p0 8 ≤ 2147483647 := xf_7_8 I_77 q0
        have rp_80 : EP tT tN [1, 11] p1 (v p0 8) (v p0 7) (v_75 p0 8) (v_11 p0 7) [] (p1) := EP_11b rp_17 (by omega) (by omega) (by omega) (by omega)
        have b_81 : v_75 p0 7 = v_11 p0 7 := (fr_use q0 f_76 rfl)
        rw [← hQ]
        exact W.vret hx hb hr (fun t ht hW => ⟨⟨v_75, rfl, ⟨I_77, (fr_tr f_76 rfl (fr_tr f_12 rfl fr_rf)), by unfold jF; omega, by omega, by unfold jF; omega, by first | exact (by rw [show v_75 p0 7 = v_11 p0 7 from (fr_use q0 f_76 rfl)]; exact rp_80) | exact EP_x (by omega)⟩, by rw [ht]; exact hP, va_K.moved hW.alike hK, hD⟩, hS.F ht⟩) hS.2.2 dX7_readComparison_32
set_option maxHeartbeats 2000000 in
set_option maxRecDepth 100000 in
theorem sX7_readComparison_q4 (l : Launch) (dC : Nat → ClassId) (dI : Nat → Nat → Nat) (sz : Nat) (L : List Nat) (cid : Nat → ClassId) (K : Int → Nat) (N : Int → Int) (tW : Nat) (sK sV : Nat → Nat) (v : Int → Int → Int) (tT : Int → Int) (tN : Int) (p0 : Int) (p1 : Int) (hI : xI L K N v) (q0 : ok L K p0 7) (q1 : rg p1) (k1 : 4 ≤ p1 ∧ p1 ≤ 4) (k2 : tks tT tN v p0) (k3 : 0 ≤ v p0 7 ∧ v p0 7 < v p0 6) : Met l yX7_readComparison (jk yX7_readComparison cX7_readComparison 3 none) ({ frames := 17, cells := 0, slots := 0, locals := 385 }) (va_Pc [.ref p0.toNat, .int (iI p1)] (xP (dC, dI) (xG L cid K N v) (xT cid) tW sK sV sz)) (va_Qv (fun (u : (Int → Int → Int)) => (xI L K N u) ∧ (fr K [(7, 7), (7, 8), (7, 10), (25, (-1))] u v) ∧ (jF (v p0 8 ≠ -1) (u p0 8 = v p0 8)) ∧ (0 ≤ u p0 7 ∧ v p0 7 ≤ u p0 7 ∧ u p0 7 < v p0 6) ∧ (jF (v p0 8 = -1 ∧ u p0 8 = -1) (v p0 7 + 1 ≤ u p0 7)) ∧ (EP tT tN [1, 11] p1 (v p0 8) (v p0 7) (u p0 8) (u p0 7) [] p1)) (fun u t => va_P (dC, dI) vwCl (xG L cid K N u) t.heap ∧ va_K (dC, dI) vwCl (xT cid) t ∧ va_D (va_A (xG L cid K N v) sz) (xG L cid K N u)) (va_A (xG L cid K N v) sz)) 0 0 (va_A (xG L cid K N v) sz) := by
  refine Met.ofW (cc := cX7_readComparison) (maxL := 3) (ret := none) (by decide) rfl ?_
  intro p e s m args below meth c s₁ B hml hv
  obtain ⟨rfl, ⟨hsz, hP, hK, hD0⟩, hX⟩ := hv
  have hx := B.exec
  have hb := B.bytes
  have hr := B.returns
  have hts := atoms_spec (ws := (jk yX7_readComparison cX7_readComparison 3 none)) B.pre
  have hj : ∀ w ∈ jw, w.before ([.ref p0.toNat, .int (iI p1)] : List Value).toArray s = true := fun w h => hts w (jm h)
  have hown : s.vm.findClass RX7 = some m.cls := findClass_of_methodNamed B.named
  subst hsz
  have hD := hD0.self (sz := s.heap.size)
  generalize hAe : (va_A (xG L cid K N v) s.heap.size) = A at hD hX ⊢
  have hA : ∀ q : Nat, s.heap.size ≤ q → A q := fun q h => by rw [← hAe]; exact Or.inr h
  have hS : va_S A s.heap s.heap [] := va_S.rf
  have hXa := hX
  have hP : va_P (dC, dI) vwCl (xG L cid K N v) s.heap := hP
  have hl := lv_entry ([.ref p0.toNat, .int (iI p1)]) (n := 3) (Nat.le_of_ble_eq_true rfl)
  rw [lg_entry_eq]
  generalize (lg_sl ([.ref p0.toNat, .int (iI p1)]) ++ List.replicate (3 - (lg_sl ([.ref p0.toNat, .int (iI p1)])).length) Slot.unset).toArray = ls at hl ⊢
  have hl : lv_has ls 3 [(0, .ref p0.toNat), (1, .int (iI p1))] := hl
  generalize hQ : MQ below (va_Qv (fun (u : (Int → Int → Int)) => (xI L K N u) ∧ (fr K [(7, 7), (7, 8), (7, 10), (25, (-1))] u v) ∧ (jF (v p0 8 ≠ -1) (u p0 8 = v p0 8)) ∧ (0 ≤ u p0 7 ∧ v p0 7 ≤ u p0 7 ∧ u p0 7 < v p0 6) ∧ (jF (v p0 8 = -1 ∧ u p0 8 = -1) (v p0 7 + 1 ≤ u p0 7)) ∧ (EP tT tN [1, 11] p1 (v p0 8) (v p0 7) (u p0 8) (u p0 7) [] p1)) (fun u t => va_P (dC, dI) vwCl (xG L cid K N u) t.heap ∧ va_K (dC, dI) vwCl (xT cid) t ∧ va_D A (xG L cid K N u)) A) ([.ref p0.toNat, .int (iI p1)] : List Value).toArray s 0 0 A = Q
  suffices ST : ∀ (H : Heap) (locs : List Loc), va_P (dC, dI) vwCl (xG L cid K N v) H → va_S A s.heap H locs → W p l e ({ frames := 17, cells := 0, slots := 0, locals := 385 }) s m ([.ref p0.toNat, .int (iI p1)] : List Value).toArray below meth c H locs 0 0 Q (F0 m 0 ls []) from ST _ _ hP hS
  clear hP hS
  intro H locs hP hS
  have hTK := tks_m k2
  have rp_1 : EP tT tN [1, 11] p1 (v p0 8) (v p0 7) (v p0 8) (v p0 7) [1, 11] p1 := EP_0
  refine lv_aload_n hx hb dX7_readComparison_0 rfl (lv_at hl 0 rfl) ?_
  refine lv_iload_n hx hb dX7_readComparison_1 rfl (lv_at hl 1 rfl) ?_
  have h_2 : (-2147483648) ≤ v p0 7 ∧ v p0 7 ≤ 2147483647 := xf_7_7 hI q0
  have h_3 : (-2147483648) ≤ v p0 6 ∧ v p0 6 ≤ 2147483647 := xf_7_6 hI q0
  refine jcg_v (va_runV (As := [.int (iI p1)]) (rest := []) ⟨hx, hb, hml, hown, hts⟩ (sX7_readSum_q4 l dC dI _ L cid K N tW sK sV v tT tN p0 p1 hI q0 (by omega) (by omega) k2 (by omega)) (cwV 1 hts (jgoodV m_704 m_705 m_706 m_677 m_707) rfl rfl rfl (by decide +kernel) ⟨(Nat.le_of_ble_eq_true rfl), (Nat.le_of_ble_eq_true rfl)⟩) ⟨xP_blind, xrecv hK hP q0 rfl rfl, fun U hU hW => ⟨rfl, xP_of hU hW hP hK hD hX hS (fun _ h => h) hA⟩⟩ rfl rfl hl.1 rfl (lv_room (Nat.le_of_ble_eq_true rfl)) dX7_readComparison_2 ⟨(Nat.le_of_ble_eq_true rfl), (Nat.le_of_ble_eq_true rfl)⟩) hD hS hA (fun v_11 H locs w_5 hP hK hD hS => ?_)
  obtain ⟨I_13, f_12, h_7, h_8, h_9, h_10⟩ := w_5
  have hP : va_P (dC, dI) vwCl (xG L cid K N v_11) H := hP
  have hD : va_D A (xG L cid K N v_11) := hD
  have h_14 : (-2147483648) ≤ v p0 8 ∧ v p0 8 ≤ 2147483647 := xf_7_8 hI q0
  have h_15 : (-2147483648) ≤ v_11 p0 8 ∧ v_11 p0 8 ≤ 2147483647 := xf_7_8 I_13 q0
  have h_16 : (-2147483648) ≤ v_11 p0 7 ∧ v_11 p0 7 ≤ 2147483647 := xf_7_7 I_13 q0
  have rp_17 : EP tT tN [1, 11] p1 (v p0 8) (v p0 7) (v_11 p0 8) (v_11 p0 7) [11] (p1) := EP_c rp_1 h_10 h_7
  have g_18 : v p0 8 = -1 ∨ v_11 p0 8 = v p0 8 := jF_o h_7
  have g_19 : v p0 8 ≠ -1 ∨ v_11 p0 8 ≠ -1 ∨ v p0 7 + 1 ≤ v_11 p0 7 := jF_3 h_9
  refine lv_aload_n hx hb dX7_readComparison_5 rfl (lv_at hl 0 rfl) ?_
  have b_20 : v_11 p0 6 = v p0 6 := (fr_use q0 f_12 rfl)
  refine jc_i (va_runV (As := []) (rest := []) ⟨hx, hb, hml, hown, hts⟩ (sX7_kind l dC dI _ L cid K N tW sK sV v_11 tT tN p0 I_13 q0 (tks_fr hI q0 (show fr K [(7, 7), (7, 8), (7, 10), (25, (-1))] v_11 v from (fr_tr f_12 rfl fr_rf)) rfl rfl rfl rfl rfl rfl rfl (fun _ => rfl) (fun _ => rfl) (fun _ => rfl) (fun _ => rfl) (fun _ => rfl) k2) (by omega)) (cwV 0 hts (jgoodV m_674 m_675 m_676 m_677 m_678) rfl rfl rfl (by decide +kernel) ⟨(Nat.le_of_ble_eq_true rfl), (Nat.le_of_ble_eq_true rfl)⟩) ⟨xP_blind, xrecv hK hP q0 rfl rfl, fun U hU hW => ⟨rfl, xP_of hU hW hP hK hD hX hS (fun _ h => h) hA⟩⟩ rfl rfl hl.1 rfl (lv_room (Nat.le_of_ble_eq_true rfl)) dX7_readComparison_6 ⟨(Nat.le_of_ble_eq_true rfl), (Nat.le_of_ble_eq_true rfl)⟩) hP hS hA (fun r_21 H locs w_22 hP hS => ?_)
  obtain ⟨z_23, rfl, h_24, h_25, h_26⟩ := w_22
  have b_27 : v_11 p0 6 = v p0 6 := (fr_use q0 f_12 rfl)
  refine lv_istore_n (i := 2) (lv' := [(2, .int (iI z_23)), (0, .ref p0.toNat), (1, .int (iI p1))]) hx hb dX7_readComparison_9 rfl hl (by decide) rfl (fun ls hl => ?_)
  refine lv_iload_n hx hb dX7_readComparison_10 rfl (lv_at hl 0 rfl) ?_
  refine lv_bipush (v := iI 60) hx hb dX7_readComparison_11 rfl ?_
  have J33 : ∀ (H : Heap) (locs : List Loc) (ls : Array Slot), (z_23 = 60 ∨ z_23 = 62 ∨ z_23 = 61) → va_P (dC, dI) vwCl (xG L cid K N v_11) H → va_D A (xG L cid K N v_11) → va_S A s.heap H locs → lv_has ls 3 [(2, .int (iI z_23)), (0, .ref p0.toNat), (1, .int (iI p1))] → W p l e ({ frames := 17, cells := 0, slots := 0, locals := 385 }) s m ([.ref p0.toNat, .int (iI p1)] : List Value).toArray below meth c H locs 0 0 Q (F0 m 33 ls []) := by
    intro H locs ls h_28 hP hD hS hl
    refine lv_aload_n hx hb dX7_readComparison_33 rfl (lv_at hl 1 rfl) ?_
    refine jcg_v (va_runV (As := []) (rest := []) ⟨hx, hb, hml, hown, hts⟩ (sX7_advance l dC dI _ L cid K N tW sK sV v_11 p0 I_13 q0 (by omega)) (cwV 0 hts (jgoodV m_692 m_693 m_694 m_677 m_695) rfl rfl rfl (by decide +kernel) ⟨(Nat.le_of_ble_eq_true rfl), (Nat.le_of_ble_eq_true rfl)⟩) ⟨xP_blind, xrecv hK hP q0 rfl rfl, fun U hU hW => ⟨rfl, xP_of hU hW hP hK hD hX hS (fun _ h => h) hA⟩⟩ rfl rfl hl.1 rfl (lv_room (Nat.le_of_ble_eq_true rfl)) dX7_readComparison_34 ⟨(Nat.le_of_ble_eq_true rfl), (Nat.le_of_ble_eq_true rfl)⟩) hD hS hA (fun v_33 H locs w_30 hP hK hD hS => ?_)
    obtain ⟨I_35, f_34, h_32⟩ := w_30
    have hP : va_P (dC, dI) vwCl (xG L cid K N v_33) H := hP
    have hD : va_D A (xG L cid K N v_33) := hD
    have h_36 : (-2147483648) ≤ v_33 p0 7 ∧ v_33 p0 7 ≤ 2147483647 := xf_7_7 I_35 q0
    have rp_37 : EP tT tN [1, 11] p1 (v p0 8) (v p0 7) (v_11 p0 8) (v_33 p0 7) [1] (p1) := EP_11y rp_17 (by omega) (by omega) (by omega)
    refine lv_aload_n hx hb dX7_readComparison_37 rfl (lv_at hl 1 rfl) ?_
    refine lv_iload_n hx hb dX7_readComparison_38 rfl (lv_at hl 2 rfl) ?_
    have b_38 : v_33 p0 6 = v p0 6 := (((fr_use q0 f_34 rfl)).trans (fr_use q0 f_12 rfl))
    refine jcg_v (va_runV (As := [.int (iI p1)]) (rest := []) ⟨hx, hb, hml, hown, hts⟩ (sX7_readSum_q4 l dC dI _ L cid K N tW sK sV v_33 tT tN p0 p1 I_35 q0 (by omega) (by omega) (tks_fr hI q0 (show fr K [(7, 7), (7, 8), (7, 10), (25, (-1))] v_33 v from (fr_tr f_34 rfl (fr_tr f_12 rfl fr_rf))) rfl rfl rfl rfl rfl rfl rfl (fun _ => rfl) (fun _ => rfl) (fun _ => rfl) (fun _ => rfl) (fun _ => rfl) k2) (by omega)) (cwV 1 hts (jgoodV m_704 m_705 m_706 m_677 m_707) rfl rfl rfl (by decide +kernel) ⟨(Nat.le_of_ble_eq_true rfl), (Nat.le_of_ble_eq_true rfl)⟩) ⟨xP_blind, xrecv hK hP q0 rfl rfl, fun U hU hW => ⟨rfl, xP_of hU hW hP hK hD hX hS (fun _ h => h) hA⟩⟩ rfl rfl hl.1 rfl (lv_room (Nat.le_of_ble_eq_true rfl)) dX7_readComparison_39 ⟨(Nat.le_of_ble_eq_true rfl), (Nat.le_of_ble_eq_true rfl)⟩) hD hS hA (fun v_46 H locs w_40 hP hK hD hS => ?_)
    obtain ⟨I_48, f_47, h_42, h_43, h_44, h_45⟩ := w_40
    have hP : va_P (dC, dI) vwCl (xG L cid K N v_46) H := hP
    have hD : va_D A (xG L cid K N v_46) := hD
    have b_49 : v_33 p0 6 = v p0 6 := (((fr_use q0 f_34 rfl)).trans (fr_use q0 f_12 rfl))
    have b_50 : v_33 p0 8 = v_11 p0 8 := (fr_use q0 f_34 rfl)
    have h_51 : (-2147483648) ≤ v_46 p0 8 ∧ v_46 p0 8 ≤ 2147483647 := xf_7_8 I_48 q0
    have h_52 : (-2147483648) ≤ v_46 p0 7 ∧ v_46 p0 7 ≤ 2147483647 := xf_7_7 I_48 q0
    rw [show v_33 p0 8 = v_11 p0 8 from (fr_use q0 f_34 rfl)] at h_42
    rw [show v_33 p0 8 = v_11 p0 8 from (fr_use q0 f_34 rfl)] at h_44
    rw [show v_33 p0 8 = v_11 p0 8 from (fr_use q0 f_34 rfl)] at h_45
    have rp_53 : EP tT tN [1, 11] p1 (v p0 8) (v p0 7) (v_46 p0 8) (v_46 p0 7) [] (p1) := EP_c rp_37 h_45 h_42
    have g_54 : v_11 p0 8 = -1 ∨ v_46 p0 8 = v_11 p0 8 := jF_o h_42
    have g_55 : v_11 p0 8 ≠ -1 ∨ v_46 p0 8 ≠ -1 ∨ v_33 p0 7 + 1 ≤ v_46 p0 7 := jF_3 h_44
    refine lv_aload_n hx hb dX7_readComparison_42 rfl (lv_at hl 1 rfl) ?_
    refine lv_iload_n hx hb dX7_readComparison_43 rfl (lv_at hl 0 rfl) ?_
    refine lv_bipush (v := iI 60) hx hb dX7_readComparison_44 rfl ?_
    have J67 : ∀ (s0_67 : Int) (H : Heap) (locs : List Loc) (ls : Array Slot), ((-17) ≤ s0_67 ∧ s0_67 ≤ (-15)) → va_P (dC, dI) vwCl (xG L cid K N v_46) H → va_D A (xG L cid K N v_46) → va_S A s.heap H locs → lv_has ls 3 [(2, .int (iI z_23)), (0, .ref p0.toNat), (1, .int (iI p1))] → W p l e ({ frames := 17, cells := 0, slots := 0, locals := 385 }) s m ([.ref p0.toNat, .int (iI p1)] : List Value).toArray below meth c H locs 0 0 Q (F0 m 67 ls [.int (iI s0_67), .ref p0.toNat]) := by
      intro s0_67 H locs ls h_56 hP hD hS hl
      refine jcg_v (va_runV (As := [.int (iI s0_67)]) (rest := []) ⟨hx, hb, hml, hown, hts⟩ (sX7_emit l dC dI _ L cid K N tW sK sV v_46 p0 s0_67 I_48 q0 (by omega)) (cwV 1 hts (jgoodV m_688 m_689 m_690 m_677 m_691) rfl rfl rfl (by decide +kernel) ⟨(Nat.le_of_ble_eq_true rfl), (Nat.le_of_ble_eq_true rfl)⟩) ⟨xP_blind, xrecv hK hP q0 rfl rfl, fun U hU hW => ⟨rfl, xP_of hU hW hP hK hD hX hS (fun _ h => h) hA⟩⟩ rfl rfl hl.1 rfl (lv_room (Nat.le_of_ble_eq_true rfl)) dX7_readComparison_67 ⟨(Nat.le_of_ble_eq_true rfl), (Nat.le_of_ble_eq_true rfl)⟩) hD hS hA (fun v_60 H locs w_58 hP hK hD hS => ?_)
      obtain ⟨I_62, f_61⟩ := w_58
      have hP : va_P (dC, dI) vwCl (xG L cid K N v_60) H := hP
      have hD : va_D A (xG L cid K N v_60) := hD
      have b_63 : v_60 p0 8 = v_46 p0 8 := (fr_use q0 f_61 rfl)
      have b_64 : v_60 p0 7 = v_46 p0 7 := (fr_use q0 f_61 rfl)
      rw [← hQ]
      exact W.vret hx hb hr (fun t ht hW => ⟨⟨v_60, rfl, ⟨I_62, (fr_tr f_61 rfl (fr_tr f_47 rfl (fr_tr f_34 rfl (fr_tr f_12 rfl fr_rf)))), by unfold jF; omega, by omega, by unfold jF; omega, by first | exact (by rw [show v_60 p0 8 = v_46 p0 8 from (fr_use q0 f_61 rfl), show v_60 p0 7 = v_46 p0 7 from (fr_use q0 f_61 rfl)]; exact rp_53) | exact EP_x (by omega)⟩, by rw [ht]; exact hP, va_K.moved hW.alike hK, hD⟩, hS.F ht⟩) hS.2.2 dX7_readComparison_70
    refine xr_icmp_ne (tgt := 54) hx hb dX7_readComparison_46 (by decide) (by omega) (by omega) (fun h_65 => ?_) (fun h_65 => ?_)
    · refine lv_iload_n hx hb dX7_readComparison_54 rfl (lv_at hl 0 rfl) ?_
      refine lv_bipush (v := iI 62) hx hb dX7_readComparison_55 rfl ?_
      refine xr_icmp_ne (tgt := 65) hx hb dX7_readComparison_57 (by decide) (by omega) (by omega) (fun h_66 => ?_) (fun h_66 => ?_)
      · refine lv_bipush (v := iI (-17)) hx hb dX7_readComparison_65 rfl ?_
        exact J67 (-17) H locs ls (by omega) hP hD hS hl
      · refine lv_bipush (v := iI (-16)) hx hb dX7_readComparison_60 rfl ?_
        refine lv_goto (tgt := 67) hx hb dX7_readComparison_62 (by decide) ?_
        exact J67 (-16) H locs ls (by omega) hP hD hS hl
    · refine lv_bipush (v := iI (-15)) hx hb dX7_readComparison_49 rfl ?_
      refine lv_goto (tgt := 67) hx hb dX7_readComparison_51 (by decide) ?_
      exact J67 (-15) H locs ls (by omega) hP hD hS hl
  refine xr_icmp_eq (tgt := 33) hx hb dX7_readComparison_13 (by decide) (by omega) (by omega) (fun h_67 => ?_) (fun h_67 => ?_)
  · exact J33 H locs ls (by omega) hP hD hS hl
  · refine lv_iload_n hx hb dX7_readComparison_16 rfl (lv_at hl 0 rfl) ?_
    refine lv_bipush (v := iI 62) hx hb dX7_readComparison_17 rfl ?_
    refine xr_icmp_eq (tgt := 33) hx hb dX7_readComparison_19 (by decide) (by omega) (by omega) (fun h_68 => ?_) (fun h_68 => ?_)
    · exact J33 H locs ls (by omega) hP hD hS hl
    · refine lv_iload_n hx hb dX7_readComparison_22 rfl (lv_at hl 0 rfl) ?_
      refine lv_bipush (v := iI 61) hx hb dX7_readComparison_23 rfl ?_
      refine xr_icmp_eq (tgt := 33) hx hb dX7_readComparison_25 (by decide) (by omega) (by omega) (fun h_69 => ?_) (fun h_69 => ?_)
      · exact J33 H locs ls (by omega) hP hD hS hl
      · refine lv_aload_n hx hb dX7_readComparison_28 rfl (lv_at hl 1 rfl) ?_
        have b_70 : v_11 p0 6 = v p0 6 := (fr_use q0 f_12 rfl)
        refine jcg_v (va_runV (As := []) (rest := []) ⟨hx, hb, hml, hown, hts⟩ (sX7_refuse l dC dI _ L cid K N tW sK sV v_11 tT tN p0 I_13 q0 (tks_fr hI q0 (show fr K [(7, 7), (7, 8), (7, 10), (25, (-1))] v_11 v from (fr_tr f_12 rfl fr_rf)) rfl rfl rfl rfl rfl rfl rfl (fun _ => rfl) (fun _ => rfl) (fun _ => rfl) (fun _ => rfl) (fun _ => rfl) k2) (by omega)) (cwV 0 hts (jgoodV m_683 m_684 m_685 m_677 m_686) rfl rfl rfl (by decide +kernel) ⟨(Nat.le_of_ble_eq_true rfl), (Nat.le_of_ble_eq_true rfl)⟩) ⟨xP_blind, xrecv hK hP q0 rfl rfl, fun U hU hW => ⟨rfl, xP_of hU hW hP hK hD hX hS (fun _ h => h) hA⟩⟩ rfl rfl hl.1 rfl (lv_room (Nat.le_of_ble_eq_true rfl)) dX7_readComparison_29 ⟨(Nat.le_of_ble_eq_true rfl), (Nat.le_of_ble_eq_true rfl)⟩) hD hS hA (fun v_75 H locs w_72 hP hK hD hS => ?_)
        obtain ⟨I_77, f_76, h_74⟩ := w_72
        have hP : va_P (dC, dI) vwCl (xG L cid K N v_75) H := hP
        have hD : va_D A (xG L cid K N v_75) := hD
        have b_78 : v_11 p0 6 = v p0 6 := (fr_use q0 f_12 rfl)
        have h_79 : (-2147483648) ≤ v_75 p0 8 ∧ v_75 p0 8 ≤ 2147483647 := xf_7_8 I_77 q0
        have rp_80 : EP tT tN [1, 11] p1 (v p0 8) (v p0 7) (v_75 p0 8) (v_11 p0 7) [] (p1) := EP_11b rp_17 (by omega) (by omega) (by omega) (by omega)
        have b_81 : v_75 p0 7 = v_11 p0 7 := (fr_use q0 f_76 rfl)
        rw [← hQ]
        exact W.vret hx hb hr (fun t ht hW => ⟨⟨v_75, rfl, ⟨I_77, (fr_tr f_76 rfl (fr_tr f_12 rfl fr_rf)), by unfold jF; omega, by omega, by unfold jF; omega, by first | exact (by rw [show v_75 p0 7 = v_11 p0 7 from (fr_use q0 f_76 rfl)]; exact rp_80) | exact EP_x (by omega)⟩, by rw [ht]; exact hP, va_K.moved hW.alike hK, hD⟩, hS.F ht⟩) hS.2.2 dX7_readComparison_32
set_option maxHeartbeats 2000000 in
set_option maxRecDepth 100000 in
theorem sX7_readComparison_q5 (l : Launch) (dC : Nat → ClassId) (dI : Nat → Nat → Nat) (sz : Nat) (L : List Nat) (cid : Nat → ClassId) (K : Int → Nat) (N : Int → Int) (tW : Nat) (sK sV : Nat → Nat) (v : Int → Int → Int) (tT : Int → Int) (tN : Int) (p0 : Int) (p1 : Int) (hI : xI L K N v) (q0 : ok L K p0 7) (q1 : rg p1) (k1 : 5 ≤ p1 ∧ p1 ≤ 5) (k2 : tks tT tN v p0) (k3 : 0 ≤ v p0 7 ∧ v p0 7 < v p0 6) : Met l yX7_readComparison (jk yX7_readComparison cX7_readComparison 3 none) ({ frames := 14, cells := 0, slots := 0, locals := 316 }) (va_Pc [.ref p0.toNat, .int (iI p1)] (xP (dC, dI) (xG L cid K N v) (xT cid) tW sK sV sz)) (va_Qv (fun (u : (Int → Int → Int)) => (xI L K N u) ∧ (fr K [(7, 7), (7, 8), (7, 10), (25, (-1))] u v) ∧ (jF (v p0 8 ≠ -1) (u p0 8 = v p0 8)) ∧ (0 ≤ u p0 7 ∧ v p0 7 ≤ u p0 7 ∧ u p0 7 < v p0 6) ∧ (jF (v p0 8 = -1 ∧ u p0 8 = -1) (v p0 7 + 1 ≤ u p0 7)) ∧ (EP tT tN [1, 11] p1 (v p0 8) (v p0 7) (u p0 8) (u p0 7) [] p1)) (fun u t => va_P (dC, dI) vwCl (xG L cid K N u) t.heap ∧ va_K (dC, dI) vwCl (xT cid) t ∧ va_D (va_A (xG L cid K N v) sz) (xG L cid K N u)) (va_A (xG L cid K N v) sz)) 0 0 (va_A (xG L cid K N v) sz) := by
  refine Met.ofW (cc := cX7_readComparison) (maxL := 3) (ret := none) (by decide) rfl ?_
  intro p e s m args below meth c s₁ B hml hv
  obtain ⟨rfl, ⟨hsz, hP, hK, hD0⟩, hX⟩ := hv
  have hx := B.exec
  have hb := B.bytes
  have hr := B.returns
  have hts := atoms_spec (ws := (jk yX7_readComparison cX7_readComparison 3 none)) B.pre
  have hj : ∀ w ∈ jw, w.before ([.ref p0.toNat, .int (iI p1)] : List Value).toArray s = true := fun w h => hts w (jm h)
  have hown : s.vm.findClass RX7 = some m.cls := findClass_of_methodNamed B.named
  subst hsz
  have hD := hD0.self (sz := s.heap.size)
  generalize hAe : (va_A (xG L cid K N v) s.heap.size) = A at hD hX ⊢
  have hA : ∀ q : Nat, s.heap.size ≤ q → A q := fun q h => by rw [← hAe]; exact Or.inr h
  have hS : va_S A s.heap s.heap [] := va_S.rf
  have hXa := hX
  have hP : va_P (dC, dI) vwCl (xG L cid K N v) s.heap := hP
  have hl := lv_entry ([.ref p0.toNat, .int (iI p1)]) (n := 3) (Nat.le_of_ble_eq_true rfl)
  rw [lg_entry_eq]
  generalize (lg_sl ([.ref p0.toNat, .int (iI p1)]) ++ List.replicate (3 - (lg_sl ([.ref p0.toNat, .int (iI p1)])).length) Slot.unset).toArray = ls at hl ⊢
  have hl : lv_has ls 3 [(0, .ref p0.toNat), (1, .int (iI p1))] := hl
  generalize hQ : MQ below (va_Qv (fun (u : (Int → Int → Int)) => (xI L K N u) ∧ (fr K [(7, 7), (7, 8), (7, 10), (25, (-1))] u v) ∧ (jF (v p0 8 ≠ -1) (u p0 8 = v p0 8)) ∧ (0 ≤ u p0 7 ∧ v p0 7 ≤ u p0 7 ∧ u p0 7 < v p0 6) ∧ (jF (v p0 8 = -1 ∧ u p0 8 = -1) (v p0 7 + 1 ≤ u p0 7)) ∧ (EP tT tN [1, 11] p1 (v p0 8) (v p0 7) (u p0 8) (u p0 7) [] p1)) (fun u t => va_P (dC, dI) vwCl (xG L cid K N u) t.heap ∧ va_K (dC, dI) vwCl (xT cid) t ∧ va_D A (xG L cid K N u)) A) ([.ref p0.toNat, .int (iI p1)] : List Value).toArray s 0 0 A = Q
  suffices ST : ∀ (H : Heap) (locs : List Loc), va_P (dC, dI) vwCl (xG L cid K N v) H → va_S A s.heap H locs → W p l e ({ frames := 14, cells := 0, slots := 0, locals := 316 }) s m ([.ref p0.toNat, .int (iI p1)] : List Value).toArray below meth c H locs 0 0 Q (F0 m 0 ls []) from ST _ _ hP hS
  clear hP hS
  intro H locs hP hS
  have hTK := tks_m k2
  have rp_1 : EP tT tN [1, 11] p1 (v p0 8) (v p0 7) (v p0 8) (v p0 7) [1, 11] p1 := EP_0
  refine lv_aload_n hx hb dX7_readComparison_0 rfl (lv_at hl 0 rfl) ?_
  refine lv_iload_n hx hb dX7_readComparison_1 rfl (lv_at hl 1 rfl) ?_
  have h_2 : (-2147483648) ≤ v p0 7 ∧ v p0 7 ≤ 2147483647 := xf_7_7 hI q0
  have h_3 : (-2147483648) ≤ v p0 6 ∧ v p0 6 ≤ 2147483647 := xf_7_6 hI q0
  refine jcg_v (va_runV (As := [.int (iI p1)]) (rest := []) ⟨hx, hb, hml, hown, hts⟩ (sX7_readSum_q5 l dC dI _ L cid K N tW sK sV v tT tN p0 p1 hI q0 (by omega) (by omega) k2 (by omega)) (cwV 1 hts (jgoodV m_704 m_705 m_706 m_677 m_707) rfl rfl rfl (by decide +kernel) ⟨(Nat.le_of_ble_eq_true rfl), (Nat.le_of_ble_eq_true rfl)⟩) ⟨xP_blind, xrecv hK hP q0 rfl rfl, fun U hU hW => ⟨rfl, xP_of hU hW hP hK hD hX hS (fun _ h => h) hA⟩⟩ rfl rfl hl.1 rfl (lv_room (Nat.le_of_ble_eq_true rfl)) dX7_readComparison_2 ⟨(Nat.le_of_ble_eq_true rfl), (Nat.le_of_ble_eq_true rfl)⟩) hD hS hA (fun v_11 H locs w_5 hP hK hD hS => ?_)
  obtain ⟨I_13, f_12, h_7, h_8, h_9, h_10⟩ := w_5
  have hP : va_P (dC, dI) vwCl (xG L cid K N v_11) H := hP
  have hD : va_D A (xG L cid K N v_11) := hD
  have h_14 : (-2147483648) ≤ v p0 8 ∧ v p0 8 ≤ 2147483647 := xf_7_8 hI q0
  have h_15 : (-2147483648) ≤ v_11 p0 8 ∧ v_11 p0 8 ≤ 2147483647 := xf_7_8 I_13 q0
  have h_16 : (-2147483648) ≤ v_11 p0 7 ∧ v_11 p0 7 ≤ 2147483647 := xf_7_7 I_13 q0
  have rp_17 : EP tT tN [1, 11] p1 (v p0 8) (v p0 7) (v_11 p0 8) (v_11 p0 7) [11] (p1) := EP_c rp_1 h_10 h_7
  have g_18 : v p0 8 = -1 ∨ v_11 p0 8 = v p0 8 := jF_o h_7
  have g_19 : v p0 8 ≠ -1 ∨ v_11 p0 8 ≠ -1 ∨ v p0 7 + 1 ≤ v_11 p0 7 := jF_3 h_9
  refine lv_aload_n hx hb dX7_readComparison_5 rfl (lv_at hl 0 rfl) ?_
  have b_20 : v_11 p0 6 = v p0 6 := (fr_use q0 f_12 rfl)
  refine jc_i (va_runV (As := []) (rest := []) ⟨hx, hb, hml, hown, hts⟩ (sX7_kind l dC dI _ L cid K N tW sK sV v_11 tT tN p0 I_13 q0 (tks_fr hI q0 (show fr K [(7, 7), (7, 8), (7, 10), (25, (-1))] v_11 v from (fr_tr f_12 rfl fr_rf)) rfl rfl rfl rfl rfl rfl rfl (fun _ => rfl) (fun _ => rfl) (fun _ => rfl) (fun _ => rfl) (fun _ => rfl) k2) (by omega)) (cwV 0 hts (jgoodV m_674 m_675 m_676 m_677 m_678) rfl rfl rfl (by decide +kernel) ⟨(Nat.le_of_ble_eq_true rfl), (Nat.le_of_ble_eq_true rfl)⟩) ⟨xP_blind, xrecv hK hP q0 rfl rfl, fun U hU hW => ⟨rfl, xP_of hU hW hP hK hD hX hS (fun _ h => h) hA⟩⟩ rfl rfl hl.1 rfl (lv_room (Nat.le_of_ble_eq_true rfl)) dX7_readComparison_6 ⟨(Nat.le_of_ble_eq_true rfl), (Nat.le_of_ble_eq_true rfl)⟩) hP hS hA (fun r_21 H locs w_22 hP hS => ?_)
  obtain ⟨z_23, rfl, h_24, h_25, h_26⟩ := w_22
  have b_27 : v_11 p0 6 = v p0 6 := (fr_use q0 f_12 rfl)
  refine lv_istore_n (i := 2) (lv' := [(2, .int (iI z_23)), (0, .ref p0.toNat), (1, .int (iI p1))]) hx hb dX7_readComparison_9 rfl hl (by decide) rfl (fun ls hl => ?_)
  refine lv_iload_n hx hb dX7_readComparison_10 rfl (lv_at hl 0 rfl) ?_
  refine lv_bipush (v := iI 60) hx hb dX7_readComparison_11 rfl ?_
  have J33 : ∀ (H : Heap) (locs : List Loc) (ls : Array Slot), (z_23 = 60 ∨ z_23 = 62 ∨ z_23 = 61) → va_P (dC, dI) vwCl (xG L cid K N v_11) H → va_D A (xG L cid K N v_11) → va_S A s.heap H locs → lv_has ls 3 [(2, .int (iI z_23)), (0, .ref p0.toNat), (1, .int (iI p1))] → W p l e ({ frames := 14, cells := 0, slots := 0, locals := 316 }) s m ([.ref p0.toNat, .int (iI p1)] : List Value).toArray below meth c H locs 0 0 Q (F0 m 33 ls []) := by
    intro H locs ls h_28 hP hD hS hl
    refine lv_aload_n hx hb dX7_readComparison_33 rfl (lv_at hl 1 rfl) ?_
    refine jcg_v (va_runV (As := []) (rest := []) ⟨hx, hb, hml, hown, hts⟩ (sX7_advance l dC dI _ L cid K N tW sK sV v_11 p0 I_13 q0 (by omega)) (cwV 0 hts (jgoodV m_692 m_693 m_694 m_677 m_695) rfl rfl rfl (by decide +kernel) ⟨(Nat.le_of_ble_eq_true rfl), (Nat.le_of_ble_eq_true rfl)⟩) ⟨xP_blind, xrecv hK hP q0 rfl rfl, fun U hU hW => ⟨rfl, xP_of hU hW hP hK hD hX hS (fun _ h => h) hA⟩⟩ rfl rfl hl.1 rfl (lv_room (Nat.le_of_ble_eq_true rfl)) dX7_readComparison_34 ⟨(Nat.le_of_ble_eq_true rfl), (Nat.le_of_ble_eq_true rfl)⟩) hD hS hA (fun v_33 H locs w_30 hP hK hD hS => ?_)
    obtain ⟨I_35, f_34, h_32⟩ := w_30
    have hP : va_P (dC, dI) vwCl (xG L cid K N v_33) H := hP
    have hD : va_D A (xG L cid K N v_33) := hD
    have h_36 : (-2147483648) ≤ v_33 p0 7 ∧ v_33 p0 7 ≤ 2147483647 := xf_7_7 I_35 q0
    have rp_37 : EP tT tN [1, 11] p1 (v p0 8) (v p0 7) (v_11 p0 8) (v_33 p0 7) [1] (p1) := EP_11y rp_17 (by omega) (by omega) (by omega)
    refine lv_aload_n hx hb dX7_readComparison_37 rfl (lv_at hl 1 rfl) ?_
    refine lv_iload_n hx hb dX7_readComparison_38 rfl (lv_at hl 2 rfl) ?_
    have b_38 : v_33 p0 6 = v p0 6 := (((fr_use q0 f_34 rfl)).trans (fr_use q0 f_12 rfl))
    refine jcg_v (va_runV (As := [.int (iI p1)]) (rest := []) ⟨hx, hb, hml, hown, hts⟩ (sX7_readSum_q5 l dC dI _ L cid K N tW sK sV v_33 tT tN p0 p1 I_35 q0 (by omega) (by omega) (tks_fr hI q0 (show fr K [(7, 7), (7, 8), (7, 10), (25, (-1))] v_33 v from (fr_tr f_34 rfl (fr_tr f_12 rfl fr_rf))) rfl rfl rfl rfl rfl rfl rfl (fun _ => rfl) (fun _ => rfl) (fun _ => rfl) (fun _ => rfl) (fun _ => rfl) k2) (by omega)) (cwV 1 hts (jgoodV m_704 m_705 m_706 m_677 m_707) rfl rfl rfl (by decide +kernel) ⟨(Nat.le_of_ble_eq_true rfl), (Nat.le_of_ble_eq_true rfl)⟩) ⟨xP_blind, xrecv hK hP q0 rfl rfl, fun U hU hW => ⟨rfl, xP_of hU hW hP hK hD hX hS (fun _ h => h) hA⟩⟩ rfl rfl hl.1 rfl (lv_room (Nat.le_of_ble_eq_true rfl)) dX7_readComparison_39 ⟨(Nat.le_of_ble_eq_true rfl), (Nat.le_of_ble_eq_true rfl)⟩) hD hS hA (fun v_46 H locs w_40 hP hK hD hS => ?_)
    obtain ⟨I_48, f_47, h_42, h_43, h_44, h_45⟩ := w_40
    have hP : va_P (dC, dI) vwCl (xG L cid K N v_46) H := hP
    have hD : va_D A (xG L cid K N v_46) := hD
    have b_49 : v_33 p0 6 = v p0 6 := (((fr_use q0 f_34 rfl)).trans (fr_use q0 f_12 rfl))
    have b_50 : v_33 p0 8 = v_11 p0 8 := (fr_use q0 f_34 rfl)
    have h_51 : (-2147483648) ≤ v_46 p0 8 ∧ v_46 p0 8 ≤ 2147483647 := xf_7_8 I_48 q0
    have h_52 : (-2147483648) ≤ v_46 p0 7 ∧ v_46 p0 7 ≤ 2147483647 := xf_7_7 I_48 q0
    rw [show v_33 p0 8 = v_11 p0 8 from (fr_use q0 f_34 rfl)] at h_42
    rw [show v_33 p0 8 = v_11 p0 8 from (fr_use q0 f_34 rfl)] at h_44
    rw [show v_33 p0 8 = v_11 p0 8 from (fr_use q0 f_34 rfl)] at h_45
    have rp_53 : EP tT tN [1, 11] p1 (v p0 8) (v p0 7) (v_46 p0 8) (v_46 p0 7) [] (p1) := EP_c rp_37 h_45 h_42
    have g_54 : v_11 p0 8 = -1 ∨ v_46 p0 8 = v_11 p0 8 := jF_o h_42
    have g_55 : v_11 p0 8 ≠ -1 ∨ v_46 p0 8 ≠ -1 ∨ v_33 p0 7 + 1 ≤ v_46 p0 7 := jF_3 h_44
    refine lv_aload_n hx hb dX7_readComparison_42 rfl (lv_at hl 1 rfl) ?_
    refine lv_iload_n hx hb dX7_readComparison_43 rfl (lv_at hl 0 rfl) ?_
    refine lv_bipush (v := iI 60) hx hb dX7_readComparison_44 rfl ?_
    have J67 : ∀ (s0_67 : Int) (H : Heap) (locs : List Loc) (ls : Array Slot), ((-17) ≤ s0_67 ∧ s0_67 ≤ (-15)) → va_P (dC, dI) vwCl (xG L cid K N v_46) H → va_D A (xG L cid K N v_46) → va_S A s.heap H locs → lv_has ls 3 [(2, .int (iI z_23)), (0, .ref p0.toNat), (1, .int (iI p1))] → W p l e ({ frames := 14, cells := 0, slots := 0, locals := 316 }) s m ([.ref p0.toNat, .int (iI p1)] : List Value).toArray below meth c H locs 0 0 Q (F0 m 67 ls [.int (iI s0_67), .ref p0.toNat]) := by
      intro s0_67 H locs ls h_56 hP hD hS hl
      refine jcg_v (va_runV (As := [.int (iI s0_67)]) (rest := []) ⟨hx, hb, hml, hown, hts⟩ (sX7_emit l dC dI _ L cid K N tW sK sV v_46 p0 s0_67 I_48 q0 (by omega)) (cwV 1 hts (jgoodV m_688 m_689 m_690 m_677 m_691) rfl rfl rfl (by decide +kernel) ⟨(Nat.le_of_ble_eq_true rfl), (Nat.le_of_ble_eq_true rfl)⟩) ⟨xP_blind, xrecv hK hP q0 rfl rfl, fun U hU hW => ⟨rfl, xP_of hU hW hP hK hD hX hS (fun _ h => h) hA⟩⟩ rfl rfl hl.1 rfl (lv_room (Nat.le_of_ble_eq_true rfl)) dX7_readComparison_67 ⟨(Nat.le_of_ble_eq_true rfl), (Nat.le_of_ble_eq_true rfl)⟩) hD hS hA (fun v_60 H locs w_58 hP hK hD hS => ?_)
      obtain ⟨I_62, f_61⟩ := w_58
      have hP : va_P (dC, dI) vwCl (xG L cid K N v_60) H := hP
      have hD : va_D A (xG L cid K N v_60) := hD
      have b_63 : v_60 p0 8 = v_46 p0 8 := (fr_use q0 f_61 rfl)
      have b_64 : v_60 p0 7 = v_46 p0 7 := (fr_use q0 f_61 rfl)
      rw [← hQ]
      exact W.vret hx hb hr (fun t ht hW => ⟨⟨v_60, rfl, ⟨I_62, (fr_tr f_61 rfl (fr_tr f_47 rfl (fr_tr f_34 rfl (fr_tr f_12 rfl fr_rf)))), by unfold jF; omega, by omega, by unfold jF; omega, by first | exact (by rw [show v_60 p0 8 = v_46 p0 8 from (fr_use q0 f_61 rfl), show v_60 p0 7 = v_46 p0 7 from (fr_use q0 f_61 rfl)]; exact rp_53) | exact EP_x (by omega)⟩, by rw [ht]; exact hP, va_K.moved hW.alike hK, hD⟩, hS.F ht⟩) hS.2.2 dX7_readComparison_70
    refine xr_icmp_ne (tgt := 54) hx hb dX7_readComparison_46 (by decide) (by omega) (by omega) (fun h_65 => ?_) (fun h_65 => ?_)
    · refine lv_iload_n hx hb dX7_readComparison_54 rfl (lv_at hl 0 rfl) ?_
      refine lv_bipush (v := iI 62) hx hb dX7_readComparison_55 rfl ?_
      refine xr_icmp_ne (tgt := 65) hx hb dX7_readComparison_57 (by decide) (by omega) (by omega) (fun h_66 => ?_) (fun h_66 => ?_)
      · refine lv_bipush (v := iI (-17)) hx hb dX7_readComparison_65 rfl ?_
        exact J67 (-17) H locs ls (by omega) hP hD hS hl
      · refine lv_bipush (v := iI (-16)) hx hb dX7_readComparison_60 rfl ?_
        refine lv_goto (tgt := 67) hx hb dX7_readComparison_62 (by decide) ?_
        exact J67 (-16) H locs ls (by omega) hP hD hS hl
    · refine lv_bipush (v := iI (-15)) hx hb dX7_readComparison_49 rfl ?_
      refine lv_goto (tgt := 67) hx hb dX7_readComparison_51 (by decide) ?_
      exact J67 (-15) H locs ls (by omega) hP hD hS hl
  refine xr_icmp_eq (tgt := 33) hx hb dX7_readComparison_13 (by decide) (by omega) (by omega) (fun h_67 => ?_) (fun h_67 => ?_)
  · exact J33 H locs ls (by omega) hP hD hS hl
  · refine lv_iload_n hx hb dX7_readComparison_16 rfl (lv_at hl 0 rfl) ?_
    refine lv_bipush (v := iI 62) hx hb dX7_readComparison_17 rfl ?_
    refine xr_icmp_eq (tgt := 33) hx hb dX7_readComparison_19 (by decide) (by omega) (by omega) (fun h_68 => ?_) (fun h_68 => ?_)
    · exact J33 H locs ls (by omega) hP hD hS hl
    · refine lv_iload_n hx hb dX7_readComparison_22 rfl (lv_at hl 0 rfl) ?_
      refine lv_bipush (v := iI 61) hx hb dX7_readComparison_23 rfl ?_
      refine xr_icmp_eq (tgt := 33) hx hb dX7_readComparison_25 (by decide) (by omega) (by omega) (fun h_69 => ?_) (fun h_69 => ?_)
      · exact J33 H locs ls (by omega) hP hD hS hl
      · refine lv_aload_n hx hb dX7_readComparison_28 rfl (lv_at hl 1 rfl) ?_
        have b_70 : v_11 p0 6 = v p0 6 := (fr_use q0 f_12 rfl)
        refine jcg_v (va_runV (As := []) (rest := []) ⟨hx, hb, hml, hown, hts⟩ (sX7_refuse l dC dI _ L cid K N tW sK sV v_11 tT tN p0 I_13 q0 (tks_fr hI q0 (show fr K [(7, 7), (7, 8), (7, 10), (25, (-1))] v_11 v from (fr_tr f_12 rfl fr_rf)) rfl rfl rfl rfl rfl rfl rfl (fun _ => rfl) (fun _ => rfl) (fun _ => rfl) (fun _ => rfl) (fun _ => rfl) k2) (by omega)) (cwV 0 hts (jgoodV m_683 m_684 m_685 m_677 m_686) rfl rfl rfl (by decide +kernel) ⟨(Nat.le_of_ble_eq_true rfl), (Nat.le_of_ble_eq_true rfl)⟩) ⟨xP_blind, xrecv hK hP q0 rfl rfl, fun U hU hW => ⟨rfl, xP_of hU hW hP hK hD hX hS (fun _ h => h) hA⟩⟩ rfl rfl hl.1 rfl (lv_room (Nat.le_of_ble_eq_true rfl)) dX7_readComparison_29 ⟨(Nat.le_of_ble_eq_true rfl), (Nat.le_of_ble_eq_true rfl)⟩) hD hS hA (fun v_75 H locs w_72 hP hK hD hS => ?_)
        obtain ⟨I_77, f_76, h_74⟩ := w_72
        have hP : va_P (dC, dI) vwCl (xG L cid K N v_75) H := hP
        have hD : va_D A (xG L cid K N v_75) := hD
        have b_78 : v_11 p0 6 = v p0 6 := (fr_use q0 f_12 rfl)
        have h_79 : (-2147483648) ≤ v_75 p0 8 ∧ v_75 p0 8 ≤ 2147483647 := xf_7_8 I_77 q0
        have rp_80 : EP tT tN [1, 11] p1 (v p0 8) (v p0 7) (v_75 p0 8) (v_11 p0 7) [] (p1) := EP_11b rp_17 (by omega) (by omega) (by omega) (by omega)
        have b_81 : v_75 p0 7 = v_11 p0 7 := (fr_use q0 f_76 rfl)
        rw [← hQ]
        exact W.vret hx hb hr (fun t ht hW => ⟨⟨v_75, rfl, ⟨I_77, (fr_tr f_76 rfl (fr_tr f_12 rfl fr_rf)), by unfold jF; omega, by omega, by unfold jF; omega, by first | exact (by rw [show v_75 p0 7 = v_11 p0 7 from (fr_use q0 f_76 rfl)]; exact rp_80) | exact EP_x (by omega)⟩, by rw [ht]; exact hP, va_K.moved hW.alike hK, hD⟩, hS.F ht⟩) hS.2.2 dX7_readComparison_32
