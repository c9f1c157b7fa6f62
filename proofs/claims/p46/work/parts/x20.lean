set_option maxHeartbeats 2000000 in
set_option maxRecDepth 100000 in
theorem sX7_readComparison_q3 (l : Launch) (dC : Nat → ClassId) (dI : Nat → Nat → Nat) (sz : Nat) (L : List Nat) (cid : Nat → ClassId) (K : Int → Nat) (N : Int → Int) (tW : Nat) (sK sV : Nat → Nat) (v : Int → Int → Int) (p0 : Int) (p1 : Int) (hI : xI L K N v) (q0 : ok L K p0 7) (q1 : rg p1) (k1 : 3 ≤ p1 ∧ p1 ≤ 3) : Met l yX7_readComparison (jk yX7_readComparison cX7_readComparison 3 none) ({ frames := 20, cells := 0, slots := 0, locals := 454 }) (va_Pc [.ref p0.toNat, .int (iI p1)] (xP (dC, dI) (xG L cid K N v) (xT cid) tW sK sV sz)) (va_Qv (fun (u : (Int → Int → Int)) => (xI L K N u) ∧ (fr K [(7, 7), (7, 8), (7, 10), (25, (-1))] u v)) (fun u t => va_P (dC, dI) vwCl (xG L cid K N u) t.heap ∧ va_K (dC, dI) vwCl (xT cid) t ∧ va_D (va_A (xG L cid K N v) sz) (xG L cid K N u)) (va_A (xG L cid K N v) sz)) 0 0 (va_A (xG L cid K N v) sz) := by
  refine Met.ofW (cc := cX7_readComparison) (maxL := 3) (ret := none) (by decide) rfl ?_
  intro p e s m args below meth c s₁ B hml hv
  obtain ⟨rfl, ⟨hsz, hP, hK, hD0⟩, hX⟩ := hv
  have hx := B.exec
  have hb := B.bytes
  have hr := B.returns
  have hts := atoms_spec (ws := (jk yX7_readComparison cX7_readComparison 3 none)) B.pre
  have hj : ∀ w ∈ jw, w.before ([.ref p0.toNat, .int (iI p1)] : List Value).toArray s = true := fun w h => hts w (jm h)
  have hown : s.vm.findClass RX7 = some m.cls := findClass_of_methodNamed B.named
  subst hsz
  have hD := hD0.self (sz := s.heap.size)
  generalize hAe : (va_A (xG L cid K N v) s.heap.size) = A at hD hX ⊢
  have hA : ∀ q : Nat, s.heap.size ≤ q → A q := fun q h => by rw [← hAe]; exact Or.inr h
  have hS : va_S A s.heap s.heap [] := va_S.rf
  have hXa := hX
  have hP : va_P (dC, dI) vwCl (xG L cid K N v) s.heap := hP
  have hl := lv_entry ([.ref p0.toNat, .int (iI p1)]) (n := 3) (Nat.le_of_ble_eq_true rfl)
  rw [lg_entry_eq]
  generalize (lg_sl ([.ref p0.toNat, .int (iI p1)]) ++ List.replicate (3 - (lg_sl ([.ref p0.toNat, .int (iI p1)])).length) Slot.unset).toArray = ls at hl ⊢
  have hl : lv_has ls 3 [(0, .ref p0.toNat), (1, .int (iI p1))] := hl
  generalize hQ : MQ below (va_Qv (fun (u : (Int → Int → Int)) => (xI L K N u) ∧ (fr K [(7, 7), (7, 8), (7, 10), (25, (-1))] u v)) (fun u t => va_P (dC, dI) vwCl (xG L cid K N u) t.heap ∧ va_K (dC, dI) vwCl (xT cid) t ∧ va_D A (xG L cid K N u)) A) ([.ref p0.toNat, .int (iI p1)] : List Value).toArray s 0 0 A = Q
  suffices ST : ∀ (H : Heap) (locs : List Loc), va_P (dC, dI) vwCl (xG L cid K N v) H → va_S A s.heap H locs → W p l e ({ frames := 20, cells := 0, slots := 0, locals := 454 }) s m ([.ref p0.toNat, .int (iI p1)] : List Value).toArray below meth c H locs 0 0 Q (F0 m 0 ls []) from ST _ _ hP hS
  clear hP hS
  intro H locs hP hS
  refine lv_aload_n hx hb dX7_readComparison_0 rfl (lv_at hl 0 rfl) ?_
  refine lv_iload_n hx hb dX7_readComparison_1 rfl (lv_at hl 1 rfl) ?_
  refine jcg_v (va_runV (As := [.int (iI p1)]) (rest := []) ⟨hx, hb, hml, hown, hts⟩ (sX7_readSum_q3 l dC dI _ L cid K N tW sK sV v p0 p1 hI q0 (by omega) (by omega)) (cwV 1 hts (jgoodV m_704 m_705 m_706 m_677 m_707) rfl rfl rfl (by decide +kernel) ⟨(Nat.le_of_ble_eq_true rfl), (Nat.le_of_ble_eq_true rfl)⟩) ⟨xP_blind, xrecv hK hP q0 rfl rfl, fun U hU hW => ⟨rfl, xP_of hU hW hP hK hD hX hS (fun _ h => h) hA⟩⟩ rfl rfl hl.1 rfl (lv_room (Nat.le_of_ble_eq_true rfl)) dX7_readComparison_2 ⟨(Nat.le_of_ble_eq_true rfl), (Nat.le_of_ble_eq_true rfl)⟩) hD hS hA (fun v_4 H locs w_2 hP hK hD hS => ?_)
  obtain ⟨I_6, f_5⟩ := w_2
  have hP : va_P (dC, dI) vwCl (xG L cid K N v_4) H := hP
  have hD : va_D A (xG L cid K N v_4) := hD
  refine lv_aload_n hx hb dX7_readComparison_5 rfl (lv_at hl 0 rfl) ?_
  refine jc_i (va_runV (As := []) (rest := []) ⟨hx, hb, hml, hown, hts⟩ (sX7_kind l dC dI _ L cid K N tW sK sV v_4 p0 I_6 q0) (cwV 0 hts (jgoodV m_674 m_675 m_676 m_677 m_678) rfl rfl rfl (by decide +kernel) ⟨(Nat.le_of_ble_eq_true rfl), (Nat.le_of_ble_eq_true rfl)⟩) ⟨xP_blind, xrecv hK hP q0 rfl rfl, fun U hU hW => ⟨rfl, xP_of hU hW hP hK hD hX hS (fun _ h => h) hA⟩⟩ rfl rfl hl.1 rfl (lv_room (Nat.le_of_ble_eq_true rfl)) dX7_readComparison_6 ⟨(Nat.le_of_ble_eq_true rfl), (Nat.le_of_ble_eq_true rfl)⟩) hP hS hA (fun r_7 H locs w_8 hP hS => ?_)
  obtain ⟨z_9, rfl, h_10, h_11⟩ := w_8
  have h_12 : (-2147483648) ≤ v_4 p0 7 ∧ v_4 p0 7 ≤ 2147483647 := xf_7_7 I_6 q0
  refine lv_istore_n (i := 2) (lv' := [(2, .int (iI z_9)), (0, .ref p0.toNat), (1, .int (iI p1))]) hx hb dX7_readComparison_9 rfl hl (by decide) rfl (fun ls hl => ?_)
  refine lv_iload_n hx hb dX7_readComparison_10 rfl (lv_at hl 0 rfl) ?_
  refine lv_bipush (v := iI 60) hx hb dX7_readComparison_11 rfl ?_
  have J33 : ∀ (H : Heap) (locs : List Loc) (ls : Array Slot), va_P (dC, dI) vwCl (xG L cid K N v_4) H → va_D A (xG L cid K N v_4) → va_S A s.heap H locs → lv_has ls 3 [(2, .int (iI z_9)), (0, .ref p0.toNat), (1, .int (iI p1))] → W p l e ({ frames := 20, cells := 0, slots := 0, locals := 454 }) s m ([.ref p0.toNat, .int (iI p1)] : List Value).toArray below meth c H locs 0 0 Q (F0 m 33 ls []) := by
    intro H locs ls hP hD hS hl
    refine lv_aload_n hx hb dX7_readComparison_33 rfl (lv_at hl 1 rfl) ?_
    refine jcg_v (va_runV (As := []) (rest := []) ⟨hx, hb, hml, hown, hts⟩ (sX7_advance l dC dI _ L cid K N tW sK sV v_4 p0 I_6 q0) (cwV 0 hts (jgoodV m_692 m_693 m_694 m_677 m_695) rfl rfl rfl (by decide +kernel) ⟨(Nat.le_of_ble_eq_true rfl), (Nat.le_of_ble_eq_true rfl)⟩) ⟨xP_blind, xrecv hK hP q0 rfl rfl, fun U hU hW => ⟨rfl, xP_of hU hW hP hK hD hX hS (fun _ h => h) hA⟩⟩ rfl rfl hl.1 rfl (lv_room (Nat.le_of_ble_eq_true rfl)) dX7_readComparison_34 ⟨(Nat.le_of_ble_eq_true rfl), (Nat.le_of_ble_eq_true rfl)⟩) hD hS hA (fun v_16 H locs w_14 hP hK hD hS => ?_)
    obtain ⟨I_18, f_17⟩ := w_14
    have hP : va_P (dC, dI) vwCl (xG L cid K N v_16) H := hP
    have hD : va_D A (xG L cid K N v_16) := hD
    refine lv_aload_n hx hb dX7_readComparison_37 rfl (lv_at hl 1 rfl) ?_
    refine lv_iload_n hx hb dX7_readComparison_38 rfl (lv_at hl 2 rfl) ?_
    refine jcg_v (va_runV (As := [.int (iI p1)]) (rest := []) ⟨hx, hb, hml, hown, hts⟩ (sX7_readSum_q3 l dC dI _ L cid K N tW sK sV v_16 p0 p1 I_18 q0 (by omega) (by omega)) (cwV 1 hts (jgoodV m_704 m_705 m_706 m_677 m_707) rfl rfl rfl (by decide +kernel) ⟨(Nat.le_of_ble_eq_true rfl), (Nat.le_of_ble_eq_true rfl)⟩) ⟨xP_blind, xrecv hK hP q0 rfl rfl, fun U hU hW => ⟨rfl, xP_of hU hW hP hK hD hX hS (fun _ h => h) hA⟩⟩ rfl rfl hl.1 rfl (lv_room (Nat.le_of_ble_eq_true rfl)) dX7_readComparison_39 ⟨(Nat.le_of_ble_eq_true rfl), (Nat.le_of_ble_eq_true rfl)⟩) hD hS hA (fun v_22 H locs w_20 hP hK hD hS => ?_)
    obtain ⟨I_24, f_23⟩ := w_20
    have hP : va_P (dC, dI) vwCl (xG L cid K N v_22) H := hP
    have hD : va_D A (xG L cid K N v_22) := hD
    refine lv_aload_n hx hb dX7_readComparison_42 rfl (lv_at hl 1 rfl) ?_
    refine lv_iload_n hx hb dX7_readComparison_43 rfl (lv_at hl 0 rfl) ?_
    refine lv_bipush (v := iI 60) hx hb dX7_readComparison_44 rfl ?_
    have J67 : ∀ (s0_67 : Int) (H : Heap) (locs : List Loc) (ls : Array Slot), ((-17) ≤ s0_67 ∧ s0_67 ≤ (-15)) → va_P (dC, dI) vwCl (xG L cid K N v_22) H → va_D A (xG L cid K N v_22) → va_S A s.heap H locs → lv_has ls 3 [(2, .int (iI z_9)), (0, .ref p0.toNat), (1, .int (iI p1))] → W p l e ({ frames := 20, cells := 0, slots := 0, locals := 454 }) s m ([.ref p0.toNat, .int (iI p1)] : List Value).toArray below meth c H locs 0 0 Q (F0 m 67 ls [.int (iI s0_67), .ref p0.toNat]) := by
      intro s0_67 H locs ls h_25 hP hD hS hl
      refine jcg_v (va_runV (As := [.int (iI s0_67)]) (rest := []) ⟨hx, hb, hml, hown, hts⟩ (sX7_emit l dC dI _ L cid K N tW sK sV v_22 p0 s0_67 I_24 q0 (by omega)) (cwV 1 hts (jgoodV m_688 m_689 m_690 m_677 m_691) rfl rfl rfl (by decide +kernel) ⟨(Nat.le_of_ble_eq_true rfl), (Nat.le_of_ble_eq_true rfl)⟩) ⟨xP_blind, xrecv hK hP q0 rfl rfl, fun U hU hW => ⟨rfl, xP_of hU hW hP hK hD hX hS (fun _ h => h) hA⟩⟩ rfl rfl hl.1 rfl (lv_room (Nat.le_of_ble_eq_true rfl)) dX7_readComparison_67 ⟨(Nat.le_of_ble_eq_true rfl), (Nat.le_of_ble_eq_true rfl)⟩) hD hS hA (fun v_29 H locs w_27 hP hK hD hS => ?_)
      obtain ⟨I_31, f_30⟩ := w_27
      have hP : va_P (dC, dI) vwCl (xG L cid K N v_29) H := hP
      have hD : va_D A (xG L cid K N v_29) := hD
      rw [← hQ]
      exact W.vret hx hb hr (fun t ht hW => ⟨⟨v_29, rfl, ⟨I_31, (fr_tr f_30 rfl (fr_tr f_23 rfl (fr_tr f_17 rfl (fr_tr f_5 rfl fr_rf))))⟩, by rw [ht]; exact hP, va_K.moved hW.alike hK, hD⟩, hS.F ht⟩) hS.2.2 dX7_readComparison_70
    refine xr_icmp_ne (tgt := 54) hx hb dX7_readComparison_46 (by decide) (by omega) (by omega) (fun h_32 => ?_) (fun h_32 => ?_)
    · refine lv_iload_n hx hb dX7_readComparison_54 rfl (lv_at hl 0 rfl) ?_
      refine lv_bipush (v := iI 62) hx hb dX7_readComparison_55 rfl ?_
      refine xr_icmp_ne (tgt := 65) hx hb dX7_readComparison_57 (by decide) (by omega) (by omega) (fun h_33 => ?_) (fun h_33 => ?_)
      · refine lv_bipush (v := iI (-17)) hx hb dX7_readComparison_65 rfl ?_
        exact J67 (-17) H locs ls (by omega) hP hD hS hl
      · refine lv_bipush (v := iI (-16)) hx hb dX7_readComparison_60 rfl ?_
        refine lv_goto (tgt := 67) hx hb dX7_readComparison_62 (by decide) ?_
        exact J67 (-16) H locs ls (by omega) hP hD hS hl
    · refine lv_bipush (v := iI (-15)) hx hb dX7_readComparison_49 rfl ?_
      refine lv_goto (tgt := 67) hx hb dX7_readComparison_51 (by decide) ?_
      exact J67 (-15) H locs ls (by omega) hP hD hS hl
  refine xr_icmp_eq (tgt := 33) hx hb dX7_readComparison_13 (by decide) (by omega) (by omega) (fun h_34 => ?_) (fun h_34 => ?_)
  · exact J33 H locs ls hP hD hS hl
  · refine lv_iload_n hx hb dX7_readComparison_16 rfl (lv_at hl 0 rfl) ?_
    refine lv_bipush (v := iI 62) hx hb dX7_readComparison_17 rfl ?_
    refine xr_icmp_eq (tgt := 33) hx hb dX7_readComparison_19 (by decide) (by omega) (by omega) (fun h_35 => ?_) (fun h_35 => ?_)
    · exact J33 H locs ls hP hD hS hl
    · refine lv_iload_n hx hb dX7_readComparison_22 rfl (lv_at hl 0 rfl) ?_
      refine lv_bipush (v := iI 61) hx hb dX7_readComparison_23 rfl ?_
      refine xr_icmp_eq (tgt := 33) hx hb dX7_readComparison_25 (by decide) (by omega) (by omega) (fun h_36 => ?_) (fun h_36 => ?_)
      · exact J33 H locs ls hP hD hS hl
      · refine lv_aload_n hx hb dX7_readComparison_28 rfl (lv_at hl 1 rfl) ?_
        refine jcg_v (va_runV (As := []) (rest := []) ⟨hx, hb, hml, hown, hts⟩ (sX7_refuse l dC dI _ L cid K N tW sK sV v_4 p0 I_6 q0) (cwV 0 hts (jgoodV m_683 m_684 m_685 m_677 m_686) rfl rfl rfl (by decide +kernel) ⟨(Nat.le_of_ble_eq_true rfl), (Nat.le_of_ble_eq_true rfl)⟩) ⟨xP_blind, xrecv hK hP q0 rfl rfl, fun U hU hW => ⟨rfl, xP_of hU hW hP hK hD hX hS (fun _ h => h) hA⟩⟩ rfl rfl hl.1 rfl (lv_room (Nat.le_of_ble_eq_true rfl)) dX7_readComparison_29 ⟨(Nat.le_of_ble_eq_true rfl), (Nat.le_of_ble_eq_true rfl)⟩) hD hS hA (fun v_40 H locs w_38 hP hK hD hS => ?_)
        obtain ⟨I_42, f_41⟩ := w_38
        have hP : va_P (dC, dI) vwCl (xG L cid K N v_40) H := hP
        have hD : va_D A (xG L cid K N v_40) := hD
        rw [← hQ]
        exact W.vret hx hb hr (fun t ht hW => ⟨⟨v_40, rfl, ⟨I_42, (fr_tr f_41 rfl (fr_tr f_5 rfl fr_rf))⟩, by rw [ht]; exact hP, va_K.moved hW.alike hK, hD⟩, hS.F ht⟩) hS.2.2 dX7_readComparison_32
set_option maxHeartbeats 2000000 in
set_option maxRecDepth 100000 in
theorem sX7_readComparison_q4 (l : Launch) (dC : Nat → ClassId) (dI : Nat → Nat → Nat) (sz : Nat) (L : List Nat) (cid : Nat → ClassId) (K : Int → Nat) (N : Int → Int) (tW : Nat) (sK sV : Nat → Nat) (v : Int → Int → Int) (p0 : Int) (p1 : Int) (hI : xI L K N v) (q0 : ok L K p0 7) (q1 : rg p1) (k1 : 4 ≤ p1 ∧ p1 ≤ 4) : Met l yX7_readComparison (jk yX7_readComparison cX7_readComparison 3 none) ({ frames := 17, cells := 0, slots := 0, locals := 385 }) (va_Pc [.ref p0.toNat, .int (iI p1)] (xP (dC, dI) (xG L cid K N v) (xT cid) tW sK sV sz)) (va_Qv (fun (u : (Int → Int → Int)) => (xI L K N u) ∧ (fr K [(7, 7), (7, 8), (7, 10), (25, (-1))] u v)) (fun u t => va_P (dC, dI) vwCl (xG L cid K N u) t.heap ∧ va_K (dC, dI) vwCl (xT cid) t ∧ va_D (va_A (xG L cid K N v) sz) (xG L cid K N u)) (va_A (xG L cid K N v) sz)) 0 0 (va_A (xG L cid K N v) sz) := by
  refine Met.ofW (cc := cX7_readComparison) (maxL := 3) (ret := none) (by decide) rfl ?_
  intro p e s m args below meth c s₁ B hml hv
  obtain ⟨rfl, ⟨hsz, hP, hK, hD0⟩, hX⟩ := hv
  have hx := B.exec
  have hb := B.bytes
  have hr := B.returns
  have hts := atoms_spec (ws := (jk yX7_readComparison cX7_readComparison 3 none)) B.pre
  have hj : ∀ w ∈ jw, w.before ([.ref p0.toNat, .int (iI p1)] : List Value).toArray s = true := fun w h => hts w (jm h)
  have hown : s.vm.findClass RX7 = some m.cls := findClass_of_methodNamed B.named
  subst hsz
  have hD := hD0.self (sz := s.heap.size)
  generalize hAe : (va_A (xG L cid K N v) s.heap.size) = A at hD hX ⊢
  have hA : ∀ q : Nat, s.heap.size ≤ q → A q := fun q h => by rw [← hAe]; exact Or.inr h
  have hS : va_S A s.heap s.heap [] := va_S.rf
  have hXa := hX
  have hP : va_P (dC, dI) vwCl (xG L cid K N v) s.heap := hP
  have hl := lv_entry ([.ref p0.toNat, .int (iI p1)]) (n := 3) (Nat.le_of_ble_eq_true rfl)
  rw [lg_entry_eq]
  generalize (lg_sl ([.ref p0.toNat, .int (iI p1)]) ++ List.replicate (3 - (lg_sl ([.ref p0.toNat, .int (iI p1)])).length) Slot.unset).toArray = ls at hl ⊢
  have hl : lv_has ls 3 [(0, .ref p0.toNat), (1, .int (iI p1))] := hl
  generalize hQ : MQ below (va_Qv (fun (u : (Int → Int → Int)) => (xI L K N u) ∧ (fr K [(7, 7), (7, 8), (7, 10), (25, (-1))] u v)) (fun u t => va_P (dC, dI) vwCl (xG L cid K N u) t.heap ∧ va_K (dC, dI) vwCl (xT cid) t ∧ va_D A (xG L cid K N u)) A) ([.ref p0.toNat, .int (iI p1)] : List Value).toArray s 0 0 A = Q
  suffices ST : ∀ (H : Heap) (locs : List Loc), va_P (dC, dI) vwCl (xG L cid K N v) H → va_S A s.heap H locs → W p l e ({ frames := 17, cells := 0, slots := 0, locals := 385 }) s m ([.ref p0.toNat, .int (iI p1)] : List Value).toArray below meth c H locs 0 0 Q (F0 m 0 ls []) from ST _ _ hP hS
  clear hP hS
  intro H locs hP hS
  refine lv_aload_n hx hb dX7_readComparison_0 rfl (lv_at hl 0 rfl) ?_
  refine lv_iload_n hx hb dX7_readComparison_1 rfl (lv_at hl 1 rfl) ?_
  refine jcg_v (va_runV (As := [.int (iI p1)]) (rest := []) ⟨hx, hb, hml, hown, hts⟩ (sX7_readSum_q4 l dC dI _ L cid K N tW sK sV v p0 p1 hI q0 (by omega) (by omega)) (cwV 1 hts (jgoodV m_704 m_705 m_706 m_677 m_707) rfl rfl rfl (by decide +kernel) ⟨(Nat.le_of_ble_eq_true rfl), (Nat.le_of_ble_eq_true rfl)⟩) ⟨xP_blind, xrecv hK hP q0 rfl rfl, fun U hU hW => ⟨rfl, xP_of hU hW hP hK hD hX hS (fun _ h => h) hA⟩⟩ rfl rfl hl.1 rfl (lv_room (Nat.le_of_ble_eq_true rfl)) dX7_readComparison_2 ⟨(Nat.le_of_ble_eq_true rfl), (Nat.le_of_ble_eq_true rfl)⟩) hD hS hA (fun v_4 H locs w_2 hP hK hD hS => ?_)
  obtain ⟨I_6, f_5⟩ := w_2
  have hP : va_P (dC, dI) vwCl (xG L cid K N v_4) H := hP
  have hD : va_D A (xG L cid K N v_4) := hD
  refine lv_aload_n hx hb dX7_readComparison_5 rfl (lv_at hl 0 rfl) ?_
  refine jc_i (va_runV (As := []) (rest := []) ⟨hx, hb, hml, hown, hts⟩ (sX7_kind l dC dI _ L cid K N tW sK sV v_4 p0 I_6 q0) (cwV 0 hts (jgoodV m_674 m_675 m_676 m_677 m_678) rfl rfl rfl (by decide +kernel) ⟨(Nat.le_of_ble_eq_true rfl), (Nat.le_of_ble_eq_true rfl)⟩) ⟨xP_blind, xrecv hK hP q0 rfl rfl, fun U hU hW => ⟨rfl, xP_of hU hW hP hK hD hX hS (fun _ h => h) hA⟩⟩ rfl rfl hl.1 rfl (lv_room (Nat.le_of_ble_eq_true rfl)) dX7_readComparison_6 ⟨(Nat.le_of_ble_eq_true rfl), (Nat.le_of_ble_eq_true rfl)⟩) hP hS hA (fun r_7 H locs w_8 hP hS => ?_)
  obtain ⟨z_9, rfl, h_10, h_11⟩ := w_8
  have h_12 : (-2147483648) ≤ v_4 p0 7 ∧ v_4 p0 7 ≤ 2147483647 := xf_7_7 I_6 q0
  refine lv_istore_n (i := 2) (lv' := [(2, .int (iI z_9)), (0, .ref p0.toNat), (1, .int (iI p1))]) hx hb dX7_readComparison_9 rfl hl (by decide) rfl (fun ls hl => ?_)
  refine lv_iload_n hx hb dX7_readComparison_10 rfl (lv_at hl 0 rfl) ?_
  refine lv_bipush (v := iI 60) hx hb dX7_readComparison_11 rfl ?_
  have J33 : ∀ (H : Heap) (locs : List Loc) (ls : Array Slot), va_P (dC, dI) vwCl (xG L cid K N v_4) H → va_D A (xG L cid K N v_4) → va_S A s.heap H locs → lv_has ls 3 [(2, .int (iI z_9)), (0, .ref p0.toNat), (1, .int (iI p1))] → W p l e ({ frames := 17, cells := 0, slots := 0, locals := 385 }) s m ([.ref p0.toNat, .int (iI p1)] : List Value).toArray below meth c H locs 0 0 Q (F0 m 33 ls []) := by
    intro H locs ls hP hD hS hl
    refine lv_aload_n hx hb dX7_readComparison_33 rfl (lv_at hl 1 rfl) ?_
    refine jcg_v (va_runV (As := []) (rest := []) ⟨hx, hb, hml, hown, hts⟩ (sX7_advance l dC dI _ L cid K N tW sK sV v_4 p0 I_6 q0) (cwV 0 hts (jgoodV m_692 m_693 m_694 m_677 m_695) rfl rfl rfl (by decide +kernel) ⟨(Nat.le_of_ble_eq_true rfl), (Nat.le_of_ble_eq_true rfl)⟩) ⟨xP_blind, xrecv hK hP q0 rfl rfl, fun U hU hW => ⟨rfl, xP_of hU hW hP hK hD hX hS (fun _ h => h) hA⟩⟩ rfl rfl hl.1 rfl (lv_room (Nat.le_of_ble_eq_true rfl)) dX7_readComparison_34 ⟨(Nat.le_of_ble_eq_true rfl), (Nat.le_of_ble_eq_true rfl)⟩) hD hS hA (fun v_16 H locs w_14 hP hK hD hS => ?_)
    obtain ⟨I_18, f_17⟩ := w_14
    have hP : va_P (dC, dI) vwCl (xG L cid K N v_16) H := hP
    have hD : va_D A (xG L cid K N v_16) := hD
    refine lv_aload_n hx hb dX7_readComparison_37 rfl (lv_at hl 1 rfl) ?_
    refine lv_iload_n hx hb dX7_readComparison_38 rfl (lv_at hl 2 rfl) ?_
    refine jcg_v (va_runV (As := [.int (iI p1)]) (rest := []) ⟨hx, hb, hml, hown, hts⟩ (sX7_readSum_q4 l dC dI _ L cid K N tW sK sV v_16 p0 p1 I_18 q0 (by omega) (by omega)) (cwV 1 hts (jgoodV m_704 m_705 m_706 m_677 m_707) rfl rfl rfl (by decide +kernel) ⟨(Nat.le_of_ble_eq_true rfl), (Nat.le_of_ble_eq_true rfl)⟩) ⟨xP_blind, xrecv hK hP q0 rfl rfl, fun U hU hW => ⟨rfl, xP_of hU hW hP hK hD hX hS (fun _ h => h) hA⟩⟩ rfl rfl hl.1 rfl (lv_room (Nat.le_of_ble_eq_true rfl)) dX7_readComparison_39 ⟨(Nat.le_of_ble_eq_true rfl), (Nat.le_of_ble_eq_true rfl)⟩) hD hS hA (fun v_22 H locs w_20 hP hK hD hS => ?_)
    obtain ⟨I_24, f_23⟩ := w_20
    have hP : va_P (dC, dI) vwCl (xG L cid K N v_22) H := hP
    have hD : va_D A (xG L cid K N v_22) := hD
    refine lv_aload_n hx hb dX7_readComparison_42 rfl (lv_at hl 1 rfl) ?_
    refine lv_iload_n hx hb dX7_readComparison_43 rfl (lv_at hl 0 rfl) ?_
    refine lv_bipush (v := iI 60) hx hb dX7_readComparison_44 rfl ?_
    have J67 : ∀ (s0_67 : Int) (H : Heap) (locs : List Loc) (ls : Array Slot), ((-17) ≤ s0_67 ∧ s0_67 ≤ (-15)) → va_P (dC, dI) vwCl (xG L cid K N v_22) H → va_D A (xG L cid K N v_22) → va_S A s.heap H locs → lv_has ls 3 [(2, .int (iI z_9)), (0, .ref p0.toNat), (1, .int (iI p1))] → W p l e ({ frames := 17, cells := 0, slots := 0, locals := 385 }) s m ([.ref p0.toNat, .int (iI p1)] : List Value).toArray below meth c H locs 0 0 Q (F0 m 67 ls [.int (iI s0_67), .ref p0.toNat]) := by
      intro s0_67 H locs ls h_25 hP hD hS hl
      refine jcg_v (va_runV (As := [.int (iI s0_67)]) (rest := []) ⟨hx, hb, hml, hown, hts⟩ (sX7_emit l dC dI _ L cid K N tW sK sV v_22 p0 s0_67 I_24 q0 (by omega)) (cwV 1 hts (jgoodV m_688 m_689 m_690 m_677 m_691) rfl rfl rfl (by decide +kernel) ⟨(Nat.le_of_ble_eq_true rfl), (Nat.le_of_ble_eq_true rfl)⟩) ⟨xP_blind, xrecv hK hP q0 rfl rfl, fun U hU hW => ⟨rfl, xP_of hU hW hP hK hD hX hS (fun _ h => h) hA⟩⟩ rfl rfl hl.1 rfl (lv_room (Nat.le_of_ble_eq_true rfl)) dX7_readComparison_67 ⟨(Nat.le_of_ble_eq_true rfl), (Nat.le_of_ble_eq_true rfl)⟩) hD hS hA (fun v_29 H locs w_27 hP hK hD hS => ?_)
      obtain ⟨I_31, f_30⟩ := w_27
      have hP : va_P (dC, dI) vwCl (xG L cid K N v_29) H := hP
      have hD : va_D A (xG L cid K N v_29) := hD
      rw [← hQ]
      exact W.vret hx hb hr (fun t ht hW => ⟨⟨v_29, rfl, ⟨I_31, (fr_tr f_30 rfl (fr_tr f_23 rfl (fr_tr f_17 rfl (fr_tr f_5 rfl fr_rf))))⟩, by rw [ht]; exact hP, va_K.moved hW.alike hK, hD⟩, hS.F ht⟩) hS.2.2 dX7_readComparison_70
    refine xr_icmp_ne (tgt := 54) hx hb dX7_readComparison_46 (by decide) (by omega) (by omega) (fun h_32 => ?_) (fun h_32 => ?_)
    · refine lv_iload_n hx hb dX7_readComparison_54 rfl (lv_at hl 0 rfl) ?_
      refine lv_bipush (v := iI 62) hx hb dX7_readComparison_55 rfl ?_
      refine xr_icmp_ne (tgt := 65) hx hb dX7_readComparison_57 (by decide) (by omega) (by omega) (fun h_33 => ?_) (fun h_33 => ?_)
      · refine lv_bipush (v := iI (-17)) hx hb dX7_readComparison_65 rfl ?_
        exact J67 (-17) H locs ls (by omega) hP hD hS hl
      · refine lv_bipush (v := iI (-16)) hx hb dX7_readComparison_60 rfl ?_
        refine lv_goto (tgt := 67) hx hb dX7_readComparison_62 (by decide) ?_
        exact J67 (-16) H locs ls (by omega) hP hD hS hl
    · refine lv_bipush (v := iI (-15)) hx hb dX7_readComparison_49 rfl ?_
      refine lv_goto (tgt := 67) hx hb dX7_readComparison_51 (by decide) ?_
      exact J67 (-15) H locs ls (by omega) hP hD hS hl
  refine xr_icmp_eq (tgt := 33) hx hb dX7_readComparison_13 (by decide) (by omega) (by omega) (fun h_34 => ?_) (fun h_34 => ?_)
  · exact J33 H locs ls hP hD hS hl
  · refine lv_iload_n hx hb dX7_readComparison_16 rfl (lv_at hl 0 rfl) ?_
    refine lv_bipush (v := iI 62) hx hb dX7_readComparison_17 rfl ?_
    refine xr_icmp_eq (tgt := 33) hx hb dX7_readComparison_19 (by decide) (by omega) (by omega) (fun h_35 => ?_) (fun h_35 => ?_)
    · exact J33 H locs ls hP hD hS hl
    · refine lv_iload_n hx hb dX7_readComparison_22 rfl (lv_at hl 0 rfl) ?_
      refine lv_bipush (v := iI 61) hx hb dX7_readComparison_23 rfl ?_
      refine xr_icmp_eq (tgt := 33) hx hb dX7_readComparison_25 (by decide) (by omega) (by omega) (fun h_36 => ?_) (fun h_36 => ?_)
      · exact J33 H locs ls hP hD hS hl
      · refine lv_aload_n hx hb dX7_readComparison_28 rfl (lv_at hl 1 rfl) ?_
        refine jcg_v (va_runV (As := []) (rest := []) ⟨hx, hb, hml, hown, hts⟩ (sX7_refuse l dC dI _ L cid K N tW sK sV v_4 p0 I_6 q0) (cwV 0 hts (jgoodV m_683 m_684 m_685 m_677 m_686) rfl rfl rfl (by decide +kernel) ⟨(Nat.le_of_ble_eq_true rfl), (Nat.le_of_ble_eq_true rfl)⟩) ⟨xP_blind, xrecv hK hP q0 rfl rfl, fun U hU hW => ⟨rfl, xP_of hU hW hP hK hD hX hS (fun _ h => h) hA⟩⟩ rfl rfl hl.1 rfl (lv_room (Nat.le_of_ble_eq_true rfl)) dX7_readComparison_29 ⟨(Nat.le_of_ble_eq_true rfl), (Nat.le_of_ble_eq_true rfl)⟩) hD hS hA (fun v_40 H locs w_38 hP hK hD hS => ?_)
        obtain ⟨I_42, f_41⟩ := w_38
        have hP : va_P (dC, dI) vwCl (xG L cid K N v_40) H := hP
        have hD : va_D A (xG L cid K N v_40) := hD
        rw [← hQ]
        exact W.vret hx hb hr (fun t ht hW => ⟨⟨v_40, rfl, ⟨I_42, (fr_tr f_41 rfl (fr_tr f_5 rfl fr_rf))⟩, by rw [ht]; exact hP, va_K.moved hW.alike hK, hD⟩, hS.F ht⟩) hS.2.2 dX7_readComparison_32
set_option maxHeartbeats 2000000 in
set_option maxRecDepth 100000 in
theorem sX7_readComparison_q5 (l : Launch) (dC : Nat → ClassId) (dI : Nat → Nat → Nat) (sz : Nat) (L : List Nat) (cid : Nat → ClassId) (K : Int → Nat) (N : Int → Int) (tW : Nat) (sK sV : Nat → Nat) (v : Int → Int → Int) (p0 : Int) (p1 : Int) (hI : xI L K N v) (q0 : ok L K p0 7) (q1 : rg p1) (k1 : 5 ≤ p1 ∧ p1 ≤ 5) : Met l yX7_readComparison (jk yX7_readComparison cX7_readComparison 3 none) ({ frames := 14, cells := 0, slots := 0, locals := 316 }) (va_Pc [.ref p0.toNat, .int (iI p1)] (xP (dC, dI) (xG L cid K N v) (xT cid) tW sK sV sz)) (va_Qv (fun (u : (Int → Int → Int)) => (xI L K N u) ∧ (fr K [(7, 7), (7, 8), (7, 10), (25, (-1))] u v)) (fun u t => va_P (dC, dI) vwCl (xG L cid K N u) t.heap ∧ va_K (dC, dI) vwCl (xT cid) t ∧ va_D (va_A (xG L cid K N v) sz) (xG L cid K N u)) (va_A (xG L cid K N v) sz)) 0 0 (va_A (xG L cid K N v) sz) := by
  refine Met.ofW (cc := cX7_readComparison) (maxL := 3) (ret := none) (by decide) rfl ?_
  intro p e s m args below meth c s₁ B hml hv
  obtain ⟨rfl, ⟨hsz, hP, hK, hD0⟩, hX⟩ := hv
  have hx := B.exec
  have hb := B.bytes
  have hr := B.returns
  have hts := atoms_spec (ws := (jk yX7_readComparison cX7_readComparison 3 none)) B.pre
  have hj : ∀ w ∈ jw, w.before ([.ref p0.toNat, .int (iI p1)] : List Value).toArray s = true := fun w h => hts w (jm h)
  have hown : s.vm.findClass RX7 = some m.cls := findClass_of_methodNamed B.named
  subst hsz
  have hD := hD0.self (sz := s.heap.size)
  generalize hAe : (va_A (xG L cid K N v) s.heap.size) = A at hD hX ⊢
  have hA : ∀ q : Nat, s.heap.size ≤ q → A q := fun q h => by rw [← hAe]; exact Or.inr h
  have hS : va_S A s.heap s.heap [] := va_S.rf
  have hXa := hX
  have hP : va_P (dC, dI) vwCl (xG L cid K N v) s.heap := hP
  have hl := lv_entry ([.ref p0.toNat, .int (iI p1)]) (n := 3) (Nat.le_of_ble_eq_true rfl)
  rw [lg_entry_eq]
  generalize (lg_sl ([.ref p0.toNat, .int (iI p1)]) ++ List.replicate (3 - (lg_sl ([.ref p0.toNat, .int (iI p1)])).length) Slot.unset).toArray = ls at hl ⊢
  have hl : lv_has ls 3 [(0, .ref p0.toNat), (1, .int (iI p1))] := hl
  generalize hQ : MQ below (va_Qv (fun (u : (Int → Int → Int)) => (xI L K N u) ∧ (fr K [(7, 7), (7, 8), (7, 10), (25, (-1))] u v)) (fun u t => va_P (dC, dI) vwCl (xG L cid K N u) t.heap ∧ va_K (dC, dI) vwCl (xT cid) t ∧ va_D A (xG L cid K N u)) A) ([.ref p0.toNat, .int (iI p1)] : List Value).toArray s 0 0 A = Q
  suffices ST : ∀ (H : Heap) (locs : List Loc), va_P (dC, dI) vwCl (xG L cid K N v) H → va_S A s.heap H locs → W p l e ({ frames := 14, cells := 0, slots := 0, locals := 316 }) s m ([.ref p0.toNat, .int (iI p1)] : List Value).toArray below meth c H locs 0 0 Q (F0 m 0 ls []) from ST _ _ hP hS
  clear hP hS
  intro H locs hP hS
  refine lv_aload_n hx hb dX7_readComparison_0 rfl (lv_at hl 0 rfl) ?_
  refine lv_iload_n hx hb dX7_readComparison_1 rfl (lv_at hl 1 rfl) ?_
  refine jcg_v (va_runV (As := [.int (iI p1)]) (rest := []) ⟨hx, hb, hml, hown, hts⟩ (sX7_readSum_q5 l dC dI _ L cid K N tW sK sV v p0 p1 hI q0 (by omega) (by omega)) (cwV 1 hts (jgoodV m_704 m_705 m_706 m_677 m_707) rfl rfl rfl (by decide +kernel) ⟨(Nat.le_of_ble_eq_true rfl), (Nat.le_of_ble_eq_true rfl)⟩) ⟨xP_blind, xrecv hK hP q0 rfl rfl, fun U hU hW => ⟨rfl, xP_of hU hW hP hK hD hX hS (fun _ h => h) hA⟩⟩ rfl rfl hl.1 rfl (lv_room (Nat.le_of_ble_eq_true rfl)) dX7_readComparison_2 ⟨(Nat.le_of_ble_eq_true rfl), (Nat.le_of_ble_eq_true rfl)⟩) hD hS hA (fun v_4 H locs w_2 hP hK hD hS => ?_)
  obtain ⟨I_6, f_5⟩ := w_2
  have hP : va_P (dC, dI) vwCl (xG L cid K N v_4) H := hP
  have hD : va_D A (xG L cid K N v_4) := hD
  refine lv_aload_n hx hb dX7_readComparison_5 rfl (lv_at hl 0 rfl) ?_
  refine jc_i (va_runV (As := []) (rest := []) ⟨hx, hb, hml, hown, hts⟩ (sX7_kind l dC dI _ L cid K N tW sK sV v_4 p0 I_6 q0) (cwV 0 hts (jgoodV m_674 m_675 m_676 m_677 m_678) rfl rfl rfl (by decide +kernel) ⟨(Nat.le_of_ble_eq_true rfl), (Nat.le_of_ble_eq_true rfl)⟩) ⟨xP_blind, xrecv hK hP q0 rfl rfl, fun U hU hW => ⟨rfl, xP_of hU hW hP hK hD hX hS (fun _ h => h) hA⟩⟩ rfl rfl hl.1 rfl (lv_room (Nat.le_of_ble_eq_true rfl)) dX7_readComparison_6 ⟨(Nat.le_of_ble_eq_true rfl), (Nat.le_of_ble_eq_true rfl)⟩) hP hS hA (fun r_7 H locs w_8 hP hS => ?_)
  obtain ⟨z_9, rfl, h_10, h_11⟩ := w_8
  have h_12 : (-2147483648) ≤ v_4 p0 7 ∧ v_4 p0 7 ≤ 2147483647 := xf_7_7 I_6 q0
  refine lv_istore_n (i := 2) (lv' := [(2, .int (iI z_9)), (0, .ref p0.toNat), (1, .int (iI p1))]) hx hb dX7_readComparison_9 rfl hl (by decide) rfl (fun ls hl => ?_)
  refine lv_iload_n hx hb dX7_readComparison_10 rfl (lv_at hl 0 rfl) ?_
  refine lv_bipush (v := iI 60) hx hb dX7_readComparison_11 rfl ?_
  have J33 : ∀ (H : Heap) (locs : List Loc) (ls : Array Slot), va_P (dC, dI) vwCl (xG L cid K N v_4) H → va_D A (xG L cid K N v_4) → va_S A s.heap H locs → lv_has ls 3 [(2, .int (iI z_9)), (0, .ref p0.toNat), (1, .int (iI p1))] → W p l e ({ frames := 14, cells := 0, slots := 0, locals := 316 }) s m ([.ref p0.toNat, .int (iI p1)] : List Value).toArray below meth c H locs 0 0 Q (F0 m 33 ls []) := by
    intro H locs ls hP hD hS hl
    refine lv_aload_n hx hb dX7_readComparison_33 rfl (lv_at hl 1 rfl) ?_
    refine jcg_v (va_runV (As := []) (rest := []) ⟨hx, hb, hml, hown, hts⟩ (sX7_advance l dC dI _ L cid K N tW sK sV v_4 p0 I_6 q0) (cwV 0 hts (jgoodV m_692 m_693 m_694 m_677 m_695) rfl rfl rfl (by decide +kernel) ⟨(Nat.le_of_ble_eq_true rfl), (Nat.le_of_ble_eq_true rfl)⟩) ⟨xP_blind, xrecv hK hP q0 rfl rfl, fun U hU hW => ⟨rfl, xP_of hU hW hP hK hD hX hS (fun _ h => h) hA⟩⟩ rfl rfl hl.1 rfl (lv_room (Nat.le_of_ble_eq_true rfl)) dX7_readComparison_34 ⟨(Nat.le_of_ble_eq_true rfl), (Nat.le_of_ble_eq_true rfl)⟩) hD hS hA (fun v_16 H locs w_14 hP hK hD hS => ?_)
    obtain ⟨I_18, f_17⟩ := w_14
    have hP : va_P (dC, dI) vwCl (xG L cid K N v_16) H := hP
    have hD : va_D A (xG L cid K N v_16) := hD
    refine lv_aload_n hx hb dX7_readComparison_37 rfl (lv_at hl 1 rfl) ?_
    refine lv_iload_n hx hb dX7_readComparison_38 rfl (lv_at hl 2 rfl) ?_
    refine jcg_v (va_runV (As := [.int (iI p1)]) (rest := []) ⟨hx, hb, hml, hown, hts⟩ (sX7_readSum_q5 l dC dI _ L cid K N tW sK sV v_16 p0 p1 I_18 q0 (by omega) (by omega)) (cwV 1 hts (jgoodV m_704 m_705 m_706 m_677 m_707) rfl rfl rfl (by decide +kernel) ⟨(Nat.le_of_ble_eq_true rfl), (Nat.le_of_ble_eq_true rfl)⟩) ⟨xP_blind, xrecv hK hP q0 rfl rfl, fun U hU hW => ⟨rfl, xP_of hU hW hP hK hD hX hS (fun _ h => h) hA⟩⟩ rfl rfl hl.1 rfl (lv_room (Nat.le_of_ble_eq_true rfl)) dX7_readComparison_39 ⟨(Nat.le_of_ble_eq_true rfl), (Nat.le_of_ble_eq_true rfl)⟩) hD hS hA (fun v_22 H locs w_20 hP hK hD hS => ?_)
    obtain ⟨I_24, f_23⟩ := w_20
    have hP : va_P (dC, dI) vwCl (xG L cid K N v_22) H := hP
    have hD : va_D A (xG L cid K N v_22) := hD
    refine lv_aload_n hx hb dX7_readComparison_42 rfl (lv_at hl 1 rfl) ?_
    refine lv_iload_n hx hb dX7_readComparison_43 rfl (lv_at hl 0 rfl) ?_
    refine lv_bipush (v := iI 60) hx hb dX7_readComparison_44 rfl ?_
    have J67 : ∀ (s0_67 : Int) (H : Heap) (locs : List Loc) (ls : Array Slot), ((-17) ≤ s0_67 ∧ s0_67 ≤ (-15)) → va_P (dC, dI) vwCl (xG L cid K N v_22) H → va_D A (xG L cid K N v_22) → va_S A s.heap H locs → lv_has ls 3 [(2, .int (iI z_9)), (0, .ref p0.toNat), (1, .int (iI p1))] → W p l e ({ frames := 14, cells := 0, slots := 0, locals := 316 }) s m ([.ref p0.toNat, .int (iI p1)] : List Value).toArray below meth c H locs 0 0 Q (F0 m 67 ls [.int (iI s0_67), .ref p0.toNat]) := by
      intro s0_67 H locs ls h_25 hP hD hS hl
      refine jcg_v (va_runV (As := [.int (iI s0_67)]) (rest := []) ⟨hx, hb, hml, hown, hts⟩ (sX7_emit l dC dI _ L cid K N tW sK sV v_22 p0 s0_67 I_24 q0 (by omega)) (cwV 1 hts (jgoodV m_688 m_689 m_690 m_677 m_691) rfl rfl rfl (by decide +kernel) ⟨(Nat.le_of_ble_eq_true rfl), (Nat.le_of_ble_eq_true rfl)⟩) ⟨xP_blind, xrecv hK hP q0 rfl rfl, fun U hU hW => ⟨rfl, xP_of hU hW hP hK hD hX hS (fun _ h => h) hA⟩⟩ rfl rfl hl.1 rfl (lv_room (Nat.le_of_ble_eq_true rfl)) dX7_readComparison_67 ⟨(Nat.le_of_ble_eq_true rfl), (Nat.le_of_ble_eq_true rfl)⟩) hD hS hA (fun v_29 H locs w_27 hP hK hD hS => ?_)
      obtain ⟨I_31, f_30⟩ := w_27
      have hP : va_P (dC, dI) vwCl (xG L cid K N v_29) H := hP
      have hD : va_D A (xG L cid K N v_29) := hD
      rw [← hQ]
      exact W.vret hx hb hr (fun t ht hW => ⟨⟨v_29, rfl, ⟨I_31, (fr_tr f_30 rfl (fr_tr f_23 rfl (fr_tr f_17 rfl (fr_tr f_5 rfl fr_rf))))⟩, by rw [ht]; exact hP, va_K.moved hW.alike hK, hD⟩, hS.F ht⟩) hS.2.2 dX7_readComparison_70
    refine xr_icmp_ne (tgt := 54) hx hb dX7_readComparison_46 (by decide) (by omega) (by omega) (fun h_32 => ?_) (fun h_32 => ?_)
    · refine lv_iload_n hx hb dX7_readComparison_54 rfl (lv_at hl 0 rfl) ?_
      refine lv_bipush (v := iI 62) hx hb dX7_readComparison_55 rfl ?_
      refine xr_icmp_ne (tgt := 65) hx hb dX7_readComparison_57 (by decide) (by omega) (by omega) (fun h_33 => ?_) (fun h_33 => ?_)
      · refine lv_bipush (v := iI (-17)) hx hb dX7_readComparison_65 rfl ?_
        exact J67 (-17) H locs ls (by omega) hP hD hS hl
      · refine lv_bipush (v := iI (-16)) hx hb dX7_readComparison_60 rfl ?_
        refine lv_goto (tgt := 67) hx hb dX7_readComparison_62 (by decide) ?_
        exact J67 (-16) H locs ls (by omega) hP hD hS hl
    · refine lv_bipush (v := iI (-15)) hx hb dX7_readComparison_49 rfl ?_
      refine lv_goto (tgt := 67) hx hb dX7_readComparison_51 (by decide) ?_
      exact J67 (-15) H locs ls (by omega) hP hD hS hl
  refine xr_icmp_eq (tgt := 33) hx hb dX7_readComparison_13 (by decide) (by omega) (by omega) (fun h_34 => ?_) (fun h_34 => ?_)
  · exact J33 H locs ls hP hD hS hl
  · refine lv_iload_n hx hb dX7_readComparison_16 rfl (lv_at hl 0 rfl) ?_
    refine lv_bipush (v := iI 62) hx hb dX7_readComparison_17 rfl ?_
    refine xr_icmp_eq (tgt := 33) hx hb dX7_readComparison_19 (by decide) (by omega) (by omega) (fun h_35 => ?_) (fun h_35 => ?_)
    · exact J33 H locs ls hP hD hS hl
    · refine lv_iload_n hx hb dX7_readComparison_22 rfl (lv_at hl 0 rfl) ?_
      refine lv_bipush (v := iI 61) hx hb dX7_readComparison_23 rfl ?_
      refine xr_icmp_eq (tgt := 33) hx hb dX7_readComparison_25 (by decide) (by omega) (by omega) (fun h_36 => ?_) (fun h_36 => ?_)
      · exact J33 H locs ls hP hD hS hl
      · refine lv_aload_n hx hb dX7_readComparison_28 rfl (lv_at hl 1 rfl) ?_
        refine jcg_v (va_runV (As := []) (rest := []) ⟨hx, hb, hml, hown, hts⟩ (sX7_refuse l dC dI _ L cid K N tW sK sV v_4 p0 I_6 q0) (cwV 0 hts (jgoodV m_683 m_684 m_685 m_677 m_686) rfl rfl rfl (by decide +kernel) ⟨(Nat.le_of_ble_eq_true rfl), (Nat.le_of_ble_eq_true rfl)⟩) ⟨xP_blind, xrecv hK hP q0 rfl rfl, fun U hU hW => ⟨rfl, xP_of hU hW hP hK hD hX hS (fun _ h => h) hA⟩⟩ rfl rfl hl.1 rfl (lv_room (Nat.le_of_ble_eq_true rfl)) dX7_readComparison_29 ⟨(Nat.le_of_ble_eq_true rfl), (Nat.le_of_ble_eq_true rfl)⟩) hD hS hA (fun v_40 H locs w_38 hP hK hD hS => ?_)
        obtain ⟨I_42, f_41⟩ := w_38
        have hP : va_P (dC, dI) vwCl (xG L cid K N v_40) H := hP
        have hD : va_D A (xG L cid K N v_40) := hD
        rw [← hQ]
        exact W.vret hx hb hr (fun t ht hW => ⟨⟨v_40, rfl, ⟨I_42, (fr_tr f_41 rfl (fr_tr f_5 rfl fr_rf))⟩, by rw [ht]; exact hP, va_K.moved hW.alike hK, hD⟩, hS.F ht⟩) hS.2.2 dX7_readComparison_32
set_option maxHeartbeats 2000000 in
set_option maxRecDepth 100000 in
theorem sX7_readComparison_q6 (l : Launch) (dC : Nat → ClassId) (dI : Nat → Nat → Nat) (sz : Nat) (L : List Nat) (cid : Nat → ClassId) (K : Int → Nat) (N : Int → Int) (tW : Nat) (sK sV : Nat → Nat) (v : Int → Int → Int) (p0 : Int) (p1 : Int) (hI : xI L K N v) (q0 : ok L K p0 7) (q1 : rg p1) (k1 : 6 ≤ p1 ∧ p1 ≤ 6) : Met l yX7_readComparison (jk yX7_readComparison cX7_readComparison 3 none) ({ frames := 11, cells := 0, slots := 0, locals := 247 }) (va_Pc [.ref p0.toNat, .int (iI p1)] (xP (dC, dI) (xG L cid K N v) (xT cid) tW sK sV sz)) (va_Qv (fun (u : (Int → Int → Int)) => (xI L K N u) ∧ (fr K [(7, 7), (7, 8), (7, 10), (25, (-1))] u v)) (fun u t => va_P (dC, dI) vwCl (xG L cid K N u) t.heap ∧ va_K (dC, dI) vwCl (xT cid) t ∧ va_D (va_A (xG L cid K N v) sz) (xG L cid K N u)) (va_A (xG L cid K N v) sz)) 0 0 (va_A (xG L cid K N v) sz) := by
  refine Met.ofW (cc := cX7_readComparison) (maxL := 3) (ret := none) (by decide) rfl ?_
  intro p e s m args below meth c s₁ B hml hv
  obtain ⟨rfl, ⟨hsz, hP, hK, hD0⟩, hX⟩ := hv
  have hx := B.exec
  have hb := B.bytes
  have hr := B.returns
  have hts := atoms_spec (ws := (jk yX7_readComparison cX7_readComparison 3 none)) B.pre
  have hj : ∀ w ∈ jw, w.before ([.ref p0.toNat, .int (iI p1)] : List Value).toArray s = true := fun w h => hts w (jm h)
  have hown : s.vm.findClass RX7 = some m.cls := findClass_of_methodNamed B.named
  subst hsz
  have hD := hD0.self (sz := s.heap.size)
  generalize hAe : (va_A (xG L cid K N v) s.heap.size) = A at hD hX ⊢
  have hA : ∀ q : Nat, s.heap.size ≤ q → A q := fun q h => by rw [← hAe]; exact Or.inr h
  have hS : va_S A s.heap s.heap [] := va_S.rf
  have hXa := hX
  have hP : va_P (dC, dI) vwCl (xG L cid K N v) s.heap := hP
  have hl := lv_entry ([.ref p0.toNat, .int (iI p1)]) (n := 3) (Nat.le_of_ble_eq_true rfl)
  rw [lg_entry_eq]
  generalize (lg_sl ([.ref p0.toNat, .int (iI p1)]) ++ List.replicate (3 - (lg_sl ([.ref p0.toNat, .int (iI p1)])).length) Slot.unset).toArray = ls at hl ⊢
  have hl : lv_has ls 3 [(0, .ref p0.toNat), (1, .int (iI p1))] := hl
  generalize hQ : MQ below (va_Qv (fun (u : (Int → Int → Int)) => (xI L K N u) ∧ (fr K [(7, 7), (7, 8), (7, 10), (25, (-1))] u v)) (fun u t => va_P (dC, dI) vwCl (xG L cid K N u) t.heap ∧ va_K (dC, dI) vwCl (xT cid) t ∧ va_D A (xG L cid K N u)) A) ([.ref p0.toNat, .int (iI p1)] : List Value).toArray s 0 0 A = Q
  suffices ST : ∀ (H : Heap) (locs : List Loc), va_P (dC, dI) vwCl (xG L cid K N v) H → va_S A s.heap H locs → W p l e ({ frames := 11, cells := 0, slots := 0, locals := 247 }) s m ([.ref p0.toNat, .int (iI p1)] : List Value).toArray below meth c H locs 0 0 Q (F0 m 0 ls []) from ST _ _ hP hS
  clear hP hS
  intro H locs hP hS
  refine lv_aload_n hx hb dX7_readComparison_0 rfl (lv_at hl 0 rfl) ?_
  refine lv_iload_n hx hb dX7_readComparison_1 rfl (lv_at hl 1 rfl) ?_
  refine jcg_v (va_runV (As := [.int (iI p1)]) (rest := []) ⟨hx, hb, hml, hown, hts⟩ (sX7_readSum_q6 l dC dI _ L cid K N tW sK sV v p0 p1 hI q0 (by omega) (by omega)) (cwV 1 hts (jgoodV m_704 m_705 m_706 m_677 m_707) rfl rfl rfl (by decide +kernel) ⟨(Nat.le_of_ble_eq_true rfl), (Nat.le_of_ble_eq_true rfl)⟩) ⟨xP_blind, xrecv hK hP q0 rfl rfl, fun U hU hW => ⟨rfl, xP_of hU hW hP hK hD hX hS (fun _ h => h) hA⟩⟩ rfl rfl hl.1 rfl (lv_room (Nat.le_of_ble_eq_true rfl)) dX7_readComparison_2 ⟨(Nat.le_of_ble_eq_true rfl), (Nat.le_of_ble_eq_true rfl)⟩) hD hS hA (fun v_4 H locs w_2 hP hK hD hS => ?_)
  obtain ⟨I_6, f_5⟩ := w_2
  have hP : va_P (dC, dI) vwCl (xG L cid K N v_4) H := hP
  have hD : va_D A (xG L cid K N v_4) := hD
  refine lv_aload_n hx hb dX7_readComparison_5 rfl (lv_at hl 0 rfl) ?_
  refine jc_i (va_runV (As := []) (rest := []) ⟨hx, hb, hml, hown, hts⟩ (sX7_kind l dC dI _ L cid K N tW sK sV v_4 p0 I_6 q0) (cwV 0 hts (jgoodV m_674 m_675 m_676 m_677 m_678) rfl rfl rfl (by decide +kernel) ⟨(Nat.le_of_ble_eq_true rfl), (Nat.le_of_ble_eq_true rfl)⟩) ⟨xP_blind, xrecv hK hP q0 rfl rfl, fun U hU hW => ⟨rfl, xP_of hU hW hP hK hD hX hS (fun _ h => h) hA⟩⟩ rfl rfl hl.1 rfl (lv_room (Nat.le_of_ble_eq_true rfl)) dX7_readComparison_6 ⟨(Nat.le_of_ble_eq_true rfl), (Nat.le_of_ble_eq_true rfl)⟩) hP hS hA (fun r_7 H locs w_8 hP hS => ?_)
  obtain ⟨z_9, rfl, h_10, h_11⟩ := w_8
  have h_12 : (-2147483648) ≤ v_4 p0 7 ∧ v_4 p0 7 ≤ 2147483647 := xf_7_7 I_6 q0
  refine lv_istore_n (i := 2) (lv' := [(2, .int (iI z_9)), (0, .ref p0.toNat), (1, .int (iI p1))]) hx hb dX7_readComparison_9 rfl hl (by decide) rfl (fun ls hl => ?_)
  refine lv_iload_n hx hb dX7_readComparison_10 rfl (lv_at hl 0 rfl) ?_
  refine lv_bipush (v := iI 60) hx hb dX7_readComparison_11 rfl ?_
  have J33 : ∀ (H : Heap) (locs : List Loc) (ls : Array Slot), va_P (dC, dI) vwCl (xG L cid K N v_4) H → va_D A (xG L cid K N v_4) → va_S A s.heap H locs → lv_has ls 3 [(2, .int (iI z_9)), (0, .ref p0.toNat), (1, .int (iI p1))] → W p l e ({ frames := 11, cells := 0, slots := 0, locals := 247 }) s m ([.ref p0.toNat, .int (iI p1)] : List Value).toArray below meth c H locs 0 0 Q (F0 m 33 ls []) := by
    intro H locs ls hP hD hS hl
    refine lv_aload_n hx hb dX7_readComparison_33 rfl (lv_at hl 1 rfl) ?_
    refine jcg_v (va_runV (As := []) (rest := []) ⟨hx, hb, hml, hown, hts⟩ (sX7_advance l dC dI _ L cid K N tW sK sV v_4 p0 I_6 q0) (cwV 0 hts (jgoodV m_692 m_693 m_694 m_677 m_695) rfl rfl rfl (by decide +kernel) ⟨(Nat.le_of_ble_eq_true rfl), (Nat.le_of_ble_eq_true rfl)⟩) ⟨xP_blind, xrecv hK hP q0 rfl rfl, fun U hU hW => ⟨rfl, xP_of hU hW hP hK hD hX hS (fun _ h => h) hA⟩⟩ rfl rfl hl.1 rfl (lv_room (Nat.le_of_ble_eq_true rfl)) dX7_readComparison_34 ⟨(Nat.le_of_ble_eq_true rfl), (Nat.le_of_ble_eq_true rfl)⟩) hD hS hA (fun v_16 H locs w_14 hP hK hD hS => ?_)
    obtain ⟨I_18, f_17⟩ := w_14
    have hP : va_P (dC, dI) vwCl (xG L cid K N v_16) H := hP
    have hD : va_D A (xG L cid K N v_16) := hD
    refine lv_aload_n hx hb dX7_readComparison_37 rfl (lv_at hl 1 rfl) ?_
    refine lv_iload_n hx hb dX7_readComparison_38 rfl (lv_at hl 2 rfl) ?_
    refine jcg_v (va_runV (As := [.int (iI p1)]) (rest := []) ⟨hx, hb, hml, hown, hts⟩ (sX7_readSum_q6 l dC dI _ L cid K N tW sK sV v_16 p0 p1 I_18 q0 (by omega) (by omega)) (cwV 1 hts (jgoodV m_704 m_705 m_706 m_677 m_707) rfl rfl rfl (by decide +kernel) ⟨(Nat.le_of_ble_eq_true rfl), (Nat.le_of_ble_eq_true rfl)⟩) ⟨xP_blind, xrecv hK hP q0 rfl rfl, fun U hU hW => ⟨rfl, xP_of hU hW hP hK hD hX hS (fun _ h => h) hA⟩⟩ rfl rfl hl.1 rfl (lv_room (Nat.le_of_ble_eq_true rfl)) dX7_readComparison_39 ⟨(Nat.le_of_ble_eq_true rfl), (Nat.le_of_ble_eq_true rfl)⟩) hD hS hA (fun v_22 H locs w_20 hP hK hD hS => ?_)
    obtain ⟨I_24, f_23⟩ := w_20
    have hP : va_P (dC, dI) vwCl (xG L cid K N v_22) H := hP
    have hD : va_D A (xG L cid K N v_22) := hD
    refine lv_aload_n hx hb dX7_readComparison_42 rfl (lv_at hl 1 rfl) ?_
    refine lv_iload_n hx hb dX7_readComparison_43 rfl (lv_at hl 0 rfl) ?_
    refine lv_bipush (v := iI 60) hx hb dX7_readComparison_44 rfl ?_
    have J67 : ∀ (s0_67 : Int) (H : Heap) (locs : List Loc) (ls : Array Slot), ((-17) ≤ s0_67 ∧ s0_67 ≤ (-15)) → va_P (dC, dI) vwCl (xG L cid K N v_22) H → va_D A (xG L cid K N v_22) → va_S A s.heap H locs → lv_has ls 3 [(2, .int (iI z_9)), (0, .ref p0.toNat), (1, .int (iI p1))] → W p l e ({ frames := 11, cells := 0, slots := 0, locals := 247 }) s m ([.ref p0.toNat, .int (iI p1)] : List Value).toArray below meth c H locs 0 0 Q (F0 m 67 ls [.int (iI s0_67), .ref p0.toNat]) := by
      intro s0_67 H locs ls h_25 hP hD hS hl
      refine jcg_v (va_runV (As := [.int (iI s0_67)]) (rest := []) ⟨hx, hb, hml, hown, hts⟩ (sX7_emit l dC dI _ L cid K N tW sK sV v_22 p0 s0_67 I_24 q0 (by omega)) (cwV 1 hts (jgoodV m_688 m_689 m_690 m_677 m_691) rfl rfl rfl (by decide +kernel) ⟨(Nat.le_of_ble_eq_true rfl), (Nat.le_of_ble_eq_true rfl)⟩) ⟨xP_blind, xrecv hK hP q0 rfl rfl, fun U hU hW => ⟨rfl, xP_of hU hW hP hK hD hX hS (fun _ h => h) hA⟩⟩ rfl rfl hl.1 rfl (lv_room (Nat.le_of_ble_eq_true rfl)) dX7_readComparison_67 ⟨(Nat.le_of_ble_eq_true rfl), (Nat.le_of_ble_eq_true rfl)⟩) hD hS hA (fun v_29 H locs w_27 hP hK hD hS => ?_)
      obtain ⟨I_31, f_30⟩ := w_27
      have hP : va_P (dC, dI) vwCl (xG L cid K N v_29) H := hP
      have hD : va_D A (xG L cid K N v_29) := hD
      rw [← hQ]
      exact W.vret hx hb hr (fun t ht hW => ⟨⟨v_29, rfl, ⟨I_31, (fr_tr f_30 rfl (fr_tr f_23 rfl (fr_tr f_17 rfl (fr_tr f_5 rfl fr_rf))))⟩, by rw [ht]; exact hP, va_K.moved hW.alike hK, hD⟩, hS.F ht⟩) hS.2.2 dX7_readComparison_70
    refine xr_icmp_ne (tgt := 54) hx hb dX7_readComparison_46 (by decide) (by omega) (by omega) (fun h_32 => ?_) (fun h_32 => ?_)
    · refine lv_iload_n hx hb dX7_readComparison_54 rfl (lv_at hl 0 rfl) ?_
      refine lv_bipush (v := iI 62) hx hb dX7_readComparison_55 rfl ?_
      refine xr_icmp_ne (tgt := 65) hx hb dX7_readComparison_57 (by decide) (by omega) (by omega) (fun h_33 => ?_) (fun h_33 => ?_)
      · refine lv_bipush (v := iI (-17)) hx hb dX7_readComparison_65 rfl ?_
        exact J67 (-17) H locs ls (by omega) hP hD hS hl
      · refine lv_bipush (v := iI (-16)) hx hb dX7_readComparison_60 rfl ?_
        refine lv_goto (tgt := 67) hx hb dX7_readComparison_62 (by decide) ?_
        exact J67 (-16) H locs ls (by omega) hP hD hS hl
    · refine lv_bipush (v := iI (-15)) hx hb dX7_readComparison_49 rfl ?_
      refine lv_goto (tgt := 67) hx hb dX7_readComparison_51 (by decide) ?_
      exact J67 (-15) H locs ls (by omega) hP hD hS hl
  refine xr_icmp_eq (tgt := 33) hx hb dX7_readComparison_13 (by decide) (by omega) (by omega) (fun h_34 => ?_) (fun h_34 => ?_)
  · exact J33 H locs ls hP hD hS hl
  · refine lv_iload_n hx hb dX7_readComparison_16 rfl (lv_at hl 0 rfl) ?_
    refine lv_bipush (v := iI 62) hx hb dX7_readComparison_17 rfl ?_
    refine xr_icmp_eq (tgt := 33) hx hb dX7_readComparison_19 (by decide) (by omega) (by omega) (fun h_35 => ?_) (fun h_35 => ?_)
    · exact J33 H locs ls hP hD hS hl
    · refine lv_iload_n hx hb dX7_readComparison_22 rfl (lv_at hl 0 rfl) ?_
      refine lv_bipush (v := iI 61) hx hb dX7_readComparison_23 rfl ?_
      refine xr_icmp_eq (tgt := 33) hx hb dX7_readComparison_25 (by decide) (by omega) (by omega) (fun h_36 => ?_) (fun h_36 => ?_)
      · exact J33 H locs ls hP hD hS hl
      · refine lv_aload_n hx hb dX7_readComparison_28 rfl (lv_at hl 1 rfl) ?_
        refine jcg_v (va_runV (As := []) (rest := []) ⟨hx, hb, hml, hown, hts⟩ (sX7_refuse l dC dI _ L cid K N tW sK sV v_4 p0 I_6 q0) (cwV 0 hts (jgoodV m_683 m_684 m_685 m_677 m_686) rfl rfl rfl (by decide +kernel) ⟨(Nat.le_of_ble_eq_true rfl), (Nat.le_of_ble_eq_true rfl)⟩) ⟨xP_blind, xrecv hK hP q0 rfl rfl, fun U hU hW => ⟨rfl, xP_of hU hW hP hK hD hX hS (fun _ h => h) hA⟩⟩ rfl rfl hl.1 rfl (lv_room (Nat.le_of_ble_eq_true rfl)) dX7_readComparison_29 ⟨(Nat.le_of_ble_eq_true rfl), (Nat.le_of_ble_eq_true rfl)⟩) hD hS hA (fun v_40 H locs w_38 hP hK hD hS => ?_)
        obtain ⟨I_42, f_41⟩ := w_38
        have hP : va_P (dC, dI) vwCl (xG L cid K N v_40) H := hP
        have hD : va_D A (xG L cid K N v_40) := hD
        rw [← hQ]
        exact W.vret hx hb hr (fun t ht hW => ⟨⟨v_40, rfl, ⟨I_42, (fr_tr f_41 rfl (fr_tr f_5 rfl fr_rf))⟩, by rw [ht]; exact hP, va_K.moved hW.alike hK, hD⟩, hS.F ht⟩) hS.2.2 dX7_readComparison_32
set_option maxHeartbeats 2000000 in
set_option maxRecDepth 100000 in
theorem sX7_readComparison_q7 (l : Launch) (dC : Nat → ClassId) (dI : Nat → Nat → Nat) (sz : Nat) (L : List Nat) (cid : Nat → ClassId) (K : Int → Nat) (N : Int → Int) (tW : Nat) (sK sV : Nat → Nat) (v : Int → Int → Int) (p0 : Int) (p1 : Int) (hI : xI L K N v) (q0 : ok L K p0 7) (q1 : rg p1) (k1 : 7 ≤ p1 ∧ p1 ≤ 7) : Met l yX7_readComparison (jk yX7_readComparison cX7_readComparison 3 none) ({ frames := 8, cells := 0, slots := 0, locals := 178 }) (va_Pc [.ref p0.toNat, .int (iI p1)] (xP (dC, dI) (xG L cid K N v) (xT cid) tW sK sV sz)) (va_Qv (fun (u : (Int → Int → Int)) => (xI L K N u) ∧ (fr K [(7, 7), (7, 8), (7, 10), (25, (-1))] u v)) (fun u t => va_P (dC, dI) vwCl (xG L cid K N u) t.heap ∧ va_K (dC, dI) vwCl (xT cid) t ∧ va_D (va_A (xG L cid K N v) sz) (xG L cid K N u)) (va_A (xG L cid K N v) sz)) 0 0 (va_A (xG L cid K N v) sz) := by
  refine Met.ofW (cc := cX7_readComparison) (maxL := 3) (ret := none) (by decide) rfl ?_
  intro p e s m args below meth c s₁ B hml hv
  obtain ⟨rfl, ⟨hsz, hP, hK, hD0⟩, hX⟩ := hv
  have hx := B.exec
  have hb := B.bytes
  have hr := B.returns
  have hts := atoms_spec (ws := (jk yX7_readComparison cX7_readComparison 3 none)) B.pre
  have hj : ∀ w ∈ jw, w.before ([.ref p0.toNat, .int (iI p1)] : List Value).toArray s = true := fun w h => hts w (jm h)
  have hown : s.vm.findClass RX7 = some m.cls := findClass_of_methodNamed B.named
  subst hsz
  have hD := hD0.self (sz := s.heap.size)
  generalize hAe : (va_A (xG L cid K N v) s.heap.size) = A at hD hX ⊢
  have hA : ∀ q : Nat, s.heap.size ≤ q → A q := fun q h => by rw [← hAe]; exact Or.inr h
  have hS : va_S A s.heap s.heap [] := va_S.rf
  have hXa := hX
  have hP : va_P (dC, dI) vwCl (xG L cid K N v) s.heap := hP
  have hl := lv_entry ([.ref p0.toNat, .int (iI p1)]) (n := 3) (Nat.le_of_ble_eq_true rfl)
  rw [lg_entry_eq]
  generalize (lg_sl ([.ref p0.toNat, .int (iI p1)]) ++ List.replicate (3 - (lg_sl ([.ref p0.toNat, .int (iI p1)])).length) Slot.unset).toArray = ls at hl ⊢
  have hl : lv_has ls 3 [(0, .ref p0.toNat), (1, .int (iI p1))] := hl
  generalize hQ : MQ below (va_Qv (fun (u : (Int → Int → Int)) => (xI L K N u) ∧ (fr K [(7, 7), (7, 8), (7, 10), (25, (-1))] u v)) (fun u t => va_P (dC, dI) vwCl (xG L cid K N u) t.heap ∧ va_K (dC, dI) vwCl (xT cid) t ∧ va_D A (xG L cid K N u)) A) ([.ref p0.toNat, .int (iI p1)] : List Value).toArray s 0 0 A = Q
  suffices ST : ∀ (H : Heap) (locs : List Loc), va_P (dC, dI) vwCl (xG L cid K N v) H → va_S A s.heap H locs → W p l e ({ frames := 8, cells := 0, slots := 0, locals := 178 }) s m ([.ref p0.toNat, .int (iI p1)] : List Value).toArray below meth c H locs 0 0 Q (F0 m 0 ls []) from ST _ _ hP hS
  clear hP hS
  intro H locs hP hS
  refine lv_aload_n hx hb dX7_readComparison_0 rfl (lv_at hl 0 rfl) ?_
  refine lv_iload_n hx hb dX7_readComparison_1 rfl (lv_at hl 1 rfl) ?_
  refine jcg_v (va_runV (As := [.int (iI p1)]) (rest := []) ⟨hx, hb, hml, hown, hts⟩ (sX7_readSum_q7 l dC dI _ L cid K N tW sK sV v p0 p1 hI q0 (by omega) (by omega)) (cwV 1 hts (jgoodV m_704 m_705 m_706 m_677 m_707) rfl rfl rfl (by decide +kernel) ⟨(Nat.le_of_ble_eq_true rfl), (Nat.le_of_ble_eq_true rfl)⟩) ⟨xP_blind, xrecv hK hP q0 rfl rfl, fun U hU hW => ⟨rfl, xP_of hU hW hP hK hD hX hS (fun _ h => h) hA⟩⟩ rfl rfl hl.1 rfl (lv_room (Nat.le_of_ble_eq_true rfl)) dX7_readComparison_2 ⟨(Nat.le_of_ble_eq_true rfl), (Nat.le_of_ble_eq_true rfl)⟩) hD hS hA (fun v_4 H locs w_2 hP hK hD hS => ?_)
  obtain ⟨I_6, f_5⟩ := w_2
  have hP : va_P (dC, dI) vwCl (xG L cid K N v_4) H := hP
  have hD : va_D A (xG L cid K N v_4) := hD
  refine lv_aload_n hx hb dX7_readComparison_5 rfl (lv_at hl 0 rfl) ?_
  refine jc_i (va_runV (As := []) (rest := []) ⟨hx, hb, hml, hown, hts⟩ (sX7_kind l dC dI _ L cid K N tW sK sV v_4 p0 I_6 q0) (cwV 0 hts (jgoodV m_674 m_675 m_676 m_677 m_678) rfl rfl rfl (by decide +kernel) ⟨(Nat.le_of_ble_eq_true rfl), (Nat.le_of_ble_eq_true rfl)⟩) ⟨xP_blind, xrecv hK hP q0 rfl rfl, fun U hU hW => ⟨rfl, xP_of hU hW hP hK hD hX hS (fun _ h => h) hA⟩⟩ rfl rfl hl.1 rfl (lv_room (Nat.le_of_ble_eq_true rfl)) dX7_readComparison_6 ⟨(Nat.le_of_ble_eq_true rfl), (Nat.le_of_ble_eq_true rfl)⟩) hP hS hA (fun r_7 H locs w_8 hP hS => ?_)
  obtain ⟨z_9, rfl, h_10, h_11⟩ := w_8
  have h_12 : (-2147483648) ≤ v_4 p0 7 ∧ v_4 p0 7 ≤ 2147483647 := xf_7_7 I_6 q0
  refine lv_istore_n (i := 2) (lv' := [(2, .int (iI z_9)), (0, .ref p0.toNat), (1, .int (iI p1))]) hx hb dX7_readComparison_9 rfl hl (by decide) rfl (fun ls hl => ?_)
  refine lv_iload_n hx hb dX7_readComparison_10 rfl (lv_at hl 0 rfl) ?_
  refine lv_bipush (v := iI 60) hx hb dX7_readComparison_11 rfl ?_
  have J33 : ∀ (H : Heap) (locs : List Loc) (ls : Array Slot), va_P (dC, dI) vwCl (xG L cid K N v_4) H → va_D A (xG L cid K N v_4) → va_S A s.heap H locs → lv_has ls 3 [(2, .int (iI z_9)), (0, .ref p0.toNat), (1, .int (iI p1))] → W p l e ({ frames := 8, cells := 0, slots := 0, locals := 178 }) s m ([.ref p0.toNat, .int (iI p1)] : List Value).toArray below meth c H locs 0 0 Q (F0 m 33 ls []) := by
    intro H locs ls hP hD hS hl
    refine lv_aload_n hx hb dX7_readComparison_33 rfl (lv_at hl 1 rfl) ?_
    refine jcg_v (va_runV (As := []) (rest := []) ⟨hx, hb, hml, hown, hts⟩ (sX7_advance l dC dI _ L cid K N tW sK sV v_4 p0 I_6 q0) (cwV 0 hts (jgoodV m_692 m_693 m_694 m_677 m_695) rfl rfl rfl (by decide +kernel) ⟨(Nat.le_of_ble_eq_true rfl), (Nat.le_of_ble_eq_true rfl)⟩) ⟨xP_blind, xrecv hK hP q0 rfl rfl, fun U hU hW => ⟨rfl, xP_of hU hW hP hK hD hX hS (fun _ h => h) hA⟩⟩ rfl rfl hl.1 rfl (lv_room (Nat.le_of_ble_eq_true rfl)) dX7_readComparison_34 ⟨(Nat.le_of_ble_eq_true rfl), (Nat.le_of_ble_eq_true rfl)⟩) hD hS hA (fun v_16 H locs w_14 hP hK hD hS => ?_)
    obtain ⟨I_18, f_17⟩ := w_14
    have hP : va_P (dC, dI) vwCl (xG L cid K N v_16) H := hP
    have hD : va_D A (xG L cid K N v_16) := hD
    refine lv_aload_n hx hb dX7_readComparison_37 rfl (lv_at hl 1 rfl) ?_
    refine lv_iload_n hx hb dX7_readComparison_38 rfl (lv_at hl 2 rfl) ?_
    refine jcg_v (va_runV (As := [.int (iI p1)]) (rest := []) ⟨hx, hb, hml, hown, hts⟩ (sX7_readSum_q7 l dC dI _ L cid K N tW sK sV v_16 p0 p1 I_18 q0 (by omega) (by omega)) (cwV 1 hts (jgoodV m_704 m_705 m_706 m_677 m_707) rfl rfl rfl (by decide +kernel) ⟨(Nat.le_of_ble_eq_true rfl), (Nat.le_of_ble_eq_true rfl)⟩) ⟨xP_blind, xrecv hK hP q0 rfl rfl, fun U hU hW => ⟨rfl, xP_of hU hW hP hK hD hX hS (fun _ h => h) hA⟩⟩ rfl rfl hl.1 rfl (lv_room (Nat.le_of_ble_eq_true rfl)) dX7_readComparison_39 ⟨(Nat.le_of_ble_eq_true rfl), (Nat.le_of_ble_eq_true rfl)⟩) hD hS hA (fun v_22 H locs w_20 hP hK hD hS => ?_)
    obtain ⟨I_24, f_23⟩ := w_20
    have hP : va_P (dC, dI) vwCl (xG L cid K N v_22) H := hP
    have hD : va_D A (xG L cid K N v_22) := hD
    refine lv_aload_n hx hb dX7_readComparison_42 rfl (lv_at hl 1 rfl) ?_
    refine lv_iload_n hx hb dX7_readComparison_43 rfl (lv_at hl 0 rfl) ?_
    refine lv_bipush (v := iI 60) hx hb dX7_readComparison_44 rfl ?_
    have J67 : ∀ (s0_67 : Int) (H : Heap) (locs : List Loc) (ls : Array Slot), ((-17) ≤ s0_67 ∧ s0_67 ≤ (-15)) → va_P (dC, dI) vwCl (xG L cid K N v_22) H → va_D A (xG L cid K N v_22) → va_S A s.heap H locs → lv_has ls 3 [(2, .int (iI z_9)), (0, .ref p0.toNat), (1, .int (iI p1))] → W p l e ({ frames := 8, cells := 0, slots := 0, locals := 178 }) s m ([.ref p0.toNat, .int (iI p1)] : List Value).toArray below meth c H locs 0 0 Q (F0 m 67 ls [.int (iI s0_67), .ref p0.toNat]) := by
      intro s0_67 H locs ls h_25 hP hD hS hl
      refine jcg_v (va_runV (As := [.int (iI s0_67)]) (rest := []) ⟨hx, hb, hml, hown, hts⟩ (sX7_emit l dC dI _ L cid K N tW sK sV v_22 p0 s0_67 I_24 q0 (by omega)) (cwV 1 hts (jgoodV m_688 m_689 m_690 m_677 m_691) rfl rfl rfl (by decide +kernel) ⟨(Nat.le_of_ble_eq_true rfl), (Nat.le_of_ble_eq_true rfl)⟩) ⟨xP_blind, xrecv hK hP q0 rfl rfl, fun U hU hW => ⟨rfl, xP_of hU hW hP hK hD hX hS (fun _ h => h) hA⟩⟩ rfl rfl hl.1 rfl (lv_room (Nat.le_of_ble_eq_true rfl)) dX7_readComparison_67 ⟨(Nat.le_of_ble_eq_true rfl), (Nat.le_of_ble_eq_true rfl)⟩) hD hS hA (fun v_29 H locs w_27 hP hK hD hS => ?_)
      obtain ⟨I_31, f_30⟩ := w_27
      have hP : va_P (dC, dI) vwCl (xG L cid K N v_29) H := hP
      have hD : va_D A (xG L cid K N v_29) := hD
      rw [← hQ]
      exact W.vret hx hb hr (fun t ht hW => ⟨⟨v_29, rfl, ⟨I_31, (fr_tr f_30 rfl (fr_tr f_23 rfl (fr_tr f_17 rfl (fr_tr f_5 rfl fr_rf))))⟩, by rw [ht]; exact hP, va_K.moved hW.alike hK, hD⟩, hS.F ht⟩) hS.2.2 dX7_readComparison_70
    refine xr_icmp_ne (tgt := 54) hx hb dX7_readComparison_46 (by decide) (by omega) (by omega) (fun h_32 => ?_) (fun h_32 => ?_)
    · refine lv_iload_n hx hb dX7_readComparison_54 rfl (lv_at hl 0 rfl) ?_
      refine lv_bipush (v := iI 62) hx hb dX7_readComparison_55 rfl ?_
      refine xr_icmp_ne (tgt := 65) hx hb dX7_readComparison_57 (by decide) (by omega) (by omega) (fun h_33 => ?_) (fun h_33 => ?_)
      · refine lv_bipush (v := iI (-17)) hx hb dX7_readComparison_65 rfl ?_
        exact J67 (-17) H locs ls (by omega) hP hD hS hl
      · refine lv_bipush (v := iI (-16)) hx hb dX7_readComparison_60 rfl ?_
        refine lv_goto (tgt := 67) hx hb dX7_readComparison_62 (by decide) ?_
        exact J67 (-16) H locs ls (by omega) hP hD hS hl
    · refine lv_bipush (v := iI (-15)) hx hb dX7_readComparison_49 rfl ?_
      refine lv_goto (tgt := 67) hx hb dX7_readComparison_51 (by decide) ?_
      exact J67 (-15) H locs ls (by omega) hP hD hS hl
  refine xr_icmp_eq (tgt := 33) hx hb dX7_readComparison_13 (by decide) (by omega) (by omega) (fun h_34 => ?_) (fun h_34 => ?_)
  · exact J33 H locs ls hP hD hS hl
  · refine lv_iload_n hx hb dX7_readComparison_16 rfl (lv_at hl 0 rfl) ?_
    refine lv_bipush (v := iI 62) hx hb dX7_readComparison_17 rfl ?_
    refine xr_icmp_eq (tgt := 33) hx hb dX7_readComparison_19 (by decide) (by omega) (by omega) (fun h_35 => ?_) (fun h_35 => ?_)
    · exact J33 H locs ls hP hD hS hl
    · refine lv_iload_n hx hb dX7_readComparison_22 rfl (lv_at hl 0 rfl) ?_
      refine lv_bipush (v := iI 61) hx hb dX7_readComparison_23 rfl ?_
      refine xr_icmp_eq (tgt := 33) hx hb dX7_readComparison_25 (by decide) (by omega) (by omega) (fun h_36 => ?_) (fun h_36 => ?_)
      · exact J33 H locs ls hP hD hS hl
      · refine lv_aload_n hx hb dX7_readComparison_28 rfl (lv_at hl 1 rfl) ?_
        refine jcg_v (va_runV (As := []) (rest := []) ⟨hx, hb, hml, hown, hts⟩ (sX7_refuse l dC dI _ L cid K N tW sK sV v_4 p0 I_6 q0) (cwV 0 hts (jgoodV m_683 m_684 m_685 m_677 m_686) rfl rfl rfl (by decide +kernel) ⟨(Nat.le_of_ble_eq_true rfl), (Nat.le_of_ble_eq_true rfl)⟩) ⟨xP_blind, xrecv hK hP q0 rfl rfl, fun U hU hW => ⟨rfl, xP_of hU hW hP hK hD hX hS (fun _ h => h) hA⟩⟩ rfl rfl hl.1 rfl (lv_room (Nat.le_of_ble_eq_true rfl)) dX7_readComparison_29 ⟨(Nat.le_of_ble_eq_true rfl), (Nat.le_of_ble_eq_true rfl)⟩) hD hS hA (fun v_40 H locs w_38 hP hK hD hS => ?_)
        obtain ⟨I_42, f_41⟩ := w_38
        have hP : va_P (dC, dI) vwCl (xG L cid K N v_40) H := hP
        have hD : va_D A (xG L cid K N v_40) := hD
        rw [← hQ]
        exact W.vret hx hb hr (fun t ht hW => ⟨⟨v_40, rfl, ⟨I_42, (fr_tr f_41 rfl (fr_tr f_5 rfl fr_rf))⟩, by rw [ht]; exact hP, va_K.moved hW.alike hK, hD⟩, hS.F ht⟩) hS.2.2 dX7_readComparison_32
