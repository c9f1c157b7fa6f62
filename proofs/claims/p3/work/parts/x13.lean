set_option maxHeartbeats 2000000 in
set_option maxRecDepth 100000 in
theorem sX7_expect (l : Launch) (dC : Nat → ClassId) (dI : Nat → Nat → Nat) (sz : Nat) (L : List Nat) (cid : Nat → ClassId) (K : Int → Nat) (N : Int → Int) (tW : Nat) (sK sV : Nat → Nat) (v : Int → Int → Int) (tT : Int → Int) (tN : Int) (p0 : Int) (p1 : Int) (hI : xI L K N v) (q0 : ok L K p0 7) (q1 : rg p1) (k1 : tks tT tN v p0) (k2 : 0 ≤ v p0 7 ∧ v p0 7 < v p0 6) (k3 : 40 ≤ p1 ∧ p1 ≤ 93) : Met l yX7_expect (jk yX7_expect cX7_expect 2 none) ({ frames := 1, cells := 0, slots := 0, locals := 20 }) (va_Pc [.ref p0.toNat, .int (iI p1)] (xP (dC, dI) (xG L cid K N v) (xT cid) tW sK sV sz)) (va_Qv (fun (u : (Int → Int → Int)) => (xI L K N u) ∧ (fr K [(7, 7), (7, 8)] u v) ∧ (jF (v p0 8 ≠ -1) (u p0 8 = v p0 8)) ∧ (0 ≤ u p0 7 ∧ v p0 7 ≤ u p0 7 ∧ u p0 7 < v p0 6) ∧ (jF (v p0 8 = -1 ∧ u p0 8 = -1) (v p0 7 + 1 ≤ u p0 7)) ∧ (∀ x9 d9 : Int, x9 = 100 + p1 → EP tT tN [x9] d9 (v p0 8) (v p0 7) (u p0 8) (u p0 7) [] d9)) (fun u t => va_P (dC, dI) vwCl (xG L cid K N u) t.heap ∧ va_K (dC, dI) vwCl (xT cid) t ∧ va_D (va_A (xG L cid K N v) sz) (xG L cid K N u)) (va_A (xG L cid K N v) sz)) 0 0 (va_A (xG L cid K N v) sz) := by
  refine Met.ofW (cc := cX7_expect) (maxL := 2) (ret := none) (by decide) rfl ?_
  intro p e s m args below meth c s₁ B hml hv
  obtain ⟨rfl, ⟨hsz, hP, hK, hD0⟩, hX⟩ := hv
  have hx := B.exec
  have hb := B.bytes
  have hr := B.returns
  have hts := atoms_spec (ws := (jk yX7_expect cX7_expect 2 none)) B.pre
  have hj : ∀ w ∈ jw, w.before ([.ref p0.toNat, .int (iI p1)] : List Value).toArray s = true := fun w h => hts w (jm h)
  have hown : s.vm.findClass RX7 = some m.cls := findClass_of_methodNamed B.named
  subst hsz
  have hD := hD0.self (sz := s.heap.size)
  generalize hAe : (va_A (xG L cid K N v) s.heap.size) = A at hD hX ⊢
  have hA : ∀ q : Nat, s.heap.size ≤ q → A q := fun q h => by rw [← hAe]; exact Or.inr h
  have hS : va_S A s.heap s.heap [] := va_S.rf
  have hXa := hX
  have hP : va_P (dC, dI) vwCl (xG L cid K N v) s.heap := hP
  have hl := lv_entry ([.ref p0.toNat, .int (iI p1)]) (n := 2) (Nat.le_of_ble_eq_true rfl)
  rw [lg_entry_eq]
  generalize (lg_sl ([.ref p0.toNat, .int (iI p1)]) ++ List.replicate (2 - (lg_sl ([.ref p0.toNat, .int (iI p1)])).length) Slot.unset).toArray = ls at hl ⊢
  have hl : lv_has ls 2 [(0, .ref p0.toNat), (1, .int (iI p1))] := hl
  generalize hQ : MQ below (va_Qv (fun (u : (Int → Int → Int)) => (xI L K N u) ∧ (fr K [(7, 7), (7, 8)] u v) ∧ (jF (v p0 8 ≠ -1) (u p0 8 = v p0 8)) ∧ (0 ≤ u p0 7 ∧ v p0 7 ≤ u p0 7 ∧ u p0 7 < v p0 6) ∧ (jF (v p0 8 = -1 ∧ u p0 8 = -1) (v p0 7 + 1 ≤ u p0 7)) ∧ (∀ x9 d9 : Int, x9 = 100 + p1 → EP tT tN [x9] d9 (v p0 8) (v p0 7) (u p0 8) (u p0 7) [] d9)) (fun u t => va_P (dC, dI) vwCl (xG L cid K N u) t.heap ∧ va_K (dC, dI) vwCl (xT cid) t ∧ va_D A (xG L cid K N u)) A) ([.ref p0.toNat, .int (iI p1)] : List Value).toArray s 0 0 A = Q
  suffices ST : ∀ (H : Heap) (locs : List Loc), va_P (dC, dI) vwCl (xG L cid K N v) H → va_S A s.heap H locs → W p l e ({ frames := 1, cells := 0, slots := 0, locals := 20 }) s m ([.ref p0.toNat, .int (iI p1)] : List Value).toArray below meth c H locs 0 0 Q (F0 m 0 ls []) from ST _ _ hP hS
  clear hP hS
  intro H locs hP hS
  have hTK := tks_m k1
  refine lv_aload_n hx hb dX7_expect_0 rfl (lv_at hl 0 rfl) ?_
  have h_1 : (-2147483648) ≤ v p0 7 ∧ v p0 7 ≤ 2147483647 := xf_7_7 hI q0
  have h_2 : (-2147483648) ≤ v p0 6 ∧ v p0 6 ≤ 2147483647 := xf_7_6 hI q0
  refine jc_i (va_runV (As := []) (rest := []) ⟨hx, hb, hml, hown, hts⟩ (sX7_kind l dC dI _ L cid K N tW sK sV v tT tN p0 hI q0 k1 (by omega)) (cwV 0 hts (jgoodV m_674 m_675 m_676 m_677 m_678) rfl rfl rfl (by decide +kernel) ⟨(Nat.le_of_ble_eq_true rfl), (Nat.le_of_ble_eq_true rfl)⟩) ⟨xP_blind, xrecv hK hP q0 rfl rfl, fun U hU hW => ⟨rfl, xP_of hU hW hP hK hD hX hS (fun _ h => h) hA⟩⟩ rfl rfl hl.1 rfl (lv_room (Nat.le_of_ble_eq_true rfl)) dX7_expect_1 ⟨(Nat.le_of_ble_eq_true rfl), (Nat.le_of_ble_eq_true rfl)⟩) hP hS hA (fun r_3 H locs w_4 hP hS => ?_)
  obtain ⟨z_5, rfl, h_6, h_7, h_8⟩ := w_4
  refine lv_iload_n hx hb dX7_expect_4 rfl (lv_at hl 1 rfl) ?_
  have J12 : ∀ (vc12 : Int → Int → Int) (H : Heap) (locs : List Loc) (ls : Array Slot), ((tkd tT tN (tkx tT tN (v p0 7)) = p1 ∧ vc12 p0 8 = v p0 8) ∨ (tkd tT tN (tkx tT tN (v p0 7)) ≠ p1 ∧ ((v p0 8 ≠ -1 ∧ vc12 p0 8 = v p0 8) ∨ (v p0 8 = -1 ∧ vc12 p0 8 = tkx tT tN (v p0 7) ∧ 0 ≤ vc12 p0 8)))) → (vc12 p0 8 ≠ -1 ∨ v p0 7 + 1 < v p0 6) → fr K [(7, 8)] vc12 v → xI L K N vc12 → va_P (dC, dI) vwCl (xG L cid K N vc12) H → va_D A (xG L cid K N vc12) → va_S A s.heap H locs → lv_has ls 2 [(0, .ref p0.toNat), (1, .int (iI p1))] → W p l e ({ frames := 1, cells := 0, slots := 0, locals := 20 }) s m ([.ref p0.toNat, .int (iI p1)] : List Value).toArray below meth c H locs 0 0 Q (F0 m 12 ls []) := by
    intro vc12 H locs ls h_9 h_10 f_11 I_12 hP hD hS hl
    refine lv_aload_n hx hb dX7_expect_12 rfl (lv_at hl 0 rfl) ?_
    have b_13 : vc12 p0 7 = v p0 7 := (fr_use q0 f_11 rfl)
    refine jcg_v (va_runV (As := []) (rest := []) ⟨hx, hb, hml, hown, hts⟩ (sX7_advance l dC dI _ L cid K N tW sK sV vc12 p0 I_12 q0 (by omega)) (cwV 0 hts (jgoodV m_692 m_693 m_694 m_677 m_695) rfl rfl rfl (by decide +kernel) ⟨(Nat.le_of_ble_eq_true rfl), (Nat.le_of_ble_eq_true rfl)⟩) ⟨xP_blind, xrecv hK hP q0 rfl rfl, fun U hU hW => ⟨rfl, xP_of hU hW hP hK hD hX hS (fun _ h => h) hA⟩⟩ rfl rfl hl.1 rfl (lv_room (Nat.le_of_ble_eq_true rfl)) dX7_expect_13 ⟨(Nat.le_of_ble_eq_true rfl), (Nat.le_of_ble_eq_true rfl)⟩) hD hS hA (fun v_18 H locs w_15 hP hK hD hS => ?_)
    obtain ⟨I_20, f_19, h_17⟩ := w_15
    have hP : va_P (dC, dI) vwCl (xG L cid K N v_18) H := hP
    have hD : va_D A (xG L cid K N v_18) := hD
    have b_21 : vc12 p0 7 = v p0 7 := (fr_use q0 f_11 rfl)
    have h_22 : (-2147483648) ≤ vc12 p0 8 ∧ vc12 p0 8 ≤ 2147483647 := xf_7_8 I_12 q0
    have h_23 : (-2147483648) ≤ v_18 p0 7 ∧ v_18 p0 7 ≤ 2147483647 := xf_7_7 I_20 q0
    have h_24 : (-2147483648) ≤ v p0 8 ∧ v p0 8 ≤ 2147483647 := xf_7_8 hI q0
    have b_25 : v_18 p0 8 = vc12 p0 8 := (fr_use q0 f_19 rfl)
    rw [← hQ]
    exact W.vret hx hb hr (fun t ht hW => ⟨⟨v_18, rfl, ⟨I_20, (fr_tr f_19 rfl (fr_tr f_11 rfl fr_rf)), by unfold jF; omega, by omega, by unfold jF; omega, by intro x9 d9 e9; exact EP_exp (f1 := v_18 p0 8) (by omega) (by omega) (by omega) (by omega)⟩, by rw [ht]; exact hP, va_K.moved hW.alike hK, hD⟩, hS.F ht⟩) hS.2.2 dX7_expect_16
  refine xr_icmp_eq (tgt := 12) hx hb dX7_expect_5 (by decide) (by omega) (by omega) (fun h_26 => ?_) (fun h_26 => ?_)
  · exact J12 v H locs ls (by omega) (by omega) fr_rf hI hP hD hS hl
  · refine lv_aload_n hx hb dX7_expect_8 rfl (lv_at hl 0 rfl) ?_
    refine jcg_v (va_runV (As := []) (rest := []) ⟨hx, hb, hml, hown, hts⟩ (sX7_refuse l dC dI _ L cid K N tW sK sV v tT tN p0 hI q0 k1 (by omega)) (cwV 0 hts (jgoodV m_683 m_684 m_685 m_677 m_686) rfl rfl rfl (by decide +kernel) ⟨(Nat.le_of_ble_eq_true rfl), (Nat.le_of_ble_eq_true rfl)⟩) ⟨xP_blind, xrecv hK hP q0 rfl rfl, fun U hU hW => ⟨rfl, xP_of hU hW hP hK hD hX hS (fun _ h => h) hA⟩⟩ rfl rfl hl.1 rfl (lv_room (Nat.le_of_ble_eq_true rfl)) dX7_expect_9 ⟨(Nat.le_of_ble_eq_true rfl), (Nat.le_of_ble_eq_true rfl)⟩) hD hS hA (fun v_31 H locs w_28 hP hK hD hS => ?_)
    obtain ⟨I_33, f_32, h_30⟩ := w_28
    have hP : va_P (dC, dI) vwCl (xG L cid K N v_31) H := hP
    have hD : va_D A (xG L cid K N v_31) := hD
    have h_34 : (-2147483648) ≤ v p0 8 ∧ v p0 8 ≤ 2147483647 := xf_7_8 hI q0
    have h_35 : (-2147483648) ≤ v_31 p0 8 ∧ v_31 p0 8 ≤ 2147483647 := xf_7_8 I_33 q0
    have b_36 : v_31 p0 7 = v p0 7 := (fr_use q0 f_32 rfl)
    exact J12 v_31 H locs ls (by omega) (by omega) (fr_tr f_32 rfl fr_rf) I_33 hP hD hS hl
set_option maxHeartbeats 2000000 in
set_option maxRecDepth 100000 in
theorem sX7_readFactor_q7 (l : Launch) (dC : Nat → ClassId) (dI : Nat → Nat → Nat) (sz : Nat) (L : List Nat) (cid : Nat → ClassId) (K : Int → Nat) (N : Int → Int) (tW : Nat) (sK sV : Nat → Nat) (v : Int → Int → Int) (tT : Int → Int) (tN : Int) (p0 : Int) (p1 : Int) (hI : xI L K N v) (q0 : ok L K p0 7) (q1 : rg p1) (k1 : 7 ≤ p1 ∧ p1 ≤ 7) (k2 : tks tT tN v p0) (k3 : 0 ≤ v p0 7 ∧ v p0 7 < v p0 6) : Met l yX7_readFactor (jk yX7_readFactor cX7_readFactor 4 none) ({ frames := 5, cells := 0, slots := 0, locals := 109 }) (va_Pc [.ref p0.toNat, .int (iI p1)] (xP (dC, dI) (xG L cid K N v) (xT cid) tW sK sV sz)) (va_Qv (fun (u : (Int → Int → Int)) => (xI L K N u) ∧ (fr K [(7, 7), (7, 8), (7, 10), (25, (-1))] u v) ∧ (jF (v p0 8 ≠ -1) (u p0 8 = v p0 8)) ∧ (0 ≤ u p0 7 ∧ v p0 7 ≤ u p0 7 ∧ u p0 7 < v p0 6) ∧ (jF (v p0 8 = -1 ∧ u p0 8 = -1) (v p0 7 + 1 ≤ u p0 7)) ∧ (EP tT tN [5] p1 (v p0 8) (v p0 7) (u p0 8) (u p0 7) [] p1)) (fun u t => va_P (dC, dI) vwCl (xG L cid K N u) t.heap ∧ va_K (dC, dI) vwCl (xT cid) t ∧ va_D (va_A (xG L cid K N v) sz) (xG L cid K N u)) (va_A (xG L cid K N v) sz)) 0 0 (va_A (xG L cid K N v) sz) := by
  refine Met.ofW (cc := cX7_readFactor) (maxL := 4) (ret := none) (by decide) rfl ?_
  intro p e s m args below meth c s₁ B hml hv
  obtain ⟨rfl, ⟨hsz, hP, hK, hD0⟩, hX⟩ := hv
  have hx := B.exec
  have hb := B.bytes
  have hr := B.returns
  have hts := atoms_spec (ws := (jk yX7_readFactor cX7_readFactor 4 none)) B.pre
  have hj : ∀ w ∈ jw, w.before ([.ref p0.toNat, .int (iI p1)] : List Value).toArray s = true := fun w h => hts w (jm h)
  have hown : s.vm.findClass RX7 = some m.cls := findClass_of_methodNamed B.named
  subst hsz
  have hD := hD0.self (sz := s.heap.size)
  generalize hAe : (va_A (xG L cid K N v) s.heap.size) = A at hD hX ⊢
  have hA : ∀ q : Nat, s.heap.size ≤ q → A q := fun q h => by rw [← hAe]; exact Or.inr h
  have hS : va_S A s.heap s.heap [] := va_S.rf
  have hXa := hX
  have hP : va_P (dC, dI) vwCl (xG L cid K N v) s.heap := hP
  have hl := lv_entry ([.ref p0.toNat, .int (iI p1)]) (n := 4) (Nat.le_of_ble_eq_true rfl)
  rw [lg_entry_eq]
  generalize (lg_sl ([.ref p0.toNat, .int (iI p1)]) ++ List.replicate (4 - (lg_sl ([.ref p0.toNat, .int (iI p1)])).length) Slot.unset).toArray = ls at hl ⊢
  have hl : lv_has ls 4 [(0, .ref p0.toNat), (1, .int (iI p1))] := hl
  generalize hQ : MQ below (va_Qv (fun (u : (Int → Int → Int)) => (xI L K N u) ∧ (fr K [(7, 7), (7, 8), (7, 10), (25, (-1))] u v) ∧ (jF (v p0 8 ≠ -1) (u p0 8 = v p0 8)) ∧ (0 ≤ u p0 7 ∧ v p0 7 ≤ u p0 7 ∧ u p0 7 < v p0 6) ∧ (jF (v p0 8 = -1 ∧ u p0 8 = -1) (v p0 7 + 1 ≤ u p0 7)) ∧ (EP tT tN [5] p1 (v p0 8) (v p0 7) (u p0 8) (u p0 7) [] p1)) (fun u t => va_P (dC, dI) vwCl (xG L cid K N u) t.heap ∧ va_K (dC, dI) vwCl (xT cid) t ∧ va_D A (xG L cid K N u)) A) ([.ref p0.toNat, .int (iI p1)] : List Value).toArray s 0 0 A = Q
  suffices ST : ∀ (H : Heap) (locs : List Loc), va_P (dC, dI) vwCl (xG L cid K N v) H → va_S A s.heap H locs → W p l e ({ frames := 5, cells := 0, slots := 0, locals := 109 }) s m ([.ref p0.toNat, .int (iI p1)] : List Value).toArray below meth c H locs 0 0 Q (F0 m 0 ls []) from ST _ _ hP hS
  clear hP hS
  intro H locs hP hS
  have hTK := tks_m k2
  have rp_1 : EP tT tN [5] p1 (v p0 8) (v p0 7) (v p0 8) (v p0 7) [5] p1 := EP_0
  refine lv_aload_n hx hb dX7_readFactor_0 rfl (lv_at hl 0 rfl) ?_
  have h_2 : (-2147483648) ≤ v p0 8 ∧ v p0 8 ≤ 2147483647 := xf_7_8 hI q0
  refine gx_RX7_50 (y := v p0 8) hx hb hj hown hK hP q0 rfl dX7_readFactor_1 ?_
  refine lv_iconst (v := iI (-1)) hx hb dX7_readFactor_4 rfl ?_
  refine xr_icmp_eq (tgt := 9) hx hb dX7_readFactor_5 (by decide) (by omega) (by omega) (fun h_3 => ?_) (fun h_3 => ?_)
  · refine lv_aload_n hx hb dX7_readFactor_9 rfl (lv_at hl 0 rfl) ?_
    have h_4 : (-2147483648) ≤ v p0 7 ∧ v p0 7 ≤ 2147483647 := xf_7_7 hI q0
    have h_5 : (-2147483648) ≤ v p0 6 ∧ v p0 6 ≤ 2147483647 := xf_7_6 hI q0
    refine jc_i (va_runV (As := []) (rest := []) ⟨hx, hb, hml, hown, hts⟩ (sX7_kind l dC dI _ L cid K N tW sK sV v tT tN p0 hI q0 k2 (by omega)) (cwV 0 hts (jgoodV m_674 m_675 m_676 m_677 m_678) rfl rfl rfl (by decide +kernel) ⟨(Nat.le_of_ble_eq_true rfl), (Nat.le_of_ble_eq_true rfl)⟩) ⟨xP_blind, xrecv hK hP q0 rfl rfl, fun U hU hW => ⟨rfl, xP_of hU hW hP hK hD hX hS (fun _ h => h) hA⟩⟩ rfl rfl hl.1 rfl (lv_room (Nat.le_of_ble_eq_true rfl)) dX7_readFactor_10 ⟨(Nat.le_of_ble_eq_true rfl), (Nat.le_of_ble_eq_true rfl)⟩) hP hS hA (fun r_6 H locs w_7 hP hS => ?_)
    obtain ⟨z_8, rfl, h_9, h_10, h_11⟩ := w_7
    refine lv_istore_n (i := 2) (lv' := [(2, .int (iI z_8)), (0, .ref p0.toNat), (1, .int (iI p1))]) hx hb dX7_readFactor_13 rfl hl (by decide) rfl (fun ls hl => ?_)
    refine lv_aload_n hx hb dX7_readFactor_14 rfl (lv_at hl 1 rfl) ?_
    refine jc_i (va_runV (As := []) (rest := []) ⟨hx, hb, hml, hown, hts⟩ (sX7_word l dC dI _ L cid K N tW sK sV v tT tN p0 hI q0 k2 (by omega)) (cwV 0 hts (jgoodV m_679 m_680 m_681 m_677 m_682) rfl rfl rfl (by decide +kernel) ⟨(Nat.le_of_ble_eq_true rfl), (Nat.le_of_ble_eq_true rfl)⟩) ⟨xP_blind, xrecv hK hP q0 rfl rfl, fun U hU hW => ⟨rfl, xP_of hU hW hP hK hD hX hS (fun _ h => h) hA⟩⟩ rfl rfl hl.1 rfl (lv_room (Nat.le_of_ble_eq_true rfl)) dX7_readFactor_15 ⟨(Nat.le_of_ble_eq_true rfl), (Nat.le_of_ble_eq_true rfl)⟩) hP hS hA (fun r_12 H locs w_13 hP hS => ?_)
    obtain ⟨z_14, rfl, h_15, h_16, h_17⟩ := w_13
    refine lv_istore_n (i := 3) (lv' := [(3, .int (iI z_14)), (2, .int (iI z_8)), (0, .ref p0.toNat), (1, .int (iI p1))]) hx hb dX7_readFactor_18 rfl hl (by decide) rfl (fun ls hl => ?_)
    refine lv_iload_n hx hb dX7_readFactor_19 rfl (lv_at hl 0 rfl) ?_
    refine lv_bipush (v := iI 12) hx hb dX7_readFactor_20 rfl ?_
    have J48 : ∀ (H : Heap) (locs : List Loc) (ls : Array Slot), (z_14 < 12 ∨ 20 < z_14) → va_P (dC, dI) vwCl (xG L cid K N v) H → va_D A (xG L cid K N v) → va_S A s.heap H locs → lv_has ls 4 [(3, .int (iI z_14)), (2, .int (iI z_8)), (0, .ref p0.toNat), (1, .int (iI p1))] → W p l e ({ frames := 5, cells := 0, slots := 0, locals := 109 }) s m ([.ref p0.toNat, .int (iI p1)] : List Value).toArray below meth c H locs 0 0 Q (F0 m 48 ls []) := by
      intro H locs ls h_18 hP hD hS hl
      refine lv_iload_n hx hb dX7_readFactor_48 rfl (lv_at hl 1 rfl) ?_
      refine lv_iconst (v := iI 2) hx hb dX7_readFactor_49 rfl ?_
      have J87 : ∀ (H : Heap) (locs : List Loc) (ls : Array Slot), (z_8 ≠ 2 ∨ 99999 < tnm tT tN (tkx tT tN (v p0 7))) → va_P (dC, dI) vwCl (xG L cid K N v) H → va_D A (xG L cid K N v) → va_S A s.heap H locs → lv_has ls 4 [(3, .int (iI z_14)), (2, .int (iI z_8)), (0, .ref p0.toNat), (1, .int (iI p1))] → W p l e ({ frames := 5, cells := 0, slots := 0, locals := 109 }) s m ([.ref p0.toNat, .int (iI p1)] : List Value).toArray below meth c H locs 0 0 Q (F0 m 87 ls []) := by
        intro H locs ls h_19 hP hD hS hl
        refine lv_iload_n hx hb dX7_readFactor_87 rfl (lv_at hl 1 rfl) ?_
        refine lv_bipush (v := iI 40) hx hb dX7_readFactor_88 rfl ?_
        refine xr_icmp_ne (tgt := 119) hx hb dX7_readFactor_90 (by decide) (by omega) (by omega) (fun h_20 => ?_) (fun h_20 => ?_)
        · refine lv_aload_n hx hb dX7_readFactor_119 rfl (lv_at hl 2 rfl) ?_
          refine jcg_v (va_runV (As := []) (rest := []) ⟨hx, hb, hml, hown, hts⟩ (sX7_refuse l dC dI _ L cid K N tW sK sV v tT tN p0 hI q0 k2 (by omega)) (cwV 0 hts (jgoodV m_683 m_684 m_685 m_677 m_686) rfl rfl rfl (by decide +kernel) ⟨(Nat.le_of_ble_eq_true rfl), (Nat.le_of_ble_eq_true rfl)⟩) ⟨xP_blind, xrecv hK hP q0 rfl rfl, fun U hU hW => ⟨rfl, xP_of hU hW hP hK hD hX hS (fun _ h => h) hA⟩⟩ rfl rfl hl.1 rfl (lv_room (Nat.le_of_ble_eq_true rfl)) dX7_readFactor_120 ⟨(Nat.le_of_ble_eq_true rfl), (Nat.le_of_ble_eq_true rfl)⟩) hD hS hA (fun v_25 H locs w_22 hP hK hD hS => ?_)
          obtain ⟨I_27, f_26, h_24⟩ := w_22
          have hP : va_P (dC, dI) vwCl (xG L cid K N v_25) H := hP
          have hD : va_D A (xG L cid K N v_25) := hD
          have h_28 : (-2147483648) ≤ v_25 p0 8 ∧ v_25 p0 8 ≤ 2147483647 := xf_7_8 I_27 q0
          have rp_29 : EP tT tN [5] p1 (v p0 8) (v p0 7) (v_25 p0 8) (v p0 7) [] (p1) := EP_5b rp_1 (by omega) (by omega) (by omega) (by omega)
          have b_30 : v_25 p0 7 = v p0 7 := (fr_use q0 f_26 rfl)
          rw [← hQ]
          exact W.vret hx hb hr (fun t ht hW => ⟨⟨v_25, rfl, ⟨I_27, (fr_tr f_26 rfl fr_rf), by unfold jF; omega, by omega, by unfold jF; omega, by first | exact (by rw [show v_25 p0 7 = v p0 7 from (fr_use q0 f_26 rfl)]; exact rp_29) | exact EP_x (by omega)⟩, by rw [ht]; exact hP, va_K.moved hW.alike hK, hD⟩, hS.F ht⟩) hS.2.2 dX7_readFactor_123
        · refine lv_iload_n hx hb dX7_readFactor_93 rfl (lv_at hl 3 rfl) ?_
          refine lv_bipush (v := iI 8) hx hb dX7_readFactor_94 rfl ?_
          refine xr_icmp_ge (tgt := 119) hx hb dX7_readFactor_96 (by decide) (by omega) (by omega) (fun h_31 => ?_) (fun h_31 => ?_)
          · exfalso; omega
          · refine lv_aload_n hx hb dX7_readFactor_99 rfl (lv_at hl 2 rfl) ?_
            refine jcg_v (va_runV (As := []) (rest := []) ⟨hx, hb, hml, hown, hts⟩ (sX7_advance l dC dI _ L cid K N tW sK sV v p0 hI q0 (by omega)) (cwV 0 hts (jgoodV m_692 m_693 m_694 m_677 m_695) rfl rfl rfl (by decide +kernel) ⟨(Nat.le_of_ble_eq_true rfl), (Nat.le_of_ble_eq_true rfl)⟩) ⟨xP_blind, xrecv hK hP q0 rfl rfl, fun U hU hW => ⟨rfl, xP_of hU hW hP hK hD hX hS (fun _ h => h) hA⟩⟩ rfl rfl hl.1 rfl (lv_room (Nat.le_of_ble_eq_true rfl)) dX7_readFactor_100 ⟨(Nat.le_of_ble_eq_true rfl), (Nat.le_of_ble_eq_true rfl)⟩) hD hS hA (fun v_36 H locs w_33 hP hK hD hS => ?_)
            obtain ⟨I_38, f_37, h_35⟩ := w_33
            have hP : va_P (dC, dI) vwCl (xG L cid K N v_36) H := hP
            have hD : va_D A (xG L cid K N v_36) := hD
            have h_39 : (-2147483648) ≤ v_36 p0 7 ∧ v_36 p0 7 ≤ 2147483647 := xf_7_7 I_38 q0
            have rp_40 : EP tT tN [5] p1 (v p0 8) (v p0 7) (v p0 8) (v_36 p0 7) [1, 141, 12] (p1 + 1) := EP_5p rp_1 (by omega) (by omega) (by omega)
            refine lv_aload_n hx hb dX7_readFactor_103 rfl (lv_at hl 2 rfl) ?_
            refine lv_iload_n hx hb dX7_readFactor_104 rfl (lv_at hl 3 rfl) ?_
            refine lv_iconst (v := iI 1) hx hb dX7_readFactor_105 rfl ?_
            refine xr_add hx hb dX7_readFactor_106 ?_
            have b_41 : v_36 p0 6 = v p0 6 := (fr_use q0 f_37 rfl)
            refine jcg_v (va_runV (As := [.int (iI (p1 + 1))]) (rest := []) ⟨hx, hb, hml, hown, hts⟩ (sX7_readSum_q8 l dC dI _ L cid K N tW sK sV v_36 tT tN p0 (p1 + 1) I_38 q0 (by omega) (by omega) (tks_fr hI q0 (show fr K [(7, 7)] v_36 v from (fr_tr f_37 rfl fr_rf)) rfl rfl rfl rfl rfl rfl rfl (fun _ => rfl) (fun _ => rfl) (fun _ => rfl) (fun _ => rfl) (fun _ => rfl) k2) (by omega)) (cwV 1 hts (jgoodV m_704 m_705 m_706 m_677 m_707) rfl rfl rfl (by decide +kernel) ⟨(Nat.le_of_ble_eq_true rfl), (Nat.le_of_ble_eq_true rfl)⟩) ⟨xP_blind, xrecv hK hP q0 rfl rfl, fun U hU hW => ⟨rfl, xP_of hU hW hP hK hD hX hS (fun _ h => h) hA⟩⟩ rfl rfl hl.1 rfl (lv_room (Nat.le_of_ble_eq_true rfl)) dX7_readFactor_107 ⟨(Nat.le_of_ble_eq_true rfl), (Nat.le_of_ble_eq_true rfl)⟩) hD hS hA (fun v_49 H locs w_43 hP hK hD hS => ?_)
            obtain ⟨I_51, f_50, h_45, h_46, h_47, h_48⟩ := w_43
            have hP : va_P (dC, dI) vwCl (xG L cid K N v_49) H := hP
            have hD : va_D A (xG L cid K N v_49) := hD
            have b_52 : v_36 p0 6 = v p0 6 := (fr_use q0 f_37 rfl)
            have b_53 : v_36 p0 8 = v p0 8 := (fr_use q0 f_37 rfl)
            have h_54 : (-2147483648) ≤ v_49 p0 8 ∧ v_49 p0 8 ≤ 2147483647 := xf_7_8 I_51 q0
            have h_55 : (-2147483648) ≤ v_49 p0 7 ∧ v_49 p0 7 ≤ 2147483647 := xf_7_7 I_51 q0
            rw [show v_36 p0 8 = v p0 8 from (fr_use q0 f_37 rfl)] at h_45
            rw [show v_36 p0 8 = v p0 8 from (fr_use q0 f_37 rfl)] at h_47
            rw [show v_36 p0 8 = v p0 8 from (fr_use q0 f_37 rfl)] at h_48
            have rp_56 : EP tT tN [5] p1 (v p0 8) (v p0 7) (v_49 p0 8) (v_49 p0 7) [141, 12] (p1 + 1) := EP_c rp_40 h_48 h_45
            have g_57 : v_49 p0 8 ≠ -1 ∨ v_36 p0 7 + 1 ≤ v_49 p0 7 := jF_2 h_47 (by omega)
            refine lv_aload_n hx hb dX7_readFactor_110 rfl (lv_at hl 2 rfl) ?_
            refine lv_bipush (v := iI 41) hx hb dX7_readFactor_111 rfl ?_
            have b_58 : v_49 p0 6 = v p0 6 := (((fr_use q0 f_50 rfl)).trans (fr_use q0 f_37 rfl))
            refine jcg_v (va_runV (As := [.int (iI 41)]) (rest := []) ⟨hx, hb, hml, hown, hts⟩ (sX7_expect l dC dI _ L cid K N tW sK sV v_49 tT tN p0 41 I_51 q0 (by omega) (tks_fr hI q0 (show fr K [(7, 7), (7, 8), (7, 10), (25, (-1))] v_49 v from (fr_tr f_50 rfl (fr_tr f_37 rfl fr_rf))) rfl rfl rfl rfl rfl rfl rfl (fun _ => rfl) (fun _ => rfl) (fun _ => rfl) (fun _ => rfl) (fun _ => rfl) k2) (by omega) (by omega)) (cwV 1 hts (jgoodV m_708 m_709 m_710 m_677 m_711) rfl rfl rfl (by decide +kernel) ⟨(Nat.le_of_ble_eq_true rfl), (Nat.le_of_ble_eq_true rfl)⟩) ⟨xP_blind, xrecv hK hP q0 rfl rfl, fun U hU hW => ⟨rfl, xP_of hU hW hP hK hD hX hS (fun _ h => h) hA⟩⟩ rfl rfl hl.1 rfl (lv_room (Nat.le_of_ble_eq_true rfl)) dX7_readFactor_113 ⟨(Nat.le_of_ble_eq_true rfl), (Nat.le_of_ble_eq_true rfl)⟩) hD hS hA (fun v_66 H locs w_60 hP hK hD hS => ?_)
            obtain ⟨I_68, f_67, h_62, h_63, h_64, h_65⟩ := w_60
            have hP : va_P (dC, dI) vwCl (xG L cid K N v_66) H := hP
            have hD : va_D A (xG L cid K N v_66) := hD
            have b_69 : v_49 p0 6 = v p0 6 := (((fr_use q0 f_50 rfl)).trans (fr_use q0 f_37 rfl))
            have h_70 : (-2147483648) ≤ v_66 p0 8 ∧ v_66 p0 8 ≤ 2147483647 := xf_7_8 I_68 q0
            have h_71 : (-2147483648) ≤ v_66 p0 7 ∧ v_66 p0 7 ≤ 2147483647 := xf_7_7 I_68 q0
            have rp_72 : EP tT tN [5] p1 (v p0 8) (v p0 7) (v_66 p0 8) (v_66 p0 7) [12] (p1 + 1) := EP_c rp_56 (h_65 141 (p1 + 1) (by omega)) h_62
            have g_73 : v_49 p0 8 = -1 ∨ v_66 p0 8 = v_49 p0 8 := jF_o h_62
            have g_74 : v_49 p0 8 ≠ -1 ∨ v_66 p0 8 ≠ -1 ∨ v_49 p0 7 + 1 ≤ v_66 p0 7 := jF_3 h_64
            have rp_75 : EP tT tN [5] p1 (v p0 8) (v p0 7) (v_66 p0 8) (v_66 p0 7) [] (p1) := by have h9 := EP_12 rp_72; rw [show p1 + 1 - 1 = p1 by omega] at h9; exact h9
            refine lv_goto (tgt := 123) hx hb dX7_readFactor_116 (by decide) ?_
            rw [← hQ]
            exact W.vret hx hb hr (fun t ht hW => ⟨⟨v_66, rfl, ⟨I_68, (fr_tr f_67 rfl (fr_tr f_50 rfl (fr_tr f_37 rfl fr_rf))), by unfold jF; omega, by omega, by unfold jF; omega, by first | exact rp_75 | exact EP_x (by omega)⟩, by rw [ht]; exact hP, va_K.moved hW.alike hK, hD⟩, hS.F ht⟩) hS.2.2 dX7_readFactor_123
      refine xr_icmp_ne (tgt := 87) hx hb dX7_readFactor_50 (by decide) (by omega) (by omega) (fun h_76 => ?_) (fun h_76 => ?_)
      · exact J87 H locs ls (by omega) hP hD hS hl
      · have h9 := tks_num k2 (j := v p0 7) (by omega) (by omega)
        refine lv_aload_n hx hb dX7_readFactor_53 rfl (lv_at hl 2 rfl) ?_
        have h_77 : ok L K (v p0 5) 24 := xf_7_5 hI q0
        have h_78 : N (v p0 5) = 601 := xn_24 hI h_77
        refine gx_RX7_25 (y := v p0 5) hx hb hj hown hK hP q0 ((xf_7_5 hI q0).1) rfl dX7_readFactor_54 ?_
        refine lv_aload_n hx hb dX7_readFactor_57 rfl (lv_at hl 2 rfl) ?_
        refine gx_RX7_53 (y := v p0 7) hx hb hj hown hK hP q0 rfl dX7_readFactor_58 ?_
        have h_79 : (-2147483648) ≤ v (v p0 5) (v p0 7) ∧ v (v p0 5) (v p0 7) ≤ 2147483647 := xe_24 hI h_77 (by omega)
        refine ax_24 (y := v (v p0 5) (v p0 7)) hx hb hK hP h_77 (by omega) (by omega) (by omega) rfl dX7_readFactor_61 ?_
        refine lv_ldc hx hb hown (hts (.constant RX7 140 99999) (jm m_687)) dX7_readFactor_62 ?_
        refine jt_i (iI 99999) (by decide) ?_
        refine xr_icmp_gt (tgt := 87) hx hb dX7_readFactor_64 (by decide) (by omega) (by omega) (fun h_80 => ?_) (fun h_80 => ?_)
        · exact J87 H locs ls (by omega) hP hD hS hl
        · refine lv_aload_n hx hb dX7_readFactor_67 rfl (lv_at hl 2 rfl) ?_
          refine lv_aload_n hx hb dX7_readFactor_68 rfl (lv_at hl 2 rfl) ?_
          refine gx_RX7_25 (y := v p0 5) hx hb hj hown hK hP q0 ((xf_7_5 hI q0).1) rfl dX7_readFactor_69 ?_
          refine lv_aload_n hx hb dX7_readFactor_72 rfl (lv_at hl 2 rfl) ?_
          refine gx_RX7_53 (y := v p0 7) hx hb hj hown hK hP q0 rfl dX7_readFactor_73 ?_
          refine ax_24 (y := v (v p0 5) (v p0 7)) hx hb hK hP h_77 (by omega) (by omega) (by omega) rfl dX7_readFactor_76 ?_
          refine jcg_v (va_runV (As := [.int (iI (v (v p0 5) (v p0 7)))]) (rest := []) ⟨hx, hb, hml, hown, hts⟩ (sX7_emit l dC dI _ L cid K N tW sK sV v p0 (v (v p0 5) (v p0 7)) hI q0 (by omega)) (cwV 1 hts (jgoodV m_688 m_689 m_690 m_677 m_691) rfl rfl rfl (by decide +kernel) ⟨(Nat.le_of_ble_eq_true rfl), (Nat.le_of_ble_eq_true rfl)⟩) ⟨xP_blind, xrecv hK hP q0 rfl rfl, fun U hU hW => ⟨rfl, xP_of hU hW hP hK hD hX hS (fun _ h => h) hA⟩⟩ rfl rfl hl.1 rfl (lv_room (Nat.le_of_ble_eq_true rfl)) dX7_readFactor_77 ⟨(Nat.le_of_ble_eq_true rfl), (Nat.le_of_ble_eq_true rfl)⟩) hD hS hA (fun v_84 H locs w_82 hP hK hD hS => ?_)
          obtain ⟨I_86, f_85⟩ := w_82
          have hP : va_P (dC, dI) vwCl (xG L cid K N v_84) H := hP
          have hD : va_D A (xG L cid K N v_84) := hD
          refine lv_aload_n hx hb dX7_readFactor_80 rfl (lv_at hl 2 rfl) ?_
          have b_87 : v_84 p0 7 = v p0 7 := (fr_use q0 f_85 rfl)
          refine jcg_v (va_runV (As := []) (rest := []) ⟨hx, hb, hml, hown, hts⟩ (sX7_advance l dC dI _ L cid K N tW sK sV v_84 p0 I_86 q0 (by omega)) (cwV 0 hts (jgoodV m_692 m_693 m_694 m_677 m_695) rfl rfl rfl (by decide +kernel) ⟨(Nat.le_of_ble_eq_true rfl), (Nat.le_of_ble_eq_true rfl)⟩) ⟨xP_blind, xrecv hK hP q0 rfl rfl, fun U hU hW => ⟨rfl, xP_of hU hW hP hK hD hX hS (fun _ h => h) hA⟩⟩ rfl rfl hl.1 rfl (lv_room (Nat.le_of_ble_eq_true rfl)) dX7_readFactor_81 ⟨(Nat.le_of_ble_eq_true rfl), (Nat.le_of_ble_eq_true rfl)⟩) hD hS hA (fun v_92 H locs w_89 hP hK hD hS => ?_)
          obtain ⟨I_94, f_93, h_91⟩ := w_89
          have hP : va_P (dC, dI) vwCl (xG L cid K N v_92) H := hP
          have hD : va_D A (xG L cid K N v_92) := hD
          have b_95 : v_84 p0 7 = v p0 7 := (fr_use q0 f_85 rfl)
          have b_96 : v_84 p0 8 = v p0 8 := (fr_use q0 f_85 rfl)
          have h_97 : (-2147483648) ≤ v_92 p0 7 ∧ v_92 p0 7 ≤ 2147483647 := xf_7_7 I_94 q0
          have rp_98 : EP tT tN [5] p1 (v p0 8) (v p0 7) (v p0 8) (v_92 p0 7) [] (p1) := EP_5y rp_1 (by omega) (by omega) (by omega)
          refine lv_goto (tgt := 123) hx hb dX7_readFactor_84 (by decide) ?_
          have b_99 : v_92 p0 8 = v p0 8 := (((fr_use q0 f_93 rfl)).trans (fr_use q0 f_85 rfl))
          rw [← hQ]
          exact W.vret hx hb hr (fun t ht hW => ⟨⟨v_92, rfl, ⟨I_94, (fr_tr f_93 rfl (fr_tr f_85 rfl fr_rf)), by unfold jF; omega, by omega, by unfold jF; omega, by first | exact (by rw [show v_92 p0 8 = v p0 8 from (((fr_use q0 f_93 rfl)).trans (fr_use q0 f_85 rfl))]; exact rp_98) | exact EP_x (by omega)⟩, by rw [ht]; exact hP, va_K.moved hW.alike hK, hD⟩, hS.F ht⟩) hS.2.2 dX7_readFactor_123
    refine xr_icmp_lt (tgt := 48) hx hb dX7_readFactor_22 (by decide) (by omega) (by omega) (fun h_100 => ?_) (fun h_100 => ?_)
    · exact J48 H locs ls (by omega) hP hD hS hl
    · refine lv_iload_n hx hb dX7_readFactor_25 rfl (lv_at hl 0 rfl) ?_
      refine lv_bipush (v := iI 20) hx hb dX7_readFactor_26 rfl ?_
      refine xr_icmp_gt (tgt := 48) hx hb dX7_readFactor_28 (by decide) (by omega) (by omega) (fun h_101 => ?_) (fun h_101 => ?_)
      · exact J48 H locs ls (by omega) hP hD hS hl
      · refine lv_aload_n hx hb dX7_readFactor_31 rfl (lv_at hl 2 rfl) ?_
        refine lv_iconst (v := iI (-1)) hx hb dX7_readFactor_32 rfl ?_
        refine lv_iload_n hx hb dX7_readFactor_33 rfl (lv_at hl 0 rfl) ?_
        refine lv_bipush (v := iI 12) hx hb dX7_readFactor_34 rfl ?_
        refine xr_sub hx hb dX7_readFactor_36 ?_
        refine xr_sub hx hb dX7_readFactor_37 ?_
        refine jcg_v (va_runV (As := [.int (iI ((-1) - (z_14 - 12)))]) (rest := []) ⟨hx, hb, hml, hown, hts⟩ (sX7_emit l dC dI _ L cid K N tW sK sV v p0 ((-1) - (z_14 - 12)) hI q0 (by omega)) (cwV 1 hts (jgoodV m_688 m_689 m_690 m_677 m_691) rfl rfl rfl (by decide +kernel) ⟨(Nat.le_of_ble_eq_true rfl), (Nat.le_of_ble_eq_true rfl)⟩) ⟨xP_blind, xrecv hK hP q0 rfl rfl, fun U hU hW => ⟨rfl, xP_of hU hW hP hK hD hX hS (fun _ h => h) hA⟩⟩ rfl rfl hl.1 rfl (lv_room (Nat.le_of_ble_eq_true rfl)) dX7_readFactor_38 ⟨(Nat.le_of_ble_eq_true rfl), (Nat.le_of_ble_eq_true rfl)⟩) hD hS hA (fun v_105 H locs w_103 hP hK hD hS => ?_)
        obtain ⟨I_107, f_106⟩ := w_103
        have hP : va_P (dC, dI) vwCl (xG L cid K N v_105) H := hP
        have hD : va_D A (xG L cid K N v_105) := hD
        refine lv_aload_n hx hb dX7_readFactor_41 rfl (lv_at hl 2 rfl) ?_
        have b_108 : v_105 p0 7 = v p0 7 := (fr_use q0 f_106 rfl)
        refine jcg_v (va_runV (As := []) (rest := []) ⟨hx, hb, hml, hown, hts⟩ (sX7_advance l dC dI _ L cid K N tW sK sV v_105 p0 I_107 q0 (by omega)) (cwV 0 hts (jgoodV m_692 m_693 m_694 m_677 m_695) rfl rfl rfl (by decide +kernel) ⟨(Nat.le_of_ble_eq_true rfl), (Nat.le_of_ble_eq_true rfl)⟩) ⟨xP_blind, xrecv hK hP q0 rfl rfl, fun U hU hW => ⟨rfl, xP_of hU hW hP hK hD hX hS (fun _ h => h) hA⟩⟩ rfl rfl hl.1 rfl (lv_room (Nat.le_of_ble_eq_true rfl)) dX7_readFactor_42 ⟨(Nat.le_of_ble_eq_true rfl), (Nat.le_of_ble_eq_true rfl)⟩) hD hS hA (fun v_113 H locs w_110 hP hK hD hS => ?_)
        obtain ⟨I_115, f_114, h_112⟩ := w_110
        have hP : va_P (dC, dI) vwCl (xG L cid K N v_113) H := hP
        have hD : va_D A (xG L cid K N v_113) := hD
        have b_116 : v_105 p0 7 = v p0 7 := (fr_use q0 f_106 rfl)
        have b_117 : v_105 p0 8 = v p0 8 := (fr_use q0 f_106 rfl)
        have h_118 : (-2147483648) ≤ v_113 p0 7 ∧ v_113 p0 7 ≤ 2147483647 := xf_7_7 I_115 q0
        have rp_119 : EP tT tN [5] p1 (v p0 8) (v p0 7) (v p0 8) (v_113 p0 7) [] (p1) := EP_5y rp_1 (by omega) (by omega) (by omega)
        refine lv_goto (tgt := 123) hx hb dX7_readFactor_45 (by decide) ?_
        have b_120 : v_113 p0 8 = v p0 8 := (((fr_use q0 f_114 rfl)).trans (fr_use q0 f_106 rfl))
        rw [← hQ]
        exact W.vret hx hb hr (fun t ht hW => ⟨⟨v_113, rfl, ⟨I_115, (fr_tr f_114 rfl (fr_tr f_106 rfl fr_rf)), by unfold jF; omega, by omega, by unfold jF; omega, by first | exact (by rw [show v_113 p0 8 = v p0 8 from (((fr_use q0 f_114 rfl)).trans (fr_use q0 f_106 rfl))]; exact rp_119) | exact EP_x (by omega)⟩, by rw [ht]; exact hP, va_K.moved hW.alike hK, hD⟩, hS.F ht⟩) hS.2.2 dX7_readFactor_123
  · have h_121 : (-2147483648) ≤ v p0 7 ∧ v p0 7 ≤ 2147483647 := xf_7_7 hI q0
    have h_122 : (-2147483648) ≤ v p0 6 ∧ v p0 6 ≤ 2147483647 := xf_7_6 hI q0
    rw [← hQ]
    exact W.vret hx hb hr (fun t ht hW => ⟨⟨v, rfl, ⟨hI, fr_rf, by unfold jF; omega, by omega, by unfold jF; omega, by first | exact rp_1 | exact EP_x (by omega)⟩, by rw [ht]; exact hP, va_K.moved hW.alike hK, hD⟩, hS.F ht⟩) hS.2.2 dX7_readFactor_8
set_option maxHeartbeats 2000000 in
set_option maxRecDepth 100000 in
theorem sX7_readProduct_q7 (l : Launch) (dC : Nat → ClassId) (dI : Nat → Nat → Nat) (sz : Nat) (L : List Nat) (cid : Nat → ClassId) (K : Int → Nat) (N : Int → Int) (tW : Nat) (sK sV : Nat → Nat) (v : Int → Int → Int) (tT : Int → Int) (tN : Int) (p0 : Int) (p1 : Int) (hI : xI L K N v) (q0 : ok L K p0 7) (q1 : rg p1) (k1 : 7 ≤ p1 ∧ p1 ≤ 7) (k2 : tks tT tN v p0) (k3 : 0 ≤ v p0 7 ∧ v p0 7 < v p0 6) : Met l yX7_readProduct (jk yX7_readProduct cX7_readProduct 4 none) ({ frames := 6, cells := 0, slots := 0, locals := 132 }) (va_Pc [.ref p0.toNat, .int (iI p1)] (xP (dC, dI) (xG L cid K N v) (xT cid) tW sK sV sz)) (va_Qv (fun (u : (Int → Int → Int)) => (xI L K N u) ∧ (fr K [(7, 7), (7, 8), (7, 10), (25, (-1))] u v) ∧ (jF (v p0 8 ≠ -1) (u p0 8 = v p0 8)) ∧ (0 ≤ u p0 7 ∧ v p0 7 ≤ u p0 7 ∧ u p0 7 < v p0 6) ∧ (jF (v p0 8 = -1 ∧ u p0 8 = -1) (v p0 7 + 1 ≤ u p0 7)) ∧ (EP tT tN [3] p1 (v p0 8) (v p0 7) (u p0 8) (u p0 7) [] p1)) (fun u t => va_P (dC, dI) vwCl (xG L cid K N u) t.heap ∧ va_K (dC, dI) vwCl (xT cid) t ∧ va_D (va_A (xG L cid K N v) sz) (xG L cid K N u)) (va_A (xG L cid K N v) sz)) 0 0 (va_A (xG L cid K N v) sz) := by
  refine Met.ofW (cc := cX7_readProduct) (maxL := 4) (ret := none) (by decide) rfl ?_
  intro p e s m args below meth c s₁ B hml hv
  obtain ⟨rfl, ⟨hsz, hP, hK, hD0⟩, hX⟩ := hv
  have hx := B.exec
  have hb := B.bytes
  have hr := B.returns
  have hts := atoms_spec (ws := (jk yX7_readProduct cX7_readProduct 4 none)) B.pre
  have hj : ∀ w ∈ jw, w.before ([.ref p0.toNat, .int (iI p1)] : List Value).toArray s = true := fun w h => hts w (jm h)
  have hown : s.vm.findClass RX7 = some m.cls := findClass_of_methodNamed B.named
  subst hsz
  have hD := hD0.self (sz := s.heap.size)
  generalize hAe : (va_A (xG L cid K N v) s.heap.size) = A at hD hX ⊢
  have hA : ∀ q : Nat, s.heap.size ≤ q → A q := fun q h => by rw [← hAe]; exact Or.inr h
  have hS : va_S A s.heap s.heap [] := va_S.rf
  have hXa := hX
  have hP : va_P (dC, dI) vwCl (xG L cid K N v) s.heap := hP
  have hl := lv_entry ([.ref p0.toNat, .int (iI p1)]) (n := 4) (Nat.le_of_ble_eq_true rfl)
  rw [lg_entry_eq]
  generalize (lg_sl ([.ref p0.toNat, .int (iI p1)]) ++ List.replicate (4 - (lg_sl ([.ref p0.toNat, .int (iI p1)])).length) Slot.unset).toArray = ls at hl ⊢
  have hl : lv_has ls 4 [(0, .ref p0.toNat), (1, .int (iI p1))] := hl
  generalize hQ : MQ below (va_Qv (fun (u : (Int → Int → Int)) => (xI L K N u) ∧ (fr K [(7, 7), (7, 8), (7, 10), (25, (-1))] u v) ∧ (jF (v p0 8 ≠ -1) (u p0 8 = v p0 8)) ∧ (0 ≤ u p0 7 ∧ v p0 7 ≤ u p0 7 ∧ u p0 7 < v p0 6) ∧ (jF (v p0 8 = -1 ∧ u p0 8 = -1) (v p0 7 + 1 ≤ u p0 7)) ∧ (EP tT tN [3] p1 (v p0 8) (v p0 7) (u p0 8) (u p0 7) [] p1)) (fun u t => va_P (dC, dI) vwCl (xG L cid K N u) t.heap ∧ va_K (dC, dI) vwCl (xT cid) t ∧ va_D A (xG L cid K N u)) A) ([.ref p0.toNat, .int (iI p1)] : List Value).toArray s 0 0 A = Q
  suffices ST : ∀ (H : Heap) (locs : List Loc), va_P (dC, dI) vwCl (xG L cid K N v) H → va_S A s.heap H locs → W p l e ({ frames := 6, cells := 0, slots := 0, locals := 132 }) s m ([.ref p0.toNat, .int (iI p1)] : List Value).toArray below meth c H locs 0 0 Q (F0 m 0 ls []) from ST _ _ hP hS
  clear hP hS
  intro H locs hP hS
  have hTK := tks_m k2
  have rp_1 : EP tT tN [3] p1 (v p0 8) (v p0 7) (v p0 8) (v p0 7) [3] p1 := EP_0
  have rp_2 : EP tT tN [3] p1 (v p0 8) (v p0 7) (v p0 8) (v p0 7) [5, 4] (p1) := EP_3 rp_1
  refine lv_aload_n hx hb dX7_readProduct_0 rfl (lv_at hl 0 rfl) ?_
  refine lv_iload_n hx hb dX7_readProduct_1 rfl (lv_at hl 1 rfl) ?_
  have h_3 : (-2147483648) ≤ v p0 7 ∧ v p0 7 ≤ 2147483647 := xf_7_7 hI q0
  have h_4 : (-2147483648) ≤ v p0 6 ∧ v p0 6 ≤ 2147483647 := xf_7_6 hI q0
  refine jcg_v (va_runV (As := [.int (iI p1)]) (rest := []) ⟨hx, hb, hml, hown, hts⟩ (sX7_readFactor_q7 l dC dI _ L cid K N tW sK sV v tT tN p0 p1 hI q0 (by omega) (by omega) k2 (by omega)) (cwV 1 hts (jgoodV m_696 m_697 m_698 m_677 m_699) rfl rfl rfl (by decide +kernel) ⟨(Nat.le_of_ble_eq_true rfl), (Nat.le_of_ble_eq_true rfl)⟩) ⟨xP_blind, xrecv hK hP q0 rfl rfl, fun U hU hW => ⟨rfl, xP_of hU hW hP hK hD hX hS (fun _ h => h) hA⟩⟩ rfl rfl hl.1 rfl (lv_room (Nat.le_of_ble_eq_true rfl)) dX7_readProduct_2 ⟨(Nat.le_of_ble_eq_true rfl), (Nat.le_of_ble_eq_true rfl)⟩) hD hS hA (fun v_12 H locs w_6 hP hK hD hS => ?_)
  obtain ⟨I_14, f_13, h_8, h_9, h_10, h_11⟩ := w_6
  have hP : va_P (dC, dI) vwCl (xG L cid K N v_12) H := hP
  have hD : va_D A (xG L cid K N v_12) := hD
  have h_15 : (-2147483648) ≤ v p0 8 ∧ v p0 8 ≤ 2147483647 := xf_7_8 hI q0
  have h_16 : (-2147483648) ≤ v_12 p0 8 ∧ v_12 p0 8 ≤ 2147483647 := xf_7_8 I_14 q0
  have h_17 : (-2147483648) ≤ v_12 p0 7 ∧ v_12 p0 7 ≤ 2147483647 := xf_7_7 I_14 q0
  have rp_18 : EP tT tN [3] p1 (v p0 8) (v p0 7) (v_12 p0 8) (v_12 p0 7) [4] (p1) := EP_c rp_2 h_11 h_8
  have g_19 : v p0 8 = -1 ∨ v_12 p0 8 = v p0 8 := jF_o h_8
  have g_20 : v p0 8 ≠ -1 ∨ v_12 p0 8 ≠ -1 ∨ v p0 7 + 1 ≤ v_12 p0 7 := jF_3 h_10
  refine lv_iconst (v := iI 0) hx hb dX7_readProduct_5 rfl ?_
  refine lv_istore_n (i := 2) (lv' := [(2, .int (iI 0)), (0, .ref p0.toNat), (1, .int (iI p1))]) hx hb dX7_readProduct_6 rfl hl (by decide) rfl (fun ls hl => ?_)
  have L7 : ∀ (n7 : Nat) (a2_7 : Int) (vc7 : Int → Int → Int) (H : Heap) (locs : List Loc) (ls : Array Slot), (0 ≤ a2_7 ∧ a2_7 ≤ 2147483647) → (0 ≤ a2_7) → (v p0 7 ≤ vc7 p0 7 ∧ vc7 p0 7 < v p0 6) → (v p0 8 = -1 ∨ vc7 p0 8 = v p0 8) → (vc7 p0 8 ≠ -1 ∨ a2_7 + v p0 7 + 1 ≤ vc7 p0 7) → (EP tT tN [3] p1 (v p0 8) (v p0 7) (vc7 p0 8) (vc7 p0 7) [4] p1) → (0 < (n7 : Int) ∧ (v p0 1) - a2_7 < (n7 : Int)) → fr K [(7, 7), (7, 8), (7, 10), (25, (-1))] vc7 v_12 → xI L K N vc7 → va_P (dC, dI) vwCl (xG L cid K N vc7) H → va_D A (xG L cid K N vc7) → va_S A s.heap H locs → lv_has ls 4 [(2, .int (iI a2_7)), (0, .ref p0.toNat), (1, .int (iI p1))] → W p l e ({ frames := 6, cells := 0, slots := 0, locals := 132 }) s m ([.ref p0.toNat, .int (iI p1)] : List Value).toArray below meth c H locs 0 0 Q (F0 m 7 ls []) := by
    intro n7
    induction n7 with
    | zero =>
      intro a2_7 vc7 H locs ls h_21 h_22 h_23 h_24 h_25 h_26 hm7 f_27 I_28 hP hD hS hl
      exfalso; omega
    | succ n7 ih7 =>
      intro a2_7 vc7 H locs ls h_29 h_30 h_31 h_32 h_33 h_34 hm7 f_35 I_36 hP hD hS hl
      have rp_37 : EP tT tN [3] p1 (v p0 8) (v p0 7) (vc7 p0 8) (vc7 p0 7) [4] p1 := by assumption
      refine lv_iload_n hx hb dX7_readProduct_7 rfl (lv_at hl 0 rfl) ?_
      refine lv_aload_n hx hb dX7_readProduct_8 rfl (lv_at hl 1 rfl) ?_
      have h_38 : 0 ≤ v p0 1 ∧ v p0 1 ≤ 600 := xf_7_1 hI q0
      refine gx_RX7_43 (y := v p0 1) hx hb hj hown hK hP q0 (((fr_use q0 f_35 rfl)).trans (fr_use q0 f_13 rfl)) dX7_readProduct_9 ?_
      refine xr_icmp_ge (tgt := 78) hx hb dX7_readProduct_12 (by decide) (by omega) (by omega) (fun h_39 => ?_) (fun h_39 => ?_)
      · have t_40 := tk_lt (T := tT) (n := tN) (j := vc7 p0 7) (by omega)
        have t2 := tks_n k2
        have t3 := twd_d tT tN (tkx tT tN (vc7 p0 7))
        have rp_41 : EP tT tN [3] p1 (v p0 8) (v p0 7) (vc7 p0 8) (vc7 p0 7) [] (p1) := EP_4n rp_37 (by omega)
        have h_42 : (-2147483648) ≤ vc7 p0 8 ∧ vc7 p0 8 ≤ 2147483647 := xf_7_8 I_36 q0
        have h_43 : (-2147483648) ≤ vc7 p0 7 ∧ vc7 p0 7 ≤ 2147483647 := xf_7_7 I_36 q0
        rw [← hQ]
        exact W.vret hx hb hr (fun t ht hW => ⟨⟨vc7, rfl, ⟨I_36, (fr_tr f_35 rfl (fr_tr f_13 rfl fr_rf)), by unfold jF; omega, by omega, by unfold jF; omega, by first | exact rp_41 | exact EP_x (by omega)⟩, by rw [ht]; exact hP, va_K.moved hW.alike hK, hD⟩, hS.F ht⟩) hS.2.2 dX7_readProduct_78
      · refine lv_aload_n hx hb dX7_readProduct_15 rfl (lv_at hl 1 rfl) ?_
        have h_44 : (-2147483648) ≤ vc7 p0 8 ∧ vc7 p0 8 ≤ 2147483647 := xf_7_8 I_36 q0
        refine gx_RX7_50 (y := vc7 p0 8) hx hb hj hown hK hP q0 rfl dX7_readProduct_16 ?_
        refine lv_iconst (v := iI (-1)) hx hb dX7_readProduct_19 rfl ?_
        refine xr_icmp_ne (tgt := 78) hx hb dX7_readProduct_20 (by decide) (by omega) (by omega) (fun h_45 => ?_) (fun h_45 => ?_)
        · have t_46 := tk_lt (T := tT) (n := tN) (j := vc7 p0 7) (by omega)
          have t2 := tks_n k2
          have t3 := twd_d tT tN (tkx tT tN (vc7 p0 7))
          have rp_47 : EP tT tN [3] p1 (v p0 8) (v p0 7) (vc7 p0 8) (vc7 p0 7) [] (p1) := EP_4n rp_37 (by omega)
          have h_48 : (-2147483648) ≤ vc7 p0 7 ∧ vc7 p0 7 ≤ 2147483647 := xf_7_7 I_36 q0
          rw [← hQ]
          exact W.vret hx hb hr (fun t ht hW => ⟨⟨vc7, rfl, ⟨I_36, (fr_tr f_35 rfl (fr_tr f_13 rfl fr_rf)), by unfold jF; omega, by omega, by unfold jF; omega, by first | exact rp_47 | exact EP_x (by omega)⟩, by rw [ht]; exact hP, va_K.moved hW.alike hK, hD⟩, hS.F ht⟩) hS.2.2 dX7_readProduct_78
        · refine lv_aload_n hx hb dX7_readProduct_23 rfl (lv_at hl 1 rfl) ?_
          have h_49 : (-2147483648) ≤ vc7 p0 7 ∧ vc7 p0 7 ≤ 2147483647 := xf_7_7 I_36 q0
          have b_50 : vc7 p0 6 = v p0 6 := (((fr_use q0 f_35 rfl)).trans (fr_use q0 f_13 rfl))
          refine jc_i (va_runV (As := []) (rest := []) ⟨hx, hb, hml, hown, hts⟩ (sX7_kind l dC dI _ L cid K N tW sK sV vc7 tT tN p0 I_36 q0 (tks_fr hI q0 (show fr K [(7, 7), (7, 8), (7, 10), (25, (-1))] vc7 v from (fr_tr f_35 rfl (fr_tr f_13 rfl fr_rf))) rfl rfl rfl rfl rfl rfl rfl (fun _ => rfl) (fun _ => rfl) (fun _ => rfl) (fun _ => rfl) (fun _ => rfl) k2) (by omega)) (cwV 0 hts (jgoodV m_674 m_675 m_676 m_677 m_678) rfl rfl rfl (by decide +kernel) ⟨(Nat.le_of_ble_eq_true rfl), (Nat.le_of_ble_eq_true rfl)⟩) ⟨xP_blind, xrecv hK hP q0 rfl rfl, fun U hU hW => ⟨rfl, xP_of hU hW hP hK hD hX hS (fun _ h => h) hA⟩⟩ rfl rfl hl.1 rfl (lv_room (Nat.le_of_ble_eq_true rfl)) dX7_readProduct_24 ⟨(Nat.le_of_ble_eq_true rfl), (Nat.le_of_ble_eq_true rfl)⟩) hP hS hA (fun r_51 H locs w_52 hP hS => ?_)
          obtain ⟨z_53, rfl, h_54, h_55, h_56⟩ := w_52
          have b_57 : vc7 p0 6 = v p0 6 := (((fr_use q0 f_35 rfl)).trans (fr_use q0 f_13 rfl))
          refine lv_bipush (v := iI 42) hx hb dX7_readProduct_27 rfl ?_
          have J41 : ∀ (H : Heap) (locs : List Loc) (ls : Array Slot), (tkd tT tN (tkx tT tN (vc7 p0 7)) = 42 ∨ tkd tT tN (tkx tT tN (vc7 p0 7)) = 47) → va_P (dC, dI) vwCl (xG L cid K N vc7) H → va_D A (xG L cid K N vc7) → va_S A s.heap H locs → lv_has ls 4 [(2, .int (iI a2_7)), (0, .ref p0.toNat), (1, .int (iI p1))] → W p l e ({ frames := 6, cells := 0, slots := 0, locals := 132 }) s m ([.ref p0.toNat, .int (iI p1)] : List Value).toArray below meth c H locs 0 0 Q (F0 m 41 ls []) := by
            intro H locs ls h_58 hP hD hS hl
            refine lv_aload_n hx hb dX7_readProduct_41 rfl (lv_at hl 1 rfl) ?_
            have b_59 : vc7 p0 6 = v p0 6 := (((fr_use q0 f_35 rfl)).trans (fr_use q0 f_13 rfl))
            refine jc_i (va_runV (As := []) (rest := []) ⟨hx, hb, hml, hown, hts⟩ (sX7_kind l dC dI _ L cid K N tW sK sV vc7 tT tN p0 I_36 q0 (tks_fr hI q0 (show fr K [(7, 7), (7, 8), (7, 10), (25, (-1))] vc7 v from (fr_tr f_35 rfl (fr_tr f_13 rfl fr_rf))) rfl rfl rfl rfl rfl rfl rfl (fun _ => rfl) (fun _ => rfl) (fun _ => rfl) (fun _ => rfl) (fun _ => rfl) k2) (by omega)) (cwV 0 hts (jgoodV m_674 m_675 m_676 m_677 m_678) rfl rfl rfl (by decide +kernel) ⟨(Nat.le_of_ble_eq_true rfl), (Nat.le_of_ble_eq_true rfl)⟩) ⟨xP_blind, xrecv hK hP q0 rfl rfl, fun U hU hW => ⟨rfl, xP_of hU hW hP hK hD hX hS (fun _ h => h) hA⟩⟩ rfl rfl hl.1 rfl (lv_room (Nat.le_of_ble_eq_true rfl)) dX7_readProduct_42 ⟨(Nat.le_of_ble_eq_true rfl), (Nat.le_of_ble_eq_true rfl)⟩) hP hS hA (fun r_60 H locs w_61 hP hS => ?_)
            obtain ⟨z_62, rfl, h_63, h_64, h_65⟩ := w_61
            have b_66 : vc7 p0 6 = v p0 6 := (((fr_use q0 f_35 rfl)).trans (fr_use q0 f_13 rfl))
            refine lv_bipush (v := iI 42) hx hb dX7_readProduct_45 rfl ?_
            have J57 : ∀ (s0_57 : Int) (H : Heap) (locs : List Loc) (ls : Array Slot), ((-14) ≤ s0_57 ∧ s0_57 ≤ (-13)) → va_P (dC, dI) vwCl (xG L cid K N vc7) H → va_D A (xG L cid K N vc7) → va_S A s.heap H locs → lv_has ls 4 [(2, .int (iI a2_7)), (0, .ref p0.toNat), (1, .int (iI p1))] → W p l e ({ frames := 6, cells := 0, slots := 0, locals := 132 }) s m ([.ref p0.toNat, .int (iI p1)] : List Value).toArray below meth c H locs 0 0 Q (F0 m 57 ls [.int (iI s0_57)]) := by
              intro s0_57 H locs ls h_67 hP hD hS hl
              refine lv_istore_n (i := 3) (lv' := [(3, .int (iI s0_57)), (2, .int (iI a2_7)), (0, .ref p0.toNat), (1, .int (iI p1))]) hx hb dX7_readProduct_57 rfl hl (by decide) rfl (fun ls hl => ?_)
              refine lv_aload_n hx hb dX7_readProduct_58 rfl (lv_at hl 2 rfl) ?_
              refine jcg_v (va_runV (As := []) (rest := []) ⟨hx, hb, hml, hown, hts⟩ (sX7_advance l dC dI _ L cid K N tW sK sV vc7 p0 I_36 q0 (by omega)) (cwV 0 hts (jgoodV m_692 m_693 m_694 m_677 m_695) rfl rfl rfl (by decide +kernel) ⟨(Nat.le_of_ble_eq_true rfl), (Nat.le_of_ble_eq_true rfl)⟩) ⟨xP_blind, xrecv hK hP q0 rfl rfl, fun U hU hW => ⟨rfl, xP_of hU hW hP hK hD hX hS (fun _ h => h) hA⟩⟩ rfl rfl hl.1 rfl (lv_room (Nat.le_of_ble_eq_true rfl)) dX7_readProduct_59 ⟨(Nat.le_of_ble_eq_true rfl), (Nat.le_of_ble_eq_true rfl)⟩) hD hS hA (fun v_72 H locs w_69 hP hK hD hS => ?_)
              obtain ⟨I_74, f_73, h_71⟩ := w_69
              have hP : va_P (dC, dI) vwCl (xG L cid K N v_72) H := hP
              have hD : va_D A (xG L cid K N v_72) := hD
              have h_75 : (-2147483648) ≤ v_72 p0 7 ∧ v_72 p0 7 ≤ 2147483647 := xf_7_7 I_74 q0
              have rp_76 : EP tT tN [3] p1 (v p0 8) (v p0 7) (vc7 p0 8) (v_72 p0 7) [5, 4] (p1) := EP_4y rp_37 (by omega) (by omega) (by omega)
              refine lv_aload_n hx hb dX7_readProduct_62 rfl (lv_at hl 2 rfl) ?_
              refine lv_iload_n hx hb dX7_readProduct_63 rfl (lv_at hl 3 rfl) ?_
              have b_77 : v_72 p0 6 = v p0 6 := (((fr_use q0 f_73 rfl)).trans (((fr_use q0 f_35 rfl)).trans (fr_use q0 f_13 rfl)))
              refine jcg_v (va_runV (As := [.int (iI p1)]) (rest := []) ⟨hx, hb, hml, hown, hts⟩ (sX7_readFactor_q7 l dC dI _ L cid K N tW sK sV v_72 tT tN p0 p1 I_74 q0 (by omega) (by omega) (tks_fr hI q0 (show fr K [(7, 7), (7, 8), (7, 10), (25, (-1))] v_72 v from (fr_tr f_73 rfl (fr_tr f_35 rfl (fr_tr f_13 rfl fr_rf)))) rfl rfl rfl rfl rfl rfl rfl (fun _ => rfl) (fun _ => rfl) (fun _ => rfl) (fun _ => rfl) (fun _ => rfl) k2) (by omega)) (cwV 1 hts (jgoodV m_696 m_697 m_698 m_677 m_699) rfl rfl rfl (by decide +kernel) ⟨(Nat.le_of_ble_eq_true rfl), (Nat.le_of_ble_eq_true rfl)⟩) ⟨xP_blind, xrecv hK hP q0 rfl rfl, fun U hU hW => ⟨rfl, xP_of hU hW hP hK hD hX hS (fun _ h => h) hA⟩⟩ rfl rfl hl.1 rfl (lv_room (Nat.le_of_ble_eq_true rfl)) dX7_readProduct_64 ⟨(Nat.le_of_ble_eq_true rfl), (Nat.le_of_ble_eq_true rfl)⟩) hD hS hA (fun v_85 H locs w_79 hP hK hD hS => ?_)
              obtain ⟨I_87, f_86, h_81, h_82, h_83, h_84⟩ := w_79
              have hP : va_P (dC, dI) vwCl (xG L cid K N v_85) H := hP
              have hD : va_D A (xG L cid K N v_85) := hD
              have b_88 : v_72 p0 6 = v p0 6 := (((fr_use q0 f_73 rfl)).trans (((fr_use q0 f_35 rfl)).trans (fr_use q0 f_13 rfl)))
              have b_89 : v_72 p0 8 = vc7 p0 8 := (fr_use q0 f_73 rfl)
              have h_90 : (-2147483648) ≤ v_85 p0 8 ∧ v_85 p0 8 ≤ 2147483647 := xf_7_8 I_87 q0
              have h_91 : (-2147483648) ≤ v_85 p0 7 ∧ v_85 p0 7 ≤ 2147483647 := xf_7_7 I_87 q0
              rw [show v_72 p0 8 = vc7 p0 8 from (fr_use q0 f_73 rfl)] at h_81
              rw [show v_72 p0 8 = vc7 p0 8 from (fr_use q0 f_73 rfl)] at h_83
              rw [show v_72 p0 8 = vc7 p0 8 from (fr_use q0 f_73 rfl)] at h_84
              have rp_92 : EP tT tN [3] p1 (v p0 8) (v p0 7) (v_85 p0 8) (v_85 p0 7) [4] (p1) := EP_c rp_76 h_84 h_81
              have g_93 : v_85 p0 8 ≠ -1 ∨ v_72 p0 7 + 1 ≤ v_85 p0 7 := jF_2 h_83 (by omega)
              refine lv_aload_n hx hb dX7_readProduct_67 rfl (lv_at hl 2 rfl) ?_
              refine lv_iload_n hx hb dX7_readProduct_68 rfl (lv_at hl 0 rfl) ?_
              refine jcg_v (va_runV (As := [.int (iI s0_57)]) (rest := []) ⟨hx, hb, hml, hown, hts⟩ (sX7_emit l dC dI _ L cid K N tW sK sV v_85 p0 s0_57 I_87 q0 (by omega)) (cwV 1 hts (jgoodV m_688 m_689 m_690 m_677 m_691) rfl rfl rfl (by decide +kernel) ⟨(Nat.le_of_ble_eq_true rfl), (Nat.le_of_ble_eq_true rfl)⟩) ⟨xP_blind, xrecv hK hP q0 rfl rfl, fun U hU hW => ⟨rfl, xP_of hU hW hP hK hD hX hS (fun _ h => h) hA⟩⟩ rfl rfl hl.1 rfl (lv_room (Nat.le_of_ble_eq_true rfl)) dX7_readProduct_69 ⟨(Nat.le_of_ble_eq_true rfl), (Nat.le_of_ble_eq_true rfl)⟩) hD hS hA (fun v_97 H locs w_95 hP hK hD hS => ?_)
              obtain ⟨I_99, f_98⟩ := w_95
              have hP : va_P (dC, dI) vwCl (xG L cid K N v_97) H := hP
              have hD : va_D A (xG L cid K N v_97) := hD
              refine lv_iinc (v := iI (a2_7 + 1)) (lv' := [(2, .int (iI (a2_7 + 1))), (3, .int (iI s0_57)), (0, .ref p0.toNat), (1, .int (iI p1))]) hx hb dX7_readProduct_72 hl (k := 1) rfl (iI_add _ _) (by decide) rfl (fun ls hl => ?_)
              refine lv_goto (tgt := 7) hx hb dX7_readProduct_75 (by decide) ?_
              have b_100 : v_97 p0 8 = v_85 p0 8 := (fr_use q0 f_98 rfl)
              have b_101 : v_97 p0 7 = v_85 p0 7 := (fr_use q0 f_98 rfl)
              exact ih7 (a2_7 + 1) v_97 H locs ls (by omega) (by omega) (by omega) (by omega) (by omega) (by exact (by rw [show v_97 p0 8 = v_85 p0 8 from (fr_use q0 f_98 rfl), show v_97 p0 7 = v_85 p0 7 from (fr_use q0 f_98 rfl)]; exact rp_92)) (by omega) (fr_tr f_98 rfl (fr_tr f_86 rfl (fr_tr f_73 rfl (fr_tr f_35 rfl fr_rf)))) I_99 hP hD hS (lv_sub hl [0, 2, 3] rfl)
            refine xr_icmp_ne (tgt := 55) hx hb dX7_readProduct_47 (by decide) (by omega) (by omega) (fun h_102 => ?_) (fun h_102 => ?_)
            · refine lv_bipush (v := iI (-14)) hx hb dX7_readProduct_55 rfl ?_
              exact J57 (-14) H locs ls (by omega) hP hD hS hl
            · refine lv_bipush (v := iI (-13)) hx hb dX7_readProduct_50 rfl ?_
              refine lv_goto (tgt := 57) hx hb dX7_readProduct_52 (by decide) ?_
              exact J57 (-13) H locs ls (by omega) hP hD hS hl
          refine xr_icmp_eq (tgt := 41) hx hb dX7_readProduct_29 (by decide) (by omega) (by omega) (fun h_103 => ?_) (fun h_103 => ?_)
          · exact J41 H locs ls (by omega) hP hD hS hl
          · refine lv_aload_n hx hb dX7_readProduct_32 rfl (lv_at hl 1 rfl) ?_
            have b_104 : vc7 p0 6 = v p0 6 := (((fr_use q0 f_35 rfl)).trans (fr_use q0 f_13 rfl))
            refine jc_i (va_runV (As := []) (rest := []) ⟨hx, hb, hml, hown, hts⟩ (sX7_kind l dC dI _ L cid K N tW sK sV vc7 tT tN p0 I_36 q0 (tks_fr hI q0 (show fr K [(7, 7), (7, 8), (7, 10), (25, (-1))] vc7 v from (fr_tr f_35 rfl (fr_tr f_13 rfl fr_rf))) rfl rfl rfl rfl rfl rfl rfl (fun _ => rfl) (fun _ => rfl) (fun _ => rfl) (fun _ => rfl) (fun _ => rfl) k2) (by omega)) (cwV 0 hts (jgoodV m_674 m_675 m_676 m_677 m_678) rfl rfl rfl (by decide +kernel) ⟨(Nat.le_of_ble_eq_true rfl), (Nat.le_of_ble_eq_true rfl)⟩) ⟨xP_blind, xrecv hK hP q0 rfl rfl, fun U hU hW => ⟨rfl, xP_of hU hW hP hK hD hX hS (fun _ h => h) hA⟩⟩ rfl rfl hl.1 rfl (lv_room (Nat.le_of_ble_eq_true rfl)) dX7_readProduct_33 ⟨(Nat.le_of_ble_eq_true rfl), (Nat.le_of_ble_eq_true rfl)⟩) hP hS hA (fun r_105 H locs w_106 hP hS => ?_)
            obtain ⟨z_107, rfl, h_108, h_109, h_110⟩ := w_106
            have b_111 : vc7 p0 6 = v p0 6 := (((fr_use q0 f_35 rfl)).trans (fr_use q0 f_13 rfl))
            refine lv_bipush (v := iI 47) hx hb dX7_readProduct_36 rfl ?_
            refine xr_icmp_ne (tgt := 78) hx hb dX7_readProduct_38 (by decide) (by omega) (by omega) (fun h_112 => ?_) (fun h_112 => ?_)
            · have t_113 := tk_lt (T := tT) (n := tN) (j := vc7 p0 7) (by omega)
              have t2 := tks_n k2
              have t3 := twd_d tT tN (tkx tT tN (vc7 p0 7))
              have rp_114 : EP tT tN [3] p1 (v p0 8) (v p0 7) (vc7 p0 8) (vc7 p0 7) [] (p1) := EP_4n rp_37 (by omega)
              rw [← hQ]
              exact W.vret hx hb hr (fun t ht hW => ⟨⟨vc7, rfl, ⟨I_36, (fr_tr f_35 rfl (fr_tr f_13 rfl fr_rf)), by unfold jF; omega, by omega, by unfold jF; omega, by first | exact rp_114 | exact EP_x (by omega)⟩, by rw [ht]; exact hP, va_K.moved hW.alike hK, hD⟩, hS.F ht⟩) hS.2.2 dX7_readProduct_78
            · exact J41 H locs ls (by omega) hP hD hS hl
  exact L7 ((((v p0 1) - 0 : Int)).toNat + 1) 0 v_12 H locs ls (by omega) (by omega) (by omega) (by omega) (by omega) (by exact rp_18) (by omega) fr_rf I_14 hP hD hS hl
