set_option maxHeartbeats 4000000 in
set_option maxRecDepth 100000 in
theorem lc_42 {p : Program} {l : Launch} {e : Env} {s : State} {m : MethodId} {below : List Frame} {meth : Method} {c : Code} {b n : Nat} {xs : Nat → Int32} (C0 : lw_At p s m meth c b n xs) (hn : n ≤ 3072) {dC : Nat → ClassId} {dI : Nat → Nat → Nat} {am : Nat → Nat} {cm cid : Nat → ClassId} {tW : Nat} {sK sV : Nat → Nat} (hXx : xX tW sK sV (fun q : Nat => s.heap.size ≤ q) s s.heap) (hKx : va_K (dC, dI) vwCl (xT cid) s) (hKm : va_K (dC, dI) vwCl (mT cm) s) {z0 : Int} {i : Int} (hi0 : 0 ≤ i) (hi : i + 6 ≤ n) {L : List Nat} {K : Int → Nat} {N : Int → Int} {v : Int → Int → Int} {g : Nat → Int} {a : Nat → Int → Int} (hz : ok L K z0 12) (hI : xI L K N v) (hM : mI g a) (hrLine : rLine g a) (hrLead : rLead g a) (hrSkill : rSkill g a) (hrSh : rSh g a) (hnow : v z0 0 = g 30) (hhands : v z0 11 = g 50) (hstolen : v (v z0 19) 1 = g 78) (htold : v (v z0 14) 5 = g 66) (hsub : rSub v z0 a) (hhd : rHand v z0 g a) (hnw : rNews v z0 g a) {nc ns : Nat} (hc : nc + 5 ≤ 600000) (hs : ns + 12100 ≤ 7302250) {H : Heap} {locs : List Loc} {ls : Array Slot} (hP : va_P (dC, dI) vwCl (mG am cm g a ++ xG L cid K N v) H) (hD : va_D (fun q : Nat => s.heap.size ≤ q) (mG am cm g a ++ xG L cid K N v)) (hS : va_S (fun q : Nat => s.heap.size ≤ q) s.heap H locs) (hl : lv_has ls 4 [(3, .int (iI i)), (2, .ref (am 0)), (1, .ref z0.toNat), (0, .ref b)])
    (kk : ∀ (L : List Nat) (K : Int → Nat) (N : Int → Int) (v : Int → Int → Int) (g : Nat → Int) (a : Nat → Int → Int) (nc1 ns1 : Nat) (H : Heap) (locs : List Loc), ok L K z0 12 → xI L K N v → mI g a → rLine g a → rLead g a → rSkill g a → rSh g a → v z0 0 = g 30 → v z0 11 = g 50 → v (v z0 19) 1 = g 78 → v (v z0 14) 5 = g 66 → rSub v z0 a → rHand v z0 g a → rNews v z0 g a → nc1 ≤ nc + 5 → ns1 ≤ ns + 12100 → va_P (dC, dI) vwCl (mG am cm g a ++ xG L cid K N v) H → va_D (fun q : Nat => s.heap.size ≤ q) (mG am cm g a ++ xG L cid K N v) → va_S (fun q : Nat => s.heap.size ≤ q) s.heap H locs → W p l e room_1 s m #[Value.ref b] below meth c H locs nc1 ns1 (lw_Z below #[Value.ref b] s) (F0 m 1804 ls [])) : W p l e room_1 s m #[Value.ref b] below meth c H locs nc ns (lw_Z below #[Value.ref b] s) (F0 m 1636 ls []) := by
  obtain ⟨hx, hb, hr, hml, hown, hts, hX9, hbl, hlocks, hgv⟩ := id C0
  have hA : ∀ q : Nat, s.heap.size ≤ q → (fun q : Nat => s.heap.size ≤ q) q := fun _ h => h
  have hbA : ¬ (fun q : Nat => s.heap.size ≤ q) b := Nat.not_le.mpr hbl
  refine lv_aload_n hx hb dL_law_1636 rfl (lv_at hl 2 rfl) ?_
  refine lv_aload_n hx hb dL_law_1637 rfl (lv_at hl 3 rfl) ?_
  refine lv_iload_n hx hb dL_law_1638 rfl (lv_at hl 0 rfl) ?_
  refine lv_iconst (v := iI 1) hx hb dL_law_1639 rfl ?_
  refine xr_add hx hb dL_law_1640 ?_
  refine va_sld hx hb hX9 hbl hbA hS (xvp (t := i + 1) (by omega) (by omega) hn) dL_law_1641 ?_
  obtain ⟨p_1, h_2, r_3⟩ : ∃ y : Int, xs (iI (i + 1)).toNatClampNeg = iI y ∧ rg y := ⟨_, iI_of _, rg_of _⟩
  refine jt_i (iI p_1) h_2 ?_
  refine lv_aload_n hx hb dL_law_1642 rfl (lv_at hl 3 rfl) ?_
  refine lv_iload_n hx hb dL_law_1643 rfl (lv_at hl 0 rfl) ?_
  refine lv_iconst (v := iI 2) hx hb dL_law_1644 rfl ?_
  refine xr_add hx hb dL_law_1645 ?_
  refine va_sld hx hb hX9 hbl hbA hS (xvp (t := i + 2) (by omega) (by omega) hn) dL_law_1646 ?_
  obtain ⟨p_4, h_5, r_6⟩ : ∃ y : Int, xs (iI (i + 2)).toNatClampNeg = iI y ∧ rg y := ⟨_, iI_of _, rg_of _⟩
  refine jt_i (iI p_4) h_5 ?_
  refine lv_aload_n hx hb dL_law_1647 rfl (lv_at hl 3 rfl) ?_
  refine lv_iload_n hx hb dL_law_1648 rfl (lv_at hl 0 rfl) ?_
  refine lv_iconst (v := iI 3) hx hb dL_law_1649 rfl ?_
  refine xr_add hx hb dL_law_1650 ?_
  refine va_sld hx hb hX9 hbl hbA hS (xvp (t := i + 3) (by omega) (by omega) hn) dL_law_1651 ?_
  obtain ⟨p_7, h_8, r_9⟩ : ∃ y : Int, xs (iI (i + 3)).toNatClampNeg = iI y ∧ rg y := ⟨_, iI_of _, rg_of _⟩
  refine jt_i (iI p_7) h_8 ?_
  have hPx := jp_tail hP
  have hDx := jd_tail hD
  refine jc_i (va_runV (As := [.int (iI p_1), .int (iI p_4), .int (iI p_7)]) (rest := []) ⟨hx, hb, hml, hown, hts⟩ (sX12_index l dC dI _ L cid K N tW sK sV v z0 p_1 p_4 p_7 hI hz r_3 r_6 r_9) (cwV 3 hts (jgoodVL m_1625 m_1626 m_1627 m_873 m_1628) rfl rfl rfl (by decide +kernel) ⟨(Nat.le_of_ble_eq_true rfl), (Nat.le_of_ble_eq_true rfl)⟩) ⟨xP_blind, xrecv hKx hPx hz rfl rfl, fun U hU hW => ⟨rfl, xP_of hU hW hPx hKx hDx hXx hS (fun _ h => h) hA⟩⟩ rfl rfl hl.1 rfl (lv_room (Nat.le_of_ble_eq_true rfl)) dL_law_1652 ⟨(show nc + 0 ≤ 600000 by omega), (show ns + 0 ≤ 7302250 by omega)⟩) hP hS hA (fun r H locs w_11 hP hS => ?_)
  obtain ⟨x_10, rfl, f_12⟩ := w_11
  refine lv_pop hx hb dL_law_1655 rfl ?_
  refine lv_aload_n hx hb dL_law_1656 rfl (lv_at hl 1 rfl) ?_
  refine lv_aload_n hx hb dL_law_1657 rfl (lv_at hl 3 rfl) ?_
  refine lv_iload_n hx hb dL_law_1658 rfl (lv_at hl 0 rfl) ?_
  refine lv_iconst (v := iI 1) hx hb dL_law_1659 rfl ?_
  refine xr_add hx hb dL_law_1660 ?_
  refine va_sld hx hb hX9 hbl hbA hS (xvp (t := i + 1) (by omega) (by omega) hn) dL_law_1661 ?_
  refine jt_i (iI p_1) h_2 ?_
  refine lv_aload_n hx hb dL_law_1662 rfl (lv_at hl 3 rfl) ?_
  refine lv_iload_n hx hb dL_law_1663 rfl (lv_at hl 0 rfl) ?_
  refine lv_iconst (v := iI 2) hx hb dL_law_1664 rfl ?_
  refine xr_add hx hb dL_law_1665 ?_
  refine va_sld hx hb hX9 hbl hbA hS (xvp (t := i + 2) (by omega) (by omega) hn) dL_law_1666 ?_
  refine jt_i (iI p_4) h_5 ?_
  refine lv_aload_n hx hb dL_law_1667 rfl (lv_at hl 3 rfl) ?_
  refine lv_iload_n hx hb dL_law_1668 rfl (lv_at hl 0 rfl) ?_
  refine lv_iconst (v := iI 3) hx hb dL_law_1669 rfl ?_
  refine xr_add hx hb dL_law_1670 ?_
  refine va_sld hx hb hX9 hbl hbA hS (xvp (t := i + 3) (by omega) (by omega) hn) dL_law_1671 ?_
  refine jt_i (iI p_7) h_8 ?_
  obtain ⟨hP, hD⟩ := lsw hP hD
  have hPm := jp_tail hP
  have hDm := jd_tail hD
  refine jc_i (va_runV (As := [.int (iI p_1), .int (iI p_4), .int (iI p_7)]) (rest := []) ⟨hx, hb, hml, hown, hts⟩ (sX13_index l dC dI _ am cm g a p_1 p_4 p_7 hM r_3 r_6 r_9) (cwV 3 hts (jgoodVL m_1629 m_367 m_368 m_503 m_149) rfl rfl rfl (by decide +kernel) ⟨(Nat.le_of_ble_eq_true rfl), (Nat.le_of_ble_eq_true rfl)⟩) ⟨jw_blind, va_recv hKm hPm (ci := 13) (q0 := 0) rfl rfl, fun U hU hW => ⟨rfl, jw_of hU hW hPm hKm hDm⟩⟩ rfl rfl hl.1 rfl (lv_room (Nat.le_of_ble_eq_true rfl)) dL_law_1672 ⟨(show nc + 0 ≤ 600000 by omega), (show ns + 0 ≤ 7302250 by omega)⟩) hP hS hA (fun r H locs w_14 hP hS => ?_)
  obtain ⟨y_13, rfl, h_15⟩ := w_14
  obtain ⟨hP, hD⟩ := lsw hP hD
  refine lv_pop hx hb dL_law_1675 rfl ?_
  refine lv_goto (tgt := 1804) hx hb dL_law_1676 (by decide) ?_
  exact kk L K N v g a _ _ H locs hz hI hM hrLine hrLead hrSkill hrSh hnow hhands hstolen htold hsub hhd hnw (by omega) (by omega) hP hD hS
set_option maxHeartbeats 4000000 in
set_option maxRecDepth 100000 in
theorem lc_43 {p : Program} {l : Launch} {e : Env} {s : State} {m : MethodId} {below : List Frame} {meth : Method} {c : Code} {b n : Nat} {xs : Nat → Int32} (C0 : lw_At p s m meth c b n xs) (hn : n ≤ 3072) {dC : Nat → ClassId} {dI : Nat → Nat → Nat} {am : Nat → Nat} {cm cid : Nat → ClassId} {tW : Nat} {sK sV : Nat → Nat} (hXx : xX tW sK sV (fun q : Nat => s.heap.size ≤ q) s s.heap) (hKx : va_K (dC, dI) vwCl (xT cid) s) (hKm : va_K (dC, dI) vwCl (mT cm) s) {z0 : Int} {i : Int} (hi0 : 0 ≤ i) (hi : i + 6 ≤ n) {L : List Nat} {K : Int → Nat} {N : Int → Int} {v : Int → Int → Int} {g : Nat → Int} {a : Nat → Int → Int} (hz : ok L K z0 12) (hI : xI L K N v) (hM : mI g a) (hrLine : rLine g a) (hrLead : rLead g a) (hrSkill : rSkill g a) (hrSh : rSh g a) (hnow : v z0 0 = g 30) (hhands : v z0 11 = g 50) (hstolen : v (v z0 19) 1 = g 78) (htold : v (v z0 14) 5 = g 66) (hsub : rSub v z0 a) (hhd : rHand v z0 g a) (hnw : rNews v z0 g a) {nc ns : Nat} (hc : nc + 5 ≤ 600000) (hs : ns + 12100 ≤ 7302250) {H : Heap} {locs : List Loc} {ls : Array Slot} (hP : va_P (dC, dI) vwCl (mG am cm g a ++ xG L cid K N v) H) (hD : va_D (fun q : Nat => s.heap.size ≤ q) (mG am cm g a ++ xG L cid K N v)) (hS : va_S (fun q : Nat => s.heap.size ≤ q) s.heap H locs) (hl : lv_has ls 4 [(3, .int (iI i)), (2, .ref (am 0)), (1, .ref z0.toNat), (0, .ref b)])
    (kk : ∀ (L : List Nat) (K : Int → Nat) (N : Int → Int) (v : Int → Int → Int) (g : Nat → Int) (a : Nat → Int → Int) (nc1 ns1 : Nat) (H : Heap) (locs : List Loc), ok L K z0 12 → xI L K N v → mI g a → rLine g a → rLead g a → rSkill g a → rSh g a → v z0 0 = g 30 → v z0 11 = g 50 → v (v z0 19) 1 = g 78 → v (v z0 14) 5 = g 66 → rSub v z0 a → rHand v z0 g a → rNews v z0 g a → nc1 ≤ nc + 5 → ns1 ≤ ns + 12100 → va_P (dC, dI) vwCl (mG am cm g a ++ xG L cid K N v) H → va_D (fun q : Nat => s.heap.size ≤ q) (mG am cm g a ++ xG L cid K N v) → va_S (fun q : Nat => s.heap.size ≤ q) s.heap H locs → W p l e room_1 s m #[Value.ref b] below meth c H locs nc1 ns1 (lw_Z below #[Value.ref b] s) (F0 m 1804 ls [])) : W p l e room_1 s m #[Value.ref b] below meth c H locs nc ns (lw_Z below #[Value.ref b] s) (F0 m 1679 ls []) := by
  obtain ⟨hx, hb, hr, hml, hown, hts, hX9, hbl, hlocks, hgv⟩ := id C0
  have hA : ∀ q : Nat, s.heap.size ≤ q → (fun q : Nat => s.heap.size ≤ q) q := fun _ h => h
  have hbA : ¬ (fun q : Nat => s.heap.size ≤ q) b := Nat.not_le.mpr hbl
  refine lv_aload_n hx hb dL_law_1679 rfl (lv_at hl 2 rfl) ?_
  refine lv_aload_n hx hb dL_law_1680 rfl (lv_at hl 3 rfl) ?_
  refine lv_iload_n hx hb dL_law_1681 rfl (lv_at hl 0 rfl) ?_
  refine lv_iconst (v := iI 1) hx hb dL_law_1682 rfl ?_
  refine xr_add hx hb dL_law_1683 ?_
  refine va_sld hx hb hX9 hbl hbA hS (xvp (t := i + 1) (by omega) (by omega) hn) dL_law_1684 ?_
  obtain ⟨p_1, h_2, r_3⟩ : ∃ y : Int, xs (iI (i + 1)).toNatClampNeg = iI y ∧ rg y := ⟨_, iI_of _, rg_of _⟩
  refine jt_i (iI p_1) h_2 ?_
  have hPx := jp_tail hP
  have hDx := jd_tail hD
  refine jct_i (va_runV (As := [.int (iI p_1)]) (rest := []) ⟨hx, hb, hml, hown, hts⟩ (sX12_steal l dC dI _ L cid K N tW sK sV v z0 p_1 hI hz r_3) (cwV 1 hts (jgoodVL m_1630 m_1631 m_1632 m_873 m_1633) rfl rfl rfl (by decide +kernel) ⟨(Nat.le_of_ble_eq_true rfl), (Nat.le_of_ble_eq_true rfl)⟩) ⟨xP_blind, xrecv hKx hPx hz rfl rfl, fun U hU hW => ⟨rfl, xP_of hU hW hPx hKx hDx hXx hS (fun _ h => h) hA⟩⟩ rfl rfl hl.1 rfl (lv_room (Nat.le_of_ble_eq_true rfl)) dL_law_1685 ⟨(show nc + 0 ≤ 600000 by omega), (show ns + 0 ≤ 7302250 by omega)⟩) hP hD hS hA (fun r v_8 H locs w_5 hP hKx hD hS => ?_)
  obtain ⟨x_4, rfl, I_9, f_10, f_6, f_7⟩ := w_5
  have hP : va_P (dC, dI) vwCl (mG am cm g a ++ xG L cid K N v_8) H := hP
  have hD : va_D (fun q : Nat => s.heap.size ≤ q) (mG am cm g a ++ xG L cid K N v_8) := hD
  have f_7 : (x_4 = -1 ∧ v_8 (v_8 z0 19) 1 = v (v z0 19) 1 ∧ (p_1 < 0 ∨ 999 < p_1 ∨ 30 ≤ v (v z0 19) 1)) ∨ (x_4 = v (v z0 19) 1 + 1 ∧ v_8 (v_8 z0 19) 1 = v (v z0 19) 1 + 1 ∧ 0 ≤ p_1 ∧ p_1 ≤ 999 ∧ v (v z0 19) 1 < 30) := f_7
  have h_11 : v_8 z0 0 = g 30 := (fr_use hz f_10 rfl).trans hnow
  have h_12 : v_8 z0 11 = g 50 := (fr_use hz f_10 rfl).trans hhands
  have h_14 : ok L K (v z0 14) 5 := xf_12_14 hI hz
  have b_15 : v_8 z0 14 = v z0 14 := fr_use hz f_10 rfl
  have b_16 : v_8 (v z0 14) 5 = v (v z0 14) 5 := fr_use h_14 f_10 rfl
  have h_13 : v_8 (v_8 z0 14) 5 = g 66 := by rw [b_15, b_16]; exact htold
  have h_17 : rSub v_8 z0 a := rSub_x hI hz (frE_of f_10) rfl (fun _ => rfl) hsub
  have h_18 : rHand v_8 z0 g a := rHand_x hI hz (frE_of f_10) rfl (fun _ => rfl) rfl hhd
  have h_19 : rNews v_8 z0 g a := rNews_x hI hz (frE_of f_10) rfl (fun _ => rfl) (fun _ => rfl) (fun _ => rfl) (fun _ => rfl) (fun _ => rfl) rfl rfl rfl rfl rfl hnw
  refine lv_pop hx hb dL_law_1688 rfl ?_
  refine lv_aload_n hx hb dL_law_1689 rfl (lv_at hl 1 rfl) ?_
  refine lv_aload_n hx hb dL_law_1690 rfl (lv_at hl 3 rfl) ?_
  refine lv_iload_n hx hb dL_law_1691 rfl (lv_at hl 0 rfl) ?_
  refine lv_iconst (v := iI 1) hx hb dL_law_1692 rfl ?_
  refine xr_add hx hb dL_law_1693 ?_
  refine va_sld hx hb hX9 hbl hbA hS (xvp (t := i + 1) (by omega) (by omega) hn) dL_law_1694 ?_
  refine jt_i (iI p_1) h_2 ?_
  obtain ⟨hP, hD⟩ := lsw hP hD
  have hPm := jp_tail hP
  have hDm := jd_tail hD
  refine jct_i (va_runV (As := [.int (iI p_1)]) (rest := []) ⟨hx, hb, hml, hown, hts⟩ (sX13_steal l dC dI _ am cm g a p_1 hM r_3) (cwV 1 hts (jgoodVL m_1634 m_470 m_471 m_503 m_203) rfl rfl rfl (by decide +kernel) ⟨(Nat.le_of_ble_eq_true rfl), (Nat.le_of_ble_eq_true rfl)⟩) ⟨jw_blind, va_recv hKm hPm (ci := 13) (q0 := 0) rfl rfl, fun U hU hW => ⟨rfl, jw_of hU hW hPm hKm hDm⟩⟩ rfl rfl hl.1 rfl (lv_room (Nat.le_of_ble_eq_true rfl)) dL_law_1695 ⟨(show nc + 0 ≤ 600000 by omega), (show ns + 0 ≤ 7302250 by omega)⟩) hP hD hS hA (fun r u_22 H locs w_21 hP hKm hD hS => ?_)
  obtain ⟨g_23, a_24⟩ := u_22
  obtain ⟨y_20, rfl, h_25, h_26, h_27, h_28, h_29⟩ := w_21
  have hP : va_P (dC, dI) vwCl (xG L cid K N v_8 ++ mG am cm g_23 a_24) H := hP
  have hD : va_D (fun q : Nat => s.heap.size ≤ q) (xG L cid K N v_8 ++ mG am cm g_23 a_24) := hD
  have h_25 : mI g_23 a_24 := h_25
  have h_29 : (y_20 = -1 ∧ g_23 78 = g 78 ∧ (p_1 < 0 ∨ 999 < p_1 ∨ g 78 = 30)) ∨ (y_20 = g 78 + 1 ∧ g_23 78 = g 78 + 1 ∧ 0 ≤ p_1 ∧ p_1 ≤ 999 ∧ g 78 ≠ 30) := h_29
  have h_30 : rLine g_23 a_24 := rLine_t (h_26 56 (by decide)) (h_27 45 (by decide)) hrLine
  have h_31 : rLead g_23 a_24 := rLead_t (h_26 37 (by decide)) (h_27 27 (by decide)) (h_27 31 (by decide)) hrLead
  have h_32 : rSkill g_23 a_24 := rSkill_t (h_26 50 (by decide)) (h_27 38 (by decide)) hrSkill
  have h_33 : rSh g_23 a_24 := rSh_t (h_26 18 (by decide)) (h_26 26 (by decide)) (h_27 9 (by decide)) (h_27 10 (by decide)) (h_27 11 (by decide)) (h_27 12 (by decide)) (h_27 16 (by decide)) hrSh
  have h_34 : v_8 z0 0 = g_23 30 := h_11.trans (h_26 30 (by decide)).symm
  have h_35 : v_8 z0 11 = g_23 50 := h_12.trans (h_26 50 (by decide)).symm
  have b_37 := hM.1 78
  have b_37 : 0 ≤ g 78 ∧ g 78 ≤ 30 := b_37
  have h_36 : v_8 (v_8 z0 19) 1 = g_23 78 := by omega
  have h_38 : v_8 (v_8 z0 14) 5 = g_23 66 := h_13.trans (h_26 66 (by decide)).symm
  have h_39 : rSub v_8 z0 a_24 := rSub_m (h_27 60 (by decide)) h_17
  have h_40 : rHand v_8 z0 g_23 a_24 := rHand_m (h_26 50 (by decide)) (h_27 41 (by decide)) h_18
  have h_41 : rNews v_8 z0 g_23 a_24 := rNews_m (h_26 66 (by decide)) (h_27 51 (by decide)) (h_27 52 (by decide)) (h_27 53 (by decide)) (h_27 54 (by decide)) h_19
  obtain ⟨hP, hD⟩ := lsw hP hD
  refine lv_pop hx hb dL_law_1698 rfl ?_
  refine lv_goto (tgt := 1804) hx hb dL_law_1699 (by decide) ?_
  exact kk L K N v_8 g_23 a_24 _ _ H locs hz I_9 h_25 h_30 h_31 h_32 h_33 h_34 h_35 h_36 h_38 h_39 h_40 h_41 (by omega) (by omega) hP hD hS
set_option maxHeartbeats 4000000 in
set_option maxRecDepth 100000 in
theorem lc_44 {p : Program} {l : Launch} {e : Env} {s : State} {m : MethodId} {below : List Frame} {meth : Method} {c : Code} {b n : Nat} {xs : Nat → Int32} (C0 : lw_At p s m meth c b n xs) (hn : n ≤ 3072) {dC : Nat → ClassId} {dI : Nat → Nat → Nat} {am : Nat → Nat} {cm cid : Nat → ClassId} {tW : Nat} {sK sV : Nat → Nat} (hXx : xX tW sK sV (fun q : Nat => s.heap.size ≤ q) s s.heap) (hKx : va_K (dC, dI) vwCl (xT cid) s) (hKm : va_K (dC, dI) vwCl (mT cm) s) {z0 : Int} {i : Int} (hi0 : 0 ≤ i) (hi : i + 6 ≤ n) {L : List Nat} {K : Int → Nat} {N : Int → Int} {v : Int → Int → Int} {g : Nat → Int} {a : Nat → Int → Int} (hz : ok L K z0 12) (hI : xI L K N v) (hM : mI g a) (hrLine : rLine g a) (hrLead : rLead g a) (hrSkill : rSkill g a) (hrSh : rSh g a) (hnow : v z0 0 = g 30) (hhands : v z0 11 = g 50) (hstolen : v (v z0 19) 1 = g 78) (htold : v (v z0 14) 5 = g 66) (hsub : rSub v z0 a) (hhd : rHand v z0 g a) (hnw : rNews v z0 g a) {nc ns : Nat} (hc : nc + 5 ≤ 600000) (hs : ns + 12100 ≤ 7302250) {H : Heap} {locs : List Loc} {ls : Array Slot} (hP : va_P (dC, dI) vwCl (mG am cm g a ++ xG L cid K N v) H) (hD : va_D (fun q : Nat => s.heap.size ≤ q) (mG am cm g a ++ xG L cid K N v)) (hS : va_S (fun q : Nat => s.heap.size ≤ q) s.heap H locs) (hl : lv_has ls 4 [(3, .int (iI i)), (2, .ref (am 0)), (1, .ref z0.toNat), (0, .ref b)])
    (kk : ∀ (L : List Nat) (K : Int → Nat) (N : Int → Int) (v : Int → Int → Int) (g : Nat → Int) (a : Nat → Int → Int) (nc1 ns1 : Nat) (H : Heap) (locs : List Loc), ok L K z0 12 → xI L K N v → mI g a → rLine g a → rLead g a → rSkill g a → rSh g a → v z0 0 = g 30 → v z0 11 = g 50 → v (v z0 19) 1 = g 78 → v (v z0 14) 5 = g 66 → rSub v z0 a → rHand v z0 g a → rNews v z0 g a → nc1 ≤ nc + 5 → ns1 ≤ ns + 12100 → va_P (dC, dI) vwCl (mG am cm g a ++ xG L cid K N v) H → va_D (fun q : Nat => s.heap.size ≤ q) (mG am cm g a ++ xG L cid K N v) → va_S (fun q : Nat => s.heap.size ≤ q) s.heap H locs → W p l e room_1 s m #[Value.ref b] below meth c H locs nc1 ns1 (lw_Z below #[Value.ref b] s) (F0 m 1804 ls [])) : W p l e room_1 s m #[Value.ref b] below meth c H locs nc ns (lw_Z below #[Value.ref b] s) (F0 m 1702 ls []) := by
  obtain ⟨hx, hb, hr, hml, hown, hts, hX9, hbl, hlocks, hgv⟩ := id C0
  have hA : ∀ q : Nat, s.heap.size ≤ q → (fun q : Nat => s.heap.size ≤ q) q := fun _ h => h
  have hbA : ¬ (fun q : Nat => s.heap.size ≤ q) b := Nat.not_le.mpr hbl
  refine lv_aload_n hx hb dL_law_1702 rfl (lv_at hl 2 rfl) ?_
  have hPx := jp_tail hP
  have hDx := jd_tail hD
  refine jct_i (va_runV (As := []) (rest := []) ⟨hx, hb, hml, hown, hts⟩ (sX12_forget l dC dI _ L cid K N tW sK sV v z0 hI hz) (cwV 0 hts (jgoodVL m_1635 m_1636 m_1637 m_873 m_1638) rfl rfl rfl (by decide +kernel) ⟨(Nat.le_of_ble_eq_true rfl), (Nat.le_of_ble_eq_true rfl)⟩) ⟨xP_blind, xrecv hKx hPx hz rfl rfl, fun U hU hW => ⟨rfl, xP_of hU hW hPx hKx hDx hXx hS (fun _ h => h) hA⟩⟩ rfl rfl hl.1 rfl (lv_room (Nat.le_of_ble_eq_true rfl)) dL_law_1703 ⟨(show nc + 0 ≤ 600000 by omega), (show ns + 0 ≤ 7302250 by omega)⟩) hP hD hS hA (fun r v_5 H locs w_2 hP hKx hD hS => ?_)
  obtain ⟨x_1, rfl, I_6, f_7, f_3, f_4⟩ := w_2
  have hP : va_P (dC, dI) vwCl (mG am cm g a ++ xG L cid K N v_5) H := hP
  have hD : va_D (fun q : Nat => s.heap.size ≤ q) (mG am cm g a ++ xG L cid K N v_5) := hD
  have f_4 : x_1 = v (v z0 19) 1 ∧ v_5 (v_5 z0 19) 1 = 0 := f_4
  have h_8 : v_5 z0 0 = g 30 := (fr_use hz f_7 rfl).trans hnow
  have h_9 : v_5 z0 11 = g 50 := (fr_use hz f_7 rfl).trans hhands
  have h_11 : ok L K (v z0 14) 5 := xf_12_14 hI hz
  have b_12 : v_5 z0 14 = v z0 14 := fr_use hz f_7 rfl
  have b_13 : v_5 (v z0 14) 5 = v (v z0 14) 5 := fr_use h_11 f_7 rfl
  have h_10 : v_5 (v_5 z0 14) 5 = g 66 := by rw [b_12, b_13]; exact htold
  have h_14 : rSub v_5 z0 a := rSub_x hI hz (frE_of f_7) rfl (fun _ => rfl) hsub
  have h_15 : rHand v_5 z0 g a := rHand_x hI hz (frE_of f_7) rfl (fun _ => rfl) rfl hhd
  have h_16 : rNews v_5 z0 g a := rNews_x hI hz (frE_of f_7) rfl (fun _ => rfl) (fun _ => rfl) (fun _ => rfl) (fun _ => rfl) (fun _ => rfl) rfl rfl rfl rfl rfl hnw
  refine lv_aload_n hx hb dL_law_1706 rfl (lv_at hl 1 rfl) ?_
  obtain ⟨hP, hD⟩ := lsw hP hD
  have hPm := jp_tail hP
  have hDm := jd_tail hD
  refine jct_i (va_runV (As := []) (rest := [.int (iI x_1)]) ⟨hx, hb, hml, hown, hts⟩ (sX13_forget l dC dI _ am cm g a hM) (cwV 0 hts (jgoodVL m_1639 m_344 m_345 m_503 m_137) rfl rfl rfl (by decide +kernel) ⟨(Nat.le_of_ble_eq_true rfl), (Nat.le_of_ble_eq_true rfl)⟩) ⟨jw_blind, va_recv hKm hPm (ci := 13) (q0 := 0) rfl rfl, fun U hU hW => ⟨rfl, jw_of hU hW hPm hKm hDm⟩⟩ rfl rfl hl.1 rfl (lv_room (Nat.le_of_ble_eq_true rfl)) dL_law_1707 ⟨(show nc + 0 ≤ 600000 by omega), (show ns + 0 ≤ 7302250 by omega)⟩) hP hD hS hA (fun r u_19 H locs w_18 hP hKm hD hS => ?_)
  obtain ⟨g_20, a_21⟩ := u_19
  obtain ⟨y_17, rfl, h_22, h_23, h_24, h_25, h_26⟩ := w_18
  have hP : va_P (dC, dI) vwCl (xG L cid K N v_5 ++ mG am cm g_20 a_21) H := hP
  have hD : va_D (fun q : Nat => s.heap.size ≤ q) (xG L cid K N v_5 ++ mG am cm g_20 a_21) := hD
  have h_22 : mI g_20 a_21 := h_22
  have h_26 : y_17 = g 78 ∧ g_20 78 = 0 := h_26
  have h_27 : rLine g_20 a_21 := rLine_t (h_23 56 (by decide)) (h_24 45 (by decide)) hrLine
  have h_28 : rLead g_20 a_21 := rLead_t (h_23 37 (by decide)) (h_24 27 (by decide)) (h_24 31 (by decide)) hrLead
  have h_29 : rSkill g_20 a_21 := rSkill_t (h_23 50 (by decide)) (h_24 38 (by decide)) hrSkill
  have h_30 : rSh g_20 a_21 := rSh_t (h_23 18 (by decide)) (h_23 26 (by decide)) (h_24 9 (by decide)) (h_24 10 (by decide)) (h_24 11 (by decide)) (h_24 12 (by decide)) (h_24 16 (by decide)) hrSh
  have h_31 : v_5 z0 0 = g_20 30 := h_8.trans (h_23 30 (by decide)).symm
  have h_32 : v_5 z0 11 = g_20 50 := h_9.trans (h_23 50 (by decide)).symm
  have b_34 := hM.1 78
  have b_34 : 0 ≤ g 78 ∧ g 78 ≤ 30 := b_34
  have h_33 : v_5 (v_5 z0 19) 1 = g_20 78 := by omega
  have h_35 : v_5 (v_5 z0 14) 5 = g_20 66 := h_10.trans (h_23 66 (by decide)).symm
  have h_36 : rSub v_5 z0 a_21 := rSub_m (h_24 60 (by decide)) h_14
  have h_37 : rHand v_5 z0 g_20 a_21 := rHand_m (h_23 50 (by decide)) (h_24 41 (by decide)) h_15
  have h_38 : rNews v_5 z0 g_20 a_21 := rNews_m (h_23 66 (by decide)) (h_24 51 (by decide)) (h_24 52 (by decide)) (h_24 53 (by decide)) (h_24 54 (by decide)) h_16
  obtain ⟨hP, hD⟩ := lsw hP hD
  have h_39 : x_1 = y_17 := by omega
  subst h_39
  refine lv_icmp_eq (tgt := 1804) hx hb dL_law_1710 (by decide) (fun _ => ?_) (fun z => absurd rfl z)
  exact kk L K N v_5 g_20 a_21 _ _ H locs hz I_6 h_22 h_27 h_28 h_29 h_30 h_31 h_32 h_33 h_35 h_36 h_37 h_38 (by omega) (by omega) hP hD hS
set_option maxHeartbeats 4000000 in
set_option maxRecDepth 100000 in
theorem lc_45 {p : Program} {l : Launch} {e : Env} {s : State} {m : MethodId} {below : List Frame} {meth : Method} {c : Code} {b n : Nat} {xs : Nat → Int32} (C0 : lw_At p s m meth c b n xs) (hn : n ≤ 3072) {dC : Nat → ClassId} {dI : Nat → Nat → Nat} {am : Nat → Nat} {cm cid : Nat → ClassId} {tW : Nat} {sK sV : Nat → Nat} (hXx : xX tW sK sV (fun q : Nat => s.heap.size ≤ q) s s.heap) (hKx : va_K (dC, dI) vwCl (xT cid) s) (hKm : va_K (dC, dI) vwCl (mT cm) s) {z0 : Int} {i : Int} (hi0 : 0 ≤ i) (hi : i + 6 ≤ n) {L : List Nat} {K : Int → Nat} {N : Int → Int} {v : Int → Int → Int} {g : Nat → Int} {a : Nat → Int → Int} (hz : ok L K z0 12) (hI : xI L K N v) (hM : mI g a) (hrLine : rLine g a) (hrLead : rLead g a) (hrSkill : rSkill g a) (hrSh : rSh g a) (hnow : v z0 0 = g 30) (hhands : v z0 11 = g 50) (hstolen : v (v z0 19) 1 = g 78) (htold : v (v z0 14) 5 = g 66) (hsub : rSub v z0 a) (hhd : rHand v z0 g a) (hnw : rNews v z0 g a) {nc ns : Nat} (hc : nc + 5 ≤ 600000) (hs : ns + 12100 ≤ 7302250) {H : Heap} {locs : List Loc} {ls : Array Slot} (hP : va_P (dC, dI) vwCl (mG am cm g a ++ xG L cid K N v) H) (hD : va_D (fun q : Nat => s.heap.size ≤ q) (mG am cm g a ++ xG L cid K N v)) (hS : va_S (fun q : Nat => s.heap.size ≤ q) s.heap H locs) (hl : lv_has ls 4 [(3, .int (iI i)), (2, .ref (am 0)), (1, .ref z0.toNat), (0, .ref b)])
    (kk : ∀ (L : List Nat) (K : Int → Nat) (N : Int → Int) (v : Int → Int → Int) (g : Nat → Int) (a : Nat → Int → Int) (nc1 ns1 : Nat) (H : Heap) (locs : List Loc), ok L K z0 12 → xI L K N v → mI g a → rLine g a → rLead g a → rSkill g a → rSh g a → v z0 0 = g 30 → v z0 11 = g 50 → v (v z0 19) 1 = g 78 → v (v z0 14) 5 = g 66 → rSub v z0 a → rHand v z0 g a → rNews v z0 g a → nc1 ≤ nc + 5 → ns1 ≤ ns + 12100 → va_P (dC, dI) vwCl (mG am cm g a ++ xG L cid K N v) H → va_D (fun q : Nat => s.heap.size ≤ q) (mG am cm g a ++ xG L cid K N v) → va_S (fun q : Nat => s.heap.size ≤ q) s.heap H locs → W p l e room_1 s m #[Value.ref b] below meth c H locs nc1 ns1 (lw_Z below #[Value.ref b] s) (F0 m 1804 ls [])) : W p l e room_1 s m #[Value.ref b] below meth c H locs nc ns (lw_Z below #[Value.ref b] s) (F0 m 1715 ls []) := by
  obtain ⟨hx, hb, hr, hml, hown, hts, hX9, hbl, hlocks, hgv⟩ := id C0
  have hA : ∀ q : Nat, s.heap.size ≤ q → (fun q : Nat => s.heap.size ≤ q) q := fun _ h => h
  have hbA : ¬ (fun q : Nat => s.heap.size ≤ q) b := Nat.not_le.mpr hbl
  refine lv_aload_n hx hb dL_law_1715 rfl (lv_at hl 2 rfl) ?_
  refine lv_aload_n hx hb dL_law_1716 rfl (lv_at hl 3 rfl) ?_
  refine lv_iload_n hx hb dL_law_1717 rfl (lv_at hl 0 rfl) ?_
  refine lv_iconst (v := iI 1) hx hb dL_law_1718 rfl ?_
  refine xr_add hx hb dL_law_1719 ?_
  refine va_sld hx hb hX9 hbl hbA hS (xvp (t := i + 1) (by omega) (by omega) hn) dL_law_1720 ?_
  obtain ⟨p_1, h_2, r_3⟩ : ∃ y : Int, xs (iI (i + 1)).toNatClampNeg = iI y ∧ rg y := ⟨_, iI_of _, rg_of _⟩
  refine jt_i (iI p_1) h_2 ?_
  refine lv_aload_n hx hb dL_law_1721 rfl (lv_at hl 3 rfl) ?_
  refine lv_iload_n hx hb dL_law_1722 rfl (lv_at hl 0 rfl) ?_
  refine lv_iconst (v := iI 2) hx hb dL_law_1723 rfl ?_
  refine xr_add hx hb dL_law_1724 ?_
  refine va_sld hx hb hX9 hbl hbA hS (xvp (t := i + 2) (by omega) (by omega) hn) dL_law_1725 ?_
  obtain ⟨p_4, h_5, r_6⟩ : ∃ y : Int, xs (iI (i + 2)).toNatClampNeg = iI y ∧ rg y := ⟨_, iI_of _, rg_of _⟩
  refine jt_i (iI p_4) h_5 ?_
  have hPx := jp_tail hP
  have hDx := jd_tail hD
  refine jct_i (va_runV (As := [.int (iI p_1), .int (iI p_4)]) (rest := []) ⟨hx, hb, hml, hown, hts⟩ (sX12_thief l dC dI _ L cid K N tW sK sV v z0 p_1 p_4 hI hz r_3 r_6) (cwV 2 hts (jgoodVL m_1640 m_1641 m_1642 m_873 m_1643) rfl rfl rfl (by decide +kernel) ⟨(Nat.le_of_ble_eq_true rfl), (Nat.le_of_ble_eq_true rfl)⟩) ⟨xP_blind, xrecv hKx hPx hz rfl rfl, fun U hU hW => ⟨rfl, xP_of hU hW hPx hKx hDx hXx hS (fun _ h => h) hA⟩⟩ rfl rfl hl.1 rfl (lv_room (Nat.le_of_ble_eq_true rfl)) dL_law_1726 ⟨(show nc + 0 ≤ 600000 by omega), (show ns + 0 ≤ 7302250 by omega)⟩) hP hD hS hA (fun r v_10 H locs w_8 hP hKx hD hS => ?_)
  obtain ⟨x_7, rfl, I_11, f_12, f_9⟩ := w_8
  have hP : va_P (dC, dI) vwCl (mG am cm g a ++ xG L cid K N v_10) H := hP
  have hD : va_D (fun q : Nat => s.heap.size ≤ q) (mG am cm g a ++ xG L cid K N v_10) := hD
  have h_13 : v_10 z0 0 = g 30 := (fr_use hz f_12 rfl).trans hnow
  have h_14 : v_10 z0 11 = g 50 := (fr_use hz f_12 rfl).trans hhands
  have h_16 : ok L K (v z0 19) 10 := xf_12_19 hI hz
  have b_17 : v_10 z0 19 = v z0 19 := fr_use hz f_12 rfl
  have b_18 : v_10 (v z0 19) 1 = v (v z0 19) 1 := fr_use h_16 f_12 rfl
  have h_15 : v_10 (v_10 z0 19) 1 = g 78 := by rw [b_17, b_18]; exact hstolen
  have h_20 : ok L K (v z0 14) 5 := xf_12_14 hI hz
  have b_21 : v_10 z0 14 = v z0 14 := fr_use hz f_12 rfl
  have b_22 : v_10 (v z0 14) 5 = v (v z0 14) 5 := fr_use h_20 f_12 rfl
  have h_19 : v_10 (v_10 z0 14) 5 = g 66 := by rw [b_21, b_22]; exact htold
  have h_23 : rSub v_10 z0 a := rSub_x hI hz (frE_of f_12) rfl (fun _ => rfl) hsub
  have h_24 : rHand v_10 z0 g a := rHand_x hI hz (frE_of f_12) rfl (fun _ => rfl) rfl hhd
  have h_25 : rNews v_10 z0 g a := rNews_x hI hz (frE_of f_12) rfl (fun _ => rfl) (fun _ => rfl) (fun _ => rfl) (fun _ => rfl) (fun _ => rfl) rfl rfl rfl rfl rfl hnw
  refine lv_pop hx hb dL_law_1729 rfl ?_
  refine lv_aload_n hx hb dL_law_1730 rfl (lv_at hl 1 rfl) ?_
  refine lv_aload_n hx hb dL_law_1731 rfl (lv_at hl 3 rfl) ?_
  refine lv_iload_n hx hb dL_law_1732 rfl (lv_at hl 0 rfl) ?_
  refine lv_iconst (v := iI 1) hx hb dL_law_1733 rfl ?_
  refine xr_add hx hb dL_law_1734 ?_
  refine va_sld hx hb hX9 hbl hbA hS (xvp (t := i + 1) (by omega) (by omega) hn) dL_law_1735 ?_
  refine jt_i (iI p_1) h_2 ?_
  refine lv_aload_n hx hb dL_law_1736 rfl (lv_at hl 3 rfl) ?_
  refine lv_iload_n hx hb dL_law_1737 rfl (lv_at hl 0 rfl) ?_
  refine lv_iconst (v := iI 2) hx hb dL_law_1738 rfl ?_
  refine xr_add hx hb dL_law_1739 ?_
  refine va_sld hx hb hX9 hbl hbA hS (xvp (t := i + 2) (by omega) (by omega) hn) dL_law_1740 ?_
  refine jt_i (iI p_4) h_5 ?_
  obtain ⟨hP, hD⟩ := lsw hP hD
  have hPm := jp_tail hP
  have hDm := jd_tail hD
  refine jct_i (va_runV (As := [.int (iI p_1), .int (iI p_4)]) (rest := []) ⟨hx, hb, hml, hown, hts⟩ (sX13_thief l dC dI _ am cm g a p_1 p_4 hM r_3 r_6) (cwV 2 hts (jgoodVL m_1644 m_486 m_487 m_503 m_211) rfl rfl rfl (by decide +kernel) ⟨(Nat.le_of_ble_eq_true rfl), (Nat.le_of_ble_eq_true rfl)⟩) ⟨jw_blind, va_recv hKm hPm (ci := 13) (q0 := 0) rfl rfl, fun U hU hW => ⟨rfl, jw_of hU hW hPm hKm hDm⟩⟩ rfl rfl hl.1 rfl (lv_room (Nat.le_of_ble_eq_true rfl)) dL_law_1741 ⟨(show nc + 0 ≤ 600000 by omega), (show ns + 0 ≤ 7302250 by omega)⟩) hP hD hS hA (fun r u_28 H locs w_27 hP hKm hD hS => ?_)
  obtain ⟨g_29, a_30⟩ := u_28
  obtain ⟨y_26, rfl, h_31, h_32, h_33, h_34⟩ := w_27
  have hP : va_P (dC, dI) vwCl (xG L cid K N v_10 ++ mG am cm g_29 a_30) H := hP
  have hD : va_D (fun q : Nat => s.heap.size ≤ q) (xG L cid K N v_10 ++ mG am cm g_29 a_30) := hD
  have h_31 : g_29 = g := h_31
  have h_32 : mI g_29 a_30 := h_32
  have h_35 : rLine g_29 a_30 := rLine_t (congrFun h_31 56) (h_33 45 (by decide)) hrLine
  have h_36 : rLead g_29 a_30 := rLead_t (congrFun h_31 37) (h_33 27 (by decide)) (h_33 31 (by decide)) hrLead
  have h_37 : rSkill g_29 a_30 := rSkill_t (congrFun h_31 50) (h_33 38 (by decide)) hrSkill
  have h_38 : rSh g_29 a_30 := rSh_t (congrFun h_31 18) (congrFun h_31 26) (h_33 9 (by decide)) (h_33 10 (by decide)) (h_33 11 (by decide)) (h_33 12 (by decide)) (h_33 16 (by decide)) hrSh
  have h_39 : v_10 z0 0 = g_29 30 := h_13.trans (congrFun h_31 30).symm
  have h_40 : v_10 z0 11 = g_29 50 := h_14.trans (congrFun h_31 50).symm
  have h_41 : v_10 (v_10 z0 19) 1 = g_29 78 := h_15.trans (congrFun h_31 78).symm
  have h_42 : v_10 (v_10 z0 14) 5 = g_29 66 := h_19.trans (congrFun h_31 66).symm
  have h_43 : rSub v_10 z0 a_30 := rSub_m (h_33 60 (by decide)) h_23
  have h_44 : rHand v_10 z0 g_29 a_30 := rHand_m (congrFun h_31 50) (h_33 41 (by decide)) h_24
  have h_45 : rNews v_10 z0 g_29 a_30 := rNews_m (congrFun h_31 66) (h_33 51 (by decide)) (h_33 52 (by decide)) (h_33 53 (by decide)) (h_33 54 (by decide)) h_25
  obtain ⟨hP, hD⟩ := lsw hP hD
  refine lv_pop hx hb dL_law_1744 rfl ?_
  refine lv_goto (tgt := 1804) hx hb dL_law_1745 (by decide) ?_
  exact kk L K N v_10 g_29 a_30 _ _ H locs hz I_11 h_32 h_35 h_36 h_37 h_38 h_39 h_40 h_41 h_42 h_43 h_44 h_45 (by omega) (by omega) hP hD hS
