set_option maxHeartbeats 4000000 in
set_option maxRecDepth 100000 in
theorem lc_41 {p : Program} {l : Launch} {e : Env} {s : State} {m : MethodId} {below : List Frame} {meth : Method} {c : Code} {b n : Nat} {xs : Nat → Int32} (C0 : lw_At p s m meth c b n xs) (hn : n ≤ 3072) {dC : Nat → ClassId} {dI : Nat → Nat → Nat} {am : Nat → Nat} {cm cid : Nat → ClassId} {tW : Nat} {sK sV : Nat → Nat} (hXx : xX tW sK sV (fun q : Nat => s.heap.size ≤ q) s s.heap) (hKx : va_K (dC, dI) vwCl (xT cid) s) (hKm : va_K (dC, dI) vwCl (mT cm) s) {z0 : Int} {i : Int} (hi0 : 0 ≤ i) (hi : i + 6 ≤ n) {L : List Nat} {K : Int → Nat} {N : Int → Int} {v : Int → Int → Int} {g : Nat → Int} {a : Nat → Int → Int} (hz : ok L K z0 12) (hI : xI L K N v) (hM : mI g a) (hrLine : rLine g a) (hrLead : rLead g a) (hrSkill : rSkill g a) (hrSh : rSh g a) (hnow : v z0 0 = g 30) {nc ns : Nat} (hc : nc + 5 ≤ 600000) (hs : ns + 12100 ≤ 7302250) {H : Heap} {locs : List Loc} {ls : Array Slot} (hP : va_P (dC, dI) vwCl (mG am cm g a ++ xG L cid K N v) H) (hD : va_D (fun q : Nat => s.heap.size ≤ q) (mG am cm g a ++ xG L cid K N v)) (hS : va_S (fun q : Nat => s.heap.size ≤ q) s.heap H locs) (hl : lv_has ls 4 [(3, .int (iI i)), (2, .ref (am 0)), (1, .ref z0.toNat), (0, .ref b)])
    (kk : ∀ (L : List Nat) (K : Int → Nat) (N : Int → Int) (v : Int → Int → Int) (g : Nat → Int) (a : Nat → Int → Int) (nc1 ns1 : Nat) (H : Heap) (locs : List Loc), ok L K z0 12 → xI L K N v → mI g a → rLine g a → rLead g a → rSkill g a → rSh g a → v z0 0 = g 30 → nc1 ≤ nc + 5 → ns1 ≤ ns + 12100 → va_P (dC, dI) vwCl (mG am cm g a ++ xG L cid K N v) H → va_D (fun q : Nat => s.heap.size ≤ q) (mG am cm g a ++ xG L cid K N v) → va_S (fun q : Nat => s.heap.size ≤ q) s.heap H locs → W p l e room_1 s m #[Value.ref b] below meth c H locs nc1 ns1 (lw_Z below #[Value.ref b] s) (F0 m 1804 ls [])) : W p l e room_1 s m #[Value.ref b] below meth c H locs nc ns (lw_Z below #[Value.ref b] s) (F0 m 1583 ls []) := by
  obtain ⟨hx, hb, hr, hml, hown, hts, hX9, hbl, hlocks, hgv⟩ := id C0
  have hA : ∀ q : Nat, s.heap.size ≤ q → (fun q : Nat => s.heap.size ≤ q) q := fun _ h => h
  have hbA : ¬ (fun q : Nat => s.heap.size ≤ q) b := Nat.not_le.mpr hbl
  refine lv_aload_n hx hb dL_law_1583 rfl (lv_at hl 2 rfl) ?_
  refine lv_aload_n hx hb dL_law_1584 rfl (lv_at hl 3 rfl) ?_
  refine lv_iload_n hx hb dL_law_1585 rfl (lv_at hl 0 rfl) ?_
  refine lv_iconst (v := iI 1) hx hb dL_law_1586 rfl ?_
  refine xr_add hx hb dL_law_1587 ?_
  refine va_sld hx hb hX9 hbl hbA hS (xvp (t := i + 1) (by omega) (by omega) hn) dL_law_1588 ?_
  obtain ⟨p_1, h_2, r_3⟩ : ∃ y : Int, xs (iI (i + 1)).toNatClampNeg = iI y ∧ rg y := ⟨_, iI_of _, rg_of _⟩
  refine jt_i (iI p_1) h_2 ?_
  refine lv_aload_n hx hb dL_law_1589 rfl (lv_at hl 3 rfl) ?_
  refine lv_iload_n hx hb dL_law_1590 rfl (lv_at hl 0 rfl) ?_
  refine lv_iconst (v := iI 2) hx hb dL_law_1591 rfl ?_
  refine xr_add hx hb dL_law_1592 ?_
  refine va_sld hx hb hX9 hbl hbA hS (xvp (t := i + 2) (by omega) (by omega) hn) dL_law_1593 ?_
  obtain ⟨p_4, h_5, r_6⟩ : ∃ y : Int, xs (iI (i + 2)).toNatClampNeg = iI y ∧ rg y := ⟨_, iI_of _, rg_of _⟩
  refine jt_i (iI p_4) h_5 ?_
  refine lv_aload_n hx hb dL_law_1594 rfl (lv_at hl 3 rfl) ?_
  refine lv_iload_n hx hb dL_law_1595 rfl (lv_at hl 0 rfl) ?_
  refine lv_iconst (v := iI 3) hx hb dL_law_1596 rfl ?_
  refine xr_add hx hb dL_law_1597 ?_
  refine va_sld hx hb hX9 hbl hbA hS (xvp (t := i + 3) (by omega) (by omega) hn) dL_law_1598 ?_
  obtain ⟨p_7, h_8, r_9⟩ : ∃ y : Int, xs (iI (i + 3)).toNatClampNeg = iI y ∧ rg y := ⟨_, iI_of _, rg_of _⟩
  refine jt_i (iI p_7) h_8 ?_
  refine lv_aload_n hx hb dL_law_1599 rfl (lv_at hl 3 rfl) ?_
  refine lv_iload_n hx hb dL_law_1600 rfl (lv_at hl 0 rfl) ?_
  refine lv_iconst (v := iI 4) hx hb dL_law_1601 rfl ?_
  refine xr_add hx hb dL_law_1602 ?_
  refine va_sld hx hb hX9 hbl hbA hS (xvp (t := i + 4) (by omega) (by omega) hn) dL_law_1603 ?_
  obtain ⟨p_10, h_11, r_12⟩ : ∃ y : Int, xs (iI (i + 4)).toNatClampNeg = iI y ∧ rg y := ⟨_, iI_of _, rg_of _⟩
  refine jt_i (iI p_10) h_11 ?_
  have hPx := jp_tail hP
  have hDx := jd_tail hD
  refine jct_i (va_runV (As := [.int (iI p_1), .int (iI p_4), .int (iI p_7), .int (iI p_10)]) (rest := []) ⟨hx, hb, hml, hown, hts⟩ (sX12_given l dC dI _ L cid K N tW sK sV v z0 p_1 p_4 p_7 p_10 hI hz r_3 r_6 r_9 r_12) (cwV 4 hts (jgoodVL m_1620 m_1621 m_1622 m_873 m_1623) rfl rfl rfl (by decide +kernel) ⟨(Nat.le_of_ble_eq_true rfl), (Nat.le_of_ble_eq_true rfl)⟩) ⟨xP_blind, xrecv hKx hPx hz rfl rfl, fun U hU hW => ⟨rfl, xP_of hU hW hPx hKx hDx hXx hS (fun _ h => h) hA⟩⟩ rfl rfl hl.1 rfl (lv_room (Nat.le_of_ble_eq_true rfl)) dL_law_1604 ⟨(show nc + 0 ≤ 600000 by omega), (show ns + 0 ≤ 7302250 by omega)⟩) hP hD hS hA (fun r v_16 H locs w_14 hP hKx hD hS => ?_)
  obtain ⟨x_13, rfl, I_17, f_18, f_15⟩ := w_14
  have hP : va_P (dC, dI) vwCl (mG am cm g a ++ xG L cid K N v_16) H := hP
  have hD : va_D (fun q : Nat => s.heap.size ≤ q) (mG am cm g a ++ xG L cid K N v_16) := hD
  have h_19 : v_16 z0 0 = g 30 := (fr_use hz f_18 rfl).trans hnow
  refine lv_pop hx hb dL_law_1607 rfl ?_
  refine lv_aload_n hx hb dL_law_1608 rfl (lv_at hl 1 rfl) ?_
  refine lv_aload_n hx hb dL_law_1609 rfl (lv_at hl 3 rfl) ?_
  refine lv_iload_n hx hb dL_law_1610 rfl (lv_at hl 0 rfl) ?_
  refine lv_iconst (v := iI 1) hx hb dL_law_1611 rfl ?_
  refine xr_add hx hb dL_law_1612 ?_
  refine va_sld hx hb hX9 hbl hbA hS (xvp (t := i + 1) (by omega) (by omega) hn) dL_law_1613 ?_
  refine jt_i (iI p_1) h_2 ?_
  refine lv_aload_n hx hb dL_law_1614 rfl (lv_at hl 3 rfl) ?_
  refine lv_iload_n hx hb dL_law_1615 rfl (lv_at hl 0 rfl) ?_
  refine lv_iconst (v := iI 2) hx hb dL_law_1616 rfl ?_
  refine xr_add hx hb dL_law_1617 ?_
  refine va_sld hx hb hX9 hbl hbA hS (xvp (t := i + 2) (by omega) (by omega) hn) dL_law_1618 ?_
  refine jt_i (iI p_4) h_5 ?_
  refine lv_aload_n hx hb dL_law_1619 rfl (lv_at hl 3 rfl) ?_
  refine lv_iload_n hx hb dL_law_1620 rfl (lv_at hl 0 rfl) ?_
  refine lv_iconst (v := iI 3) hx hb dL_law_1621 rfl ?_
  refine xr_add hx hb dL_law_1622 ?_
  refine va_sld hx hb hX9 hbl hbA hS (xvp (t := i + 3) (by omega) (by omega) hn) dL_law_1623 ?_
  refine jt_i (iI p_7) h_8 ?_
  refine lv_aload_n hx hb dL_law_1624 rfl (lv_at hl 3 rfl) ?_
  refine lv_iload_n hx hb dL_law_1625 rfl (lv_at hl 0 rfl) ?_
  refine lv_iconst (v := iI 4) hx hb dL_law_1626 rfl ?_
  refine xr_add hx hb dL_law_1627 ?_
  refine va_sld hx hb hX9 hbl hbA hS (xvp (t := i + 4) (by omega) (by omega) hn) dL_law_1628 ?_
  refine jt_i (iI p_10) h_11 ?_
  obtain ⟨hP, hD⟩ := lsw hP hD
  have hPm := jp_tail hP
  have hDm := jd_tail hD
  refine jct_i (va_runV (As := [.int (iI p_1), .int (iI p_4), .int (iI p_7), .int (iI p_10)]) (rest := []) ⟨hx, hb, hml, hown, hts⟩ (sX13_given l dC dI _ am cm g a p_1 p_4 p_7 p_10 hM r_3 r_6 r_9 r_12 hrSkill hrSh) (cwV 4 hts (jgoodVL m_1624 m_348 m_349 m_503 m_139) rfl rfl rfl (by decide +kernel) ⟨(Nat.le_of_ble_eq_true rfl), (Nat.le_of_ble_eq_true rfl)⟩) ⟨jw_blind, va_recv hKm hPm (ci := 13) (q0 := 0) rfl rfl, fun U hU hW => ⟨rfl, jw_of hU hW hPm hKm hDm⟩⟩ rfl rfl hl.1 rfl (lv_room (Nat.le_of_ble_eq_true rfl)) dL_law_1629 ⟨(show nc + 0 ≤ 600000 by omega), (show ns + 0 ≤ 7302250 by omega)⟩) hP hD hS hA (fun r u_22 H locs w_21 hP hKm hD hS => ?_)
  obtain ⟨g_23, a_24⟩ := u_22
  obtain ⟨y_20, rfl, h_25, h_26, h_27, h_28⟩ := w_21
  have hP : va_P (dC, dI) vwCl (xG L cid K N v_16 ++ mG am cm g_23 a_24) H := hP
  have hD : va_D (fun q : Nat => s.heap.size ≤ q) (xG L cid K N v_16 ++ mG am cm g_23 a_24) := hD
  have h_25 : mI g_23 a_24 := h_25
  have h_29 : rLine g_23 a_24 := rLine_t (h_26 56 (by decide)) (h_27 45 (by decide)) hrLine
  have h_30 : rLead g_23 a_24 := rLead_t (h_26 37 (by decide)) (h_27 27 (by decide)) (h_27 31 (by decide)) hrLead
  have h_31 : rSkill g_23 a_24 := rSkill_t (h_26 50 (by decide)) (h_27 38 (by decide)) hrSkill
  have h_32 : rSh g_23 a_24 := rSh_t (h_26 18 (by decide)) (h_26 26 (by decide)) (h_27 9 (by decide)) (h_27 10 (by decide)) (h_27 11 (by decide)) (h_27 12 (by decide)) (h_27 16 (by decide)) hrSh
  have h_33 : v_16 z0 0 = g_23 30 := h_19.trans (h_26 30 (by decide)).symm
  obtain ⟨hP, hD⟩ := lsw hP hD
  refine lv_pop hx hb dL_law_1632 rfl ?_
  refine lv_goto (tgt := 1804) hx hb dL_law_1633 (by decide) ?_
  exact kk L K N v_16 g_23 a_24 _ _ H locs hz I_17 h_25 h_29 h_30 h_31 h_32 h_33 (by omega) (by omega) hP hD hS
set_option maxHeartbeats 4000000 in
set_option maxRecDepth 100000 in
theorem lc_42 {p : Program} {l : Launch} {e : Env} {s : State} {m : MethodId} {below : List Frame} {meth : Method} {c : Code} {b n : Nat} {xs : Nat → Int32} (C0 : lw_At p s m meth c b n xs) (hn : n ≤ 3072) {dC : Nat → ClassId} {dI : Nat → Nat → Nat} {am : Nat → Nat} {cm cid : Nat → ClassId} {tW : Nat} {sK sV : Nat → Nat} (hXx : xX tW sK sV (fun q : Nat => s.heap.size ≤ q) s s.heap) (hKx : va_K (dC, dI) vwCl (xT cid) s) (hKm : va_K (dC, dI) vwCl (mT cm) s) {z0 : Int} {i : Int} (hi0 : 0 ≤ i) (hi : i + 6 ≤ n) {L : List Nat} {K : Int → Nat} {N : Int → Int} {v : Int → Int → Int} {g : Nat → Int} {a : Nat → Int → Int} (hz : ok L K z0 12) (hI : xI L K N v) (hM : mI g a) (hrLine : rLine g a) (hrLead : rLead g a) (hrSkill : rSkill g a) (hrSh : rSh g a) (hnow : v z0 0 = g 30) {nc ns : Nat} (hc : nc + 5 ≤ 600000) (hs : ns + 12100 ≤ 7302250) {H : Heap} {locs : List Loc} {ls : Array Slot} (hP : va_P (dC, dI) vwCl (mG am cm g a ++ xG L cid K N v) H) (hD : va_D (fun q : Nat => s.heap.size ≤ q) (mG am cm g a ++ xG L cid K N v)) (hS : va_S (fun q : Nat => s.heap.size ≤ q) s.heap H locs) (hl : lv_has ls 4 [(3, .int (iI i)), (2, .ref (am 0)), (1, .ref z0.toNat), (0, .ref b)])
    (kk : ∀ (L : List Nat) (K : Int → Nat) (N : Int → Int) (v : Int → Int → Int) (g : Nat → Int) (a : Nat → Int → Int) (nc1 ns1 : Nat) (H : Heap) (locs : List Loc), ok L K z0 12 → xI L K N v → mI g a → rLine g a → rLead g a → rSkill g a → rSh g a → v z0 0 = g 30 → nc1 ≤ nc + 5 → ns1 ≤ ns + 12100 → va_P (dC, dI) vwCl (mG am cm g a ++ xG L cid K N v) H → va_D (fun q : Nat => s.heap.size ≤ q) (mG am cm g a ++ xG L cid K N v) → va_S (fun q : Nat => s.heap.size ≤ q) s.heap H locs → W p l e room_1 s m #[Value.ref b] below meth c H locs nc1 ns1 (lw_Z below #[Value.ref b] s) (F0 m 1804 ls [])) : W p l e room_1 s m #[Value.ref b] below meth c H locs nc ns (lw_Z below #[Value.ref b] s) (F0 m 1636 ls []) := by
  obtain ⟨hx, hb, hr, hml, hown, hts, hX9, hbl, hlocks, hgv⟩ := id C0
  have hA : ∀ q : Nat, s.heap.size ≤ q → (fun q : Nat => s.heap.size ≤ q) q := fun _ h => h
  have hbA : ¬ (fun q : Nat => s.heap.size ≤ q) b := Nat.not_le.mpr hbl
  refine lv_aload_n hx hb dL_law_1636 rfl (lv_at hl 2 rfl) ?_
  refine lv_aload_n hx hb dL_law_1637 rfl (lv_at hl 3 rfl) ?_
  refine lv_iload_n hx hb dL_law_1638 rfl (lv_at hl 0 rfl) ?_
  refine lv_iconst (v := iI 1) hx hb dL_law_1639 rfl ?_
  refine xr_add hx hb dL_law_1640 ?_
  refine va_sld hx hb hX9 hbl hbA hS (xvp (t := i + 1) (by omega) (by omega) hn) dL_law_1641 ?_
  obtain ⟨p_1, h_2, r_3⟩ : ∃ y : Int, xs (iI (i + 1)).toNatClampNeg = iI y ∧ rg y := ⟨_, iI_of _, rg_of _⟩
  refine jt_i (iI p_1) h_2 ?_
  refine lv_aload_n hx hb dL_law_1642 rfl (lv_at hl 3 rfl) ?_
  refine lv_iload_n hx hb dL_law_1643 rfl (lv_at hl 0 rfl) ?_
  refine lv_iconst (v := iI 2) hx hb dL_law_1644 rfl ?_
  refine xr_add hx hb dL_law_1645 ?_
  refine va_sld hx hb hX9 hbl hbA hS (xvp (t := i + 2) (by omega) (by omega) hn) dL_law_1646 ?_
  obtain ⟨p_4, h_5, r_6⟩ : ∃ y : Int, xs (iI (i + 2)).toNatClampNeg = iI y ∧ rg y := ⟨_, iI_of _, rg_of _⟩
  refine jt_i (iI p_4) h_5 ?_
  refine lv_aload_n hx hb dL_law_1647 rfl (lv_at hl 3 rfl) ?_
  refine lv_iload_n hx hb dL_law_1648 rfl (lv_at hl 0 rfl) ?_
  refine lv_iconst (v := iI 3) hx hb dL_law_1649 rfl ?_
  refine xr_add hx hb dL_law_1650 ?_
  refine va_sld hx hb hX9 hbl hbA hS (xvp (t := i + 3) (by omega) (by omega) hn) dL_law_1651 ?_
  obtain ⟨p_7, h_8, r_9⟩ : ∃ y : Int, xs (iI (i + 3)).toNatClampNeg = iI y ∧ rg y := ⟨_, iI_of _, rg_of _⟩
  refine jt_i (iI p_7) h_8 ?_
  have hPx := jp_tail hP
  have hDx := jd_tail hD
  refine jc_i (va_runV (As := [.int (iI p_1), .int (iI p_4), .int (iI p_7)]) (rest := []) ⟨hx, hb, hml, hown, hts⟩ (sX12_index l dC dI _ L cid K N tW sK sV v z0 p_1 p_4 p_7 hI hz r_3 r_6 r_9) (cwV 3 hts (jgoodVL m_1625 m_1626 m_1627 m_873 m_1628) rfl rfl rfl (by decide +kernel) ⟨(Nat.le_of_ble_eq_true rfl), (Nat.le_of_ble_eq_true rfl)⟩) ⟨xP_blind, xrecv hKx hPx hz rfl rfl, fun U hU hW => ⟨rfl, xP_of hU hW hPx hKx hDx hXx hS (fun _ h => h) hA⟩⟩ rfl rfl hl.1 rfl (lv_room (Nat.le_of_ble_eq_true rfl)) dL_law_1652 ⟨(show nc + 0 ≤ 600000 by omega), (show ns + 0 ≤ 7302250 by omega)⟩) hP hS hA (fun r H locs w_11 hP hS => ?_)
  obtain ⟨x_10, rfl, f_12⟩ := w_11
  refine lv_pop hx hb dL_law_1655 rfl ?_
  refine lv_aload_n hx hb dL_law_1656 rfl (lv_at hl 1 rfl) ?_
  refine lv_aload_n hx hb dL_law_1657 rfl (lv_at hl 3 rfl) ?_
  refine lv_iload_n hx hb dL_law_1658 rfl (lv_at hl 0 rfl) ?_
  refine lv_iconst (v := iI 1) hx hb dL_law_1659 rfl ?_
  refine xr_add hx hb dL_law_1660 ?_
  refine va_sld hx hb hX9 hbl hbA hS (xvp (t := i + 1) (by omega) (by omega) hn) dL_law_1661 ?_
  refine jt_i (iI p_1) h_2 ?_
  refine lv_aload_n hx hb dL_law_1662 rfl (lv_at hl 3 rfl) ?_
  refine lv_iload_n hx hb dL_law_1663 rfl (lv_at hl 0 rfl) ?_
  refine lv_iconst (v := iI 2) hx hb dL_law_1664 rfl ?_
  refine xr_add hx hb dL_law_1665 ?_
  refine va_sld hx hb hX9 hbl hbA hS (xvp (t := i + 2) (by omega) (by omega) hn) dL_law_1666 ?_
  refine jt_i (iI p_4) h_5 ?_
  refine lv_aload_n hx hb dL_law_1667 rfl (lv_at hl 3 rfl) ?_
  refine lv_iload_n hx hb dL_law_1668 rfl (lv_at hl 0 rfl) ?_
  refine lv_iconst (v := iI 3) hx hb dL_law_1669 rfl ?_
  refine xr_add hx hb dL_law_1670 ?_
  refine va_sld hx hb hX9 hbl hbA hS (xvp (t := i + 3) (by omega) (by omega) hn) dL_law_1671 ?_
  refine jt_i (iI p_7) h_8 ?_
  obtain ⟨hP, hD⟩ := lsw hP hD
  have hPm := jp_tail hP
  have hDm := jd_tail hD
  refine jc_i (va_runV (As := [.int (iI p_1), .int (iI p_4), .int (iI p_7)]) (rest := []) ⟨hx, hb, hml, hown, hts⟩ (sX13_index l dC dI _ am cm g a p_1 p_4 p_7 hM r_3 r_6 r_9) (cwV 3 hts (jgoodVL m_1629 m_367 m_368 m_503 m_149) rfl rfl rfl (by decide +kernel) ⟨(Nat.le_of_ble_eq_true rfl), (Nat.le_of_ble_eq_true rfl)⟩) ⟨jw_blind, va_recv hKm hPm (ci := 13) (q0 := 0) rfl rfl, fun U hU hW => ⟨rfl, jw_of hU hW hPm hKm hDm⟩⟩ rfl rfl hl.1 rfl (lv_room (Nat.le_of_ble_eq_true rfl)) dL_law_1672 ⟨(show nc + 0 ≤ 600000 by omega), (show ns + 0 ≤ 7302250 by omega)⟩) hP hS hA (fun r H locs w_14 hP hS => ?_)
  obtain ⟨y_13, rfl, -⟩ := w_14
  obtain ⟨hP, hD⟩ := lsw hP hD
  refine lv_pop hx hb dL_law_1675 rfl ?_
  refine lv_goto (tgt := 1804) hx hb dL_law_1676 (by decide) ?_
  exact kk L K N v g a _ _ H locs hz hI hM hrLine hrLead hrSkill hrSh hnow (by omega) (by omega) hP hD hS
set_option maxHeartbeats 4000000 in
set_option maxRecDepth 100000 in
theorem lc_43 {p : Program} {l : Launch} {e : Env} {s : State} {m : MethodId} {below : List Frame} {meth : Method} {c : Code} {b n : Nat} {xs : Nat → Int32} (C0 : lw_At p s m meth c b n xs) (hn : n ≤ 3072) {dC : Nat → ClassId} {dI : Nat → Nat → Nat} {am : Nat → Nat} {cm cid : Nat → ClassId} {tW : Nat} {sK sV : Nat → Nat} (hXx : xX tW sK sV (fun q : Nat => s.heap.size ≤ q) s s.heap) (hKx : va_K (dC, dI) vwCl (xT cid) s) (hKm : va_K (dC, dI) vwCl (mT cm) s) {z0 : Int} {i : Int} (hi0 : 0 ≤ i) (hi : i + 6 ≤ n) {L : List Nat} {K : Int → Nat} {N : Int → Int} {v : Int → Int → Int} {g : Nat → Int} {a : Nat → Int → Int} (hz : ok L K z0 12) (hI : xI L K N v) (hM : mI g a) (hrLine : rLine g a) (hrLead : rLead g a) (hrSkill : rSkill g a) (hrSh : rSh g a) (hnow : v z0 0 = g 30) {nc ns : Nat} (hc : nc + 5 ≤ 600000) (hs : ns + 12100 ≤ 7302250) {H : Heap} {locs : List Loc} {ls : Array Slot} (hP : va_P (dC, dI) vwCl (mG am cm g a ++ xG L cid K N v) H) (hD : va_D (fun q : Nat => s.heap.size ≤ q) (mG am cm g a ++ xG L cid K N v)) (hS : va_S (fun q : Nat => s.heap.size ≤ q) s.heap H locs) (hl : lv_has ls 4 [(3, .int (iI i)), (2, .ref (am 0)), (1, .ref z0.toNat), (0, .ref b)])
    (kk : ∀ (L : List Nat) (K : Int → Nat) (N : Int → Int) (v : Int → Int → Int) (g : Nat → Int) (a : Nat → Int → Int) (nc1 ns1 : Nat) (H : Heap) (locs : List Loc), ok L K z0 12 → xI L K N v → mI g a → rLine g a → rLead g a → rSkill g a → rSh g a → v z0 0 = g 30 → nc1 ≤ nc + 5 → ns1 ≤ ns + 12100 → va_P (dC, dI) vwCl (mG am cm g a ++ xG L cid K N v) H → va_D (fun q : Nat => s.heap.size ≤ q) (mG am cm g a ++ xG L cid K N v) → va_S (fun q : Nat => s.heap.size ≤ q) s.heap H locs → W p l e room_1 s m #[Value.ref b] below meth c H locs nc1 ns1 (lw_Z below #[Value.ref b] s) (F0 m 1804 ls [])) : W p l e room_1 s m #[Value.ref b] below meth c H locs nc ns (lw_Z below #[Value.ref b] s) (F0 m 1679 ls []) := by
  obtain ⟨hx, hb, hr, hml, hown, hts, hX9, hbl, hlocks, hgv⟩ := id C0
  have hA : ∀ q : Nat, s.heap.size ≤ q → (fun q : Nat => s.heap.size ≤ q) q := fun _ h => h
  have hbA : ¬ (fun q : Nat => s.heap.size ≤ q) b := Nat.not_le.mpr hbl
  refine lv_aload_n hx hb dL_law_1679 rfl (lv_at hl 2 rfl) ?_
  refine lv_aload_n hx hb dL_law_1680 rfl (lv_at hl 3 rfl) ?_
  refine lv_iload_n hx hb dL_law_1681 rfl (lv_at hl 0 rfl) ?_
  refine lv_iconst (v := iI 1) hx hb dL_law_1682 rfl ?_
  refine xr_add hx hb dL_law_1683 ?_
  refine va_sld hx hb hX9 hbl hbA hS (xvp (t := i + 1) (by omega) (by omega) hn) dL_law_1684 ?_
  obtain ⟨p_1, h_2, r_3⟩ : ∃ y : Int, xs (iI (i + 1)).toNatClampNeg = iI y ∧ rg y := ⟨_, iI_of _, rg_of _⟩
  refine jt_i (iI p_1) h_2 ?_
  have hPx := jp_tail hP
  have hDx := jd_tail hD
  refine jct_i (va_runV (As := [.int (iI p_1)]) (rest := []) ⟨hx, hb, hml, hown, hts⟩ (sX12_steal l dC dI _ L cid K N tW sK sV v z0 p_1 hI hz r_3) (cwV 1 hts (jgoodVL m_1630 m_1631 m_1632 m_873 m_1633) rfl rfl rfl (by decide +kernel) ⟨(Nat.le_of_ble_eq_true rfl), (Nat.le_of_ble_eq_true rfl)⟩) ⟨xP_blind, xrecv hKx hPx hz rfl rfl, fun U hU hW => ⟨rfl, xP_of hU hW hPx hKx hDx hXx hS (fun _ h => h) hA⟩⟩ rfl rfl hl.1 rfl (lv_room (Nat.le_of_ble_eq_true rfl)) dL_law_1685 ⟨(show nc + 0 ≤ 600000 by omega), (show ns + 0 ≤ 7302250 by omega)⟩) hP hD hS hA (fun r v_7 H locs w_5 hP hKx hD hS => ?_)
  obtain ⟨x_4, rfl, I_8, f_9, f_6⟩ := w_5
  have hP : va_P (dC, dI) vwCl (mG am cm g a ++ xG L cid K N v_7) H := hP
  have hD : va_D (fun q : Nat => s.heap.size ≤ q) (mG am cm g a ++ xG L cid K N v_7) := hD
  have h_10 : v_7 z0 0 = g 30 := (fr_use hz f_9 rfl).trans hnow
  refine lv_pop hx hb dL_law_1688 rfl ?_
  refine lv_aload_n hx hb dL_law_1689 rfl (lv_at hl 1 rfl) ?_
  refine lv_aload_n hx hb dL_law_1690 rfl (lv_at hl 3 rfl) ?_
  refine lv_iload_n hx hb dL_law_1691 rfl (lv_at hl 0 rfl) ?_
  refine lv_iconst (v := iI 1) hx hb dL_law_1692 rfl ?_
  refine xr_add hx hb dL_law_1693 ?_
  refine va_sld hx hb hX9 hbl hbA hS (xvp (t := i + 1) (by omega) (by omega) hn) dL_law_1694 ?_
  refine jt_i (iI p_1) h_2 ?_
  obtain ⟨hP, hD⟩ := lsw hP hD
  have hPm := jp_tail hP
  have hDm := jd_tail hD
  refine jct_i (va_runV (As := [.int (iI p_1)]) (rest := []) ⟨hx, hb, hml, hown, hts⟩ (sX13_steal l dC dI _ am cm g a p_1 hM r_3) (cwV 1 hts (jgoodVL m_1634 m_470 m_471 m_503 m_203) rfl rfl rfl (by decide +kernel) ⟨(Nat.le_of_ble_eq_true rfl), (Nat.le_of_ble_eq_true rfl)⟩) ⟨jw_blind, va_recv hKm hPm (ci := 13) (q0 := 0) rfl rfl, fun U hU hW => ⟨rfl, jw_of hU hW hPm hKm hDm⟩⟩ rfl rfl hl.1 rfl (lv_room (Nat.le_of_ble_eq_true rfl)) dL_law_1695 ⟨(show nc + 0 ≤ 600000 by omega), (show ns + 0 ≤ 7302250 by omega)⟩) hP hD hS hA (fun r u_13 H locs w_12 hP hKm hD hS => ?_)
  obtain ⟨g_14, a_15⟩ := u_13
  obtain ⟨y_11, rfl, h_16, h_17, h_18, h_19⟩ := w_12
  have hP : va_P (dC, dI) vwCl (xG L cid K N v_7 ++ mG am cm g_14 a_15) H := hP
  have hD : va_D (fun q : Nat => s.heap.size ≤ q) (xG L cid K N v_7 ++ mG am cm g_14 a_15) := hD
  have h_16 : mI g_14 a_15 := h_16
  have h_20 : rLine g_14 a_15 := rLine_t (h_17 56 (by decide)) (h_18 45 (by decide)) hrLine
  have h_21 : rLead g_14 a_15 := rLead_t (h_17 37 (by decide)) (h_18 27 (by decide)) (h_18 31 (by decide)) hrLead
  have h_22 : rSkill g_14 a_15 := rSkill_t (h_17 50 (by decide)) (h_18 38 (by decide)) hrSkill
  have h_23 : rSh g_14 a_15 := rSh_t (h_17 18 (by decide)) (h_17 26 (by decide)) (h_18 9 (by decide)) (h_18 10 (by decide)) (h_18 11 (by decide)) (h_18 12 (by decide)) (h_18 16 (by decide)) hrSh
  have h_24 : v_7 z0 0 = g_14 30 := h_10.trans (h_17 30 (by decide)).symm
  obtain ⟨hP, hD⟩ := lsw hP hD
  refine lv_pop hx hb dL_law_1698 rfl ?_
  refine lv_goto (tgt := 1804) hx hb dL_law_1699 (by decide) ?_
  exact kk L K N v_7 g_14 a_15 _ _ H locs hz I_8 h_16 h_20 h_21 h_22 h_23 h_24 (by omega) (by omega) hP hD hS
set_option maxHeartbeats 4000000 in
set_option maxRecDepth 100000 in
theorem lc_44 {p : Program} {l : Launch} {e : Env} {s : State} {m : MethodId} {below : List Frame} {meth : Method} {c : Code} {b n : Nat} {xs : Nat → Int32} (C0 : lw_At p s m meth c b n xs) (hn : n ≤ 3072) {dC : Nat → ClassId} {dI : Nat → Nat → Nat} {am : Nat → Nat} {cm cid : Nat → ClassId} {tW : Nat} {sK sV : Nat → Nat} (hXx : xX tW sK sV (fun q : Nat => s.heap.size ≤ q) s s.heap) (hKx : va_K (dC, dI) vwCl (xT cid) s) (hKm : va_K (dC, dI) vwCl (mT cm) s) {z0 : Int} {i : Int} (hi0 : 0 ≤ i) (hi : i + 6 ≤ n) {L : List Nat} {K : Int → Nat} {N : Int → Int} {v : Int → Int → Int} {g : Nat → Int} {a : Nat → Int → Int} (hz : ok L K z0 12) (hI : xI L K N v) (hM : mI g a) (hrLine : rLine g a) (hrLead : rLead g a) (hrSkill : rSkill g a) (hrSh : rSh g a) (hnow : v z0 0 = g 30) {nc ns : Nat} (hc : nc + 5 ≤ 600000) (hs : ns + 12100 ≤ 7302250) {H : Heap} {locs : List Loc} {ls : Array Slot} (hP : va_P (dC, dI) vwCl (mG am cm g a ++ xG L cid K N v) H) (hD : va_D (fun q : Nat => s.heap.size ≤ q) (mG am cm g a ++ xG L cid K N v)) (hS : va_S (fun q : Nat => s.heap.size ≤ q) s.heap H locs) (hl : lv_has ls 4 [(3, .int (iI i)), (2, .ref (am 0)), (1, .ref z0.toNat), (0, .ref b)])
    (kk : ∀ (L : List Nat) (K : Int → Nat) (N : Int → Int) (v : Int → Int → Int) (g : Nat → Int) (a : Nat → Int → Int) (nc1 ns1 : Nat) (H : Heap) (locs : List Loc), ok L K z0 12 → xI L K N v → mI g a → rLine g a → rLead g a → rSkill g a → rSh g a → v z0 0 = g 30 → nc1 ≤ nc + 5 → ns1 ≤ ns + 12100 → va_P (dC, dI) vwCl (mG am cm g a ++ xG L cid K N v) H → va_D (fun q : Nat => s.heap.size ≤ q) (mG am cm g a ++ xG L cid K N v) → va_S (fun q : Nat => s.heap.size ≤ q) s.heap H locs → W p l e room_1 s m #[Value.ref b] below meth c H locs nc1 ns1 (lw_Z below #[Value.ref b] s) (F0 m 1804 ls [])) : W p l e room_1 s m #[Value.ref b] below meth c H locs nc ns (lw_Z below #[Value.ref b] s) (F0 m 1702 ls []) := by
  obtain ⟨hx, hb, hr, hml, hown, hts, hX9, hbl, hlocks, hgv⟩ := id C0
  have hA : ∀ q : Nat, s.heap.size ≤ q → (fun q : Nat => s.heap.size ≤ q) q := fun _ h => h
  have hbA : ¬ (fun q : Nat => s.heap.size ≤ q) b := Nat.not_le.mpr hbl
  refine lv_aload_n hx hb dL_law_1702 rfl (lv_at hl 2 rfl) ?_
  have hPx := jp_tail hP
  have hDx := jd_tail hD
  refine jct_i (va_runV (As := []) (rest := []) ⟨hx, hb, hml, hown, hts⟩ (sX12_forget l dC dI _ L cid K N tW sK sV v z0 hI hz) (cwV 0 hts (jgoodVL m_1635 m_1636 m_1637 m_873 m_1638) rfl rfl rfl (by decide +kernel) ⟨(Nat.le_of_ble_eq_true rfl), (Nat.le_of_ble_eq_true rfl)⟩) ⟨xP_blind, xrecv hKx hPx hz rfl rfl, fun U hU hW => ⟨rfl, xP_of hU hW hPx hKx hDx hXx hS (fun _ h => h) hA⟩⟩ rfl rfl hl.1 rfl (lv_room (Nat.le_of_ble_eq_true rfl)) dL_law_1703 ⟨(show nc + 0 ≤ 600000 by omega), (show ns + 0 ≤ 7302250 by omega)⟩) hP hD hS hA (fun r v_4 H locs w_2 hP hKx hD hS => ?_)
  obtain ⟨x_1, rfl, I_5, f_6, f_3⟩ := w_2
  have hP : va_P (dC, dI) vwCl (mG am cm g a ++ xG L cid K N v_4) H := hP
  have hD : va_D (fun q : Nat => s.heap.size ≤ q) (mG am cm g a ++ xG L cid K N v_4) := hD
  have h_7 : v_4 z0 0 = g 30 := (fr_use hz f_6 rfl).trans hnow
  refine lv_pop hx hb dL_law_1706 rfl ?_
  refine lv_aload_n hx hb dL_law_1707 rfl (lv_at hl 1 rfl) ?_
  obtain ⟨hP, hD⟩ := lsw hP hD
  have hPm := jp_tail hP
  have hDm := jd_tail hD
  refine jct_i (va_runV (As := []) (rest := []) ⟨hx, hb, hml, hown, hts⟩ (sX13_forget l dC dI _ am cm g a hM) (cwV 0 hts (jgoodVL m_1639 m_344 m_345 m_503 m_137) rfl rfl rfl (by decide +kernel) ⟨(Nat.le_of_ble_eq_true rfl), (Nat.le_of_ble_eq_true rfl)⟩) ⟨jw_blind, va_recv hKm hPm (ci := 13) (q0 := 0) rfl rfl, fun U hU hW => ⟨rfl, jw_of hU hW hPm hKm hDm⟩⟩ rfl rfl hl.1 rfl (lv_room (Nat.le_of_ble_eq_true rfl)) dL_law_1708 ⟨(show nc + 0 ≤ 600000 by omega), (show ns + 0 ≤ 7302250 by omega)⟩) hP hD hS hA (fun r u_10 H locs w_9 hP hKm hD hS => ?_)
  obtain ⟨g_11, a_12⟩ := u_10
  obtain ⟨y_8, rfl, h_13, h_14, h_15, h_16⟩ := w_9
  have hP : va_P (dC, dI) vwCl (xG L cid K N v_4 ++ mG am cm g_11 a_12) H := hP
  have hD : va_D (fun q : Nat => s.heap.size ≤ q) (xG L cid K N v_4 ++ mG am cm g_11 a_12) := hD
  have h_13 : mI g_11 a_12 := h_13
  have h_17 : rLine g_11 a_12 := rLine_t (h_14 56 (by decide)) (h_15 45 (by decide)) hrLine
  have h_18 : rLead g_11 a_12 := rLead_t (h_14 37 (by decide)) (h_15 27 (by decide)) (h_15 31 (by decide)) hrLead
  have h_19 : rSkill g_11 a_12 := rSkill_t (h_14 50 (by decide)) (h_15 38 (by decide)) hrSkill
  have h_20 : rSh g_11 a_12 := rSh_t (h_14 18 (by decide)) (h_14 26 (by decide)) (h_15 9 (by decide)) (h_15 10 (by decide)) (h_15 11 (by decide)) (h_15 12 (by decide)) (h_15 16 (by decide)) hrSh
  have h_21 : v_4 z0 0 = g_11 30 := h_7.trans (h_14 30 (by decide)).symm
  obtain ⟨hP, hD⟩ := lsw hP hD
  refine lv_pop hx hb dL_law_1711 rfl ?_
  refine lv_goto (tgt := 1804) hx hb dL_law_1712 (by decide) ?_
  exact kk L K N v_4 g_11 a_12 _ _ H locs hz I_5 h_13 h_17 h_18 h_19 h_20 h_21 (by omega) (by omega) hP hD hS
set_option maxHeartbeats 4000000 in
set_option maxRecDepth 100000 in
theorem lc_45 {p : Program} {l : Launch} {e : Env} {s : State} {m : MethodId} {below : List Frame} {meth : Method} {c : Code} {b n : Nat} {xs : Nat → Int32} (C0 : lw_At p s m meth c b n xs) (hn : n ≤ 3072) {dC : Nat → ClassId} {dI : Nat → Nat → Nat} {am : Nat → Nat} {cm cid : Nat → ClassId} {tW : Nat} {sK sV : Nat → Nat} (hXx : xX tW sK sV (fun q : Nat => s.heap.size ≤ q) s s.heap) (hKx : va_K (dC, dI) vwCl (xT cid) s) (hKm : va_K (dC, dI) vwCl (mT cm) s) {z0 : Int} {i : Int} (hi0 : 0 ≤ i) (hi : i + 6 ≤ n) {L : List Nat} {K : Int → Nat} {N : Int → Int} {v : Int → Int → Int} {g : Nat → Int} {a : Nat → Int → Int} (hz : ok L K z0 12) (hI : xI L K N v) (hM : mI g a) (hrLine : rLine g a) (hrLead : rLead g a) (hrSkill : rSkill g a) (hrSh : rSh g a) (hnow : v z0 0 = g 30) {nc ns : Nat} (hc : nc + 5 ≤ 600000) (hs : ns + 12100 ≤ 7302250) {H : Heap} {locs : List Loc} {ls : Array Slot} (hP : va_P (dC, dI) vwCl (mG am cm g a ++ xG L cid K N v) H) (hD : va_D (fun q : Nat => s.heap.size ≤ q) (mG am cm g a ++ xG L cid K N v)) (hS : va_S (fun q : Nat => s.heap.size ≤ q) s.heap H locs) (hl : lv_has ls 4 [(3, .int (iI i)), (2, .ref (am 0)), (1, .ref z0.toNat), (0, .ref b)])
    (kk : ∀ (L : List Nat) (K : Int → Nat) (N : Int → Int) (v : Int → Int → Int) (g : Nat → Int) (a : Nat → Int → Int) (nc1 ns1 : Nat) (H : Heap) (locs : List Loc), ok L K z0 12 → xI L K N v → mI g a → rLine g a → rLead g a → rSkill g a → rSh g a → v z0 0 = g 30 → nc1 ≤ nc + 5 → ns1 ≤ ns + 12100 → va_P (dC, dI) vwCl (mG am cm g a ++ xG L cid K N v) H → va_D (fun q : Nat => s.heap.size ≤ q) (mG am cm g a ++ xG L cid K N v) → va_S (fun q : Nat => s.heap.size ≤ q) s.heap H locs → W p l e room_1 s m #[Value.ref b] below meth c H locs nc1 ns1 (lw_Z below #[Value.ref b] s) (F0 m 1804 ls [])) : W p l e room_1 s m #[Value.ref b] below meth c H locs nc ns (lw_Z below #[Value.ref b] s) (F0 m 1715 ls []) := by
  obtain ⟨hx, hb, hr, hml, hown, hts, hX9, hbl, hlocks, hgv⟩ := id C0
  have hA : ∀ q : Nat, s.heap.size ≤ q → (fun q : Nat => s.heap.size ≤ q) q := fun _ h => h
  have hbA : ¬ (fun q : Nat => s.heap.size ≤ q) b := Nat.not_le.mpr hbl
  refine lv_aload_n hx hb dL_law_1715 rfl (lv_at hl 2 rfl) ?_
  refine lv_aload_n hx hb dL_law_1716 rfl (lv_at hl 3 rfl) ?_
  refine lv_iload_n hx hb dL_law_1717 rfl (lv_at hl 0 rfl) ?_
  refine lv_iconst (v := iI 1) hx hb dL_law_1718 rfl ?_
  refine xr_add hx hb dL_law_1719 ?_
  refine va_sld hx hb hX9 hbl hbA hS (xvp (t := i + 1) (by omega) (by omega) hn) dL_law_1720 ?_
  obtain ⟨p_1, h_2, r_3⟩ : ∃ y : Int, xs (iI (i + 1)).toNatClampNeg = iI y ∧ rg y := ⟨_, iI_of _, rg_of _⟩
  refine jt_i (iI p_1) h_2 ?_
  refine lv_aload_n hx hb dL_law_1721 rfl (lv_at hl 3 rfl) ?_
  refine lv_iload_n hx hb dL_law_1722 rfl (lv_at hl 0 rfl) ?_
  refine lv_iconst (v := iI 2) hx hb dL_law_1723 rfl ?_
  refine xr_add hx hb dL_law_1724 ?_
  refine va_sld hx hb hX9 hbl hbA hS (xvp (t := i + 2) (by omega) (by omega) hn) dL_law_1725 ?_
  obtain ⟨p_4, h_5, r_6⟩ : ∃ y : Int, xs (iI (i + 2)).toNatClampNeg = iI y ∧ rg y := ⟨_, iI_of _, rg_of _⟩
  refine jt_i (iI p_4) h_5 ?_
  have hPx := jp_tail hP
  have hDx := jd_tail hD
  refine jct_i (va_runV (As := [.int (iI p_1), .int (iI p_4)]) (rest := []) ⟨hx, hb, hml, hown, hts⟩ (sX12_thief l dC dI _ L cid K N tW sK sV v z0 p_1 p_4 hI hz r_3 r_6) (cwV 2 hts (jgoodVL m_1640 m_1641 m_1642 m_873 m_1643) rfl rfl rfl (by decide +kernel) ⟨(Nat.le_of_ble_eq_true rfl), (Nat.le_of_ble_eq_true rfl)⟩) ⟨xP_blind, xrecv hKx hPx hz rfl rfl, fun U hU hW => ⟨rfl, xP_of hU hW hPx hKx hDx hXx hS (fun _ h => h) hA⟩⟩ rfl rfl hl.1 rfl (lv_room (Nat.le_of_ble_eq_true rfl)) dL_law_1726 ⟨(show nc + 0 ≤ 600000 by omega), (show ns + 0 ≤ 7302250 by omega)⟩) hP hD hS hA (fun r v_10 H locs w_8 hP hKx hD hS => ?_)
  obtain ⟨x_7, rfl, I_11, f_12, f_9⟩ := w_8
  have hP : va_P (dC, dI) vwCl (mG am cm g a ++ xG L cid K N v_10) H := hP
  have hD : va_D (fun q : Nat => s.heap.size ≤ q) (mG am cm g a ++ xG L cid K N v_10) := hD
  have h_13 : v_10 z0 0 = g 30 := (fr_use hz f_12 rfl).trans hnow
  refine lv_pop hx hb dL_law_1729 rfl ?_
  refine lv_aload_n hx hb dL_law_1730 rfl (lv_at hl 1 rfl) ?_
  refine lv_aload_n hx hb dL_law_1731 rfl (lv_at hl 3 rfl) ?_
  refine lv_iload_n hx hb dL_law_1732 rfl (lv_at hl 0 rfl) ?_
  refine lv_iconst (v := iI 1) hx hb dL_law_1733 rfl ?_
  refine xr_add hx hb dL_law_1734 ?_
  refine va_sld hx hb hX9 hbl hbA hS (xvp (t := i + 1) (by omega) (by omega) hn) dL_law_1735 ?_
  refine jt_i (iI p_1) h_2 ?_
  refine lv_aload_n hx hb dL_law_1736 rfl (lv_at hl 3 rfl) ?_
  refine lv_iload_n hx hb dL_law_1737 rfl (lv_at hl 0 rfl) ?_
  refine lv_iconst (v := iI 2) hx hb dL_law_1738 rfl ?_
  refine xr_add hx hb dL_law_1739 ?_
  refine va_sld hx hb hX9 hbl hbA hS (xvp (t := i + 2) (by omega) (by omega) hn) dL_law_1740 ?_
  refine jt_i (iI p_4) h_5 ?_
  obtain ⟨hP, hD⟩ := lsw hP hD
  have hPm := jp_tail hP
  have hDm := jd_tail hD
  refine jct_i (va_runV (As := [.int (iI p_1), .int (iI p_4)]) (rest := []) ⟨hx, hb, hml, hown, hts⟩ (sX13_thief l dC dI _ am cm g a p_1 p_4 hM r_3 r_6) (cwV 2 hts (jgoodVL m_1644 m_486 m_487 m_503 m_211) rfl rfl rfl (by decide +kernel) ⟨(Nat.le_of_ble_eq_true rfl), (Nat.le_of_ble_eq_true rfl)⟩) ⟨jw_blind, va_recv hKm hPm (ci := 13) (q0 := 0) rfl rfl, fun U hU hW => ⟨rfl, jw_of hU hW hPm hKm hDm⟩⟩ rfl rfl hl.1 rfl (lv_room (Nat.le_of_ble_eq_true rfl)) dL_law_1741 ⟨(show nc + 0 ≤ 600000 by omega), (show ns + 0 ≤ 7302250 by omega)⟩) hP hD hS hA (fun r u_16 H locs w_15 hP hKm hD hS => ?_)
  obtain ⟨g_17, a_18⟩ := u_16
  obtain ⟨y_14, rfl, h_19, h_20, h_21, h_22⟩ := w_15
  have hP : va_P (dC, dI) vwCl (xG L cid K N v_10 ++ mG am cm g_17 a_18) H := hP
  have hD : va_D (fun q : Nat => s.heap.size ≤ q) (xG L cid K N v_10 ++ mG am cm g_17 a_18) := hD
  have h_19 : g_17 = g := h_19
  have h_20 : mI g_17 a_18 := h_20
  have h_23 : rLine g_17 a_18 := rLine_t (congrFun h_19 56) (h_21 45 (by decide)) hrLine
  have h_24 : rLead g_17 a_18 := rLead_t (congrFun h_19 37) (h_21 27 (by decide)) (h_21 31 (by decide)) hrLead
  have h_25 : rSkill g_17 a_18 := rSkill_t (congrFun h_19 50) (h_21 38 (by decide)) hrSkill
  have h_26 : rSh g_17 a_18 := rSh_t (congrFun h_19 18) (congrFun h_19 26) (h_21 9 (by decide)) (h_21 10 (by decide)) (h_21 11 (by decide)) (h_21 12 (by decide)) (h_21 16 (by decide)) hrSh
  have h_27 : v_10 z0 0 = g_17 30 := h_13.trans (congrFun h_19 30).symm
  obtain ⟨hP, hD⟩ := lsw hP hD
  refine lv_pop hx hb dL_law_1744 rfl ?_
  refine lv_goto (tgt := 1804) hx hb dL_law_1745 (by decide) ?_
  exact kk L K N v_10 g_17 a_18 _ _ H locs hz I_11 h_20 h_23 h_24 h_25 h_26 h_27 (by omega) (by omega) hP hD hS
