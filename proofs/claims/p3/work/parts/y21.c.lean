set_option maxHeartbeats 4000000 in
set_option maxRecDepth 100000 in
theorem lc_40 {p : Program} {l : Launch} {e : Env} {s : State} {m : MethodId} {below : List Frame} {meth : Method} {c : Code} {b n : Nat} {xs : Nat → Int32} (C0 : lw_At p s m meth c b n xs) (hn : n ≤ 3072) {dC : Nat → ClassId} {dI : Nat → Nat → Nat} {am : Nat → Nat} {cm cid : Nat → ClassId} {tW : Nat} {sK sV : Nat → Nat} (hXx : xX tW sK sV (fun q : Nat => s.heap.size ≤ q) s s.heap) (hKx : va_K (dC, dI) vwCl (xT cid) s) (hKm : va_K (dC, dI) vwCl (mT cm) s) {z0 : Int} {i : Int} (hi0 : 0 ≤ i) (hi : i + 6 ≤ n) {L : List Nat} {K : Int → Nat} {N : Int → Int} {v : Int → Int → Int} {g : Nat → Int} {a : Nat → Int → Int} (hz : ok L K z0 12) (hI : xI L K N v) (hM : mI g a) (hrLine : rLine g a) (hrLead : rLead g a) (hrSkill : rSkill g a) (hrSh : rSh g a) (hnow : v z0 0 = g 30) (hhands : v z0 11 = g 50) (hstolen : v (v z0 19) 1 = g 78) (htold : v (v z0 14) 5 = g 66) (hsize : v (v z0 2) 1 = g 1) (hsheets : v (v z0 3) 1 = g 18) (hsub : rSub v z0 a) (hhd : rHand v z0 g a) (hnw : rNews v z0 g a) (htx : rTxt v z0 g a) {nc ns : Nat} (hc : nc + 5 ≤ 600000) (hs : ns + 12100 ≤ 7302250) {H : Heap} {locs : List Loc} {ls : Array Slot} (hP : va_P (dC, dI) vwCl (mG am cm g a ++ xG L cid K N v) H) (hD : va_D (fun q : Nat => s.heap.size ≤ q) (mG am cm g a ++ xG L cid K N v)) (hS : va_S (fun q : Nat => s.heap.size ≤ q) s.heap H locs) (hl : lv_has ls 4 [(3, .int (iI i)), (2, .ref (am 0)), (1, .ref z0.toNat), (0, .ref b)])
    (kk : ∀ (L : List Nat) (K : Int → Nat) (N : Int → Int) (v : Int → Int → Int) (g : Nat → Int) (a : Nat → Int → Int) (nc1 ns1 : Nat) (H : Heap) (locs : List Loc), ok L K z0 12 → xI L K N v → mI g a → rLine g a → rLead g a → rSkill g a → rSh g a → v z0 0 = g 30 → v z0 11 = g 50 → v (v z0 19) 1 = g 78 → v (v z0 14) 5 = g 66 → v (v z0 2) 1 = g 1 → v (v z0 3) 1 = g 18 → rSub v z0 a → rHand v z0 g a → rNews v z0 g a → rTxt v z0 g a → nc1 ≤ nc + 5 → ns1 ≤ ns + 12100 → va_P (dC, dI) vwCl (mG am cm g a ++ xG L cid K N v) H → va_D (fun q : Nat => s.heap.size ≤ q) (mG am cm g a ++ xG L cid K N v) → va_S (fun q : Nat => s.heap.size ≤ q) s.heap H locs → W p l e room_1 s m #[Value.ref b] below meth c H locs nc1 ns1 (lw_Z below #[Value.ref b] s) (F0 m 1804 ls [])) : W p l e room_1 s m #[Value.ref b] below meth c H locs nc ns (lw_Z below #[Value.ref b] s) (F0 m 1540 ls []) := by
  obtain ⟨hx, hb, hr, hml, hown, hts, hX9, hbl, hlocks, hgv⟩ := id C0
  have hA : ∀ q : Nat, s.heap.size ≤ q → (fun q : Nat => s.heap.size ≤ q) q := fun _ h => h
  have hbA : ¬ (fun q : Nat => s.heap.size ≤ q) b := Nat.not_le.mpr hbl
  refine lv_aload_n hx hb dL_law_1540 rfl (lv_at hl 2 rfl) ?_
  refine lv_aload_n hx hb dL_law_1541 rfl (lv_at hl 3 rfl) ?_
  refine lv_iload_n hx hb dL_law_1542 rfl (lv_at hl 0 rfl) ?_
  refine lv_iconst (v := iI 1) hx hb dL_law_1543 rfl ?_
  refine xr_add hx hb dL_law_1544 ?_
  refine va_sld hx hb hX9 hbl hbA hS (xvp (t := i + 1) (by omega) (by omega) hn) dL_law_1545 ?_
  obtain ⟨p_1, h_2, r_3⟩ : ∃ y : Int, xs (iI (i + 1)).toNatClampNeg = iI y ∧ rg y := ⟨_, iI_of _, rg_of _⟩
  refine jt_i (iI p_1) h_2 ?_
  refine lv_aload_n hx hb dL_law_1546 rfl (lv_at hl 3 rfl) ?_
  refine lv_iload_n hx hb dL_law_1547 rfl (lv_at hl 0 rfl) ?_
  refine lv_iconst (v := iI 2) hx hb dL_law_1548 rfl ?_
  refine xr_add hx hb dL_law_1549 ?_
  refine va_sld hx hb hX9 hbl hbA hS (xvp (t := i + 2) (by omega) (by omega) hn) dL_law_1550 ?_
  obtain ⟨p_4, h_5, r_6⟩ : ∃ y : Int, xs (iI (i + 2)).toNatClampNeg = iI y ∧ rg y := ⟨_, iI_of _, rg_of _⟩
  refine jt_i (iI p_4) h_5 ?_
  refine lv_aload_n hx hb dL_law_1551 rfl (lv_at hl 3 rfl) ?_
  refine lv_iload_n hx hb dL_law_1552 rfl (lv_at hl 0 rfl) ?_
  refine lv_iconst (v := iI 3) hx hb dL_law_1553 rfl ?_
  refine xr_add hx hb dL_law_1554 ?_
  refine va_sld hx hb hX9 hbl hbA hS (xvp (t := i + 3) (by omega) (by omega) hn) dL_law_1555 ?_
  obtain ⟨p_7, h_8, r_9⟩ : ∃ y : Int, xs (iI (i + 3)).toNatClampNeg = iI y ∧ rg y := ⟨_, iI_of _, rg_of _⟩
  refine jt_i (iI p_7) h_8 ?_
  have hPx := jp_tail hP
  have hDx := jd_tail hD
  refine jct_i (va_runV (As := [.int (iI p_1), .int (iI p_4), .int (iI p_7)]) (rest := []) ⟨hx, hb, hml, hown, hts⟩ (sX12_giving l dC dI _ L cid K N tW sK sV v z0 p_1 p_4 p_7 hI hz r_3 r_6 r_9) (cwV 3 hts (jgoodVL m_1615 m_1616 m_1617 m_873 m_1618) rfl rfl rfl (by decide +kernel) ⟨(Nat.le_of_ble_eq_true rfl), (Nat.le_of_ble_eq_true rfl)⟩) ⟨xP_blind, xrecv hKx hPx hz rfl rfl, fun U hU hW => ⟨rfl, xP_of hU hW hPx hKx hDx hXx hS (fun _ h => h) hA⟩⟩ rfl rfl hl.1 rfl (lv_room (Nat.le_of_ble_eq_true rfl)) dL_law_1556 ⟨(show nc + 0 ≤ 600000 by omega), (show ns + 0 ≤ 7302250 by omega)⟩) hP hD hS hA (fun r v_13 H locs w_11 hP hKx hD hS => ?_)
  obtain ⟨x_10, rfl, I_14, f_15, f_12⟩ := w_11
  have hP : va_P (dC, dI) vwCl (mG am cm g a ++ xG L cid K N v_13) H := hP
  have hD : va_D (fun q : Nat => s.heap.size ≤ q) (mG am cm g a ++ xG L cid K N v_13) := hD
  have h_16 : v_13 z0 0 = g 30 := (fr_use hz f_15 rfl).trans hnow
  have h_17 : v_13 z0 11 = g 50 := (fr_use hz f_15 rfl).trans hhands
  have h_19 : ok L K (v z0 19) 10 := xf_12_19 hI hz
  have b_20 : v_13 z0 19 = v z0 19 := fr_use hz f_15 rfl
  have b_21 : v_13 (v z0 19) 1 = v (v z0 19) 1 := fr_use h_19 f_15 rfl
  have h_18 : v_13 (v_13 z0 19) 1 = g 78 := by rw [b_20, b_21]; exact hstolen
  have h_23 : ok L K (v z0 14) 5 := xf_12_14 hI hz
  have b_24 : v_13 z0 14 = v z0 14 := fr_use hz f_15 rfl
  have b_25 : v_13 (v z0 14) 5 = v (v z0 14) 5 := fr_use h_23 f_15 rfl
  have h_22 : v_13 (v_13 z0 14) 5 = g 66 := by rw [b_24, b_25]; exact htold
  have h_27 : ok L K (v z0 2) 7 := xf_12_2 hI hz
  have b_28 : v_13 z0 2 = v z0 2 := fr_use hz f_15 rfl
  have b_29 : v_13 (v z0 2) 1 = v (v z0 2) 1 := fr_use h_27 f_15 rfl
  have h_26 : v_13 (v_13 z0 2) 1 = g 1 := by rw [b_28, b_29]; exact hsize
  have h_31 : ok L K (v z0 3) 8 := xf_12_3 hI hz
  have b_32 : v_13 z0 3 = v z0 3 := fr_use hz f_15 rfl
  have b_33 : v_13 (v z0 3) 1 = v (v z0 3) 1 := fr_use h_31 f_15 rfl
  have h_30 : v_13 (v_13 z0 3) 1 = g 18 := by rw [b_32, b_33]; exact hsheets
  have h_34 : rSub v_13 z0 a := rSub_x hI hz (frE_of f_15) rfl (fun _ => rfl) hsub
  have h_35 : rHand v_13 z0 g a := rHand_x hI hz (frE_of f_15) rfl (fun _ => rfl) rfl hhd
  have h_36 : rNews v_13 z0 g a := rNews_x hI hz (frE_of f_15) rfl (fun _ => rfl) (fun _ => rfl) (fun _ => rfl) (fun _ => rfl) (fun _ => rfl) rfl rfl rfl rfl rfl hnw
  have h_37 : rTxt v_13 z0 g a := rTxt_x hI hz (frE_of f_15) rfl rfl rfl (fun _ => rfl) htx
  refine lv_pop hx hb dL_law_1559 rfl ?_
  refine lv_aload_n hx hb dL_law_1560 rfl (lv_at hl 1 rfl) ?_
  refine lv_aload_n hx hb dL_law_1561 rfl (lv_at hl 3 rfl) ?_
  refine lv_iload_n hx hb dL_law_1562 rfl (lv_at hl 0 rfl) ?_
  refine lv_iconst (v := iI 1) hx hb dL_law_1563 rfl ?_
  refine xr_add hx hb dL_law_1564 ?_
  refine va_sld hx hb hX9 hbl hbA hS (xvp (t := i + 1) (by omega) (by omega) hn) dL_law_1565 ?_
  refine jt_i (iI p_1) h_2 ?_
  refine lv_aload_n hx hb dL_law_1566 rfl (lv_at hl 3 rfl) ?_
  refine lv_iload_n hx hb dL_law_1567 rfl (lv_at hl 0 rfl) ?_
  refine lv_iconst (v := iI 2) hx hb dL_law_1568 rfl ?_
  refine xr_add hx hb dL_law_1569 ?_
  refine va_sld hx hb hX9 hbl hbA hS (xvp (t := i + 2) (by omega) (by omega) hn) dL_law_1570 ?_
  refine jt_i (iI p_4) h_5 ?_
  refine lv_aload_n hx hb dL_law_1571 rfl (lv_at hl 3 rfl) ?_
  refine lv_iload_n hx hb dL_law_1572 rfl (lv_at hl 0 rfl) ?_
  refine lv_iconst (v := iI 3) hx hb dL_law_1573 rfl ?_
  refine xr_add hx hb dL_law_1574 ?_
  refine va_sld hx hb hX9 hbl hbA hS (xvp (t := i + 3) (by omega) (by omega) hn) dL_law_1575 ?_
  refine jt_i (iI p_7) h_8 ?_
  obtain ⟨hP, hD⟩ := lsw hP hD
  have hPm := jp_tail hP
  have hDm := jd_tail hD
  refine jct_i (va_runV (As := [.int (iI p_1), .int (iI p_4), .int (iI p_7)]) (rest := []) ⟨hx, hb, hml, hown, hts⟩ (sX13_giving l dC dI _ am cm g a p_1 p_4 p_7 hM r_3 r_6 r_9 hrSkill hrSh) (cwV 3 hts (jgoodVL m_1619 m_352 m_353 m_503 m_141) rfl rfl rfl (by decide +kernel) ⟨(Nat.le_of_ble_eq_true rfl), (Nat.le_of_ble_eq_true rfl)⟩) ⟨jw_blind, va_recv hKm hPm (ci := 13) (q0 := 0) rfl rfl, fun U hU hW => ⟨rfl, jw_of hU hW hPm hKm hDm⟩⟩ rfl rfl hl.1 rfl (lv_room (Nat.le_of_ble_eq_true rfl)) dL_law_1576 ⟨(show nc + 0 ≤ 600000 by omega), (show ns + 0 ≤ 7302250 by omega)⟩) hP hD hS hA (fun r u_40 H locs w_39 hP hKm hD hS => ?_)
  obtain ⟨g_41, a_42⟩ := u_40
  obtain ⟨y_38, rfl, h_43, h_44, h_45, h_46⟩ := w_39
  have hP : va_P (dC, dI) vwCl (xG L cid K N v_13 ++ mG am cm g_41 a_42) H := hP
  have hD : va_D (fun q : Nat => s.heap.size ≤ q) (xG L cid K N v_13 ++ mG am cm g_41 a_42) := hD
  have h_43 : mI g_41 a_42 := h_43
  have h_47 : rLine g_41 a_42 := rLine_t (h_44 56 (by decide)) (h_45 45 (by decide)) hrLine
  have h_48 : rLead g_41 a_42 := rLead_t (h_44 37 (by decide)) (h_45 27 (by decide)) (h_45 31 (by decide)) hrLead
  have h_49 : rSkill g_41 a_42 := rSkill_t (h_44 50 (by decide)) (h_45 38 (by decide)) hrSkill
  have h_50 : rSh g_41 a_42 := rSh_t (h_44 18 (by decide)) (h_44 26 (by decide)) (h_45 9 (by decide)) (h_45 10 (by decide)) (h_45 11 (by decide)) (h_45 12 (by decide)) (h_45 16 (by decide)) hrSh
  have h_51 : v_13 z0 0 = g_41 30 := h_16.trans (h_44 30 (by decide)).symm
  have h_52 : v_13 z0 11 = g_41 50 := h_17.trans (h_44 50 (by decide)).symm
  have h_53 : v_13 (v_13 z0 19) 1 = g_41 78 := h_18.trans (h_44 78 (by decide)).symm
  have h_54 : v_13 (v_13 z0 14) 5 = g_41 66 := h_22.trans (h_44 66 (by decide)).symm
  have h_55 : v_13 (v_13 z0 2) 1 = g_41 1 := h_26.trans (h_44 1 (by decide)).symm
  have h_56 : v_13 (v_13 z0 3) 1 = g_41 18 := h_30.trans (h_44 18 (by decide)).symm
  have h_57 : rSub v_13 z0 a_42 := rSub_m (h_45 60 (by decide)) h_34
  have h_58 : rHand v_13 z0 g_41 a_42 := rHand_m (h_44 50 (by decide)) (h_45 41 (by decide)) h_35
  have h_59 : rNews v_13 z0 g_41 a_42 := rNews_m (h_44 66 (by decide)) (h_45 51 (by decide)) (h_45 52 (by decide)) (h_45 53 (by decide)) (h_45 54 (by decide)) h_36
  have h_60 : rTxt v_13 z0 g_41 a_42 := rTxt_m (h_44 1 (by decide)) (h_45 1 (by decide)) h_37
  obtain ⟨hP, hD⟩ := lsw hP hD
  refine lv_pop hx hb dL_law_1579 rfl ?_
  refine lv_goto (tgt := 1804) hx hb dL_law_1580 (by decide) ?_
  exact kk L K N v_13 g_41 a_42 _ _ H locs hz I_14 h_43 h_47 h_48 h_49 h_50 h_51 h_52 h_53 h_54 h_55 h_56 h_57 h_58 h_59 h_60 (by omega) (by omega) hP hD hS
set_option maxHeartbeats 4000000 in
set_option maxRecDepth 100000 in
theorem lc_41 {p : Program} {l : Launch} {e : Env} {s : State} {m : MethodId} {below : List Frame} {meth : Method} {c : Code} {b n : Nat} {xs : Nat → Int32} (C0 : lw_At p s m meth c b n xs) (hn : n ≤ 3072) {dC : Nat → ClassId} {dI : Nat → Nat → Nat} {am : Nat → Nat} {cm cid : Nat → ClassId} {tW : Nat} {sK sV : Nat → Nat} (hXx : xX tW sK sV (fun q : Nat => s.heap.size ≤ q) s s.heap) (hKx : va_K (dC, dI) vwCl (xT cid) s) (hKm : va_K (dC, dI) vwCl (mT cm) s) {z0 : Int} {i : Int} (hi0 : 0 ≤ i) (hi : i + 6 ≤ n) {L : List Nat} {K : Int → Nat} {N : Int → Int} {v : Int → Int → Int} {g : Nat → Int} {a : Nat → Int → Int} (hz : ok L K z0 12) (hI : xI L K N v) (hM : mI g a) (hrLine : rLine g a) (hrLead : rLead g a) (hrSkill : rSkill g a) (hrSh : rSh g a) (hnow : v z0 0 = g 30) (hhands : v z0 11 = g 50) (hstolen : v (v z0 19) 1 = g 78) (htold : v (v z0 14) 5 = g 66) (hsize : v (v z0 2) 1 = g 1) (hsheets : v (v z0 3) 1 = g 18) (hsub : rSub v z0 a) (hhd : rHand v z0 g a) (hnw : rNews v z0 g a) (htx : rTxt v z0 g a) {nc ns : Nat} (hc : nc + 5 ≤ 600000) (hs : ns + 12100 ≤ 7302250) {H : Heap} {locs : List Loc} {ls : Array Slot} (hP : va_P (dC, dI) vwCl (mG am cm g a ++ xG L cid K N v) H) (hD : va_D (fun q : Nat => s.heap.size ≤ q) (mG am cm g a ++ xG L cid K N v)) (hS : va_S (fun q : Nat => s.heap.size ≤ q) s.heap H locs) (hl : lv_has ls 4 [(3, .int (iI i)), (2, .ref (am 0)), (1, .ref z0.toNat), (0, .ref b)])
    (kk : ∀ (L : List Nat) (K : Int → Nat) (N : Int → Int) (v : Int → Int → Int) (g : Nat → Int) (a : Nat → Int → Int) (nc1 ns1 : Nat) (H : Heap) (locs : List Loc), ok L K z0 12 → xI L K N v → mI g a → rLine g a → rLead g a → rSkill g a → rSh g a → v z0 0 = g 30 → v z0 11 = g 50 → v (v z0 19) 1 = g 78 → v (v z0 14) 5 = g 66 → v (v z0 2) 1 = g 1 → v (v z0 3) 1 = g 18 → rSub v z0 a → rHand v z0 g a → rNews v z0 g a → rTxt v z0 g a → nc1 ≤ nc + 5 → ns1 ≤ ns + 12100 → va_P (dC, dI) vwCl (mG am cm g a ++ xG L cid K N v) H → va_D (fun q : Nat => s.heap.size ≤ q) (mG am cm g a ++ xG L cid K N v) → va_S (fun q : Nat => s.heap.size ≤ q) s.heap H locs → W p l e room_1 s m #[Value.ref b] below meth c H locs nc1 ns1 (lw_Z below #[Value.ref b] s) (F0 m 1804 ls [])) : W p l e room_1 s m #[Value.ref b] below meth c H locs nc ns (lw_Z below #[Value.ref b] s) (F0 m 1583 ls []) := by
  obtain ⟨hx, hb, hr, hml, hown, hts, hX9, hbl, hlocks, hgv⟩ := id C0
  have hA : ∀ q : Nat, s.heap.size ≤ q → (fun q : Nat => s.heap.size ≤ q) q := fun _ h => h
  have hbA : ¬ (fun q : Nat => s.heap.size ≤ q) b := Nat.not_le.mpr hbl
  refine lv_aload_n hx hb dL_law_1583 rfl (lv_at hl 2 rfl) ?_
  refine lv_aload_n hx hb dL_law_1584 rfl (lv_at hl 3 rfl) ?_
  refine lv_iload_n hx hb dL_law_1585 rfl (lv_at hl 0 rfl) ?_
  refine lv_iconst (v := iI 1) hx hb dL_law_1586 rfl ?_
  refine xr_add hx hb dL_law_1587 ?_
  refine va_sld hx hb hX9 hbl hbA hS (xvp (t := i + 1) (by omega) (by omega) hn) dL_law_1588 ?_
  obtain ⟨p_1, h_2, r_3⟩ : ∃ y : Int, xs (iI (i + 1)).toNatClampNeg = iI y ∧ rg y := ⟨_, iI_of _, rg_of _⟩
  refine jt_i (iI p_1) h_2 ?_
  refine lv_aload_n hx hb dL_law_1589 rfl (lv_at hl 3 rfl) ?_
  refine lv_iload_n hx hb dL_law_1590 rfl (lv_at hl 0 rfl) ?_
  refine lv_iconst (v := iI 2) hx hb dL_law_1591 rfl ?_
  refine xr_add hx hb dL_law_1592 ?_
  refine va_sld hx hb hX9 hbl hbA hS (xvp (t := i + 2) (by omega) (by omega) hn) dL_law_1593 ?_
  obtain ⟨p_4, h_5, r_6⟩ : ∃ y : Int, xs (iI (i + 2)).toNatClampNeg = iI y ∧ rg y := ⟨_, iI_of _, rg_of _⟩
  refine jt_i (iI p_4) h_5 ?_
  refine lv_aload_n hx hb dL_law_1594 rfl (lv_at hl 3 rfl) ?_
  refine lv_iload_n hx hb dL_law_1595 rfl (lv_at hl 0 rfl) ?_
  refine lv_iconst (v := iI 3) hx hb dL_law_1596 rfl ?_
  refine xr_add hx hb dL_law_1597 ?_
  refine va_sld hx hb hX9 hbl hbA hS (xvp (t := i + 3) (by omega) (by omega) hn) dL_law_1598 ?_
  obtain ⟨p_7, h_8, r_9⟩ : ∃ y : Int, xs (iI (i + 3)).toNatClampNeg = iI y ∧ rg y := ⟨_, iI_of _, rg_of _⟩
  refine jt_i (iI p_7) h_8 ?_
  refine lv_aload_n hx hb dL_law_1599 rfl (lv_at hl 3 rfl) ?_
  refine lv_iload_n hx hb dL_law_1600 rfl (lv_at hl 0 rfl) ?_
  refine lv_iconst (v := iI 4) hx hb dL_law_1601 rfl ?_
  refine xr_add hx hb dL_law_1602 ?_
  refine va_sld hx hb hX9 hbl hbA hS (xvp (t := i + 4) (by omega) (by omega) hn) dL_law_1603 ?_
  obtain ⟨p_10, h_11, r_12⟩ : ∃ y : Int, xs (iI (i + 4)).toNatClampNeg = iI y ∧ rg y := ⟨_, iI_of _, rg_of _⟩
  refine jt_i (iI p_10) h_11 ?_
  have hPx := jp_tail hP
  have hDx := jd_tail hD
  refine jct_i (va_runV (As := [.int (iI p_1), .int (iI p_4), .int (iI p_7), .int (iI p_10)]) (rest := []) ⟨hx, hb, hml, hown, hts⟩ (sX12_given l dC dI _ L cid K N tW sK sV v z0 p_1 p_4 p_7 p_10 hI hz r_3 r_6 r_9 r_12) (cwV 4 hts (jgoodVL m_1620 m_1621 m_1622 m_873 m_1623) rfl rfl rfl (by decide +kernel) ⟨(Nat.le_of_ble_eq_true rfl), (Nat.le_of_ble_eq_true rfl)⟩) ⟨xP_blind, xrecv hKx hPx hz rfl rfl, fun U hU hW => ⟨rfl, xP_of hU hW hPx hKx hDx hXx hS (fun _ h => h) hA⟩⟩ rfl rfl hl.1 rfl (lv_room (Nat.le_of_ble_eq_true rfl)) dL_law_1604 ⟨(show nc + 0 ≤ 600000 by omega), (show ns + 0 ≤ 7302250 by omega)⟩) hP hD hS hA (fun r v_16 H locs w_14 hP hKx hD hS => ?_)
  obtain ⟨x_13, rfl, I_17, f_18, f_15⟩ := w_14
  have hP : va_P (dC, dI) vwCl (mG am cm g a ++ xG L cid K N v_16) H := hP
  have hD : va_D (fun q : Nat => s.heap.size ≤ q) (mG am cm g a ++ xG L cid K N v_16) := hD
  have h_19 : v_16 z0 0 = g 30 := (fr_use hz f_18 rfl).trans hnow
  have h_20 : v_16 z0 11 = g 50 := (fr_use hz f_18 rfl).trans hhands
  have h_22 : ok L K (v z0 19) 10 := xf_12_19 hI hz
  have b_23 : v_16 z0 19 = v z0 19 := fr_use hz f_18 rfl
  have b_24 : v_16 (v z0 19) 1 = v (v z0 19) 1 := fr_use h_22 f_18 rfl
  have h_21 : v_16 (v_16 z0 19) 1 = g 78 := by rw [b_23, b_24]; exact hstolen
  have h_26 : ok L K (v z0 14) 5 := xf_12_14 hI hz
  have b_27 : v_16 z0 14 = v z0 14 := fr_use hz f_18 rfl
  have b_28 : v_16 (v z0 14) 5 = v (v z0 14) 5 := fr_use h_26 f_18 rfl
  have h_25 : v_16 (v_16 z0 14) 5 = g 66 := by rw [b_27, b_28]; exact htold
  have h_30 : ok L K (v z0 2) 7 := xf_12_2 hI hz
  have b_31 : v_16 z0 2 = v z0 2 := fr_use hz f_18 rfl
  have b_32 : v_16 (v z0 2) 1 = v (v z0 2) 1 := fr_use h_30 f_18 rfl
  have h_29 : v_16 (v_16 z0 2) 1 = g 1 := by rw [b_31, b_32]; exact hsize
  have h_34 : ok L K (v z0 3) 8 := xf_12_3 hI hz
  have b_35 : v_16 z0 3 = v z0 3 := fr_use hz f_18 rfl
  have b_36 : v_16 (v z0 3) 1 = v (v z0 3) 1 := fr_use h_34 f_18 rfl
  have h_33 : v_16 (v_16 z0 3) 1 = g 18 := by rw [b_35, b_36]; exact hsheets
  have h_37 : rSub v_16 z0 a := rSub_x hI hz (frE_of f_18) rfl (fun _ => rfl) hsub
  have h_38 : rHand v_16 z0 g a := rHand_x hI hz (frE_of f_18) rfl (fun _ => rfl) rfl hhd
  have h_39 : rNews v_16 z0 g a := rNews_x hI hz (frE_of f_18) rfl (fun _ => rfl) (fun _ => rfl) (fun _ => rfl) (fun _ => rfl) (fun _ => rfl) rfl rfl rfl rfl rfl hnw
  have h_40 : rTxt v_16 z0 g a := rTxt_x hI hz (frE_of f_18) rfl rfl rfl (fun _ => rfl) htx
  refine lv_pop hx hb dL_law_1607 rfl ?_
  refine lv_aload_n hx hb dL_law_1608 rfl (lv_at hl 1 rfl) ?_
  refine lv_aload_n hx hb dL_law_1609 rfl (lv_at hl 3 rfl) ?_
  refine lv_iload_n hx hb dL_law_1610 rfl (lv_at hl 0 rfl) ?_
  refine lv_iconst (v := iI 1) hx hb dL_law_1611 rfl ?_
  refine xr_add hx hb dL_law_1612 ?_
  refine va_sld hx hb hX9 hbl hbA hS (xvp (t := i + 1) (by omega) (by omega) hn) dL_law_1613 ?_
  refine jt_i (iI p_1) h_2 ?_
  refine lv_aload_n hx hb dL_law_1614 rfl (lv_at hl 3 rfl) ?_
  refine lv_iload_n hx hb dL_law_1615 rfl (lv_at hl 0 rfl) ?_
  refine lv_iconst (v := iI 2) hx hb dL_law_1616 rfl ?_
  refine xr_add hx hb dL_law_1617 ?_
  refine va_sld hx hb hX9 hbl hbA hS (xvp (t := i + 2) (by omega) (by omega) hn) dL_law_1618 ?_
  refine jt_i (iI p_4) h_5 ?_
  refine lv_aload_n hx hb dL_law_1619 rfl (lv_at hl 3 rfl) ?_
  refine lv_iload_n hx hb dL_law_1620 rfl (lv_at hl 0 rfl) ?_
  refine lv_iconst (v := iI 3) hx hb dL_law_1621 rfl ?_
  refine xr_add hx hb dL_law_1622 ?_
  refine va_sld hx hb hX9 hbl hbA hS (xvp (t := i + 3) (by omega) (by omega) hn) dL_law_1623 ?_
  refine jt_i (iI p_7) h_8 ?_
  refine lv_aload_n hx hb dL_law_1624 rfl (lv_at hl 3 rfl) ?_
  refine lv_iload_n hx hb dL_law_1625 rfl (lv_at hl 0 rfl) ?_
  refine lv_iconst (v := iI 4) hx hb dL_law_1626 rfl ?_
  refine xr_add hx hb dL_law_1627 ?_
  refine va_sld hx hb hX9 hbl hbA hS (xvp (t := i + 4) (by omega) (by omega) hn) dL_law_1628 ?_
  refine jt_i (iI p_10) h_11 ?_
  obtain ⟨hP, hD⟩ := lsw hP hD
  have hPm := jp_tail hP
  have hDm := jd_tail hD
  refine jct_i (va_runV (As := [.int (iI p_1), .int (iI p_4), .int (iI p_7), .int (iI p_10)]) (rest := []) ⟨hx, hb, hml, hown, hts⟩ (sX13_given l dC dI _ am cm g a p_1 p_4 p_7 p_10 hM r_3 r_6 r_9 r_12 hrSkill hrSh) (cwV 4 hts (jgoodVL m_1624 m_348 m_349 m_503 m_139) rfl rfl rfl (by decide +kernel) ⟨(Nat.le_of_ble_eq_true rfl), (Nat.le_of_ble_eq_true rfl)⟩) ⟨jw_blind, va_recv hKm hPm (ci := 13) (q0 := 0) rfl rfl, fun U hU hW => ⟨rfl, jw_of hU hW hPm hKm hDm⟩⟩ rfl rfl hl.1 rfl (lv_room (Nat.le_of_ble_eq_true rfl)) dL_law_1629 ⟨(show nc + 0 ≤ 600000 by omega), (show ns + 0 ≤ 7302250 by omega)⟩) hP hD hS hA (fun r u_43 H locs w_42 hP hKm hD hS => ?_)
  obtain ⟨g_44, a_45⟩ := u_43
  obtain ⟨y_41, rfl, h_46, h_47, h_48, h_49⟩ := w_42
  have hP : va_P (dC, dI) vwCl (xG L cid K N v_16 ++ mG am cm g_44 a_45) H := hP
  have hD : va_D (fun q : Nat => s.heap.size ≤ q) (xG L cid K N v_16 ++ mG am cm g_44 a_45) := hD
  have h_46 : mI g_44 a_45 := h_46
  have h_50 : rLine g_44 a_45 := rLine_t (h_47 56 (by decide)) (h_48 45 (by decide)) hrLine
  have h_51 : rLead g_44 a_45 := rLead_t (h_47 37 (by decide)) (h_48 27 (by decide)) (h_48 31 (by decide)) hrLead
  have h_52 : rSkill g_44 a_45 := rSkill_t (h_47 50 (by decide)) (h_48 38 (by decide)) hrSkill
  have h_53 : rSh g_44 a_45 := rSh_t (h_47 18 (by decide)) (h_47 26 (by decide)) (h_48 9 (by decide)) (h_48 10 (by decide)) (h_48 11 (by decide)) (h_48 12 (by decide)) (h_48 16 (by decide)) hrSh
  have h_54 : v_16 z0 0 = g_44 30 := h_19.trans (h_47 30 (by decide)).symm
  have h_55 : v_16 z0 11 = g_44 50 := h_20.trans (h_47 50 (by decide)).symm
  have h_56 : v_16 (v_16 z0 19) 1 = g_44 78 := h_21.trans (h_47 78 (by decide)).symm
  have h_57 : v_16 (v_16 z0 14) 5 = g_44 66 := h_25.trans (h_47 66 (by decide)).symm
  have h_58 : v_16 (v_16 z0 2) 1 = g_44 1 := h_29.trans (h_47 1 (by decide)).symm
  have h_59 : v_16 (v_16 z0 3) 1 = g_44 18 := h_33.trans (h_47 18 (by decide)).symm
  have h_60 : rSub v_16 z0 a_45 := rSub_m (h_48 60 (by decide)) h_37
  have h_61 : rHand v_16 z0 g_44 a_45 := rHand_m (h_47 50 (by decide)) (h_48 41 (by decide)) h_38
  have h_62 : rNews v_16 z0 g_44 a_45 := rNews_m (h_47 66 (by decide)) (h_48 51 (by decide)) (h_48 52 (by decide)) (h_48 53 (by decide)) (h_48 54 (by decide)) h_39
  have h_63 : rTxt v_16 z0 g_44 a_45 := rTxt_m (h_47 1 (by decide)) (h_48 1 (by decide)) h_40
  obtain ⟨hP, hD⟩ := lsw hP hD
  refine lv_pop hx hb dL_law_1632 rfl ?_
  refine lv_goto (tgt := 1804) hx hb dL_law_1633 (by decide) ?_
  exact kk L K N v_16 g_44 a_45 _ _ H locs hz I_17 h_46 h_50 h_51 h_52 h_53 h_54 h_55 h_56 h_57 h_58 h_59 h_60 h_61 h_62 h_63 (by omega) (by omega) hP hD hS
set_option maxHeartbeats 4000000 in
set_option maxRecDepth 100000 in
theorem lc_42 {p : Program} {l : Launch} {e : Env} {s : State} {m : MethodId} {below : List Frame} {meth : Method} {c : Code} {b n : Nat} {xs : Nat → Int32} (C0 : lw_At p s m meth c b n xs) (hn : n ≤ 3072) {dC : Nat → ClassId} {dI : Nat → Nat → Nat} {am : Nat → Nat} {cm cid : Nat → ClassId} {tW : Nat} {sK sV : Nat → Nat} (hXx : xX tW sK sV (fun q : Nat => s.heap.size ≤ q) s s.heap) (hKx : va_K (dC, dI) vwCl (xT cid) s) (hKm : va_K (dC, dI) vwCl (mT cm) s) {z0 : Int} {i : Int} (hi0 : 0 ≤ i) (hi : i + 6 ≤ n) {L : List Nat} {K : Int → Nat} {N : Int → Int} {v : Int → Int → Int} {g : Nat → Int} {a : Nat → Int → Int} (hz : ok L K z0 12) (hI : xI L K N v) (hM : mI g a) (hrLine : rLine g a) (hrLead : rLead g a) (hrSkill : rSkill g a) (hrSh : rSh g a) (hnow : v z0 0 = g 30) (hhands : v z0 11 = g 50) (hstolen : v (v z0 19) 1 = g 78) (htold : v (v z0 14) 5 = g 66) (hsize : v (v z0 2) 1 = g 1) (hsheets : v (v z0 3) 1 = g 18) (hsub : rSub v z0 a) (hhd : rHand v z0 g a) (hnw : rNews v z0 g a) (htx : rTxt v z0 g a) {nc ns : Nat} (hc : nc + 5 ≤ 600000) (hs : ns + 12100 ≤ 7302250) {H : Heap} {locs : List Loc} {ls : Array Slot} (hP : va_P (dC, dI) vwCl (mG am cm g a ++ xG L cid K N v) H) (hD : va_D (fun q : Nat => s.heap.size ≤ q) (mG am cm g a ++ xG L cid K N v)) (hS : va_S (fun q : Nat => s.heap.size ≤ q) s.heap H locs) (hl : lv_has ls 4 [(3, .int (iI i)), (2, .ref (am 0)), (1, .ref z0.toNat), (0, .ref b)])
    (kk : ∀ (L : List Nat) (K : Int → Nat) (N : Int → Int) (v : Int → Int → Int) (g : Nat → Int) (a : Nat → Int → Int) (nc1 ns1 : Nat) (H : Heap) (locs : List Loc), ok L K z0 12 → xI L K N v → mI g a → rLine g a → rLead g a → rSkill g a → rSh g a → v z0 0 = g 30 → v z0 11 = g 50 → v (v z0 19) 1 = g 78 → v (v z0 14) 5 = g 66 → v (v z0 2) 1 = g 1 → v (v z0 3) 1 = g 18 → rSub v z0 a → rHand v z0 g a → rNews v z0 g a → rTxt v z0 g a → nc1 ≤ nc + 5 → ns1 ≤ ns + 12100 → va_P (dC, dI) vwCl (mG am cm g a ++ xG L cid K N v) H → va_D (fun q : Nat => s.heap.size ≤ q) (mG am cm g a ++ xG L cid K N v) → va_S (fun q : Nat => s.heap.size ≤ q) s.heap H locs → W p l e room_1 s m #[Value.ref b] below meth c H locs nc1 ns1 (lw_Z below #[Value.ref b] s) (F0 m 1804 ls [])) : W p l e room_1 s m #[Value.ref b] below meth c H locs nc ns (lw_Z below #[Value.ref b] s) (F0 m 1636 ls []) := by
  obtain ⟨hx, hb, hr, hml, hown, hts, hX9, hbl, hlocks, hgv⟩ := id C0
  have hA : ∀ q : Nat, s.heap.size ≤ q → (fun q : Nat => s.heap.size ≤ q) q := fun _ h => h
  have hbA : ¬ (fun q : Nat => s.heap.size ≤ q) b := Nat.not_le.mpr hbl
  refine lv_aload_n hx hb dL_law_1636 rfl (lv_at hl 2 rfl) ?_
  refine lv_aload_n hx hb dL_law_1637 rfl (lv_at hl 3 rfl) ?_
  refine lv_iload_n hx hb dL_law_1638 rfl (lv_at hl 0 rfl) ?_
  refine lv_iconst (v := iI 1) hx hb dL_law_1639 rfl ?_
  refine xr_add hx hb dL_law_1640 ?_
  refine va_sld hx hb hX9 hbl hbA hS (xvp (t := i + 1) (by omega) (by omega) hn) dL_law_1641 ?_
  obtain ⟨p_1, h_2, r_3⟩ : ∃ y : Int, xs (iI (i + 1)).toNatClampNeg = iI y ∧ rg y := ⟨_, iI_of _, rg_of _⟩
  refine jt_i (iI p_1) h_2 ?_
  refine lv_aload_n hx hb dL_law_1642 rfl (lv_at hl 3 rfl) ?_
  refine lv_iload_n hx hb dL_law_1643 rfl (lv_at hl 0 rfl) ?_
  refine lv_iconst (v := iI 2) hx hb dL_law_1644 rfl ?_
  refine xr_add hx hb dL_law_1645 ?_
  refine va_sld hx hb hX9 hbl hbA hS (xvp (t := i + 2) (by omega) (by omega) hn) dL_law_1646 ?_
  obtain ⟨p_4, h_5, r_6⟩ : ∃ y : Int, xs (iI (i + 2)).toNatClampNeg = iI y ∧ rg y := ⟨_, iI_of _, rg_of _⟩
  refine jt_i (iI p_4) h_5 ?_
  refine lv_aload_n hx hb dL_law_1647 rfl (lv_at hl 3 rfl) ?_
  refine lv_iload_n hx hb dL_law_1648 rfl (lv_at hl 0 rfl) ?_
  refine lv_iconst (v := iI 3) hx hb dL_law_1649 rfl ?_
  refine xr_add hx hb dL_law_1650 ?_
  refine va_sld hx hb hX9 hbl hbA hS (xvp (t := i + 3) (by omega) (by omega) hn) dL_law_1651 ?_
  obtain ⟨p_7, h_8, r_9⟩ : ∃ y : Int, xs (iI (i + 3)).toNatClampNeg = iI y ∧ rg y := ⟨_, iI_of _, rg_of _⟩
  refine jt_i (iI p_7) h_8 ?_
  have hPx := jp_tail hP
  have hDx := jd_tail hD
  refine jc_i (va_runV (As := [.int (iI p_1), .int (iI p_4), .int (iI p_7)]) (rest := []) ⟨hx, hb, hml, hown, hts⟩ (sX12_index l dC dI _ L cid K N tW sK sV v z0 p_1 p_4 p_7 hI hz r_3 r_6 r_9) (cwV 3 hts (jgoodVL m_1625 m_1626 m_1627 m_873 m_1628) rfl rfl rfl (by decide +kernel) ⟨(Nat.le_of_ble_eq_true rfl), (Nat.le_of_ble_eq_true rfl)⟩) ⟨xP_blind, xrecv hKx hPx hz rfl rfl, fun U hU hW => ⟨rfl, xP_of hU hW hPx hKx hDx hXx hS (fun _ h => h) hA⟩⟩ rfl rfl hl.1 rfl (lv_room (Nat.le_of_ble_eq_true rfl)) dL_law_1652 ⟨(show nc + 0 ≤ 600000 by omega), (show ns + 0 ≤ 7302250 by omega)⟩) hP hS hA (fun r H locs w_11 hP hS => ?_)
  obtain ⟨x_10, rfl, f_12⟩ := w_11
  refine lv_pop hx hb dL_law_1655 rfl ?_
  refine lv_aload_n hx hb dL_law_1656 rfl (lv_at hl 1 rfl) ?_
  refine lv_aload_n hx hb dL_law_1657 rfl (lv_at hl 3 rfl) ?_
  refine lv_iload_n hx hb dL_law_1658 rfl (lv_at hl 0 rfl) ?_
  refine lv_iconst (v := iI 1) hx hb dL_law_1659 rfl ?_
  refine xr_add hx hb dL_law_1660 ?_
  refine va_sld hx hb hX9 hbl hbA hS (xvp (t := i + 1) (by omega) (by omega) hn) dL_law_1661 ?_
  refine jt_i (iI p_1) h_2 ?_
  refine lv_aload_n hx hb dL_law_1662 rfl (lv_at hl 3 rfl) ?_
  refine lv_iload_n hx hb dL_law_1663 rfl (lv_at hl 0 rfl) ?_
  refine lv_iconst (v := iI 2) hx hb dL_law_1664 rfl ?_
  refine xr_add hx hb dL_law_1665 ?_
  refine va_sld hx hb hX9 hbl hbA hS (xvp (t := i + 2) (by omega) (by omega) hn) dL_law_1666 ?_
  refine jt_i (iI p_4) h_5 ?_
  refine lv_aload_n hx hb dL_law_1667 rfl (lv_at hl 3 rfl) ?_
  refine lv_iload_n hx hb dL_law_1668 rfl (lv_at hl 0 rfl) ?_
  refine lv_iconst (v := iI 3) hx hb dL_law_1669 rfl ?_
  refine xr_add hx hb dL_law_1670 ?_
  refine va_sld hx hb hX9 hbl hbA hS (xvp (t := i + 3) (by omega) (by omega) hn) dL_law_1671 ?_
  refine jt_i (iI p_7) h_8 ?_
  obtain ⟨hP, hD⟩ := lsw hP hD
  have hPm := jp_tail hP
  have hDm := jd_tail hD
  refine jc_i (va_runV (As := [.int (iI p_1), .int (iI p_4), .int (iI p_7)]) (rest := []) ⟨hx, hb, hml, hown, hts⟩ (sX13_index l dC dI _ am cm g a p_1 p_4 p_7 hM r_3 r_6 r_9) (cwV 3 hts (jgoodVL m_1629 m_367 m_368 m_503 m_149) rfl rfl rfl (by decide +kernel) ⟨(Nat.le_of_ble_eq_true rfl), (Nat.le_of_ble_eq_true rfl)⟩) ⟨jw_blind, va_recv hKm hPm (ci := 13) (q0 := 0) rfl rfl, fun U hU hW => ⟨rfl, jw_of hU hW hPm hKm hDm⟩⟩ rfl rfl hl.1 rfl (lv_room (Nat.le_of_ble_eq_true rfl)) dL_law_1672 ⟨(show nc + 0 ≤ 600000 by omega), (show ns + 0 ≤ 7302250 by omega)⟩) hP hS hA (fun r H locs w_14 hP hS => ?_)
  obtain ⟨y_13, rfl, h_15⟩ := w_14
  obtain ⟨hP, hD⟩ := lsw hP hD
  refine lv_pop hx hb dL_law_1675 rfl ?_
  refine lv_goto (tgt := 1804) hx hb dL_law_1676 (by decide) ?_
  exact kk L K N v g a _ _ H locs hz hI hM hrLine hrLead hrSkill hrSh hnow hhands hstolen htold hsize hsheets hsub hhd hnw htx (by omega) (by omega) hP hD hS
