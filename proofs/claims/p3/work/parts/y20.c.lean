set_option maxHeartbeats 4000000 in
set_option maxRecDepth 100000 in
theorem lc_37 {p : Program} {l : Launch} {e : Env} {s : State} {m : MethodId} {below : List Frame} {meth : Method} {c : Code} {b n : Nat} {xs : Nat → Int32} (C0 : lw_At p s m meth c b n xs) (hn : n ≤ 3072) {dC : Nat → ClassId} {dI : Nat → Nat → Nat} {am : Nat → Nat} {cm cid : Nat → ClassId} {tW : Nat} {sK sV : Nat → Nat} (hXx : xX tW sK sV (fun q : Nat => s.heap.size ≤ q) s s.heap) (hKx : va_K (dC, dI) vwCl (xT cid) s) (hKm : va_K (dC, dI) vwCl (mT cm) s) {z0 : Int} {i : Int} (hi0 : 0 ≤ i) (hi : i + 6 ≤ n) {L : List Nat} {K : Int → Nat} {N : Int → Int} {v : Int → Int → Int} {g : Nat → Int} {a : Nat → Int → Int} (hz : ok L K z0 12) (hI : xI L K N v) (hM : mI g a) (hrLine : rLine g a) (hrLead : rLead g a) (hrSkill : rSkill g a) (hrSh : rSh g a) (hnow : v z0 0 = g 30) (hhands : v z0 11 = g 50) (hstolen : v (v z0 19) 1 = g 78) (htold : v (v z0 14) 5 = g 66) (hsize : v (v z0 2) 1 = g 1) (hsheets : v (v z0 3) 1 = g 18) (hsub : rSub v z0 a) (hhd : rHand v z0 g a) (hnw : rNews v z0 g a) (htx : rTxt v z0 g a) {nc ns : Nat} (hc : nc + 5 ≤ 600000) (hs : ns + 12100 ≤ 7302250) {H : Heap} {locs : List Loc} {ls : Array Slot} (hP : va_P (dC, dI) vwCl (mG am cm g a ++ xG L cid K N v) H) (hD : va_D (fun q : Nat => s.heap.size ≤ q) (mG am cm g a ++ xG L cid K N v)) (hS : va_S (fun q : Nat => s.heap.size ≤ q) s.heap H locs) (hl : lv_has ls 4 [(3, .int (iI i)), (2, .ref (am 0)), (1, .ref z0.toNat), (0, .ref b)])
    (kk : ∀ (L : List Nat) (K : Int → Nat) (N : Int → Int) (v : Int → Int → Int) (g : Nat → Int) (a : Nat → Int → Int) (nc1 ns1 : Nat) (H : Heap) (locs : List Loc), ok L K z0 12 → xI L K N v → mI g a → rLine g a → rLead g a → rSkill g a → rSh g a → v z0 0 = g 30 → v z0 11 = g 50 → v (v z0 19) 1 = g 78 → v (v z0 14) 5 = g 66 → v (v z0 2) 1 = g 1 → v (v z0 3) 1 = g 18 → rSub v z0 a → rHand v z0 g a → rNews v z0 g a → rTxt v z0 g a → nc1 ≤ nc + 5 → ns1 ≤ ns + 12100 → va_P (dC, dI) vwCl (mG am cm g a ++ xG L cid K N v) H → va_D (fun q : Nat => s.heap.size ≤ q) (mG am cm g a ++ xG L cid K N v) → va_S (fun q : Nat => s.heap.size ≤ q) s.heap H locs → W p l e room_1 s m #[Value.ref b] below meth c H locs nc1 ns1 (lw_Z below #[Value.ref b] s) (F0 m 1804 ls [])) : W p l e room_1 s m #[Value.ref b] below meth c H locs nc ns (lw_Z below #[Value.ref b] s) (F0 m 1441 ls []) := by
  obtain ⟨hx, hb, hr, hml, hown, hts, hX9, hbl, hlocks, hgv⟩ := id C0
  have hA : ∀ q : Nat, s.heap.size ≤ q → (fun q : Nat => s.heap.size ≤ q) q := fun _ h => h
  have hbA : ¬ (fun q : Nat => s.heap.size ≤ q) b := Nat.not_le.mpr hbl
  refine lv_aload_n hx hb dL_law_1441 rfl (lv_at hl 2 rfl) ?_
  refine lv_aload_n hx hb dL_law_1442 rfl (lv_at hl 3 rfl) ?_
  refine lv_iload_n hx hb dL_law_1443 rfl (lv_at hl 0 rfl) ?_
  refine lv_iconst (v := iI 1) hx hb dL_law_1444 rfl ?_
  refine xr_add hx hb dL_law_1445 ?_
  refine va_sld hx hb hX9 hbl hbA hS (xvp (t := i + 1) (by omega) (by omega) hn) dL_law_1446 ?_
  obtain ⟨p_1, h_2, r_3⟩ : ∃ y : Int, xs (iI (i + 1)).toNatClampNeg = iI y ∧ rg y := ⟨_, iI_of _, rg_of _⟩
  refine jt_i (iI p_1) h_2 ?_
  refine lv_aload_n hx hb dL_law_1447 rfl (lv_at hl 3 rfl) ?_
  refine lv_iload_n hx hb dL_law_1448 rfl (lv_at hl 0 rfl) ?_
  refine lv_iconst (v := iI 2) hx hb dL_law_1449 rfl ?_
  refine xr_add hx hb dL_law_1450 ?_
  refine va_sld hx hb hX9 hbl hbA hS (xvp (t := i + 2) (by omega) (by omega) hn) dL_law_1451 ?_
  obtain ⟨p_4, h_5, r_6⟩ : ∃ y : Int, xs (iI (i + 2)).toNatClampNeg = iI y ∧ rg y := ⟨_, iI_of _, rg_of _⟩
  refine jt_i (iI p_4) h_5 ?_
  have hPx := jp_tail hP
  have hDx := jd_tail hD
  refine jct_i (va_runV (As := [.int (iI p_1), .int (iI p_4)]) (rest := []) ⟨hx, hb, hml, hown, hts⟩ (sX12_owed l dC dI _ L cid K N tW sK sV v z0 p_1 p_4 hI hz r_3 r_6) (cwV 2 hts (jgoodVL m_1600 m_1601 m_1602 m_873 m_1603) rfl rfl rfl (by decide +kernel) ⟨(Nat.le_of_ble_eq_true rfl), (Nat.le_of_ble_eq_true rfl)⟩) ⟨xP_blind, xrecv hKx hPx hz rfl rfl, fun U hU hW => ⟨rfl, xP_of hU hW hPx hKx hDx hXx hS (fun _ h => h) hA⟩⟩ rfl rfl hl.1 rfl (lv_room (Nat.le_of_ble_eq_true rfl)) dL_law_1452 ⟨(show nc + 0 ≤ 600000 by omega), (show ns + 0 ≤ 7302250 by omega)⟩) hP hD hS hA (fun r v_10 H locs w_8 hP hKx hD hS => ?_)
  obtain ⟨x_7, rfl, I_11, f_12, f_9⟩ := w_8
  have hP : va_P (dC, dI) vwCl (mG am cm g a ++ xG L cid K N v_10) H := hP
  have hD : va_D (fun q : Nat => s.heap.size ≤ q) (mG am cm g a ++ xG L cid K N v_10) := hD
  have h_13 : v_10 z0 0 = g 30 := (fr_use hz f_12 rfl).trans hnow
  have h_14 : v_10 z0 11 = g 50 := (fr_use hz f_12 rfl).trans hhands
  have h_16 : ok L K (v z0 19) 10 := xf_12_19 hI hz
  have b_17 : v_10 z0 19 = v z0 19 := fr_use hz f_12 rfl
  have b_18 : v_10 (v z0 19) 1 = v (v z0 19) 1 := fr_use h_16 f_12 rfl
  have h_15 : v_10 (v_10 z0 19) 1 = g 78 := by rw [b_17, b_18]; exact hstolen
  have h_20 : ok L K (v z0 14) 5 := xf_12_14 hI hz
  have b_21 : v_10 z0 14 = v z0 14 := fr_use hz f_12 rfl
  have b_22 : v_10 (v z0 14) 5 = v (v z0 14) 5 := fr_use h_20 f_12 rfl
  have h_19 : v_10 (v_10 z0 14) 5 = g 66 := by rw [b_21, b_22]; exact htold
  have h_24 : ok L K (v z0 2) 7 := xf_12_2 hI hz
  have b_25 : v_10 z0 2 = v z0 2 := fr_use hz f_12 rfl
  have b_26 : v_10 (v z0 2) 1 = v (v z0 2) 1 := fr_use h_24 f_12 rfl
  have h_23 : v_10 (v_10 z0 2) 1 = g 1 := by rw [b_25, b_26]; exact hsize
  have h_28 : ok L K (v z0 3) 8 := xf_12_3 hI hz
  have b_29 : v_10 z0 3 = v z0 3 := fr_use hz f_12 rfl
  have b_30 : v_10 (v z0 3) 1 = v (v z0 3) 1 := fr_use h_28 f_12 rfl
  have h_27 : v_10 (v_10 z0 3) 1 = g 18 := by rw [b_29, b_30]; exact hsheets
  have h_31 : rSub v_10 z0 a := rSub_x hI hz (frE_of f_12) rfl (fun _ => rfl) hsub
  have h_32 : rHand v_10 z0 g a := rHand_x hI hz (frE_of f_12) rfl (fun _ => rfl) rfl hhd
  have h_33 : rNews v_10 z0 g a := rNews_x hI hz (frE_of f_12) rfl (fun _ => rfl) (fun _ => rfl) (fun _ => rfl) (fun _ => rfl) (fun _ => rfl) rfl rfl rfl rfl rfl hnw
  have h_34 : rTxt v_10 z0 g a := rTxt_x hI hz (frE_of f_12) rfl rfl rfl (fun _ => rfl) htx
  refine lv_pop hx hb dL_law_1455 rfl ?_
  refine lv_aload_n hx hb dL_law_1456 rfl (lv_at hl 1 rfl) ?_
  refine lv_aload_n hx hb dL_law_1457 rfl (lv_at hl 3 rfl) ?_
  refine lv_iload_n hx hb dL_law_1458 rfl (lv_at hl 0 rfl) ?_
  refine lv_iconst (v := iI 1) hx hb dL_law_1459 rfl ?_
  refine xr_add hx hb dL_law_1460 ?_
  refine va_sld hx hb hX9 hbl hbA hS (xvp (t := i + 1) (by omega) (by omega) hn) dL_law_1461 ?_
  refine jt_i (iI p_1) h_2 ?_
  refine lv_aload_n hx hb dL_law_1462 rfl (lv_at hl 3 rfl) ?_
  refine lv_iload_n hx hb dL_law_1463 rfl (lv_at hl 0 rfl) ?_
  refine lv_iconst (v := iI 2) hx hb dL_law_1464 rfl ?_
  refine xr_add hx hb dL_law_1465 ?_
  refine va_sld hx hb hX9 hbl hbA hS (xvp (t := i + 2) (by omega) (by omega) hn) dL_law_1466 ?_
  refine jt_i (iI p_4) h_5 ?_
  obtain ⟨hP, hD⟩ := lsw hP hD
  have hPm := jp_tail hP
  have hDm := jd_tail hD
  refine jct_i (va_runV (As := [.int (iI p_1), .int (iI p_4)]) (rest := []) ⟨hx, hb, hml, hown, hts⟩ (sX13_owed l dC dI _ am cm g a p_1 p_4 hM r_3 r_6 hrSh) (cwV 2 hts (jgoodVL m_1604 m_438 m_439 m_503 m_187) rfl rfl rfl (by decide +kernel) ⟨(Nat.le_of_ble_eq_true rfl), (Nat.le_of_ble_eq_true rfl)⟩) ⟨jw_blind, va_recv hKm hPm (ci := 13) (q0 := 0) rfl rfl, fun U hU hW => ⟨rfl, jw_of hU hW hPm hKm hDm⟩⟩ rfl rfl hl.1 rfl (lv_room (Nat.le_of_ble_eq_true rfl)) dL_law_1467 ⟨(show nc + 0 ≤ 600000 by omega), (show ns + 0 ≤ 7302250 by omega)⟩) hP hD hS hA (fun r u_37 H locs w_36 hP hKm hD hS => ?_)
  obtain ⟨g_38, a_39⟩ := u_37
  obtain ⟨y_35, rfl, h_40, h_41, h_42, h_43⟩ := w_36
  have hP : va_P (dC, dI) vwCl (xG L cid K N v_10 ++ mG am cm g_38 a_39) H := hP
  have hD : va_D (fun q : Nat => s.heap.size ≤ q) (xG L cid K N v_10 ++ mG am cm g_38 a_39) := hD
  have h_40 : g_38 = g := h_40
  have h_41 : mI g_38 a_39 := h_41
  have h_44 : rLine g_38 a_39 := rLine_t (congrFun h_40 56) (h_42 45 (by decide)) hrLine
  have h_45 : rLead g_38 a_39 := rLead_t (congrFun h_40 37) (h_42 27 (by decide)) (h_42 31 (by decide)) hrLead
  have h_46 : rSkill g_38 a_39 := rSkill_t (congrFun h_40 50) (h_42 38 (by decide)) hrSkill
  have h_47 : rSh g_38 a_39 := rSh_t (congrFun h_40 18) (congrFun h_40 26) (h_42 9 (by decide)) (h_42 10 (by decide)) (h_42 11 (by decide)) (h_42 12 (by decide)) (h_42 16 (by decide)) hrSh
  have h_48 : v_10 z0 0 = g_38 30 := h_13.trans (congrFun h_40 30).symm
  have h_49 : v_10 z0 11 = g_38 50 := h_14.trans (congrFun h_40 50).symm
  have h_50 : v_10 (v_10 z0 19) 1 = g_38 78 := h_15.trans (congrFun h_40 78).symm
  have h_51 : v_10 (v_10 z0 14) 5 = g_38 66 := h_19.trans (congrFun h_40 66).symm
  have h_52 : v_10 (v_10 z0 2) 1 = g_38 1 := h_23.trans (congrFun h_40 1).symm
  have h_53 : v_10 (v_10 z0 3) 1 = g_38 18 := h_27.trans (congrFun h_40 18).symm
  have h_54 : rSub v_10 z0 a_39 := rSub_m (h_42 60 (by decide)) h_31
  have h_55 : rHand v_10 z0 g_38 a_39 := rHand_m (congrFun h_40 50) (h_42 41 (by decide)) h_32
  have h_56 : rNews v_10 z0 g_38 a_39 := rNews_m (congrFun h_40 66) (h_42 51 (by decide)) (h_42 52 (by decide)) (h_42 53 (by decide)) (h_42 54 (by decide)) h_33
  have h_57 : rTxt v_10 z0 g_38 a_39 := rTxt_m (congrFun h_40 1) (h_42 1 (by decide)) h_34
  obtain ⟨hP, hD⟩ := lsw hP hD
  refine lv_pop hx hb dL_law_1470 rfl ?_
  refine lv_goto (tgt := 1804) hx hb dL_law_1471 (by decide) ?_
  exact kk L K N v_10 g_38 a_39 _ _ H locs hz I_11 h_41 h_44 h_45 h_46 h_47 h_48 h_49 h_50 h_51 h_52 h_53 h_54 h_55 h_56 h_57 (by omega) (by omega) hP hD hS
set_option maxHeartbeats 4000000 in
set_option maxRecDepth 100000 in
theorem lc_38 {p : Program} {l : Launch} {e : Env} {s : State} {m : MethodId} {below : List Frame} {meth : Method} {c : Code} {b n : Nat} {xs : Nat → Int32} (C0 : lw_At p s m meth c b n xs) (hn : n ≤ 3072) {dC : Nat → ClassId} {dI : Nat → Nat → Nat} {am : Nat → Nat} {cm cid : Nat → ClassId} {tW : Nat} {sK sV : Nat → Nat} (hXx : xX tW sK sV (fun q : Nat => s.heap.size ≤ q) s s.heap) (hKx : va_K (dC, dI) vwCl (xT cid) s) (hKm : va_K (dC, dI) vwCl (mT cm) s) {z0 : Int} {i : Int} (hi0 : 0 ≤ i) (hi : i + 6 ≤ n) {L : List Nat} {K : Int → Nat} {N : Int → Int} {v : Int → Int → Int} {g : Nat → Int} {a : Nat → Int → Int} (hz : ok L K z0 12) (hI : xI L K N v) (hM : mI g a) (hrLine : rLine g a) (hrLead : rLead g a) (hrSkill : rSkill g a) (hrSh : rSh g a) (hnow : v z0 0 = g 30) (hhands : v z0 11 = g 50) (hstolen : v (v z0 19) 1 = g 78) (htold : v (v z0 14) 5 = g 66) (hsize : v (v z0 2) 1 = g 1) (hsheets : v (v z0 3) 1 = g 18) (hsub : rSub v z0 a) (hhd : rHand v z0 g a) (hnw : rNews v z0 g a) (htx : rTxt v z0 g a) {nc ns : Nat} (hc : nc + 5 ≤ 600000) (hs : ns + 12100 ≤ 7302250) {H : Heap} {locs : List Loc} {ls : Array Slot} (hP : va_P (dC, dI) vwCl (mG am cm g a ++ xG L cid K N v) H) (hD : va_D (fun q : Nat => s.heap.size ≤ q) (mG am cm g a ++ xG L cid K N v)) (hS : va_S (fun q : Nat => s.heap.size ≤ q) s.heap H locs) (hl : lv_has ls 4 [(3, .int (iI i)), (2, .ref (am 0)), (1, .ref z0.toNat), (0, .ref b)])
    (kk : ∀ (L : List Nat) (K : Int → Nat) (N : Int → Int) (v : Int → Int → Int) (g : Nat → Int) (a : Nat → Int → Int) (nc1 ns1 : Nat) (H : Heap) (locs : List Loc), ok L K z0 12 → xI L K N v → mI g a → rLine g a → rLead g a → rSkill g a → rSh g a → v z0 0 = g 30 → v z0 11 = g 50 → v (v z0 19) 1 = g 78 → v (v z0 14) 5 = g 66 → v (v z0 2) 1 = g 1 → v (v z0 3) 1 = g 18 → rSub v z0 a → rHand v z0 g a → rNews v z0 g a → rTxt v z0 g a → nc1 ≤ nc + 5 → ns1 ≤ ns + 12100 → va_P (dC, dI) vwCl (mG am cm g a ++ xG L cid K N v) H → va_D (fun q : Nat => s.heap.size ≤ q) (mG am cm g a ++ xG L cid K N v) → va_S (fun q : Nat => s.heap.size ≤ q) s.heap H locs → W p l e room_1 s m #[Value.ref b] below meth c H locs nc1 ns1 (lw_Z below #[Value.ref b] s) (F0 m 1804 ls [])) : W p l e room_1 s m #[Value.ref b] below meth c H locs nc ns (lw_Z below #[Value.ref b] s) (F0 m 1474 ls []) := by
  obtain ⟨hx, hb, hr, hml, hown, hts, hX9, hbl, hlocks, hgv⟩ := id C0
  have hA : ∀ q : Nat, s.heap.size ≤ q → (fun q : Nat => s.heap.size ≤ q) q := fun _ h => h
  have hbA : ¬ (fun q : Nat => s.heap.size ≤ q) b := Nat.not_le.mpr hbl
  refine lv_aload_n hx hb dL_law_1474 rfl (lv_at hl 2 rfl) ?_
  refine lv_aload_n hx hb dL_law_1475 rfl (lv_at hl 3 rfl) ?_
  refine lv_iload_n hx hb dL_law_1476 rfl (lv_at hl 0 rfl) ?_
  refine lv_iconst (v := iI 1) hx hb dL_law_1477 rfl ?_
  refine xr_add hx hb dL_law_1478 ?_
  refine va_sld hx hb hX9 hbl hbA hS (xvp (t := i + 1) (by omega) (by omega) hn) dL_law_1479 ?_
  obtain ⟨p_1, h_2, r_3⟩ : ∃ y : Int, xs (iI (i + 1)).toNatClampNeg = iI y ∧ rg y := ⟨_, iI_of _, rg_of _⟩
  refine jt_i (iI p_1) h_2 ?_
  refine lv_aload_n hx hb dL_law_1480 rfl (lv_at hl 3 rfl) ?_
  refine lv_iload_n hx hb dL_law_1481 rfl (lv_at hl 0 rfl) ?_
  refine lv_iconst (v := iI 2) hx hb dL_law_1482 rfl ?_
  refine xr_add hx hb dL_law_1483 ?_
  refine va_sld hx hb hX9 hbl hbA hS (xvp (t := i + 2) (by omega) (by omega) hn) dL_law_1484 ?_
  obtain ⟨p_4, h_5, r_6⟩ : ∃ y : Int, xs (iI (i + 2)).toNatClampNeg = iI y ∧ rg y := ⟨_, iI_of _, rg_of _⟩
  refine jt_i (iI p_4) h_5 ?_
  have hPx := jp_tail hP
  have hDx := jd_tail hD
  refine jct_i (va_runV (As := [.int (iI p_1), .int (iI p_4)]) (rest := []) ⟨hx, hb, hml, hown, hts⟩ (sX12_lengths l dC dI _ L cid K N tW sK sV v z0 p_1 p_4 hI hz r_3 r_6) (cwV 2 hts (jgoodVL m_1605 m_1606 m_1607 m_873 m_1608) rfl rfl rfl (by decide +kernel) ⟨(Nat.le_of_ble_eq_true rfl), (Nat.le_of_ble_eq_true rfl)⟩) ⟨xP_blind, xrecv hKx hPx hz rfl rfl, fun U hU hW => ⟨rfl, xP_of hU hW hPx hKx hDx hXx hS (fun _ h => h) hA⟩⟩ rfl rfl hl.1 rfl (lv_room (Nat.le_of_ble_eq_true rfl)) dL_law_1485 ⟨(show nc + 0 ≤ 600000 by omega), (show ns + 0 ≤ 7302250 by omega)⟩) hP hD hS hA (fun r v_10 H locs w_8 hP hKx hD hS => ?_)
  obtain ⟨x_7, rfl, I_11, f_12, f_9⟩ := w_8
  have hP : va_P (dC, dI) vwCl (mG am cm g a ++ xG L cid K N v_10) H := hP
  have hD : va_D (fun q : Nat => s.heap.size ≤ q) (mG am cm g a ++ xG L cid K N v_10) := hD
  have h_13 : v_10 z0 0 = g 30 := (fr_use hz f_12 rfl).trans hnow
  have h_14 : v_10 z0 11 = g 50 := (fr_use hz f_12 rfl).trans hhands
  have h_16 : ok L K (v z0 19) 10 := xf_12_19 hI hz
  have b_17 : v_10 z0 19 = v z0 19 := fr_use hz f_12 rfl
  have b_18 : v_10 (v z0 19) 1 = v (v z0 19) 1 := fr_use h_16 f_12 rfl
  have h_15 : v_10 (v_10 z0 19) 1 = g 78 := by rw [b_17, b_18]; exact hstolen
  have h_20 : ok L K (v z0 14) 5 := xf_12_14 hI hz
  have b_21 : v_10 z0 14 = v z0 14 := fr_use hz f_12 rfl
  have b_22 : v_10 (v z0 14) 5 = v (v z0 14) 5 := fr_use h_20 f_12 rfl
  have h_19 : v_10 (v_10 z0 14) 5 = g 66 := by rw [b_21, b_22]; exact htold
  have h_24 : ok L K (v z0 2) 7 := xf_12_2 hI hz
  have b_25 : v_10 z0 2 = v z0 2 := fr_use hz f_12 rfl
  have b_26 : v_10 (v z0 2) 1 = v (v z0 2) 1 := fr_use h_24 f_12 rfl
  have h_23 : v_10 (v_10 z0 2) 1 = g 1 := by rw [b_25, b_26]; exact hsize
  have h_28 : ok L K (v z0 3) 8 := xf_12_3 hI hz
  have b_29 : v_10 z0 3 = v z0 3 := fr_use hz f_12 rfl
  have b_30 : v_10 (v z0 3) 1 = v (v z0 3) 1 := fr_use h_28 f_12 rfl
  have h_27 : v_10 (v_10 z0 3) 1 = g 18 := by rw [b_29, b_30]; exact hsheets
  have h_31 : rSub v_10 z0 a := rSub_x hI hz (frE_of f_12) rfl (fun _ => rfl) hsub
  have h_32 : rHand v_10 z0 g a := rHand_x hI hz (frE_of f_12) rfl (fun _ => rfl) rfl hhd
  have h_33 : rNews v_10 z0 g a := rNews_x hI hz (frE_of f_12) rfl (fun _ => rfl) (fun _ => rfl) (fun _ => rfl) (fun _ => rfl) (fun _ => rfl) rfl rfl rfl rfl rfl hnw
  have h_34 : rTxt v_10 z0 g a := rTxt_x hI hz (frE_of f_12) rfl rfl rfl (fun _ => rfl) htx
  refine lv_pop hx hb dL_law_1488 rfl ?_
  refine lv_aload_n hx hb dL_law_1489 rfl (lv_at hl 1 rfl) ?_
  refine lv_aload_n hx hb dL_law_1490 rfl (lv_at hl 3 rfl) ?_
  refine lv_iload_n hx hb dL_law_1491 rfl (lv_at hl 0 rfl) ?_
  refine lv_iconst (v := iI 1) hx hb dL_law_1492 rfl ?_
  refine xr_add hx hb dL_law_1493 ?_
  refine va_sld hx hb hX9 hbl hbA hS (xvp (t := i + 1) (by omega) (by omega) hn) dL_law_1494 ?_
  refine jt_i (iI p_1) h_2 ?_
  refine lv_aload_n hx hb dL_law_1495 rfl (lv_at hl 3 rfl) ?_
  refine lv_iload_n hx hb dL_law_1496 rfl (lv_at hl 0 rfl) ?_
  refine lv_iconst (v := iI 2) hx hb dL_law_1497 rfl ?_
  refine xr_add hx hb dL_law_1498 ?_
  refine va_sld hx hb hX9 hbl hbA hS (xvp (t := i + 2) (by omega) (by omega) hn) dL_law_1499 ?_
  refine jt_i (iI p_4) h_5 ?_
  obtain ⟨hP, hD⟩ := lsw hP hD
  have hPm := jp_tail hP
  have hDm := jd_tail hD
  refine jct_i (va_runV (As := [.int (iI p_1), .int (iI p_4)]) (rest := []) ⟨hx, hb, hml, hown, hts⟩ (sX13_lengths l dC dI _ am cm g a p_1 p_4 hM r_3 r_6 hrSh) (cwV 2 hts (jgoodVL m_1609 m_414 m_415 m_503 m_174) rfl rfl rfl (by decide +kernel) ⟨(Nat.le_of_ble_eq_true rfl), (Nat.le_of_ble_eq_true rfl)⟩) ⟨jw_blind, va_recv hKm hPm (ci := 13) (q0 := 0) rfl rfl, fun U hU hW => ⟨rfl, jw_of hU hW hPm hKm hDm⟩⟩ rfl rfl hl.1 rfl (lv_room (Nat.le_of_ble_eq_true rfl)) dL_law_1500 ⟨(show nc + 0 ≤ 600000 by omega), (show ns + 0 ≤ 7302250 by omega)⟩) hP hD hS hA (fun r u_37 H locs w_36 hP hKm hD hS => ?_)
  obtain ⟨g_38, a_39⟩ := u_37
  obtain ⟨y_35, rfl, h_40, h_41, h_42, h_43⟩ := w_36
  have hP : va_P (dC, dI) vwCl (xG L cid K N v_10 ++ mG am cm g_38 a_39) H := hP
  have hD : va_D (fun q : Nat => s.heap.size ≤ q) (xG L cid K N v_10 ++ mG am cm g_38 a_39) := hD
  have h_40 : mI g_38 a_39 := h_40
  have h_44 : rLine g_38 a_39 := rLine_t (h_41 56 (by decide)) (h_42 45 (by decide)) hrLine
  have h_45 : rLead g_38 a_39 := rLead_t (h_41 37 (by decide)) (h_42 27 (by decide)) (h_42 31 (by decide)) hrLead
  have h_46 : rSkill g_38 a_39 := rSkill_t (h_41 50 (by decide)) (h_42 38 (by decide)) hrSkill
  have h_47 : rSh g_38 a_39 := rSh_t (h_41 18 (by decide)) (h_41 26 (by decide)) (h_42 9 (by decide)) (h_42 10 (by decide)) (h_42 11 (by decide)) (h_42 12 (by decide)) (h_42 16 (by decide)) hrSh
  have h_48 : v_10 z0 0 = g_38 30 := h_13.trans (h_41 30 (by decide)).symm
  have h_49 : v_10 z0 11 = g_38 50 := h_14.trans (h_41 50 (by decide)).symm
  have h_50 : v_10 (v_10 z0 19) 1 = g_38 78 := h_15.trans (h_41 78 (by decide)).symm
  have h_51 : v_10 (v_10 z0 14) 5 = g_38 66 := h_19.trans (h_41 66 (by decide)).symm
  have h_52 : v_10 (v_10 z0 2) 1 = g_38 1 := h_23.trans (h_41 1 (by decide)).symm
  have h_53 : v_10 (v_10 z0 3) 1 = g_38 18 := h_27.trans (h_41 18 (by decide)).symm
  have h_54 : rSub v_10 z0 a_39 := rSub_m (h_42 60 (by decide)) h_31
  have h_55 : rHand v_10 z0 g_38 a_39 := rHand_m (h_41 50 (by decide)) (h_42 41 (by decide)) h_32
  have h_56 : rNews v_10 z0 g_38 a_39 := rNews_m (h_41 66 (by decide)) (h_42 51 (by decide)) (h_42 52 (by decide)) (h_42 53 (by decide)) (h_42 54 (by decide)) h_33
  have h_57 : rTxt v_10 z0 g_38 a_39 := rTxt_m (h_41 1 (by decide)) (h_42 1 (by decide)) h_34
  obtain ⟨hP, hD⟩ := lsw hP hD
  refine lv_pop hx hb dL_law_1503 rfl ?_
  refine lv_goto (tgt := 1804) hx hb dL_law_1504 (by decide) ?_
  exact kk L K N v_10 g_38 a_39 _ _ H locs hz I_11 h_40 h_44 h_45 h_46 h_47 h_48 h_49 h_50 h_51 h_52 h_53 h_54 h_55 h_56 h_57 (by omega) (by omega) hP hD hS
set_option maxHeartbeats 4000000 in
set_option maxRecDepth 100000 in
theorem lc_39 {p : Program} {l : Launch} {e : Env} {s : State} {m : MethodId} {below : List Frame} {meth : Method} {c : Code} {b n : Nat} {xs : Nat → Int32} (C0 : lw_At p s m meth c b n xs) (hn : n ≤ 3072) {dC : Nat → ClassId} {dI : Nat → Nat → Nat} {am : Nat → Nat} {cm cid : Nat → ClassId} {tW : Nat} {sK sV : Nat → Nat} (hXx : xX tW sK sV (fun q : Nat => s.heap.size ≤ q) s s.heap) (hKx : va_K (dC, dI) vwCl (xT cid) s) (hKm : va_K (dC, dI) vwCl (mT cm) s) {z0 : Int} {i : Int} (hi0 : 0 ≤ i) (hi : i + 6 ≤ n) {L : List Nat} {K : Int → Nat} {N : Int → Int} {v : Int → Int → Int} {g : Nat → Int} {a : Nat → Int → Int} (hz : ok L K z0 12) (hI : xI L K N v) (hM : mI g a) (hrLine : rLine g a) (hrLead : rLead g a) (hrSkill : rSkill g a) (hrSh : rSh g a) (hnow : v z0 0 = g 30) (hhands : v z0 11 = g 50) (hstolen : v (v z0 19) 1 = g 78) (htold : v (v z0 14) 5 = g 66) (hsize : v (v z0 2) 1 = g 1) (hsheets : v (v z0 3) 1 = g 18) (hsub : rSub v z0 a) (hhd : rHand v z0 g a) (hnw : rNews v z0 g a) (htx : rTxt v z0 g a) {nc ns : Nat} (hc : nc + 5 ≤ 600000) (hs : ns + 12100 ≤ 7302250) {H : Heap} {locs : List Loc} {ls : Array Slot} (hP : va_P (dC, dI) vwCl (mG am cm g a ++ xG L cid K N v) H) (hD : va_D (fun q : Nat => s.heap.size ≤ q) (mG am cm g a ++ xG L cid K N v)) (hS : va_S (fun q : Nat => s.heap.size ≤ q) s.heap H locs) (hl : lv_has ls 4 [(3, .int (iI i)), (2, .ref (am 0)), (1, .ref z0.toNat), (0, .ref b)])
    (kk : ∀ (L : List Nat) (K : Int → Nat) (N : Int → Int) (v : Int → Int → Int) (g : Nat → Int) (a : Nat → Int → Int) (nc1 ns1 : Nat) (H : Heap) (locs : List Loc), ok L K z0 12 → xI L K N v → mI g a → rLine g a → rLead g a → rSkill g a → rSh g a → v z0 0 = g 30 → v z0 11 = g 50 → v (v z0 19) 1 = g 78 → v (v z0 14) 5 = g 66 → v (v z0 2) 1 = g 1 → v (v z0 3) 1 = g 18 → rSub v z0 a → rHand v z0 g a → rNews v z0 g a → rTxt v z0 g a → nc1 ≤ nc + 5 → ns1 ≤ ns + 12100 → va_P (dC, dI) vwCl (mG am cm g a ++ xG L cid K N v) H → va_D (fun q : Nat => s.heap.size ≤ q) (mG am cm g a ++ xG L cid K N v) → va_S (fun q : Nat => s.heap.size ≤ q) s.heap H locs → W p l e room_1 s m #[Value.ref b] below meth c H locs nc1 ns1 (lw_Z below #[Value.ref b] s) (F0 m 1804 ls [])) : W p l e room_1 s m #[Value.ref b] below meth c H locs nc ns (lw_Z below #[Value.ref b] s) (F0 m 1507 ls []) := by
  obtain ⟨hx, hb, hr, hml, hown, hts, hX9, hbl, hlocks, hgv⟩ := id C0
  have hA : ∀ q : Nat, s.heap.size ≤ q → (fun q : Nat => s.heap.size ≤ q) q := fun _ h => h
  have hbA : ¬ (fun q : Nat => s.heap.size ≤ q) b := Nat.not_le.mpr hbl
  refine lv_aload_n hx hb dL_law_1507 rfl (lv_at hl 2 rfl) ?_
  refine lv_aload_n hx hb dL_law_1508 rfl (lv_at hl 3 rfl) ?_
  refine lv_iload_n hx hb dL_law_1509 rfl (lv_at hl 0 rfl) ?_
  refine lv_iconst (v := iI 1) hx hb dL_law_1510 rfl ?_
  refine xr_add hx hb dL_law_1511 ?_
  refine va_sld hx hb hX9 hbl hbA hS (xvp (t := i + 1) (by omega) (by omega) hn) dL_law_1512 ?_
  obtain ⟨p_1, h_2, r_3⟩ : ∃ y : Int, xs (iI (i + 1)).toNatClampNeg = iI y ∧ rg y := ⟨_, iI_of _, rg_of _⟩
  refine jt_i (iI p_1) h_2 ?_
  refine lv_aload_n hx hb dL_law_1513 rfl (lv_at hl 3 rfl) ?_
  refine lv_iload_n hx hb dL_law_1514 rfl (lv_at hl 0 rfl) ?_
  refine lv_iconst (v := iI 2) hx hb dL_law_1515 rfl ?_
  refine xr_add hx hb dL_law_1516 ?_
  refine va_sld hx hb hX9 hbl hbA hS (xvp (t := i + 2) (by omega) (by omega) hn) dL_law_1517 ?_
  obtain ⟨p_4, h_5, r_6⟩ : ∃ y : Int, xs (iI (i + 2)).toNatClampNeg = iI y ∧ rg y := ⟨_, iI_of _, rg_of _⟩
  refine jt_i (iI p_4) h_5 ?_
  have hPx := jp_tail hP
  have hDx := jd_tail hD
  refine jct_i (va_runV (As := [.int (iI p_1), .int (iI p_4)]) (rest := []) ⟨hx, hb, hml, hown, hts⟩ (sX12_length l dC dI _ L cid K N tW sK sV v z0 p_1 p_4 hI hz r_3 r_6) (cwV 2 hts (jgoodVL m_1610 m_1611 m_1612 m_873 m_1613) rfl rfl rfl (by decide +kernel) ⟨(Nat.le_of_ble_eq_true rfl), (Nat.le_of_ble_eq_true rfl)⟩) ⟨xP_blind, xrecv hKx hPx hz rfl rfl, fun U hU hW => ⟨rfl, xP_of hU hW hPx hKx hDx hXx hS (fun _ h => h) hA⟩⟩ rfl rfl hl.1 rfl (lv_room (Nat.le_of_ble_eq_true rfl)) dL_law_1518 ⟨(show nc + 0 ≤ 600000 by omega), (show ns + 0 ≤ 7302250 by omega)⟩) hP hD hS hA (fun r v_10 H locs w_8 hP hKx hD hS => ?_)
  obtain ⟨x_7, rfl, I_11, f_12, f_9⟩ := w_8
  have hP : va_P (dC, dI) vwCl (mG am cm g a ++ xG L cid K N v_10) H := hP
  have hD : va_D (fun q : Nat => s.heap.size ≤ q) (mG am cm g a ++ xG L cid K N v_10) := hD
  have h_13 : v_10 z0 0 = g 30 := (fr_use hz f_12 rfl).trans hnow
  have h_14 : v_10 z0 11 = g 50 := (fr_use hz f_12 rfl).trans hhands
  have h_16 : ok L K (v z0 19) 10 := xf_12_19 hI hz
  have b_17 : v_10 z0 19 = v z0 19 := fr_use hz f_12 rfl
  have b_18 : v_10 (v z0 19) 1 = v (v z0 19) 1 := fr_use h_16 f_12 rfl
  have h_15 : v_10 (v_10 z0 19) 1 = g 78 := by rw [b_17, b_18]; exact hstolen
  have h_20 : ok L K (v z0 14) 5 := xf_12_14 hI hz
  have b_21 : v_10 z0 14 = v z0 14 := fr_use hz f_12 rfl
  have b_22 : v_10 (v z0 14) 5 = v (v z0 14) 5 := fr_use h_20 f_12 rfl
  have h_19 : v_10 (v_10 z0 14) 5 = g 66 := by rw [b_21, b_22]; exact htold
  have h_24 : ok L K (v z0 2) 7 := xf_12_2 hI hz
  have b_25 : v_10 z0 2 = v z0 2 := fr_use hz f_12 rfl
  have b_26 : v_10 (v z0 2) 1 = v (v z0 2) 1 := fr_use h_24 f_12 rfl
  have h_23 : v_10 (v_10 z0 2) 1 = g 1 := by rw [b_25, b_26]; exact hsize
  have h_28 : ok L K (v z0 3) 8 := xf_12_3 hI hz
  have b_29 : v_10 z0 3 = v z0 3 := fr_use hz f_12 rfl
  have b_30 : v_10 (v z0 3) 1 = v (v z0 3) 1 := fr_use h_28 f_12 rfl
  have h_27 : v_10 (v_10 z0 3) 1 = g 18 := by rw [b_29, b_30]; exact hsheets
  have h_31 : rSub v_10 z0 a := rSub_x hI hz (frE_of f_12) rfl (fun _ => rfl) hsub
  have h_32 : rHand v_10 z0 g a := rHand_x hI hz (frE_of f_12) rfl (fun _ => rfl) rfl hhd
  have h_33 : rNews v_10 z0 g a := rNews_x hI hz (frE_of f_12) rfl (fun _ => rfl) (fun _ => rfl) (fun _ => rfl) (fun _ => rfl) (fun _ => rfl) rfl rfl rfl rfl rfl hnw
  have h_34 : rTxt v_10 z0 g a := rTxt_x hI hz (frE_of f_12) rfl rfl rfl (fun _ => rfl) htx
  refine lv_pop hx hb dL_law_1521 rfl ?_
  refine lv_aload_n hx hb dL_law_1522 rfl (lv_at hl 1 rfl) ?_
  refine lv_aload_n hx hb dL_law_1523 rfl (lv_at hl 3 rfl) ?_
  refine lv_iload_n hx hb dL_law_1524 rfl (lv_at hl 0 rfl) ?_
  refine lv_iconst (v := iI 1) hx hb dL_law_1525 rfl ?_
  refine xr_add hx hb dL_law_1526 ?_
  refine va_sld hx hb hX9 hbl hbA hS (xvp (t := i + 1) (by omega) (by omega) hn) dL_law_1527 ?_
  refine jt_i (iI p_1) h_2 ?_
  refine lv_aload_n hx hb dL_law_1528 rfl (lv_at hl 3 rfl) ?_
  refine lv_iload_n hx hb dL_law_1529 rfl (lv_at hl 0 rfl) ?_
  refine lv_iconst (v := iI 2) hx hb dL_law_1530 rfl ?_
  refine xr_add hx hb dL_law_1531 ?_
  refine va_sld hx hb hX9 hbl hbA hS (xvp (t := i + 2) (by omega) (by omega) hn) dL_law_1532 ?_
  refine jt_i (iI p_4) h_5 ?_
  obtain ⟨hP, hD⟩ := lsw hP hD
  have hPm := jp_tail hP
  have hDm := jd_tail hD
  refine jct_i (va_runV (As := [.int (iI p_1), .int (iI p_4)]) (rest := []) ⟨hx, hb, hml, hown, hts⟩ (sX13_length l dC dI _ am cm g a p_1 p_4 hM r_3 r_6 hrSh) (cwV 2 hts (jgoodVL m_1614 m_412 m_413 m_503 m_173) rfl rfl rfl (by decide +kernel) ⟨(Nat.le_of_ble_eq_true rfl), (Nat.le_of_ble_eq_true rfl)⟩) ⟨jw_blind, va_recv hKm hPm (ci := 13) (q0 := 0) rfl rfl, fun U hU hW => ⟨rfl, jw_of hU hW hPm hKm hDm⟩⟩ rfl rfl hl.1 rfl (lv_room (Nat.le_of_ble_eq_true rfl)) dL_law_1533 ⟨(show nc + 0 ≤ 600000 by omega), (show ns + 0 ≤ 7302250 by omega)⟩) hP hD hS hA (fun r u_37 H locs w_36 hP hKm hD hS => ?_)
  obtain ⟨g_38, a_39⟩ := u_37
  obtain ⟨y_35, rfl, h_40, h_41, h_42, h_43⟩ := w_36
  have hP : va_P (dC, dI) vwCl (xG L cid K N v_10 ++ mG am cm g_38 a_39) H := hP
  have hD : va_D (fun q : Nat => s.heap.size ≤ q) (xG L cid K N v_10 ++ mG am cm g_38 a_39) := hD
  have h_40 : mI g_38 a_39 := h_40
  have h_44 : rLine g_38 a_39 := rLine_t (h_41 56 (by decide)) (h_42 45 (by decide)) hrLine
  have h_45 : rLead g_38 a_39 := rLead_t (h_41 37 (by decide)) (h_42 27 (by decide)) (h_42 31 (by decide)) hrLead
  have h_46 : rSkill g_38 a_39 := rSkill_t (h_41 50 (by decide)) (h_42 38 (by decide)) hrSkill
  have h_47 : rSh g_38 a_39 := rSh_t (h_41 18 (by decide)) (h_41 26 (by decide)) (h_42 9 (by decide)) (h_42 10 (by decide)) (h_42 11 (by decide)) (h_42 12 (by decide)) (h_42 16 (by decide)) hrSh
  have h_48 : v_10 z0 0 = g_38 30 := h_13.trans (h_41 30 (by decide)).symm
  have h_49 : v_10 z0 11 = g_38 50 := h_14.trans (h_41 50 (by decide)).symm
  have h_50 : v_10 (v_10 z0 19) 1 = g_38 78 := h_15.trans (h_41 78 (by decide)).symm
  have h_51 : v_10 (v_10 z0 14) 5 = g_38 66 := h_19.trans (h_41 66 (by decide)).symm
  have h_52 : v_10 (v_10 z0 2) 1 = g_38 1 := h_23.trans (h_41 1 (by decide)).symm
  have h_53 : v_10 (v_10 z0 3) 1 = g_38 18 := h_27.trans (h_41 18 (by decide)).symm
  have h_54 : rSub v_10 z0 a_39 := rSub_m (h_42 60 (by decide)) h_31
  have h_55 : rHand v_10 z0 g_38 a_39 := rHand_m (h_41 50 (by decide)) (h_42 41 (by decide)) h_32
  have h_56 : rNews v_10 z0 g_38 a_39 := rNews_m (h_41 66 (by decide)) (h_42 51 (by decide)) (h_42 52 (by decide)) (h_42 53 (by decide)) (h_42 54 (by decide)) h_33
  have h_57 : rTxt v_10 z0 g_38 a_39 := rTxt_m (h_41 1 (by decide)) (h_42 1 (by decide)) h_34
  obtain ⟨hP, hD⟩ := lsw hP hD
  refine lv_pop hx hb dL_law_1536 rfl ?_
  refine lv_goto (tgt := 1804) hx hb dL_law_1537 (by decide) ?_
  exact kk L K N v_10 g_38 a_39 _ _ H locs hz I_11 h_40 h_44 h_45 h_46 h_47 h_48 h_49 h_50 h_51 h_52 h_53 h_54 h_55 h_56 h_57 (by omega) (by omega) hP hD hS
