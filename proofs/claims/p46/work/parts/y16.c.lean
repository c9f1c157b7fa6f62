set_option maxHeartbeats 4000000 in
set_option maxRecDepth 100000 in
theorem lc_21 {p : Program} {l : Launch} {e : Env} {s : State} {m : MethodId} {below : List Frame} {meth : Method} {c : Code} {b n : Nat} {xs : Nat → Int32} (C0 : lw_At p s m meth c b n xs) (hn : n ≤ 3072) {dC : Nat → ClassId} {dI : Nat → Nat → Nat} {am : Nat → Nat} {cm cid : Nat → ClassId} {tW : Nat} {sK sV : Nat → Nat} (hXx : xX tW sK sV (fun q : Nat => s.heap.size ≤ q) s s.heap) (hKx : va_K (dC, dI) vwCl (xT cid) s) (hKm : va_K (dC, dI) vwCl (mT cm) s) {z0 : Int} {i : Int} (hi0 : 0 ≤ i) (hi : i + 6 ≤ n) {L : List Nat} {K : Int → Nat} {N : Int → Int} {v : Int → Int → Int} {g : Nat → Int} {a : Nat → Int → Int} (hz : ok L K z0 12) (hI : xI L K N v) (hM : mI g a) (hrLine : rLine g a) (hrLead : rLead g a) (hrSkill : rSkill g a) (hrSh : rSh g a) (hnow : v z0 0 = g 30) (hhands : v z0 11 = g 50) (hstolen : v (v z0 19) 1 = g 78) (htold : v (v z0 14) 5 = g 66) (hsub : rSub v z0 a) (hhd : rHand v z0 g a) (hnw : rNews v z0 g a) {nc ns : Nat} (hc : nc + 5 ≤ 600000) (hs : ns + 12100 ≤ 7302250) {H : Heap} {locs : List Loc} {ls : Array Slot} (hP : va_P (dC, dI) vwCl (mG am cm g a ++ xG L cid K N v) H) (hD : va_D (fun q : Nat => s.heap.size ≤ q) (mG am cm g a ++ xG L cid K N v)) (hS : va_S (fun q : Nat => s.heap.size ≤ q) s.heap H locs) (hl : lv_has ls 4 [(3, .int (iI i)), (2, .ref (am 0)), (1, .ref z0.toNat), (0, .ref b)])
    (kk : ∀ (L : List Nat) (K : Int → Nat) (N : Int → Int) (v : Int → Int → Int) (g : Nat → Int) (a : Nat → Int → Int) (nc1 ns1 : Nat) (H : Heap) (locs : List Loc), ok L K z0 12 → xI L K N v → mI g a → rLine g a → rLead g a → rSkill g a → rSh g a → v z0 0 = g 30 → v z0 11 = g 50 → v (v z0 19) 1 = g 78 → v (v z0 14) 5 = g 66 → rSub v z0 a → rHand v z0 g a → rNews v z0 g a → nc1 ≤ nc + 5 → ns1 ≤ ns + 12100 → va_P (dC, dI) vwCl (mG am cm g a ++ xG L cid K N v) H → va_D (fun q : Nat => s.heap.size ≤ q) (mG am cm g a ++ xG L cid K N v) → va_S (fun q : Nat => s.heap.size ≤ q) s.heap H locs → W p l e room_1 s m #[Value.ref b] below meth c H locs nc1 ns1 (lw_Z below #[Value.ref b] s) (F0 m 1804 ls [])) : W p l e room_1 s m #[Value.ref b] below meth c H locs nc ns (lw_Z below #[Value.ref b] s) (F0 m 973 ls []) := by
  obtain ⟨hx, hb, hr, hml, hown, hts, hX9, hbl, hlocks, hgv⟩ := id C0
  have hA : ∀ q : Nat, s.heap.size ≤ q → (fun q : Nat => s.heap.size ≤ q) q := fun _ h => h
  have hbA : ¬ (fun q : Nat => s.heap.size ≤ q) b := Nat.not_le.mpr hbl
  refine lv_aload_n hx hb dL_law_973 rfl (lv_at hl 2 rfl) ?_
  refine lv_aload_n hx hb dL_law_974 rfl (lv_at hl 3 rfl) ?_
  refine lv_iload_n hx hb dL_law_975 rfl (lv_at hl 0 rfl) ?_
  refine lv_iconst (v := iI 1) hx hb dL_law_976 rfl ?_
  refine xr_add hx hb dL_law_977 ?_
  refine va_sld hx hb hX9 hbl hbA hS (xvp (t := i + 1) (by omega) (by omega) hn) dL_law_978 ?_
  obtain ⟨p_1, h_2, r_3⟩ : ∃ y : Int, xs (iI (i + 1)).toNatClampNeg = iI y ∧ rg y := ⟨_, iI_of _, rg_of _⟩
  refine jt_i (iI p_1) h_2 ?_
  have hPx := jp_tail hP
  have hDx := jd_tail hD
  refine jct_i (va_runV (As := [.int (iI p_1)]) (rest := []) ⟨hx, hb, hml, hown, hts⟩ (sX12_die l dC dI _ L cid K N tW sK sV v z0 p_1 hI hz r_3) (cwV 1 hts (jgoodVL m_1520 m_1521 m_1522 m_873 m_1523) rfl rfl rfl (by decide +kernel) ⟨(Nat.le_of_ble_eq_true rfl), (Nat.le_of_ble_eq_true rfl)⟩) ⟨xP_blind, xrecv hKx hPx hz rfl rfl, fun U hU hW => ⟨rfl, xP_of hU hW hPx hKx hDx hXx hS (fun _ h => h) hA⟩⟩ rfl rfl hl.1 rfl (lv_room (Nat.le_of_ble_eq_true rfl)) dL_law_979 ⟨(show nc + 0 ≤ 600000 by omega), (show ns + 0 ≤ 7302250 by omega)⟩) hP hD hS hA (fun r v_7 H locs w_5 hP hKx hD hS => ?_)
  obtain ⟨x_4, rfl, I_8, f_9, f_6⟩ := w_5
  have hP : va_P (dC, dI) vwCl (mG am cm g a ++ xG L cid K N v_7) H := hP
  have hD : va_D (fun q : Nat => s.heap.size ≤ q) (mG am cm g a ++ xG L cid K N v_7) := hD
  have h_10 : v_7 z0 0 = g 30 := (fr_use hz f_9 rfl).trans hnow
  have h_11 : v_7 z0 11 = g 50 := (fr_use hz f_9 rfl).trans hhands
  have h_13 : ok L K (v z0 19) 10 := xf_12_19 hI hz
  have b_14 : v_7 z0 19 = v z0 19 := fr_use hz f_9 rfl
  have b_15 : v_7 (v z0 19) 1 = v (v z0 19) 1 := fr_use h_13 f_9 rfl
  have h_12 : v_7 (v_7 z0 19) 1 = g 78 := by rw [b_14, b_15]; exact hstolen
  have h_17 : ok L K (v z0 14) 5 := xf_12_14 hI hz
  have b_18 : v_7 z0 14 = v z0 14 := fr_use hz f_9 rfl
  have b_19 : v_7 (v z0 14) 5 = v (v z0 14) 5 := fr_use h_17 f_9 rfl
  have h_16 : v_7 (v_7 z0 14) 5 = g 66 := by rw [b_18, b_19]; exact htold
  have h_20 : rSub v_7 z0 a := rSub_x hI hz (frE_of f_9) rfl (fun _ => rfl) hsub
  have h_21 : rHand v_7 z0 g a := rHand_x hI hz (frE_of f_9) rfl (fun _ => rfl) rfl hhd
  have h_22 : rNews v_7 z0 g a := rNews_x hI hz (frE_of f_9) rfl (fun _ => rfl) (fun _ => rfl) (fun _ => rfl) (fun _ => rfl) (fun _ => rfl) rfl rfl rfl rfl rfl hnw
  refine lv_pop hx hb dL_law_982 rfl ?_
  refine lv_aload_n hx hb dL_law_983 rfl (lv_at hl 1 rfl) ?_
  refine lv_aload_n hx hb dL_law_984 rfl (lv_at hl 3 rfl) ?_
  refine lv_iload_n hx hb dL_law_985 rfl (lv_at hl 0 rfl) ?_
  refine lv_iconst (v := iI 1) hx hb dL_law_986 rfl ?_
  refine xr_add hx hb dL_law_987 ?_
  refine va_sld hx hb hX9 hbl hbA hS (xvp (t := i + 1) (by omega) (by omega) hn) dL_law_988 ?_
  refine jt_i (iI p_1) h_2 ?_
  obtain ⟨hP, hD⟩ := lsw hP hD
  have hPm := jp_tail hP
  have hDm := jd_tail hD
  refine jct_i (va_runV (As := [.int (iI p_1)]) (rest := []) ⟨hx, hb, hml, hown, hts⟩ (sX13_die l dC dI _ am cm g a p_1 hM r_3) (cwV 1 hts (jgoodVL m_1524 m_320 m_321 m_503 m_125) rfl rfl rfl (by decide +kernel) ⟨(Nat.le_of_ble_eq_true rfl), (Nat.le_of_ble_eq_true rfl)⟩) ⟨jw_blind, va_recv hKm hPm (ci := 13) (q0 := 0) rfl rfl, fun U hU hW => ⟨rfl, jw_of hU hW hPm hKm hDm⟩⟩ rfl rfl hl.1 rfl (lv_room (Nat.le_of_ble_eq_true rfl)) dL_law_989 ⟨(show nc + 0 ≤ 600000 by omega), (show ns + 0 ≤ 7302250 by omega)⟩) hP hD hS hA (fun r u_25 H locs w_24 hP hKm hD hS => ?_)
  obtain ⟨g_26, a_27⟩ := u_25
  obtain ⟨y_23, rfl, h_28, h_29, h_30, h_31⟩ := w_24
  have hP : va_P (dC, dI) vwCl (xG L cid K N v_7 ++ mG am cm g_26 a_27) H := hP
  have hD : va_D (fun q : Nat => s.heap.size ≤ q) (xG L cid K N v_7 ++ mG am cm g_26 a_27) := hD
  have h_28 : g_26 = g := h_28
  have h_29 : mI g_26 a_27 := h_29
  have h_32 : rLine g_26 a_27 := rLine_t (congrFun h_28 56) (h_30 45 (by decide)) hrLine
  have h_33 : rLead g_26 a_27 := rLead_t (congrFun h_28 37) (h_30 27 (by decide)) (h_30 31 (by decide)) hrLead
  have h_34 : rSkill g_26 a_27 := rSkill_t (congrFun h_28 50) (h_30 38 (by decide)) hrSkill
  have h_35 : rSh g_26 a_27 := rSh_t (congrFun h_28 18) (congrFun h_28 26) (h_30 9 (by decide)) (h_30 10 (by decide)) (h_30 11 (by decide)) (h_30 12 (by decide)) (h_30 16 (by decide)) hrSh
  have h_36 : v_7 z0 0 = g_26 30 := h_10.trans (congrFun h_28 30).symm
  have h_37 : v_7 z0 11 = g_26 50 := h_11.trans (congrFun h_28 50).symm
  have h_38 : v_7 (v_7 z0 19) 1 = g_26 78 := h_12.trans (congrFun h_28 78).symm
  have h_39 : v_7 (v_7 z0 14) 5 = g_26 66 := h_16.trans (congrFun h_28 66).symm
  have h_40 : rSub v_7 z0 a_27 := rSub_m (h_30 60 (by decide)) h_20
  have h_41 : rHand v_7 z0 g_26 a_27 := rHand_m (congrFun h_28 50) (h_30 41 (by decide)) h_21
  have h_42 : rNews v_7 z0 g_26 a_27 := rNews_m (congrFun h_28 66) (h_30 51 (by decide)) (h_30 52 (by decide)) (h_30 53 (by decide)) (h_30 54 (by decide)) h_22
  obtain ⟨hP, hD⟩ := lsw hP hD
  refine lv_pop hx hb dL_law_992 rfl ?_
  refine lv_goto (tgt := 1804) hx hb dL_law_993 (by decide) ?_
  exact kk L K N v_7 g_26 a_27 _ _ H locs hz I_8 h_29 h_32 h_33 h_34 h_35 h_36 h_37 h_38 h_39 h_40 h_41 h_42 (by omega) (by omega) hP hD hS
set_option maxHeartbeats 4000000 in
set_option maxRecDepth 100000 in
theorem lc_22 {p : Program} {l : Launch} {e : Env} {s : State} {m : MethodId} {below : List Frame} {meth : Method} {c : Code} {b n : Nat} {xs : Nat → Int32} (C0 : lw_At p s m meth c b n xs) (hn : n ≤ 3072) {dC : Nat → ClassId} {dI : Nat → Nat → Nat} {am : Nat → Nat} {cm cid : Nat → ClassId} {tW : Nat} {sK sV : Nat → Nat} (hXx : xX tW sK sV (fun q : Nat => s.heap.size ≤ q) s s.heap) (hKx : va_K (dC, dI) vwCl (xT cid) s) (hKm : va_K (dC, dI) vwCl (mT cm) s) {z0 : Int} {i : Int} (hi0 : 0 ≤ i) (hi : i + 6 ≤ n) {L : List Nat} {K : Int → Nat} {N : Int → Int} {v : Int → Int → Int} {g : Nat → Int} {a : Nat → Int → Int} (hz : ok L K z0 12) (hI : xI L K N v) (hM : mI g a) (hrLine : rLine g a) (hrLead : rLead g a) (hrSkill : rSkill g a) (hrSh : rSh g a) (hnow : v z0 0 = g 30) (hhands : v z0 11 = g 50) (hstolen : v (v z0 19) 1 = g 78) (htold : v (v z0 14) 5 = g 66) (hsub : rSub v z0 a) (hhd : rHand v z0 g a) (hnw : rNews v z0 g a) {nc ns : Nat} (hc : nc + 5 ≤ 600000) (hs : ns + 12100 ≤ 7302250) {H : Heap} {locs : List Loc} {ls : Array Slot} (hP : va_P (dC, dI) vwCl (mG am cm g a ++ xG L cid K N v) H) (hD : va_D (fun q : Nat => s.heap.size ≤ q) (mG am cm g a ++ xG L cid K N v)) (hS : va_S (fun q : Nat => s.heap.size ≤ q) s.heap H locs) (hl : lv_has ls 4 [(3, .int (iI i)), (2, .ref (am 0)), (1, .ref z0.toNat), (0, .ref b)])
    (kk : ∀ (L : List Nat) (K : Int → Nat) (N : Int → Int) (v : Int → Int → Int) (g : Nat → Int) (a : Nat → Int → Int) (nc1 ns1 : Nat) (H : Heap) (locs : List Loc), ok L K z0 12 → xI L K N v → mI g a → rLine g a → rLead g a → rSkill g a → rSh g a → v z0 0 = g 30 → v z0 11 = g 50 → v (v z0 19) 1 = g 78 → v (v z0 14) 5 = g 66 → rSub v z0 a → rHand v z0 g a → rNews v z0 g a → nc1 ≤ nc + 5 → ns1 ≤ ns + 12100 → va_P (dC, dI) vwCl (mG am cm g a ++ xG L cid K N v) H → va_D (fun q : Nat => s.heap.size ≤ q) (mG am cm g a ++ xG L cid K N v) → va_S (fun q : Nat => s.heap.size ≤ q) s.heap H locs → W p l e room_1 s m #[Value.ref b] below meth c H locs nc1 ns1 (lw_Z below #[Value.ref b] s) (F0 m 1804 ls [])) : W p l e room_1 s m #[Value.ref b] below meth c H locs nc ns (lw_Z below #[Value.ref b] s) (F0 m 996 ls []) := by
  obtain ⟨hx, hb, hr, hml, hown, hts, hX9, hbl, hlocks, hgv⟩ := id C0
  have hA : ∀ q : Nat, s.heap.size ≤ q → (fun q : Nat => s.heap.size ≤ q) q := fun _ h => h
  have hbA : ¬ (fun q : Nat => s.heap.size ≤ q) b := Nat.not_le.mpr hbl
  refine lv_aload_n hx hb dL_law_996 rfl (lv_at hl 2 rfl) ?_
  refine lv_aload_n hx hb dL_law_997 rfl (lv_at hl 3 rfl) ?_
  refine lv_iload_n hx hb dL_law_998 rfl (lv_at hl 0 rfl) ?_
  refine lv_iconst (v := iI 1) hx hb dL_law_999 rfl ?_
  refine xr_add hx hb dL_law_1000 ?_
  refine va_sld hx hb hX9 hbl hbA hS (xvp (t := i + 1) (by omega) (by omega) hn) dL_law_1001 ?_
  obtain ⟨p_1, h_2, r_3⟩ : ∃ y : Int, xs (iI (i + 1)).toNatClampNeg = iI y ∧ rg y := ⟨_, iI_of _, rg_of _⟩
  refine jt_i (iI p_1) h_2 ?_
  have hPx := jp_tail hP
  have hDx := jd_tail hD
  refine jct_i (va_runV (As := [.int (iI p_1)]) (rest := []) ⟨hx, hb, hml, hown, hts⟩ (sX12_takers l dC dI _ L cid K N tW sK sV v z0 p_1 hI hz r_3) (cwV 1 hts (jgoodVL m_1525 m_1526 m_1527 m_873 m_1528) rfl rfl rfl (by decide +kernel) ⟨(Nat.le_of_ble_eq_true rfl), (Nat.le_of_ble_eq_true rfl)⟩) ⟨xP_blind, xrecv hKx hPx hz rfl rfl, fun U hU hW => ⟨rfl, xP_of hU hW hPx hKx hDx hXx hS (fun _ h => h) hA⟩⟩ rfl rfl hl.1 rfl (lv_room (Nat.le_of_ble_eq_true rfl)) dL_law_1002 ⟨(show nc + 0 ≤ 600000 by omega), (show ns + 0 ≤ 7302250 by omega)⟩) hP hD hS hA (fun r v_7 H locs w_5 hP hKx hD hS => ?_)
  obtain ⟨x_4, rfl, I_8, f_9, f_6⟩ := w_5
  have hP : va_P (dC, dI) vwCl (mG am cm g a ++ xG L cid K N v_7) H := hP
  have hD : va_D (fun q : Nat => s.heap.size ≤ q) (mG am cm g a ++ xG L cid K N v_7) := hD
  have h_10 : v_7 z0 0 = g 30 := (fr_use hz f_9 rfl).trans hnow
  have h_11 : v_7 z0 11 = g 50 := (fr_use hz f_9 rfl).trans hhands
  have h_13 : ok L K (v z0 19) 10 := xf_12_19 hI hz
  have b_14 : v_7 z0 19 = v z0 19 := fr_use hz f_9 rfl
  have b_15 : v_7 (v z0 19) 1 = v (v z0 19) 1 := fr_use h_13 f_9 rfl
  have h_12 : v_7 (v_7 z0 19) 1 = g 78 := by rw [b_14, b_15]; exact hstolen
  have h_17 : ok L K (v z0 14) 5 := xf_12_14 hI hz
  have b_18 : v_7 z0 14 = v z0 14 := fr_use hz f_9 rfl
  have b_19 : v_7 (v z0 14) 5 = v (v z0 14) 5 := fr_use h_17 f_9 rfl
  have h_16 : v_7 (v_7 z0 14) 5 = g 66 := by rw [b_18, b_19]; exact htold
  have h_20 : rSub v_7 z0 a := rSub_x hI hz (frE_of f_9) rfl (fun _ => rfl) hsub
  have h_21 : rHand v_7 z0 g a := rHand_x hI hz (frE_of f_9) rfl (fun _ => rfl) rfl hhd
  have h_22 : rNews v_7 z0 g a := rNews_x hI hz (frE_of f_9) rfl (fun _ => rfl) (fun _ => rfl) (fun _ => rfl) (fun _ => rfl) (fun _ => rfl) rfl rfl rfl rfl rfl hnw
  refine lv_pop hx hb dL_law_1005 rfl ?_
  refine lv_aload_n hx hb dL_law_1006 rfl (lv_at hl 1 rfl) ?_
  refine lv_aload_n hx hb dL_law_1007 rfl (lv_at hl 3 rfl) ?_
  refine lv_iload_n hx hb dL_law_1008 rfl (lv_at hl 0 rfl) ?_
  refine lv_iconst (v := iI 1) hx hb dL_law_1009 rfl ?_
  refine xr_add hx hb dL_law_1010 ?_
  refine va_sld hx hb hX9 hbl hbA hS (xvp (t := i + 1) (by omega) (by omega) hn) dL_law_1011 ?_
  refine jt_i (iI p_1) h_2 ?_
  obtain ⟨hP, hD⟩ := lsw hP hD
  have hPm := jp_tail hP
  have hDm := jd_tail hD
  refine jct_i (va_runV (As := [.int (iI p_1)]) (rest := []) ⟨hx, hb, hml, hown, hts⟩ (sX13_takers l dC dI _ am cm g a p_1 hM r_3 hrSh) (cwV 1 hts (jgoodVL m_1529 m_478 m_479 m_503 m_207) rfl rfl rfl (by decide +kernel) ⟨(Nat.le_of_ble_eq_true rfl), (Nat.le_of_ble_eq_true rfl)⟩) ⟨jw_blind, va_recv hKm hPm (ci := 13) (q0 := 0) rfl rfl, fun U hU hW => ⟨rfl, jw_of hU hW hPm hKm hDm⟩⟩ rfl rfl hl.1 rfl (lv_room (Nat.le_of_ble_eq_true rfl)) dL_law_1012 ⟨(show nc + 0 ≤ 600000 by omega), (show ns + 0 ≤ 7302250 by omega)⟩) hP hD hS hA (fun r u_25 H locs w_24 hP hKm hD hS => ?_)
  obtain ⟨g_26, a_27⟩ := u_25
  obtain ⟨y_23, rfl, h_28, h_29, h_30, h_31⟩ := w_24
  have hP : va_P (dC, dI) vwCl (xG L cid K N v_7 ++ mG am cm g_26 a_27) H := hP
  have hD : va_D (fun q : Nat => s.heap.size ≤ q) (xG L cid K N v_7 ++ mG am cm g_26 a_27) := hD
  have h_28 : g_26 = g := h_28
  have h_29 : mI g_26 a_27 := h_29
  have h_32 : rLine g_26 a_27 := rLine_t (congrFun h_28 56) (h_30 45 (by decide)) hrLine
  have h_33 : rLead g_26 a_27 := rLead_t (congrFun h_28 37) (h_30 27 (by decide)) (h_30 31 (by decide)) hrLead
  have h_34 : rSkill g_26 a_27 := rSkill_t (congrFun h_28 50) (h_30 38 (by decide)) hrSkill
  have h_35 : rSh g_26 a_27 := rSh_t (congrFun h_28 18) (congrFun h_28 26) (h_30 9 (by decide)) (h_30 10 (by decide)) (h_30 11 (by decide)) (h_30 12 (by decide)) (h_30 16 (by decide)) hrSh
  have h_36 : v_7 z0 0 = g_26 30 := h_10.trans (congrFun h_28 30).symm
  have h_37 : v_7 z0 11 = g_26 50 := h_11.trans (congrFun h_28 50).symm
  have h_38 : v_7 (v_7 z0 19) 1 = g_26 78 := h_12.trans (congrFun h_28 78).symm
  have h_39 : v_7 (v_7 z0 14) 5 = g_26 66 := h_16.trans (congrFun h_28 66).symm
  have h_40 : rSub v_7 z0 a_27 := rSub_m (h_30 60 (by decide)) h_20
  have h_41 : rHand v_7 z0 g_26 a_27 := rHand_m (congrFun h_28 50) (h_30 41 (by decide)) h_21
  have h_42 : rNews v_7 z0 g_26 a_27 := rNews_m (congrFun h_28 66) (h_30 51 (by decide)) (h_30 52 (by decide)) (h_30 53 (by decide)) (h_30 54 (by decide)) h_22
  obtain ⟨hP, hD⟩ := lsw hP hD
  refine lv_pop hx hb dL_law_1015 rfl ?_
  refine lv_goto (tgt := 1804) hx hb dL_law_1016 (by decide) ?_
  exact kk L K N v_7 g_26 a_27 _ _ H locs hz I_8 h_29 h_32 h_33 h_34 h_35 h_36 h_37 h_38 h_39 h_40 h_41 h_42 (by omega) (by omega) hP hD hS
set_option maxHeartbeats 4000000 in
set_option maxRecDepth 100000 in
theorem lc_23 {p : Program} {l : Launch} {e : Env} {s : State} {m : MethodId} {below : List Frame} {meth : Method} {c : Code} {b n : Nat} {xs : Nat → Int32} (C0 : lw_At p s m meth c b n xs) (hn : n ≤ 3072) {dC : Nat → ClassId} {dI : Nat → Nat → Nat} {am : Nat → Nat} {cm cid : Nat → ClassId} {tW : Nat} {sK sV : Nat → Nat} (hXx : xX tW sK sV (fun q : Nat => s.heap.size ≤ q) s s.heap) (hKx : va_K (dC, dI) vwCl (xT cid) s) (hKm : va_K (dC, dI) vwCl (mT cm) s) {z0 : Int} {i : Int} (hi0 : 0 ≤ i) (hi : i + 6 ≤ n) {L : List Nat} {K : Int → Nat} {N : Int → Int} {v : Int → Int → Int} {g : Nat → Int} {a : Nat → Int → Int} (hz : ok L K z0 12) (hI : xI L K N v) (hM : mI g a) (hrLine : rLine g a) (hrLead : rLead g a) (hrSkill : rSkill g a) (hrSh : rSh g a) (hnow : v z0 0 = g 30) (hhands : v z0 11 = g 50) (hstolen : v (v z0 19) 1 = g 78) (htold : v (v z0 14) 5 = g 66) (hsub : rSub v z0 a) (hhd : rHand v z0 g a) (hnw : rNews v z0 g a) {nc ns : Nat} (hc : nc + 5 ≤ 600000) (hs : ns + 12100 ≤ 7302250) {H : Heap} {locs : List Loc} {ls : Array Slot} (hP : va_P (dC, dI) vwCl (mG am cm g a ++ xG L cid K N v) H) (hD : va_D (fun q : Nat => s.heap.size ≤ q) (mG am cm g a ++ xG L cid K N v)) (hS : va_S (fun q : Nat => s.heap.size ≤ q) s.heap H locs) (hl : lv_has ls 4 [(3, .int (iI i)), (2, .ref (am 0)), (1, .ref z0.toNat), (0, .ref b)])
    (kk : ∀ (L : List Nat) (K : Int → Nat) (N : Int → Int) (v : Int → Int → Int) (g : Nat → Int) (a : Nat → Int → Int) (nc1 ns1 : Nat) (H : Heap) (locs : List Loc), ok L K z0 12 → xI L K N v → mI g a → rLine g a → rLead g a → rSkill g a → rSh g a → v z0 0 = g 30 → v z0 11 = g 50 → v (v z0 19) 1 = g 78 → v (v z0 14) 5 = g 66 → rSub v z0 a → rHand v z0 g a → rNews v z0 g a → nc1 ≤ nc + 5 → ns1 ≤ ns + 12100 → va_P (dC, dI) vwCl (mG am cm g a ++ xG L cid K N v) H → va_D (fun q : Nat => s.heap.size ≤ q) (mG am cm g a ++ xG L cid K N v) → va_S (fun q : Nat => s.heap.size ≤ q) s.heap H locs → W p l e room_1 s m #[Value.ref b] below meth c H locs nc1 ns1 (lw_Z below #[Value.ref b] s) (F0 m 1804 ls [])) : W p l e room_1 s m #[Value.ref b] below meth c H locs nc ns (lw_Z below #[Value.ref b] s) (F0 m 1019 ls []) := by
  obtain ⟨hx, hb, hr, hml, hown, hts, hX9, hbl, hlocks, hgv⟩ := id C0
  have hA : ∀ q : Nat, s.heap.size ≤ q → (fun q : Nat => s.heap.size ≤ q) q := fun _ h => h
  have hbA : ¬ (fun q : Nat => s.heap.size ≤ q) b := Nat.not_le.mpr hbl
  refine lv_aload_n hx hb dL_law_1019 rfl (lv_at hl 2 rfl) ?_
  refine lv_aload_n hx hb dL_law_1020 rfl (lv_at hl 3 rfl) ?_
  refine lv_iload_n hx hb dL_law_1021 rfl (lv_at hl 0 rfl) ?_
  refine lv_iconst (v := iI 1) hx hb dL_law_1022 rfl ?_
  refine xr_add hx hb dL_law_1023 ?_
  refine va_sld hx hb hX9 hbl hbA hS (xvp (t := i + 1) (by omega) (by omega) hn) dL_law_1024 ?_
  obtain ⟨p_1, h_2, r_3⟩ : ∃ y : Int, xs (iI (i + 1)).toNatClampNeg = iI y ∧ rg y := ⟨_, iI_of _, rg_of _⟩
  refine jt_i (iI p_1) h_2 ?_
  refine lv_aload_n hx hb dL_law_1025 rfl (lv_at hl 3 rfl) ?_
  refine lv_iload_n hx hb dL_law_1026 rfl (lv_at hl 0 rfl) ?_
  refine lv_iconst (v := iI 2) hx hb dL_law_1027 rfl ?_
  refine xr_add hx hb dL_law_1028 ?_
  refine va_sld hx hb hX9 hbl hbA hS (xvp (t := i + 2) (by omega) (by omega) hn) dL_law_1029 ?_
  obtain ⟨p_4, h_5, r_6⟩ : ∃ y : Int, xs (iI (i + 2)).toNatClampNeg = iI y ∧ rg y := ⟨_, iI_of _, rg_of _⟩
  refine jt_i (iI p_4) h_5 ?_
  refine lv_aload_n hx hb dL_law_1030 rfl (lv_at hl 3 rfl) ?_
  refine lv_iload_n hx hb dL_law_1031 rfl (lv_at hl 0 rfl) ?_
  refine lv_iconst (v := iI 3) hx hb dL_law_1032 rfl ?_
  refine xr_add hx hb dL_law_1033 ?_
  refine va_sld hx hb hX9 hbl hbA hS (xvp (t := i + 3) (by omega) (by omega) hn) dL_law_1034 ?_
  obtain ⟨p_7, h_8, r_9⟩ : ∃ y : Int, xs (iI (i + 3)).toNatClampNeg = iI y ∧ rg y := ⟨_, iI_of _, rg_of _⟩
  refine jt_i (iI p_7) h_8 ?_
  have hPx := jp_tail hP
  have hDx := jd_tail hD
  refine jct_i (va_runV (As := [.int (iI p_1), .int (iI p_4), .int (iI p_7)]) (rest := []) ⟨hx, hb, hml, hown, hts⟩ (sX12_tell l dC dI _ L cid K N tW sK sV v z0 p_1 p_4 p_7 hI hz r_3 r_6 r_9) (cwV 3 hts (jgoodVL m_1530 m_1531 m_1532 m_873 m_1533) rfl rfl rfl (by decide +kernel) ⟨(Nat.le_of_ble_eq_true rfl), (Nat.le_of_ble_eq_true rfl)⟩) ⟨xP_blind, xrecv hKx hPx hz rfl rfl, fun U hU hW => ⟨rfl, xP_of hU hW hPx hKx hDx hXx hS (fun _ h => h) hA⟩⟩ rfl rfl hl.1 rfl (lv_room (Nat.le_of_ble_eq_true rfl)) dL_law_1035 ⟨(show nc + 0 ≤ 600000 by omega), (show ns + 0 ≤ 7302250 by omega)⟩) hP hD hS hA (fun r v_16 H locs w_11 hP hKx hD hS => ?_)
  obtain ⟨x_10, rfl, I_17, f_18, f_12, f_13, f_14, f_15⟩ := w_11
  have hP : va_P (dC, dI) vwCl (mG am cm g a ++ xG L cid K N v_16) H := hP
  have hD : va_D (fun q : Nat => s.heap.size ≤ q) (mG am cm g a ++ xG L cid K N v_16) := hD
  have f_13 : (x_10 = 0 ∧ v_16 (v_16 z0 14) 5 = v (v z0 14) 5 ∧ ((p_1 < 0 ∨ 40 ≤ p_1 ∨ p_4 < 0 ∨ 999 < p_4 ∨ p_7 < 0) ∨ v (v z0 14) 5 < 0 ∨ 600 ≤ v (v z0 14) 5)) ∨ (x_10 = 1 ∧ v_16 (v_16 z0 14) 5 = v (v z0 14) 5 + 1 ∧ 0 ≤ p_1 ∧ p_1 < 40 ∧ 0 ≤ p_4 ∧ p_4 ≤ 999 ∧ 0 ≤ p_7 ∧ 0 ≤ v (v z0 14) 5 ∧ v (v z0 14) 5 < 600) := f_13
  have f_14 : iF (x_10 = 0) (v_16 = v) := f_14
  have f_15 : iF (x_10 = 1) (v_16 = vu (vu (vu (vu (vu (vu v (v (v z0 14) 1) (v (v z0 14) 5) p_4) (v (v z0 14) 2) (v (v z0 14) 5) p_7) (v (v z0 14) 3) (v (v z0 14) 5) (v z0 0)) (v (v z0 14) 4) (v (v z0 14) 5) (v (v (v z0 14) 0) p_1)) (v (v z0 14) 0) p_1 (v (v z0 14) 5)) (v z0 14) 5 (v (v z0 14) 5 + 1)) := f_15
  have h_19 : v_16 z0 0 = g 30 := (fr_use hz f_18 rfl).trans hnow
  have h_20 : v_16 z0 11 = g 50 := (fr_use hz f_18 rfl).trans hhands
  have h_22 : ok L K (v z0 19) 10 := xf_12_19 hI hz
  have b_23 : v_16 z0 19 = v z0 19 := fr_use hz f_18 rfl
  have b_24 : v_16 (v z0 19) 1 = v (v z0 19) 1 := fr_use h_22 f_18 rfl
  have h_21 : v_16 (v_16 z0 19) 1 = g 78 := by rw [b_23, b_24]; exact hstolen
  have h_25 : rSub v_16 z0 a := rSub_x hI hz (frE_of f_18) rfl (fun _ => rfl) hsub
  have h_26 : rHand v_16 z0 g a := rHand_x hI hz (frE_of f_18) rfl (fun _ => rfl) rfl hhd
  refine lv_pop hx hb dL_law_1038 rfl ?_
  refine lv_aload_n hx hb dL_law_1039 rfl (lv_at hl 1 rfl) ?_
  refine lv_aload_n hx hb dL_law_1040 rfl (lv_at hl 3 rfl) ?_
  refine lv_iload_n hx hb dL_law_1041 rfl (lv_at hl 0 rfl) ?_
  refine lv_iconst (v := iI 1) hx hb dL_law_1042 rfl ?_
  refine xr_add hx hb dL_law_1043 ?_
  refine va_sld hx hb hX9 hbl hbA hS (xvp (t := i + 1) (by omega) (by omega) hn) dL_law_1044 ?_
  refine jt_i (iI p_1) h_2 ?_
  refine lv_aload_n hx hb dL_law_1045 rfl (lv_at hl 3 rfl) ?_
  refine lv_iload_n hx hb dL_law_1046 rfl (lv_at hl 0 rfl) ?_
  refine lv_iconst (v := iI 2) hx hb dL_law_1047 rfl ?_
  refine xr_add hx hb dL_law_1048 ?_
  refine va_sld hx hb hX9 hbl hbA hS (xvp (t := i + 2) (by omega) (by omega) hn) dL_law_1049 ?_
  refine jt_i (iI p_4) h_5 ?_
  refine lv_aload_n hx hb dL_law_1050 rfl (lv_at hl 3 rfl) ?_
  refine lv_iload_n hx hb dL_law_1051 rfl (lv_at hl 0 rfl) ?_
  refine lv_iconst (v := iI 3) hx hb dL_law_1052 rfl ?_
  refine xr_add hx hb dL_law_1053 ?_
  refine va_sld hx hb hX9 hbl hbA hS (xvp (t := i + 3) (by omega) (by omega) hn) dL_law_1054 ?_
  refine jt_i (iI p_7) h_8 ?_
  obtain ⟨hP, hD⟩ := lsw hP hD
  have hPm := jp_tail hP
  have hDm := jd_tail hD
  refine jct_i (va_runV (As := [.int (iI p_1), .int (iI p_4), .int (iI p_7)]) (rest := []) ⟨hx, hb, hml, hown, hts⟩ (sX13_tell l dC dI _ am cm g a p_1 p_4 p_7 hM r_3 r_6 r_9) (cwV 3 hts (jgoodVL m_1534 m_482 m_483 m_503 m_209) rfl rfl rfl (by decide +kernel) ⟨(Nat.le_of_ble_eq_true rfl), (Nat.le_of_ble_eq_true rfl)⟩) ⟨jw_blind, va_recv hKm hPm (ci := 13) (q0 := 0) rfl rfl, fun U hU hW => ⟨rfl, jw_of hU hW hPm hKm hDm⟩⟩ rfl rfl hl.1 rfl (lv_room (Nat.le_of_ble_eq_true rfl)) dL_law_1055 ⟨(show nc + 0 ≤ 600000 by omega), (show ns + 0 ≤ 7302250 by omega)⟩) hP hD hS hA (fun r u_29 H locs w_28 hP hKm hD hS => ?_)
  obtain ⟨g_30, a_31⟩ := u_29
  obtain ⟨y_27, rfl, h_32, h_33, h_34, h_35, h_36, h_37, h_38, h_39, h_40, h_41, h_42, h_43, h_44⟩ := w_28
  have hP : va_P (dC, dI) vwCl (xG L cid K N v_16 ++ mG am cm g_30 a_31) H := hP
  have hD : va_D (fun q : Nat => s.heap.size ≤ q) (xG L cid K N v_16 ++ mG am cm g_30 a_31) := hD
  have h_32 : mI g_30 a_31 := h_32
  have h_36 : (y_27 = 0 ∧ g_30 66 = g 66 ∧ ((p_1 < 0 ∨ 40 ≤ p_1 ∨ p_4 < 0 ∨ 999 < p_4 ∨ p_7 < 0) ∨ g 66 = 600)) ∨ (y_27 = 1 ∧ g_30 66 = g 66 + 1 ∧ 0 ≤ p_1 ∧ p_1 < 40 ∧ 0 ≤ p_4 ∧ p_4 ≤ 999 ∧ 0 ≤ p_7 ∧ g 66 ≠ 600) := h_36
  have h_37 : oF (y_27 = 1) (a_31 51 = a 51) := h_37
  have h_38 : oF (y_27 = 0) (a_31 51 = up (a 51) (g 66) p_1) := h_38
  have h_39 : oF (y_27 = 1) (a_31 52 = a 52) := h_39
  have h_40 : oF (y_27 = 0) (a_31 52 = up (a 52) (g 66) p_4) := h_40
  have h_41 : oF (y_27 = 1) (a_31 53 = a 53) := h_41
  have h_42 : oF (y_27 = 0) (a_31 53 = up (a 53) (g 66) p_7) := h_42
  have h_43 : oF (y_27 = 1) (a_31 54 = a 54) := h_43
  have h_44 : oF (y_27 = 0) (a_31 54 = up (a 54) (g 66) (g 30)) := h_44
  have h_45 : rLine g_30 a_31 := rLine_t (h_33 56 (by decide)) (h_34 45 (by decide)) hrLine
  have h_46 : rLead g_30 a_31 := rLead_t (h_33 37 (by decide)) (h_34 27 (by decide)) (h_34 31 (by decide)) hrLead
  have h_47 : rSkill g_30 a_31 := rSkill_t (h_33 50 (by decide)) (h_34 38 (by decide)) hrSkill
  have h_48 : rSh g_30 a_31 := rSh_t (h_33 18 (by decide)) (h_33 26 (by decide)) (h_34 9 (by decide)) (h_34 10 (by decide)) (h_34 11 (by decide)) (h_34 12 (by decide)) (h_34 16 (by decide)) hrSh
  have h_49 : v_16 z0 0 = g_30 30 := h_19.trans (h_33 30 (by decide)).symm
  have h_50 : v_16 z0 11 = g_30 50 := h_20.trans (h_33 50 (by decide)).symm
  have h_51 : v_16 (v_16 z0 19) 1 = g_30 78 := h_21.trans (h_33 78 (by decide)).symm
  have b_53 := hM.1 66
  have b_53 : 0 ≤ g 66 ∧ g 66 ≤ 600 := b_53
  have h_52 : v_16 (v_16 z0 14) 5 = g_30 66 := by omega
  have h_54 : rSub v_16 z0 a_31 := rSub_m (h_34 60 (by decide)) h_25
  have h_55 : rHand v_16 z0 g_30 a_31 := rHand_m (h_33 50 (by decide)) (h_34 41 (by decide)) h_26
  have h_56 : rNews v_16 z0 g_30 a_31 := by
    have i4 : 0 ≤ g 66 ∧ g 66 ≤ 600 := hM.1 66
    have r8 : y_27 = x_10 := by omega
    rcases (show x_10 = 0 ∨ x_10 = 1 by omega) with q9 | q9
    · rw [f_14 q9]; exact rNews_m (by omega) ((h_37).resolve_left (by omega)) ((h_39).resolve_left (by omega)) ((h_41).resolve_left (by omega)) ((h_43).resolve_left (by omega)) hnw
    · exact rNews_new hI hz (f_15 q9) htold (by omega) (by omega) ((h_38).resolve_left (by omega)) ((h_40).resolve_left (by omega)) ((h_42).resolve_left (by omega)) (((h_44).resolve_left (by omega)).trans (by rw [hnow])) (by omega) (by omega) hnw
  obtain ⟨hP, hD⟩ := lsw hP hD
  refine lv_pop hx hb dL_law_1058 rfl ?_
  refine lv_goto (tgt := 1804) hx hb dL_law_1059 (by decide) ?_
  exact kk L K N v_16 g_30 a_31 _ _ H locs hz I_17 h_32 h_45 h_46 h_47 h_48 h_49 h_50 h_51 h_52 h_54 h_55 h_56 (by omega) (by omega) hP hD hS
set_option maxHeartbeats 4000000 in
set_option maxRecDepth 100000 in
theorem lc_24 {p : Program} {l : Launch} {e : Env} {s : State} {m : MethodId} {below : List Frame} {meth : Method} {c : Code} {b n : Nat} {xs : Nat → Int32} (C0 : lw_At p s m meth c b n xs) (hn : n ≤ 3072) {dC : Nat → ClassId} {dI : Nat → Nat → Nat} {am : Nat → Nat} {cm cid : Nat → ClassId} {tW : Nat} {sK sV : Nat → Nat} (hXx : xX tW sK sV (fun q : Nat => s.heap.size ≤ q) s s.heap) (hKx : va_K (dC, dI) vwCl (xT cid) s) (hKm : va_K (dC, dI) vwCl (mT cm) s) {z0 : Int} {i : Int} (hi0 : 0 ≤ i) (hi : i + 6 ≤ n) {L : List Nat} {K : Int → Nat} {N : Int → Int} {v : Int → Int → Int} {g : Nat → Int} {a : Nat → Int → Int} (hz : ok L K z0 12) (hI : xI L K N v) (hM : mI g a) (hrLine : rLine g a) (hrLead : rLead g a) (hrSkill : rSkill g a) (hrSh : rSh g a) (hnow : v z0 0 = g 30) (hhands : v z0 11 = g 50) (hstolen : v (v z0 19) 1 = g 78) (htold : v (v z0 14) 5 = g 66) (hsub : rSub v z0 a) (hhd : rHand v z0 g a) (hnw : rNews v z0 g a) {nc ns : Nat} (hc : nc + 5 ≤ 600000) (hs : ns + 12100 ≤ 7302250) {H : Heap} {locs : List Loc} {ls : Array Slot} (hP : va_P (dC, dI) vwCl (mG am cm g a ++ xG L cid K N v) H) (hD : va_D (fun q : Nat => s.heap.size ≤ q) (mG am cm g a ++ xG L cid K N v)) (hS : va_S (fun q : Nat => s.heap.size ≤ q) s.heap H locs) (hl : lv_has ls 4 [(3, .int (iI i)), (2, .ref (am 0)), (1, .ref z0.toNat), (0, .ref b)])
    (kk : ∀ (L : List Nat) (K : Int → Nat) (N : Int → Int) (v : Int → Int → Int) (g : Nat → Int) (a : Nat → Int → Int) (nc1 ns1 : Nat) (H : Heap) (locs : List Loc), ok L K z0 12 → xI L K N v → mI g a → rLine g a → rLead g a → rSkill g a → rSh g a → v z0 0 = g 30 → v z0 11 = g 50 → v (v z0 19) 1 = g 78 → v (v z0 14) 5 = g 66 → rSub v z0 a → rHand v z0 g a → rNews v z0 g a → nc1 ≤ nc + 5 → ns1 ≤ ns + 12100 → va_P (dC, dI) vwCl (mG am cm g a ++ xG L cid K N v) H → va_D (fun q : Nat => s.heap.size ≤ q) (mG am cm g a ++ xG L cid K N v) → va_S (fun q : Nat => s.heap.size ≤ q) s.heap H locs → W p l e room_1 s m #[Value.ref b] below meth c H locs nc1 ns1 (lw_Z below #[Value.ref b] s) (F0 m 1804 ls [])) : W p l e room_1 s m #[Value.ref b] below meth c H locs nc ns (lw_Z below #[Value.ref b] s) (F0 m 1062 ls []) := by
  obtain ⟨hx, hb, hr, hml, hown, hts, hX9, hbl, hlocks, hgv⟩ := id C0
  have hA : ∀ q : Nat, s.heap.size ≤ q → (fun q : Nat => s.heap.size ≤ q) q := fun _ h => h
  have hbA : ¬ (fun q : Nat => s.heap.size ≤ q) b := Nat.not_le.mpr hbl
  refine lv_aload_n hx hb dL_law_1062 rfl (lv_at hl 2 rfl) ?_
  refine lv_aload_n hx hb dL_law_1063 rfl (lv_at hl 3 rfl) ?_
  refine lv_iload_n hx hb dL_law_1064 rfl (lv_at hl 0 rfl) ?_
  refine lv_iconst (v := iI 1) hx hb dL_law_1065 rfl ?_
  refine xr_add hx hb dL_law_1066 ?_
  refine va_sld hx hb hX9 hbl hbA hS (xvp (t := i + 1) (by omega) (by omega) hn) dL_law_1067 ?_
  obtain ⟨p_1, h_2, r_3⟩ : ∃ y : Int, xs (iI (i + 1)).toNatClampNeg = iI y ∧ rg y := ⟨_, iI_of _, rg_of _⟩
  refine jt_i (iI p_1) h_2 ?_
  refine lv_aload_n hx hb dL_law_1068 rfl (lv_at hl 3 rfl) ?_
  refine lv_iload_n hx hb dL_law_1069 rfl (lv_at hl 0 rfl) ?_
  refine lv_iconst (v := iI 2) hx hb dL_law_1070 rfl ?_
  refine xr_add hx hb dL_law_1071 ?_
  refine va_sld hx hb hX9 hbl hbA hS (xvp (t := i + 2) (by omega) (by omega) hn) dL_law_1072 ?_
  obtain ⟨p_4, h_5, r_6⟩ : ∃ y : Int, xs (iI (i + 2)).toNatClampNeg = iI y ∧ rg y := ⟨_, iI_of _, rg_of _⟩
  refine jt_i (iI p_4) h_5 ?_
  refine lv_aload_n hx hb dL_law_1073 rfl (lv_at hl 3 rfl) ?_
  refine lv_iload_n hx hb dL_law_1074 rfl (lv_at hl 0 rfl) ?_
  refine lv_iconst (v := iI 3) hx hb dL_law_1075 rfl ?_
  refine xr_add hx hb dL_law_1076 ?_
  refine va_sld hx hb hX9 hbl hbA hS (xvp (t := i + 3) (by omega) (by omega) hn) dL_law_1077 ?_
  obtain ⟨p_7, h_8, r_9⟩ : ∃ y : Int, xs (iI (i + 3)).toNatClampNeg = iI y ∧ rg y := ⟨_, iI_of _, rg_of _⟩
  refine jt_i (iI p_7) h_8 ?_
  have hPx := jp_tail hP
  have hDx := jd_tail hD
  refine jc_i (va_runV (As := [.int (iI p_1), .int (iI p_4), .int (iI p_7)]) (rest := []) ⟨hx, hb, hml, hown, hts⟩ (sX12_known l dC dI _ L cid K N tW sK sV v z0 p_1 p_4 p_7 hI hz r_3 r_6 r_9) (cwV 3 hts (jgoodVL m_1535 m_1536 m_1537 m_873 m_1538) rfl rfl rfl (by decide +kernel) ⟨(Nat.le_of_ble_eq_true rfl), (Nat.le_of_ble_eq_true rfl)⟩) ⟨xP_blind, xrecv hKx hPx hz rfl rfl, fun U hU hW => ⟨rfl, xP_of hU hW hPx hKx hDx hXx hS (fun _ h => h) hA⟩⟩ rfl rfl hl.1 rfl (lv_room (Nat.le_of_ble_eq_true rfl)) dL_law_1078 ⟨(show nc + 0 ≤ 600000 by omega), (show ns + 0 ≤ 7302250 by omega)⟩) hP hS hA (fun r H locs w_11 hP hS => ?_)
  obtain ⟨x_10, rfl, f_12, f_13, f_14, f_15⟩ := w_11
  refine lv_pop hx hb dL_law_1081 rfl ?_
  refine lv_aload_n hx hb dL_law_1082 rfl (lv_at hl 1 rfl) ?_
  refine lv_aload_n hx hb dL_law_1083 rfl (lv_at hl 3 rfl) ?_
  refine lv_iload_n hx hb dL_law_1084 rfl (lv_at hl 0 rfl) ?_
  refine lv_iconst (v := iI 1) hx hb dL_law_1085 rfl ?_
  refine xr_add hx hb dL_law_1086 ?_
  refine va_sld hx hb hX9 hbl hbA hS (xvp (t := i + 1) (by omega) (by omega) hn) dL_law_1087 ?_
  refine jt_i (iI p_1) h_2 ?_
  refine lv_aload_n hx hb dL_law_1088 rfl (lv_at hl 3 rfl) ?_
  refine lv_iload_n hx hb dL_law_1089 rfl (lv_at hl 0 rfl) ?_
  refine lv_iconst (v := iI 2) hx hb dL_law_1090 rfl ?_
  refine xr_add hx hb dL_law_1091 ?_
  refine va_sld hx hb hX9 hbl hbA hS (xvp (t := i + 2) (by omega) (by omega) hn) dL_law_1092 ?_
  refine jt_i (iI p_4) h_5 ?_
  refine lv_aload_n hx hb dL_law_1093 rfl (lv_at hl 3 rfl) ?_
  refine lv_iload_n hx hb dL_law_1094 rfl (lv_at hl 0 rfl) ?_
  refine lv_iconst (v := iI 3) hx hb dL_law_1095 rfl ?_
  refine xr_add hx hb dL_law_1096 ?_
  refine va_sld hx hb hX9 hbl hbA hS (xvp (t := i + 3) (by omega) (by omega) hn) dL_law_1097 ?_
  refine jt_i (iI p_7) h_8 ?_
  obtain ⟨hP, hD⟩ := lsw hP hD
  have hPm := jp_tail hP
  have hDm := jd_tail hD
  refine jc_i (va_runV (As := [.int (iI p_1), .int (iI p_4), .int (iI p_7)]) (rest := []) ⟨hx, hb, hml, hown, hts⟩ (sX13_known l dC dI _ am cm g a p_1 p_4 p_7 hM r_3 r_6 r_9) (cwV 3 hts (jgoodVL m_1539 m_402 m_403 m_503 m_168) rfl rfl rfl (by decide +kernel) ⟨(Nat.le_of_ble_eq_true rfl), (Nat.le_of_ble_eq_true rfl)⟩) ⟨jw_blind, va_recv hKm hPm (ci := 13) (q0 := 0) rfl rfl, fun U hU hW => ⟨rfl, jw_of hU hW hPm hKm hDm⟩⟩ rfl rfl hl.1 rfl (lv_room (Nat.le_of_ble_eq_true rfl)) dL_law_1098 ⟨(show nc + 0 ≤ 600000 by omega), (show ns + 0 ≤ 7302250 by omega)⟩) hP hS hA (fun r H locs w_17 hP hS => ?_)
  obtain ⟨y_16, rfl, h_18, h_19, h_20, h_21⟩ := w_17
  have i9 := fun h0 h1 => rNews_val (f := p_1) (d := p_4) hnw (hM.1 66) h0 h1 52 (v (v z0 14) 1) (fun k k0 k1 => (hnw.1 k k0 k1).1)
  have i8 := fun h0 h1 => rNews_val (f := p_1) (d := p_4) hnw (hM.1 66) h0 h1 53 (v (v z0 14) 2) (fun k k0 k1 => (hnw.1 k k0 k1).2.1)
  have i7 := fun h => vat_no (x := v (v (v z0 14) 3)) (y := v (v (v z0 14) 4)) (l := v (v (v z0 14) 0)) (w := v (v (v z0 14) 1)) (f := p_1) (d := p_4) h
  have i6 := fun h => vat_no (x := v (v (v z0 14) 3)) (y := v (v (v z0 14) 4)) (l := v (v (v z0 14) 0)) (w := v (v (v z0 14) 2)) (f := p_1) (d := p_4) h
  obtain ⟨hP, hD⟩ := lsw hP hD
  refine lv_pop hx hb dL_law_1101 rfl ?_
  refine lv_goto (tgt := 1804) hx hb dL_law_1102 (by decide) ?_
  exact kk L K N v g a _ _ H locs hz hI hM hrLine hrLead hrSkill hrSh hnow hhands hstolen htold hsub hhd hnw (by omega) (by omega) hP hD hS
