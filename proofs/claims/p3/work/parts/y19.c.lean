set_option maxHeartbeats 4000000 in
set_option maxRecDepth 100000 in
theorem lc_31 {p : Program} {l : Launch} {e : Env} {s : State} {m : MethodId} {below : List Frame} {meth : Method} {c : Code} {b n : Nat} {xs : Nat → Int32} (C0 : lw_At p s m meth c b n xs) (hn : n ≤ 3072) {dC : Nat → ClassId} {dI : Nat → Nat → Nat} {am : Nat → Nat} {cm cid : Nat → ClassId} {tW : Nat} {sK sV : Nat → Nat} (hXx : xX tW sK sV (fun q : Nat => s.heap.size ≤ q) s s.heap) (hKx : va_K (dC, dI) vwCl (xT cid) s) (hKm : va_K (dC, dI) vwCl (mT cm) s) {z0 : Int} {i : Int} (hi0 : 0 ≤ i) (hi : i + 6 ≤ n) {L : List Nat} {K : Int → Nat} {N : Int → Int} {v : Int → Int → Int} {g : Nat → Int} {a : Nat → Int → Int} (hz : ok L K z0 12) (hI : xI L K N v) (hM : mI g a) (hrLine : rLine g a) (hrLead : rLead g a) (hrSkill : rSkill g a) (hrSh : rSh g a) (hnow : v z0 0 = g 30) (hhands : v z0 11 = g 50) (hstolen : v (v z0 19) 1 = g 78) (htold : v (v z0 14) 5 = g 66) (hsize : v (v z0 2) 1 = g 1) (hsheets : v (v z0 3) 1 = g 18) (hsub : rSub v z0 a) (hhd : rHand v z0 g a) (hnw : rNews v z0 g a) (htx : rTxt v z0 g a) {nc ns : Nat} (hc : nc + 5 ≤ 600000) (hs : ns + 12100 ≤ 7302250) {H : Heap} {locs : List Loc} {ls : Array Slot} (hP : va_P (dC, dI) vwCl (mG am cm g a ++ xG L cid K N v) H) (hD : va_D (fun q : Nat => s.heap.size ≤ q) (mG am cm g a ++ xG L cid K N v)) (hS : va_S (fun q : Nat => s.heap.size ≤ q) s.heap H locs) (hl : lv_has ls 4 [(3, .int (iI i)), (2, .ref (am 0)), (1, .ref z0.toNat), (0, .ref b)])
    (kk : ∀ (L : List Nat) (K : Int → Nat) (N : Int → Int) (v : Int → Int → Int) (g : Nat → Int) (a : Nat → Int → Int) (nc1 ns1 : Nat) (H : Heap) (locs : List Loc), ok L K z0 12 → xI L K N v → mI g a → rLine g a → rLead g a → rSkill g a → rSh g a → v z0 0 = g 30 → v z0 11 = g 50 → v (v z0 19) 1 = g 78 → v (v z0 14) 5 = g 66 → v (v z0 2) 1 = g 1 → v (v z0 3) 1 = g 18 → rSub v z0 a → rHand v z0 g a → rNews v z0 g a → rTxt v z0 g a → nc1 ≤ nc + 5 → ns1 ≤ ns + 12100 → va_P (dC, dI) vwCl (mG am cm g a ++ xG L cid K N v) H → va_D (fun q : Nat => s.heap.size ≤ q) (mG am cm g a ++ xG L cid K N v) → va_S (fun q : Nat => s.heap.size ≤ q) s.heap H locs → W p l e room_1 s m #[Value.ref b] below meth c H locs nc1 ns1 (lw_Z below #[Value.ref b] s) (F0 m 1804 ls [])) : W p l e room_1 s m #[Value.ref b] below meth c H locs nc ns (lw_Z below #[Value.ref b] s) (F0 m 1283 ls []) := by
  obtain ⟨hx, hb, hr, hml, hown, hts, hX9, hbl, hlocks, hgv⟩ := id C0
  have hA : ∀ q : Nat, s.heap.size ≤ q → (fun q : Nat => s.heap.size ≤ q) q := fun _ h => h
  have hbA : ¬ (fun q : Nat => s.heap.size ≤ q) b := Nat.not_le.mpr hbl
  refine lv_aload_n hx hb dL_law_1283 rfl (lv_at hl 2 rfl) ?_
  refine lv_aload_n hx hb dL_law_1284 rfl (lv_at hl 3 rfl) ?_
  refine lv_iload_n hx hb dL_law_1285 rfl (lv_at hl 0 rfl) ?_
  refine lv_iconst (v := iI 1) hx hb dL_law_1286 rfl ?_
  refine xr_add hx hb dL_law_1287 ?_
  refine va_sld hx hb hX9 hbl hbA hS (xvp (t := i + 1) (by omega) (by omega) hn) dL_law_1288 ?_
  obtain ⟨p_1, h_2, r_3⟩ : ∃ y : Int, xs (iI (i + 1)).toNatClampNeg = iI y ∧ rg y := ⟨_, iI_of _, rg_of _⟩
  refine jt_i (iI p_1) h_2 ?_
  have hPx := jp_tail hP
  have hDx := jd_tail hD
  refine jct_i (va_runV (As := [.int (iI p_1)]) (rest := []) ⟨hx, hb, hml, hown, hts⟩ (sX12_set l dC dI _ L cid K N tW sK sV v z0 p_1 hI hz r_3) (cwV 1 hts (jgoodVL m_1570 m_1571 m_1572 m_873 m_1573) rfl rfl rfl (by decide +kernel) ⟨(Nat.le_of_ble_eq_true rfl), (Nat.le_of_ble_eq_true rfl)⟩) ⟨xP_blind, xrecv hKx hPx hz rfl rfl, fun U hU hW => ⟨rfl, xP_of hU hW hPx hKx hDx hXx hS (fun _ h => h) hA⟩⟩ rfl rfl hl.1 rfl (lv_room (Nat.le_of_ble_eq_true rfl)) dL_law_1289 ⟨(show nc + 2 ≤ 600000 by omega), (show ns + 12060 ≤ 7302250 by omega)⟩) hP hD hS hA (fun r u_7 H locs w_5 hP hKx hD hS => ?_)
  obtain ⟨L_8, K_9, N_10, v_11⟩ := u_7
  obtain ⟨x_4, rfl, I_12, E_13, f_14, f_6⟩ := w_5
  have hP : va_P (dC, dI) vwCl (mG am cm g a ++ xG L_8 cid K_9 N_10 v_11) H := hP
  have hD : va_D (fun q : Nat => s.heap.size ≤ q) (mG am cm g a ++ xG L_8 cid K_9 N_10 v_11) := hD
  have I_12 : xI L_8 K_9 N_10 v_11 := I_12
  have E_13 : xE L K N L_8 K_9 N_10 := E_13
  have f_14 : frE L K [(0, 5), (0, 12), (0, 13), (4, 7), (6, 1), (6, 2), (6, 3), (6, 4), (6, 5), (11, 1), (11, 2), (11, 3), (11, 4), (11, 5), (11, 6), (12, 1), (12, 9), (33, (-1)), (34, (-1)), (37, (-1)), (63, (-1)), (64, (-1)), (99, 0)] v_11 v := f_14
  have h_16 : v_11 z0 0 = g 30 := (frE_use hz f_14 rfl).trans hnow
  have h_17 : v_11 z0 11 = g 50 := (frE_use hz f_14 rfl).trans hhands
  have h_19 : ok L K (v z0 19) 10 := xf_12_19 hI hz
  have b_20 : v_11 z0 19 = v z0 19 := frE_use hz f_14 rfl
  have b_21 : v_11 (v z0 19) 1 = v (v z0 19) 1 := frE_use h_19 f_14 rfl
  have h_18 : v_11 (v_11 z0 19) 1 = g 78 := by rw [b_20, b_21]; exact hstolen
  have h_23 : ok L K (v z0 14) 5 := xf_12_14 hI hz
  have b_24 : v_11 z0 14 = v z0 14 := frE_use hz f_14 rfl
  have b_25 : v_11 (v z0 14) 5 = v (v z0 14) 5 := frE_use h_23 f_14 rfl
  have h_22 : v_11 (v_11 z0 14) 5 = g 66 := by rw [b_24, b_25]; exact htold
  have h_27 : ok L K (v z0 2) 7 := xf_12_2 hI hz
  have b_28 : v_11 z0 2 = v z0 2 := frE_use hz f_14 rfl
  have b_29 : v_11 (v z0 2) 1 = v (v z0 2) 1 := frE_use h_27 f_14 rfl
  have h_26 : v_11 (v_11 z0 2) 1 = g 1 := by rw [b_28, b_29]; exact hsize
  have h_31 : ok L K (v z0 3) 8 := xf_12_3 hI hz
  have b_32 : v_11 z0 3 = v z0 3 := frE_use hz f_14 rfl
  have b_33 : v_11 (v z0 3) 1 = v (v z0 3) 1 := frE_use h_31 f_14 rfl
  have h_30 : v_11 (v_11 z0 3) 1 = g 18 := by rw [b_32, b_33]; exact hsheets
  have h_34 : rSub v_11 z0 a := rSub_x hI hz f_14 rfl (fun _ => rfl) hsub
  have h_35 : rHand v_11 z0 g a := rHand_x hI hz f_14 rfl (fun _ => rfl) rfl hhd
  have h_36 : rNews v_11 z0 g a := rNews_x hI hz f_14 rfl (fun _ => rfl) (fun _ => rfl) (fun _ => rfl) (fun _ => rfl) (fun _ => rfl) rfl rfl rfl rfl rfl hnw
  have h_37 : rTxt v_11 z0 g a := rTxt_x hI hz f_14 rfl rfl rfl (fun _ => rfl) htx
  have h_15 := xE_ok E_13 hz
  refine lv_pop hx hb dL_law_1292 rfl ?_
  refine lv_aload_n hx hb dL_law_1293 rfl (lv_at hl 1 rfl) ?_
  refine lv_aload_n hx hb dL_law_1294 rfl (lv_at hl 3 rfl) ?_
  refine lv_iload_n hx hb dL_law_1295 rfl (lv_at hl 0 rfl) ?_
  refine lv_iconst (v := iI 1) hx hb dL_law_1296 rfl ?_
  refine xr_add hx hb dL_law_1297 ?_
  refine va_sld hx hb hX9 hbl hbA hS (xvp (t := i + 1) (by omega) (by omega) hn) dL_law_1298 ?_
  refine jt_i (iI p_1) h_2 ?_
  obtain ⟨hP, hD⟩ := lsw hP hD
  have hPm := jp_tail hP
  have hDm := jd_tail hD
  refine jct_i (va_runV (As := [.int (iI p_1)]) (rest := []) ⟨hx, hb, hml, hown, hts⟩ (sX13_set l dC dI _ am cm g a p_1 hM r_3 hrSh) (cwV 1 hts (jgoodVL m_1574 m_460 m_461 m_503 m_198) rfl rfl rfl (by decide +kernel) ⟨(Nat.le_of_ble_eq_true rfl), (Nat.le_of_ble_eq_true rfl)⟩) ⟨jw_blind, va_recv hKm hPm (ci := 13) (q0 := 0) rfl rfl, fun U hU hW => ⟨rfl, jw_of hU hW hPm hKm hDm⟩⟩ rfl rfl hl.1 rfl (lv_room (Nat.le_of_ble_eq_true rfl)) dL_law_1299 ⟨(show nc + 2 + 0 ≤ 600000 by omega), (show ns + 12060 + 0 ≤ 7302250 by omega)⟩) hP hD hS hA (fun r u_40 H locs w_39 hP hKm hD hS => ?_)
  obtain ⟨g_41, a_42⟩ := u_40
  obtain ⟨y_38, rfl, h_43, h_44, h_45, h_46⟩ := w_39
  have hP : va_P (dC, dI) vwCl (xG L_8 cid K_9 N_10 v_11 ++ mG am cm g_41 a_42) H := hP
  have hD : va_D (fun q : Nat => s.heap.size ≤ q) (xG L_8 cid K_9 N_10 v_11 ++ mG am cm g_41 a_42) := hD
  have h_43 : g_41 = g := h_43
  have h_44 : mI g_41 a_42 := h_44
  have h_47 : rLine g_41 a_42 := rLine_t (congrFun h_43 56) (h_45 45 (by decide)) hrLine
  have h_48 : rLead g_41 a_42 := rLead_t (congrFun h_43 37) (h_45 27 (by decide)) (h_45 31 (by decide)) hrLead
  have h_49 : rSkill g_41 a_42 := rSkill_t (congrFun h_43 50) (h_45 38 (by decide)) hrSkill
  have h_50 : rSh g_41 a_42 := rSh_t (congrFun h_43 18) (congrFun h_43 26) (h_45 9 (by decide)) (h_45 10 (by decide)) (h_45 11 (by decide)) (h_45 12 (by decide)) (h_45 16 (by decide)) hrSh
  have h_51 : v_11 z0 0 = g_41 30 := h_16.trans (congrFun h_43 30).symm
  have h_52 : v_11 z0 11 = g_41 50 := h_17.trans (congrFun h_43 50).symm
  have h_53 : v_11 (v_11 z0 19) 1 = g_41 78 := h_18.trans (congrFun h_43 78).symm
  have h_54 : v_11 (v_11 z0 14) 5 = g_41 66 := h_22.trans (congrFun h_43 66).symm
  have h_55 : v_11 (v_11 z0 2) 1 = g_41 1 := h_26.trans (congrFun h_43 1).symm
  have h_56 : v_11 (v_11 z0 3) 1 = g_41 18 := h_30.trans (congrFun h_43 18).symm
  have h_57 : rSub v_11 z0 a_42 := rSub_m (h_45 60 (by decide)) h_34
  have h_58 : rHand v_11 z0 g_41 a_42 := rHand_m (congrFun h_43 50) (h_45 41 (by decide)) h_35
  have h_59 : rNews v_11 z0 g_41 a_42 := rNews_m (congrFun h_43 66) (h_45 51 (by decide)) (h_45 52 (by decide)) (h_45 53 (by decide)) (h_45 54 (by decide)) h_36
  have h_60 : rTxt v_11 z0 g_41 a_42 := rTxt_m (congrFun h_43 1) (h_45 1 (by decide)) h_37
  obtain ⟨hP, hD⟩ := lsw hP hD
  refine lv_pop hx hb dL_law_1302 rfl ?_
  refine lv_goto (tgt := 1804) hx hb dL_law_1303 (by decide) ?_
  exact kk L_8 K_9 N_10 v_11 g_41 a_42 _ _ H locs h_15 I_12 h_44 h_47 h_48 h_49 h_50 h_51 h_52 h_53 h_54 h_55 h_56 h_57 h_58 h_59 h_60 (by omega) (by omega) hP hD hS
set_option maxHeartbeats 4000000 in
set_option maxRecDepth 100000 in
theorem lc_32 {p : Program} {l : Launch} {e : Env} {s : State} {m : MethodId} {below : List Frame} {meth : Method} {c : Code} {b n : Nat} {xs : Nat → Int32} (C0 : lw_At p s m meth c b n xs) (hn : n ≤ 3072) {dC : Nat → ClassId} {dI : Nat → Nat → Nat} {am : Nat → Nat} {cm cid : Nat → ClassId} {tW : Nat} {sK sV : Nat → Nat} (hXx : xX tW sK sV (fun q : Nat => s.heap.size ≤ q) s s.heap) (hKx : va_K (dC, dI) vwCl (xT cid) s) (hKm : va_K (dC, dI) vwCl (mT cm) s) {z0 : Int} {i : Int} (hi0 : 0 ≤ i) (hi : i + 6 ≤ n) {L : List Nat} {K : Int → Nat} {N : Int → Int} {v : Int → Int → Int} {g : Nat → Int} {a : Nat → Int → Int} (hz : ok L K z0 12) (hI : xI L K N v) (hM : mI g a) (hrLine : rLine g a) (hrLead : rLead g a) (hrSkill : rSkill g a) (hrSh : rSh g a) (hnow : v z0 0 = g 30) (hhands : v z0 11 = g 50) (hstolen : v (v z0 19) 1 = g 78) (htold : v (v z0 14) 5 = g 66) (hsize : v (v z0 2) 1 = g 1) (hsheets : v (v z0 3) 1 = g 18) (hsub : rSub v z0 a) (hhd : rHand v z0 g a) (hnw : rNews v z0 g a) (htx : rTxt v z0 g a) {nc ns : Nat} (hc : nc + 5 ≤ 600000) (hs : ns + 12100 ≤ 7302250) {H : Heap} {locs : List Loc} {ls : Array Slot} (hP : va_P (dC, dI) vwCl (mG am cm g a ++ xG L cid K N v) H) (hD : va_D (fun q : Nat => s.heap.size ≤ q) (mG am cm g a ++ xG L cid K N v)) (hS : va_S (fun q : Nat => s.heap.size ≤ q) s.heap H locs) (hl : lv_has ls 4 [(3, .int (iI i)), (2, .ref (am 0)), (1, .ref z0.toNat), (0, .ref b)])
    (kk : ∀ (L : List Nat) (K : Int → Nat) (N : Int → Int) (v : Int → Int → Int) (g : Nat → Int) (a : Nat → Int → Int) (nc1 ns1 : Nat) (H : Heap) (locs : List Loc), ok L K z0 12 → xI L K N v → mI g a → rLine g a → rLead g a → rSkill g a → rSh g a → v z0 0 = g 30 → v z0 11 = g 50 → v (v z0 19) 1 = g 78 → v (v z0 14) 5 = g 66 → v (v z0 2) 1 = g 1 → v (v z0 3) 1 = g 18 → rSub v z0 a → rHand v z0 g a → rNews v z0 g a → rTxt v z0 g a → nc1 ≤ nc + 5 → ns1 ≤ ns + 12100 → va_P (dC, dI) vwCl (mG am cm g a ++ xG L cid K N v) H → va_D (fun q : Nat => s.heap.size ≤ q) (mG am cm g a ++ xG L cid K N v) → va_S (fun q : Nat => s.heap.size ≤ q) s.heap H locs → W p l e room_1 s m #[Value.ref b] below meth c H locs nc1 ns1 (lw_Z below #[Value.ref b] s) (F0 m 1804 ls [])) : W p l e room_1 s m #[Value.ref b] below meth c H locs nc ns (lw_Z below #[Value.ref b] s) (F0 m 1306 ls []) := by
  obtain ⟨hx, hb, hr, hml, hown, hts, hX9, hbl, hlocks, hgv⟩ := id C0
  have hA : ∀ q : Nat, s.heap.size ≤ q → (fun q : Nat => s.heap.size ≤ q) q := fun _ h => h
  have hbA : ¬ (fun q : Nat => s.heap.size ≤ q) b := Nat.not_le.mpr hbl
  refine lv_aload_n hx hb dL_law_1306 rfl (lv_at hl 2 rfl) ?_
  refine lv_aload_n hx hb dL_law_1307 rfl (lv_at hl 3 rfl) ?_
  refine lv_iload_n hx hb dL_law_1308 rfl (lv_at hl 0 rfl) ?_
  refine lv_iconst (v := iI 1) hx hb dL_law_1309 rfl ?_
  refine xr_add hx hb dL_law_1310 ?_
  refine va_sld hx hb hX9 hbl hbA hS (xvp (t := i + 1) (by omega) (by omega) hn) dL_law_1311 ?_
  obtain ⟨p_1, h_2, r_3⟩ : ∃ y : Int, xs (iI (i + 1)).toNatClampNeg = iI y ∧ rg y := ⟨_, iI_of _, rg_of _⟩
  refine jt_i (iI p_1) h_2 ?_
  have hPx := jp_tail hP
  have hDx := jd_tail hD
  refine jc_i (va_runV (As := [.int (iI p_1)]) (rest := []) ⟨hx, hb, hml, hown, hts⟩ (sX12_page l dC dI _ L cid K N tW sK sV v z0 p_1 hI hz r_3) (cwV 1 hts (jgoodVL m_1575 m_1576 m_1577 m_873 m_1578) rfl rfl rfl (by decide +kernel) ⟨(Nat.le_of_ble_eq_true rfl), (Nat.le_of_ble_eq_true rfl)⟩) ⟨xP_blind, xrecv hKx hPx hz rfl rfl, fun U hU hW => ⟨rfl, xP_of hU hW hPx hKx hDx hXx hS (fun _ h => h) hA⟩⟩ rfl rfl hl.1 rfl (lv_room (Nat.le_of_ble_eq_true rfl)) dL_law_1312 ⟨(show nc + 0 ≤ 600000 by omega), (show ns + 0 ≤ 7302250 by omega)⟩) hP hS hA (fun r H locs w_5 hP hS => ?_)
  obtain ⟨x_4, rfl, f_6⟩ := w_5
  refine lv_pop hx hb dL_law_1315 rfl ?_
  refine lv_aload_n hx hb dL_law_1316 rfl (lv_at hl 1 rfl) ?_
  refine lv_aload_n hx hb dL_law_1317 rfl (lv_at hl 3 rfl) ?_
  refine lv_iload_n hx hb dL_law_1318 rfl (lv_at hl 0 rfl) ?_
  refine lv_iconst (v := iI 1) hx hb dL_law_1319 rfl ?_
  refine xr_add hx hb dL_law_1320 ?_
  refine va_sld hx hb hX9 hbl hbA hS (xvp (t := i + 1) (by omega) (by omega) hn) dL_law_1321 ?_
  refine jt_i (iI p_1) h_2 ?_
  obtain ⟨hP, hD⟩ := lsw hP hD
  have hPm := jp_tail hP
  have hDm := jd_tail hD
  refine jc_i (va_runV (As := [.int (iI p_1)]) (rest := []) ⟨hx, hb, hml, hown, hts⟩ (sX13_page l dC dI _ am cm g a p_1 hM r_3) (cwV 1 hts (jgoodVL m_1579 m_440 m_441 m_503 m_188) rfl rfl rfl (by decide +kernel) ⟨(Nat.le_of_ble_eq_true rfl), (Nat.le_of_ble_eq_true rfl)⟩) ⟨jw_blind, va_recv hKm hPm (ci := 13) (q0 := 0) rfl rfl, fun U hU hW => ⟨rfl, jw_of hU hW hPm hKm hDm⟩⟩ rfl rfl hl.1 rfl (lv_room (Nat.le_of_ble_eq_true rfl)) dL_law_1322 ⟨(show nc + 0 ≤ 600000 by omega), (show ns + 0 ≤ 7302250 by omega)⟩) hP hS hA (fun r H locs w_8 hP hS => ?_)
  obtain ⟨y_7, rfl, h_9⟩ := w_8
  obtain ⟨hP, hD⟩ := lsw hP hD
  refine lv_pop hx hb dL_law_1325 rfl ?_
  refine lv_goto (tgt := 1804) hx hb dL_law_1326 (by decide) ?_
  exact kk L K N v g a _ _ H locs hz hI hM hrLine hrLead hrSkill hrSh hnow hhands hstolen htold hsize hsheets hsub hhd hnw htx (by omega) (by omega) hP hD hS
set_option maxHeartbeats 4000000 in
set_option maxRecDepth 100000 in
theorem lc_33 {p : Program} {l : Launch} {e : Env} {s : State} {m : MethodId} {below : List Frame} {meth : Method} {c : Code} {b n : Nat} {xs : Nat → Int32} (C0 : lw_At p s m meth c b n xs) (hn : n ≤ 3072) {dC : Nat → ClassId} {dI : Nat → Nat → Nat} {am : Nat → Nat} {cm cid : Nat → ClassId} {tW : Nat} {sK sV : Nat → Nat} (hXx : xX tW sK sV (fun q : Nat => s.heap.size ≤ q) s s.heap) (hKx : va_K (dC, dI) vwCl (xT cid) s) (hKm : va_K (dC, dI) vwCl (mT cm) s) {z0 : Int} {i : Int} (hi0 : 0 ≤ i) (hi : i + 6 ≤ n) {L : List Nat} {K : Int → Nat} {N : Int → Int} {v : Int → Int → Int} {g : Nat → Int} {a : Nat → Int → Int} (hz : ok L K z0 12) (hI : xI L K N v) (hM : mI g a) (hrLine : rLine g a) (hrLead : rLead g a) (hrSkill : rSkill g a) (hrSh : rSh g a) (hnow : v z0 0 = g 30) (hhands : v z0 11 = g 50) (hstolen : v (v z0 19) 1 = g 78) (htold : v (v z0 14) 5 = g 66) (hsize : v (v z0 2) 1 = g 1) (hsheets : v (v z0 3) 1 = g 18) (hsub : rSub v z0 a) (hhd : rHand v z0 g a) (hnw : rNews v z0 g a) (htx : rTxt v z0 g a) {nc ns : Nat} (hc : nc + 5 ≤ 600000) (hs : ns + 12100 ≤ 7302250) {H : Heap} {locs : List Loc} {ls : Array Slot} (hP : va_P (dC, dI) vwCl (mG am cm g a ++ xG L cid K N v) H) (hD : va_D (fun q : Nat => s.heap.size ≤ q) (mG am cm g a ++ xG L cid K N v)) (hS : va_S (fun q : Nat => s.heap.size ≤ q) s.heap H locs) (hl : lv_has ls 4 [(3, .int (iI i)), (2, .ref (am 0)), (1, .ref z0.toNat), (0, .ref b)])
    (kk : ∀ (L : List Nat) (K : Int → Nat) (N : Int → Int) (v : Int → Int → Int) (g : Nat → Int) (a : Nat → Int → Int) (nc1 ns1 : Nat) (H : Heap) (locs : List Loc), ok L K z0 12 → xI L K N v → mI g a → rLine g a → rLead g a → rSkill g a → rSh g a → v z0 0 = g 30 → v z0 11 = g 50 → v (v z0 19) 1 = g 78 → v (v z0 14) 5 = g 66 → v (v z0 2) 1 = g 1 → v (v z0 3) 1 = g 18 → rSub v z0 a → rHand v z0 g a → rNews v z0 g a → rTxt v z0 g a → nc1 ≤ nc + 5 → ns1 ≤ ns + 12100 → va_P (dC, dI) vwCl (mG am cm g a ++ xG L cid K N v) H → va_D (fun q : Nat => s.heap.size ≤ q) (mG am cm g a ++ xG L cid K N v) → va_S (fun q : Nat => s.heap.size ≤ q) s.heap H locs → W p l e room_1 s m #[Value.ref b] below meth c H locs nc1 ns1 (lw_Z below #[Value.ref b] s) (F0 m 1804 ls [])) : W p l e room_1 s m #[Value.ref b] below meth c H locs nc ns (lw_Z below #[Value.ref b] s) (F0 m 1329 ls []) := by
  obtain ⟨hx, hb, hr, hml, hown, hts, hX9, hbl, hlocks, hgv⟩ := id C0
  have hA : ∀ q : Nat, s.heap.size ≤ q → (fun q : Nat => s.heap.size ≤ q) q := fun _ h => h
  have hbA : ¬ (fun q : Nat => s.heap.size ≤ q) b := Nat.not_le.mpr hbl
  refine lv_aload_n hx hb dL_law_1329 rfl (lv_at hl 2 rfl) ?_
  refine lv_aload_n hx hb dL_law_1330 rfl (lv_at hl 3 rfl) ?_
  refine lv_iload_n hx hb dL_law_1331 rfl (lv_at hl 0 rfl) ?_
  refine lv_iconst (v := iI 1) hx hb dL_law_1332 rfl ?_
  refine xr_add hx hb dL_law_1333 ?_
  refine va_sld hx hb hX9 hbl hbA hS (xvp (t := i + 1) (by omega) (by omega) hn) dL_law_1334 ?_
  obtain ⟨p_1, h_2, r_3⟩ : ∃ y : Int, xs (iI (i + 1)).toNatClampNeg = iI y ∧ rg y := ⟨_, iI_of _, rg_of _⟩
  refine jt_i (iI p_1) h_2 ?_
  have hPx := jp_tail hP
  have hDx := jd_tail hD
  refine jc_i (va_runV (As := [.int (iI p_1)]) (rest := []) ⟨hx, hb, hml, hown, hts⟩ (sX12_promise l dC dI _ L cid K N tW sK sV v z0 p_1 hI hz r_3) (cwV 1 hts (jgoodVL m_1580 m_1581 m_1582 m_873 m_1583) rfl rfl rfl (by decide +kernel) ⟨(Nat.le_of_ble_eq_true rfl), (Nat.le_of_ble_eq_true rfl)⟩) ⟨xP_blind, xrecv hKx hPx hz rfl rfl, fun U hU hW => ⟨rfl, xP_of hU hW hPx hKx hDx hXx hS (fun _ h => h) hA⟩⟩ rfl rfl hl.1 rfl (lv_room (Nat.le_of_ble_eq_true rfl)) dL_law_1335 ⟨(show nc + 0 ≤ 600000 by omega), (show ns + 0 ≤ 7302250 by omega)⟩) hP hS hA (fun r H locs w_5 hP hS => ?_)
  obtain ⟨x_4, rfl, f_6⟩ := w_5
  refine lv_pop hx hb dL_law_1338 rfl ?_
  refine lv_aload_n hx hb dL_law_1339 rfl (lv_at hl 1 rfl) ?_
  refine lv_aload_n hx hb dL_law_1340 rfl (lv_at hl 3 rfl) ?_
  refine lv_iload_n hx hb dL_law_1341 rfl (lv_at hl 0 rfl) ?_
  refine lv_iconst (v := iI 1) hx hb dL_law_1342 rfl ?_
  refine xr_add hx hb dL_law_1343 ?_
  refine va_sld hx hb hX9 hbl hbA hS (xvp (t := i + 1) (by omega) (by omega) hn) dL_law_1344 ?_
  refine jt_i (iI p_1) h_2 ?_
  obtain ⟨hP, hD⟩ := lsw hP hD
  have hPm := jp_tail hP
  have hDm := jd_tail hD
  refine jct_i (va_runV (As := [.int (iI p_1)]) (rest := []) ⟨hx, hb, hml, hown, hts⟩ (sX13_promise l dC dI _ am cm g a p_1 hM r_3 hrLead hrSh) (cwV 1 hts (jgoodVL m_1584 m_448 m_449 m_503 m_192) rfl rfl rfl (by decide +kernel) ⟨(Nat.le_of_ble_eq_true rfl), (Nat.le_of_ble_eq_true rfl)⟩) ⟨jw_blind, va_recv hKm hPm (ci := 13) (q0 := 0) rfl rfl, fun U hU hW => ⟨rfl, jw_of hU hW hPm hKm hDm⟩⟩ rfl rfl hl.1 rfl (lv_room (Nat.le_of_ble_eq_true rfl)) dL_law_1345 ⟨(show nc + 0 ≤ 600000 by omega), (show ns + 0 ≤ 7302250 by omega)⟩) hP hD hS hA (fun r u_9 H locs w_8 hP hKm hD hS => ?_)
  obtain ⟨g_10, a_11⟩ := u_9
  obtain ⟨y_7, rfl, h_12, h_13, h_14, h_15⟩ := w_8
  have hP : va_P (dC, dI) vwCl (xG L cid K N v ++ mG am cm g_10 a_11) H := hP
  have hD : va_D (fun q : Nat => s.heap.size ≤ q) (xG L cid K N v ++ mG am cm g_10 a_11) := hD
  have h_12 : g_10 = g := h_12
  have h_13 : mI g_10 a_11 := h_13
  have h_16 : rLine g_10 a_11 := rLine_t (congrFun h_12 56) (h_14 45 (by decide)) hrLine
  have h_17 : rLead g_10 a_11 := rLead_t (congrFun h_12 37) (h_14 27 (by decide)) (h_14 31 (by decide)) hrLead
  have h_18 : rSkill g_10 a_11 := rSkill_t (congrFun h_12 50) (h_14 38 (by decide)) hrSkill
  have h_19 : rSh g_10 a_11 := rSh_t (congrFun h_12 18) (congrFun h_12 26) (h_14 9 (by decide)) (h_14 10 (by decide)) (h_14 11 (by decide)) (h_14 12 (by decide)) (h_14 16 (by decide)) hrSh
  have h_20 : v z0 0 = g_10 30 := hnow.trans (congrFun h_12 30).symm
  have h_21 : v z0 11 = g_10 50 := hhands.trans (congrFun h_12 50).symm
  have h_22 : v (v z0 19) 1 = g_10 78 := hstolen.trans (congrFun h_12 78).symm
  have h_23 : v (v z0 14) 5 = g_10 66 := htold.trans (congrFun h_12 66).symm
  have h_24 : v (v z0 2) 1 = g_10 1 := hsize.trans (congrFun h_12 1).symm
  have h_25 : v (v z0 3) 1 = g_10 18 := hsheets.trans (congrFun h_12 18).symm
  have h_26 : rSub v z0 a_11 := rSub_m (h_14 60 (by decide)) hsub
  have h_27 : rHand v z0 g_10 a_11 := rHand_m (congrFun h_12 50) (h_14 41 (by decide)) hhd
  have h_28 : rNews v z0 g_10 a_11 := rNews_m (congrFun h_12 66) (h_14 51 (by decide)) (h_14 52 (by decide)) (h_14 53 (by decide)) (h_14 54 (by decide)) hnw
  have h_29 : rTxt v z0 g_10 a_11 := rTxt_m (congrFun h_12 1) (h_14 1 (by decide)) htx
  obtain ⟨hP, hD⟩ := lsw hP hD
  refine lv_pop hx hb dL_law_1348 rfl ?_
  refine lv_goto (tgt := 1804) hx hb dL_law_1349 (by decide) ?_
  exact kk L K N v g_10 a_11 _ _ H locs hz hI h_13 h_16 h_17 h_18 h_19 h_20 h_21 h_22 h_23 h_24 h_25 h_26 h_27 h_28 h_29 (by omega) (by omega) hP hD hS
set_option maxHeartbeats 4000000 in
set_option maxRecDepth 100000 in
theorem lc_34 {p : Program} {l : Launch} {e : Env} {s : State} {m : MethodId} {below : List Frame} {meth : Method} {c : Code} {b n : Nat} {xs : Nat → Int32} (C0 : lw_At p s m meth c b n xs) (hn : n ≤ 3072) {dC : Nat → ClassId} {dI : Nat → Nat → Nat} {am : Nat → Nat} {cm cid : Nat → ClassId} {tW : Nat} {sK sV : Nat → Nat} (hXx : xX tW sK sV (fun q : Nat => s.heap.size ≤ q) s s.heap) (hKx : va_K (dC, dI) vwCl (xT cid) s) (hKm : va_K (dC, dI) vwCl (mT cm) s) {z0 : Int} {i : Int} (hi0 : 0 ≤ i) (hi : i + 6 ≤ n) {L : List Nat} {K : Int → Nat} {N : Int → Int} {v : Int → Int → Int} {g : Nat → Int} {a : Nat → Int → Int} (hz : ok L K z0 12) (hI : xI L K N v) (hM : mI g a) (hrLine : rLine g a) (hrLead : rLead g a) (hrSkill : rSkill g a) (hrSh : rSh g a) (hnow : v z0 0 = g 30) (hhands : v z0 11 = g 50) (hstolen : v (v z0 19) 1 = g 78) (htold : v (v z0 14) 5 = g 66) (hsize : v (v z0 2) 1 = g 1) (hsheets : v (v z0 3) 1 = g 18) (hsub : rSub v z0 a) (hhd : rHand v z0 g a) (hnw : rNews v z0 g a) (htx : rTxt v z0 g a) {nc ns : Nat} (hc : nc + 5 ≤ 600000) (hs : ns + 12100 ≤ 7302250) {H : Heap} {locs : List Loc} {ls : Array Slot} (hP : va_P (dC, dI) vwCl (mG am cm g a ++ xG L cid K N v) H) (hD : va_D (fun q : Nat => s.heap.size ≤ q) (mG am cm g a ++ xG L cid K N v)) (hS : va_S (fun q : Nat => s.heap.size ≤ q) s.heap H locs) (hl : lv_has ls 4 [(3, .int (iI i)), (2, .ref (am 0)), (1, .ref z0.toNat), (0, .ref b)])
    (kk : ∀ (L : List Nat) (K : Int → Nat) (N : Int → Int) (v : Int → Int → Int) (g : Nat → Int) (a : Nat → Int → Int) (nc1 ns1 : Nat) (H : Heap) (locs : List Loc), ok L K z0 12 → xI L K N v → mI g a → rLine g a → rLead g a → rSkill g a → rSh g a → v z0 0 = g 30 → v z0 11 = g 50 → v (v z0 19) 1 = g 78 → v (v z0 14) 5 = g 66 → v (v z0 2) 1 = g 1 → v (v z0 3) 1 = g 18 → rSub v z0 a → rHand v z0 g a → rNews v z0 g a → rTxt v z0 g a → nc1 ≤ nc + 5 → ns1 ≤ ns + 12100 → va_P (dC, dI) vwCl (mG am cm g a ++ xG L cid K N v) H → va_D (fun q : Nat => s.heap.size ≤ q) (mG am cm g a ++ xG L cid K N v) → va_S (fun q : Nat => s.heap.size ≤ q) s.heap H locs → W p l e room_1 s m #[Value.ref b] below meth c H locs nc1 ns1 (lw_Z below #[Value.ref b] s) (F0 m 1804 ls [])) : W p l e room_1 s m #[Value.ref b] below meth c H locs nc ns (lw_Z below #[Value.ref b] s) (F0 m 1352 ls []) := by
  obtain ⟨hx, hb, hr, hml, hown, hts, hX9, hbl, hlocks, hgv⟩ := id C0
  have hA : ∀ q : Nat, s.heap.size ≤ q → (fun q : Nat => s.heap.size ≤ q) q := fun _ h => h
  have hbA : ¬ (fun q : Nat => s.heap.size ≤ q) b := Nat.not_le.mpr hbl
  refine lv_aload_n hx hb dL_law_1352 rfl (lv_at hl 2 rfl) ?_
  refine lv_aload_n hx hb dL_law_1353 rfl (lv_at hl 3 rfl) ?_
  refine lv_iload_n hx hb dL_law_1354 rfl (lv_at hl 0 rfl) ?_
  refine lv_iconst (v := iI 1) hx hb dL_law_1355 rfl ?_
  refine xr_add hx hb dL_law_1356 ?_
  refine va_sld hx hb hX9 hbl hbA hS (xvp (t := i + 1) (by omega) (by omega) hn) dL_law_1357 ?_
  obtain ⟨p_1, h_2, r_3⟩ : ∃ y : Int, xs (iI (i + 1)).toNatClampNeg = iI y ∧ rg y := ⟨_, iI_of _, rg_of _⟩
  refine jt_i (iI p_1) h_2 ?_
  have hPx := jp_tail hP
  have hDx := jd_tail hD
  refine jc_i (va_runV (As := [.int (iI p_1)]) (rest := []) ⟨hx, hb, hml, hown, hts⟩ (sX12_ends l dC dI _ L cid K N tW sK sV v z0 p_1 hI hz r_3) (cwV 1 hts (jgoodVL m_1585 m_1586 m_1587 m_873 m_1588) rfl rfl rfl (by decide +kernel) ⟨(Nat.le_of_ble_eq_true rfl), (Nat.le_of_ble_eq_true rfl)⟩) ⟨xP_blind, xrecv hKx hPx hz rfl rfl, fun U hU hW => ⟨rfl, xP_of hU hW hPx hKx hDx hXx hS (fun _ h => h) hA⟩⟩ rfl rfl hl.1 rfl (lv_room (Nat.le_of_ble_eq_true rfl)) dL_law_1358 ⟨(show nc + 0 ≤ 600000 by omega), (show ns + 0 ≤ 7302250 by omega)⟩) hP hS hA (fun r H locs w_5 hP hS => ?_)
  obtain ⟨x_4, rfl, f_6⟩ := w_5
  refine lv_pop hx hb dL_law_1361 rfl ?_
  refine lv_aload_n hx hb dL_law_1362 rfl (lv_at hl 1 rfl) ?_
  refine lv_aload_n hx hb dL_law_1363 rfl (lv_at hl 3 rfl) ?_
  refine lv_iload_n hx hb dL_law_1364 rfl (lv_at hl 0 rfl) ?_
  refine lv_iconst (v := iI 1) hx hb dL_law_1365 rfl ?_
  refine xr_add hx hb dL_law_1366 ?_
  refine va_sld hx hb hX9 hbl hbA hS (xvp (t := i + 1) (by omega) (by omega) hn) dL_law_1367 ?_
  refine jt_i (iI p_1) h_2 ?_
  obtain ⟨hP, hD⟩ := lsw hP hD
  have hPm := jp_tail hP
  have hDm := jd_tail hD
  refine jc_i (va_runV (As := [.int (iI p_1)]) (rest := []) ⟨hx, hb, hml, hown, hts⟩ (sX13_ends l dC dI _ am cm g a p_1 hM r_3 hrLead) (cwV 1 hts (jgoodVL m_1589 m_328 m_329 m_503 m_129) rfl rfl rfl (by decide +kernel) ⟨(Nat.le_of_ble_eq_true rfl), (Nat.le_of_ble_eq_true rfl)⟩) ⟨jw_blind, va_recv hKm hPm (ci := 13) (q0 := 0) rfl rfl, fun U hU hW => ⟨rfl, jw_of hU hW hPm hKm hDm⟩⟩ rfl rfl hl.1 rfl (lv_room (Nat.le_of_ble_eq_true rfl)) dL_law_1368 ⟨(show nc + 0 ≤ 600000 by omega), (show ns + 0 ≤ 7302250 by omega)⟩) hP hS hA (fun r H locs w_8 hP hS => ?_)
  obtain ⟨y_7, rfl, h_9⟩ := w_8
  obtain ⟨hP, hD⟩ := lsw hP hD
  refine lv_pop hx hb dL_law_1371 rfl ?_
  refine lv_goto (tgt := 1804) hx hb dL_law_1372 (by decide) ?_
  exact kk L K N v g a _ _ H locs hz hI hM hrLine hrLead hrSkill hrSh hnow hhands hstolen htold hsize hsheets hsub hhd hnw htx (by omega) (by omega) hP hD hS
set_option maxHeartbeats 4000000 in
set_option maxRecDepth 100000 in
theorem lc_35 {p : Program} {l : Launch} {e : Env} {s : State} {m : MethodId} {below : List Frame} {meth : Method} {c : Code} {b n : Nat} {xs : Nat → Int32} (C0 : lw_At p s m meth c b n xs) (hn : n ≤ 3072) {dC : Nat → ClassId} {dI : Nat → Nat → Nat} {am : Nat → Nat} {cm cid : Nat → ClassId} {tW : Nat} {sK sV : Nat → Nat} (hXx : xX tW sK sV (fun q : Nat => s.heap.size ≤ q) s s.heap) (hKx : va_K (dC, dI) vwCl (xT cid) s) (hKm : va_K (dC, dI) vwCl (mT cm) s) {z0 : Int} {i : Int} (hi0 : 0 ≤ i) (hi : i + 6 ≤ n) {L : List Nat} {K : Int → Nat} {N : Int → Int} {v : Int → Int → Int} {g : Nat → Int} {a : Nat → Int → Int} (hz : ok L K z0 12) (hI : xI L K N v) (hM : mI g a) (hrLine : rLine g a) (hrLead : rLead g a) (hrSkill : rSkill g a) (hrSh : rSh g a) (hnow : v z0 0 = g 30) (hhands : v z0 11 = g 50) (hstolen : v (v z0 19) 1 = g 78) (htold : v (v z0 14) 5 = g 66) (hsize : v (v z0 2) 1 = g 1) (hsheets : v (v z0 3) 1 = g 18) (hsub : rSub v z0 a) (hhd : rHand v z0 g a) (hnw : rNews v z0 g a) (htx : rTxt v z0 g a) {nc ns : Nat} (hc : nc + 5 ≤ 600000) (hs : ns + 12100 ≤ 7302250) {H : Heap} {locs : List Loc} {ls : Array Slot} (hP : va_P (dC, dI) vwCl (mG am cm g a ++ xG L cid K N v) H) (hD : va_D (fun q : Nat => s.heap.size ≤ q) (mG am cm g a ++ xG L cid K N v)) (hS : va_S (fun q : Nat => s.heap.size ≤ q) s.heap H locs) (hl : lv_has ls 4 [(3, .int (iI i)), (2, .ref (am 0)), (1, .ref z0.toNat), (0, .ref b)])
    (kk : ∀ (L : List Nat) (K : Int → Nat) (N : Int → Int) (v : Int → Int → Int) (g : Nat → Int) (a : Nat → Int → Int) (nc1 ns1 : Nat) (H : Heap) (locs : List Loc), ok L K z0 12 → xI L K N v → mI g a → rLine g a → rLead g a → rSkill g a → rSh g a → v z0 0 = g 30 → v z0 11 = g 50 → v (v z0 19) 1 = g 78 → v (v z0 14) 5 = g 66 → v (v z0 2) 1 = g 1 → v (v z0 3) 1 = g 18 → rSub v z0 a → rHand v z0 g a → rNews v z0 g a → rTxt v z0 g a → nc1 ≤ nc + 5 → ns1 ≤ ns + 12100 → va_P (dC, dI) vwCl (mG am cm g a ++ xG L cid K N v) H → va_D (fun q : Nat => s.heap.size ≤ q) (mG am cm g a ++ xG L cid K N v) → va_S (fun q : Nat => s.heap.size ≤ q) s.heap H locs → W p l e room_1 s m #[Value.ref b] below meth c H locs nc1 ns1 (lw_Z below #[Value.ref b] s) (F0 m 1804 ls [])) : W p l e room_1 s m #[Value.ref b] below meth c H locs nc ns (lw_Z below #[Value.ref b] s) (F0 m 1375 ls []) := by
  obtain ⟨hx, hb, hr, hml, hown, hts, hX9, hbl, hlocks, hgv⟩ := id C0
  have hA : ∀ q : Nat, s.heap.size ≤ q → (fun q : Nat => s.heap.size ≤ q) q := fun _ h => h
  have hbA : ¬ (fun q : Nat => s.heap.size ≤ q) b := Nat.not_le.mpr hbl
  refine lv_aload_n hx hb dL_law_1375 rfl (lv_at hl 2 rfl) ?_
  refine lv_aload_n hx hb dL_law_1376 rfl (lv_at hl 3 rfl) ?_
  refine lv_iload_n hx hb dL_law_1377 rfl (lv_at hl 0 rfl) ?_
  refine lv_iconst (v := iI 1) hx hb dL_law_1378 rfl ?_
  refine xr_add hx hb dL_law_1379 ?_
  refine va_sld hx hb hX9 hbl hbA hS (xvp (t := i + 1) (by omega) (by omega) hn) dL_law_1380 ?_
  obtain ⟨p_1, h_2, r_3⟩ : ∃ y : Int, xs (iI (i + 1)).toNatClampNeg = iI y ∧ rg y := ⟨_, iI_of _, rg_of _⟩
  refine jt_i (iI p_1) h_2 ?_
  have hPx := jp_tail hP
  have hDx := jd_tail hD
  refine jc_i (va_runV (As := [.int (iI p_1)]) (rest := []) ⟨hx, hb, hml, hown, hts⟩ (sX12_promised l dC dI _ L cid K N tW sK sV v z0 p_1 hI hz r_3) (cwV 1 hts (jgoodVL m_1590 m_1591 m_1592 m_873 m_1593) rfl rfl rfl (by decide +kernel) ⟨(Nat.le_of_ble_eq_true rfl), (Nat.le_of_ble_eq_true rfl)⟩) ⟨xP_blind, xrecv hKx hPx hz rfl rfl, fun U hU hW => ⟨rfl, xP_of hU hW hPx hKx hDx hXx hS (fun _ h => h) hA⟩⟩ rfl rfl hl.1 rfl (lv_room (Nat.le_of_ble_eq_true rfl)) dL_law_1381 ⟨(show nc + 0 ≤ 600000 by omega), (show ns + 0 ≤ 7302250 by omega)⟩) hP hS hA (fun r H locs w_5 hP hS => ?_)
  obtain ⟨x_4, rfl, f_6⟩ := w_5
  refine lv_pop hx hb dL_law_1384 rfl ?_
  refine lv_aload_n hx hb dL_law_1385 rfl (lv_at hl 1 rfl) ?_
  refine lv_aload_n hx hb dL_law_1386 rfl (lv_at hl 3 rfl) ?_
  refine lv_iload_n hx hb dL_law_1387 rfl (lv_at hl 0 rfl) ?_
  refine lv_iconst (v := iI 1) hx hb dL_law_1388 rfl ?_
  refine xr_add hx hb dL_law_1389 ?_
  refine va_sld hx hb hX9 hbl hbA hS (xvp (t := i + 1) (by omega) (by omega) hn) dL_law_1390 ?_
  refine jt_i (iI p_1) h_2 ?_
  obtain ⟨hP, hD⟩ := lsw hP hD
  have hPm := jp_tail hP
  have hDm := jd_tail hD
  refine jc_i (va_runV (As := [.int (iI p_1)]) (rest := []) ⟨hx, hb, hml, hown, hts⟩ (sX13_promised l dC dI _ am cm g a p_1 hM r_3 hrLead) (cwV 1 hts (jgoodVL m_1594 m_450 m_451 m_503 m_193) rfl rfl rfl (by decide +kernel) ⟨(Nat.le_of_ble_eq_true rfl), (Nat.le_of_ble_eq_true rfl)⟩) ⟨jw_blind, va_recv hKm hPm (ci := 13) (q0 := 0) rfl rfl, fun U hU hW => ⟨rfl, jw_of hU hW hPm hKm hDm⟩⟩ rfl rfl hl.1 rfl (lv_room (Nat.le_of_ble_eq_true rfl)) dL_law_1391 ⟨(show nc + 0 ≤ 600000 by omega), (show ns + 0 ≤ 7302250 by omega)⟩) hP hS hA (fun r H locs w_8 hP hS => ?_)
  obtain ⟨y_7, rfl, h_9⟩ := w_8
  obtain ⟨hP, hD⟩ := lsw hP hD
  refine lv_pop hx hb dL_law_1394 rfl ?_
  refine lv_goto (tgt := 1804) hx hb dL_law_1395 (by decide) ?_
  exact kk L K N v g a _ _ H locs hz hI hM hrLine hrLead hrSkill hrSh hnow hhands hstolen htold hsize hsheets hsub hhd hnw htx (by omega) (by omega) hP hD hS
set_option maxHeartbeats 4000000 in
set_option maxRecDepth 100000 in
theorem lc_36 {p : Program} {l : Launch} {e : Env} {s : State} {m : MethodId} {below : List Frame} {meth : Method} {c : Code} {b n : Nat} {xs : Nat → Int32} (C0 : lw_At p s m meth c b n xs) (hn : n ≤ 3072) {dC : Nat → ClassId} {dI : Nat → Nat → Nat} {am : Nat → Nat} {cm cid : Nat → ClassId} {tW : Nat} {sK sV : Nat → Nat} (hXx : xX tW sK sV (fun q : Nat => s.heap.size ≤ q) s s.heap) (hKx : va_K (dC, dI) vwCl (xT cid) s) (hKm : va_K (dC, dI) vwCl (mT cm) s) {z0 : Int} {i : Int} (hi0 : 0 ≤ i) (hi : i + 6 ≤ n) {L : List Nat} {K : Int → Nat} {N : Int → Int} {v : Int → Int → Int} {g : Nat → Int} {a : Nat → Int → Int} (hz : ok L K z0 12) (hI : xI L K N v) (hM : mI g a) (hrLine : rLine g a) (hrLead : rLead g a) (hrSkill : rSkill g a) (hrSh : rSh g a) (hnow : v z0 0 = g 30) (hhands : v z0 11 = g 50) (hstolen : v (v z0 19) 1 = g 78) (htold : v (v z0 14) 5 = g 66) (hsize : v (v z0 2) 1 = g 1) (hsheets : v (v z0 3) 1 = g 18) (hsub : rSub v z0 a) (hhd : rHand v z0 g a) (hnw : rNews v z0 g a) (htx : rTxt v z0 g a) {nc ns : Nat} (hc : nc + 5 ≤ 600000) (hs : ns + 12100 ≤ 7302250) {H : Heap} {locs : List Loc} {ls : Array Slot} (hP : va_P (dC, dI) vwCl (mG am cm g a ++ xG L cid K N v) H) (hD : va_D (fun q : Nat => s.heap.size ≤ q) (mG am cm g a ++ xG L cid K N v)) (hS : va_S (fun q : Nat => s.heap.size ≤ q) s.heap H locs) (hl : lv_has ls 4 [(3, .int (iI i)), (2, .ref (am 0)), (1, .ref z0.toNat), (0, .ref b)])
    (kk : ∀ (L : List Nat) (K : Int → Nat) (N : Int → Int) (v : Int → Int → Int) (g : Nat → Int) (a : Nat → Int → Int) (nc1 ns1 : Nat) (H : Heap) (locs : List Loc), ok L K z0 12 → xI L K N v → mI g a → rLine g a → rLead g a → rSkill g a → rSh g a → v z0 0 = g 30 → v z0 11 = g 50 → v (v z0 19) 1 = g 78 → v (v z0 14) 5 = g 66 → v (v z0 2) 1 = g 1 → v (v z0 3) 1 = g 18 → rSub v z0 a → rHand v z0 g a → rNews v z0 g a → rTxt v z0 g a → nc1 ≤ nc + 5 → ns1 ≤ ns + 12100 → va_P (dC, dI) vwCl (mG am cm g a ++ xG L cid K N v) H → va_D (fun q : Nat => s.heap.size ≤ q) (mG am cm g a ++ xG L cid K N v) → va_S (fun q : Nat => s.heap.size ≤ q) s.heap H locs → W p l e room_1 s m #[Value.ref b] below meth c H locs nc1 ns1 (lw_Z below #[Value.ref b] s) (F0 m 1804 ls [])) : W p l e room_1 s m #[Value.ref b] below meth c H locs nc ns (lw_Z below #[Value.ref b] s) (F0 m 1398 ls []) := by
  obtain ⟨hx, hb, hr, hml, hown, hts, hX9, hbl, hlocks, hgv⟩ := id C0
  have hA : ∀ q : Nat, s.heap.size ≤ q → (fun q : Nat => s.heap.size ≤ q) q := fun _ h => h
  have hbA : ¬ (fun q : Nat => s.heap.size ≤ q) b := Nat.not_le.mpr hbl
  refine lv_aload_n hx hb dL_law_1398 rfl (lv_at hl 2 rfl) ?_
  refine lv_aload_n hx hb dL_law_1399 rfl (lv_at hl 3 rfl) ?_
  refine lv_iload_n hx hb dL_law_1400 rfl (lv_at hl 0 rfl) ?_
  refine lv_iconst (v := iI 1) hx hb dL_law_1401 rfl ?_
  refine xr_add hx hb dL_law_1402 ?_
  refine va_sld hx hb hX9 hbl hbA hS (xvp (t := i + 1) (by omega) (by omega) hn) dL_law_1403 ?_
  obtain ⟨p_1, h_2, r_3⟩ : ∃ y : Int, xs (iI (i + 1)).toNatClampNeg = iI y ∧ rg y := ⟨_, iI_of _, rg_of _⟩
  refine jt_i (iI p_1) h_2 ?_
  refine lv_aload_n hx hb dL_law_1404 rfl (lv_at hl 3 rfl) ?_
  refine lv_iload_n hx hb dL_law_1405 rfl (lv_at hl 0 rfl) ?_
  refine lv_iconst (v := iI 2) hx hb dL_law_1406 rfl ?_
  refine xr_add hx hb dL_law_1407 ?_
  refine va_sld hx hb hX9 hbl hbA hS (xvp (t := i + 2) (by omega) (by omega) hn) dL_law_1408 ?_
  obtain ⟨p_4, h_5, r_6⟩ : ∃ y : Int, xs (iI (i + 2)).toNatClampNeg = iI y ∧ rg y := ⟨_, iI_of _, rg_of _⟩
  refine jt_i (iI p_4) h_5 ?_
  refine lv_aload_n hx hb dL_law_1409 rfl (lv_at hl 3 rfl) ?_
  refine lv_iload_n hx hb dL_law_1410 rfl (lv_at hl 0 rfl) ?_
  refine lv_iconst (v := iI 3) hx hb dL_law_1411 rfl ?_
  refine xr_add hx hb dL_law_1412 ?_
  refine va_sld hx hb hX9 hbl hbA hS (xvp (t := i + 3) (by omega) (by omega) hn) dL_law_1413 ?_
  obtain ⟨p_7, h_8, r_9⟩ : ∃ y : Int, xs (iI (i + 3)).toNatClampNeg = iI y ∧ rg y := ⟨_, iI_of _, rg_of _⟩
  refine jt_i (iI p_7) h_8 ?_
  have hPx := jp_tail hP
  have hDx := jd_tail hD
  refine jct_i (va_runV (As := [.int (iI p_1), .int (iI p_4), .int (iI p_7)]) (rest := []) ⟨hx, hb, hml, hown, hts⟩ (sX12_subscribe l dC dI _ L cid K N tW sK sV v z0 p_1 p_4 p_7 hI hz r_3 r_6 r_9) (cwV 3 hts (jgoodVL m_1595 m_1596 m_1597 m_873 m_1598) rfl rfl rfl (by decide +kernel) ⟨(Nat.le_of_ble_eq_true rfl), (Nat.le_of_ble_eq_true rfl)⟩) ⟨xP_blind, xrecv hKx hPx hz rfl rfl, fun U hU hW => ⟨rfl, xP_of hU hW hPx hKx hDx hXx hS (fun _ h => h) hA⟩⟩ rfl rfl hl.1 rfl (lv_room (Nat.le_of_ble_eq_true rfl)) dL_law_1414 ⟨(show nc + 0 ≤ 600000 by omega), (show ns + 0 ≤ 7302250 by omega)⟩) hP hD hS hA (fun r v_16 H locs w_11 hP hKx hD hS => ?_)
  obtain ⟨x_10, rfl, I_17, f_18, f_12, f_13, f_14, f_15⟩ := w_11
  have hP : va_P (dC, dI) vwCl (mG am cm g a ++ xG L cid K N v_16) H := hP
  have hD : va_D (fun q : Nat => s.heap.size ≤ q) (mG am cm g a ++ xG L cid K N v_16) := hD
  have f_14 : iF (x_10 = 0) (v_16 = v) := f_14
  have f_15 : iF (x_10 = 1) (v_16 = vu (vu v (v z0 15) p_1 p_4) (v z0 16) p_1 p_7) := f_15
  have h_19 : v_16 z0 0 = g 30 := (fr_use hz f_18 rfl).trans hnow
  have h_20 : v_16 z0 11 = g 50 := (fr_use hz f_18 rfl).trans hhands
  have h_22 : ok L K (v z0 19) 10 := xf_12_19 hI hz
  have b_23 : v_16 z0 19 = v z0 19 := fr_use hz f_18 rfl
  have b_24 : v_16 (v z0 19) 1 = v (v z0 19) 1 := fr_use h_22 f_18 rfl
  have h_21 : v_16 (v_16 z0 19) 1 = g 78 := by rw [b_23, b_24]; exact hstolen
  have h_26 : ok L K (v z0 14) 5 := xf_12_14 hI hz
  have b_27 : v_16 z0 14 = v z0 14 := fr_use hz f_18 rfl
  have b_28 : v_16 (v z0 14) 5 = v (v z0 14) 5 := fr_use h_26 f_18 rfl
  have h_25 : v_16 (v_16 z0 14) 5 = g 66 := by rw [b_27, b_28]; exact htold
  have h_30 : ok L K (v z0 2) 7 := xf_12_2 hI hz
  have b_31 : v_16 z0 2 = v z0 2 := fr_use hz f_18 rfl
  have b_32 : v_16 (v z0 2) 1 = v (v z0 2) 1 := fr_use h_30 f_18 rfl
  have h_29 : v_16 (v_16 z0 2) 1 = g 1 := by rw [b_31, b_32]; exact hsize
  have h_34 : ok L K (v z0 3) 8 := xf_12_3 hI hz
  have b_35 : v_16 z0 3 = v z0 3 := fr_use hz f_18 rfl
  have b_36 : v_16 (v z0 3) 1 = v (v z0 3) 1 := fr_use h_34 f_18 rfl
  have h_33 : v_16 (v_16 z0 3) 1 = g 18 := by rw [b_35, b_36]; exact hsheets
  have h_37 : rHand v_16 z0 g a := rHand_x hI hz (frE_of f_18) rfl (fun _ => rfl) rfl hhd
  have h_38 : rNews v_16 z0 g a := rNews_x hI hz (frE_of f_18) rfl (fun _ => rfl) (fun _ => rfl) (fun _ => rfl) (fun _ => rfl) (fun _ => rfl) rfl rfl rfl rfl rfl hnw
  have h_39 : rTxt v_16 z0 g a := rTxt_x hI hz (frE_of f_18) rfl rfl rfl (fun _ => rfl) htx
  refine lv_pop hx hb dL_law_1417 rfl ?_
  refine lv_aload_n hx hb dL_law_1418 rfl (lv_at hl 1 rfl) ?_
  refine lv_aload_n hx hb dL_law_1419 rfl (lv_at hl 3 rfl) ?_
  refine lv_iload_n hx hb dL_law_1420 rfl (lv_at hl 0 rfl) ?_
  refine lv_iconst (v := iI 1) hx hb dL_law_1421 rfl ?_
  refine xr_add hx hb dL_law_1422 ?_
  refine va_sld hx hb hX9 hbl hbA hS (xvp (t := i + 1) (by omega) (by omega) hn) dL_law_1423 ?_
  refine jt_i (iI p_1) h_2 ?_
  refine lv_aload_n hx hb dL_law_1424 rfl (lv_at hl 3 rfl) ?_
  refine lv_iload_n hx hb dL_law_1425 rfl (lv_at hl 0 rfl) ?_
  refine lv_iconst (v := iI 2) hx hb dL_law_1426 rfl ?_
  refine xr_add hx hb dL_law_1427 ?_
  refine va_sld hx hb hX9 hbl hbA hS (xvp (t := i + 2) (by omega) (by omega) hn) dL_law_1428 ?_
  refine jt_i (iI p_4) h_5 ?_
  refine lv_aload_n hx hb dL_law_1429 rfl (lv_at hl 3 rfl) ?_
  refine lv_iload_n hx hb dL_law_1430 rfl (lv_at hl 0 rfl) ?_
  refine lv_iconst (v := iI 3) hx hb dL_law_1431 rfl ?_
  refine xr_add hx hb dL_law_1432 ?_
  refine va_sld hx hb hX9 hbl hbA hS (xvp (t := i + 3) (by omega) (by omega) hn) dL_law_1433 ?_
  refine jt_i (iI p_7) h_8 ?_
  obtain ⟨hP, hD⟩ := lsw hP hD
  have hPm := jp_tail hP
  have hDm := jd_tail hD
  refine jct_i (va_runV (As := [.int (iI p_1), .int (iI p_4), .int (iI p_7)]) (rest := []) ⟨hx, hb, hml, hown, hts⟩ (sX13_subscribe l dC dI _ am cm g a p_1 p_4 p_7 hM r_3 r_6 r_9) (cwV 3 hts (jgoodVL m_1599 m_476 m_477 m_503 m_206) rfl rfl rfl (by decide +kernel) ⟨(Nat.le_of_ble_eq_true rfl), (Nat.le_of_ble_eq_true rfl)⟩) ⟨jw_blind, va_recv hKm hPm (ci := 13) (q0 := 0) rfl rfl, fun U hU hW => ⟨rfl, jw_of hU hW hPm hKm hDm⟩⟩ rfl rfl hl.1 rfl (lv_room (Nat.le_of_ble_eq_true rfl)) dL_law_1434 ⟨(show nc + 0 ≤ 600000 by omega), (show ns + 0 ≤ 7302250 by omega)⟩) hP hD hS hA (fun r u_42 H locs w_41 hP hKm hD hS => ?_)
  obtain ⟨g_43, a_44⟩ := u_42
  obtain ⟨y_40, rfl, h_45, h_46, h_47, h_48, h_49, h_50, h_51⟩ := w_41
  have hP : va_P (dC, dI) vwCl (xG L cid K N v_16 ++ mG am cm g_43 a_44) H := hP
  have hD : va_D (fun q : Nat => s.heap.size ≤ q) (xG L cid K N v_16 ++ mG am cm g_43 a_44) := hD
  have h_45 : g_43 = g := h_45
  have h_46 : mI g_43 a_44 := h_46
  have h_50 : oF (y_40 = 1) (a_44 60 = a 60) := h_50
  have h_51 : oF (y_40 = 0) (a_44 60 = up (a 60) p_1 p_7) := h_51
  have h_52 : rLine g_43 a_44 := rLine_t (congrFun h_45 56) (h_47 45 (by decide)) hrLine
  have h_53 : rLead g_43 a_44 := rLead_t (congrFun h_45 37) (h_47 27 (by decide)) (h_47 31 (by decide)) hrLead
  have h_54 : rSkill g_43 a_44 := rSkill_t (congrFun h_45 50) (h_47 38 (by decide)) hrSkill
  have h_55 : rSh g_43 a_44 := rSh_t (congrFun h_45 18) (congrFun h_45 26) (h_47 9 (by decide)) (h_47 10 (by decide)) (h_47 11 (by decide)) (h_47 12 (by decide)) (h_47 16 (by decide)) hrSh
  have h_56 : v_16 z0 0 = g_43 30 := h_19.trans (congrFun h_45 30).symm
  have h_57 : v_16 z0 11 = g_43 50 := h_20.trans (congrFun h_45 50).symm
  have h_58 : v_16 (v_16 z0 19) 1 = g_43 78 := h_21.trans (congrFun h_45 78).symm
  have h_59 : v_16 (v_16 z0 14) 5 = g_43 66 := h_25.trans (congrFun h_45 66).symm
  have h_60 : v_16 (v_16 z0 2) 1 = g_43 1 := h_29.trans (congrFun h_45 1).symm
  have h_61 : v_16 (v_16 z0 3) 1 = g_43 18 := h_33.trans (congrFun h_45 18).symm
  have i9 := hsub p_1
  have h_62 : rSub v_16 z0 a_44 := by
    rcases (show x_10 = 0 ∨ x_10 = 1 by omega) with q9 | q9
    · rw [f_14 q9]; exact rSub_m ((h_50).resolve_left (by omega)) hsub
    · exact rSub_new hI hz (f_15 q9) ((h_51).resolve_left (by omega)) (by omega) (by omega) hsub
  have h_63 : rHand v_16 z0 g_43 a_44 := rHand_m (congrFun h_45 50) (h_47 41 (by decide)) h_37
  have h_64 : rNews v_16 z0 g_43 a_44 := rNews_m (congrFun h_45 66) (h_47 51 (by decide)) (h_47 52 (by decide)) (h_47 53 (by decide)) (h_47 54 (by decide)) h_38
  have h_65 : rTxt v_16 z0 g_43 a_44 := rTxt_m (congrFun h_45 1) (h_47 1 (by decide)) h_39
  obtain ⟨hP, hD⟩ := lsw hP hD
  refine lv_pop hx hb dL_law_1437 rfl ?_
  refine lv_goto (tgt := 1804) hx hb dL_law_1438 (by decide) ?_
  exact kk L K N v_16 g_43 a_44 _ _ H locs hz I_17 h_46 h_52 h_53 h_54 h_55 h_56 h_57 h_58 h_59 h_60 h_61 h_62 h_63 h_64 h_65 (by omega) (by omega) hP hD hS
