set_option maxHeartbeats 4000000 in
set_option maxRecDepth 100000 in
theorem lc_29 {p : Program} {l : Launch} {e : Env} {s : State} {m : MethodId} {below : List Frame} {meth : Method} {c : Code} {b n : Nat} {xs : Nat → Int32} (C0 : lw_At p s m meth c b n xs) (hn : n ≤ 3072) {dC : Nat → ClassId} {dI : Nat → Nat → Nat} {am : Nat → Nat} {cm cid : Nat → ClassId} {tW : Nat} {sK sV : Nat → Nat} (hXx : xX tW sK sV (fun q : Nat => s.heap.size ≤ q) s s.heap) (hKx : va_K (dC, dI) vwCl (xT cid) s) (hKm : va_K (dC, dI) vwCl (mT cm) s) {z0 : Int} {i : Int} (hi0 : 0 ≤ i) (hi : i + 6 ≤ n) {L : List Nat} {K : Int → Nat} {N : Int → Int} {v : Int → Int → Int} {g : Nat → Int} {a : Nat → Int → Int} (hz : ok L K z0 12) (hI : xI L K N v) (hM : mI g a) (hrLine : rLine g a) (hrLead : rLead g a) (hrSkill : rSkill g a) (hrSh : rSh g a) (hnow : v z0 0 = g 30) (hhands : v z0 11 = g 50) (hstolen : v (v z0 19) 1 = g 78) (htold : v (v z0 14) 5 = g 66) (hsub : rSub v z0 a) (hhd : rHand v z0 g a) (hnw : rNews v z0 g a) {nc ns : Nat} (hc : nc + 5 ≤ 600000) (hs : ns + 12100 ≤ 7302250) {H : Heap} {locs : List Loc} {ls : Array Slot} (hP : va_P (dC, dI) vwCl (mG am cm g a ++ xG L cid K N v) H) (hD : va_D (fun q : Nat => s.heap.size ≤ q) (mG am cm g a ++ xG L cid K N v)) (hS : va_S (fun q : Nat => s.heap.size ≤ q) s.heap H locs) (hl : lv_has ls 4 [(3, .int (iI i)), (2, .ref (am 0)), (1, .ref z0.toNat), (0, .ref b)])
    (kk : ∀ (L : List Nat) (K : Int → Nat) (N : Int → Int) (v : Int → Int → Int) (g : Nat → Int) (a : Nat → Int → Int) (nc1 ns1 : Nat) (H : Heap) (locs : List Loc), ok L K z0 12 → xI L K N v → mI g a → rLine g a → rLead g a → rSkill g a → rSh g a → v z0 0 = g 30 → v z0 11 = g 50 → v (v z0 19) 1 = g 78 → v (v z0 14) 5 = g 66 → rSub v z0 a → rHand v z0 g a → rNews v z0 g a → nc1 ≤ nc + 5 → ns1 ≤ ns + 12100 → va_P (dC, dI) vwCl (mG am cm g a ++ xG L cid K N v) H → va_D (fun q : Nat => s.heap.size ≤ q) (mG am cm g a ++ xG L cid K N v) → va_S (fun q : Nat => s.heap.size ≤ q) s.heap H locs → W p l e room_1 s m #[Value.ref b] below meth c H locs nc1 ns1 (lw_Z below #[Value.ref b] s) (F0 m 1804 ls [])) : W p l e room_1 s m #[Value.ref b] below meth c H locs nc ns (lw_Z below #[Value.ref b] s) (F0 m 1227 ls []) := by
  obtain ⟨hx, hb, hr, hml, hown, hts, hX9, hbl, hlocks, hgv⟩ := id C0
  have hA : ∀ q : Nat, s.heap.size ≤ q → (fun q : Nat => s.heap.size ≤ q) q := fun _ h => h
  have hbA : ¬ (fun q : Nat => s.heap.size ≤ q) b := Nat.not_le.mpr hbl
  refine lv_aload_n hx hb dL_law_1227 rfl (lv_at hl 2 rfl) ?_
  refine lv_aload_n hx hb dL_law_1228 rfl (lv_at hl 3 rfl) ?_
  refine lv_iload_n hx hb dL_law_1229 rfl (lv_at hl 0 rfl) ?_
  refine lv_iconst (v := iI 1) hx hb dL_law_1230 rfl ?_
  refine xr_add hx hb dL_law_1231 ?_
  refine va_sld hx hb hX9 hbl hbA hS (xvp (t := i + 1) (by omega) (by omega) hn) dL_law_1232 ?_
  obtain ⟨p_1, h_2, r_3⟩ : ∃ y : Int, xs (iI (i + 1)).toNatClampNeg = iI y ∧ rg y := ⟨_, iI_of _, rg_of _⟩
  refine jt_i (iI p_1) h_2 ?_
  have hPx := jp_tail hP
  have hDx := jd_tail hD
  refine jc_i (va_runV (As := [.int (iI p_1)]) (rest := []) ⟨hx, hb, hml, hown, hts⟩ (sX12_misses l dC dI _ L cid K N tW sK sV v z0 p_1 hI hz r_3) (cwV 1 hts (jgoodVL m_1560 m_1561 m_1562 m_873 m_1563) rfl rfl rfl (by decide +kernel) ⟨(Nat.le_of_ble_eq_true rfl), (Nat.le_of_ble_eq_true rfl)⟩) ⟨xP_blind, xrecv hKx hPx hz rfl rfl, fun U hU hW => ⟨rfl, xP_of hU hW hPx hKx hDx hXx hS (fun _ h => h) hA⟩⟩ rfl rfl hl.1 rfl (lv_room (Nat.le_of_ble_eq_true rfl)) dL_law_1233 ⟨(show nc + 0 ≤ 600000 by omega), (show ns + 0 ≤ 7302250 by omega)⟩) hP hS hA (fun r H locs w_5 hP hS => ?_)
  obtain ⟨x_4, rfl, f_6⟩ := w_5
  refine lv_pop hx hb dL_law_1236 rfl ?_
  refine lv_aload_n hx hb dL_law_1237 rfl (lv_at hl 1 rfl) ?_
  refine lv_aload_n hx hb dL_law_1238 rfl (lv_at hl 3 rfl) ?_
  refine lv_iload_n hx hb dL_law_1239 rfl (lv_at hl 0 rfl) ?_
  refine lv_iconst (v := iI 1) hx hb dL_law_1240 rfl ?_
  refine xr_add hx hb dL_law_1241 ?_
  refine va_sld hx hb hX9 hbl hbA hS (xvp (t := i + 1) (by omega) (by omega) hn) dL_law_1242 ?_
  refine jt_i (iI p_1) h_2 ?_
  obtain ⟨hP, hD⟩ := lsw hP hD
  have hPm := jp_tail hP
  have hDm := jd_tail hD
  refine jct_i (va_runV (As := [.int (iI p_1)]) (rest := []) ⟨hx, hb, hml, hown, hts⟩ (sX13_misses l dC dI _ am cm g a p_1 hM r_3) (cwV 1 hts (jgoodVL m_1564 m_424 m_425 m_503 m_179) rfl rfl rfl (by decide +kernel) ⟨(Nat.le_of_ble_eq_true rfl), (Nat.le_of_ble_eq_true rfl)⟩) ⟨jw_blind, va_recv hKm hPm (ci := 13) (q0 := 0) rfl rfl, fun U hU hW => ⟨rfl, jw_of hU hW hPm hKm hDm⟩⟩ rfl rfl hl.1 rfl (lv_room (Nat.le_of_ble_eq_true rfl)) dL_law_1243 ⟨(show nc + 0 ≤ 600000 by omega), (show ns + 0 ≤ 7302250 by omega)⟩) hP hD hS hA (fun r u_9 H locs w_8 hP hKm hD hS => ?_)
  obtain ⟨g_10, a_11⟩ := u_9
  obtain ⟨y_7, rfl, h_12, h_13, h_14, h_15⟩ := w_8
  have hP : va_P (dC, dI) vwCl (xG L cid K N v ++ mG am cm g_10 a_11) H := hP
  have hD : va_D (fun q : Nat => s.heap.size ≤ q) (xG L cid K N v ++ mG am cm g_10 a_11) := hD
  have h_12 : mI g_10 a_11 := h_12
  have h_16 : rLine g_10 a_11 := rLine_t (h_13 56 (by decide)) (h_14 45 (by decide)) hrLine
  have h_17 : rLead g_10 a_11 := rLead_t (h_13 37 (by decide)) (h_14 27 (by decide)) (h_14 31 (by decide)) hrLead
  have h_18 : rSkill g_10 a_11 := rSkill_t (h_13 50 (by decide)) (h_14 38 (by decide)) hrSkill
  have h_19 : rSh g_10 a_11 := rSh_t (h_13 18 (by decide)) (h_13 26 (by decide)) (h_14 9 (by decide)) (h_14 10 (by decide)) (h_14 11 (by decide)) (h_14 12 (by decide)) (h_14 16 (by decide)) hrSh
  have h_20 : v z0 0 = g_10 30 := hnow.trans (h_13 30 (by decide)).symm
  have h_21 : v z0 11 = g_10 50 := hhands.trans (h_13 50 (by decide)).symm
  have h_22 : v (v z0 19) 1 = g_10 78 := hstolen.trans (h_13 78 (by decide)).symm
  have h_23 : v (v z0 14) 5 = g_10 66 := htold.trans (h_13 66 (by decide)).symm
  have h_24 : rSub v z0 a_11 := rSub_m (h_14 60 (by decide)) hsub
  have h_25 : rHand v z0 g_10 a_11 := rHand_m (h_13 50 (by decide)) (h_14 41 (by decide)) hhd
  have h_26 : rNews v z0 g_10 a_11 := rNews_m (h_13 66 (by decide)) (h_14 51 (by decide)) (h_14 52 (by decide)) (h_14 53 (by decide)) (h_14 54 (by decide)) hnw
  obtain ⟨hP, hD⟩ := lsw hP hD
  refine lv_pop hx hb dL_law_1246 rfl ?_
  refine lv_goto (tgt := 1804) hx hb dL_law_1247 (by decide) ?_
  exact kk L K N v g_10 a_11 _ _ H locs hz hI h_12 h_16 h_17 h_18 h_19 h_20 h_21 h_22 h_23 h_24 h_25 h_26 (by omega) (by omega) hP hD hS
set_option maxHeartbeats 4000000 in
set_option maxRecDepth 100000 in
theorem lc_30 {p : Program} {l : Launch} {e : Env} {s : State} {m : MethodId} {below : List Frame} {meth : Method} {c : Code} {b n : Nat} {xs : Nat → Int32} (C0 : lw_At p s m meth c b n xs) (hn : n ≤ 3072) {dC : Nat → ClassId} {dI : Nat → Nat → Nat} {am : Nat → Nat} {cm cid : Nat → ClassId} {tW : Nat} {sK sV : Nat → Nat} (hXx : xX tW sK sV (fun q : Nat => s.heap.size ≤ q) s s.heap) (hKx : va_K (dC, dI) vwCl (xT cid) s) (hKm : va_K (dC, dI) vwCl (mT cm) s) {z0 : Int} {i : Int} (hi0 : 0 ≤ i) (hi : i + 6 ≤ n) {L : List Nat} {K : Int → Nat} {N : Int → Int} {v : Int → Int → Int} {g : Nat → Int} {a : Nat → Int → Int} (hz : ok L K z0 12) (hI : xI L K N v) (hM : mI g a) (hrLine : rLine g a) (hrLead : rLead g a) (hrSkill : rSkill g a) (hrSh : rSh g a) (hnow : v z0 0 = g 30) (hhands : v z0 11 = g 50) (hstolen : v (v z0 19) 1 = g 78) (htold : v (v z0 14) 5 = g 66) (hsub : rSub v z0 a) (hhd : rHand v z0 g a) (hnw : rNews v z0 g a) {nc ns : Nat} (hc : nc + 5 ≤ 600000) (hs : ns + 12100 ≤ 7302250) {H : Heap} {locs : List Loc} {ls : Array Slot} (hP : va_P (dC, dI) vwCl (mG am cm g a ++ xG L cid K N v) H) (hD : va_D (fun q : Nat => s.heap.size ≤ q) (mG am cm g a ++ xG L cid K N v)) (hS : va_S (fun q : Nat => s.heap.size ≤ q) s.heap H locs) (hl : lv_has ls 4 [(3, .int (iI i)), (2, .ref (am 0)), (1, .ref z0.toNat), (0, .ref b)])
    (kk : ∀ (L : List Nat) (K : Int → Nat) (N : Int → Int) (v : Int → Int → Int) (g : Nat → Int) (a : Nat → Int → Int) (nc1 ns1 : Nat) (H : Heap) (locs : List Loc), ok L K z0 12 → xI L K N v → mI g a → rLine g a → rLead g a → rSkill g a → rSh g a → v z0 0 = g 30 → v z0 11 = g 50 → v (v z0 19) 1 = g 78 → v (v z0 14) 5 = g 66 → rSub v z0 a → rHand v z0 g a → rNews v z0 g a → nc1 ≤ nc + 5 → ns1 ≤ ns + 12100 → va_P (dC, dI) vwCl (mG am cm g a ++ xG L cid K N v) H → va_D (fun q : Nat => s.heap.size ≤ q) (mG am cm g a ++ xG L cid K N v) → va_S (fun q : Nat => s.heap.size ≤ q) s.heap H locs → W p l e room_1 s m #[Value.ref b] below meth c H locs nc1 ns1 (lw_Z below #[Value.ref b] s) (F0 m 1804 ls [])) : W p l e room_1 s m #[Value.ref b] below meth c H locs nc ns (lw_Z below #[Value.ref b] s) (F0 m 1250 ls []) := by
  obtain ⟨hx, hb, hr, hml, hown, hts, hX9, hbl, hlocks, hgv⟩ := id C0
  have hA : ∀ q : Nat, s.heap.size ≤ q → (fun q : Nat => s.heap.size ≤ q) q := fun _ h => h
  have hbA : ¬ (fun q : Nat => s.heap.size ≤ q) b := Nat.not_le.mpr hbl
  refine lv_aload_n hx hb dL_law_1250 rfl (lv_at hl 2 rfl) ?_
  refine lv_aload_n hx hb dL_law_1251 rfl (lv_at hl 3 rfl) ?_
  refine lv_iload_n hx hb dL_law_1252 rfl (lv_at hl 0 rfl) ?_
  refine lv_iconst (v := iI 1) hx hb dL_law_1253 rfl ?_
  refine xr_add hx hb dL_law_1254 ?_
  refine va_sld hx hb hX9 hbl hbA hS (xvp (t := i + 1) (by omega) (by omega) hn) dL_law_1255 ?_
  obtain ⟨p_1, h_2, r_3⟩ : ∃ y : Int, xs (iI (i + 1)).toNatClampNeg = iI y ∧ rg y := ⟨_, iI_of _, rg_of _⟩
  refine jt_i (iI p_1) h_2 ?_
  refine lv_aload_n hx hb dL_law_1256 rfl (lv_at hl 3 rfl) ?_
  refine lv_iload_n hx hb dL_law_1257 rfl (lv_at hl 0 rfl) ?_
  refine lv_iconst (v := iI 2) hx hb dL_law_1258 rfl ?_
  refine xr_add hx hb dL_law_1259 ?_
  refine va_sld hx hb hX9 hbl hbA hS (xvp (t := i + 2) (by omega) (by omega) hn) dL_law_1260 ?_
  obtain ⟨p_4, h_5, r_6⟩ : ∃ y : Int, xs (iI (i + 2)).toNatClampNeg = iI y ∧ rg y := ⟨_, iI_of _, rg_of _⟩
  refine jt_i (iI p_4) h_5 ?_
  have hPx := jp_tail hP
  have hDx := jd_tail hD
  refine jc_i (va_runV (As := [.int (iI p_1), .int (iI p_4)]) (rest := []) ⟨hx, hb, hml, hown, hts⟩ (sX12_told l dC dI _ L cid K N tW sK sV v z0 p_1 p_4 hI hz r_3 r_6) (cwV 2 hts (jgoodVL m_1565 m_1566 m_1567 m_873 m_1568) rfl rfl rfl (by decide +kernel) ⟨(Nat.le_of_ble_eq_true rfl), (Nat.le_of_ble_eq_true rfl)⟩) ⟨xP_blind, xrecv hKx hPx hz rfl rfl, fun U hU hW => ⟨rfl, xP_of hU hW hPx hKx hDx hXx hS (fun _ h => h) hA⟩⟩ rfl rfl hl.1 rfl (lv_room (Nat.le_of_ble_eq_true rfl)) dL_law_1261 ⟨(show nc + 0 ≤ 600000 by omega), (show ns + 0 ≤ 7302250 by omega)⟩) hP hS hA (fun r H locs w_8 hP hS => ?_)
  obtain ⟨x_7, rfl, f_9⟩ := w_8
  refine lv_pop hx hb dL_law_1264 rfl ?_
  refine lv_aload_n hx hb dL_law_1265 rfl (lv_at hl 1 rfl) ?_
  refine lv_aload_n hx hb dL_law_1266 rfl (lv_at hl 3 rfl) ?_
  refine lv_iload_n hx hb dL_law_1267 rfl (lv_at hl 0 rfl) ?_
  refine lv_iconst (v := iI 1) hx hb dL_law_1268 rfl ?_
  refine xr_add hx hb dL_law_1269 ?_
  refine va_sld hx hb hX9 hbl hbA hS (xvp (t := i + 1) (by omega) (by omega) hn) dL_law_1270 ?_
  refine jt_i (iI p_1) h_2 ?_
  refine lv_aload_n hx hb dL_law_1271 rfl (lv_at hl 3 rfl) ?_
  refine lv_iload_n hx hb dL_law_1272 rfl (lv_at hl 0 rfl) ?_
  refine lv_iconst (v := iI 2) hx hb dL_law_1273 rfl ?_
  refine xr_add hx hb dL_law_1274 ?_
  refine va_sld hx hb hX9 hbl hbA hS (xvp (t := i + 2) (by omega) (by omega) hn) dL_law_1275 ?_
  refine jt_i (iI p_4) h_5 ?_
  obtain ⟨hP, hD⟩ := lsw hP hD
  have hPm := jp_tail hP
  have hDm := jd_tail hD
  refine jct_i (va_runV (As := [.int (iI p_1), .int (iI p_4)]) (rest := []) ⟨hx, hb, hml, hown, hts⟩ (sX13_told l dC dI _ am cm g a p_1 p_4 hM r_3 r_6) (cwV 2 hts (jgoodVL m_1569 m_488 m_489 m_503 m_212) rfl rfl rfl (by decide +kernel) ⟨(Nat.le_of_ble_eq_true rfl), (Nat.le_of_ble_eq_true rfl)⟩) ⟨jw_blind, va_recv hKm hPm (ci := 13) (q0 := 0) rfl rfl, fun U hU hW => ⟨rfl, jw_of hU hW hPm hKm hDm⟩⟩ rfl rfl hl.1 rfl (lv_room (Nat.le_of_ble_eq_true rfl)) dL_law_1276 ⟨(show nc + 0 ≤ 600000 by omega), (show ns + 0 ≤ 7302250 by omega)⟩) hP hD hS hA (fun r u_12 H locs w_11 hP hKm hD hS => ?_)
  obtain ⟨g_13, a_14⟩ := u_12
  obtain ⟨y_10, rfl, h_15, h_16, h_17, h_18⟩ := w_11
  have hP : va_P (dC, dI) vwCl (xG L cid K N v ++ mG am cm g_13 a_14) H := hP
  have hD : va_D (fun q : Nat => s.heap.size ≤ q) (xG L cid K N v ++ mG am cm g_13 a_14) := hD
  have h_15 : mI g_13 a_14 := h_15
  have h_19 : rLine g_13 a_14 := rLine_t (h_16 56 (by decide)) (h_17 45 (by decide)) hrLine
  have h_20 : rLead g_13 a_14 := rLead_t (h_16 37 (by decide)) (h_17 27 (by decide)) (h_17 31 (by decide)) hrLead
  have h_21 : rSkill g_13 a_14 := rSkill_t (h_16 50 (by decide)) (h_17 38 (by decide)) hrSkill
  have h_22 : rSh g_13 a_14 := rSh_t (h_16 18 (by decide)) (h_16 26 (by decide)) (h_17 9 (by decide)) (h_17 10 (by decide)) (h_17 11 (by decide)) (h_17 12 (by decide)) (h_17 16 (by decide)) hrSh
  have h_23 : v z0 0 = g_13 30 := hnow.trans (h_16 30 (by decide)).symm
  have h_24 : v z0 11 = g_13 50 := hhands.trans (h_16 50 (by decide)).symm
  have h_25 : v (v z0 19) 1 = g_13 78 := hstolen.trans (h_16 78 (by decide)).symm
  have h_26 : v (v z0 14) 5 = g_13 66 := htold.trans (h_16 66 (by decide)).symm
  have h_27 : rSub v z0 a_14 := rSub_m (h_17 60 (by decide)) hsub
  have h_28 : rHand v z0 g_13 a_14 := rHand_m (h_16 50 (by decide)) (h_17 41 (by decide)) hhd
  have h_29 : rNews v z0 g_13 a_14 := rNews_m (h_16 66 (by decide)) (h_17 51 (by decide)) (h_17 52 (by decide)) (h_17 53 (by decide)) (h_17 54 (by decide)) hnw
  obtain ⟨hP, hD⟩ := lsw hP hD
  refine lv_pop hx hb dL_law_1279 rfl ?_
  refine lv_goto (tgt := 1804) hx hb dL_law_1280 (by decide) ?_
  exact kk L K N v g_13 a_14 _ _ H locs hz hI h_15 h_19 h_20 h_21 h_22 h_23 h_24 h_25 h_26 h_27 h_28 h_29 (by omega) (by omega) hP hD hS
set_option maxHeartbeats 4000000 in
set_option maxRecDepth 100000 in
theorem lc_31 {p : Program} {l : Launch} {e : Env} {s : State} {m : MethodId} {below : List Frame} {meth : Method} {c : Code} {b n : Nat} {xs : Nat → Int32} (C0 : lw_At p s m meth c b n xs) (hn : n ≤ 3072) {dC : Nat → ClassId} {dI : Nat → Nat → Nat} {am : Nat → Nat} {cm cid : Nat → ClassId} {tW : Nat} {sK sV : Nat → Nat} (hXx : xX tW sK sV (fun q : Nat => s.heap.size ≤ q) s s.heap) (hKx : va_K (dC, dI) vwCl (xT cid) s) (hKm : va_K (dC, dI) vwCl (mT cm) s) {z0 : Int} {i : Int} (hi0 : 0 ≤ i) (hi : i + 6 ≤ n) {L : List Nat} {K : Int → Nat} {N : Int → Int} {v : Int → Int → Int} {g : Nat → Int} {a : Nat → Int → Int} (hz : ok L K z0 12) (hI : xI L K N v) (hM : mI g a) (hrLine : rLine g a) (hrLead : rLead g a) (hrSkill : rSkill g a) (hrSh : rSh g a) (hnow : v z0 0 = g 30) (hhands : v z0 11 = g 50) (hstolen : v (v z0 19) 1 = g 78) (htold : v (v z0 14) 5 = g 66) (hsub : rSub v z0 a) (hhd : rHand v z0 g a) (hnw : rNews v z0 g a) {nc ns : Nat} (hc : nc + 5 ≤ 600000) (hs : ns + 12100 ≤ 7302250) {H : Heap} {locs : List Loc} {ls : Array Slot} (hP : va_P (dC, dI) vwCl (mG am cm g a ++ xG L cid K N v) H) (hD : va_D (fun q : Nat => s.heap.size ≤ q) (mG am cm g a ++ xG L cid K N v)) (hS : va_S (fun q : Nat => s.heap.size ≤ q) s.heap H locs) (hl : lv_has ls 4 [(3, .int (iI i)), (2, .ref (am 0)), (1, .ref z0.toNat), (0, .ref b)])
    (kk : ∀ (L : List Nat) (K : Int → Nat) (N : Int → Int) (v : Int → Int → Int) (g : Nat → Int) (a : Nat → Int → Int) (nc1 ns1 : Nat) (H : Heap) (locs : List Loc), ok L K z0 12 → xI L K N v → mI g a → rLine g a → rLead g a → rSkill g a → rSh g a → v z0 0 = g 30 → v z0 11 = g 50 → v (v z0 19) 1 = g 78 → v (v z0 14) 5 = g 66 → rSub v z0 a → rHand v z0 g a → rNews v z0 g a → nc1 ≤ nc + 5 → ns1 ≤ ns + 12100 → va_P (dC, dI) vwCl (mG am cm g a ++ xG L cid K N v) H → va_D (fun q : Nat => s.heap.size ≤ q) (mG am cm g a ++ xG L cid K N v) → va_S (fun q : Nat => s.heap.size ≤ q) s.heap H locs → W p l e room_1 s m #[Value.ref b] below meth c H locs nc1 ns1 (lw_Z below #[Value.ref b] s) (F0 m 1804 ls [])) : W p l e room_1 s m #[Value.ref b] below meth c H locs nc ns (lw_Z below #[Value.ref b] s) (F0 m 1283 ls []) := by
  obtain ⟨hx, hb, hr, hml, hown, hts, hX9, hbl, hlocks, hgv⟩ := id C0
  have hA : ∀ q : Nat, s.heap.size ≤ q → (fun q : Nat => s.heap.size ≤ q) q := fun _ h => h
  have hbA : ¬ (fun q : Nat => s.heap.size ≤ q) b := Nat.not_le.mpr hbl
  refine lv_aload_n hx hb dL_law_1283 rfl (lv_at hl 2 rfl) ?_
  refine lv_aload_n hx hb dL_law_1284 rfl (lv_at hl 3 rfl) ?_
  refine lv_iload_n hx hb dL_law_1285 rfl (lv_at hl 0 rfl) ?_
  refine lv_iconst (v := iI 1) hx hb dL_law_1286 rfl ?_
  refine xr_add hx hb dL_law_1287 ?_
  refine va_sld hx hb hX9 hbl hbA hS (xvp (t := i + 1) (by omega) (by omega) hn) dL_law_1288 ?_
  obtain ⟨p_1, h_2, r_3⟩ : ∃ y : Int, xs (iI (i + 1)).toNatClampNeg = iI y ∧ rg y := ⟨_, iI_of _, rg_of _⟩
  refine jt_i (iI p_1) h_2 ?_
  have hPx := jp_tail hP
  have hDx := jd_tail hD
  refine jct_i (va_runV (As := [.int (iI p_1)]) (rest := []) ⟨hx, hb, hml, hown, hts⟩ (sX12_set l dC dI _ L cid K N tW sK sV v z0 p_1 hI hz r_3) (cwV 1 hts (jgoodVL m_1570 m_1571 m_1572 m_873 m_1573) rfl rfl rfl (by decide +kernel) ⟨(Nat.le_of_ble_eq_true rfl), (Nat.le_of_ble_eq_true rfl)⟩) ⟨xP_blind, xrecv hKx hPx hz rfl rfl, fun U hU hW => ⟨rfl, xP_of hU hW hPx hKx hDx hXx hS (fun _ h => h) hA⟩⟩ rfl rfl hl.1 rfl (lv_room (Nat.le_of_ble_eq_true rfl)) dL_law_1289 ⟨(show nc + 2 ≤ 600000 by omega), (show ns + 12060 ≤ 7302250 by omega)⟩) hP hD hS hA (fun r u_7 H locs w_5 hP hKx hD hS => ?_)
  obtain ⟨L_8, K_9, N_10, v_11⟩ := u_7
  obtain ⟨x_4, rfl, I_12, E_13, f_14, f_6⟩ := w_5
  have hP : va_P (dC, dI) vwCl (mG am cm g a ++ xG L_8 cid K_9 N_10 v_11) H := hP
  have hD : va_D (fun q : Nat => s.heap.size ≤ q) (mG am cm g a ++ xG L_8 cid K_9 N_10 v_11) := hD
  have I_12 : xI L_8 K_9 N_10 v_11 := I_12
  have E_13 : xE L K N L_8 K_9 N_10 := E_13
  have f_14 : frE L K [(0, 5), (0, 12), (0, 13), (4, 7), (6, 1), (6, 2), (6, 3), (6, 4), (6, 5), (11, 1), (11, 2), (11, 3), (11, 4), (11, 5), (11, 6), (12, 1), (12, 9), (33, (-1)), (34, (-1)), (37, (-1)), (63, (-1)), (64, (-1)), (99, 0)] v_11 v := f_14
  have h_16 : v_11 z0 0 = g 30 := (frE_use hz f_14 rfl).trans hnow
  have h_17 : v_11 z0 11 = g 50 := (frE_use hz f_14 rfl).trans hhands
  have h_19 : ok L K (v z0 19) 10 := xf_12_19 hI hz
  have b_20 : v_11 z0 19 = v z0 19 := frE_use hz f_14 rfl
  have b_21 : v_11 (v z0 19) 1 = v (v z0 19) 1 := frE_use h_19 f_14 rfl
  have h_18 : v_11 (v_11 z0 19) 1 = g 78 := by rw [b_20, b_21]; exact hstolen
  have h_23 : ok L K (v z0 14) 5 := xf_12_14 hI hz
  have b_24 : v_11 z0 14 = v z0 14 := frE_use hz f_14 rfl
  have b_25 : v_11 (v z0 14) 5 = v (v z0 14) 5 := frE_use h_23 f_14 rfl
  have h_22 : v_11 (v_11 z0 14) 5 = g 66 := by rw [b_24, b_25]; exact htold
  have h_26 : rSub v_11 z0 a := rSub_x hI hz f_14 rfl (fun _ => rfl) hsub
  have h_27 : rHand v_11 z0 g a := rHand_x hI hz f_14 rfl (fun _ => rfl) rfl hhd
  have h_28 : rNews v_11 z0 g a := rNews_x hI hz f_14 rfl (fun _ => rfl) (fun _ => rfl) (fun _ => rfl) (fun _ => rfl) (fun _ => rfl) rfl rfl rfl rfl rfl hnw
  have h_15 := xE_ok E_13 hz
  refine lv_pop hx hb dL_law_1292 rfl ?_
  refine lv_aload_n hx hb dL_law_1293 rfl (lv_at hl 1 rfl) ?_
  refine lv_aload_n hx hb dL_law_1294 rfl (lv_at hl 3 rfl) ?_
  refine lv_iload_n hx hb dL_law_1295 rfl (lv_at hl 0 rfl) ?_
  refine lv_iconst (v := iI 1) hx hb dL_law_1296 rfl ?_
  refine xr_add hx hb dL_law_1297 ?_
  refine va_sld hx hb hX9 hbl hbA hS (xvp (t := i + 1) (by omega) (by omega) hn) dL_law_1298 ?_
  refine jt_i (iI p_1) h_2 ?_
  obtain ⟨hP, hD⟩ := lsw hP hD
  have hPm := jp_tail hP
  have hDm := jd_tail hD
  refine jct_i (va_runV (As := [.int (iI p_1)]) (rest := []) ⟨hx, hb, hml, hown, hts⟩ (sX13_set l dC dI _ am cm g a p_1 hM r_3 hrSh) (cwV 1 hts (jgoodVL m_1574 m_460 m_461 m_503 m_198) rfl rfl rfl (by decide +kernel) ⟨(Nat.le_of_ble_eq_true rfl), (Nat.le_of_ble_eq_true rfl)⟩) ⟨jw_blind, va_recv hKm hPm (ci := 13) (q0 := 0) rfl rfl, fun U hU hW => ⟨rfl, jw_of hU hW hPm hKm hDm⟩⟩ rfl rfl hl.1 rfl (lv_room (Nat.le_of_ble_eq_true rfl)) dL_law_1299 ⟨(show nc + 2 + 0 ≤ 600000 by omega), (show ns + 12060 + 0 ≤ 7302250 by omega)⟩) hP hD hS hA (fun r u_31 H locs w_30 hP hKm hD hS => ?_)
  obtain ⟨g_32, a_33⟩ := u_31
  obtain ⟨y_29, rfl, h_34, h_35, h_36, h_37⟩ := w_30
  have hP : va_P (dC, dI) vwCl (xG L_8 cid K_9 N_10 v_11 ++ mG am cm g_32 a_33) H := hP
  have hD : va_D (fun q : Nat => s.heap.size ≤ q) (xG L_8 cid K_9 N_10 v_11 ++ mG am cm g_32 a_33) := hD
  have h_34 : g_32 = g := h_34
  have h_35 : mI g_32 a_33 := h_35
  have h_38 : rLine g_32 a_33 := rLine_t (congrFun h_34 56) (h_36 45 (by decide)) hrLine
  have h_39 : rLead g_32 a_33 := rLead_t (congrFun h_34 37) (h_36 27 (by decide)) (h_36 31 (by decide)) hrLead
  have h_40 : rSkill g_32 a_33 := rSkill_t (congrFun h_34 50) (h_36 38 (by decide)) hrSkill
  have h_41 : rSh g_32 a_33 := rSh_t (congrFun h_34 18) (congrFun h_34 26) (h_36 9 (by decide)) (h_36 10 (by decide)) (h_36 11 (by decide)) (h_36 12 (by decide)) (h_36 16 (by decide)) hrSh
  have h_42 : v_11 z0 0 = g_32 30 := h_16.trans (congrFun h_34 30).symm
  have h_43 : v_11 z0 11 = g_32 50 := h_17.trans (congrFun h_34 50).symm
  have h_44 : v_11 (v_11 z0 19) 1 = g_32 78 := h_18.trans (congrFun h_34 78).symm
  have h_45 : v_11 (v_11 z0 14) 5 = g_32 66 := h_22.trans (congrFun h_34 66).symm
  have h_46 : rSub v_11 z0 a_33 := rSub_m (h_36 60 (by decide)) h_26
  have h_47 : rHand v_11 z0 g_32 a_33 := rHand_m (congrFun h_34 50) (h_36 41 (by decide)) h_27
  have h_48 : rNews v_11 z0 g_32 a_33 := rNews_m (congrFun h_34 66) (h_36 51 (by decide)) (h_36 52 (by decide)) (h_36 53 (by decide)) (h_36 54 (by decide)) h_28
  obtain ⟨hP, hD⟩ := lsw hP hD
  refine lv_pop hx hb dL_law_1302 rfl ?_
  refine lv_goto (tgt := 1804) hx hb dL_law_1303 (by decide) ?_
  exact kk L_8 K_9 N_10 v_11 g_32 a_33 _ _ H locs h_15 I_12 h_35 h_38 h_39 h_40 h_41 h_42 h_43 h_44 h_45 h_46 h_47 h_48 (by omega) (by omega) hP hD hS
set_option maxHeartbeats 4000000 in
set_option maxRecDepth 100000 in
theorem lc_32 {p : Program} {l : Launch} {e : Env} {s : State} {m : MethodId} {below : List Frame} {meth : Method} {c : Code} {b n : Nat} {xs : Nat → Int32} (C0 : lw_At p s m meth c b n xs) (hn : n ≤ 3072) {dC : Nat → ClassId} {dI : Nat → Nat → Nat} {am : Nat → Nat} {cm cid : Nat → ClassId} {tW : Nat} {sK sV : Nat → Nat} (hXx : xX tW sK sV (fun q : Nat => s.heap.size ≤ q) s s.heap) (hKx : va_K (dC, dI) vwCl (xT cid) s) (hKm : va_K (dC, dI) vwCl (mT cm) s) {z0 : Int} {i : Int} (hi0 : 0 ≤ i) (hi : i + 6 ≤ n) {L : List Nat} {K : Int → Nat} {N : Int → Int} {v : Int → Int → Int} {g : Nat → Int} {a : Nat → Int → Int} (hz : ok L K z0 12) (hI : xI L K N v) (hM : mI g a) (hrLine : rLine g a) (hrLead : rLead g a) (hrSkill : rSkill g a) (hrSh : rSh g a) (hnow : v z0 0 = g 30) (hhands : v z0 11 = g 50) (hstolen : v (v z0 19) 1 = g 78) (htold : v (v z0 14) 5 = g 66) (hsub : rSub v z0 a) (hhd : rHand v z0 g a) (hnw : rNews v z0 g a) {nc ns : Nat} (hc : nc + 5 ≤ 600000) (hs : ns + 12100 ≤ 7302250) {H : Heap} {locs : List Loc} {ls : Array Slot} (hP : va_P (dC, dI) vwCl (mG am cm g a ++ xG L cid K N v) H) (hD : va_D (fun q : Nat => s.heap.size ≤ q) (mG am cm g a ++ xG L cid K N v)) (hS : va_S (fun q : Nat => s.heap.size ≤ q) s.heap H locs) (hl : lv_has ls 4 [(3, .int (iI i)), (2, .ref (am 0)), (1, .ref z0.toNat), (0, .ref b)])
    (kk : ∀ (L : List Nat) (K : Int → Nat) (N : Int → Int) (v : Int → Int → Int) (g : Nat → Int) (a : Nat → Int → Int) (nc1 ns1 : Nat) (H : Heap) (locs : List Loc), ok L K z0 12 → xI L K N v → mI g a → rLine g a → rLead g a → rSkill g a → rSh g a → v z0 0 = g 30 → v z0 11 = g 50 → v (v z0 19) 1 = g 78 → v (v z0 14) 5 = g 66 → rSub v z0 a → rHand v z0 g a → rNews v z0 g a → nc1 ≤ nc + 5 → ns1 ≤ ns + 12100 → va_P (dC, dI) vwCl (mG am cm g a ++ xG L cid K N v) H → va_D (fun q : Nat => s.heap.size ≤ q) (mG am cm g a ++ xG L cid K N v) → va_S (fun q : Nat => s.heap.size ≤ q) s.heap H locs → W p l e room_1 s m #[Value.ref b] below meth c H locs nc1 ns1 (lw_Z below #[Value.ref b] s) (F0 m 1804 ls [])) : W p l e room_1 s m #[Value.ref b] below meth c H locs nc ns (lw_Z below #[Value.ref b] s) (F0 m 1306 ls []) := by
  obtain ⟨hx, hb, hr, hml, hown, hts, hX9, hbl, hlocks, hgv⟩ := id C0
  have hA : ∀ q : Nat, s.heap.size ≤ q → (fun q : Nat => s.heap.size ≤ q) q := fun _ h => h
  have hbA : ¬ (fun q : Nat => s.heap.size ≤ q) b := Nat.not_le.mpr hbl
  refine lv_aload_n hx hb dL_law_1306 rfl (lv_at hl 2 rfl) ?_
  refine lv_aload_n hx hb dL_law_1307 rfl (lv_at hl 3 rfl) ?_
  refine lv_iload_n hx hb dL_law_1308 rfl (lv_at hl 0 rfl) ?_
  refine lv_iconst (v := iI 1) hx hb dL_law_1309 rfl ?_
  refine xr_add hx hb dL_law_1310 ?_
  refine va_sld hx hb hX9 hbl hbA hS (xvp (t := i + 1) (by omega) (by omega) hn) dL_law_1311 ?_
  obtain ⟨p_1, h_2, r_3⟩ : ∃ y : Int, xs (iI (i + 1)).toNatClampNeg = iI y ∧ rg y := ⟨_, iI_of _, rg_of _⟩
  refine jt_i (iI p_1) h_2 ?_
  have hPx := jp_tail hP
  have hDx := jd_tail hD
  refine jc_i (va_runV (As := [.int (iI p_1)]) (rest := []) ⟨hx, hb, hml, hown, hts⟩ (sX12_page l dC dI _ L cid K N tW sK sV v z0 p_1 hI hz r_3) (cwV 1 hts (jgoodVL m_1575 m_1576 m_1577 m_873 m_1578) rfl rfl rfl (by decide +kernel) ⟨(Nat.le_of_ble_eq_true rfl), (Nat.le_of_ble_eq_true rfl)⟩) ⟨xP_blind, xrecv hKx hPx hz rfl rfl, fun U hU hW => ⟨rfl, xP_of hU hW hPx hKx hDx hXx hS (fun _ h => h) hA⟩⟩ rfl rfl hl.1 rfl (lv_room (Nat.le_of_ble_eq_true rfl)) dL_law_1312 ⟨(show nc + 0 ≤ 600000 by omega), (show ns + 0 ≤ 7302250 by omega)⟩) hP hS hA (fun r H locs w_5 hP hS => ?_)
  obtain ⟨x_4, rfl, f_6⟩ := w_5
  refine lv_pop hx hb dL_law_1315 rfl ?_
  refine lv_aload_n hx hb dL_law_1316 rfl (lv_at hl 1 rfl) ?_
  refine lv_aload_n hx hb dL_law_1317 rfl (lv_at hl 3 rfl) ?_
  refine lv_iload_n hx hb dL_law_1318 rfl (lv_at hl 0 rfl) ?_
  refine lv_iconst (v := iI 1) hx hb dL_law_1319 rfl ?_
  refine xr_add hx hb dL_law_1320 ?_
  refine va_sld hx hb hX9 hbl hbA hS (xvp (t := i + 1) (by omega) (by omega) hn) dL_law_1321 ?_
  refine jt_i (iI p_1) h_2 ?_
  obtain ⟨hP, hD⟩ := lsw hP hD
  have hPm := jp_tail hP
  have hDm := jd_tail hD
  refine jc_i (va_runV (As := [.int (iI p_1)]) (rest := []) ⟨hx, hb, hml, hown, hts⟩ (sX13_page l dC dI _ am cm g a p_1 hM r_3) (cwV 1 hts (jgoodVL m_1579 m_440 m_441 m_503 m_188) rfl rfl rfl (by decide +kernel) ⟨(Nat.le_of_ble_eq_true rfl), (Nat.le_of_ble_eq_true rfl)⟩) ⟨jw_blind, va_recv hKm hPm (ci := 13) (q0 := 0) rfl rfl, fun U hU hW => ⟨rfl, jw_of hU hW hPm hKm hDm⟩⟩ rfl rfl hl.1 rfl (lv_room (Nat.le_of_ble_eq_true rfl)) dL_law_1322 ⟨(show nc + 0 ≤ 600000 by omega), (show ns + 0 ≤ 7302250 by omega)⟩) hP hS hA (fun r H locs w_8 hP hS => ?_)
  obtain ⟨y_7, rfl, h_9⟩ := w_8
  obtain ⟨hP, hD⟩ := lsw hP hD
  refine lv_pop hx hb dL_law_1325 rfl ?_
  refine lv_goto (tgt := 1804) hx hb dL_law_1326 (by decide) ?_
  exact kk L K N v g a _ _ H locs hz hI hM hrLine hrLead hrSkill hrSh hnow hhands hstolen htold hsub hhd hnw (by omega) (by omega) hP hD hS
set_option maxHeartbeats 4000000 in
set_option maxRecDepth 100000 in
theorem lc_33 {p : Program} {l : Launch} {e : Env} {s : State} {m : MethodId} {below : List Frame} {meth : Method} {c : Code} {b n : Nat} {xs : Nat → Int32} (C0 : lw_At p s m meth c b n xs) (hn : n ≤ 3072) {dC : Nat → ClassId} {dI : Nat → Nat → Nat} {am : Nat → Nat} {cm cid : Nat → ClassId} {tW : Nat} {sK sV : Nat → Nat} (hXx : xX tW sK sV (fun q : Nat => s.heap.size ≤ q) s s.heap) (hKx : va_K (dC, dI) vwCl (xT cid) s) (hKm : va_K (dC, dI) vwCl (mT cm) s) {z0 : Int} {i : Int} (hi0 : 0 ≤ i) (hi : i + 6 ≤ n) {L : List Nat} {K : Int → Nat} {N : Int → Int} {v : Int → Int → Int} {g : Nat → Int} {a : Nat → Int → Int} (hz : ok L K z0 12) (hI : xI L K N v) (hM : mI g a) (hrLine : rLine g a) (hrLead : rLead g a) (hrSkill : rSkill g a) (hrSh : rSh g a) (hnow : v z0 0 = g 30) (hhands : v z0 11 = g 50) (hstolen : v (v z0 19) 1 = g 78) (htold : v (v z0 14) 5 = g 66) (hsub : rSub v z0 a) (hhd : rHand v z0 g a) (hnw : rNews v z0 g a) {nc ns : Nat} (hc : nc + 5 ≤ 600000) (hs : ns + 12100 ≤ 7302250) {H : Heap} {locs : List Loc} {ls : Array Slot} (hP : va_P (dC, dI) vwCl (mG am cm g a ++ xG L cid K N v) H) (hD : va_D (fun q : Nat => s.heap.size ≤ q) (mG am cm g a ++ xG L cid K N v)) (hS : va_S (fun q : Nat => s.heap.size ≤ q) s.heap H locs) (hl : lv_has ls 4 [(3, .int (iI i)), (2, .ref (am 0)), (1, .ref z0.toNat), (0, .ref b)])
    (kk : ∀ (L : List Nat) (K : Int → Nat) (N : Int → Int) (v : Int → Int → Int) (g : Nat → Int) (a : Nat → Int → Int) (nc1 ns1 : Nat) (H : Heap) (locs : List Loc), ok L K z0 12 → xI L K N v → mI g a → rLine g a → rLead g a → rSkill g a → rSh g a → v z0 0 = g 30 → v z0 11 = g 50 → v (v z0 19) 1 = g 78 → v (v z0 14) 5 = g 66 → rSub v z0 a → rHand v z0 g a → rNews v z0 g a → nc1 ≤ nc + 5 → ns1 ≤ ns + 12100 → va_P (dC, dI) vwCl (mG am cm g a ++ xG L cid K N v) H → va_D (fun q : Nat => s.heap.size ≤ q) (mG am cm g a ++ xG L cid K N v) → va_S (fun q : Nat => s.heap.size ≤ q) s.heap H locs → W p l e room_1 s m #[Value.ref b] below meth c H locs nc1 ns1 (lw_Z below #[Value.ref b] s) (F0 m 1804 ls [])) : W p l e room_1 s m #[Value.ref b] below meth c H locs nc ns (lw_Z below #[Value.ref b] s) (F0 m 1329 ls []) := by
  obtain ⟨hx, hb, hr, hml, hown, hts, hX9, hbl, hlocks, hgv⟩ := id C0
  have hA : ∀ q : Nat, s.heap.size ≤ q → (fun q : Nat => s.heap.size ≤ q) q := fun _ h => h
  have hbA : ¬ (fun q : Nat => s.heap.size ≤ q) b := Nat.not_le.mpr hbl
  refine lv_aload_n hx hb dL_law_1329 rfl (lv_at hl 2 rfl) ?_
  refine lv_aload_n hx hb dL_law_1330 rfl (lv_at hl 3 rfl) ?_
  refine lv_iload_n hx hb dL_law_1331 rfl (lv_at hl 0 rfl) ?_
  refine lv_iconst (v := iI 1) hx hb dL_law_1332 rfl ?_
  refine xr_add hx hb dL_law_1333 ?_
  refine va_sld hx hb hX9 hbl hbA hS (xvp (t := i + 1) (by omega) (by omega) hn) dL_law_1334 ?_
  obtain ⟨p_1, h_2, r_3⟩ : ∃ y : Int, xs (iI (i + 1)).toNatClampNeg = iI y ∧ rg y := ⟨_, iI_of _, rg_of _⟩
  refine jt_i (iI p_1) h_2 ?_
  have hPx := jp_tail hP
  have hDx := jd_tail hD
  refine jc_i (va_runV (As := [.int (iI p_1)]) (rest := []) ⟨hx, hb, hml, hown, hts⟩ (sX12_promise l dC dI _ L cid K N tW sK sV v z0 p_1 hI hz r_3) (cwV 1 hts (jgoodVL m_1580 m_1581 m_1582 m_873 m_1583) rfl rfl rfl (by decide +kernel) ⟨(Nat.le_of_ble_eq_true rfl), (Nat.le_of_ble_eq_true rfl)⟩) ⟨xP_blind, xrecv hKx hPx hz rfl rfl, fun U hU hW => ⟨rfl, xP_of hU hW hPx hKx hDx hXx hS (fun _ h => h) hA⟩⟩ rfl rfl hl.1 rfl (lv_room (Nat.le_of_ble_eq_true rfl)) dL_law_1335 ⟨(show nc + 0 ≤ 600000 by omega), (show ns + 0 ≤ 7302250 by omega)⟩) hP hS hA (fun r H locs w_5 hP hS => ?_)
  obtain ⟨x_4, rfl, f_6⟩ := w_5
  refine lv_pop hx hb dL_law_1338 rfl ?_
  refine lv_aload_n hx hb dL_law_1339 rfl (lv_at hl 1 rfl) ?_
  refine lv_aload_n hx hb dL_law_1340 rfl (lv_at hl 3 rfl) ?_
  refine lv_iload_n hx hb dL_law_1341 rfl (lv_at hl 0 rfl) ?_
  refine lv_iconst (v := iI 1) hx hb dL_law_1342 rfl ?_
  refine xr_add hx hb dL_law_1343 ?_
  refine va_sld hx hb hX9 hbl hbA hS (xvp (t := i + 1) (by omega) (by omega) hn) dL_law_1344 ?_
  refine jt_i (iI p_1) h_2 ?_
  obtain ⟨hP, hD⟩ := lsw hP hD
  have hPm := jp_tail hP
  have hDm := jd_tail hD
  refine jct_i (va_runV (As := [.int (iI p_1)]) (rest := []) ⟨hx, hb, hml, hown, hts⟩ (sX13_promise l dC dI _ am cm g a p_1 hM r_3 hrLead hrSh) (cwV 1 hts (jgoodVL m_1584 m_448 m_449 m_503 m_192) rfl rfl rfl (by decide +kernel) ⟨(Nat.le_of_ble_eq_true rfl), (Nat.le_of_ble_eq_true rfl)⟩) ⟨jw_blind, va_recv hKm hPm (ci := 13) (q0 := 0) rfl rfl, fun U hU hW => ⟨rfl, jw_of hU hW hPm hKm hDm⟩⟩ rfl rfl hl.1 rfl (lv_room (Nat.le_of_ble_eq_true rfl)) dL_law_1345 ⟨(show nc + 0 ≤ 600000 by omega), (show ns + 0 ≤ 7302250 by omega)⟩) hP hD hS hA (fun r u_9 H locs w_8 hP hKm hD hS => ?_)
  obtain ⟨g_10, a_11⟩ := u_9
  obtain ⟨y_7, rfl, h_12, h_13, h_14, h_15⟩ := w_8
  have hP : va_P (dC, dI) vwCl (xG L cid K N v ++ mG am cm g_10 a_11) H := hP
  have hD : va_D (fun q : Nat => s.heap.size ≤ q) (xG L cid K N v ++ mG am cm g_10 a_11) := hD
  have h_12 : g_10 = g := h_12
  have h_13 : mI g_10 a_11 := h_13
  have h_16 : rLine g_10 a_11 := rLine_t (congrFun h_12 56) (h_14 45 (by decide)) hrLine
  have h_17 : rLead g_10 a_11 := rLead_t (congrFun h_12 37) (h_14 27 (by decide)) (h_14 31 (by decide)) hrLead
  have h_18 : rSkill g_10 a_11 := rSkill_t (congrFun h_12 50) (h_14 38 (by decide)) hrSkill
  have h_19 : rSh g_10 a_11 := rSh_t (congrFun h_12 18) (congrFun h_12 26) (h_14 9 (by decide)) (h_14 10 (by decide)) (h_14 11 (by decide)) (h_14 12 (by decide)) (h_14 16 (by decide)) hrSh
  have h_20 : v z0 0 = g_10 30 := hnow.trans (congrFun h_12 30).symm
  have h_21 : v z0 11 = g_10 50 := hhands.trans (congrFun h_12 50).symm
  have h_22 : v (v z0 19) 1 = g_10 78 := hstolen.trans (congrFun h_12 78).symm
  have h_23 : v (v z0 14) 5 = g_10 66 := htold.trans (congrFun h_12 66).symm
  have h_24 : rSub v z0 a_11 := rSub_m (h_14 60 (by decide)) hsub
  have h_25 : rHand v z0 g_10 a_11 := rHand_m (congrFun h_12 50) (h_14 41 (by decide)) hhd
  have h_26 : rNews v z0 g_10 a_11 := rNews_m (congrFun h_12 66) (h_14 51 (by decide)) (h_14 52 (by decide)) (h_14 53 (by decide)) (h_14 54 (by decide)) hnw
  obtain ⟨hP, hD⟩ := lsw hP hD
  refine lv_pop hx hb dL_law_1348 rfl ?_
  refine lv_goto (tgt := 1804) hx hb dL_law_1349 (by decide) ?_
  exact kk L K N v g_10 a_11 _ _ H locs hz hI h_13 h_16 h_17 h_18 h_19 h_20 h_21 h_22 h_23 h_24 h_25 h_26 (by omega) (by omega) hP hD hS
