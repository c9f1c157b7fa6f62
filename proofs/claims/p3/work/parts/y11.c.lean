set_option maxHeartbeats 4000000 in
set_option maxRecDepth 100000 in
theorem lc_3 {p : Program} {l : Launch} {e : Env} {s : State} {m : MethodId} {below : List Frame} {meth : Method} {c : Code} {b n : Nat} {xs : Nat → Int32} (C0 : lw_At p s m meth c b n xs) (hn : n ≤ 3072) {dC : Nat → ClassId} {dI : Nat → Nat → Nat} {am : Nat → Nat} {cm cid : Nat → ClassId} {tW : Nat} {sK sV : Nat → Nat} (hXx : xX tW sK sV (fun q : Nat => s.heap.size ≤ q) s s.heap) (hKx : va_K (dC, dI) vwCl (xT cid) s) (hKm : va_K (dC, dI) vwCl (mT cm) s) {z0 : Int} {i : Int} (hi0 : 0 ≤ i) (hi : i + 6 ≤ n) {L : List Nat} {K : Int → Nat} {N : Int → Int} {v : Int → Int → Int} {g : Nat → Int} {a : Nat → Int → Int} (hz : ok L K z0 12) (hI : xI L K N v) (hM : mI g a) (hrLine : rLine g a) (hrLead : rLead g a) (hrSkill : rSkill g a) (hrSh : rSh g a) (hnow : v z0 0 = g 30) (hhands : v z0 11 = g 50) (hstolen : v (v z0 19) 1 = g 78) (htold : v (v z0 14) 5 = g 66) (hsize : v (v z0 2) 1 = g 1) (hsheets : v (v z0 3) 1 = g 18) (hsub : rSub v z0 a) (hhd : rHand v z0 g a) (hnw : rNews v z0 g a) (htx : rTxt v z0 g a) {nc ns : Nat} (hc : nc + 5 ≤ 600000) (hs : ns + 12100 ≤ 7302250) {H : Heap} {locs : List Loc} {ls : Array Slot} (hP : va_P (dC, dI) vwCl (mG am cm g a ++ xG L cid K N v) H) (hD : va_D (fun q : Nat => s.heap.size ≤ q) (mG am cm g a ++ xG L cid K N v)) (hS : va_S (fun q : Nat => s.heap.size ≤ q) s.heap H locs) (hl : lv_has ls 4 [(3, .int (iI i)), (2, .ref (am 0)), (1, .ref z0.toNat), (0, .ref b)])
    (kk : ∀ (L : List Nat) (K : Int → Nat) (N : Int → Int) (v : Int → Int → Int) (g : Nat → Int) (a : Nat → Int → Int) (nc1 ns1 : Nat) (H : Heap) (locs : List Loc), ok L K z0 12 → xI L K N v → mI g a → rLine g a → rLead g a → rSkill g a → rSh g a → v z0 0 = g 30 → v z0 11 = g 50 → v (v z0 19) 1 = g 78 → v (v z0 14) 5 = g 66 → v (v z0 2) 1 = g 1 → v (v z0 3) 1 = g 18 → rSub v z0 a → rHand v z0 g a → rNews v z0 g a → rTxt v z0 g a → nc1 ≤ nc + 5 → ns1 ≤ ns + 12100 → va_P (dC, dI) vwCl (mG am cm g a ++ xG L cid K N v) H → va_D (fun q : Nat => s.heap.size ≤ q) (mG am cm g a ++ xG L cid K N v) → va_S (fun q : Nat => s.heap.size ≤ q) s.heap H locs → W p l e room_1 s m #[Value.ref b] below meth c H locs nc1 ns1 (lw_Z below #[Value.ref b] s) (F0 m 1804 ls [])) : W p l e room_1 s m #[Value.ref b] below meth c H locs nc ns (lw_Z below #[Value.ref b] s) (F0 m 339 ls []) := by
  obtain ⟨hx, hb, hr, hml, hown, hts, hX9, hbl, hlocks, hgv⟩ := id C0
  have hA : ∀ q : Nat, s.heap.size ≤ q → (fun q : Nat => s.heap.size ≤ q) q := fun _ h => h
  have hbA : ¬ (fun q : Nat => s.heap.size ≤ q) b := Nat.not_le.mpr hbl
  refine lv_aload_n hx hb dL_law_339 rfl (lv_at hl 2 rfl) ?_
  have hPx := jp_tail hP
  have hDx := jd_tail hD
  refine jct_i (va_runV (As := []) (rest := []) ⟨hx, hb, hml, hown, hts⟩ (sX12_sheet l dC dI _ L cid K N tW sK sV v z0 hI hz) (cwV 0 hts (jgoodVL m_1430 m_1431 m_1432 m_873 m_1433) rfl rfl rfl (by decide +kernel) ⟨(Nat.le_of_ble_eq_true rfl), (Nat.le_of_ble_eq_true rfl)⟩) ⟨xP_blind, xrecv hKx hPx hz rfl rfl, fun U hU hW => ⟨rfl, xP_of hU hW hPx hKx hDx hXx hS (fun _ h => h) hA⟩⟩ rfl rfl hl.1 rfl (lv_room (Nat.le_of_ble_eq_true rfl)) dL_law_340 ⟨(show nc + 5 ≤ 600000 by omega), (show ns + 636 ≤ 7302250 by omega)⟩) hP hD hS hA (fun r u_6 H locs w_2 hP hKx hD hS => ?_)
  obtain ⟨L_7, K_8, N_9, v_10⟩ := u_6
  obtain ⟨x_1, rfl, I_11, E_12, f_13, f_3, f_4, f_5⟩ := w_2
  have hP : va_P (dC, dI) vwCl (mG am cm g a ++ xG L_7 cid K_8 N_9 v_10) H := hP
  have hD : va_D (fun q : Nat => s.heap.size ≤ q) (mG am cm g a ++ xG L_7 cid K_8 N_9 v_10) := hD
  have I_11 : xI L_7 K_8 N_9 v_10 := I_11
  have E_12 : xE L K N L_7 K_8 N_9 := E_12
  have f_13 : frE L K [(7, 1), (7, 6), (7, 7), (7, 8), (7, 10), (7, 14), (8, 1), (13, 0), (13, 1), (13, 2), (13, 3), (21, (-1)), (22, (-1)), (23, (-1)), (24, (-1)), (25, (-1)), (26, (-1)), (27, (-1)), (28, (-1)), (29, (-1)), (66, (-1)), (69, (-1)), (99, 0)] v_10 v := f_13
  have f_4 : (x_1 = -1 ∧ v_10 (v_10 z0 3) 1 = v (v z0 3) 1 ∧ v_10 (v_10 z0 2) 1 = v (v z0 2) 1) ∨ (0 ≤ x_1 ∧ v_10 (v_10 z0 3) 1 = v (v z0 3) 1 + 1 ∧ v_10 (v_10 z0 2) 1 = 0) := f_4
  have h_15 : v_10 z0 0 = g 30 := (frE_use hz f_13 rfl).trans hnow
  have h_16 : v_10 z0 11 = g 50 := (frE_use hz f_13 rfl).trans hhands
  have h_18 : ok L K (v z0 19) 10 := xf_12_19 hI hz
  have b_19 : v_10 z0 19 = v z0 19 := frE_use hz f_13 rfl
  have b_20 : v_10 (v z0 19) 1 = v (v z0 19) 1 := frE_use h_18 f_13 rfl
  have h_17 : v_10 (v_10 z0 19) 1 = g 78 := by rw [b_19, b_20]; exact hstolen
  have h_22 : ok L K (v z0 14) 5 := xf_12_14 hI hz
  have b_23 : v_10 z0 14 = v z0 14 := frE_use hz f_13 rfl
  have b_24 : v_10 (v z0 14) 5 = v (v z0 14) 5 := frE_use h_22 f_13 rfl
  have h_21 : v_10 (v_10 z0 14) 5 = g 66 := by rw [b_23, b_24]; exact htold
  have h_25 : rSub v_10 z0 a := rSub_x hI hz f_13 rfl (fun _ => rfl) hsub
  have h_26 : rHand v_10 z0 g a := rHand_x hI hz f_13 rfl (fun _ => rfl) rfl hhd
  have h_27 : rNews v_10 z0 g a := rNews_x hI hz f_13 rfl (fun _ => rfl) (fun _ => rfl) (fun _ => rfl) (fun _ => rfl) (fun _ => rfl) rfl rfl rfl rfl rfl hnw
  have h_14 := xE_ok E_12 hz
  refine lv_pop hx hb dL_law_343 rfl ?_
  refine lv_aload_n hx hb dL_law_344 rfl (lv_at hl 1 rfl) ?_
  obtain ⟨hP, hD⟩ := lsw hP hD
  have hPm := jp_tail hP
  have hDm := jd_tail hD
  refine jct_i (va_runV (As := []) (rest := []) ⟨hx, hb, hml, hown, hts⟩ (sX13_sheet l dC dI _ am cm sK sV g a hM hrSh) (cwV 0 hts (jgoodVL m_1434 m_462 m_463 m_503 m_199) rfl rfl rfl (by decide +kernel) ⟨(Nat.le_of_ble_eq_true rfl), (Nat.le_of_ble_eq_true rfl)⟩) ⟨mP_blind, va_recv hKm hPm (ci := 13) (q0 := 0) rfl rfl, fun U hU hW => ⟨rfl, mP_of hU hW hPm hKm hDm hXx.2.2 hS (fun _ h => h) hA⟩⟩ rfl rfl hl.1 rfl (lv_room (Nat.le_of_ble_eq_true rfl)) dL_law_345 ⟨(show nc + 5 + 0 ≤ 600000 by omega), (show ns + 636 + 0 ≤ 7302250 by omega)⟩) hP hD hS hA (fun r u_30 H locs w_29 hP hKm hD hS => ?_)
  obtain ⟨g_31, a_32⟩ := u_30
  obtain ⟨y_28, rfl, h_33, h_34, h_35, h_36, h_37, h_38, h_39⟩ := w_29
  have hP : va_P (dC, dI) vwCl (xG L_7 cid K_8 N_9 v_10 ++ mG am cm g_31 a_32) H := hP
  have hD : va_D (fun q : Nat => s.heap.size ≤ q) (xG L_7 cid K_8 N_9 v_10 ++ mG am cm g_31 a_32) := hD
  have h_33 : mI g_31 a_32 := h_33
  have h_38 : (y_28 = -1 ∧ g_31 18 = g 18 ∧ g_31 1 = g 1) ∨ (0 ≤ y_28 ∧ g_31 18 = g 18 + 1 ∧ g_31 1 = 0) := h_38
  have h_40 : rLine g_31 a_32 := rLine_t (h_34 56 (by decide)) (h_35 45 (by decide)) hrLine
  have h_41 : rLead g_31 a_32 := rLead_t (h_34 37 (by decide)) (h_35 27 (by decide)) (h_35 31 (by decide)) hrLead
  have h_42 : rSkill g_31 a_32 := rSkill_t (h_34 50 (by decide)) (h_35 38 (by decide)) hrSkill
  have h_43 : rSh g_31 a_32 := h_37
  have i9 := sh_tie htx hsheets (hM.1 18) f_5 h_39
  have h_44 : v_10 z0 0 = g_31 30 := h_15.trans (h_34 30 (by decide)).symm
  have h_45 : v_10 z0 11 = g_31 50 := h_16.trans (h_34 50 (by decide)).symm
  have h_46 : v_10 (v_10 z0 19) 1 = g_31 78 := h_17.trans (h_34 78 (by decide)).symm
  have h_47 : v_10 (v_10 z0 14) 5 = g_31 66 := h_21.trans (h_34 66 (by decide)).symm
  have b_49 := hM.1 1
  have b_49 : 0 ≤ g 1 ∧ g 1 ≤ 600 := b_49
  have h_48 : v_10 (v_10 z0 2) 1 = g_31 1 := by omega
  have b_51 := hM.1 18
  have b_51 : 0 ≤ g 18 ∧ g 18 ≤ 12 := b_51
  have h_50 : v_10 (v_10 z0 3) 1 = g_31 18 := by omega
  have h_52 : rSub v_10 z0 a_32 := rSub_m (h_35 60 (by decide)) h_25
  have h_53 : rHand v_10 z0 g_31 a_32 := rHand_m (h_34 50 (by decide)) (h_35 41 (by decide)) h_26
  have h_54 : rNews v_10 z0 g_31 a_32 := rNews_m (h_34 66 (by decide)) (h_35 51 (by decide)) (h_35 52 (by decide)) (h_35 53 (by decide)) (h_35 54 (by decide)) h_27
  have h_55 : rTxt v_10 z0 g_31 a_32 := by
    rcases (show x_1 = -1 ∨ x_1 ≠ -1 by omega) with q9 | q9
    · exact rTxt_ok hI hz f_13 rfl rfl (fun _ => rfl) (by omega) (by omega) (h_35 1 (by decide)) htx
    · exact rTxt_0 hz f_13 rfl (by omega) (by omega)
  obtain ⟨hP, hD⟩ := lsw hP hD
  refine lv_pop hx hb dL_law_348 rfl ?_
  refine lv_goto (tgt := 1804) hx hb dL_law_349 (by decide) ?_
  exact kk L_7 K_8 N_9 v_10 g_31 a_32 _ _ H locs h_14 I_11 h_33 h_40 h_41 h_42 h_43 h_44 h_45 h_46 h_47 h_48 h_50 h_52 h_53 h_54 h_55 (by omega) (by omega) hP hD hS
set_option maxHeartbeats 4000000 in
set_option maxRecDepth 100000 in
theorem lc_4 {p : Program} {l : Launch} {e : Env} {s : State} {m : MethodId} {below : List Frame} {meth : Method} {c : Code} {b n : Nat} {xs : Nat → Int32} (C0 : lw_At p s m meth c b n xs) (hn : n ≤ 3072) {dC : Nat → ClassId} {dI : Nat → Nat → Nat} {am : Nat → Nat} {cm cid : Nat → ClassId} {tW : Nat} {sK sV : Nat → Nat} (hXx : xX tW sK sV (fun q : Nat => s.heap.size ≤ q) s s.heap) (hKx : va_K (dC, dI) vwCl (xT cid) s) (hKm : va_K (dC, dI) vwCl (mT cm) s) {z0 : Int} {i : Int} (hi0 : 0 ≤ i) (hi : i + 6 ≤ n) {L : List Nat} {K : Int → Nat} {N : Int → Int} {v : Int → Int → Int} {g : Nat → Int} {a : Nat → Int → Int} (hz : ok L K z0 12) (hI : xI L K N v) (hM : mI g a) (hrLine : rLine g a) (hrLead : rLead g a) (hrSkill : rSkill g a) (hrSh : rSh g a) (hnow : v z0 0 = g 30) (hhands : v z0 11 = g 50) (hstolen : v (v z0 19) 1 = g 78) (htold : v (v z0 14) 5 = g 66) (hsize : v (v z0 2) 1 = g 1) (hsheets : v (v z0 3) 1 = g 18) (hsub : rSub v z0 a) (hhd : rHand v z0 g a) (hnw : rNews v z0 g a) (htx : rTxt v z0 g a) {nc ns : Nat} (hc : nc + 5 ≤ 600000) (hs : ns + 12100 ≤ 7302250) {H : Heap} {locs : List Loc} {ls : Array Slot} (hP : va_P (dC, dI) vwCl (mG am cm g a ++ xG L cid K N v) H) (hD : va_D (fun q : Nat => s.heap.size ≤ q) (mG am cm g a ++ xG L cid K N v)) (hS : va_S (fun q : Nat => s.heap.size ≤ q) s.heap H locs) (hl : lv_has ls 4 [(3, .int (iI i)), (2, .ref (am 0)), (1, .ref z0.toNat), (0, .ref b)])
    (kk : ∀ (L : List Nat) (K : Int → Nat) (N : Int → Int) (v : Int → Int → Int) (g : Nat → Int) (a : Nat → Int → Int) (nc1 ns1 : Nat) (H : Heap) (locs : List Loc), ok L K z0 12 → xI L K N v → mI g a → rLine g a → rLead g a → rSkill g a → rSh g a → v z0 0 = g 30 → v z0 11 = g 50 → v (v z0 19) 1 = g 78 → v (v z0 14) 5 = g 66 → v (v z0 2) 1 = g 1 → v (v z0 3) 1 = g 18 → rSub v z0 a → rHand v z0 g a → rNews v z0 g a → rTxt v z0 g a → nc1 ≤ nc + 5 → ns1 ≤ ns + 12100 → va_P (dC, dI) vwCl (mG am cm g a ++ xG L cid K N v) H → va_D (fun q : Nat => s.heap.size ≤ q) (mG am cm g a ++ xG L cid K N v) → va_S (fun q : Nat => s.heap.size ≤ q) s.heap H locs → W p l e room_1 s m #[Value.ref b] below meth c H locs nc1 ns1 (lw_Z below #[Value.ref b] s) (F0 m 1804 ls [])) : W p l e room_1 s m #[Value.ref b] below meth c H locs nc ns (lw_Z below #[Value.ref b] s) (F0 m 352 ls []) := by
  obtain ⟨hx, hb, hr, hml, hown, hts, hX9, hbl, hlocks, hgv⟩ := id C0
  have hA : ∀ q : Nat, s.heap.size ≤ q → (fun q : Nat => s.heap.size ≤ q) q := fun _ h => h
  have hbA : ¬ (fun q : Nat => s.heap.size ≤ q) b := Nat.not_le.mpr hbl
  refine lv_aload_n hx hb dL_law_352 rfl (lv_at hl 2 rfl) ?_
  refine lv_aload_n hx hb dL_law_353 rfl (lv_at hl 3 rfl) ?_
  refine lv_iload_n hx hb dL_law_354 rfl (lv_at hl 0 rfl) ?_
  refine lv_iconst (v := iI 1) hx hb dL_law_355 rfl ?_
  refine xr_add hx hb dL_law_356 ?_
  refine va_sld hx hb hX9 hbl hbA hS (xvp (t := i + 1) (by omega) (by omega) hn) dL_law_357 ?_
  obtain ⟨p_1, h_2, r_3⟩ : ∃ y : Int, xs (iI (i + 1)).toNatClampNeg = iI y ∧ rg y := ⟨_, iI_of _, rg_of _⟩
  refine jt_i (iI p_1) h_2 ?_
  refine lv_aload_n hx hb dL_law_358 rfl (lv_at hl 3 rfl) ?_
  refine lv_iload_n hx hb dL_law_359 rfl (lv_at hl 0 rfl) ?_
  refine lv_iconst (v := iI 2) hx hb dL_law_360 rfl ?_
  refine xr_add hx hb dL_law_361 ?_
  refine va_sld hx hb hX9 hbl hbA hS (xvp (t := i + 2) (by omega) (by omega) hn) dL_law_362 ?_
  obtain ⟨p_4, h_5, r_6⟩ : ∃ y : Int, xs (iI (i + 2)).toNatClampNeg = iI y ∧ rg y := ⟨_, iI_of _, rg_of _⟩
  refine jt_i (iI p_4) h_5 ?_
  have hPx := jp_tail hP
  have hDx := jd_tail hD
  refine jct_i (va_runV (As := [.int (iI p_1), .int (iI p_4)]) (rest := []) ⟨hx, hb, hml, hown, hts⟩ (sX12_force l dC dI _ L cid K N tW sK sV v z0 p_1 p_4 hI hz r_3 r_6) (cwV 2 hts (jgoodVL m_1435 m_1436 m_1437 m_873 m_1438) rfl rfl rfl (by decide +kernel) ⟨(Nat.le_of_ble_eq_true rfl), (Nat.le_of_ble_eq_true rfl)⟩) ⟨xP_blind, xrecv hKx hPx hz rfl rfl, fun U hU hW => ⟨rfl, xP_of hU hW hPx hKx hDx hXx hS (fun _ h => h) hA⟩⟩ rfl rfl hl.1 rfl (lv_room (Nat.le_of_ble_eq_true rfl)) dL_law_363 ⟨(show nc + 0 ≤ 600000 by omega), (show ns + 0 ≤ 7302250 by omega)⟩) hP hD hS hA (fun r v_10 H locs w_8 hP hKx hD hS => ?_)
  obtain ⟨x_7, rfl, I_11, f_12, f_9⟩ := w_8
  have hP : va_P (dC, dI) vwCl (mG am cm g a ++ xG L cid K N v_10) H := hP
  have hD : va_D (fun q : Nat => s.heap.size ≤ q) (mG am cm g a ++ xG L cid K N v_10) := hD
  have h_13 : v_10 z0 0 = g 30 := (fr_use hz f_12 rfl).trans hnow
  have h_14 : v_10 z0 11 = g 50 := (fr_use hz f_12 rfl).trans hhands
  have h_16 : ok L K (v z0 19) 10 := xf_12_19 hI hz
  have b_17 : v_10 z0 19 = v z0 19 := fr_use hz f_12 rfl
  have b_18 : v_10 (v z0 19) 1 = v (v z0 19) 1 := fr_use h_16 f_12 rfl
  have h_15 : v_10 (v_10 z0 19) 1 = g 78 := by rw [b_17, b_18]; exact hstolen
  have h_20 : ok L K (v z0 14) 5 := xf_12_14 hI hz
  have b_21 : v_10 z0 14 = v z0 14 := fr_use hz f_12 rfl
  have b_22 : v_10 (v z0 14) 5 = v (v z0 14) 5 := fr_use h_20 f_12 rfl
  have h_19 : v_10 (v_10 z0 14) 5 = g 66 := by rw [b_21, b_22]; exact htold
  have h_24 : ok L K (v z0 2) 7 := xf_12_2 hI hz
  have b_25 : v_10 z0 2 = v z0 2 := fr_use hz f_12 rfl
  have b_26 : v_10 (v z0 2) 1 = v (v z0 2) 1 := fr_use h_24 f_12 rfl
  have h_23 : v_10 (v_10 z0 2) 1 = g 1 := by rw [b_25, b_26]; exact hsize
  have h_28 : ok L K (v z0 3) 8 := xf_12_3 hI hz
  have b_29 : v_10 z0 3 = v z0 3 := fr_use hz f_12 rfl
  have b_30 : v_10 (v z0 3) 1 = v (v z0 3) 1 := fr_use h_28 f_12 rfl
  have h_27 : v_10 (v_10 z0 3) 1 = g 18 := by rw [b_29, b_30]; exact hsheets
  have h_31 : rSub v_10 z0 a := rSub_x hI hz (frE_of f_12) rfl (fun _ => rfl) hsub
  have h_32 : rHand v_10 z0 g a := rHand_x hI hz (frE_of f_12) rfl (fun _ => rfl) rfl hhd
  have h_33 : rNews v_10 z0 g a := rNews_x hI hz (frE_of f_12) rfl (fun _ => rfl) (fun _ => rfl) (fun _ => rfl) (fun _ => rfl) (fun _ => rfl) rfl rfl rfl rfl rfl hnw
  have h_34 : rTxt v_10 z0 g a := rTxt_x hI hz (frE_of f_12) rfl rfl rfl (fun _ => rfl) htx
  refine lv_pop hx hb dL_law_366 rfl ?_
  refine lv_aload_n hx hb dL_law_367 rfl (lv_at hl 1 rfl) ?_
  refine lv_aload_n hx hb dL_law_368 rfl (lv_at hl 3 rfl) ?_
  refine lv_iload_n hx hb dL_law_369 rfl (lv_at hl 0 rfl) ?_
  refine lv_iconst (v := iI 1) hx hb dL_law_370 rfl ?_
  refine xr_add hx hb dL_law_371 ?_
  refine va_sld hx hb hX9 hbl hbA hS (xvp (t := i + 1) (by omega) (by omega) hn) dL_law_372 ?_
  refine jt_i (iI p_1) h_2 ?_
  refine lv_aload_n hx hb dL_law_373 rfl (lv_at hl 3 rfl) ?_
  refine lv_iload_n hx hb dL_law_374 rfl (lv_at hl 0 rfl) ?_
  refine lv_iconst (v := iI 2) hx hb dL_law_375 rfl ?_
  refine xr_add hx hb dL_law_376 ?_
  refine va_sld hx hb hX9 hbl hbA hS (xvp (t := i + 2) (by omega) (by omega) hn) dL_law_377 ?_
  refine jt_i (iI p_4) h_5 ?_
  obtain ⟨hP, hD⟩ := lsw hP hD
  have hPm := jp_tail hP
  have hDm := jd_tail hD
  refine jct_i (va_runV (As := [.int (iI p_1), .int (iI p_4)]) (rest := []) ⟨hx, hb, hml, hown, hts⟩ (sX13_force l dC dI _ am cm g a p_1 p_4 hM r_3 r_6 hrSh) (cwV 2 hts (jgoodVL m_1439 m_342 m_343 m_503 m_136) rfl rfl rfl (by decide +kernel) ⟨(Nat.le_of_ble_eq_true rfl), (Nat.le_of_ble_eq_true rfl)⟩) ⟨jw_blind, va_recv hKm hPm (ci := 13) (q0 := 0) rfl rfl, fun U hU hW => ⟨rfl, jw_of hU hW hPm hKm hDm⟩⟩ rfl rfl hl.1 rfl (lv_room (Nat.le_of_ble_eq_true rfl)) dL_law_378 ⟨(show nc + 0 ≤ 600000 by omega), (show ns + 0 ≤ 7302250 by omega)⟩) hP hD hS hA (fun r u_37 H locs w_36 hP hKm hD hS => ?_)
  obtain ⟨g_38, a_39⟩ := u_37
  obtain ⟨y_35, rfl, h_40, h_41, h_42, h_43, h_44⟩ := w_36
  have hP : va_P (dC, dI) vwCl (xG L cid K N v_10 ++ mG am cm g_38 a_39) H := hP
  have hD : va_D (fun q : Nat => s.heap.size ≤ q) (xG L cid K N v_10 ++ mG am cm g_38 a_39) := hD
  have h_40 : mI g_38 a_39 := h_40
  have h_45 : rLine g_38 a_39 := rLine_t (h_41 56 (by decide)) (h_42 45 (by decide)) hrLine
  have h_46 : rLead g_38 a_39 := rLead_t (h_41 37 (by decide)) (h_42 27 (by decide)) (h_42 31 (by decide)) hrLead
  have h_47 : rSkill g_38 a_39 := rSkill_t (h_41 50 (by decide)) (h_42 38 (by decide)) hrSkill
  have h_48 : rSh g_38 a_39 := h_44
  have h_49 : v_10 z0 0 = g_38 30 := h_13.trans (h_41 30 (by decide)).symm
  have h_50 : v_10 z0 11 = g_38 50 := h_14.trans (h_41 50 (by decide)).symm
  have h_51 : v_10 (v_10 z0 19) 1 = g_38 78 := h_15.trans (h_41 78 (by decide)).symm
  have h_52 : v_10 (v_10 z0 14) 5 = g_38 66 := h_19.trans (h_41 66 (by decide)).symm
  have h_53 : v_10 (v_10 z0 2) 1 = g_38 1 := h_23.trans (h_41 1 (by decide)).symm
  have h_54 : v_10 (v_10 z0 3) 1 = g_38 18 := h_27.trans (h_41 18 (by decide)).symm
  have h_55 : rSub v_10 z0 a_39 := rSub_m (h_42 60 (by decide)) h_31
  have h_56 : rHand v_10 z0 g_38 a_39 := rHand_m (h_41 50 (by decide)) (h_42 41 (by decide)) h_32
  have h_57 : rNews v_10 z0 g_38 a_39 := rNews_m (h_41 66 (by decide)) (h_42 51 (by decide)) (h_42 52 (by decide)) (h_42 53 (by decide)) (h_42 54 (by decide)) h_33
  have h_58 : rTxt v_10 z0 g_38 a_39 := rTxt_m (h_41 1 (by decide)) (h_42 1 (by decide)) h_34
  obtain ⟨hP, hD⟩ := lsw hP hD
  refine lv_pop hx hb dL_law_381 rfl ?_
  refine lv_goto (tgt := 1804) hx hb dL_law_382 (by decide) ?_
  exact kk L K N v_10 g_38 a_39 _ _ H locs hz I_11 h_40 h_45 h_46 h_47 h_48 h_49 h_50 h_51 h_52 h_53 h_54 h_55 h_56 h_57 h_58 (by omega) (by omega) hP hD hS
set_option maxHeartbeats 4000000 in
set_option maxRecDepth 100000 in
theorem lc_5 {p : Program} {l : Launch} {e : Env} {s : State} {m : MethodId} {below : List Frame} {meth : Method} {c : Code} {b n : Nat} {xs : Nat → Int32} (C0 : lw_At p s m meth c b n xs) (hn : n ≤ 3072) {dC : Nat → ClassId} {dI : Nat → Nat → Nat} {am : Nat → Nat} {cm cid : Nat → ClassId} {tW : Nat} {sK sV : Nat → Nat} (hXx : xX tW sK sV (fun q : Nat => s.heap.size ≤ q) s s.heap) (hKx : va_K (dC, dI) vwCl (xT cid) s) (hKm : va_K (dC, dI) vwCl (mT cm) s) {z0 : Int} {i : Int} (hi0 : 0 ≤ i) (hi : i + 6 ≤ n) {L : List Nat} {K : Int → Nat} {N : Int → Int} {v : Int → Int → Int} {g : Nat → Int} {a : Nat → Int → Int} (hz : ok L K z0 12) (hI : xI L K N v) (hM : mI g a) (hrLine : rLine g a) (hrLead : rLead g a) (hrSkill : rSkill g a) (hrSh : rSh g a) (hnow : v z0 0 = g 30) (hhands : v z0 11 = g 50) (hstolen : v (v z0 19) 1 = g 78) (htold : v (v z0 14) 5 = g 66) (hsize : v (v z0 2) 1 = g 1) (hsheets : v (v z0 3) 1 = g 18) (hsub : rSub v z0 a) (hhd : rHand v z0 g a) (hnw : rNews v z0 g a) (htx : rTxt v z0 g a) {nc ns : Nat} (hc : nc + 5 ≤ 600000) (hs : ns + 12100 ≤ 7302250) {H : Heap} {locs : List Loc} {ls : Array Slot} (hP : va_P (dC, dI) vwCl (mG am cm g a ++ xG L cid K N v) H) (hD : va_D (fun q : Nat => s.heap.size ≤ q) (mG am cm g a ++ xG L cid K N v)) (hS : va_S (fun q : Nat => s.heap.size ≤ q) s.heap H locs) (hl : lv_has ls 4 [(3, .int (iI i)), (2, .ref (am 0)), (1, .ref z0.toNat), (0, .ref b)])
    (kk : ∀ (L : List Nat) (K : Int → Nat) (N : Int → Int) (v : Int → Int → Int) (g : Nat → Int) (a : Nat → Int → Int) (nc1 ns1 : Nat) (H : Heap) (locs : List Loc), ok L K z0 12 → xI L K N v → mI g a → rLine g a → rLead g a → rSkill g a → rSh g a → v z0 0 = g 30 → v z0 11 = g 50 → v (v z0 19) 1 = g 78 → v (v z0 14) 5 = g 66 → v (v z0 2) 1 = g 1 → v (v z0 3) 1 = g 18 → rSub v z0 a → rHand v z0 g a → rNews v z0 g a → rTxt v z0 g a → nc1 ≤ nc + 5 → ns1 ≤ ns + 12100 → va_P (dC, dI) vwCl (mG am cm g a ++ xG L cid K N v) H → va_D (fun q : Nat => s.heap.size ≤ q) (mG am cm g a ++ xG L cid K N v) → va_S (fun q : Nat => s.heap.size ≤ q) s.heap H locs → W p l e room_1 s m #[Value.ref b] below meth c H locs nc1 ns1 (lw_Z below #[Value.ref b] s) (F0 m 1804 ls [])) : W p l e room_1 s m #[Value.ref b] below meth c H locs nc ns (lw_Z below #[Value.ref b] s) (F0 m 385 ls []) := by
  obtain ⟨hx, hb, hr, hml, hown, hts, hX9, hbl, hlocks, hgv⟩ := id C0
  have hA : ∀ q : Nat, s.heap.size ≤ q → (fun q : Nat => s.heap.size ≤ q) q := fun _ h => h
  have hbA : ¬ (fun q : Nat => s.heap.size ≤ q) b := Nat.not_le.mpr hbl
  refine lv_aload_n hx hb dL_law_385 rfl (lv_at hl 2 rfl) ?_
  refine lv_aload_n hx hb dL_law_386 rfl (lv_at hl 3 rfl) ?_
  refine lv_iload_n hx hb dL_law_387 rfl (lv_at hl 0 rfl) ?_
  refine lv_iconst (v := iI 1) hx hb dL_law_388 rfl ?_
  refine xr_add hx hb dL_law_389 ?_
  refine va_sld hx hb hX9 hbl hbA hS (xvp (t := i + 1) (by omega) (by omega) hn) dL_law_390 ?_
  obtain ⟨p_1, h_2, r_3⟩ : ∃ y : Int, xs (iI (i + 1)).toNatClampNeg = iI y ∧ rg y := ⟨_, iI_of _, rg_of _⟩
  refine jt_i (iI p_1) h_2 ?_
  refine lv_aload_n hx hb dL_law_391 rfl (lv_at hl 3 rfl) ?_
  refine lv_iload_n hx hb dL_law_392 rfl (lv_at hl 0 rfl) ?_
  refine lv_iconst (v := iI 2) hx hb dL_law_393 rfl ?_
  refine xr_add hx hb dL_law_394 ?_
  refine va_sld hx hb hX9 hbl hbA hS (xvp (t := i + 2) (by omega) (by omega) hn) dL_law_395 ?_
  obtain ⟨p_4, h_5, r_6⟩ : ∃ y : Int, xs (iI (i + 2)).toNatClampNeg = iI y ∧ rg y := ⟨_, iI_of _, rg_of _⟩
  refine jt_i (iI p_4) h_5 ?_
  refine lv_aload_n hx hb dL_law_396 rfl (lv_at hl 3 rfl) ?_
  refine lv_iload_n hx hb dL_law_397 rfl (lv_at hl 0 rfl) ?_
  refine lv_iconst (v := iI 3) hx hb dL_law_398 rfl ?_
  refine xr_add hx hb dL_law_399 ?_
  refine va_sld hx hb hX9 hbl hbA hS (xvp (t := i + 3) (by omega) (by omega) hn) dL_law_400 ?_
  obtain ⟨p_7, h_8, r_9⟩ : ∃ y : Int, xs (iI (i + 3)).toNatClampNeg = iI y ∧ rg y := ⟨_, iI_of _, rg_of _⟩
  refine jt_i (iI p_7) h_8 ?_
  have hPx := jp_tail hP
  have hDx := jd_tail hD
  refine jc_i (va_runV (As := [.int (iI p_1), .int (iI p_4), .int (iI p_7)]) (rest := []) ⟨hx, hb, hml, hown, hts⟩ (sX12_rule l dC dI _ L cid K N tW sK sV v z0 p_1 p_4 p_7 hI hz r_3 r_6 r_9) (cwV 3 hts (jgoodVL m_1440 m_1441 m_1442 m_873 m_1443) rfl rfl rfl (by decide +kernel) ⟨(Nat.le_of_ble_eq_true rfl), (Nat.le_of_ble_eq_true rfl)⟩) ⟨xP_blind, xrecv hKx hPx hz rfl rfl, fun U hU hW => ⟨rfl, xP_of hU hW hPx hKx hDx hXx hS (fun _ h => h) hA⟩⟩ rfl rfl hl.1 rfl (lv_room (Nat.le_of_ble_eq_true rfl)) dL_law_401 ⟨(show nc + 0 ≤ 600000 by omega), (show ns + 0 ≤ 7302250 by omega)⟩) hP hS hA (fun r H locs w_11 hP hS => ?_)
  obtain ⟨x_10, rfl, f_12⟩ := w_11
  refine lv_pop hx hb dL_law_404 rfl ?_
  refine lv_aload_n hx hb dL_law_405 rfl (lv_at hl 1 rfl) ?_
  refine lv_aload_n hx hb dL_law_406 rfl (lv_at hl 3 rfl) ?_
  refine lv_iload_n hx hb dL_law_407 rfl (lv_at hl 0 rfl) ?_
  refine lv_iconst (v := iI 1) hx hb dL_law_408 rfl ?_
  refine xr_add hx hb dL_law_409 ?_
  refine va_sld hx hb hX9 hbl hbA hS (xvp (t := i + 1) (by omega) (by omega) hn) dL_law_410 ?_
  refine jt_i (iI p_1) h_2 ?_
  refine lv_aload_n hx hb dL_law_411 rfl (lv_at hl 3 rfl) ?_
  refine lv_iload_n hx hb dL_law_412 rfl (lv_at hl 0 rfl) ?_
  refine lv_iconst (v := iI 2) hx hb dL_law_413 rfl ?_
  refine xr_add hx hb dL_law_414 ?_
  refine va_sld hx hb hX9 hbl hbA hS (xvp (t := i + 2) (by omega) (by omega) hn) dL_law_415 ?_
  refine jt_i (iI p_4) h_5 ?_
  refine lv_aload_n hx hb dL_law_416 rfl (lv_at hl 3 rfl) ?_
  refine lv_iload_n hx hb dL_law_417 rfl (lv_at hl 0 rfl) ?_
  refine lv_iconst (v := iI 3) hx hb dL_law_418 rfl ?_
  refine xr_add hx hb dL_law_419 ?_
  refine va_sld hx hb hX9 hbl hbA hS (xvp (t := i + 3) (by omega) (by omega) hn) dL_law_420 ?_
  refine jt_i (iI p_7) h_8 ?_
  obtain ⟨hP, hD⟩ := lsw hP hD
  have hPm := jp_tail hP
  have hDm := jd_tail hD
  refine jc_i (va_runV (As := [.int (iI p_1), .int (iI p_4), .int (iI p_7)]) (rest := []) ⟨hx, hb, hml, hown, hts⟩ (sX13_rule l dC dI _ am cm g a p_1 p_4 p_7 hM r_3 r_6 r_9 hrSh) (cwV 3 hts (jgoodVL m_1444 m_458 m_459 m_503 m_197) rfl rfl rfl (by decide +kernel) ⟨(Nat.le_of_ble_eq_true rfl), (Nat.le_of_ble_eq_true rfl)⟩) ⟨jw_blind, va_recv hKm hPm (ci := 13) (q0 := 0) rfl rfl, fun U hU hW => ⟨rfl, jw_of hU hW hPm hKm hDm⟩⟩ rfl rfl hl.1 rfl (lv_room (Nat.le_of_ble_eq_true rfl)) dL_law_421 ⟨(show nc + 0 ≤ 600000 by omega), (show ns + 0 ≤ 7302250 by omega)⟩) hP hS hA (fun r H locs w_14 hP hS => ?_)
  obtain ⟨y_13, rfl, h_15⟩ := w_14
  obtain ⟨hP, hD⟩ := lsw hP hD
  refine lv_pop hx hb dL_law_424 rfl ?_
  refine lv_goto (tgt := 1804) hx hb dL_law_425 (by decide) ?_
  exact kk L K N v g a _ _ H locs hz hI hM hrLine hrLead hrSkill hrSh hnow hhands hstolen htold hsize hsheets hsub hhd hnw htx (by omega) (by omega) hP hD hS
set_option maxHeartbeats 4000000 in
set_option maxRecDepth 100000 in
theorem lc_6 {p : Program} {l : Launch} {e : Env} {s : State} {m : MethodId} {below : List Frame} {meth : Method} {c : Code} {b n : Nat} {xs : Nat → Int32} (C0 : lw_At p s m meth c b n xs) (hn : n ≤ 3072) {dC : Nat → ClassId} {dI : Nat → Nat → Nat} {am : Nat → Nat} {cm cid : Nat → ClassId} {tW : Nat} {sK sV : Nat → Nat} (hXx : xX tW sK sV (fun q : Nat => s.heap.size ≤ q) s s.heap) (hKx : va_K (dC, dI) vwCl (xT cid) s) (hKm : va_K (dC, dI) vwCl (mT cm) s) {z0 : Int} {i : Int} (hi0 : 0 ≤ i) (hi : i + 6 ≤ n) {L : List Nat} {K : Int → Nat} {N : Int → Int} {v : Int → Int → Int} {g : Nat → Int} {a : Nat → Int → Int} (hz : ok L K z0 12) (hI : xI L K N v) (hM : mI g a) (hrLine : rLine g a) (hrLead : rLead g a) (hrSkill : rSkill g a) (hrSh : rSh g a) (hnow : v z0 0 = g 30) (hhands : v z0 11 = g 50) (hstolen : v (v z0 19) 1 = g 78) (htold : v (v z0 14) 5 = g 66) (hsize : v (v z0 2) 1 = g 1) (hsheets : v (v z0 3) 1 = g 18) (hsub : rSub v z0 a) (hhd : rHand v z0 g a) (hnw : rNews v z0 g a) (htx : rTxt v z0 g a) {nc ns : Nat} (hc : nc + 5 ≤ 600000) (hs : ns + 12100 ≤ 7302250) {H : Heap} {locs : List Loc} {ls : Array Slot} (hP : va_P (dC, dI) vwCl (mG am cm g a ++ xG L cid K N v) H) (hD : va_D (fun q : Nat => s.heap.size ≤ q) (mG am cm g a ++ xG L cid K N v)) (hS : va_S (fun q : Nat => s.heap.size ≤ q) s.heap H locs) (hl : lv_has ls 4 [(3, .int (iI i)), (2, .ref (am 0)), (1, .ref z0.toNat), (0, .ref b)])
    (kk : ∀ (L : List Nat) (K : Int → Nat) (N : Int → Int) (v : Int → Int → Int) (g : Nat → Int) (a : Nat → Int → Int) (nc1 ns1 : Nat) (H : Heap) (locs : List Loc), ok L K z0 12 → xI L K N v → mI g a → rLine g a → rLead g a → rSkill g a → rSh g a → v z0 0 = g 30 → v z0 11 = g 50 → v (v z0 19) 1 = g 78 → v (v z0 14) 5 = g 66 → v (v z0 2) 1 = g 1 → v (v z0 3) 1 = g 18 → rSub v z0 a → rHand v z0 g a → rNews v z0 g a → rTxt v z0 g a → nc1 ≤ nc + 5 → ns1 ≤ ns + 12100 → va_P (dC, dI) vwCl (mG am cm g a ++ xG L cid K N v) H → va_D (fun q : Nat => s.heap.size ≤ q) (mG am cm g a ++ xG L cid K N v) → va_S (fun q : Nat => s.heap.size ≤ q) s.heap H locs → W p l e room_1 s m #[Value.ref b] below meth c H locs nc1 ns1 (lw_Z below #[Value.ref b] s) (F0 m 1804 ls [])) : W p l e room_1 s m #[Value.ref b] below meth c H locs nc ns (lw_Z below #[Value.ref b] s) (F0 m 428 ls []) := by
  obtain ⟨hx, hb, hr, hml, hown, hts, hX9, hbl, hlocks, hgv⟩ := id C0
  have hA : ∀ q : Nat, s.heap.size ≤ q → (fun q : Nat => s.heap.size ≤ q) q := fun _ h => h
  have hbA : ¬ (fun q : Nat => s.heap.size ≤ q) b := Nat.not_le.mpr hbl
  refine lv_aload_n hx hb dL_law_428 rfl (lv_at hl 2 rfl) ?_
  refine lv_aload_n hx hb dL_law_429 rfl (lv_at hl 3 rfl) ?_
  refine lv_iload_n hx hb dL_law_430 rfl (lv_at hl 0 rfl) ?_
  refine lv_iconst (v := iI 1) hx hb dL_law_431 rfl ?_
  refine xr_add hx hb dL_law_432 ?_
  refine va_sld hx hb hX9 hbl hbA hS (xvp (t := i + 1) (by omega) (by omega) hn) dL_law_433 ?_
  obtain ⟨p_1, h_2, r_3⟩ : ∃ y : Int, xs (iI (i + 1)).toNatClampNeg = iI y ∧ rg y := ⟨_, iI_of _, rg_of _⟩
  refine jt_i (iI p_1) h_2 ?_
  have hPx := jp_tail hP
  have hDx := jd_tail hD
  refine jct_i (va_runV (As := [.int (iI p_1)]) (rest := []) ⟨hx, hb, hml, hown, hts⟩ (sX12_go l dC dI _ L cid K N tW sK sV v z0 p_1 hI hz r_3) (cwV 1 hts (jgoodVL m_1445 m_1446 m_1447 m_873 m_1448) rfl rfl rfl (by decide +kernel) ⟨(Nat.le_of_ble_eq_true rfl), (Nat.le_of_ble_eq_true rfl)⟩) ⟨xP_blind, xrecv hKx hPx hz rfl rfl, fun U hU hW => ⟨rfl, xP_of hU hW hPx hKx hDx hXx hS (fun _ h => h) hA⟩⟩ rfl rfl hl.1 rfl (lv_room (Nat.le_of_ble_eq_true rfl)) dL_law_434 ⟨(show nc + 0 ≤ 600000 by omega), (show ns + 0 ≤ 7302250 by omega)⟩) hP hD hS hA (fun r v_8 H locs w_5 hP hKx hD hS => ?_)
  obtain ⟨x_4, rfl, I_9, f_10, f_6, f_7⟩ := w_5
  have hP : va_P (dC, dI) vwCl (mG am cm g a ++ xG L cid K N v_8) H := hP
  have hD : va_D (fun q : Nat => s.heap.size ≤ q) (mG am cm g a ++ xG L cid K N v_8) := hD
  have f_7 : (x_4 = -1 ∧ (p_1 < 0 ∨ 300 < p_1) ∧ v_8 z0 0 = v z0 0) ∨ (x_4 = v_8 z0 0 ∧ 0 ≤ p_1 ∧ p_1 ≤ 300 ∧ ((2000 < v z0 0 + p_1 ∧ v_8 z0 0 = 2000) ∨ (v z0 0 + p_1 ≤ 2000 ∧ v_8 z0 0 = v z0 0 + p_1))) := f_7
  have h_11 : v_8 z0 11 = g 50 := (fr_use hz f_10 rfl).trans hhands
  have h_13 : ok L K (v z0 19) 10 := xf_12_19 hI hz
  have b_14 : v_8 z0 19 = v z0 19 := fr_use hz f_10 rfl
  have b_15 : v_8 (v z0 19) 1 = v (v z0 19) 1 := fr_use h_13 f_10 rfl
  have h_12 : v_8 (v_8 z0 19) 1 = g 78 := by rw [b_14, b_15]; exact hstolen
  have h_17 : ok L K (v z0 14) 5 := xf_12_14 hI hz
  have b_18 : v_8 z0 14 = v z0 14 := fr_use hz f_10 rfl
  have b_19 : v_8 (v z0 14) 5 = v (v z0 14) 5 := fr_use h_17 f_10 rfl
  have h_16 : v_8 (v_8 z0 14) 5 = g 66 := by rw [b_18, b_19]; exact htold
  have h_21 : ok L K (v z0 2) 7 := xf_12_2 hI hz
  have b_22 : v_8 z0 2 = v z0 2 := fr_use hz f_10 rfl
  have b_23 : v_8 (v z0 2) 1 = v (v z0 2) 1 := fr_use h_21 f_10 rfl
  have h_20 : v_8 (v_8 z0 2) 1 = g 1 := by rw [b_22, b_23]; exact hsize
  have h_25 : ok L K (v z0 3) 8 := xf_12_3 hI hz
  have b_26 : v_8 z0 3 = v z0 3 := fr_use hz f_10 rfl
  have b_27 : v_8 (v z0 3) 1 = v (v z0 3) 1 := fr_use h_25 f_10 rfl
  have h_24 : v_8 (v_8 z0 3) 1 = g 18 := by rw [b_26, b_27]; exact hsheets
  have h_28 : rSub v_8 z0 a := rSub_x hI hz (frE_of f_10) rfl (fun _ => rfl) hsub
  have h_29 : rHand v_8 z0 g a := rHand_x hI hz (frE_of f_10) rfl (fun _ => rfl) rfl hhd
  have h_30 : rNews v_8 z0 g a := rNews_x hI hz (frE_of f_10) rfl (fun _ => rfl) (fun _ => rfl) (fun _ => rfl) (fun _ => rfl) (fun _ => rfl) rfl rfl rfl rfl rfl hnw
  have h_31 : rTxt v_8 z0 g a := rTxt_x hI hz (frE_of f_10) rfl rfl rfl (fun _ => rfl) htx
  refine lv_pop hx hb dL_law_437 rfl ?_
  refine lv_aload_n hx hb dL_law_438 rfl (lv_at hl 1 rfl) ?_
  refine lv_aload_n hx hb dL_law_439 rfl (lv_at hl 3 rfl) ?_
  refine lv_iload_n hx hb dL_law_440 rfl (lv_at hl 0 rfl) ?_
  refine lv_iconst (v := iI 1) hx hb dL_law_441 rfl ?_
  refine xr_add hx hb dL_law_442 ?_
  refine va_sld hx hb hX9 hbl hbA hS (xvp (t := i + 1) (by omega) (by omega) hn) dL_law_443 ?_
  refine jt_i (iI p_1) h_2 ?_
  obtain ⟨hP, hD⟩ := lsw hP hD
  have hPm := jp_tail hP
  have hDm := jd_tail hD
  refine jct_i (va_runV (As := [.int (iI p_1)]) (rest := []) ⟨hx, hb, hml, hown, hts⟩ (sX13_go l dC dI _ am cm g a p_1 hM r_3) (cwV 1 hts (jgoodVL m_1449 m_354 m_355 m_503 m_142) rfl rfl rfl (by decide +kernel) ⟨(Nat.le_of_ble_eq_true rfl), (Nat.le_of_ble_eq_true rfl)⟩) ⟨jw_blind, va_recv hKm hPm (ci := 13) (q0 := 0) rfl rfl, fun U hU hW => ⟨rfl, jw_of hU hW hPm hKm hDm⟩⟩ rfl rfl hl.1 rfl (lv_room (Nat.le_of_ble_eq_true rfl)) dL_law_444 ⟨(show nc + 0 ≤ 600000 by omega), (show ns + 0 ≤ 7302250 by omega)⟩) hP hD hS hA (fun r u_34 H locs w_33 hP hKm hD hS => ?_)
  obtain ⟨g_35, a_36⟩ := u_34
  obtain ⟨y_32, rfl, h_37, h_38, h_39, h_40, h_41⟩ := w_33
  have hP : va_P (dC, dI) vwCl (xG L cid K N v_8 ++ mG am cm g_35 a_36) H := hP
  have hD : va_D (fun q : Nat => s.heap.size ≤ q) (xG L cid K N v_8 ++ mG am cm g_35 a_36) := hD
  have h_37 : mI g_35 a_36 := h_37
  have h_41 : (y_32 = -1 ∧ (p_1 < 0 ∨ 300 < p_1) ∧ g_35 30 = g 30) ∨ (y_32 = g_35 30 ∧ 0 ≤ p_1 ∧ p_1 ≤ 300 ∧ ((2000 < g 30 + p_1 ∧ g_35 30 = 2000) ∨ (g 30 + p_1 ≤ 2000 ∧ g_35 30 = g 30 + p_1))) := h_41
  have h_42 : rLine g_35 a_36 := rLine_t (h_38 56 (by decide)) (h_39 45 (by decide)) hrLine
  have h_43 : rLead g_35 a_36 := rLead_t (h_38 37 (by decide)) (h_39 27 (by decide)) (h_39 31 (by decide)) hrLead
  have h_44 : rSkill g_35 a_36 := rSkill_t (h_38 50 (by decide)) (h_39 38 (by decide)) hrSkill
  have h_45 : rSh g_35 a_36 := rSh_t (h_38 18 (by decide)) (h_38 26 (by decide)) (h_39 9 (by decide)) (h_39 10 (by decide)) (h_39 11 (by decide)) (h_39 12 (by decide)) (h_39 16 (by decide)) hrSh
  have b_47 := hM.1 30
  have b_47 : 0 ≤ g 30 ∧ g 30 ≤ 2000 := b_47
  have h_46 : v_8 z0 0 = g_35 30 := by omega
  have h_48 : v_8 z0 11 = g_35 50 := h_11.trans (h_38 50 (by decide)).symm
  have h_49 : v_8 (v_8 z0 19) 1 = g_35 78 := h_12.trans (h_38 78 (by decide)).symm
  have h_50 : v_8 (v_8 z0 14) 5 = g_35 66 := h_16.trans (h_38 66 (by decide)).symm
  have h_51 : v_8 (v_8 z0 2) 1 = g_35 1 := h_20.trans (h_38 1 (by decide)).symm
  have h_52 : v_8 (v_8 z0 3) 1 = g_35 18 := h_24.trans (h_38 18 (by decide)).symm
  have h_53 : rSub v_8 z0 a_36 := rSub_m (h_39 60 (by decide)) h_28
  have h_54 : rHand v_8 z0 g_35 a_36 := rHand_m (h_38 50 (by decide)) (h_39 41 (by decide)) h_29
  have h_55 : rNews v_8 z0 g_35 a_36 := rNews_m (h_38 66 (by decide)) (h_39 51 (by decide)) (h_39 52 (by decide)) (h_39 53 (by decide)) (h_39 54 (by decide)) h_30
  have h_56 : rTxt v_8 z0 g_35 a_36 := rTxt_m (h_38 1 (by decide)) (h_39 1 (by decide)) h_31
  obtain ⟨hP, hD⟩ := lsw hP hD
  refine lv_pop hx hb dL_law_447 rfl ?_
  refine lv_goto (tgt := 1804) hx hb dL_law_448 (by decide) ?_
  exact kk L K N v_8 g_35 a_36 _ _ H locs hz I_9 h_37 h_42 h_43 h_44 h_45 h_46 h_48 h_49 h_50 h_51 h_52 h_53 h_54 h_55 h_56 (by omega) (by omega) hP hD hS
