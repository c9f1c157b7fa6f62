set_option maxHeartbeats 4000000 in
set_option maxRecDepth 100000 in
theorem lc_7 {p : Program} {l : Launch} {e : Env} {s : State} {m : MethodId} {below : List Frame} {meth : Method} {c : Code} {b n : Nat} {xs : Nat → Int32} (C0 : lw_At p s m meth c b n xs) (hn : n ≤ 3072) {dC : Nat → ClassId} {dI : Nat → Nat → Nat} {am : Nat → Nat} {cm cid : Nat → ClassId} {tW : Nat} {sK sV : Nat → Nat} (hXx : xX tW sK sV (fun q : Nat => s.heap.size ≤ q) s s.heap) (hKx : va_K (dC, dI) vwCl (xT cid) s) (hKm : va_K (dC, dI) vwCl (mT cm) s) {z0 : Int} {i : Int} (hi0 : 0 ≤ i) (hi : i + 6 ≤ n) {L : List Nat} {K : Int → Nat} {N : Int → Int} {v : Int → Int → Int} {g : Nat → Int} {a : Nat → Int → Int} (hz : ok L K z0 12) (hI : xI L K N v) (hM : mI g a) (hrLine : rLine g a) (hrLead : rLead g a) (hrSkill : rSkill g a) (hrSh : rSh g a) (hnow : v z0 0 = g 30) (hhands : v z0 11 = g 50) (hstolen : v (v z0 19) 1 = g 78) (htold : v (v z0 14) 5 = g 66) (hsize : v (v z0 2) 1 = g 1) (hsheets : v (v z0 3) 1 = g 18) (hsub : rSub v z0 a) (hhd : rHand v z0 g a) (hnw : rNews v z0 g a) (htx : rTxt v z0 g a) {nc ns : Nat} (hc : nc + 5 ≤ 600000) (hs : ns + 12100 ≤ 7302250) {H : Heap} {locs : List Loc} {ls : Array Slot} (hP : va_P (dC, dI) vwCl (mG am cm g a ++ xG L cid K N v) H) (hD : va_D (fun q : Nat => s.heap.size ≤ q) (mG am cm g a ++ xG L cid K N v)) (hS : va_S (fun q : Nat => s.heap.size ≤ q) s.heap H locs) (hl : lv_has ls 4 [(3, .int (iI i)), (2, .ref (am 0)), (1, .ref z0.toNat), (0, .ref b)])
    (kk : ∀ (L : List Nat) (K : Int → Nat) (N : Int → Int) (v : Int → Int → Int) (g : Nat → Int) (a : Nat → Int → Int) (nc1 ns1 : Nat) (H : Heap) (locs : List Loc), ok L K z0 12 → xI L K N v → mI g a → rLine g a → rLead g a → rSkill g a → rSh g a → v z0 0 = g 30 → v z0 11 = g 50 → v (v z0 19) 1 = g 78 → v (v z0 14) 5 = g 66 → v (v z0 2) 1 = g 1 → v (v z0 3) 1 = g 18 → rSub v z0 a → rHand v z0 g a → rNews v z0 g a → rTxt v z0 g a → nc1 ≤ nc + 5 → ns1 ≤ ns + 12100 → va_P (dC, dI) vwCl (mG am cm g a ++ xG L cid K N v) H → va_D (fun q : Nat => s.heap.size ≤ q) (mG am cm g a ++ xG L cid K N v) → va_S (fun q : Nat => s.heap.size ≤ q) s.heap H locs → W p l e room_1 s m #[Value.ref b] below meth c H locs nc1 ns1 (lw_Z below #[Value.ref b] s) (F0 m 1804 ls [])) : W p l e room_1 s m #[Value.ref b] below meth c H locs nc ns (lw_Z below #[Value.ref b] s) (F0 m 451 ls []) := by
  obtain ⟨hx, hb, hr, hml, hown, hts, hX9, hbl, hlocks, hgv⟩ := id C0
  have hA : ∀ q : Nat, s.heap.size ≤ q → (fun q : Nat => s.heap.size ≤ q) q := fun _ h => h
  have hbA : ¬ (fun q : Nat => s.heap.size ≤ q) b := Nat.not_le.mpr hbl
  refine lv_aload_n hx hb dL_law_451 rfl (lv_at hl 2 rfl) ?_
  refine lv_aload_n hx hb dL_law_452 rfl (lv_at hl 3 rfl) ?_
  refine lv_iload_n hx hb dL_law_453 rfl (lv_at hl 0 rfl) ?_
  refine lv_iconst (v := iI 1) hx hb dL_law_454 rfl ?_
  refine xr_add hx hb dL_law_455 ?_
  refine va_sld hx hb hX9 hbl hbA hS (xvp (t := i + 1) (by omega) (by omega) hn) dL_law_456 ?_
  obtain ⟨p_1, h_2, r_3⟩ : ∃ y : Int, xs (iI (i + 1)).toNatClampNeg = iI y ∧ rg y := ⟨_, iI_of _, rg_of _⟩
  refine jt_i (iI p_1) h_2 ?_
  refine lv_aload_n hx hb dL_law_457 rfl (lv_at hl 3 rfl) ?_
  refine lv_iload_n hx hb dL_law_458 rfl (lv_at hl 0 rfl) ?_
  refine lv_iconst (v := iI 2) hx hb dL_law_459 rfl ?_
  refine xr_add hx hb dL_law_460 ?_
  refine va_sld hx hb hX9 hbl hbA hS (xvp (t := i + 2) (by omega) (by omega) hn) dL_law_461 ?_
  obtain ⟨p_4, h_5, r_6⟩ : ∃ y : Int, xs (iI (i + 2)).toNatClampNeg = iI y ∧ rg y := ⟨_, iI_of _, rg_of _⟩
  refine jt_i (iI p_4) h_5 ?_
  have hPx := jp_tail hP
  have hDx := jd_tail hD
  refine jct_i (va_runV (As := [.int (iI p_1), .int (iI p_4)]) (rest := []) ⟨hx, hb, hml, hown, hts⟩ (sX12_bound l dC dI _ L cid K N tW sK sV v z0 p_1 p_4 hI hz r_3 r_6) (cwV 2 hts (jgoodVL m_1450 m_1451 m_1452 m_873 m_1453) rfl rfl rfl (by decide +kernel) ⟨(Nat.le_of_ble_eq_true rfl), (Nat.le_of_ble_eq_true rfl)⟩) ⟨xP_blind, xrecv hKx hPx hz rfl rfl, fun U hU hW => ⟨rfl, xP_of hU hW hPx hKx hDx hXx hS (fun _ h => h) hA⟩⟩ rfl rfl hl.1 rfl (lv_room (Nat.le_of_ble_eq_true rfl)) dL_law_462 ⟨(show nc + 0 ≤ 600000 by omega), (show ns + 0 ≤ 7302250 by omega)⟩) hP hD hS hA (fun r v_10 H locs w_8 hP hKx hD hS => ?_)
  obtain ⟨x_7, rfl, I_11, f_12, f_9⟩ := w_8
  have hP : va_P (dC, dI) vwCl (mG am cm g a ++ xG L cid K N v_10) H := hP
  have hD : va_D (fun q : Nat => s.heap.size ≤ q) (mG am cm g a ++ xG L cid K N v_10) := hD
  have h_13 : v_10 z0 0 = g 30 := (fr_use hz f_12 rfl).trans hnow
  have h_14 : v_10 z0 11 = g 50 := (fr_use hz f_12 rfl).trans hhands
  have h_16 : ok L K (v z0 19) 10 := xf_12_19 hI hz
  have b_17 : v_10 z0 19 = v z0 19 := fr_use hz f_12 rfl
  have b_18 : v_10 (v z0 19) 1 = v (v z0 19) 1 := fr_use h_16 f_12 rfl
  have h_15 : v_10 (v_10 z0 19) 1 = g 78 := by rw [b_17, b_18]; exact hstolen
  have h_20 : ok L K (v z0 14) 5 := xf_12_14 hI hz
  have b_21 : v_10 z0 14 = v z0 14 := fr_use hz f_12 rfl
  have b_22 : v_10 (v z0 14) 5 = v (v z0 14) 5 := fr_use h_20 f_12 rfl
  have h_19 : v_10 (v_10 z0 14) 5 = g 66 := by rw [b_21, b_22]; exact htold
  have h_24 : ok L K (v z0 2) 7 := xf_12_2 hI hz
  have b_25 : v_10 z0 2 = v z0 2 := fr_use hz f_12 rfl
  have b_26 : v_10 (v z0 2) 1 = v (v z0 2) 1 := fr_use h_24 f_12 rfl
  have h_23 : v_10 (v_10 z0 2) 1 = g 1 := by rw [b_25, b_26]; exact hsize
  have h_28 : ok L K (v z0 3) 8 := xf_12_3 hI hz
  have b_29 : v_10 z0 3 = v z0 3 := fr_use hz f_12 rfl
  have b_30 : v_10 (v z0 3) 1 = v (v z0 3) 1 := fr_use h_28 f_12 rfl
  have h_27 : v_10 (v_10 z0 3) 1 = g 18 := by rw [b_29, b_30]; exact hsheets
  have h_31 : rSub v_10 z0 a := rSub_x hI hz (frE_of f_12) rfl (fun _ => rfl) hsub
  have h_32 : rHand v_10 z0 g a := rHand_x hI hz (frE_of f_12) rfl (fun _ => rfl) rfl hhd
  have h_33 : rNews v_10 z0 g a := rNews_x hI hz (frE_of f_12) rfl (fun _ => rfl) (fun _ => rfl) (fun _ => rfl) (fun _ => rfl) (fun _ => rfl) rfl rfl rfl rfl rfl hnw
  have h_34 : rTxt v_10 z0 g a := rTxt_x hI hz (frE_of f_12) rfl rfl rfl (fun _ => rfl) htx
  refine lv_pop hx hb dL_law_465 rfl ?_
  refine lv_aload_n hx hb dL_law_466 rfl (lv_at hl 1 rfl) ?_
  refine lv_aload_n hx hb dL_law_467 rfl (lv_at hl 3 rfl) ?_
  refine lv_iload_n hx hb dL_law_468 rfl (lv_at hl 0 rfl) ?_
  refine lv_iconst (v := iI 1) hx hb dL_law_469 rfl ?_
  refine xr_add hx hb dL_law_470 ?_
  refine va_sld hx hb hX9 hbl hbA hS (xvp (t := i + 1) (by omega) (by omega) hn) dL_law_471 ?_
  refine jt_i (iI p_1) h_2 ?_
  refine lv_aload_n hx hb dL_law_472 rfl (lv_at hl 3 rfl) ?_
  refine lv_iload_n hx hb dL_law_473 rfl (lv_at hl 0 rfl) ?_
  refine lv_iconst (v := iI 2) hx hb dL_law_474 rfl ?_
  refine xr_add hx hb dL_law_475 ?_
  refine va_sld hx hb hX9 hbl hbA hS (xvp (t := i + 2) (by omega) (by omega) hn) dL_law_476 ?_
  refine jt_i (iI p_4) h_5 ?_
  obtain ⟨hP, hD⟩ := lsw hP hD
  have hPm := jp_tail hP
  have hDm := jd_tail hD
  refine jct_i (va_runV (As := [.int (iI p_1), .int (iI p_4)]) (rest := []) ⟨hx, hb, hml, hown, hts⟩ (sX13_bound l dC dI _ am cm g a p_1 p_4 hM r_3 r_6) (cwV 2 hts (jgoodVL m_1454 m_297 m_298 m_503 m_113) rfl rfl rfl (by decide +kernel) ⟨(Nat.le_of_ble_eq_true rfl), (Nat.le_of_ble_eq_true rfl)⟩) ⟨jw_blind, va_recv hKm hPm (ci := 13) (q0 := 0) rfl rfl, fun U hU hW => ⟨rfl, jw_of hU hW hPm hKm hDm⟩⟩ rfl rfl hl.1 rfl (lv_room (Nat.le_of_ble_eq_true rfl)) dL_law_477 ⟨(show nc + 0 ≤ 600000 by omega), (show ns + 0 ≤ 7302250 by omega)⟩) hP hD hS hA (fun r u_37 H locs w_36 hP hKm hD hS => ?_)
  obtain ⟨g_38, a_39⟩ := u_37
  obtain ⟨y_35, rfl, h_40, h_41, h_42, h_43⟩ := w_36
  have hP : va_P (dC, dI) vwCl (xG L cid K N v_10 ++ mG am cm g_38 a_39) H := hP
  have hD : va_D (fun q : Nat => s.heap.size ≤ q) (xG L cid K N v_10 ++ mG am cm g_38 a_39) := hD
  have h_40 : g_38 = g := h_40
  have h_41 : mI g_38 a_39 := h_41
  have h_44 : rLine g_38 a_39 := rLine_t (congrFun h_40 56) (h_42 45 (by decide)) hrLine
  have h_45 : rLead g_38 a_39 := rLead_t (congrFun h_40 37) (h_42 27 (by decide)) (h_42 31 (by decide)) hrLead
  have h_46 : rSkill g_38 a_39 := rSkill_t (congrFun h_40 50) (h_42 38 (by decide)) hrSkill
  have h_47 : rSh g_38 a_39 := rSh_t (congrFun h_40 18) (congrFun h_40 26) (h_42 9 (by decide)) (h_42 10 (by decide)) (h_42 11 (by decide)) (h_42 12 (by decide)) (h_42 16 (by decide)) hrSh
  have h_48 : v_10 z0 0 = g_38 30 := h_13.trans (congrFun h_40 30).symm
  have h_49 : v_10 z0 11 = g_38 50 := h_14.trans (congrFun h_40 50).symm
  have h_50 : v_10 (v_10 z0 19) 1 = g_38 78 := h_15.trans (congrFun h_40 78).symm
  have h_51 : v_10 (v_10 z0 14) 5 = g_38 66 := h_19.trans (congrFun h_40 66).symm
  have h_52 : v_10 (v_10 z0 2) 1 = g_38 1 := h_23.trans (congrFun h_40 1).symm
  have h_53 : v_10 (v_10 z0 3) 1 = g_38 18 := h_27.trans (congrFun h_40 18).symm
  have h_54 : rSub v_10 z0 a_39 := rSub_m (h_42 60 (by decide)) h_31
  have h_55 : rHand v_10 z0 g_38 a_39 := rHand_m (congrFun h_40 50) (h_42 41 (by decide)) h_32
  have h_56 : rNews v_10 z0 g_38 a_39 := rNews_m (congrFun h_40 66) (h_42 51 (by decide)) (h_42 52 (by decide)) (h_42 53 (by decide)) (h_42 54 (by decide)) h_33
  have h_57 : rTxt v_10 z0 g_38 a_39 := rTxt_m (congrFun h_40 1) (h_42 1 (by decide)) h_34
  obtain ⟨hP, hD⟩ := lsw hP hD
  refine lv_pop hx hb dL_law_480 rfl ?_
  refine lv_goto (tgt := 1804) hx hb dL_law_481 (by decide) ?_
  exact kk L K N v_10 g_38 a_39 _ _ H locs hz I_11 h_41 h_44 h_45 h_46 h_47 h_48 h_49 h_50 h_51 h_52 h_53 h_54 h_55 h_56 h_57 (by omega) (by omega) hP hD hS
set_option maxHeartbeats 4000000 in
set_option maxRecDepth 100000 in
theorem lc_8 {p : Program} {l : Launch} {e : Env} {s : State} {m : MethodId} {below : List Frame} {meth : Method} {c : Code} {b n : Nat} {xs : Nat → Int32} (C0 : lw_At p s m meth c b n xs) (hn : n ≤ 3072) {dC : Nat → ClassId} {dI : Nat → Nat → Nat} {am : Nat → Nat} {cm cid : Nat → ClassId} {tW : Nat} {sK sV : Nat → Nat} (hXx : xX tW sK sV (fun q : Nat => s.heap.size ≤ q) s s.heap) (hKx : va_K (dC, dI) vwCl (xT cid) s) (hKm : va_K (dC, dI) vwCl (mT cm) s) {z0 : Int} {i : Int} (hi0 : 0 ≤ i) (hi : i + 6 ≤ n) {L : List Nat} {K : Int → Nat} {N : Int → Int} {v : Int → Int → Int} {g : Nat → Int} {a : Nat → Int → Int} (hz : ok L K z0 12) (hI : xI L K N v) (hM : mI g a) (hrLine : rLine g a) (hrLead : rLead g a) (hrSkill : rSkill g a) (hrSh : rSh g a) (hnow : v z0 0 = g 30) (hhands : v z0 11 = g 50) (hstolen : v (v z0 19) 1 = g 78) (htold : v (v z0 14) 5 = g 66) (hsize : v (v z0 2) 1 = g 1) (hsheets : v (v z0 3) 1 = g 18) (hsub : rSub v z0 a) (hhd : rHand v z0 g a) (hnw : rNews v z0 g a) (htx : rTxt v z0 g a) {nc ns : Nat} (hc : nc + 5 ≤ 600000) (hs : ns + 12100 ≤ 7302250) {H : Heap} {locs : List Loc} {ls : Array Slot} (hP : va_P (dC, dI) vwCl (mG am cm g a ++ xG L cid K N v) H) (hD : va_D (fun q : Nat => s.heap.size ≤ q) (mG am cm g a ++ xG L cid K N v)) (hS : va_S (fun q : Nat => s.heap.size ≤ q) s.heap H locs) (hl : lv_has ls 4 [(3, .int (iI i)), (2, .ref (am 0)), (1, .ref z0.toNat), (0, .ref b)])
    (kk : ∀ (L : List Nat) (K : Int → Nat) (N : Int → Int) (v : Int → Int → Int) (g : Nat → Int) (a : Nat → Int → Int) (nc1 ns1 : Nat) (H : Heap) (locs : List Loc), ok L K z0 12 → xI L K N v → mI g a → rLine g a → rLead g a → rSkill g a → rSh g a → v z0 0 = g 30 → v z0 11 = g 50 → v (v z0 19) 1 = g 78 → v (v z0 14) 5 = g 66 → v (v z0 2) 1 = g 1 → v (v z0 3) 1 = g 18 → rSub v z0 a → rHand v z0 g a → rNews v z0 g a → rTxt v z0 g a → nc1 ≤ nc + 5 → ns1 ≤ ns + 12100 → va_P (dC, dI) vwCl (mG am cm g a ++ xG L cid K N v) H → va_D (fun q : Nat => s.heap.size ≤ q) (mG am cm g a ++ xG L cid K N v) → va_S (fun q : Nat => s.heap.size ≤ q) s.heap H locs → W p l e room_1 s m #[Value.ref b] below meth c H locs nc1 ns1 (lw_Z below #[Value.ref b] s) (F0 m 1804 ls [])) : W p l e room_1 s m #[Value.ref b] below meth c H locs nc ns (lw_Z below #[Value.ref b] s) (F0 m 484 ls []) := by
  obtain ⟨hx, hb, hr, hml, hown, hts, hX9, hbl, hlocks, hgv⟩ := id C0
  have hA : ∀ q : Nat, s.heap.size ≤ q → (fun q : Nat => s.heap.size ≤ q) q := fun _ h => h
  have hbA : ¬ (fun q : Nat => s.heap.size ≤ q) b := Nat.not_le.mpr hbl
  refine lv_aload_n hx hb dL_law_484 rfl (lv_at hl 2 rfl) ?_
  refine lv_aload_n hx hb dL_law_485 rfl (lv_at hl 3 rfl) ?_
  refine lv_iload_n hx hb dL_law_486 rfl (lv_at hl 0 rfl) ?_
  refine lv_iconst (v := iI 1) hx hb dL_law_487 rfl ?_
  refine xr_add hx hb dL_law_488 ?_
  refine va_sld hx hb hX9 hbl hbA hS (xvp (t := i + 1) (by omega) (by omega) hn) dL_law_489 ?_
  obtain ⟨p_1, h_2, r_3⟩ : ∃ y : Int, xs (iI (i + 1)).toNatClampNeg = iI y ∧ rg y := ⟨_, iI_of _, rg_of _⟩
  refine jt_i (iI p_1) h_2 ?_
  refine lv_aload_n hx hb dL_law_490 rfl (lv_at hl 3 rfl) ?_
  refine lv_iload_n hx hb dL_law_491 rfl (lv_at hl 0 rfl) ?_
  refine lv_iconst (v := iI 2) hx hb dL_law_492 rfl ?_
  refine xr_add hx hb dL_law_493 ?_
  refine va_sld hx hb hX9 hbl hbA hS (xvp (t := i + 2) (by omega) (by omega) hn) dL_law_494 ?_
  obtain ⟨p_4, h_5, r_6⟩ : ∃ y : Int, xs (iI (i + 2)).toNatClampNeg = iI y ∧ rg y := ⟨_, iI_of _, rg_of _⟩
  refine jt_i (iI p_4) h_5 ?_
  refine lv_aload_n hx hb dL_law_495 rfl (lv_at hl 3 rfl) ?_
  refine lv_iload_n hx hb dL_law_496 rfl (lv_at hl 0 rfl) ?_
  refine lv_iconst (v := iI 3) hx hb dL_law_497 rfl ?_
  refine xr_add hx hb dL_law_498 ?_
  refine va_sld hx hb hX9 hbl hbA hS (xvp (t := i + 3) (by omega) (by omega) hn) dL_law_499 ?_
  obtain ⟨p_7, h_8, r_9⟩ : ∃ y : Int, xs (iI (i + 3)).toNatClampNeg = iI y ∧ rg y := ⟨_, iI_of _, rg_of _⟩
  refine jt_i (iI p_7) h_8 ?_
  refine lv_aload_n hx hb dL_law_500 rfl (lv_at hl 3 rfl) ?_
  refine lv_iload_n hx hb dL_law_501 rfl (lv_at hl 0 rfl) ?_
  refine lv_iconst (v := iI 4) hx hb dL_law_502 rfl ?_
  refine xr_add hx hb dL_law_503 ?_
  refine va_sld hx hb hX9 hbl hbA hS (xvp (t := i + 4) (by omega) (by omega) hn) dL_law_504 ?_
  obtain ⟨p_10, h_11, r_12⟩ : ∃ y : Int, xs (iI (i + 4)).toNatClampNeg = iI y ∧ rg y := ⟨_, iI_of _, rg_of _⟩
  refine jt_i (iI p_10) h_11 ?_
  have hPx := jp_tail hP
  have hDx := jd_tail hD
  refine jct_i (va_runV (As := [.int (iI p_1), .int (iI p_4), .int (iI p_7), .int (iI p_10)]) (rest := []) ⟨hx, hb, hml, hown, hts⟩ (sX12_article l dC dI _ L cid K N tW sK sV v z0 p_1 p_4 p_7 p_10 hI hz r_3 r_6 r_9 r_12) (cwV 4 hts (jgoodVL m_1455 m_1456 m_1457 m_873 m_1458) rfl rfl rfl (by decide +kernel) ⟨(Nat.le_of_ble_eq_true rfl), (Nat.le_of_ble_eq_true rfl)⟩) ⟨xP_blind, xrecv hKx hPx hz rfl rfl, fun U hU hW => ⟨rfl, xP_of hU hW hPx hKx hDx hXx hS (fun _ h => h) hA⟩⟩ rfl rfl hl.1 rfl (lv_room (Nat.le_of_ble_eq_true rfl)) dL_law_505 ⟨(show nc + 2 ≤ 600000 by omega), (show ns + 30 ≤ 7302250 by omega)⟩) hP hD hS hA (fun r u_16 H locs w_14 hP hKx hD hS => ?_)
  obtain ⟨L_17, K_18, N_19, v_20⟩ := u_16
  obtain ⟨x_13, rfl, I_21, E_22, f_23, f_15⟩ := w_14
  have hP : va_P (dC, dI) vwCl (mG am cm g a ++ xG L_17 cid K_18 N_19 v_20) H := hP
  have hD : va_D (fun q : Nat => s.heap.size ≤ q) (mG am cm g a ++ xG L_17 cid K_18 N_19 v_20) := hD
  have I_21 : xI L_17 K_18 N_19 v_20 := I_21
  have E_22 : xE L K N L_17 K_18 N_19 := E_22
  have f_23 : frE L K [(0, 3), (0, 4), (0, 5), (0, 6), (0, 7), (0, 8), (0, 9), (6, 1), (6, 2), (6, 3), (6, 4), (6, 5), (12, 7), (34, (-1)), (36, (-1)), (65, (-1)), (99, 0)] v_20 v := f_23
  have h_25 : v_20 z0 0 = g 30 := (frE_use hz f_23 rfl).trans hnow
  have h_26 : v_20 z0 11 = g 50 := (frE_use hz f_23 rfl).trans hhands
  have h_28 : ok L K (v z0 19) 10 := xf_12_19 hI hz
  have b_29 : v_20 z0 19 = v z0 19 := frE_use hz f_23 rfl
  have b_30 : v_20 (v z0 19) 1 = v (v z0 19) 1 := frE_use h_28 f_23 rfl
  have h_27 : v_20 (v_20 z0 19) 1 = g 78 := by rw [b_29, b_30]; exact hstolen
  have h_32 : ok L K (v z0 14) 5 := xf_12_14 hI hz
  have b_33 : v_20 z0 14 = v z0 14 := frE_use hz f_23 rfl
  have b_34 : v_20 (v z0 14) 5 = v (v z0 14) 5 := frE_use h_32 f_23 rfl
  have h_31 : v_20 (v_20 z0 14) 5 = g 66 := by rw [b_33, b_34]; exact htold
  have h_36 : ok L K (v z0 2) 7 := xf_12_2 hI hz
  have b_37 : v_20 z0 2 = v z0 2 := frE_use hz f_23 rfl
  have b_38 : v_20 (v z0 2) 1 = v (v z0 2) 1 := frE_use h_36 f_23 rfl
  have h_35 : v_20 (v_20 z0 2) 1 = g 1 := by rw [b_37, b_38]; exact hsize
  have h_40 : ok L K (v z0 3) 8 := xf_12_3 hI hz
  have b_41 : v_20 z0 3 = v z0 3 := frE_use hz f_23 rfl
  have b_42 : v_20 (v z0 3) 1 = v (v z0 3) 1 := frE_use h_40 f_23 rfl
  have h_39 : v_20 (v_20 z0 3) 1 = g 18 := by rw [b_41, b_42]; exact hsheets
  have h_43 : rSub v_20 z0 a := rSub_x hI hz f_23 rfl (fun _ => rfl) hsub
  have h_44 : rHand v_20 z0 g a := rHand_x hI hz f_23 rfl (fun _ => rfl) rfl hhd
  have h_45 : rNews v_20 z0 g a := rNews_x hI hz f_23 rfl (fun _ => rfl) (fun _ => rfl) (fun _ => rfl) (fun _ => rfl) (fun _ => rfl) rfl rfl rfl rfl rfl hnw
  have h_46 : rTxt v_20 z0 g a := rTxt_x hI hz f_23 rfl rfl rfl (fun _ => rfl) htx
  have h_24 := xE_ok E_22 hz
  refine lv_pop hx hb dL_law_508 rfl ?_
  refine lv_aload_n hx hb dL_law_509 rfl (lv_at hl 1 rfl) ?_
  refine lv_aload_n hx hb dL_law_510 rfl (lv_at hl 3 rfl) ?_
  refine lv_iload_n hx hb dL_law_511 rfl (lv_at hl 0 rfl) ?_
  refine lv_iconst (v := iI 1) hx hb dL_law_512 rfl ?_
  refine xr_add hx hb dL_law_513 ?_
  refine va_sld hx hb hX9 hbl hbA hS (xvp (t := i + 1) (by omega) (by omega) hn) dL_law_514 ?_
  refine jt_i (iI p_1) h_2 ?_
  refine lv_aload_n hx hb dL_law_515 rfl (lv_at hl 3 rfl) ?_
  refine lv_iload_n hx hb dL_law_516 rfl (lv_at hl 0 rfl) ?_
  refine lv_iconst (v := iI 2) hx hb dL_law_517 rfl ?_
  refine xr_add hx hb dL_law_518 ?_
  refine va_sld hx hb hX9 hbl hbA hS (xvp (t := i + 2) (by omega) (by omega) hn) dL_law_519 ?_
  refine jt_i (iI p_4) h_5 ?_
  refine lv_aload_n hx hb dL_law_520 rfl (lv_at hl 3 rfl) ?_
  refine lv_iload_n hx hb dL_law_521 rfl (lv_at hl 0 rfl) ?_
  refine lv_iconst (v := iI 3) hx hb dL_law_522 rfl ?_
  refine xr_add hx hb dL_law_523 ?_
  refine va_sld hx hb hX9 hbl hbA hS (xvp (t := i + 3) (by omega) (by omega) hn) dL_law_524 ?_
  refine jt_i (iI p_7) h_8 ?_
  refine lv_aload_n hx hb dL_law_525 rfl (lv_at hl 3 rfl) ?_
  refine lv_iload_n hx hb dL_law_526 rfl (lv_at hl 0 rfl) ?_
  refine lv_iconst (v := iI 4) hx hb dL_law_527 rfl ?_
  refine xr_add hx hb dL_law_528 ?_
  refine va_sld hx hb hX9 hbl hbA hS (xvp (t := i + 4) (by omega) (by omega) hn) dL_law_529 ?_
  refine jt_i (iI p_10) h_11 ?_
  obtain ⟨hP, hD⟩ := lsw hP hD
  have hPm := jp_tail hP
  have hDm := jd_tail hD
  refine jct_i (va_runV (As := [.int (iI p_1), .int (iI p_4), .int (iI p_7), .int (iI p_10)]) (rest := []) ⟨hx, hb, hml, hown, hts⟩ (sX13_article l dC dI _ am cm g a p_1 p_4 p_7 p_10 hM r_3 r_6 r_9 r_12 hrLead) (cwV 4 hts (jgoodVL m_1459 m_285 m_286 m_503 m_107) rfl rfl rfl (by decide +kernel) ⟨(Nat.le_of_ble_eq_true rfl), (Nat.le_of_ble_eq_true rfl)⟩) ⟨jw_blind, va_recv hKm hPm (ci := 13) (q0 := 0) rfl rfl, fun U hU hW => ⟨rfl, jw_of hU hW hPm hKm hDm⟩⟩ rfl rfl hl.1 rfl (lv_room (Nat.le_of_ble_eq_true rfl)) dL_law_530 ⟨(show nc + 2 + 0 ≤ 600000 by omega), (show ns + 30 + 0 ≤ 7302250 by omega)⟩) hP hD hS hA (fun r u_49 H locs w_48 hP hKm hD hS => ?_)
  obtain ⟨g_50, a_51⟩ := u_49
  obtain ⟨y_47, rfl, h_52, h_53, h_54, h_55, h_56⟩ := w_48
  have hP : va_P (dC, dI) vwCl (xG L_17 cid K_18 N_19 v_20 ++ mG am cm g_50 a_51) H := hP
  have hD : va_D (fun q : Nat => s.heap.size ≤ q) (xG L_17 cid K_18 N_19 v_20 ++ mG am cm g_50 a_51) := hD
  have h_52 : mI g_50 a_51 := h_52
  have h_57 : rLine g_50 a_51 := rLine_t (h_53 56 (by decide)) (h_54 45 (by decide)) hrLine
  have h_58 : rLead g_50 a_51 := h_56
  have h_59 : rSkill g_50 a_51 := rSkill_t (h_53 50 (by decide)) (h_54 38 (by decide)) hrSkill
  have h_60 : rSh g_50 a_51 := rSh_t (h_53 18 (by decide)) (h_53 26 (by decide)) (h_54 9 (by decide)) (h_54 10 (by decide)) (h_54 11 (by decide)) (h_54 12 (by decide)) (h_54 16 (by decide)) hrSh
  have h_61 : v_20 z0 0 = g_50 30 := h_25.trans (h_53 30 (by decide)).symm
  have h_62 : v_20 z0 11 = g_50 50 := h_26.trans (h_53 50 (by decide)).symm
  have h_63 : v_20 (v_20 z0 19) 1 = g_50 78 := h_27.trans (h_53 78 (by decide)).symm
  have h_64 : v_20 (v_20 z0 14) 5 = g_50 66 := h_31.trans (h_53 66 (by decide)).symm
  have h_65 : v_20 (v_20 z0 2) 1 = g_50 1 := h_35.trans (h_53 1 (by decide)).symm
  have h_66 : v_20 (v_20 z0 3) 1 = g_50 18 := h_39.trans (h_53 18 (by decide)).symm
  have h_67 : rSub v_20 z0 a_51 := rSub_m (h_54 60 (by decide)) h_43
  have h_68 : rHand v_20 z0 g_50 a_51 := rHand_m (h_53 50 (by decide)) (h_54 41 (by decide)) h_44
  have h_69 : rNews v_20 z0 g_50 a_51 := rNews_m (h_53 66 (by decide)) (h_54 51 (by decide)) (h_54 52 (by decide)) (h_54 53 (by decide)) (h_54 54 (by decide)) h_45
  have h_70 : rTxt v_20 z0 g_50 a_51 := rTxt_m (h_53 1 (by decide)) (h_54 1 (by decide)) h_46
  obtain ⟨hP, hD⟩ := lsw hP hD
  refine lv_pop hx hb dL_law_533 rfl ?_
  refine lv_goto (tgt := 1804) hx hb dL_law_534 (by decide) ?_
  exact kk L_17 K_18 N_19 v_20 g_50 a_51 _ _ H locs h_24 I_21 h_52 h_57 h_58 h_59 h_60 h_61 h_62 h_63 h_64 h_65 h_66 h_67 h_68 h_69 h_70 (by omega) (by omega) hP hD hS
set_option maxHeartbeats 4000000 in
set_option maxRecDepth 100000 in
theorem lc_9 {p : Program} {l : Launch} {e : Env} {s : State} {m : MethodId} {below : List Frame} {meth : Method} {c : Code} {b n : Nat} {xs : Nat → Int32} (C0 : lw_At p s m meth c b n xs) (hn : n ≤ 3072) {dC : Nat → ClassId} {dI : Nat → Nat → Nat} {am : Nat → Nat} {cm cid : Nat → ClassId} {tW : Nat} {sK sV : Nat → Nat} (hXx : xX tW sK sV (fun q : Nat => s.heap.size ≤ q) s s.heap) (hKx : va_K (dC, dI) vwCl (xT cid) s) (hKm : va_K (dC, dI) vwCl (mT cm) s) {z0 : Int} {i : Int} (hi0 : 0 ≤ i) (hi : i + 6 ≤ n) {L : List Nat} {K : Int → Nat} {N : Int → Int} {v : Int → Int → Int} {g : Nat → Int} {a : Nat → Int → Int} (hz : ok L K z0 12) (hI : xI L K N v) (hM : mI g a) (hrLine : rLine g a) (hrLead : rLead g a) (hrSkill : rSkill g a) (hrSh : rSh g a) (hnow : v z0 0 = g 30) (hhands : v z0 11 = g 50) (hstolen : v (v z0 19) 1 = g 78) (htold : v (v z0 14) 5 = g 66) (hsize : v (v z0 2) 1 = g 1) (hsheets : v (v z0 3) 1 = g 18) (hsub : rSub v z0 a) (hhd : rHand v z0 g a) (hnw : rNews v z0 g a) (htx : rTxt v z0 g a) {nc ns : Nat} (hc : nc + 5 ≤ 600000) (hs : ns + 12100 ≤ 7302250) {H : Heap} {locs : List Loc} {ls : Array Slot} (hP : va_P (dC, dI) vwCl (mG am cm g a ++ xG L cid K N v) H) (hD : va_D (fun q : Nat => s.heap.size ≤ q) (mG am cm g a ++ xG L cid K N v)) (hS : va_S (fun q : Nat => s.heap.size ≤ q) s.heap H locs) (hl : lv_has ls 4 [(3, .int (iI i)), (2, .ref (am 0)), (1, .ref z0.toNat), (0, .ref b)])
    (kk : ∀ (L : List Nat) (K : Int → Nat) (N : Int → Int) (v : Int → Int → Int) (g : Nat → Int) (a : Nat → Int → Int) (nc1 ns1 : Nat) (H : Heap) (locs : List Loc), ok L K z0 12 → xI L K N v → mI g a → rLine g a → rLead g a → rSkill g a → rSh g a → v z0 0 = g 30 → v z0 11 = g 50 → v (v z0 19) 1 = g 78 → v (v z0 14) 5 = g 66 → v (v z0 2) 1 = g 1 → v (v z0 3) 1 = g 18 → rSub v z0 a → rHand v z0 g a → rNews v z0 g a → rTxt v z0 g a → nc1 ≤ nc + 5 → ns1 ≤ ns + 12100 → va_P (dC, dI) vwCl (mG am cm g a ++ xG L cid K N v) H → va_D (fun q : Nat => s.heap.size ≤ q) (mG am cm g a ++ xG L cid K N v) → va_S (fun q : Nat => s.heap.size ≤ q) s.heap H locs → W p l e room_1 s m #[Value.ref b] below meth c H locs nc1 ns1 (lw_Z below #[Value.ref b] s) (F0 m 1804 ls [])) : W p l e room_1 s m #[Value.ref b] below meth c H locs nc ns (lw_Z below #[Value.ref b] s) (F0 m 537 ls []) := by
  obtain ⟨hx, hb, hr, hml, hown, hts, hX9, hbl, hlocks, hgv⟩ := id C0
  have hA : ∀ q : Nat, s.heap.size ≤ q → (fun q : Nat => s.heap.size ≤ q) q := fun _ h => h
  have hbA : ¬ (fun q : Nat => s.heap.size ≤ q) b := Nat.not_le.mpr hbl
  refine lv_aload_n hx hb dL_law_537 rfl (lv_at hl 2 rfl) ?_
  refine lv_aload_n hx hb dL_law_538 rfl (lv_at hl 3 rfl) ?_
  refine lv_iload_n hx hb dL_law_539 rfl (lv_at hl 0 rfl) ?_
  refine lv_iconst (v := iI 1) hx hb dL_law_540 rfl ?_
  refine xr_add hx hb dL_law_541 ?_
  refine va_sld hx hb hX9 hbl hbA hS (xvp (t := i + 1) (by omega) (by omega) hn) dL_law_542 ?_
  obtain ⟨p_1, h_2, r_3⟩ : ∃ y : Int, xs (iI (i + 1)).toNatClampNeg = iI y ∧ rg y := ⟨_, iI_of _, rg_of _⟩
  refine jt_i (iI p_1) h_2 ?_
  refine lv_aload_n hx hb dL_law_543 rfl (lv_at hl 3 rfl) ?_
  refine lv_iload_n hx hb dL_law_544 rfl (lv_at hl 0 rfl) ?_
  refine lv_iconst (v := iI 2) hx hb dL_law_545 rfl ?_
  refine xr_add hx hb dL_law_546 ?_
  refine va_sld hx hb hX9 hbl hbA hS (xvp (t := i + 2) (by omega) (by omega) hn) dL_law_547 ?_
  obtain ⟨p_4, h_5, r_6⟩ : ∃ y : Int, xs (iI (i + 2)).toNatClampNeg = iI y ∧ rg y := ⟨_, iI_of _, rg_of _⟩
  refine jt_i (iI p_4) h_5 ?_
  refine lv_aload_n hx hb dL_law_548 rfl (lv_at hl 3 rfl) ?_
  refine lv_iload_n hx hb dL_law_549 rfl (lv_at hl 0 rfl) ?_
  refine lv_iconst (v := iI 3) hx hb dL_law_550 rfl ?_
  refine xr_add hx hb dL_law_551 ?_
  refine va_sld hx hb hX9 hbl hbA hS (xvp (t := i + 3) (by omega) (by omega) hn) dL_law_552 ?_
  obtain ⟨p_7, h_8, r_9⟩ : ∃ y : Int, xs (iI (i + 3)).toNatClampNeg = iI y ∧ rg y := ⟨_, iI_of _, rg_of _⟩
  refine jt_i (iI p_7) h_8 ?_
  refine lv_aload_n hx hb dL_law_553 rfl (lv_at hl 3 rfl) ?_
  refine lv_iload_n hx hb dL_law_554 rfl (lv_at hl 0 rfl) ?_
  refine lv_iconst (v := iI 4) hx hb dL_law_555 rfl ?_
  refine xr_add hx hb dL_law_556 ?_
  refine va_sld hx hb hX9 hbl hbA hS (xvp (t := i + 4) (by omega) (by omega) hn) dL_law_557 ?_
  obtain ⟨p_10, h_11, r_12⟩ : ∃ y : Int, xs (iI (i + 4)).toNatClampNeg = iI y ∧ rg y := ⟨_, iI_of _, rg_of _⟩
  refine jt_i (iI p_10) h_11 ?_
  have hPx := jp_tail hP
  have hDx := jd_tail hD
  refine jct_i (va_runV (As := [.int (iI p_1), .int (iI p_4), .int (iI p_7), .int (iI p_10)]) (rest := []) ⟨hx, hb, hml, hown, hts⟩ (sX12_pointer l dC dI _ L cid K N tW sK sV v z0 p_1 p_4 p_7 p_10 hI hz r_3 r_6 r_9 r_12) (cwV 4 hts (jgoodVL m_1460 m_1461 m_1462 m_873 m_1463) rfl rfl rfl (by decide +kernel) ⟨(Nat.le_of_ble_eq_true rfl), (Nat.le_of_ble_eq_true rfl)⟩) ⟨xP_blind, xrecv hKx hPx hz rfl rfl, fun U hU hW => ⟨rfl, xP_of hU hW hPx hKx hDx hXx hS (fun _ h => h) hA⟩⟩ rfl rfl hl.1 rfl (lv_room (Nat.le_of_ble_eq_true rfl)) dL_law_558 ⟨(show nc + 2 ≤ 600000 by omega), (show ns + 30 ≤ 7302250 by omega)⟩) hP hD hS hA (fun r u_16 H locs w_14 hP hKx hD hS => ?_)
  obtain ⟨L_17, K_18, N_19, v_20⟩ := u_16
  obtain ⟨x_13, rfl, I_21, E_22, f_23, f_15⟩ := w_14
  have hP : va_P (dC, dI) vwCl (mG am cm g a ++ xG L_17 cid K_18 N_19 v_20) H := hP
  have hD : va_D (fun q : Nat => s.heap.size ≤ q) (mG am cm g a ++ xG L_17 cid K_18 N_19 v_20) := hD
  have I_21 : xI L_17 K_18 N_19 v_20 := I_21
  have E_22 : xE L K N L_17 K_18 N_19 := E_22
  have f_23 : frE L K [(0, 3), (0, 4), (0, 5), (0, 6), (0, 10), (6, 1), (6, 2), (6, 3), (6, 4), (6, 5), (12, 7), (34, (-1)), (36, (-1)), (65, (-1)), (99, 0)] v_20 v := f_23
  have h_25 : v_20 z0 0 = g 30 := (frE_use hz f_23 rfl).trans hnow
  have h_26 : v_20 z0 11 = g 50 := (frE_use hz f_23 rfl).trans hhands
  have h_28 : ok L K (v z0 19) 10 := xf_12_19 hI hz
  have b_29 : v_20 z0 19 = v z0 19 := frE_use hz f_23 rfl
  have b_30 : v_20 (v z0 19) 1 = v (v z0 19) 1 := frE_use h_28 f_23 rfl
  have h_27 : v_20 (v_20 z0 19) 1 = g 78 := by rw [b_29, b_30]; exact hstolen
  have h_32 : ok L K (v z0 14) 5 := xf_12_14 hI hz
  have b_33 : v_20 z0 14 = v z0 14 := frE_use hz f_23 rfl
  have b_34 : v_20 (v z0 14) 5 = v (v z0 14) 5 := frE_use h_32 f_23 rfl
  have h_31 : v_20 (v_20 z0 14) 5 = g 66 := by rw [b_33, b_34]; exact htold
  have h_36 : ok L K (v z0 2) 7 := xf_12_2 hI hz
  have b_37 : v_20 z0 2 = v z0 2 := frE_use hz f_23 rfl
  have b_38 : v_20 (v z0 2) 1 = v (v z0 2) 1 := frE_use h_36 f_23 rfl
  have h_35 : v_20 (v_20 z0 2) 1 = g 1 := by rw [b_37, b_38]; exact hsize
  have h_40 : ok L K (v z0 3) 8 := xf_12_3 hI hz
  have b_41 : v_20 z0 3 = v z0 3 := frE_use hz f_23 rfl
  have b_42 : v_20 (v z0 3) 1 = v (v z0 3) 1 := frE_use h_40 f_23 rfl
  have h_39 : v_20 (v_20 z0 3) 1 = g 18 := by rw [b_41, b_42]; exact hsheets
  have h_43 : rSub v_20 z0 a := rSub_x hI hz f_23 rfl (fun _ => rfl) hsub
  have h_44 : rHand v_20 z0 g a := rHand_x hI hz f_23 rfl (fun _ => rfl) rfl hhd
  have h_45 : rNews v_20 z0 g a := rNews_x hI hz f_23 rfl (fun _ => rfl) (fun _ => rfl) (fun _ => rfl) (fun _ => rfl) (fun _ => rfl) rfl rfl rfl rfl rfl hnw
  have h_46 : rTxt v_20 z0 g a := rTxt_x hI hz f_23 rfl rfl rfl (fun _ => rfl) htx
  have h_24 := xE_ok E_22 hz
  refine lv_pop hx hb dL_law_561 rfl ?_
  refine lv_aload_n hx hb dL_law_562 rfl (lv_at hl 1 rfl) ?_
  refine lv_aload_n hx hb dL_law_563 rfl (lv_at hl 3 rfl) ?_
  refine lv_iload_n hx hb dL_law_564 rfl (lv_at hl 0 rfl) ?_
  refine lv_iconst (v := iI 1) hx hb dL_law_565 rfl ?_
  refine xr_add hx hb dL_law_566 ?_
  refine va_sld hx hb hX9 hbl hbA hS (xvp (t := i + 1) (by omega) (by omega) hn) dL_law_567 ?_
  refine jt_i (iI p_1) h_2 ?_
  refine lv_aload_n hx hb dL_law_568 rfl (lv_at hl 3 rfl) ?_
  refine lv_iload_n hx hb dL_law_569 rfl (lv_at hl 0 rfl) ?_
  refine lv_iconst (v := iI 2) hx hb dL_law_570 rfl ?_
  refine xr_add hx hb dL_law_571 ?_
  refine va_sld hx hb hX9 hbl hbA hS (xvp (t := i + 2) (by omega) (by omega) hn) dL_law_572 ?_
  refine jt_i (iI p_4) h_5 ?_
  refine lv_aload_n hx hb dL_law_573 rfl (lv_at hl 3 rfl) ?_
  refine lv_iload_n hx hb dL_law_574 rfl (lv_at hl 0 rfl) ?_
  refine lv_iconst (v := iI 3) hx hb dL_law_575 rfl ?_
  refine xr_add hx hb dL_law_576 ?_
  refine va_sld hx hb hX9 hbl hbA hS (xvp (t := i + 3) (by omega) (by omega) hn) dL_law_577 ?_
  refine jt_i (iI p_7) h_8 ?_
  refine lv_aload_n hx hb dL_law_578 rfl (lv_at hl 3 rfl) ?_
  refine lv_iload_n hx hb dL_law_579 rfl (lv_at hl 0 rfl) ?_
  refine lv_iconst (v := iI 4) hx hb dL_law_580 rfl ?_
  refine xr_add hx hb dL_law_581 ?_
  refine va_sld hx hb hX9 hbl hbA hS (xvp (t := i + 4) (by omega) (by omega) hn) dL_law_582 ?_
  refine jt_i (iI p_10) h_11 ?_
  obtain ⟨hP, hD⟩ := lsw hP hD
  have hPm := jp_tail hP
  have hDm := jd_tail hD
  refine jct_i (va_runV (As := [.int (iI p_1), .int (iI p_4), .int (iI p_7), .int (iI p_10)]) (rest := []) ⟨hx, hb, hml, hown, hts⟩ (sX13_pointer l dC dI _ am cm g a p_1 p_4 p_7 p_10 hM r_3 r_6 r_9 r_12 hrLead) (cwV 4 hts (jgoodVL m_1464 m_444 m_445 m_503 m_190) rfl rfl rfl (by decide +kernel) ⟨(Nat.le_of_ble_eq_true rfl), (Nat.le_of_ble_eq_true rfl)⟩) ⟨jw_blind, va_recv hKm hPm (ci := 13) (q0 := 0) rfl rfl, fun U hU hW => ⟨rfl, jw_of hU hW hPm hKm hDm⟩⟩ rfl rfl hl.1 rfl (lv_room (Nat.le_of_ble_eq_true rfl)) dL_law_583 ⟨(show nc + 2 + 0 ≤ 600000 by omega), (show ns + 30 + 0 ≤ 7302250 by omega)⟩) hP hD hS hA (fun r u_49 H locs w_48 hP hKm hD hS => ?_)
  obtain ⟨g_50, a_51⟩ := u_49
  obtain ⟨y_47, rfl, h_52, h_53, h_54, h_55, h_56⟩ := w_48
  have hP : va_P (dC, dI) vwCl (xG L_17 cid K_18 N_19 v_20 ++ mG am cm g_50 a_51) H := hP
  have hD : va_D (fun q : Nat => s.heap.size ≤ q) (xG L_17 cid K_18 N_19 v_20 ++ mG am cm g_50 a_51) := hD
  have h_52 : mI g_50 a_51 := h_52
  have h_57 : rLine g_50 a_51 := rLine_t (h_53 56 (by decide)) (h_54 45 (by decide)) hrLine
  have h_58 : rLead g_50 a_51 := h_56
  have h_59 : rSkill g_50 a_51 := rSkill_t (h_53 50 (by decide)) (h_54 38 (by decide)) hrSkill
  have h_60 : rSh g_50 a_51 := rSh_t (h_53 18 (by decide)) (h_53 26 (by decide)) (h_54 9 (by decide)) (h_54 10 (by decide)) (h_54 11 (by decide)) (h_54 12 (by decide)) (h_54 16 (by decide)) hrSh
  have h_61 : v_20 z0 0 = g_50 30 := h_25.trans (h_53 30 (by decide)).symm
  have h_62 : v_20 z0 11 = g_50 50 := h_26.trans (h_53 50 (by decide)).symm
  have h_63 : v_20 (v_20 z0 19) 1 = g_50 78 := h_27.trans (h_53 78 (by decide)).symm
  have h_64 : v_20 (v_20 z0 14) 5 = g_50 66 := h_31.trans (h_53 66 (by decide)).symm
  have h_65 : v_20 (v_20 z0 2) 1 = g_50 1 := h_35.trans (h_53 1 (by decide)).symm
  have h_66 : v_20 (v_20 z0 3) 1 = g_50 18 := h_39.trans (h_53 18 (by decide)).symm
  have h_67 : rSub v_20 z0 a_51 := rSub_m (h_54 60 (by decide)) h_43
  have h_68 : rHand v_20 z0 g_50 a_51 := rHand_m (h_53 50 (by decide)) (h_54 41 (by decide)) h_44
  have h_69 : rNews v_20 z0 g_50 a_51 := rNews_m (h_53 66 (by decide)) (h_54 51 (by decide)) (h_54 52 (by decide)) (h_54 53 (by decide)) (h_54 54 (by decide)) h_45
  have h_70 : rTxt v_20 z0 g_50 a_51 := rTxt_m (h_53 1 (by decide)) (h_54 1 (by decide)) h_46
  obtain ⟨hP, hD⟩ := lsw hP hD
  refine lv_pop hx hb dL_law_586 rfl ?_
  refine lv_goto (tgt := 1804) hx hb dL_law_587 (by decide) ?_
  exact kk L_17 K_18 N_19 v_20 g_50 a_51 _ _ H locs h_24 I_21 h_52 h_57 h_58 h_59 h_60 h_61 h_62 h_63 h_64 h_65 h_66 h_67 h_68 h_69 h_70 (by omega) (by omega) hP hD hS
