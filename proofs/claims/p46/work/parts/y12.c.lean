set_option maxHeartbeats 4000000 in
set_option maxRecDepth 100000 in
theorem lc_8 {p : Program} {l : Launch} {e : Env} {s : State} {m : MethodId} {below : List Frame} {meth : Method} {c : Code} {b n : Nat} {xs : Nat → Int32} (C0 : lw_At p s m meth c b n xs) (hn : n ≤ 3072) {dC : Nat → ClassId} {dI : Nat → Nat → Nat} {am : Nat → Nat} {cm cid : Nat → ClassId} {tW : Nat} {sK sV : Nat → Nat} (hXx : xX tW sK sV (fun q : Nat => s.heap.size ≤ q) s s.heap) (hKx : va_K (dC, dI) vwCl (xT cid) s) (hKm : va_K (dC, dI) vwCl (mT cm) s) {z0 : Int} {i : Int} (hi0 : 0 ≤ i) (hi : i + 6 ≤ n) {L : List Nat} {K : Int → Nat} {N : Int → Int} {v : Int → Int → Int} {g : Nat → Int} {a : Nat → Int → Int} (hz : ok L K z0 12) (hI : xI L K N v) (hM : mI g a) (hrLine : rLine g a) (hrLead : rLead g a) (hrSkill : rSkill g a) (hrSh : rSh g a) (hnow : v z0 0 = g 30) (hhands : v z0 11 = g 50) (hstolen : v (v z0 19) 1 = g 78) (htold : v (v z0 14) 5 = g 66) (hsub : rSub v z0 a) (hhd : rHand v z0 g a) (hnw : rNews v z0 g a) {nc ns : Nat} (hc : nc + 5 ≤ 600000) (hs : ns + 12100 ≤ 7302250) {H : Heap} {locs : List Loc} {ls : Array Slot} (hP : va_P (dC, dI) vwCl (mG am cm g a ++ xG L cid K N v) H) (hD : va_D (fun q : Nat => s.heap.size ≤ q) (mG am cm g a ++ xG L cid K N v)) (hS : va_S (fun q : Nat => s.heap.size ≤ q) s.heap H locs) (hl : lv_has ls 4 [(3, .int (iI i)), (2, .ref (am 0)), (1, .ref z0.toNat), (0, .ref b)])
    (kk : ∀ (L : List Nat) (K : Int → Nat) (N : Int → Int) (v : Int → Int → Int) (g : Nat → Int) (a : Nat → Int → Int) (nc1 ns1 : Nat) (H : Heap) (locs : List Loc), ok L K z0 12 → xI L K N v → mI g a → rLine g a → rLead g a → rSkill g a → rSh g a → v z0 0 = g 30 → v z0 11 = g 50 → v (v z0 19) 1 = g 78 → v (v z0 14) 5 = g 66 → rSub v z0 a → rHand v z0 g a → rNews v z0 g a → nc1 ≤ nc + 5 → ns1 ≤ ns + 12100 → va_P (dC, dI) vwCl (mG am cm g a ++ xG L cid K N v) H → va_D (fun q : Nat => s.heap.size ≤ q) (mG am cm g a ++ xG L cid K N v) → va_S (fun q : Nat => s.heap.size ≤ q) s.heap H locs → W p l e room_1 s m #[Value.ref b] below meth c H locs nc1 ns1 (lw_Z below #[Value.ref b] s) (F0 m 1804 ls [])) : W p l e room_1 s m #[Value.ref b] below meth c H locs nc ns (lw_Z below #[Value.ref b] s) (F0 m 484 ls []) := by
  obtain ⟨hx, hb, hr, hml, hown, hts, hX9, hbl, hlocks, hgv⟩ := id C0
  have hA : ∀ q : Nat, s.heap.size ≤ q → (fun q : Nat => s.heap.size ≤ q) q := fun _ h => h
  have hbA : ¬ (fun q : Nat => s.heap.size ≤ q) b := Nat.not_le.mpr hbl
  refine lv_aload_n hx hb dL_law_484 rfl (lv_at hl 2 rfl) ?_
  refine lv_aload_n hx hb dL_law_485 rfl (lv_at hl 3 rfl) ?_
  refine lv_iload_n hx hb dL_law_486 rfl (lv_at hl 0 rfl) ?_
  refine lv_iconst (v := iI 1) hx hb dL_law_487 rfl ?_
  refine xr_add hx hb dL_law_488 ?_
  refine va_sld hx hb hX9 hbl hbA hS (xvp (t := i + 1) (by omega) (by omega) hn) dL_law_489 ?_
  obtain ⟨p_1, h_2, r_3⟩ : ∃ y : Int, xs (iI (i + 1)).toNatClampNeg = iI y ∧ rg y := ⟨_, iI_of _, rg_of _⟩
  refine jt_i (iI p_1) h_2 ?_
  refine lv_aload_n hx hb dL_law_490 rfl (lv_at hl 3 rfl) ?_
  refine lv_iload_n hx hb dL_law_491 rfl (lv_at hl 0 rfl) ?_
  refine lv_iconst (v := iI 2) hx hb dL_law_492 rfl ?_
  refine xr_add hx hb dL_law_493 ?_
  refine va_sld hx hb hX9 hbl hbA hS (xvp (t := i + 2) (by omega) (by omega) hn) dL_law_494 ?_
  obtain ⟨p_4, h_5, r_6⟩ : ∃ y : Int, xs (iI (i + 2)).toNatClampNeg = iI y ∧ rg y := ⟨_, iI_of _, rg_of _⟩
  refine jt_i (iI p_4) h_5 ?_
  refine lv_aload_n hx hb dL_law_495 rfl (lv_at hl 3 rfl) ?_
  refine lv_iload_n hx hb dL_law_496 rfl (lv_at hl 0 rfl) ?_
  refine lv_iconst (v := iI 3) hx hb dL_law_497 rfl ?_
  refine xr_add hx hb dL_law_498 ?_
  refine va_sld hx hb hX9 hbl hbA hS (xvp (t := i + 3) (by omega) (by omega) hn) dL_law_499 ?_
  obtain ⟨p_7, h_8, r_9⟩ : ∃ y : Int, xs (iI (i + 3)).toNatClampNeg = iI y ∧ rg y := ⟨_, iI_of _, rg_of _⟩
  refine jt_i (iI p_7) h_8 ?_
  refine lv_aload_n hx hb dL_law_500 rfl (lv_at hl 3 rfl) ?_
  refine lv_iload_n hx hb dL_law_501 rfl (lv_at hl 0 rfl) ?_
  refine lv_iconst (v := iI 4) hx hb dL_law_502 rfl ?_
  refine xr_add hx hb dL_law_503 ?_
  refine va_sld hx hb hX9 hbl hbA hS (xvp (t := i + 4) (by omega) (by omega) hn) dL_law_504 ?_
  obtain ⟨p_10, h_11, r_12⟩ : ∃ y : Int, xs (iI (i + 4)).toNatClampNeg = iI y ∧ rg y := ⟨_, iI_of _, rg_of _⟩
  refine jt_i (iI p_10) h_11 ?_
  have hPx := jp_tail hP
  have hDx := jd_tail hD
  refine jct_i (va_runV (As := [.int (iI p_1), .int (iI p_4), .int (iI p_7), .int (iI p_10)]) (rest := []) ⟨hx, hb, hml, hown, hts⟩ (sX12_article l dC dI _ L cid K N tW sK sV v z0 p_1 p_4 p_7 p_10 hI hz r_3 r_6 r_9 r_12) (cwV 4 hts (jgoodVL m_1455 m_1456 m_1457 m_873 m_1458) rfl rfl rfl (by decide +kernel) ⟨(Nat.le_of_ble_eq_true rfl), (Nat.le_of_ble_eq_true rfl)⟩) ⟨xP_blind, xrecv hKx hPx hz rfl rfl, fun U hU hW => ⟨rfl, xP_of hU hW hPx hKx hDx hXx hS (fun _ h => h) hA⟩⟩ rfl rfl hl.1 rfl (lv_room (Nat.le_of_ble_eq_true rfl)) dL_law_505 ⟨(show nc + 2 ≤ 600000 by omega), (show ns + 30 ≤ 7302250 by omega)⟩) hP hD hS hA (fun r u_16 H locs w_14 hP hKx hD hS => ?_)
  obtain ⟨L_17, K_18, N_19, v_20⟩ := u_16
  obtain ⟨x_13, rfl, I_21, E_22, f_23, f_15⟩ := w_14
  have hP : va_P (dC, dI) vwCl (mG am cm g a ++ xG L_17 cid K_18 N_19 v_20) H := hP
  have hD : va_D (fun q : Nat => s.heap.size ≤ q) (mG am cm g a ++ xG L_17 cid K_18 N_19 v_20) := hD
  have I_21 : xI L_17 K_18 N_19 v_20 := I_21
  have E_22 : xE L K N L_17 K_18 N_19 := E_22
  have f_23 : frE L K [(0, 3), (0, 4), (0, 5), (0, 6), (0, 7), (0, 8), (0, 9), (6, 1), (6, 2), (6, 3), (6, 4), (6, 5), (12, 7), (34, (-1)), (36, (-1)), (65, (-1)), (99, 0)] v_20 v := f_23
  have h_25 : v_20 z0 0 = g 30 := (frE_use hz f_23 rfl).trans hnow
  have h_26 : v_20 z0 11 = g 50 := (frE_use hz f_23 rfl).trans hhands
  have h_28 : ok L K (v z0 19) 10 := xf_12_19 hI hz
  have b_29 : v_20 z0 19 = v z0 19 := frE_use hz f_23 rfl
  have b_30 : v_20 (v z0 19) 1 = v (v z0 19) 1 := frE_use h_28 f_23 rfl
  have h_27 : v_20 (v_20 z0 19) 1 = g 78 := by rw [b_29, b_30]; exact hstolen
  have h_32 : ok L K (v z0 14) 5 := xf_12_14 hI hz
  have b_33 : v_20 z0 14 = v z0 14 := frE_use hz f_23 rfl
  have b_34 : v_20 (v z0 14) 5 = v (v z0 14) 5 := frE_use h_32 f_23 rfl
  have h_31 : v_20 (v_20 z0 14) 5 = g 66 := by rw [b_33, b_34]; exact htold
  have h_35 : rSub v_20 z0 a := rSub_x hI hz f_23 rfl (fun _ => rfl) hsub
  have h_36 : rHand v_20 z0 g a := rHand_x hI hz f_23 rfl (fun _ => rfl) rfl hhd
  have h_37 : rNews v_20 z0 g a := rNews_x hI hz f_23 rfl (fun _ => rfl) (fun _ => rfl) (fun _ => rfl) (fun _ => rfl) (fun _ => rfl) rfl rfl rfl rfl rfl hnw
  have h_24 := xE_ok E_22 hz
  refine lv_pop hx hb dL_law_508 rfl ?_
  refine lv_aload_n hx hb dL_law_509 rfl (lv_at hl 1 rfl) ?_
  refine lv_aload_n hx hb dL_law_510 rfl (lv_at hl 3 rfl) ?_
  refine lv_iload_n hx hb dL_law_511 rfl (lv_at hl 0 rfl) ?_
  refine lv_iconst (v := iI 1) hx hb dL_law_512 rfl ?_
  refine xr_add hx hb dL_law_513 ?_
  refine va_sld hx hb hX9 hbl hbA hS (xvp (t := i + 1) (by omega) (by omega) hn) dL_law_514 ?_
  refine jt_i (iI p_1) h_2 ?_
  refine lv_aload_n hx hb dL_law_515 rfl (lv_at hl 3 rfl) ?_
  refine lv_iload_n hx hb dL_law_516 rfl (lv_at hl 0 rfl) ?_
  refine lv_iconst (v := iI 2) hx hb dL_law_517 rfl ?_
  refine xr_add hx hb dL_law_518 ?_
  refine va_sld hx hb hX9 hbl hbA hS (xvp (t := i + 2) (by omega) (by omega) hn) dL_law_519 ?_
  refine jt_i (iI p_4) h_5 ?_
  refine lv_aload_n hx hb dL_law_520 rfl (lv_at hl 3 rfl) ?_
  refine lv_iload_n hx hb dL_law_521 rfl (lv_at hl 0 rfl) ?_
  refine lv_iconst (v := iI 3) hx hb dL_law_522 rfl ?_
  refine xr_add hx hb dL_law_523 ?_
  refine va_sld hx hb hX9 hbl hbA hS (xvp (t := i + 3) (by omega) (by omega) hn) dL_law_524 ?_
  refine jt_i (iI p_7) h_8 ?_
  refine lv_aload_n hx hb dL_law_525 rfl (lv_at hl 3 rfl) ?_
  refine lv_iload_n hx hb dL_law_526 rfl (lv_at hl 0 rfl) ?_
  refine lv_iconst (v := iI 4) hx hb dL_law_527 rfl ?_
  refine xr_add hx hb dL_law_528 ?_
  refine va_sld hx hb hX9 hbl hbA hS (xvp (t := i + 4) (by omega) (by omega) hn) dL_law_529 ?_
  refine jt_i (iI p_10) h_11 ?_
  obtain ⟨hP, hD⟩ := lsw hP hD
  have hPm := jp_tail hP
  have hDm := jd_tail hD
  refine jct_i (va_runV (As := [.int (iI p_1), .int (iI p_4), .int (iI p_7), .int (iI p_10)]) (rest := []) ⟨hx, hb, hml, hown, hts⟩ (sX13_article l dC dI _ am cm g a p_1 p_4 p_7 p_10 hM r_3 r_6 r_9 r_12 hrLead) (cwV 4 hts (jgoodVL m_1459 m_285 m_286 m_503 m_107) rfl rfl rfl (by decide +kernel) ⟨(Nat.le_of_ble_eq_true rfl), (Nat.le_of_ble_eq_true rfl)⟩) ⟨jw_blind, va_recv hKm hPm (ci := 13) (q0 := 0) rfl rfl, fun U hU hW => ⟨rfl, jw_of hU hW hPm hKm hDm⟩⟩ rfl rfl hl.1 rfl (lv_room (Nat.le_of_ble_eq_true rfl)) dL_law_530 ⟨(show nc + 2 + 0 ≤ 600000 by omega), (show ns + 30 + 0 ≤ 7302250 by omega)⟩) hP hD hS hA (fun r u_40 H locs w_39 hP hKm hD hS => ?_)
  obtain ⟨g_41, a_42⟩ := u_40
  obtain ⟨y_38, rfl, h_43, h_44, h_45, h_46, h_47⟩ := w_39
  have hP : va_P (dC, dI) vwCl (xG L_17 cid K_18 N_19 v_20 ++ mG am cm g_41 a_42) H := hP
  have hD : va_D (fun q : Nat => s.heap.size ≤ q) (xG L_17 cid K_18 N_19 v_20 ++ mG am cm g_41 a_42) := hD
  have h_43 : mI g_41 a_42 := h_43
  have h_48 : rLine g_41 a_42 := rLine_t (h_44 56 (by decide)) (h_45 45 (by decide)) hrLine
  have h_49 : rLead g_41 a_42 := h_47
  have h_50 : rSkill g_41 a_42 := rSkill_t (h_44 50 (by decide)) (h_45 38 (by decide)) hrSkill
  have h_51 : rSh g_41 a_42 := rSh_t (h_44 18 (by decide)) (h_44 26 (by decide)) (h_45 9 (by decide)) (h_45 10 (by decide)) (h_45 11 (by decide)) (h_45 12 (by decide)) (h_45 16 (by decide)) hrSh
  have h_52 : v_20 z0 0 = g_41 30 := h_25.trans (h_44 30 (by decide)).symm
  have h_53 : v_20 z0 11 = g_41 50 := h_26.trans (h_44 50 (by decide)).symm
  have h_54 : v_20 (v_20 z0 19) 1 = g_41 78 := h_27.trans (h_44 78 (by decide)).symm
  have h_55 : v_20 (v_20 z0 14) 5 = g_41 66 := h_31.trans (h_44 66 (by decide)).symm
  have h_56 : rSub v_20 z0 a_42 := rSub_m (h_45 60 (by decide)) h_35
  have h_57 : rHand v_20 z0 g_41 a_42 := rHand_m (h_44 50 (by decide)) (h_45 41 (by decide)) h_36
  have h_58 : rNews v_20 z0 g_41 a_42 := rNews_m (h_44 66 (by decide)) (h_45 51 (by decide)) (h_45 52 (by decide)) (h_45 53 (by decide)) (h_45 54 (by decide)) h_37
  obtain ⟨hP, hD⟩ := lsw hP hD
  refine lv_pop hx hb dL_law_533 rfl ?_
  refine lv_goto (tgt := 1804) hx hb dL_law_534 (by decide) ?_
  exact kk L_17 K_18 N_19 v_20 g_41 a_42 _ _ H locs h_24 I_21 h_43 h_48 h_49 h_50 h_51 h_52 h_53 h_54 h_55 h_56 h_57 h_58 (by omega) (by omega) hP hD hS
set_option maxHeartbeats 4000000 in
set_option maxRecDepth 100000 in
theorem lc_9 {p : Program} {l : Launch} {e : Env} {s : State} {m : MethodId} {below : List Frame} {meth : Method} {c : Code} {b n : Nat} {xs : Nat → Int32} (C0 : lw_At p s m meth c b n xs) (hn : n ≤ 3072) {dC : Nat → ClassId} {dI : Nat → Nat → Nat} {am : Nat → Nat} {cm cid : Nat → ClassId} {tW : Nat} {sK sV : Nat → Nat} (hXx : xX tW sK sV (fun q : Nat => s.heap.size ≤ q) s s.heap) (hKx : va_K (dC, dI) vwCl (xT cid) s) (hKm : va_K (dC, dI) vwCl (mT cm) s) {z0 : Int} {i : Int} (hi0 : 0 ≤ i) (hi : i + 6 ≤ n) {L : List Nat} {K : Int → Nat} {N : Int → Int} {v : Int → Int → Int} {g : Nat → Int} {a : Nat → Int → Int} (hz : ok L K z0 12) (hI : xI L K N v) (hM : mI g a) (hrLine : rLine g a) (hrLead : rLead g a) (hrSkill : rSkill g a) (hrSh : rSh g a) (hnow : v z0 0 = g 30) (hhands : v z0 11 = g 50) (hstolen : v (v z0 19) 1 = g 78) (htold : v (v z0 14) 5 = g 66) (hsub : rSub v z0 a) (hhd : rHand v z0 g a) (hnw : rNews v z0 g a) {nc ns : Nat} (hc : nc + 5 ≤ 600000) (hs : ns + 12100 ≤ 7302250) {H : Heap} {locs : List Loc} {ls : Array Slot} (hP : va_P (dC, dI) vwCl (mG am cm g a ++ xG L cid K N v) H) (hD : va_D (fun q : Nat => s.heap.size ≤ q) (mG am cm g a ++ xG L cid K N v)) (hS : va_S (fun q : Nat => s.heap.size ≤ q) s.heap H locs) (hl : lv_has ls 4 [(3, .int (iI i)), (2, .ref (am 0)), (1, .ref z0.toNat), (0, .ref b)])
    (kk : ∀ (L : List Nat) (K : Int → Nat) (N : Int → Int) (v : Int → Int → Int) (g : Nat → Int) (a : Nat → Int → Int) (nc1 ns1 : Nat) (H : Heap) (locs : List Loc), ok L K z0 12 → xI L K N v → mI g a → rLine g a → rLead g a → rSkill g a → rSh g a → v z0 0 = g 30 → v z0 11 = g 50 → v (v z0 19) 1 = g 78 → v (v z0 14) 5 = g 66 → rSub v z0 a → rHand v z0 g a → rNews v z0 g a → nc1 ≤ nc + 5 → ns1 ≤ ns + 12100 → va_P (dC, dI) vwCl (mG am cm g a ++ xG L cid K N v) H → va_D (fun q : Nat => s.heap.size ≤ q) (mG am cm g a ++ xG L cid K N v) → va_S (fun q : Nat => s.heap.size ≤ q) s.heap H locs → W p l e room_1 s m #[Value.ref b] below meth c H locs nc1 ns1 (lw_Z below #[Value.ref b] s) (F0 m 1804 ls [])) : W p l e room_1 s m #[Value.ref b] below meth c H locs nc ns (lw_Z below #[Value.ref b] s) (F0 m 537 ls []) := by
  obtain ⟨hx, hb, hr, hml, hown, hts, hX9, hbl, hlocks, hgv⟩ := id C0
  have hA : ∀ q : Nat, s.heap.size ≤ q → (fun q : Nat => s.heap.size ≤ q) q := fun _ h => h
  have hbA : ¬ (fun q : Nat => s.heap.size ≤ q) b := Nat.not_le.mpr hbl
  refine lv_aload_n hx hb dL_law_537 rfl (lv_at hl 2 rfl) ?_
  refine lv_aload_n hx hb dL_law_538 rfl (lv_at hl 3 rfl) ?_
  refine lv_iload_n hx hb dL_law_539 rfl (lv_at hl 0 rfl) ?_
  refine lv_iconst (v := iI 1) hx hb dL_law_540 rfl ?_
  refine xr_add hx hb dL_law_541 ?_
  refine va_sld hx hb hX9 hbl hbA hS (xvp (t := i + 1) (by omega) (by omega) hn) dL_law_542 ?_
  obtain ⟨p_1, h_2, r_3⟩ : ∃ y : Int, xs (iI (i + 1)).toNatClampNeg = iI y ∧ rg y := ⟨_, iI_of _, rg_of _⟩
  refine jt_i (iI p_1) h_2 ?_
  refine lv_aload_n hx hb dL_law_543 rfl (lv_at hl 3 rfl) ?_
  refine lv_iload_n hx hb dL_law_544 rfl (lv_at hl 0 rfl) ?_
  refine lv_iconst (v := iI 2) hx hb dL_law_545 rfl ?_
  refine xr_add hx hb dL_law_546 ?_
  refine va_sld hx hb hX9 hbl hbA hS (xvp (t := i + 2) (by omega) (by omega) hn) dL_law_547 ?_
  obtain ⟨p_4, h_5, r_6⟩ : ∃ y : Int, xs (iI (i + 2)).toNatClampNeg = iI y ∧ rg y := ⟨_, iI_of _, rg_of _⟩
  refine jt_i (iI p_4) h_5 ?_
  refine lv_aload_n hx hb dL_law_548 rfl (lv_at hl 3 rfl) ?_
  refine lv_iload_n hx hb dL_law_549 rfl (lv_at hl 0 rfl) ?_
  refine lv_iconst (v := iI 3) hx hb dL_law_550 rfl ?_
  refine xr_add hx hb dL_law_551 ?_
  refine va_sld hx hb hX9 hbl hbA hS (xvp (t := i + 3) (by omega) (by omega) hn) dL_law_552 ?_
  obtain ⟨p_7, h_8, r_9⟩ : ∃ y : Int, xs (iI (i + 3)).toNatClampNeg = iI y ∧ rg y := ⟨_, iI_of _, rg_of _⟩
  refine jt_i (iI p_7) h_8 ?_
  refine lv_aload_n hx hb dL_law_553 rfl (lv_at hl 3 rfl) ?_
  refine lv_iload_n hx hb dL_law_554 rfl (lv_at hl 0 rfl) ?_
  refine lv_iconst (v := iI 4) hx hb dL_law_555 rfl ?_
  refine xr_add hx hb dL_law_556 ?_
  refine va_sld hx hb hX9 hbl hbA hS (xvp (t := i + 4) (by omega) (by omega) hn) dL_law_557 ?_
  obtain ⟨p_10, h_11, r_12⟩ : ∃ y : Int, xs (iI (i + 4)).toNatClampNeg = iI y ∧ rg y := ⟨_, iI_of _, rg_of _⟩
  refine jt_i (iI p_10) h_11 ?_
  have hPx := jp_tail hP
  have hDx := jd_tail hD
  refine jct_i (va_runV (As := [.int (iI p_1), .int (iI p_4), .int (iI p_7), .int (iI p_10)]) (rest := []) ⟨hx, hb, hml, hown, hts⟩ (sX12_pointer l dC dI _ L cid K N tW sK sV v z0 p_1 p_4 p_7 p_10 hI hz r_3 r_6 r_9 r_12) (cwV 4 hts (jgoodVL m_1460 m_1461 m_1462 m_873 m_1463) rfl rfl rfl (by decide +kernel) ⟨(Nat.le_of_ble_eq_true rfl), (Nat.le_of_ble_eq_true rfl)⟩) ⟨xP_blind, xrecv hKx hPx hz rfl rfl, fun U hU hW => ⟨rfl, xP_of hU hW hPx hKx hDx hXx hS (fun _ h => h) hA⟩⟩ rfl rfl hl.1 rfl (lv_room (Nat.le_of_ble_eq_true rfl)) dL_law_558 ⟨(show nc + 2 ≤ 600000 by omega), (show ns + 30 ≤ 7302250 by omega)⟩) hP hD hS hA (fun r u_16 H locs w_14 hP hKx hD hS => ?_)
  obtain ⟨L_17, K_18, N_19, v_20⟩ := u_16
  obtain ⟨x_13, rfl, I_21, E_22, f_23, f_15⟩ := w_14
  have hP : va_P (dC, dI) vwCl (mG am cm g a ++ xG L_17 cid K_18 N_19 v_20) H := hP
  have hD : va_D (fun q : Nat => s.heap.size ≤ q) (mG am cm g a ++ xG L_17 cid K_18 N_19 v_20) := hD
  have I_21 : xI L_17 K_18 N_19 v_20 := I_21
  have E_22 : xE L K N L_17 K_18 N_19 := E_22
  have f_23 : frE L K [(0, 3), (0, 4), (0, 5), (0, 6), (0, 10), (6, 1), (6, 2), (6, 3), (6, 4), (6, 5), (12, 7), (34, (-1)), (36, (-1)), (65, (-1)), (99, 0)] v_20 v := f_23
  have h_25 : v_20 z0 0 = g 30 := (frE_use hz f_23 rfl).trans hnow
  have h_26 : v_20 z0 11 = g 50 := (frE_use hz f_23 rfl).trans hhands
  have h_28 : ok L K (v z0 19) 10 := xf_12_19 hI hz
  have b_29 : v_20 z0 19 = v z0 19 := frE_use hz f_23 rfl
  have b_30 : v_20 (v z0 19) 1 = v (v z0 19) 1 := frE_use h_28 f_23 rfl
  have h_27 : v_20 (v_20 z0 19) 1 = g 78 := by rw [b_29, b_30]; exact hstolen
  have h_32 : ok L K (v z0 14) 5 := xf_12_14 hI hz
  have b_33 : v_20 z0 14 = v z0 14 := frE_use hz f_23 rfl
  have b_34 : v_20 (v z0 14) 5 = v (v z0 14) 5 := frE_use h_32 f_23 rfl
  have h_31 : v_20 (v_20 z0 14) 5 = g 66 := by rw [b_33, b_34]; exact htold
  have h_35 : rSub v_20 z0 a := rSub_x hI hz f_23 rfl (fun _ => rfl) hsub
  have h_36 : rHand v_20 z0 g a := rHand_x hI hz f_23 rfl (fun _ => rfl) rfl hhd
  have h_37 : rNews v_20 z0 g a := rNews_x hI hz f_23 rfl (fun _ => rfl) (fun _ => rfl) (fun _ => rfl) (fun _ => rfl) (fun _ => rfl) rfl rfl rfl rfl rfl hnw
  have h_24 := xE_ok E_22 hz
  refine lv_pop hx hb dL_law_561 rfl ?_
  refine lv_aload_n hx hb dL_law_562 rfl (lv_at hl 1 rfl) ?_
  refine lv_aload_n hx hb dL_law_563 rfl (lv_at hl 3 rfl) ?_
  refine lv_iload_n hx hb dL_law_564 rfl (lv_at hl 0 rfl) ?_
  refine lv_iconst (v := iI 1) hx hb dL_law_565 rfl ?_
  refine xr_add hx hb dL_law_566 ?_
  refine va_sld hx hb hX9 hbl hbA hS (xvp (t := i + 1) (by omega) (by omega) hn) dL_law_567 ?_
  refine jt_i (iI p_1) h_2 ?_
  refine lv_aload_n hx hb dL_law_568 rfl (lv_at hl 3 rfl) ?_
  refine lv_iload_n hx hb dL_law_569 rfl (lv_at hl 0 rfl) ?_
  refine lv_iconst (v := iI 2) hx hb dL_law_570 rfl ?_
  refine xr_add hx hb dL_law_571 ?_
  refine va_sld hx hb hX9 hbl hbA hS (xvp (t := i + 2) (by omega) (by omega) hn) dL_law_572 ?_
  refine jt_i (iI p_4) h_5 ?_
  refine lv_aload_n hx hb dL_law_573 rfl (lv_at hl 3 rfl) ?_
  refine lv_iload_n hx hb dL_law_574 rfl (lv_at hl 0 rfl) ?_
  refine lv_iconst (v := iI 3) hx hb dL_law_575 rfl ?_
  refine xr_add hx hb dL_law_576 ?_
  refine va_sld hx hb hX9 hbl hbA hS (xvp (t := i + 3) (by omega) (by omega) hn) dL_law_577 ?_
  refine jt_i (iI p_7) h_8 ?_
  refine lv_aload_n hx hb dL_law_578 rfl (lv_at hl 3 rfl) ?_
  refine lv_iload_n hx hb dL_law_579 rfl (lv_at hl 0 rfl) ?_
  refine lv_iconst (v := iI 4) hx hb dL_law_580 rfl ?_
  refine xr_add hx hb dL_law_581 ?_
  refine va_sld hx hb hX9 hbl hbA hS (xvp (t := i + 4) (by omega) (by omega) hn) dL_law_582 ?_
  refine jt_i (iI p_10) h_11 ?_
  obtain ⟨hP, hD⟩ := lsw hP hD
  have hPm := jp_tail hP
  have hDm := jd_tail hD
  refine jct_i (va_runV (As := [.int (iI p_1), .int (iI p_4), .int (iI p_7), .int (iI p_10)]) (rest := []) ⟨hx, hb, hml, hown, hts⟩ (sX13_pointer l dC dI _ am cm g a p_1 p_4 p_7 p_10 hM r_3 r_6 r_9 r_12 hrLead) (cwV 4 hts (jgoodVL m_1464 m_444 m_445 m_503 m_190) rfl rfl rfl (by decide +kernel) ⟨(Nat.le_of_ble_eq_true rfl), (Nat.le_of_ble_eq_true rfl)⟩) ⟨jw_blind, va_recv hKm hPm (ci := 13) (q0 := 0) rfl rfl, fun U hU hW => ⟨rfl, jw_of hU hW hPm hKm hDm⟩⟩ rfl rfl hl.1 rfl (lv_room (Nat.le_of_ble_eq_true rfl)) dL_law_583 ⟨(show nc + 2 + 0 ≤ 600000 by omega), (show ns + 30 + 0 ≤ 7302250 by omega)⟩) hP hD hS hA (fun r u_40 H locs w_39 hP hKm hD hS => ?_)
  obtain ⟨g_41, a_42⟩ := u_40
  obtain ⟨y_38, rfl, h_43, h_44, h_45, h_46, h_47⟩ := w_39
  have hP : va_P (dC, dI) vwCl (xG L_17 cid K_18 N_19 v_20 ++ mG am cm g_41 a_42) H := hP
  have hD : va_D (fun q : Nat => s.heap.size ≤ q) (xG L_17 cid K_18 N_19 v_20 ++ mG am cm g_41 a_42) := hD
  have h_43 : mI g_41 a_42 := h_43
  have h_48 : rLine g_41 a_42 := rLine_t (h_44 56 (by decide)) (h_45 45 (by decide)) hrLine
  have h_49 : rLead g_41 a_42 := h_47
  have h_50 : rSkill g_41 a_42 := rSkill_t (h_44 50 (by decide)) (h_45 38 (by decide)) hrSkill
  have h_51 : rSh g_41 a_42 := rSh_t (h_44 18 (by decide)) (h_44 26 (by decide)) (h_45 9 (by decide)) (h_45 10 (by decide)) (h_45 11 (by decide)) (h_45 12 (by decide)) (h_45 16 (by decide)) hrSh
  have h_52 : v_20 z0 0 = g_41 30 := h_25.trans (h_44 30 (by decide)).symm
  have h_53 : v_20 z0 11 = g_41 50 := h_26.trans (h_44 50 (by decide)).symm
  have h_54 : v_20 (v_20 z0 19) 1 = g_41 78 := h_27.trans (h_44 78 (by decide)).symm
  have h_55 : v_20 (v_20 z0 14) 5 = g_41 66 := h_31.trans (h_44 66 (by decide)).symm
  have h_56 : rSub v_20 z0 a_42 := rSub_m (h_45 60 (by decide)) h_35
  have h_57 : rHand v_20 z0 g_41 a_42 := rHand_m (h_44 50 (by decide)) (h_45 41 (by decide)) h_36
  have h_58 : rNews v_20 z0 g_41 a_42 := rNews_m (h_44 66 (by decide)) (h_45 51 (by decide)) (h_45 52 (by decide)) (h_45 53 (by decide)) (h_45 54 (by decide)) h_37
  obtain ⟨hP, hD⟩ := lsw hP hD
  refine lv_pop hx hb dL_law_586 rfl ?_
  refine lv_goto (tgt := 1804) hx hb dL_law_587 (by decide) ?_
  exact kk L_17 K_18 N_19 v_20 g_41 a_42 _ _ H locs h_24 I_21 h_43 h_48 h_49 h_50 h_51 h_52 h_53 h_54 h_55 h_56 h_57 h_58 (by omega) (by omega) hP hD hS
set_option maxHeartbeats 4000000 in
set_option maxRecDepth 100000 in
theorem lc_10 {p : Program} {l : Launch} {e : Env} {s : State} {m : MethodId} {below : List Frame} {meth : Method} {c : Code} {b n : Nat} {xs : Nat → Int32} (C0 : lw_At p s m meth c b n xs) (hn : n ≤ 3072) {dC : Nat → ClassId} {dI : Nat → Nat → Nat} {am : Nat → Nat} {cm cid : Nat → ClassId} {tW : Nat} {sK sV : Nat → Nat} (hXx : xX tW sK sV (fun q : Nat => s.heap.size ≤ q) s s.heap) (hKx : va_K (dC, dI) vwCl (xT cid) s) (hKm : va_K (dC, dI) vwCl (mT cm) s) {z0 : Int} {i : Int} (hi0 : 0 ≤ i) (hi : i + 6 ≤ n) {L : List Nat} {K : Int → Nat} {N : Int → Int} {v : Int → Int → Int} {g : Nat → Int} {a : Nat → Int → Int} (hz : ok L K z0 12) (hI : xI L K N v) (hM : mI g a) (hrLine : rLine g a) (hrLead : rLead g a) (hrSkill : rSkill g a) (hrSh : rSh g a) (hnow : v z0 0 = g 30) (hhands : v z0 11 = g 50) (hstolen : v (v z0 19) 1 = g 78) (htold : v (v z0 14) 5 = g 66) (hsub : rSub v z0 a) (hhd : rHand v z0 g a) (hnw : rNews v z0 g a) {nc ns : Nat} (hc : nc + 5 ≤ 600000) (hs : ns + 12100 ≤ 7302250) {H : Heap} {locs : List Loc} {ls : Array Slot} (hP : va_P (dC, dI) vwCl (mG am cm g a ++ xG L cid K N v) H) (hD : va_D (fun q : Nat => s.heap.size ≤ q) (mG am cm g a ++ xG L cid K N v)) (hS : va_S (fun q : Nat => s.heap.size ≤ q) s.heap H locs) (hl : lv_has ls 4 [(3, .int (iI i)), (2, .ref (am 0)), (1, .ref z0.toNat), (0, .ref b)])
    (kk : ∀ (L : List Nat) (K : Int → Nat) (N : Int → Int) (v : Int → Int → Int) (g : Nat → Int) (a : Nat → Int → Int) (nc1 ns1 : Nat) (H : Heap) (locs : List Loc), ok L K z0 12 → xI L K N v → mI g a → rLine g a → rLead g a → rSkill g a → rSh g a → v z0 0 = g 30 → v z0 11 = g 50 → v (v z0 19) 1 = g 78 → v (v z0 14) 5 = g 66 → rSub v z0 a → rHand v z0 g a → rNews v z0 g a → nc1 ≤ nc + 5 → ns1 ≤ ns + 12100 → va_P (dC, dI) vwCl (mG am cm g a ++ xG L cid K N v) H → va_D (fun q : Nat => s.heap.size ≤ q) (mG am cm g a ++ xG L cid K N v) → va_S (fun q : Nat => s.heap.size ≤ q) s.heap H locs → W p l e room_1 s m #[Value.ref b] below meth c H locs nc1 ns1 (lw_Z below #[Value.ref b] s) (F0 m 1804 ls [])) : W p l e room_1 s m #[Value.ref b] below meth c H locs nc ns (lw_Z below #[Value.ref b] s) (F0 m 590 ls []) := by
  obtain ⟨hx, hb, hr, hml, hown, hts, hX9, hbl, hlocks, hgv⟩ := id C0
  have hA : ∀ q : Nat, s.heap.size ≤ q → (fun q : Nat => s.heap.size ≤ q) q := fun _ h => h
  have hbA : ¬ (fun q : Nat => s.heap.size ≤ q) b := Nat.not_le.mpr hbl
  refine lv_aload_n hx hb dL_law_590 rfl (lv_at hl 2 rfl) ?_
  refine lv_aload_n hx hb dL_law_591 rfl (lv_at hl 3 rfl) ?_
  refine lv_iload_n hx hb dL_law_592 rfl (lv_at hl 0 rfl) ?_
  refine lv_iconst (v := iI 1) hx hb dL_law_593 rfl ?_
  refine xr_add hx hb dL_law_594 ?_
  refine va_sld hx hb hX9 hbl hbA hS (xvp (t := i + 1) (by omega) (by omega) hn) dL_law_595 ?_
  obtain ⟨p_1, h_2, r_3⟩ : ∃ y : Int, xs (iI (i + 1)).toNatClampNeg = iI y ∧ rg y := ⟨_, iI_of _, rg_of _⟩
  refine jt_i (iI p_1) h_2 ?_
  refine lv_aload_n hx hb dL_law_596 rfl (lv_at hl 3 rfl) ?_
  refine lv_iload_n hx hb dL_law_597 rfl (lv_at hl 0 rfl) ?_
  refine lv_iconst (v := iI 2) hx hb dL_law_598 rfl ?_
  refine xr_add hx hb dL_law_599 ?_
  refine va_sld hx hb hX9 hbl hbA hS (xvp (t := i + 2) (by omega) (by omega) hn) dL_law_600 ?_
  obtain ⟨p_4, h_5, r_6⟩ : ∃ y : Int, xs (iI (i + 2)).toNatClampNeg = iI y ∧ rg y := ⟨_, iI_of _, rg_of _⟩
  refine jt_i (iI p_4) h_5 ?_
  refine lv_aload_n hx hb dL_law_601 rfl (lv_at hl 3 rfl) ?_
  refine lv_iload_n hx hb dL_law_602 rfl (lv_at hl 0 rfl) ?_
  refine lv_iconst (v := iI 3) hx hb dL_law_603 rfl ?_
  refine xr_add hx hb dL_law_604 ?_
  refine va_sld hx hb hX9 hbl hbA hS (xvp (t := i + 3) (by omega) (by omega) hn) dL_law_605 ?_
  obtain ⟨p_7, h_8, r_9⟩ : ∃ y : Int, xs (iI (i + 3)).toNatClampNeg = iI y ∧ rg y := ⟨_, iI_of _, rg_of _⟩
  refine jt_i (iI p_7) h_8 ?_
  refine lv_aload_n hx hb dL_law_606 rfl (lv_at hl 3 rfl) ?_
  refine lv_iload_n hx hb dL_law_607 rfl (lv_at hl 0 rfl) ?_
  refine lv_iconst (v := iI 4) hx hb dL_law_608 rfl ?_
  refine xr_add hx hb dL_law_609 ?_
  refine va_sld hx hb hX9 hbl hbA hS (xvp (t := i + 4) (by omega) (by omega) hn) dL_law_610 ?_
  obtain ⟨p_10, h_11, r_12⟩ : ∃ y : Int, xs (iI (i + 4)).toNatClampNeg = iI y ∧ rg y := ⟨_, iI_of _, rg_of _⟩
  refine jt_i (iI p_10) h_11 ?_
  refine lv_aload_n hx hb dL_law_611 rfl (lv_at hl 3 rfl) ?_
  refine lv_iload_n hx hb dL_law_612 rfl (lv_at hl 0 rfl) ?_
  refine lv_iconst (v := iI 5) hx hb dL_law_613 rfl ?_
  refine xr_add hx hb dL_law_614 ?_
  refine va_sld hx hb hX9 hbl hbA hS (xvp (t := i + 5) (by omega) (by omega) hn) dL_law_615 ?_
  obtain ⟨p_13, h_14, r_15⟩ : ∃ y : Int, xs (iI (i + 5)).toNatClampNeg = iI y ∧ rg y := ⟨_, iI_of _, rg_of _⟩
  refine jt_i (iI p_13) h_14 ?_
  have hPx := jp_tail hP
  have hDx := jd_tail hD
  refine jct_i (va_runV (As := [.int (iI p_1), .int (iI p_4), .int (iI p_7), .int (iI p_10), .int (iI p_13)]) (rest := []) ⟨hx, hb, hml, hown, hts⟩ (sX12_plate l dC dI _ L cid K N tW sK sV v z0 p_1 p_4 p_7 p_10 p_13 hI hz r_3 r_6 r_9 r_12 r_15) (cwV 5 hts (jgoodVL m_1465 m_1466 m_1467 m_873 m_1468) rfl rfl rfl (by decide +kernel) ⟨(Nat.le_of_ble_eq_true rfl), (Nat.le_of_ble_eq_true rfl)⟩) ⟨xP_blind, xrecv hKx hPx hz rfl rfl, fun U hU hW => ⟨rfl, xP_of hU hW hPx hKx hDx hXx hS (fun _ h => h) hA⟩⟩ rfl rfl hl.1 rfl (lv_room (Nat.le_of_ble_eq_true rfl)) dL_law_616 ⟨(show nc + 2 ≤ 600000 by omega), (show ns + 30 ≤ 7302250 by omega)⟩) hP hD hS hA (fun r u_19 H locs w_17 hP hKx hD hS => ?_)
  obtain ⟨L_20, K_21, N_22, v_23⟩ := u_19
  obtain ⟨x_16, rfl, I_24, E_25, f_26, f_18⟩ := w_17
  have hP : va_P (dC, dI) vwCl (mG am cm g a ++ xG L_20 cid K_21 N_22 v_23) H := hP
  have hD : va_D (fun q : Nat => s.heap.size ≤ q) (mG am cm g a ++ xG L_20 cid K_21 N_22 v_23) := hD
  have I_24 : xI L_20 K_21 N_22 v_23 := I_24
  have E_25 : xE L K N L_20 K_21 N_22 := E_25
  have f_26 : frE L K [(0, 3), (0, 4), (0, 5), (0, 6), (6, 1), (6, 2), (6, 3), (6, 4), (6, 5), (12, 7), (34, (-1)), (36, (-1)), (65, (-1)), (99, 0)] v_23 v := f_26
  have h_28 : v_23 z0 0 = g 30 := (frE_use hz f_26 rfl).trans hnow
  have h_29 : v_23 z0 11 = g 50 := (frE_use hz f_26 rfl).trans hhands
  have h_31 : ok L K (v z0 19) 10 := xf_12_19 hI hz
  have b_32 : v_23 z0 19 = v z0 19 := frE_use hz f_26 rfl
  have b_33 : v_23 (v z0 19) 1 = v (v z0 19) 1 := frE_use h_31 f_26 rfl
  have h_30 : v_23 (v_23 z0 19) 1 = g 78 := by rw [b_32, b_33]; exact hstolen
  have h_35 : ok L K (v z0 14) 5 := xf_12_14 hI hz
  have b_36 : v_23 z0 14 = v z0 14 := frE_use hz f_26 rfl
  have b_37 : v_23 (v z0 14) 5 = v (v z0 14) 5 := frE_use h_35 f_26 rfl
  have h_34 : v_23 (v_23 z0 14) 5 = g 66 := by rw [b_36, b_37]; exact htold
  have h_38 : rSub v_23 z0 a := rSub_x hI hz f_26 rfl (fun _ => rfl) hsub
  have h_39 : rHand v_23 z0 g a := rHand_x hI hz f_26 rfl (fun _ => rfl) rfl hhd
  have h_40 : rNews v_23 z0 g a := rNews_x hI hz f_26 rfl (fun _ => rfl) (fun _ => rfl) (fun _ => rfl) (fun _ => rfl) (fun _ => rfl) rfl rfl rfl rfl rfl hnw
  have h_27 := xE_ok E_25 hz
  refine lv_pop hx hb dL_law_619 rfl ?_
  refine lv_aload_n hx hb dL_law_620 rfl (lv_at hl 1 rfl) ?_
  refine lv_aload_n hx hb dL_law_621 rfl (lv_at hl 3 rfl) ?_
  refine lv_iload_n hx hb dL_law_622 rfl (lv_at hl 0 rfl) ?_
  refine lv_iconst (v := iI 1) hx hb dL_law_623 rfl ?_
  refine xr_add hx hb dL_law_624 ?_
  refine va_sld hx hb hX9 hbl hbA hS (xvp (t := i + 1) (by omega) (by omega) hn) dL_law_625 ?_
  refine jt_i (iI p_1) h_2 ?_
  refine lv_aload_n hx hb dL_law_626 rfl (lv_at hl 3 rfl) ?_
  refine lv_iload_n hx hb dL_law_627 rfl (lv_at hl 0 rfl) ?_
  refine lv_iconst (v := iI 2) hx hb dL_law_628 rfl ?_
  refine xr_add hx hb dL_law_629 ?_
  refine va_sld hx hb hX9 hbl hbA hS (xvp (t := i + 2) (by omega) (by omega) hn) dL_law_630 ?_
  refine jt_i (iI p_4) h_5 ?_
  refine lv_aload_n hx hb dL_law_631 rfl (lv_at hl 3 rfl) ?_
  refine lv_iload_n hx hb dL_law_632 rfl (lv_at hl 0 rfl) ?_
  refine lv_iconst (v := iI 3) hx hb dL_law_633 rfl ?_
  refine xr_add hx hb dL_law_634 ?_
  refine va_sld hx hb hX9 hbl hbA hS (xvp (t := i + 3) (by omega) (by omega) hn) dL_law_635 ?_
  refine jt_i (iI p_7) h_8 ?_
  refine lv_aload_n hx hb dL_law_636 rfl (lv_at hl 3 rfl) ?_
  refine lv_iload_n hx hb dL_law_637 rfl (lv_at hl 0 rfl) ?_
  refine lv_iconst (v := iI 4) hx hb dL_law_638 rfl ?_
  refine xr_add hx hb dL_law_639 ?_
  refine va_sld hx hb hX9 hbl hbA hS (xvp (t := i + 4) (by omega) (by omega) hn) dL_law_640 ?_
  refine jt_i (iI p_10) h_11 ?_
  refine lv_aload_n hx hb dL_law_641 rfl (lv_at hl 3 rfl) ?_
  refine lv_iload_n hx hb dL_law_642 rfl (lv_at hl 0 rfl) ?_
  refine lv_iconst (v := iI 5) hx hb dL_law_643 rfl ?_
  refine xr_add hx hb dL_law_644 ?_
  refine va_sld hx hb hX9 hbl hbA hS (xvp (t := i + 5) (by omega) (by omega) hn) dL_law_645 ?_
  refine jt_i (iI p_13) h_14 ?_
  obtain ⟨hP, hD⟩ := lsw hP hD
  have hPm := jp_tail hP
  have hDm := jd_tail hD
  refine jct_i (va_runV (As := [.int (iI p_1), .int (iI p_4), .int (iI p_7), .int (iI p_10), .int (iI p_13)]) (rest := []) ⟨hx, hb, hml, hown, hts⟩ (sX13_plate l dC dI _ am cm g a p_1 p_4 p_7 p_10 p_13 hM r_3 r_6 r_9 r_12 r_15 hrLead) (cwV 5 hts (jgoodVL m_1469 m_442 m_443 m_503 m_189) rfl rfl rfl (by decide +kernel) ⟨(Nat.le_of_ble_eq_true rfl), (Nat.le_of_ble_eq_true rfl)⟩) ⟨jw_blind, va_recv hKm hPm (ci := 13) (q0 := 0) rfl rfl, fun U hU hW => ⟨rfl, jw_of hU hW hPm hKm hDm⟩⟩ rfl rfl hl.1 rfl (lv_room (Nat.le_of_ble_eq_true rfl)) dL_law_646 ⟨(show nc + 2 + 0 ≤ 600000 by omega), (show ns + 30 + 0 ≤ 7302250 by omega)⟩) hP hD hS hA (fun r u_43 H locs w_42 hP hKm hD hS => ?_)
  obtain ⟨g_44, a_45⟩ := u_43
  obtain ⟨y_41, rfl, h_46, h_47, h_48, h_49, h_50⟩ := w_42
  have hP : va_P (dC, dI) vwCl (xG L_20 cid K_21 N_22 v_23 ++ mG am cm g_44 a_45) H := hP
  have hD : va_D (fun q : Nat => s.heap.size ≤ q) (xG L_20 cid K_21 N_22 v_23 ++ mG am cm g_44 a_45) := hD
  have h_46 : mI g_44 a_45 := h_46
  have h_51 : rLine g_44 a_45 := rLine_t (h_47 56 (by decide)) (h_48 45 (by decide)) hrLine
  have h_52 : rLead g_44 a_45 := h_50
  have h_53 : rSkill g_44 a_45 := rSkill_t (h_47 50 (by decide)) (h_48 38 (by decide)) hrSkill
  have h_54 : rSh g_44 a_45 := rSh_t (h_47 18 (by decide)) (h_47 26 (by decide)) (h_48 9 (by decide)) (h_48 10 (by decide)) (h_48 11 (by decide)) (h_48 12 (by decide)) (h_48 16 (by decide)) hrSh
  have h_55 : v_23 z0 0 = g_44 30 := h_28.trans (h_47 30 (by decide)).symm
  have h_56 : v_23 z0 11 = g_44 50 := h_29.trans (h_47 50 (by decide)).symm
  have h_57 : v_23 (v_23 z0 19) 1 = g_44 78 := h_30.trans (h_47 78 (by decide)).symm
  have h_58 : v_23 (v_23 z0 14) 5 = g_44 66 := h_34.trans (h_47 66 (by decide)).symm
  have h_59 : rSub v_23 z0 a_45 := rSub_m (h_48 60 (by decide)) h_38
  have h_60 : rHand v_23 z0 g_44 a_45 := rHand_m (h_47 50 (by decide)) (h_48 41 (by decide)) h_39
  have h_61 : rNews v_23 z0 g_44 a_45 := rNews_m (h_47 66 (by decide)) (h_48 51 (by decide)) (h_48 52 (by decide)) (h_48 53 (by decide)) (h_48 54 (by decide)) h_40
  obtain ⟨hP, hD⟩ := lsw hP hD
  refine lv_pop hx hb dL_law_649 rfl ?_
  refine lv_goto (tgt := 1804) hx hb dL_law_650 (by decide) ?_
  exact kk L_20 K_21 N_22 v_23 g_44 a_45 _ _ H locs h_27 I_24 h_46 h_51 h_52 h_53 h_54 h_55 h_56 h_57 h_58 h_59 h_60 h_61 (by omega) (by omega) hP hD hS
