set_option maxHeartbeats 4000000 in
set_option maxRecDepth 100000 in
theorem lc_10 {p : Program} {l : Launch} {e : Env} {s : State} {m : MethodId} {below : List Frame} {meth : Method} {c : Code} {b n : Nat} {xs : Nat → Int32} (C0 : lw_At p s m meth c b n xs) (hn : n ≤ 3072) {dC : Nat → ClassId} {dI : Nat → Nat → Nat} {am : Nat → Nat} {cm cid : Nat → ClassId} {tW : Nat} {sK sV : Nat → Nat} (hXx : xX tW sK sV (fun q : Nat => s.heap.size ≤ q) s s.heap) (hKx : va_K (dC, dI) vwCl (xT cid) s) (hKm : va_K (dC, dI) vwCl (mT cm) s) {z0 : Int} {i : Int} (hi0 : 0 ≤ i) (hi : i + 6 ≤ n) {L : List Nat} {K : Int → Nat} {N : Int → Int} {v : Int → Int → Int} {g : Nat → Int} {a : Nat → Int → Int} (hz : ok L K z0 12) (hI : xI L K N v) (hM : mI g a) (hrLine : rLine g a) (hrLead : rLead g a) (hrSkill : rSkill g a) (hrSh : rSh g a) (hnow : v z0 0 = g 30) (hhands : v z0 11 = g 50) (hstolen : v (v z0 19) 1 = g 78) (htold : v (v z0 14) 5 = g 66) (hsize : v (v z0 2) 1 = g 1) (hsheets : v (v z0 3) 1 = g 18) (hsub : rSub v z0 a) (hhd : rHand v z0 g a) (hnw : rNews v z0 g a) (htx : rTxt v z0 g a) {nc ns : Nat} (hc : nc + 5 ≤ 600000) (hs : ns + 12100 ≤ 7302250) {H : Heap} {locs : List Loc} {ls : Array Slot} (hP : va_P (dC, dI) vwCl (mG am cm g a ++ xG L cid K N v) H) (hD : va_D (fun q : Nat => s.heap.size ≤ q) (mG am cm g a ++ xG L cid K N v)) (hS : va_S (fun q : Nat => s.heap.size ≤ q) s.heap H locs) (hl : lv_has ls 4 [(3, .int (iI i)), (2, .ref (am 0)), (1, .ref z0.toNat), (0, .ref b)])
    (kk : ∀ (L : List Nat) (K : Int → Nat) (N : Int → Int) (v : Int → Int → Int) (g : Nat → Int) (a : Nat → Int → Int) (nc1 ns1 : Nat) (H : Heap) (locs : List Loc), ok L K z0 12 → xI L K N v → mI g a → rLine g a → rLead g a → rSkill g a → rSh g a → v z0 0 = g 30 → v z0 11 = g 50 → v (v z0 19) 1 = g 78 → v (v z0 14) 5 = g 66 → v (v z0 2) 1 = g 1 → v (v z0 3) 1 = g 18 → rSub v z0 a → rHand v z0 g a → rNews v z0 g a → rTxt v z0 g a → nc1 ≤ nc + 5 → ns1 ≤ ns + 12100 → va_P (dC, dI) vwCl (mG am cm g a ++ xG L cid K N v) H → va_D (fun q : Nat => s.heap.size ≤ q) (mG am cm g a ++ xG L cid K N v) → va_S (fun q : Nat => s.heap.size ≤ q) s.heap H locs → W p l e room_1 s m #[Value.ref b] below meth c H locs nc1 ns1 (lw_Z below #[Value.ref b] s) (F0 m 1804 ls [])) : W p l e room_1 s m #[Value.ref b] below meth c H locs nc ns (lw_Z below #[Value.ref b] s) (F0 m 590 ls []) := by
  obtain ⟨hx, hb, hr, hml, hown, hts, hX9, hbl, hlocks, hgv⟩ := id C0
  have hA : ∀ q : Nat, s.heap.size ≤ q → (fun q : Nat => s.heap.size ≤ q) q := fun _ h => h
  have hbA : ¬ (fun q : Nat => s.heap.size ≤ q) b := Nat.not_le.mpr hbl
  refine lv_aload_n hx hb dL_law_590 rfl (lv_at hl 2 rfl) ?_
  refine lv_aload_n hx hb dL_law_591 rfl (lv_at hl 3 rfl) ?_
  refine lv_iload_n hx hb dL_law_592 rfl (lv_at hl 0 rfl) ?_
  refine lv_iconst (v := iI 1) hx hb dL_law_593 rfl ?_
  refine xr_add hx hb dL_law_594 ?_
  refine va_sld hx hb hX9 hbl hbA hS (xvp (t := i + 1) (by omega) (by omega) hn) dL_law_595 ?_
  obtain ⟨p_1, h_2, r_3⟩ : ∃ y : Int, xs (iI (i + 1)).toNatClampNeg = iI y ∧ rg y := ⟨_, iI_of _, rg_of _⟩
  refine jt_i (iI p_1) h_2 ?_
  refine lv_aload_n hx hb dL_law_596 rfl (lv_at hl 3 rfl) ?_
  refine lv_iload_n hx hb dL_law_597 rfl (lv_at hl 0 rfl) ?_
  refine lv_iconst (v := iI 2) hx hb dL_law_598 rfl ?_
  refine xr_add hx hb dL_law_599 ?_
  refine va_sld hx hb hX9 hbl hbA hS (xvp (t := i + 2) (by omega) (by omega) hn) dL_law_600 ?_
  obtain ⟨p_4, h_5, r_6⟩ : ∃ y : Int, xs (iI (i + 2)).toNatClampNeg = iI y ∧ rg y := ⟨_, iI_of _, rg_of _⟩
  refine jt_i (iI p_4) h_5 ?_
  refine lv_aload_n hx hb dL_law_601 rfl (lv_at hl 3 rfl) ?_
  refine lv_iload_n hx hb dL_law_602 rfl (lv_at hl 0 rfl) ?_
  refine lv_iconst (v := iI 3) hx hb dL_law_603 rfl ?_
  refine xr_add hx hb dL_law_604 ?_
  refine va_sld hx hb hX9 hbl hbA hS (xvp (t := i + 3) (by omega) (by omega) hn) dL_law_605 ?_
  obtain ⟨p_7, h_8, r_9⟩ : ∃ y : Int, xs (iI (i + 3)).toNatClampNeg = iI y ∧ rg y := ⟨_, iI_of _, rg_of _⟩
  refine jt_i (iI p_7) h_8 ?_
  refine lv_aload_n hx hb dL_law_606 rfl (lv_at hl 3 rfl) ?_
  refine lv_iload_n hx hb dL_law_607 rfl (lv_at hl 0 rfl) ?_
  refine lv_iconst (v := iI 4) hx hb dL_law_608 rfl ?_
  refine xr_add hx hb dL_law_609 ?_
  refine va_sld hx hb hX9 hbl hbA hS (xvp (t := i + 4) (by omega) (by omega) hn) dL_law_610 ?_
  obtain ⟨p_10, h_11, r_12⟩ : ∃ y : Int, xs (iI (i + 4)).toNatClampNeg = iI y ∧ rg y := ⟨_, iI_of _, rg_of _⟩
  refine jt_i (iI p_10) h_11 ?_
  refine lv_aload_n hx hb dL_law_611 rfl (lv_at hl 3 rfl) ?_
  refine lv_iload_n hx hb dL_law_612 rfl (lv_at hl 0 rfl) ?_
  refine lv_iconst (v := iI 5) hx hb dL_law_613 rfl ?_
  refine xr_add hx hb dL_law_614 ?_
  refine va_sld hx hb hX9 hbl hbA hS (xvp (t := i + 5) (by omega) (by omega) hn) dL_law_615 ?_
  obtain ⟨p_13, h_14, r_15⟩ : ∃ y : Int, xs (iI (i + 5)).toNatClampNeg = iI y ∧ rg y := ⟨_, iI_of _, rg_of _⟩
  refine jt_i (iI p_13) h_14 ?_
  have hPx := jp_tail hP
  have hDx := jd_tail hD
  refine jct_i (va_runV (As := [.int (iI p_1), .int (iI p_4), .int (iI p_7), .int (iI p_10), .int (iI p_13)]) (rest := []) ⟨hx, hb, hml, hown, hts⟩ (sX12_plate l dC dI _ L cid K N tW sK sV v z0 p_1 p_4 p_7 p_10 p_13 hI hz r_3 r_6 r_9 r_12 r_15) (cwV 5 hts (jgoodVL m_1465 m_1466 m_1467 m_873 m_1468) rfl rfl rfl (by decide +kernel) ⟨(Nat.le_of_ble_eq_true rfl), (Nat.le_of_ble_eq_true rfl)⟩) ⟨xP_blind, xrecv hKx hPx hz rfl rfl, fun U hU hW => ⟨rfl, xP_of hU hW hPx hKx hDx hXx hS (fun _ h => h) hA⟩⟩ rfl rfl hl.1 rfl (lv_room (Nat.le_of_ble_eq_true rfl)) dL_law_616 ⟨(show nc + 2 ≤ 600000 by omega), (show ns + 30 ≤ 7302250 by omega)⟩) hP hD hS hA (fun r u_19 H locs w_17 hP hKx hD hS => ?_)
  obtain ⟨L_20, K_21, N_22, v_23⟩ := u_19
  obtain ⟨x_16, rfl, I_24, E_25, f_26, f_18⟩ := w_17
  have hP : va_P (dC, dI) vwCl (mG am cm g a ++ xG L_20 cid K_21 N_22 v_23) H := hP
  have hD : va_D (fun q : Nat => s.heap.size ≤ q) (mG am cm g a ++ xG L_20 cid K_21 N_22 v_23) := hD
  have I_24 : xI L_20 K_21 N_22 v_23 := I_24
  have E_25 : xE L K N L_20 K_21 N_22 := E_25
  have f_26 : frE L K [(0, 3), (0, 4), (0, 5), (0, 6), (6, 1), (6, 2), (6, 3), (6, 4), (6, 5), (12, 7), (34, (-1)), (36, (-1)), (65, (-1)), (99, 0)] v_23 v := f_26
  have h_28 : v_23 z0 0 = g 30 := (frE_use hz f_26 rfl).trans hnow
  have h_29 : v_23 z0 11 = g 50 := (frE_use hz f_26 rfl).trans hhands
  have h_31 : ok L K (v z0 19) 10 := xf_12_19 hI hz
  have b_32 : v_23 z0 19 = v z0 19 := frE_use hz f_26 rfl
  have b_33 : v_23 (v z0 19) 1 = v (v z0 19) 1 := frE_use h_31 f_26 rfl
  have h_30 : v_23 (v_23 z0 19) 1 = g 78 := by rw [b_32, b_33]; exact hstolen
  have h_35 : ok L K (v z0 14) 5 := xf_12_14 hI hz
  have b_36 : v_23 z0 14 = v z0 14 := frE_use hz f_26 rfl
  have b_37 : v_23 (v z0 14) 5 = v (v z0 14) 5 := frE_use h_35 f_26 rfl
  have h_34 : v_23 (v_23 z0 14) 5 = g 66 := by rw [b_36, b_37]; exact htold
  have h_39 : ok L K (v z0 2) 7 := xf_12_2 hI hz
  have b_40 : v_23 z0 2 = v z0 2 := frE_use hz f_26 rfl
  have b_41 : v_23 (v z0 2) 1 = v (v z0 2) 1 := frE_use h_39 f_26 rfl
  have h_38 : v_23 (v_23 z0 2) 1 = g 1 := by rw [b_40, b_41]; exact hsize
  have h_43 : ok L K (v z0 3) 8 := xf_12_3 hI hz
  have b_44 : v_23 z0 3 = v z0 3 := frE_use hz f_26 rfl
  have b_45 : v_23 (v z0 3) 1 = v (v z0 3) 1 := frE_use h_43 f_26 rfl
  have h_42 : v_23 (v_23 z0 3) 1 = g 18 := by rw [b_44, b_45]; exact hsheets
  have h_46 : rSub v_23 z0 a := rSub_x hI hz f_26 rfl (fun _ => rfl) hsub
  have h_47 : rHand v_23 z0 g a := rHand_x hI hz f_26 rfl (fun _ => rfl) rfl hhd
  have h_48 : rNews v_23 z0 g a := rNews_x hI hz f_26 rfl (fun _ => rfl) (fun _ => rfl) (fun _ => rfl) (fun _ => rfl) (fun _ => rfl) rfl rfl rfl rfl rfl hnw
  have h_49 : rTxt v_23 z0 g a := rTxt_x hI hz f_26 rfl rfl rfl (fun _ => rfl) htx
  have h_27 := xE_ok E_25 hz
  refine lv_pop hx hb dL_law_619 rfl ?_
  refine lv_aload_n hx hb dL_law_620 rfl (lv_at hl 1 rfl) ?_
  refine lv_aload_n hx hb dL_law_621 rfl (lv_at hl 3 rfl) ?_
  refine lv_iload_n hx hb dL_law_622 rfl (lv_at hl 0 rfl) ?_
  refine lv_iconst (v := iI 1) hx hb dL_law_623 rfl ?_
  refine xr_add hx hb dL_law_624 ?_
  refine va_sld hx hb hX9 hbl hbA hS (xvp (t := i + 1) (by omega) (by omega) hn) dL_law_625 ?_
  refine jt_i (iI p_1) h_2 ?_
  refine lv_aload_n hx hb dL_law_626 rfl (lv_at hl 3 rfl) ?_
  refine lv_iload_n hx hb dL_law_627 rfl (lv_at hl 0 rfl) ?_
  refine lv_iconst (v := iI 2) hx hb dL_law_628 rfl ?_
  refine xr_add hx hb dL_law_629 ?_
  refine va_sld hx hb hX9 hbl hbA hS (xvp (t := i + 2) (by omega) (by omega) hn) dL_law_630 ?_
  refine jt_i (iI p_4) h_5 ?_
  refine lv_aload_n hx hb dL_law_631 rfl (lv_at hl 3 rfl) ?_
  refine lv_iload_n hx hb dL_law_632 rfl (lv_at hl 0 rfl) ?_
  refine lv_iconst (v := iI 3) hx hb dL_law_633 rfl ?_
  refine xr_add hx hb dL_law_634 ?_
  refine va_sld hx hb hX9 hbl hbA hS (xvp (t := i + 3) (by omega) (by omega) hn) dL_law_635 ?_
  refine jt_i (iI p_7) h_8 ?_
  refine lv_aload_n hx hb dL_law_636 rfl (lv_at hl 3 rfl) ?_
  refine lv_iload_n hx hb dL_law_637 rfl (lv_at hl 0 rfl) ?_
  refine lv_iconst (v := iI 4) hx hb dL_law_638 rfl ?_
  refine xr_add hx hb dL_law_639 ?_
  refine va_sld hx hb hX9 hbl hbA hS (xvp (t := i + 4) (by omega) (by omega) hn) dL_law_640 ?_
  refine jt_i (iI p_10) h_11 ?_
  refine lv_aload_n hx hb dL_law_641 rfl (lv_at hl 3 rfl) ?_
  refine lv_iload_n hx hb dL_law_642 rfl (lv_at hl 0 rfl) ?_
  refine lv_iconst (v := iI 5) hx hb dL_law_643 rfl ?_
  refine xr_add hx hb dL_law_644 ?_
  refine va_sld hx hb hX9 hbl hbA hS (xvp (t := i + 5) (by omega) (by omega) hn) dL_law_645 ?_
  refine jt_i (iI p_13) h_14 ?_
  obtain ⟨hP, hD⟩ := lsw hP hD
  have hPm := jp_tail hP
  have hDm := jd_tail hD
  refine jct_i (va_runV (As := [.int (iI p_1), .int (iI p_4), .int (iI p_7), .int (iI p_10), .int (iI p_13)]) (rest := []) ⟨hx, hb, hml, hown, hts⟩ (sX13_plate l dC dI _ am cm g a p_1 p_4 p_7 p_10 p_13 hM r_3 r_6 r_9 r_12 r_15 hrLead) (cwV 5 hts (jgoodVL m_1469 m_442 m_443 m_503 m_189) rfl rfl rfl (by decide +kernel) ⟨(Nat.le_of_ble_eq_true rfl), (Nat.le_of_ble_eq_true rfl)⟩) ⟨jw_blind, va_recv hKm hPm (ci := 13) (q0 := 0) rfl rfl, fun U hU hW => ⟨rfl, jw_of hU hW hPm hKm hDm⟩⟩ rfl rfl hl.1 rfl (lv_room (Nat.le_of_ble_eq_true rfl)) dL_law_646 ⟨(show nc + 2 + 0 ≤ 600000 by omega), (show ns + 30 + 0 ≤ 7302250 by omega)⟩) hP hD hS hA (fun r u_52 H locs w_51 hP hKm hD hS => ?_)
  obtain ⟨g_53, a_54⟩ := u_52
  obtain ⟨y_50, rfl, h_55, h_56, h_57, h_58, h_59⟩ := w_51
  have hP : va_P (dC, dI) vwCl (xG L_20 cid K_21 N_22 v_23 ++ mG am cm g_53 a_54) H := hP
  have hD : va_D (fun q : Nat => s.heap.size ≤ q) (xG L_20 cid K_21 N_22 v_23 ++ mG am cm g_53 a_54) := hD
  have h_55 : mI g_53 a_54 := h_55
  have h_60 : rLine g_53 a_54 := rLine_t (h_56 56 (by decide)) (h_57 45 (by decide)) hrLine
  have h_61 : rLead g_53 a_54 := h_59
  have h_62 : rSkill g_53 a_54 := rSkill_t (h_56 50 (by decide)) (h_57 38 (by decide)) hrSkill
  have h_63 : rSh g_53 a_54 := rSh_t (h_56 18 (by decide)) (h_56 26 (by decide)) (h_57 9 (by decide)) (h_57 10 (by decide)) (h_57 11 (by decide)) (h_57 12 (by decide)) (h_57 16 (by decide)) hrSh
  have h_64 : v_23 z0 0 = g_53 30 := h_28.trans (h_56 30 (by decide)).symm
  have h_65 : v_23 z0 11 = g_53 50 := h_29.trans (h_56 50 (by decide)).symm
  have h_66 : v_23 (v_23 z0 19) 1 = g_53 78 := h_30.trans (h_56 78 (by decide)).symm
  have h_67 : v_23 (v_23 z0 14) 5 = g_53 66 := h_34.trans (h_56 66 (by decide)).symm
  have h_68 : v_23 (v_23 z0 2) 1 = g_53 1 := h_38.trans (h_56 1 (by decide)).symm
  have h_69 : v_23 (v_23 z0 3) 1 = g_53 18 := h_42.trans (h_56 18 (by decide)).symm
  have h_70 : rSub v_23 z0 a_54 := rSub_m (h_57 60 (by decide)) h_46
  have h_71 : rHand v_23 z0 g_53 a_54 := rHand_m (h_56 50 (by decide)) (h_57 41 (by decide)) h_47
  have h_72 : rNews v_23 z0 g_53 a_54 := rNews_m (h_56 66 (by decide)) (h_57 51 (by decide)) (h_57 52 (by decide)) (h_57 53 (by decide)) (h_57 54 (by decide)) h_48
  have h_73 : rTxt v_23 z0 g_53 a_54 := rTxt_m (h_56 1 (by decide)) (h_57 1 (by decide)) h_49
  obtain ⟨hP, hD⟩ := lsw hP hD
  refine lv_pop hx hb dL_law_649 rfl ?_
  refine lv_goto (tgt := 1804) hx hb dL_law_650 (by decide) ?_
  exact kk L_20 K_21 N_22 v_23 g_53 a_54 _ _ H locs h_27 I_24 h_55 h_60 h_61 h_62 h_63 h_64 h_65 h_66 h_67 h_68 h_69 h_70 h_71 h_72 h_73 (by omega) (by omega) hP hD hS
set_option maxHeartbeats 4000000 in
set_option maxRecDepth 100000 in
theorem lc_11 {p : Program} {l : Launch} {e : Env} {s : State} {m : MethodId} {below : List Frame} {meth : Method} {c : Code} {b n : Nat} {xs : Nat → Int32} (C0 : lw_At p s m meth c b n xs) (hn : n ≤ 3072) {dC : Nat → ClassId} {dI : Nat → Nat → Nat} {am : Nat → Nat} {cm cid : Nat → ClassId} {tW : Nat} {sK sV : Nat → Nat} (hXx : xX tW sK sV (fun q : Nat => s.heap.size ≤ q) s s.heap) (hKx : va_K (dC, dI) vwCl (xT cid) s) (hKm : va_K (dC, dI) vwCl (mT cm) s) {z0 : Int} {i : Int} (hi0 : 0 ≤ i) (hi : i + 6 ≤ n) {L : List Nat} {K : Int → Nat} {N : Int → Int} {v : Int → Int → Int} {g : Nat → Int} {a : Nat → Int → Int} (hz : ok L K z0 12) (hI : xI L K N v) (hM : mI g a) (hrLine : rLine g a) (hrLead : rLead g a) (hrSkill : rSkill g a) (hrSh : rSh g a) (hnow : v z0 0 = g 30) (hhands : v z0 11 = g 50) (hstolen : v (v z0 19) 1 = g 78) (htold : v (v z0 14) 5 = g 66) (hsize : v (v z0 2) 1 = g 1) (hsheets : v (v z0 3) 1 = g 18) (hsub : rSub v z0 a) (hhd : rHand v z0 g a) (hnw : rNews v z0 g a) (htx : rTxt v z0 g a) {nc ns : Nat} (hc : nc + 5 ≤ 600000) (hs : ns + 12100 ≤ 7302250) {H : Heap} {locs : List Loc} {ls : Array Slot} (hP : va_P (dC, dI) vwCl (mG am cm g a ++ xG L cid K N v) H) (hD : va_D (fun q : Nat => s.heap.size ≤ q) (mG am cm g a ++ xG L cid K N v)) (hS : va_S (fun q : Nat => s.heap.size ≤ q) s.heap H locs) (hl : lv_has ls 4 [(3, .int (iI i)), (2, .ref (am 0)), (1, .ref z0.toNat), (0, .ref b)])
    (kk : ∀ (L : List Nat) (K : Int → Nat) (N : Int → Int) (v : Int → Int → Int) (g : Nat → Int) (a : Nat → Int → Int) (nc1 ns1 : Nat) (H : Heap) (locs : List Loc), ok L K z0 12 → xI L K N v → mI g a → rLine g a → rLead g a → rSkill g a → rSh g a → v z0 0 = g 30 → v z0 11 = g 50 → v (v z0 19) 1 = g 78 → v (v z0 14) 5 = g 66 → v (v z0 2) 1 = g 1 → v (v z0 3) 1 = g 18 → rSub v z0 a → rHand v z0 g a → rNews v z0 g a → rTxt v z0 g a → nc1 ≤ nc + 5 → ns1 ≤ ns + 12100 → va_P (dC, dI) vwCl (mG am cm g a ++ xG L cid K N v) H → va_D (fun q : Nat => s.heap.size ≤ q) (mG am cm g a ++ xG L cid K N v) → va_S (fun q : Nat => s.heap.size ≤ q) s.heap H locs → W p l e room_1 s m #[Value.ref b] below meth c H locs nc1 ns1 (lw_Z below #[Value.ref b] s) (F0 m 1804 ls [])) : W p l e room_1 s m #[Value.ref b] below meth c H locs nc ns (lw_Z below #[Value.ref b] s) (F0 m 653 ls []) := by
  obtain ⟨hx, hb, hr, hml, hown, hts, hX9, hbl, hlocks, hgv⟩ := id C0
  have hA : ∀ q : Nat, s.heap.size ≤ q → (fun q : Nat => s.heap.size ≤ q) q := fun _ h => h
  have hbA : ¬ (fun q : Nat => s.heap.size ≤ q) b := Nat.not_le.mpr hbl
  refine lv_aload_n hx hb dL_law_653 rfl (lv_at hl 2 rfl) ?_
  refine lv_aload_n hx hb dL_law_654 rfl (lv_at hl 3 rfl) ?_
  refine lv_iload_n hx hb dL_law_655 rfl (lv_at hl 0 rfl) ?_
  refine lv_iconst (v := iI 1) hx hb dL_law_656 rfl ?_
  refine xr_add hx hb dL_law_657 ?_
  refine va_sld hx hb hX9 hbl hbA hS (xvp (t := i + 1) (by omega) (by omega) hn) dL_law_658 ?_
  obtain ⟨p_1, h_2, r_3⟩ : ∃ y : Int, xs (iI (i + 1)).toNatClampNeg = iI y ∧ rg y := ⟨_, iI_of _, rg_of _⟩
  refine jt_i (iI p_1) h_2 ?_
  refine lv_aload_n hx hb dL_law_659 rfl (lv_at hl 3 rfl) ?_
  refine lv_iload_n hx hb dL_law_660 rfl (lv_at hl 0 rfl) ?_
  refine lv_iconst (v := iI 2) hx hb dL_law_661 rfl ?_
  refine xr_add hx hb dL_law_662 ?_
  refine va_sld hx hb hX9 hbl hbA hS (xvp (t := i + 2) (by omega) (by omega) hn) dL_law_663 ?_
  obtain ⟨p_4, h_5, r_6⟩ : ∃ y : Int, xs (iI (i + 2)).toNatClampNeg = iI y ∧ rg y := ⟨_, iI_of _, rg_of _⟩
  refine jt_i (iI p_4) h_5 ?_
  have hPx := jp_tail hP
  have hDx := jd_tail hD
  refine jct_i (va_runV (As := [.int (iI p_1), .int (iI p_4)]) (rest := []) ⟨hx, hb, hml, hown, hts⟩ (sX12_points l dC dI _ L cid K N tW sK sV v z0 p_1 p_4 hI hz r_3 r_6) (cwV 2 hts (jgoodVL m_1470 m_1471 m_1472 m_873 m_1473) rfl rfl rfl (by decide +kernel) ⟨(Nat.le_of_ble_eq_true rfl), (Nat.le_of_ble_eq_true rfl)⟩) ⟨xP_blind, xrecv hKx hPx hz rfl rfl, fun U hU hW => ⟨rfl, xP_of hU hW hPx hKx hDx hXx hS (fun _ h => h) hA⟩⟩ rfl rfl hl.1 rfl (lv_room (Nat.le_of_ble_eq_true rfl)) dL_law_664 ⟨(show nc + 0 ≤ 600000 by omega), (show ns + 0 ≤ 7302250 by omega)⟩) hP hD hS hA (fun r v_10 H locs w_8 hP hKx hD hS => ?_)
  obtain ⟨x_7, rfl, I_11, f_12, f_9⟩ := w_8
  have hP : va_P (dC, dI) vwCl (mG am cm g a ++ xG L cid K N v_10) H := hP
  have hD : va_D (fun q : Nat => s.heap.size ≤ q) (mG am cm g a ++ xG L cid K N v_10) := hD
  have h_13 : v_10 z0 0 = g 30 := (fr_use hz f_12 rfl).trans hnow
  have h_14 : v_10 z0 11 = g 50 := (fr_use hz f_12 rfl).trans hhands
  have h_16 : ok L K (v z0 19) 10 := xf_12_19 hI hz
  have b_17 : v_10 z0 19 = v z0 19 := fr_use hz f_12 rfl
  have b_18 : v_10 (v z0 19) 1 = v (v z0 19) 1 := fr_use h_16 f_12 rfl
  have h_15 : v_10 (v_10 z0 19) 1 = g 78 := by rw [b_17, b_18]; exact hstolen
  have h_20 : ok L K (v z0 14) 5 := xf_12_14 hI hz
  have b_21 : v_10 z0 14 = v z0 14 := fr_use hz f_12 rfl
  have b_22 : v_10 (v z0 14) 5 = v (v z0 14) 5 := fr_use h_20 f_12 rfl
  have h_19 : v_10 (v_10 z0 14) 5 = g 66 := by rw [b_21, b_22]; exact htold
  have h_24 : ok L K (v z0 2) 7 := xf_12_2 hI hz
  have b_25 : v_10 z0 2 = v z0 2 := fr_use hz f_12 rfl
  have b_26 : v_10 (v z0 2) 1 = v (v z0 2) 1 := fr_use h_24 f_12 rfl
  have h_23 : v_10 (v_10 z0 2) 1 = g 1 := by rw [b_25, b_26]; exact hsize
  have h_28 : ok L K (v z0 3) 8 := xf_12_3 hI hz
  have b_29 : v_10 z0 3 = v z0 3 := fr_use hz f_12 rfl
  have b_30 : v_10 (v z0 3) 1 = v (v z0 3) 1 := fr_use h_28 f_12 rfl
  have h_27 : v_10 (v_10 z0 3) 1 = g 18 := by rw [b_29, b_30]; exact hsheets
  have h_31 : rSub v_10 z0 a := rSub_x hI hz (frE_of f_12) rfl (fun _ => rfl) hsub
  have h_32 : rHand v_10 z0 g a := rHand_x hI hz (frE_of f_12) rfl (fun _ => rfl) rfl hhd
  have h_33 : rNews v_10 z0 g a := rNews_x hI hz (frE_of f_12) rfl (fun _ => rfl) (fun _ => rfl) (fun _ => rfl) (fun _ => rfl) (fun _ => rfl) rfl rfl rfl rfl rfl hnw
  have h_34 : rTxt v_10 z0 g a := rTxt_x hI hz (frE_of f_12) rfl rfl rfl (fun _ => rfl) htx
  refine lv_pop hx hb dL_law_667 rfl ?_
  refine lv_aload_n hx hb dL_law_668 rfl (lv_at hl 1 rfl) ?_
  refine lv_aload_n hx hb dL_law_669 rfl (lv_at hl 3 rfl) ?_
  refine lv_iload_n hx hb dL_law_670 rfl (lv_at hl 0 rfl) ?_
  refine lv_iconst (v := iI 1) hx hb dL_law_671 rfl ?_
  refine xr_add hx hb dL_law_672 ?_
  refine va_sld hx hb hX9 hbl hbA hS (xvp (t := i + 1) (by omega) (by omega) hn) dL_law_673 ?_
  refine jt_i (iI p_1) h_2 ?_
  refine lv_aload_n hx hb dL_law_674 rfl (lv_at hl 3 rfl) ?_
  refine lv_iload_n hx hb dL_law_675 rfl (lv_at hl 0 rfl) ?_
  refine lv_iconst (v := iI 2) hx hb dL_law_676 rfl ?_
  refine xr_add hx hb dL_law_677 ?_
  refine va_sld hx hb hX9 hbl hbA hS (xvp (t := i + 2) (by omega) (by omega) hn) dL_law_678 ?_
  refine jt_i (iI p_4) h_5 ?_
  obtain ⟨hP, hD⟩ := lsw hP hD
  have hPm := jp_tail hP
  have hDm := jd_tail hD
  refine jct_i (va_runV (As := [.int (iI p_1), .int (iI p_4)]) (rest := []) ⟨hx, hb, hml, hown, hts⟩ (sX13_points l dC dI _ am cm g a p_1 p_4 hM r_3 r_6 hrLead) (cwV 2 hts (jgoodVL m_1474 m_446 m_447 m_503 m_191) rfl rfl rfl (by decide +kernel) ⟨(Nat.le_of_ble_eq_true rfl), (Nat.le_of_ble_eq_true rfl)⟩) ⟨jw_blind, va_recv hKm hPm (ci := 13) (q0 := 0) rfl rfl, fun U hU hW => ⟨rfl, jw_of hU hW hPm hKm hDm⟩⟩ rfl rfl hl.1 rfl (lv_room (Nat.le_of_ble_eq_true rfl)) dL_law_679 ⟨(show nc + 0 ≤ 600000 by omega), (show ns + 0 ≤ 7302250 by omega)⟩) hP hD hS hA (fun r u_37 H locs w_36 hP hKm hD hS => ?_)
  obtain ⟨g_38, a_39⟩ := u_37
  obtain ⟨y_35, rfl, h_40, h_41, h_42, h_43, h_44⟩ := w_36
  have hP : va_P (dC, dI) vwCl (xG L cid K N v_10 ++ mG am cm g_38 a_39) H := hP
  have hD : va_D (fun q : Nat => s.heap.size ≤ q) (xG L cid K N v_10 ++ mG am cm g_38 a_39) := hD
  have h_40 : g_38 = g := h_40
  have h_41 : mI g_38 a_39 := h_41
  have h_45 : rLine g_38 a_39 := rLine_t (congrFun h_40 56) (h_42 45 (by decide)) hrLine
  have h_46 : rLead g_38 a_39 := h_44
  have h_47 : rSkill g_38 a_39 := rSkill_t (congrFun h_40 50) (h_42 38 (by decide)) hrSkill
  have h_48 : rSh g_38 a_39 := rSh_t (congrFun h_40 18) (congrFun h_40 26) (h_42 9 (by decide)) (h_42 10 (by decide)) (h_42 11 (by decide)) (h_42 12 (by decide)) (h_42 16 (by decide)) hrSh
  have h_49 : v_10 z0 0 = g_38 30 := h_13.trans (congrFun h_40 30).symm
  have h_50 : v_10 z0 11 = g_38 50 := h_14.trans (congrFun h_40 50).symm
  have h_51 : v_10 (v_10 z0 19) 1 = g_38 78 := h_15.trans (congrFun h_40 78).symm
  have h_52 : v_10 (v_10 z0 14) 5 = g_38 66 := h_19.trans (congrFun h_40 66).symm
  have h_53 : v_10 (v_10 z0 2) 1 = g_38 1 := h_23.trans (congrFun h_40 1).symm
  have h_54 : v_10 (v_10 z0 3) 1 = g_38 18 := h_27.trans (congrFun h_40 18).symm
  have h_55 : rSub v_10 z0 a_39 := rSub_m (h_42 60 (by decide)) h_31
  have h_56 : rHand v_10 z0 g_38 a_39 := rHand_m (congrFun h_40 50) (h_42 41 (by decide)) h_32
  have h_57 : rNews v_10 z0 g_38 a_39 := rNews_m (congrFun h_40 66) (h_42 51 (by decide)) (h_42 52 (by decide)) (h_42 53 (by decide)) (h_42 54 (by decide)) h_33
  have h_58 : rTxt v_10 z0 g_38 a_39 := rTxt_m (congrFun h_40 1) (h_42 1 (by decide)) h_34
  obtain ⟨hP, hD⟩ := lsw hP hD
  refine lv_pop hx hb dL_law_682 rfl ?_
  refine lv_goto (tgt := 1804) hx hb dL_law_683 (by decide) ?_
  exact kk L K N v_10 g_38 a_39 _ _ H locs hz I_11 h_41 h_45 h_46 h_47 h_48 h_49 h_50 h_51 h_52 h_53 h_54 h_55 h_56 h_57 h_58 (by omega) (by omega) hP hD hS
set_option maxHeartbeats 4000000 in
set_option maxRecDepth 100000 in
theorem lc_12 {p : Program} {l : Launch} {e : Env} {s : State} {m : MethodId} {below : List Frame} {meth : Method} {c : Code} {b n : Nat} {xs : Nat → Int32} (C0 : lw_At p s m meth c b n xs) (hn : n ≤ 3072) {dC : Nat → ClassId} {dI : Nat → Nat → Nat} {am : Nat → Nat} {cm cid : Nat → ClassId} {tW : Nat} {sK sV : Nat → Nat} (hXx : xX tW sK sV (fun q : Nat => s.heap.size ≤ q) s s.heap) (hKx : va_K (dC, dI) vwCl (xT cid) s) (hKm : va_K (dC, dI) vwCl (mT cm) s) {z0 : Int} {i : Int} (hi0 : 0 ≤ i) (hi : i + 6 ≤ n) {L : List Nat} {K : Int → Nat} {N : Int → Int} {v : Int → Int → Int} {g : Nat → Int} {a : Nat → Int → Int} (hz : ok L K z0 12) (hI : xI L K N v) (hM : mI g a) (hrLine : rLine g a) (hrLead : rLead g a) (hrSkill : rSkill g a) (hrSh : rSh g a) (hnow : v z0 0 = g 30) (hhands : v z0 11 = g 50) (hstolen : v (v z0 19) 1 = g 78) (htold : v (v z0 14) 5 = g 66) (hsize : v (v z0 2) 1 = g 1) (hsheets : v (v z0 3) 1 = g 18) (hsub : rSub v z0 a) (hhd : rHand v z0 g a) (hnw : rNews v z0 g a) (htx : rTxt v z0 g a) {nc ns : Nat} (hc : nc + 5 ≤ 600000) (hs : ns + 12100 ≤ 7302250) {H : Heap} {locs : List Loc} {ls : Array Slot} (hP : va_P (dC, dI) vwCl (mG am cm g a ++ xG L cid K N v) H) (hD : va_D (fun q : Nat => s.heap.size ≤ q) (mG am cm g a ++ xG L cid K N v)) (hS : va_S (fun q : Nat => s.heap.size ≤ q) s.heap H locs) (hl : lv_has ls 4 [(3, .int (iI i)), (2, .ref (am 0)), (1, .ref z0.toNat), (0, .ref b)])
    (kk : ∀ (L : List Nat) (K : Int → Nat) (N : Int → Int) (v : Int → Int → Int) (g : Nat → Int) (a : Nat → Int → Int) (nc1 ns1 : Nat) (H : Heap) (locs : List Loc), ok L K z0 12 → xI L K N v → mI g a → rLine g a → rLead g a → rSkill g a → rSh g a → v z0 0 = g 30 → v z0 11 = g 50 → v (v z0 19) 1 = g 78 → v (v z0 14) 5 = g 66 → v (v z0 2) 1 = g 1 → v (v z0 3) 1 = g 18 → rSub v z0 a → rHand v z0 g a → rNews v z0 g a → rTxt v z0 g a → nc1 ≤ nc + 5 → ns1 ≤ ns + 12100 → va_P (dC, dI) vwCl (mG am cm g a ++ xG L cid K N v) H → va_D (fun q : Nat => s.heap.size ≤ q) (mG am cm g a ++ xG L cid K N v) → va_S (fun q : Nat => s.heap.size ≤ q) s.heap H locs → W p l e room_1 s m #[Value.ref b] below meth c H locs nc1 ns1 (lw_Z below #[Value.ref b] s) (F0 m 1804 ls [])) : W p l e room_1 s m #[Value.ref b] below meth c H locs nc ns (lw_Z below #[Value.ref b] s) (F0 m 686 ls []) := by
  obtain ⟨hx, hb, hr, hml, hown, hts, hX9, hbl, hlocks, hgv⟩ := id C0
  have hA : ∀ q : Nat, s.heap.size ≤ q → (fun q : Nat => s.heap.size ≤ q) q := fun _ h => h
  have hbA : ¬ (fun q : Nat => s.heap.size ≤ q) b := Nat.not_le.mpr hbl
  refine lv_aload_n hx hb dL_law_686 rfl (lv_at hl 2 rfl) ?_
  refine lv_aload_n hx hb dL_law_687 rfl (lv_at hl 3 rfl) ?_
  refine lv_iload_n hx hb dL_law_688 rfl (lv_at hl 0 rfl) ?_
  refine lv_iconst (v := iI 1) hx hb dL_law_689 rfl ?_
  refine xr_add hx hb dL_law_690 ?_
  refine va_sld hx hb hX9 hbl hbA hS (xvp (t := i + 1) (by omega) (by omega) hn) dL_law_691 ?_
  obtain ⟨p_1, h_2, r_3⟩ : ∃ y : Int, xs (iI (i + 1)).toNatClampNeg = iI y ∧ rg y := ⟨_, iI_of _, rg_of _⟩
  refine jt_i (iI p_1) h_2 ?_
  have hPx := jp_tail hP
  have hDx := jd_tail hD
  refine jct_i (va_runV (As := [.int (iI p_1)]) (rest := []) ⟨hx, hb, hml, hown, hts⟩ (sX12_strike l dC dI _ L cid K N tW sK sV v z0 p_1 hI hz r_3) (cwV 1 hts (jgoodVL m_1475 m_1476 m_1477 m_873 m_1478) rfl rfl rfl (by decide +kernel) ⟨(Nat.le_of_ble_eq_true rfl), (Nat.le_of_ble_eq_true rfl)⟩) ⟨xP_blind, xrecv hKx hPx hz rfl rfl, fun U hU hW => ⟨rfl, xP_of hU hW hPx hKx hDx hXx hS (fun _ h => h) hA⟩⟩ rfl rfl hl.1 rfl (lv_room (Nat.le_of_ble_eq_true rfl)) dL_law_692 ⟨(show nc + 0 ≤ 600000 by omega), (show ns + 0 ≤ 7302250 by omega)⟩) hP hD hS hA (fun r v_7 H locs w_5 hP hKx hD hS => ?_)
  obtain ⟨x_4, rfl, I_8, f_9, f_6⟩ := w_5
  have hP : va_P (dC, dI) vwCl (mG am cm g a ++ xG L cid K N v_7) H := hP
  have hD : va_D (fun q : Nat => s.heap.size ≤ q) (mG am cm g a ++ xG L cid K N v_7) := hD
  have h_10 : v_7 z0 0 = g 30 := (fr_use hz f_9 rfl).trans hnow
  have h_11 : v_7 z0 11 = g 50 := (fr_use hz f_9 rfl).trans hhands
  have h_13 : ok L K (v z0 19) 10 := xf_12_19 hI hz
  have b_14 : v_7 z0 19 = v z0 19 := fr_use hz f_9 rfl
  have b_15 : v_7 (v z0 19) 1 = v (v z0 19) 1 := fr_use h_13 f_9 rfl
  have h_12 : v_7 (v_7 z0 19) 1 = g 78 := by rw [b_14, b_15]; exact hstolen
  have h_17 : ok L K (v z0 14) 5 := xf_12_14 hI hz
  have b_18 : v_7 z0 14 = v z0 14 := fr_use hz f_9 rfl
  have b_19 : v_7 (v z0 14) 5 = v (v z0 14) 5 := fr_use h_17 f_9 rfl
  have h_16 : v_7 (v_7 z0 14) 5 = g 66 := by rw [b_18, b_19]; exact htold
  have h_21 : ok L K (v z0 2) 7 := xf_12_2 hI hz
  have b_22 : v_7 z0 2 = v z0 2 := fr_use hz f_9 rfl
  have b_23 : v_7 (v z0 2) 1 = v (v z0 2) 1 := fr_use h_21 f_9 rfl
  have h_20 : v_7 (v_7 z0 2) 1 = g 1 := by rw [b_22, b_23]; exact hsize
  have h_25 : ok L K (v z0 3) 8 := xf_12_3 hI hz
  have b_26 : v_7 z0 3 = v z0 3 := fr_use hz f_9 rfl
  have b_27 : v_7 (v z0 3) 1 = v (v z0 3) 1 := fr_use h_25 f_9 rfl
  have h_24 : v_7 (v_7 z0 3) 1 = g 18 := by rw [b_26, b_27]; exact hsheets
  have h_28 : rSub v_7 z0 a := rSub_x hI hz (frE_of f_9) rfl (fun _ => rfl) hsub
  have h_29 : rHand v_7 z0 g a := rHand_x hI hz (frE_of f_9) rfl (fun _ => rfl) rfl hhd
  have h_30 : rNews v_7 z0 g a := rNews_x hI hz (frE_of f_9) rfl (fun _ => rfl) (fun _ => rfl) (fun _ => rfl) (fun _ => rfl) (fun _ => rfl) rfl rfl rfl rfl rfl hnw
  have h_31 : rTxt v_7 z0 g a := rTxt_x hI hz (frE_of f_9) rfl rfl rfl (fun _ => rfl) htx
  refine lv_pop hx hb dL_law_695 rfl ?_
  refine lv_aload_n hx hb dL_law_696 rfl (lv_at hl 1 rfl) ?_
  refine lv_aload_n hx hb dL_law_697 rfl (lv_at hl 3 rfl) ?_
  refine lv_iload_n hx hb dL_law_698 rfl (lv_at hl 0 rfl) ?_
  refine lv_iconst (v := iI 1) hx hb dL_law_699 rfl ?_
  refine xr_add hx hb dL_law_700 ?_
  refine va_sld hx hb hX9 hbl hbA hS (xvp (t := i + 1) (by omega) (by omega) hn) dL_law_701 ?_
  refine jt_i (iI p_1) h_2 ?_
  obtain ⟨hP, hD⟩ := lsw hP hD
  have hPm := jp_tail hP
  have hDm := jd_tail hD
  refine jct_i (va_runV (As := [.int (iI p_1)]) (rest := []) ⟨hx, hb, hml, hown, hts⟩ (sX13_strike l dC dI _ am cm g a p_1 hM r_3 hrSh) (cwV 1 hts (jgoodVL m_1479 m_474 m_475 m_503 m_205) rfl rfl rfl (by decide +kernel) ⟨(Nat.le_of_ble_eq_true rfl), (Nat.le_of_ble_eq_true rfl)⟩) ⟨jw_blind, va_recv hKm hPm (ci := 13) (q0 := 0) rfl rfl, fun U hU hW => ⟨rfl, jw_of hU hW hPm hKm hDm⟩⟩ rfl rfl hl.1 rfl (lv_room (Nat.le_of_ble_eq_true rfl)) dL_law_702 ⟨(show nc + 0 ≤ 600000 by omega), (show ns + 0 ≤ 7302250 by omega)⟩) hP hD hS hA (fun r u_34 H locs w_33 hP hKm hD hS => ?_)
  obtain ⟨g_35, a_36⟩ := u_34
  obtain ⟨y_32, rfl, h_37, h_38, h_39, h_40⟩ := w_33
  have hP : va_P (dC, dI) vwCl (xG L cid K N v_7 ++ mG am cm g_35 a_36) H := hP
  have hD : va_D (fun q : Nat => s.heap.size ≤ q) (xG L cid K N v_7 ++ mG am cm g_35 a_36) := hD
  have h_37 : g_35 = g := h_37
  have h_38 : mI g_35 a_36 := h_38
  have h_41 : rLine g_35 a_36 := rLine_t (congrFun h_37 56) (h_39 45 (by decide)) hrLine
  have h_42 : rLead g_35 a_36 := rLead_t (congrFun h_37 37) (h_39 27 (by decide)) (h_39 31 (by decide)) hrLead
  have h_43 : rSkill g_35 a_36 := rSkill_t (congrFun h_37 50) (h_39 38 (by decide)) hrSkill
  have h_44 : rSh g_35 a_36 := rSh_t (congrFun h_37 18) (congrFun h_37 26) (h_39 9 (by decide)) (h_39 10 (by decide)) (h_39 11 (by decide)) (h_39 12 (by decide)) (h_39 16 (by decide)) hrSh
  have h_45 : v_7 z0 0 = g_35 30 := h_10.trans (congrFun h_37 30).symm
  have h_46 : v_7 z0 11 = g_35 50 := h_11.trans (congrFun h_37 50).symm
  have h_47 : v_7 (v_7 z0 19) 1 = g_35 78 := h_12.trans (congrFun h_37 78).symm
  have h_48 : v_7 (v_7 z0 14) 5 = g_35 66 := h_16.trans (congrFun h_37 66).symm
  have h_49 : v_7 (v_7 z0 2) 1 = g_35 1 := h_20.trans (congrFun h_37 1).symm
  have h_50 : v_7 (v_7 z0 3) 1 = g_35 18 := h_24.trans (congrFun h_37 18).symm
  have h_51 : rSub v_7 z0 a_36 := rSub_m (h_39 60 (by decide)) h_28
  have h_52 : rHand v_7 z0 g_35 a_36 := rHand_m (congrFun h_37 50) (h_39 41 (by decide)) h_29
  have h_53 : rNews v_7 z0 g_35 a_36 := rNews_m (congrFun h_37 66) (h_39 51 (by decide)) (h_39 52 (by decide)) (h_39 53 (by decide)) (h_39 54 (by decide)) h_30
  have h_54 : rTxt v_7 z0 g_35 a_36 := rTxt_m (congrFun h_37 1) (h_39 1 (by decide)) h_31
  obtain ⟨hP, hD⟩ := lsw hP hD
  refine lv_pop hx hb dL_law_705 rfl ?_
  refine lv_goto (tgt := 1804) hx hb dL_law_706 (by decide) ?_
  exact kk L K N v_7 g_35 a_36 _ _ H locs hz I_8 h_38 h_41 h_42 h_43 h_44 h_45 h_46 h_47 h_48 h_49 h_50 h_51 h_52 h_53 h_54 (by omega) (by omega) hP hD hS
