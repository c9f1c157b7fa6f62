set_option maxHeartbeats 4000000 in
set_option maxRecDepth 100000 in
theorem lc_15 {p : Program} {l : Launch} {e : Env} {s : State} {m : MethodId} {below : List Frame} {meth : Method} {c : Code} {b n : Nat} {xs : Nat → Int32} (C0 : lw_At p s m meth c b n xs) (hn : n ≤ 3072) {dC : Nat → ClassId} {dI : Nat → Nat → Nat} {am : Nat → Nat} {cm cid : Nat → ClassId} {tW : Nat} {sK sV : Nat → Nat} (hXx : xX tW sK sV (fun q : Nat => s.heap.size ≤ q) s s.heap) (hKx : va_K (dC, dI) vwCl (xT cid) s) (hKm : va_K (dC, dI) vwCl (mT cm) s) {z0 : Int} {i : Int} (hi0 : 0 ≤ i) (hi : i + 6 ≤ n) {L : List Nat} {K : Int → Nat} {N : Int → Int} {v : Int → Int → Int} {g : Nat → Int} {a : Nat → Int → Int} (hz : ok L K z0 12) (hI : xI L K N v) (hM : mI g a) (hrLine : rLine g a) (hrLead : rLead g a) (hrSkill : rSkill g a) (hrSh : rSh g a) (hnow : v z0 0 = g 30) (hhands : v z0 11 = g 50) (hstolen : v (v z0 19) 1 = g 78) (htold : v (v z0 14) 5 = g 66) (hsub : rSub v z0 a) (hhd : rHand v z0 g a) (hnw : rNews v z0 g a) {nc ns : Nat} (hc : nc + 5 ≤ 600000) (hs : ns + 12100 ≤ 7302250) {H : Heap} {locs : List Loc} {ls : Array Slot} (hP : va_P (dC, dI) vwCl (mG am cm g a ++ xG L cid K N v) H) (hD : va_D (fun q : Nat => s.heap.size ≤ q) (mG am cm g a ++ xG L cid K N v)) (hS : va_S (fun q : Nat => s.heap.size ≤ q) s.heap H locs) (hl : lv_has ls 4 [(3, .int (iI i)), (2, .ref (am 0)), (1, .ref z0.toNat), (0, .ref b)])
    (kk : ∀ (L : List Nat) (K : Int → Nat) (N : Int → Int) (v : Int → Int → Int) (g : Nat → Int) (a : Nat → Int → Int) (nc1 ns1 : Nat) (H : Heap) (locs : List Loc), ok L K z0 12 → xI L K N v → mI g a → rLine g a → rLead g a → rSkill g a → rSh g a → v z0 0 = g 30 → v z0 11 = g 50 → v (v z0 19) 1 = g 78 → v (v z0 14) 5 = g 66 → rSub v z0 a → rHand v z0 g a → rNews v z0 g a → nc1 ≤ nc + 5 → ns1 ≤ ns + 12100 → va_P (dC, dI) vwCl (mG am cm g a ++ xG L cid K N v) H → va_D (fun q : Nat => s.heap.size ≤ q) (mG am cm g a ++ xG L cid K N v) → va_S (fun q : Nat => s.heap.size ≤ q) s.heap H locs → W p l e room_1 s m #[Value.ref b] below meth c H locs nc1 ns1 (lw_Z below #[Value.ref b] s) (F0 m 1804 ls [])) : W p l e room_1 s m #[Value.ref b] below meth c H locs nc ns (lw_Z below #[Value.ref b] s) (F0 m 755 ls []) := by
  obtain ⟨hx, hb, hr, hml, hown, hts, hX9, hbl, hlocks, hgv⟩ := id C0
  have hA : ∀ q : Nat, s.heap.size ≤ q → (fun q : Nat => s.heap.size ≤ q) q := fun _ h => h
  have hbA : ¬ (fun q : Nat => s.heap.size ≤ q) b := Nat.not_le.mpr hbl
  refine lv_aload_n hx hb dL_law_755 rfl (lv_at hl 2 rfl) ?_
  refine lv_aload_n hx hb dL_law_756 rfl (lv_at hl 3 rfl) ?_
  refine lv_iload_n hx hb dL_law_757 rfl (lv_at hl 0 rfl) ?_
  refine lv_iconst (v := iI 1) hx hb dL_law_758 rfl ?_
  refine xr_add hx hb dL_law_759 ?_
  refine va_sld hx hb hX9 hbl hbA hS (xvp (t := i + 1) (by omega) (by omega) hn) dL_law_760 ?_
  obtain ⟨p_1, h_2, r_3⟩ : ∃ y : Int, xs (iI (i + 1)).toNatClampNeg = iI y ∧ rg y := ⟨_, iI_of _, rg_of _⟩
  refine jt_i (iI p_1) h_2 ?_
  refine lv_aload_n hx hb dL_law_761 rfl (lv_at hl 3 rfl) ?_
  refine lv_iload_n hx hb dL_law_762 rfl (lv_at hl 0 rfl) ?_
  refine lv_iconst (v := iI 2) hx hb dL_law_763 rfl ?_
  refine xr_add hx hb dL_law_764 ?_
  refine va_sld hx hb hX9 hbl hbA hS (xvp (t := i + 2) (by omega) (by omega) hn) dL_law_765 ?_
  obtain ⟨p_4, h_5, r_6⟩ : ∃ y : Int, xs (iI (i + 2)).toNatClampNeg = iI y ∧ rg y := ⟨_, iI_of _, rg_of _⟩
  refine jt_i (iI p_4) h_5 ?_
  have hPx := jp_tail hP
  have hDx := jd_tail hD
  refine jct_i (va_runV (As := [.int (iI p_1), .int (iI p_4)]) (rest := []) ⟨hx, hb, hml, hown, hts⟩ (sX12_at l dC dI _ L cid K N tW sK sV v z0 p_1 p_4 hI hz r_3 r_6) (cwV 2 hts (jgoodVL m_1490 m_1491 m_1492 m_873 m_1493) rfl rfl rfl (by decide +kernel) ⟨(Nat.le_of_ble_eq_true rfl), (Nat.le_of_ble_eq_true rfl)⟩) ⟨xP_blind, xrecv hKx hPx hz rfl rfl, fun U hU hW => ⟨rfl, xP_of hU hW hPx hKx hDx hXx hS (fun _ h => h) hA⟩⟩ rfl rfl hl.1 rfl (lv_room (Nat.le_of_ble_eq_true rfl)) dL_law_766 ⟨(show nc + 0 ≤ 600000 by omega), (show ns + 0 ≤ 7302250 by omega)⟩) hP hD hS hA (fun r v_10 H locs w_8 hP hKx hD hS => ?_)
  obtain ⟨x_7, rfl, I_11, f_12, f_9⟩ := w_8
  have hP : va_P (dC, dI) vwCl (mG am cm g a ++ xG L cid K N v_10) H := hP
  have hD : va_D (fun q : Nat => s.heap.size ≤ q) (mG am cm g a ++ xG L cid K N v_10) := hD
  have h_13 : v_10 z0 0 = g 30 := (fr_use hz f_12 rfl).trans hnow
  have h_14 : v_10 z0 11 = g 50 := (fr_use hz f_12 rfl).trans hhands
  have h_16 : ok L K (v z0 19) 10 := xf_12_19 hI hz
  have b_17 : v_10 z0 19 = v z0 19 := fr_use hz f_12 rfl
  have b_18 : v_10 (v z0 19) 1 = v (v z0 19) 1 := fr_use h_16 f_12 rfl
  have h_15 : v_10 (v_10 z0 19) 1 = g 78 := by rw [b_17, b_18]; exact hstolen
  have h_20 : ok L K (v z0 14) 5 := xf_12_14 hI hz
  have b_21 : v_10 z0 14 = v z0 14 := fr_use hz f_12 rfl
  have b_22 : v_10 (v z0 14) 5 = v (v z0 14) 5 := fr_use h_20 f_12 rfl
  have h_19 : v_10 (v_10 z0 14) 5 = g 66 := by rw [b_21, b_22]; exact htold
  have h_23 : rSub v_10 z0 a := rSub_x hI hz (frE_of f_12) rfl (fun _ => rfl) hsub
  have h_24 : rHand v_10 z0 g a := rHand_x hI hz (frE_of f_12) rfl (fun _ => rfl) rfl hhd
  have h_25 : rNews v_10 z0 g a := rNews_x hI hz (frE_of f_12) rfl (fun _ => rfl) (fun _ => rfl) (fun _ => rfl) (fun _ => rfl) (fun _ => rfl) rfl rfl rfl rfl rfl hnw
  refine lv_pop hx hb dL_law_769 rfl ?_
  refine lv_aload_n hx hb dL_law_770 rfl (lv_at hl 1 rfl) ?_
  refine lv_aload_n hx hb dL_law_771 rfl (lv_at hl 3 rfl) ?_
  refine lv_iload_n hx hb dL_law_772 rfl (lv_at hl 0 rfl) ?_
  refine lv_iconst (v := iI 1) hx hb dL_law_773 rfl ?_
  refine xr_add hx hb dL_law_774 ?_
  refine va_sld hx hb hX9 hbl hbA hS (xvp (t := i + 1) (by omega) (by omega) hn) dL_law_775 ?_
  refine jt_i (iI p_1) h_2 ?_
  refine lv_aload_n hx hb dL_law_776 rfl (lv_at hl 3 rfl) ?_
  refine lv_iload_n hx hb dL_law_777 rfl (lv_at hl 0 rfl) ?_
  refine lv_iconst (v := iI 2) hx hb dL_law_778 rfl ?_
  refine xr_add hx hb dL_law_779 ?_
  refine va_sld hx hb hX9 hbl hbA hS (xvp (t := i + 2) (by omega) (by omega) hn) dL_law_780 ?_
  refine jt_i (iI p_4) h_5 ?_
  obtain ⟨hP, hD⟩ := lsw hP hD
  have hPm := jp_tail hP
  have hDm := jd_tail hD
  refine jct_i (va_runV (As := [.int (iI p_1), .int (iI p_4)]) (rest := []) ⟨hx, hb, hml, hown, hts⟩ (sX13_at l dC dI _ am cm g a p_1 p_4 hM r_3 r_6 hrSh) (cwV 2 hts (jgoodVL m_1494 m_289 m_290 m_503 m_109) rfl rfl rfl (by decide +kernel) ⟨(Nat.le_of_ble_eq_true rfl), (Nat.le_of_ble_eq_true rfl)⟩) ⟨jw_blind, va_recv hKm hPm (ci := 13) (q0 := 0) rfl rfl, fun U hU hW => ⟨rfl, jw_of hU hW hPm hKm hDm⟩⟩ rfl rfl hl.1 rfl (lv_room (Nat.le_of_ble_eq_true rfl)) dL_law_781 ⟨(show nc + 0 ≤ 600000 by omega), (show ns + 0 ≤ 7302250 by omega)⟩) hP hD hS hA (fun r u_28 H locs w_27 hP hKm hD hS => ?_)
  obtain ⟨g_29, a_30⟩ := u_28
  obtain ⟨y_26, rfl, h_31, h_32, h_33, h_34⟩ := w_27
  have hP : va_P (dC, dI) vwCl (xG L cid K N v_10 ++ mG am cm g_29 a_30) H := hP
  have hD : va_D (fun q : Nat => s.heap.size ≤ q) (xG L cid K N v_10 ++ mG am cm g_29 a_30) := hD
  have h_31 : g_29 = g := h_31
  have h_32 : mI g_29 a_30 := h_32
  have h_35 : rLine g_29 a_30 := rLine_t (congrFun h_31 56) (h_33 45 (by decide)) hrLine
  have h_36 : rLead g_29 a_30 := rLead_t (congrFun h_31 37) (h_33 27 (by decide)) (h_33 31 (by decide)) hrLead
  have h_37 : rSkill g_29 a_30 := rSkill_t (congrFun h_31 50) (h_33 38 (by decide)) hrSkill
  have h_38 : rSh g_29 a_30 := rSh_t (congrFun h_31 18) (congrFun h_31 26) (h_33 9 (by decide)) (h_33 10 (by decide)) (h_33 11 (by decide)) (h_33 12 (by decide)) (h_33 16 (by decide)) hrSh
  have h_39 : v_10 z0 0 = g_29 30 := h_13.trans (congrFun h_31 30).symm
  have h_40 : v_10 z0 11 = g_29 50 := h_14.trans (congrFun h_31 50).symm
  have h_41 : v_10 (v_10 z0 19) 1 = g_29 78 := h_15.trans (congrFun h_31 78).symm
  have h_42 : v_10 (v_10 z0 14) 5 = g_29 66 := h_19.trans (congrFun h_31 66).symm
  have h_43 : rSub v_10 z0 a_30 := rSub_m (h_33 60 (by decide)) h_23
  have h_44 : rHand v_10 z0 g_29 a_30 := rHand_m (congrFun h_31 50) (h_33 41 (by decide)) h_24
  have h_45 : rNews v_10 z0 g_29 a_30 := rNews_m (congrFun h_31 66) (h_33 51 (by decide)) (h_33 52 (by decide)) (h_33 53 (by decide)) (h_33 54 (by decide)) h_25
  obtain ⟨hP, hD⟩ := lsw hP hD
  refine lv_pop hx hb dL_law_784 rfl ?_
  refine lv_goto (tgt := 1804) hx hb dL_law_785 (by decide) ?_
  exact kk L K N v_10 g_29 a_30 _ _ H locs hz I_11 h_32 h_35 h_36 h_37 h_38 h_39 h_40 h_41 h_42 h_43 h_44 h_45 (by omega) (by omega) hP hD hS
set_option maxHeartbeats 4000000 in
set_option maxRecDepth 100000 in
theorem lc_16 {p : Program} {l : Launch} {e : Env} {s : State} {m : MethodId} {below : List Frame} {meth : Method} {c : Code} {b n : Nat} {xs : Nat → Int32} (C0 : lw_At p s m meth c b n xs) (hn : n ≤ 3072) {dC : Nat → ClassId} {dI : Nat → Nat → Nat} {am : Nat → Nat} {cm cid : Nat → ClassId} {tW : Nat} {sK sV : Nat → Nat} (hXx : xX tW sK sV (fun q : Nat => s.heap.size ≤ q) s s.heap) (hKx : va_K (dC, dI) vwCl (xT cid) s) (hKm : va_K (dC, dI) vwCl (mT cm) s) {z0 : Int} {i : Int} (hi0 : 0 ≤ i) (hi : i + 6 ≤ n) {L : List Nat} {K : Int → Nat} {N : Int → Int} {v : Int → Int → Int} {g : Nat → Int} {a : Nat → Int → Int} (hz : ok L K z0 12) (hI : xI L K N v) (hM : mI g a) (hrLine : rLine g a) (hrLead : rLead g a) (hrSkill : rSkill g a) (hrSh : rSh g a) (hnow : v z0 0 = g 30) (hhands : v z0 11 = g 50) (hstolen : v (v z0 19) 1 = g 78) (htold : v (v z0 14) 5 = g 66) (hsub : rSub v z0 a) (hhd : rHand v z0 g a) (hnw : rNews v z0 g a) {nc ns : Nat} (hc : nc + 5 ≤ 600000) (hs : ns + 12100 ≤ 7302250) {H : Heap} {locs : List Loc} {ls : Array Slot} (hP : va_P (dC, dI) vwCl (mG am cm g a ++ xG L cid K N v) H) (hD : va_D (fun q : Nat => s.heap.size ≤ q) (mG am cm g a ++ xG L cid K N v)) (hS : va_S (fun q : Nat => s.heap.size ≤ q) s.heap H locs) (hl : lv_has ls 4 [(3, .int (iI i)), (2, .ref (am 0)), (1, .ref z0.toNat), (0, .ref b)])
    (kk : ∀ (L : List Nat) (K : Int → Nat) (N : Int → Int) (v : Int → Int → Int) (g : Nat → Int) (a : Nat → Int → Int) (nc1 ns1 : Nat) (H : Heap) (locs : List Loc), ok L K z0 12 → xI L K N v → mI g a → rLine g a → rLead g a → rSkill g a → rSh g a → v z0 0 = g 30 → v z0 11 = g 50 → v (v z0 19) 1 = g 78 → v (v z0 14) 5 = g 66 → rSub v z0 a → rHand v z0 g a → rNews v z0 g a → nc1 ≤ nc + 5 → ns1 ≤ ns + 12100 → va_P (dC, dI) vwCl (mG am cm g a ++ xG L cid K N v) H → va_D (fun q : Nat => s.heap.size ≤ q) (mG am cm g a ++ xG L cid K N v) → va_S (fun q : Nat => s.heap.size ≤ q) s.heap H locs → W p l e room_1 s m #[Value.ref b] below meth c H locs nc1 ns1 (lw_Z below #[Value.ref b] s) (F0 m 1804 ls [])) : W p l e room_1 s m #[Value.ref b] below meth c H locs nc ns (lw_Z below #[Value.ref b] s) (F0 m 788 ls []) := by
  obtain ⟨hx, hb, hr, hml, hown, hts, hX9, hbl, hlocks, hgv⟩ := id C0
  have hA : ∀ q : Nat, s.heap.size ≤ q → (fun q : Nat => s.heap.size ≤ q) q := fun _ h => h
  have hbA : ¬ (fun q : Nat => s.heap.size ≤ q) b := Nat.not_le.mpr hbl
  refine lv_aload_n hx hb dL_law_788 rfl (lv_at hl 2 rfl) ?_
  refine lv_aload_n hx hb dL_law_789 rfl (lv_at hl 3 rfl) ?_
  refine lv_iload_n hx hb dL_law_790 rfl (lv_at hl 0 rfl) ?_
  refine lv_iconst (v := iI 1) hx hb dL_law_791 rfl ?_
  refine xr_add hx hb dL_law_792 ?_
  refine va_sld hx hb hX9 hbl hbA hS (xvp (t := i + 1) (by omega) (by omega) hn) dL_law_793 ?_
  obtain ⟨p_1, h_2, r_3⟩ : ∃ y : Int, xs (iI (i + 1)).toNatClampNeg = iI y ∧ rg y := ⟨_, iI_of _, rg_of _⟩
  refine jt_i (iI p_1) h_2 ?_
  refine lv_aload_n hx hb dL_law_794 rfl (lv_at hl 3 rfl) ?_
  refine lv_iload_n hx hb dL_law_795 rfl (lv_at hl 0 rfl) ?_
  refine lv_iconst (v := iI 2) hx hb dL_law_796 rfl ?_
  refine xr_add hx hb dL_law_797 ?_
  refine va_sld hx hb hX9 hbl hbA hS (xvp (t := i + 2) (by omega) (by omega) hn) dL_law_798 ?_
  obtain ⟨p_4, h_5, r_6⟩ : ∃ y : Int, xs (iI (i + 2)).toNatClampNeg = iI y ∧ rg y := ⟨_, iI_of _, rg_of _⟩
  refine jt_i (iI p_4) h_5 ?_
  have hPx := jp_tail hP
  have hDx := jd_tail hD
  refine jct_i (va_runV (As := [.int (iI p_1), .int (iI p_4)]) (rest := []) ⟨hx, hb, hml, hown, hts⟩ (sX12_why l dC dI _ L cid K N tW sK sV v z0 p_1 p_4 hI hz r_3 r_6) (cwV 2 hts (jgoodVL m_1495 m_1496 m_1497 m_873 m_1498) rfl rfl rfl (by decide +kernel) ⟨(Nat.le_of_ble_eq_true rfl), (Nat.le_of_ble_eq_true rfl)⟩) ⟨xP_blind, xrecv hKx hPx hz rfl rfl, fun U hU hW => ⟨rfl, xP_of hU hW hPx hKx hDx hXx hS (fun _ h => h) hA⟩⟩ rfl rfl hl.1 rfl (lv_room (Nat.le_of_ble_eq_true rfl)) dL_law_799 ⟨(show nc + 0 ≤ 600000 by omega), (show ns + 0 ≤ 7302250 by omega)⟩) hP hD hS hA (fun r v_10 H locs w_8 hP hKx hD hS => ?_)
  obtain ⟨x_7, rfl, I_11, f_12, f_9⟩ := w_8
  have hP : va_P (dC, dI) vwCl (mG am cm g a ++ xG L cid K N v_10) H := hP
  have hD : va_D (fun q : Nat => s.heap.size ≤ q) (mG am cm g a ++ xG L cid K N v_10) := hD
  have h_13 : v_10 z0 0 = g 30 := (fr_use hz f_12 rfl).trans hnow
  have h_14 : v_10 z0 11 = g 50 := (fr_use hz f_12 rfl).trans hhands
  have h_16 : ok L K (v z0 19) 10 := xf_12_19 hI hz
  have b_17 : v_10 z0 19 = v z0 19 := fr_use hz f_12 rfl
  have b_18 : v_10 (v z0 19) 1 = v (v z0 19) 1 := fr_use h_16 f_12 rfl
  have h_15 : v_10 (v_10 z0 19) 1 = g 78 := by rw [b_17, b_18]; exact hstolen
  have h_20 : ok L K (v z0 14) 5 := xf_12_14 hI hz
  have b_21 : v_10 z0 14 = v z0 14 := fr_use hz f_12 rfl
  have b_22 : v_10 (v z0 14) 5 = v (v z0 14) 5 := fr_use h_20 f_12 rfl
  have h_19 : v_10 (v_10 z0 14) 5 = g 66 := by rw [b_21, b_22]; exact htold
  have h_23 : rSub v_10 z0 a := rSub_x hI hz (frE_of f_12) rfl (fun _ => rfl) hsub
  have h_24 : rHand v_10 z0 g a := rHand_x hI hz (frE_of f_12) rfl (fun _ => rfl) rfl hhd
  have h_25 : rNews v_10 z0 g a := rNews_x hI hz (frE_of f_12) rfl (fun _ => rfl) (fun _ => rfl) (fun _ => rfl) (fun _ => rfl) (fun _ => rfl) rfl rfl rfl rfl rfl hnw
  refine lv_pop hx hb dL_law_802 rfl ?_
  refine lv_aload_n hx hb dL_law_803 rfl (lv_at hl 1 rfl) ?_
  refine lv_aload_n hx hb dL_law_804 rfl (lv_at hl 3 rfl) ?_
  refine lv_iload_n hx hb dL_law_805 rfl (lv_at hl 0 rfl) ?_
  refine lv_iconst (v := iI 1) hx hb dL_law_806 rfl ?_
  refine xr_add hx hb dL_law_807 ?_
  refine va_sld hx hb hX9 hbl hbA hS (xvp (t := i + 1) (by omega) (by omega) hn) dL_law_808 ?_
  refine jt_i (iI p_1) h_2 ?_
  refine lv_aload_n hx hb dL_law_809 rfl (lv_at hl 3 rfl) ?_
  refine lv_iload_n hx hb dL_law_810 rfl (lv_at hl 0 rfl) ?_
  refine lv_iconst (v := iI 2) hx hb dL_law_811 rfl ?_
  refine xr_add hx hb dL_law_812 ?_
  refine va_sld hx hb hX9 hbl hbA hS (xvp (t := i + 2) (by omega) (by omega) hn) dL_law_813 ?_
  refine jt_i (iI p_4) h_5 ?_
  obtain ⟨hP, hD⟩ := lsw hP hD
  have hPm := jp_tail hP
  have hDm := jd_tail hD
  refine jct_i (va_runV (As := [.int (iI p_1), .int (iI p_4)]) (rest := []) ⟨hx, hb, hml, hown, hts⟩ (sX13_why l dC dI _ am cm g a p_1 p_4 hM r_3 r_6 hrSh) (cwV 2 hts (jgoodVL m_1499 m_498 m_499 m_503 m_217) rfl rfl rfl (by decide +kernel) ⟨(Nat.le_of_ble_eq_true rfl), (Nat.le_of_ble_eq_true rfl)⟩) ⟨jw_blind, va_recv hKm hPm (ci := 13) (q0 := 0) rfl rfl, fun U hU hW => ⟨rfl, jw_of hU hW hPm hKm hDm⟩⟩ rfl rfl hl.1 rfl (lv_room (Nat.le_of_ble_eq_true rfl)) dL_law_814 ⟨(show nc + 0 ≤ 600000 by omega), (show ns + 0 ≤ 7302250 by omega)⟩) hP hD hS hA (fun r u_28 H locs w_27 hP hKm hD hS => ?_)
  obtain ⟨g_29, a_30⟩ := u_28
  obtain ⟨y_26, rfl, h_31, h_32, h_33, h_34⟩ := w_27
  have hP : va_P (dC, dI) vwCl (xG L cid K N v_10 ++ mG am cm g_29 a_30) H := hP
  have hD : va_D (fun q : Nat => s.heap.size ≤ q) (xG L cid K N v_10 ++ mG am cm g_29 a_30) := hD
  have h_31 : g_29 = g := h_31
  have h_32 : mI g_29 a_30 := h_32
  have h_35 : rLine g_29 a_30 := rLine_t (congrFun h_31 56) (h_33 45 (by decide)) hrLine
  have h_36 : rLead g_29 a_30 := rLead_t (congrFun h_31 37) (h_33 27 (by decide)) (h_33 31 (by decide)) hrLead
  have h_37 : rSkill g_29 a_30 := rSkill_t (congrFun h_31 50) (h_33 38 (by decide)) hrSkill
  have h_38 : rSh g_29 a_30 := rSh_t (congrFun h_31 18) (congrFun h_31 26) (h_33 9 (by decide)) (h_33 10 (by decide)) (h_33 11 (by decide)) (h_33 12 (by decide)) (h_33 16 (by decide)) hrSh
  have h_39 : v_10 z0 0 = g_29 30 := h_13.trans (congrFun h_31 30).symm
  have h_40 : v_10 z0 11 = g_29 50 := h_14.trans (congrFun h_31 50).symm
  have h_41 : v_10 (v_10 z0 19) 1 = g_29 78 := h_15.trans (congrFun h_31 78).symm
  have h_42 : v_10 (v_10 z0 14) 5 = g_29 66 := h_19.trans (congrFun h_31 66).symm
  have h_43 : rSub v_10 z0 a_30 := rSub_m (h_33 60 (by decide)) h_23
  have h_44 : rHand v_10 z0 g_29 a_30 := rHand_m (congrFun h_31 50) (h_33 41 (by decide)) h_24
  have h_45 : rNews v_10 z0 g_29 a_30 := rNews_m (congrFun h_31 66) (h_33 51 (by decide)) (h_33 52 (by decide)) (h_33 53 (by decide)) (h_33 54 (by decide)) h_25
  obtain ⟨hP, hD⟩ := lsw hP hD
  refine lv_pop hx hb dL_law_817 rfl ?_
  refine lv_goto (tgt := 1804) hx hb dL_law_818 (by decide) ?_
  exact kk L K N v_10 g_29 a_30 _ _ H locs hz I_11 h_32 h_35 h_36 h_37 h_38 h_39 h_40 h_41 h_42 h_43 h_44 h_45 (by omega) (by omega) hP hD hS
set_option maxHeartbeats 4000000 in
set_option maxRecDepth 100000 in
theorem lc_17 {p : Program} {l : Launch} {e : Env} {s : State} {m : MethodId} {below : List Frame} {meth : Method} {c : Code} {b n : Nat} {xs : Nat → Int32} (C0 : lw_At p s m meth c b n xs) (hn : n ≤ 3072) {dC : Nat → ClassId} {dI : Nat → Nat → Nat} {am : Nat → Nat} {cm cid : Nat → ClassId} {tW : Nat} {sK sV : Nat → Nat} (hXx : xX tW sK sV (fun q : Nat => s.heap.size ≤ q) s s.heap) (hKx : va_K (dC, dI) vwCl (xT cid) s) (hKm : va_K (dC, dI) vwCl (mT cm) s) {z0 : Int} {i : Int} (hi0 : 0 ≤ i) (hi : i + 6 ≤ n) {L : List Nat} {K : Int → Nat} {N : Int → Int} {v : Int → Int → Int} {g : Nat → Int} {a : Nat → Int → Int} (hz : ok L K z0 12) (hI : xI L K N v) (hM : mI g a) (hrLine : rLine g a) (hrLead : rLead g a) (hrSkill : rSkill g a) (hrSh : rSh g a) (hnow : v z0 0 = g 30) (hhands : v z0 11 = g 50) (hstolen : v (v z0 19) 1 = g 78) (htold : v (v z0 14) 5 = g 66) (hsub : rSub v z0 a) (hhd : rHand v z0 g a) (hnw : rNews v z0 g a) {nc ns : Nat} (hc : nc + 5 ≤ 600000) (hs : ns + 12100 ≤ 7302250) {H : Heap} {locs : List Loc} {ls : Array Slot} (hP : va_P (dC, dI) vwCl (mG am cm g a ++ xG L cid K N v) H) (hD : va_D (fun q : Nat => s.heap.size ≤ q) (mG am cm g a ++ xG L cid K N v)) (hS : va_S (fun q : Nat => s.heap.size ≤ q) s.heap H locs) (hl : lv_has ls 4 [(3, .int (iI i)), (2, .ref (am 0)), (1, .ref z0.toNat), (0, .ref b)])
    (kk : ∀ (L : List Nat) (K : Int → Nat) (N : Int → Int) (v : Int → Int → Int) (g : Nat → Int) (a : Nat → Int → Int) (nc1 ns1 : Nat) (H : Heap) (locs : List Loc), ok L K z0 12 → xI L K N v → mI g a → rLine g a → rLead g a → rSkill g a → rSh g a → v z0 0 = g 30 → v z0 11 = g 50 → v (v z0 19) 1 = g 78 → v (v z0 14) 5 = g 66 → rSub v z0 a → rHand v z0 g a → rNews v z0 g a → nc1 ≤ nc + 5 → ns1 ≤ ns + 12100 → va_P (dC, dI) vwCl (mG am cm g a ++ xG L cid K N v) H → va_D (fun q : Nat => s.heap.size ≤ q) (mG am cm g a ++ xG L cid K N v) → va_S (fun q : Nat => s.heap.size ≤ q) s.heap H locs → W p l e room_1 s m #[Value.ref b] below meth c H locs nc1 ns1 (lw_Z below #[Value.ref b] s) (F0 m 1804 ls [])) : W p l e room_1 s m #[Value.ref b] below meth c H locs nc ns (lw_Z below #[Value.ref b] s) (F0 m 821 ls []) := by
  obtain ⟨hx, hb, hr, hml, hown, hts, hX9, hbl, hlocks, hgv⟩ := id C0
  have hA : ∀ q : Nat, s.heap.size ≤ q → (fun q : Nat => s.heap.size ≤ q) q := fun _ h => h
  have hbA : ¬ (fun q : Nat => s.heap.size ≤ q) b := Nat.not_le.mpr hbl
  refine lv_aload_n hx hb dL_law_821 rfl (lv_at hl 2 rfl) ?_
  refine lv_aload_n hx hb dL_law_822 rfl (lv_at hl 3 rfl) ?_
  refine lv_iload_n hx hb dL_law_823 rfl (lv_at hl 0 rfl) ?_
  refine lv_iconst (v := iI 1) hx hb dL_law_824 rfl ?_
  refine xr_add hx hb dL_law_825 ?_
  refine va_sld hx hb hX9 hbl hbA hS (xvp (t := i + 1) (by omega) (by omega) hn) dL_law_826 ?_
  obtain ⟨p_1, h_2, r_3⟩ : ∃ y : Int, xs (iI (i + 1)).toNatClampNeg = iI y ∧ rg y := ⟨_, iI_of _, rg_of _⟩
  refine jt_i (iI p_1) h_2 ?_
  refine lv_aload_n hx hb dL_law_827 rfl (lv_at hl 3 rfl) ?_
  refine lv_iload_n hx hb dL_law_828 rfl (lv_at hl 0 rfl) ?_
  refine lv_iconst (v := iI 2) hx hb dL_law_829 rfl ?_
  refine xr_add hx hb dL_law_830 ?_
  refine va_sld hx hb hX9 hbl hbA hS (xvp (t := i + 2) (by omega) (by omega) hn) dL_law_831 ?_
  obtain ⟨p_4, h_5, r_6⟩ : ∃ y : Int, xs (iI (i + 2)).toNatClampNeg = iI y ∧ rg y := ⟨_, iI_of _, rg_of _⟩
  refine jt_i (iI p_4) h_5 ?_
  refine lv_aload_n hx hb dL_law_832 rfl (lv_at hl 3 rfl) ?_
  refine lv_iload_n hx hb dL_law_833 rfl (lv_at hl 0 rfl) ?_
  refine lv_iconst (v := iI 3) hx hb dL_law_834 rfl ?_
  refine xr_add hx hb dL_law_835 ?_
  refine va_sld hx hb hX9 hbl hbA hS (xvp (t := i + 3) (by omega) (by omega) hn) dL_law_836 ?_
  obtain ⟨p_7, h_8, r_9⟩ : ∃ y : Int, xs (iI (i + 3)).toNatClampNeg = iI y ∧ rg y := ⟨_, iI_of _, rg_of _⟩
  refine jt_i (iI p_7) h_8 ?_
  have hPx := jp_tail hP
  have hDx := jd_tail hD
  refine jct_i (va_runV (As := [.int (iI p_1), .int (iI p_4), .int (iI p_7)]) (rest := []) ⟨hx, hb, hml, hown, hts⟩ (sX12_hand l dC dI _ L cid K N tW sK sV v z0 p_1 p_4 p_7 hI hz r_3 r_6 r_9) (cwV 3 hts (jgoodVL m_1500 m_1501 m_1502 m_873 m_1503) rfl rfl rfl (by decide +kernel) ⟨(Nat.le_of_ble_eq_true rfl), (Nat.le_of_ble_eq_true rfl)⟩) ⟨xP_blind, xrecv hKx hPx hz rfl rfl, fun U hU hW => ⟨rfl, xP_of hU hW hPx hKx hDx hXx hS (fun _ h => h) hA⟩⟩ rfl rfl hl.1 rfl (lv_room (Nat.le_of_ble_eq_true rfl)) dL_law_837 ⟨(show nc + 1 ≤ 600000 by omega), (show ns + 6 ≤ 7302250 by omega)⟩) hP hD hS hA (fun r u_16 H locs w_11 hP hKx hD hS => ?_)
  obtain ⟨L_17, K_18, N_19, v_20⟩ := u_16
  obtain ⟨x_10, rfl, I_21, E_22, f_23, f_12, f_13, f_14, f_15⟩ := w_11
  have hP : va_P (dC, dI) vwCl (mG am cm g a ++ xG L_17 cid K_18 N_19 v_20) H := hP
  have hD : va_D (fun q : Nat => s.heap.size ≤ q) (mG am cm g a ++ xG L_17 cid K_18 N_19 v_20) := hD
  have I_21 : xI L_17 K_18 N_19 v_20 := I_21
  have E_22 : xE L K N L_17 K_18 N_19 := E_22
  have f_23 : frE L K [(12, 11), (38, (-1)), (99, 0)] v_20 v := f_23
  have f_13 : (x_10 = -1 ∧ v_20 z0 11 = v z0 11 ∧ ((p_1 < 1 ∨ 255 < p_1 ∨ p_4 < 1 ∨ 20 < p_4 ∨ p_7 < (-40000) ∨ 0 < p_7) ∨ 12 ≤ v z0 11)) ∨ (x_10 = v z0 11 ∧ v_20 z0 11 = v z0 11 + 1 ∧ 1 ≤ p_1 ∧ p_1 ≤ 255 ∧ 1 ≤ p_4 ∧ p_4 ≤ 20 ∧ (-40000) ≤ p_7 ∧ p_7 ≤ 0 ∧ v z0 11 < 12) := f_13
  have f_14 : iF (x_10 = -1) (∀ i, v_20 (v z0 10) i = v (v z0 10) i) := f_14
  have f_15 : iF (x_10 ≠ -1) (hNewP L K v v_20 (v z0 10) (v z0 11)) := f_15
  have h_25 : v_20 z0 0 = g 30 := (frE_use hz f_23 rfl).trans hnow
  have h_27 : ok L K (v z0 19) 10 := xf_12_19 hI hz
  have b_28 : v_20 z0 19 = v z0 19 := frE_use hz f_23 rfl
  have b_29 : v_20 (v z0 19) 1 = v (v z0 19) 1 := frE_use h_27 f_23 rfl
  have h_26 : v_20 (v_20 z0 19) 1 = g 78 := by rw [b_28, b_29]; exact hstolen
  have h_31 : ok L K (v z0 14) 5 := xf_12_14 hI hz
  have b_32 : v_20 z0 14 = v z0 14 := frE_use hz f_23 rfl
  have b_33 : v_20 (v z0 14) 5 = v (v z0 14) 5 := frE_use h_31 f_23 rfl
  have h_30 : v_20 (v_20 z0 14) 5 = g 66 := by rw [b_32, b_33]; exact htold
  have h_34 : rSub v_20 z0 a := rSub_x hI hz f_23 rfl (fun _ => rfl) hsub
  have h_35 : rNews v_20 z0 g a := rNews_x hI hz f_23 rfl (fun _ => rfl) (fun _ => rfl) (fun _ => rfl) (fun _ => rfl) (fun _ => rfl) rfl rfl rfl rfl rfl hnw
  have h_24 := xE_ok E_22 hz
  refine lv_pop hx hb dL_law_840 rfl ?_
  refine lv_aload_n hx hb dL_law_841 rfl (lv_at hl 1 rfl) ?_
  refine lv_aload_n hx hb dL_law_842 rfl (lv_at hl 3 rfl) ?_
  refine lv_iload_n hx hb dL_law_843 rfl (lv_at hl 0 rfl) ?_
  refine lv_iconst (v := iI 1) hx hb dL_law_844 rfl ?_
  refine xr_add hx hb dL_law_845 ?_
  refine va_sld hx hb hX9 hbl hbA hS (xvp (t := i + 1) (by omega) (by omega) hn) dL_law_846 ?_
  refine jt_i (iI p_1) h_2 ?_
  refine lv_aload_n hx hb dL_law_847 rfl (lv_at hl 3 rfl) ?_
  refine lv_iload_n hx hb dL_law_848 rfl (lv_at hl 0 rfl) ?_
  refine lv_iconst (v := iI 2) hx hb dL_law_849 rfl ?_
  refine xr_add hx hb dL_law_850 ?_
  refine va_sld hx hb hX9 hbl hbA hS (xvp (t := i + 2) (by omega) (by omega) hn) dL_law_851 ?_
  refine jt_i (iI p_4) h_5 ?_
  refine lv_aload_n hx hb dL_law_852 rfl (lv_at hl 3 rfl) ?_
  refine lv_iload_n hx hb dL_law_853 rfl (lv_at hl 0 rfl) ?_
  refine lv_iconst (v := iI 3) hx hb dL_law_854 rfl ?_
  refine xr_add hx hb dL_law_855 ?_
  refine va_sld hx hb hX9 hbl hbA hS (xvp (t := i + 3) (by omega) (by omega) hn) dL_law_856 ?_
  refine jt_i (iI p_7) h_8 ?_
  obtain ⟨hP, hD⟩ := lsw hP hD
  have hPm := jp_tail hP
  have hDm := jd_tail hD
  refine jct_i (va_runV (As := [.int (iI p_1), .int (iI p_4), .int (iI p_7)]) (rest := []) ⟨hx, hb, hml, hown, hts⟩ (sX13_hand l dC dI _ am cm g a p_1 p_4 p_7 hM r_3 r_6 r_9 hrSkill) (cwV 3 hts (jgoodVL m_1504 m_356 m_357 m_503 m_143) rfl rfl rfl (by decide +kernel) ⟨(Nat.le_of_ble_eq_true rfl), (Nat.le_of_ble_eq_true rfl)⟩) ⟨jw_blind, va_recv hKm hPm (ci := 13) (q0 := 0) rfl rfl, fun U hU hW => ⟨rfl, jw_of hU hW hPm hKm hDm⟩⟩ rfl rfl hl.1 rfl (lv_room (Nat.le_of_ble_eq_true rfl)) dL_law_857 ⟨(show nc + 1 + 0 ≤ 600000 by omega), (show ns + 6 + 0 ≤ 7302250 by omega)⟩) hP hD hS hA (fun r u_38 H locs w_37 hP hKm hD hS => ?_)
  obtain ⟨g_39, a_40⟩ := u_38
  obtain ⟨y_36, rfl, h_41, h_42, h_43, h_44, h_45, h_46⟩ := w_37
  have hP : va_P (dC, dI) vwCl (xG L_17 cid K_18 N_19 v_20 ++ mG am cm g_39 a_40) H := hP
  have hD : va_D (fun q : Nat => s.heap.size ≤ q) (xG L_17 cid K_18 N_19 v_20 ++ mG am cm g_39 a_40) := hD
  have h_41 : mI g_39 a_40 := h_41
  have h_46 : (y_36 = -1 ∧ g_39 50 = g 50 ∧ ((p_1 < 1 ∨ 255 < p_1 ∨ p_4 < 1 ∨ 20 < p_4 ∨ p_7 < (-40000) ∨ 0 < p_7) ∨ g 50 = 12)) ∨ (y_36 = g 50 ∧ g_39 50 = g 50 + 1 ∧ 1 ≤ p_1 ∧ p_1 ≤ 255 ∧ 1 ≤ p_4 ∧ p_4 ≤ 20 ∧ (-40000) ≤ p_7 ∧ p_7 ≤ 0 ∧ g 50 ≠ 12) := h_46
  have h_47 : rLine g_39 a_40 := rLine_t (h_42 56 (by decide)) (h_43 45 (by decide)) hrLine
  have h_48 : rLead g_39 a_40 := rLead_t (h_42 37 (by decide)) (h_43 27 (by decide)) (h_43 31 (by decide)) hrLead
  have h_49 : rSkill g_39 a_40 := h_45
  have h_50 : rSh g_39 a_40 := rSh_t (h_42 18 (by decide)) (h_42 26 (by decide)) (h_43 9 (by decide)) (h_43 10 (by decide)) (h_43 11 (by decide)) (h_43 12 (by decide)) (h_43 16 (by decide)) hrSh
  have h_51 : v_20 z0 0 = g_39 30 := h_25.trans (h_42 30 (by decide)).symm
  have b_53 := hM.1 50
  have b_53 : 0 ≤ g 50 ∧ g 50 ≤ 12 := b_53
  have h_52 : v_20 z0 11 = g_39 50 := by omega
  have h_54 : v_20 (v_20 z0 19) 1 = g_39 78 := h_26.trans (h_42 78 (by decide)).symm
  have h_55 : v_20 (v_20 z0 14) 5 = g_39 66 := h_30.trans (h_42 66 (by decide)).symm
  have h_56 : rSub v_20 z0 a_40 := rSub_m (h_43 60 (by decide)) h_34
  have h_57 : rHand v_20 z0 g_39 a_40 := by
    have i4 : 0 ≤ g 50 ∧ g 50 ≤ 12 := hM.1 50
    rcases (show x_10 = -1 ∨ x_10 ≠ -1 by omega) with q9 | q9
    · exact rHand_m (by omega) (h_43 41 (by decide)) (rHand_y hI hz f_23 rfl (f_14 q9) rfl hhd)
    · obtain ⟨q, q0, qn, q4, qe⟩ := f_15 q9
      exact rHand_new hI hz f_23 rfl rfl q0 qn q4 (fun i => by rw [← hhands]; exact qe i) (by omega) (by omega) (by omega) (h_43 41 (by decide)) hhd
  have h_58 : rNews v_20 z0 g_39 a_40 := rNews_m (h_42 66 (by decide)) (h_43 51 (by decide)) (h_43 52 (by decide)) (h_43 53 (by decide)) (h_43 54 (by decide)) h_35
  obtain ⟨hP, hD⟩ := lsw hP hD
  refine lv_pop hx hb dL_law_860 rfl ?_
  refine lv_goto (tgt := 1804) hx hb dL_law_861 (by decide) ?_
  exact kk L_17 K_18 N_19 v_20 g_39 a_40 _ _ H locs h_24 I_21 h_41 h_47 h_48 h_49 h_50 h_51 h_52 h_54 h_55 h_56 h_57 h_58 (by omega) (by omega) hP hD hS
