set_option maxHeartbeats 4000000 in
set_option maxRecDepth 100000 in
theorem lc_43 {p : Program} {l : Launch} {e : Env} {s : State} {m : MethodId} {below : List Frame} {meth : Method} {c : Code} {b n : Nat} {xs : Nat → Int32} (C0 : lw_At p s m meth c b n xs) (hn : n ≤ 3072) {dC : Nat → ClassId} {dI : Nat → Nat → Nat} {am : Nat → Nat} {cm cid : Nat → ClassId} {tW : Nat} {sK sV : Nat → Nat} (hXx : xX tW sK sV (fun q : Nat => s.heap.size ≤ q) s s.heap) (hKx : va_K (dC, dI) vwCl (xT cid) s) (hKm : va_K (dC, dI) vwCl (mT cm) s) {z0 : Int} {i : Int} (hi0 : 0 ≤ i) (hi : i + 6 ≤ n) {L : List Nat} {K : Int → Nat} {N : Int → Int} {v : Int → Int → Int} {g : Nat → Int} {a : Nat → Int → Int} (hz : ok L K z0 12) (hI : xI L K N v) (hM : mI g a) (hrLine : rLine g a) (hrLead : rLead g a) (hrSkill : rSkill g a) (hrSh : rSh g a) (hnow : v z0 0 = g 30) (hhands : v z0 11 = g 50) (hstolen : v (v z0 19) 1 = g 78) (htold : v (v z0 14) 5 = g 66) (hsize : v (v z0 2) 1 = g 1) (hsheets : v (v z0 3) 1 = g 18) (hsub : rSub v z0 a) (hhd : rHand v z0 g a) (hnw : rNews v z0 g a) (htx : rTxt v z0 g a) {nc ns : Nat} (hc : nc + 5 ≤ 600000) (hs : ns + 12100 ≤ 7302250) {H : Heap} {locs : List Loc} {ls : Array Slot} (hP : va_P (dC, dI) vwCl (mG am cm g a ++ xG L cid K N v) H) (hD : va_D (fun q : Nat => s.heap.size ≤ q) (mG am cm g a ++ xG L cid K N v)) (hS : va_S (fun q : Nat => s.heap.size ≤ q) s.heap H locs) (hl : lv_has ls 4 [(3, .int (iI i)), (2, .ref (am 0)), (1, .ref z0.toNat), (0, .ref b)])
    (kk : ∀ (L : List Nat) (K : Int → Nat) (N : Int → Int) (v : Int → Int → Int) (g : Nat → Int) (a : Nat → Int → Int) (nc1 ns1 : Nat) (H : Heap) (locs : List Loc), ok L K z0 12 → xI L K N v → mI g a → rLine g a → rLead g a → rSkill g a → rSh g a → v z0 0 = g 30 → v z0 11 = g 50 → v (v z0 19) 1 = g 78 → v (v z0 14) 5 = g 66 → v (v z0 2) 1 = g 1 → v (v z0 3) 1 = g 18 → rSub v z0 a → rHand v z0 g a → rNews v z0 g a → rTxt v z0 g a → nc1 ≤ nc + 5 → ns1 ≤ ns + 12100 → va_P (dC, dI) vwCl (mG am cm g a ++ xG L cid K N v) H → va_D (fun q : Nat => s.heap.size ≤ q) (mG am cm g a ++ xG L cid K N v) → va_S (fun q : Nat => s.heap.size ≤ q) s.heap H locs → W p l e room_1 s m #[Value.ref b] below meth c H locs nc1 ns1 (lw_Z below #[Value.ref b] s) (F0 m 1804 ls [])) : W p l e room_1 s m #[Value.ref b] below meth c H locs nc ns (lw_Z below #[Value.ref b] s) (F0 m 1679 ls []) := by
  obtain ⟨hx, hb, hr, hml, hown, hts, hX9, hbl, hlocks, hgv⟩ := id C0
  have hA : ∀ q : Nat, s.heap.size ≤ q → (fun q : Nat => s.heap.size ≤ q) q := fun _ h => h
  have hbA : ¬ (fun q : Nat => s.heap.size ≤ q) b := Nat.not_le.mpr hbl
  refine lv_aload_n hx hb dL_law_1679 rfl (lv_at hl 2 rfl) ?_
  refine lv_aload_n hx hb dL_law_1680 rfl (lv_at hl 3 rfl) ?_
  refine lv_iload_n hx hb dL_law_1681 rfl (lv_at hl 0 rfl) ?_
  refine lv_iconst (v := iI 1) hx hb dL_law_1682 rfl ?_
  refine xr_add hx hb dL_law_1683 ?_
  refine va_sld hx hb hX9 hbl hbA hS (xvp (t := i + 1) (by omega) (by omega) hn) dL_law_1684 ?_
  obtain ⟨p_1, h_2, r_3⟩ : ∃ y : Int, xs (iI (i + 1)).toNatClampNeg = iI y ∧ rg y := ⟨_, iI_of _, rg_of _⟩
  refine jt_i (iI p_1) h_2 ?_
  have hPx := jp_tail hP
  have hDx := jd_tail hD
  refine jct_i (va_runV (As := [.int (iI p_1)]) (rest := []) ⟨hx, hb, hml, hown, hts⟩ (sX12_steal l dC dI _ L cid K N tW sK sV v z0 p_1 hI hz r_3) (cwV 1 hts (jgoodVL m_1630 m_1631 m_1632 m_873 m_1633) rfl rfl rfl (by decide +kernel) ⟨(Nat.le_of_ble_eq_true rfl), (Nat.le_of_ble_eq_true rfl)⟩) ⟨xP_blind, xrecv hKx hPx hz rfl rfl, fun U hU hW => ⟨rfl, xP_of hU hW hPx hKx hDx hXx hS (fun _ h => h) hA⟩⟩ rfl rfl hl.1 rfl (lv_room (Nat.le_of_ble_eq_true rfl)) dL_law_1685 ⟨(show nc + 0 ≤ 600000 by omega), (show ns + 0 ≤ 7302250 by omega)⟩) hP hD hS hA (fun r v_8 H locs w_5 hP hKx hD hS => ?_)
  obtain ⟨x_4, rfl, I_9, f_10, f_6, f_7⟩ := w_5
  have hP : va_P (dC, dI) vwCl (mG am cm g a ++ xG L cid K N v_8) H := hP
  have hD : va_D (fun q : Nat => s.heap.size ≤ q) (mG am cm g a ++ xG L cid K N v_8) := hD
  have f_7 : (x_4 = -1 ∧ v_8 (v_8 z0 19) 1 = v (v z0 19) 1 ∧ (p_1 < 0 ∨ 999 < p_1 ∨ 30 ≤ v (v z0 19) 1)) ∨ (x_4 = v (v z0 19) 1 + 1 ∧ v_8 (v_8 z0 19) 1 = v (v z0 19) 1 + 1 ∧ 0 ≤ p_1 ∧ p_1 ≤ 999 ∧ v (v z0 19) 1 < 30) := f_7
  have h_11 : v_8 z0 0 = g 30 := (fr_use hz f_10 rfl).trans hnow
  have h_12 : v_8 z0 11 = g 50 := (fr_use hz f_10 rfl).trans hhands
  have h_14 : ok L K (v z0 14) 5 := xf_12_14 hI hz
  have b_15 : v_8 z0 14 = v z0 14 := fr_use hz f_10 rfl
  have b_16 : v_8 (v z0 14) 5 = v (v z0 14) 5 := fr_use h_14 f_10 rfl
  have h_13 : v_8 (v_8 z0 14) 5 = g 66 := by rw [b_15, b_16]; exact htold
  have h_18 : ok L K (v z0 2) 7 := xf_12_2 hI hz
  have b_19 : v_8 z0 2 = v z0 2 := fr_use hz f_10 rfl
  have b_20 : v_8 (v z0 2) 1 = v (v z0 2) 1 := fr_use h_18 f_10 rfl
  have h_17 : v_8 (v_8 z0 2) 1 = g 1 := by rw [b_19, b_20]; exact hsize
  have h_22 : ok L K (v z0 3) 8 := xf_12_3 hI hz
  have b_23 : v_8 z0 3 = v z0 3 := fr_use hz f_10 rfl
  have b_24 : v_8 (v z0 3) 1 = v (v z0 3) 1 := fr_use h_22 f_10 rfl
  have h_21 : v_8 (v_8 z0 3) 1 = g 18 := by rw [b_23, b_24]; exact hsheets
  have h_25 : rSub v_8 z0 a := rSub_x hI hz (frE_of f_10) rfl (fun _ => rfl) hsub
  have h_26 : rHand v_8 z0 g a := rHand_x hI hz (frE_of f_10) rfl (fun _ => rfl) rfl hhd
  have h_27 : rNews v_8 z0 g a := rNews_x hI hz (frE_of f_10) rfl (fun _ => rfl) (fun _ => rfl) (fun _ => rfl) (fun _ => rfl) (fun _ => rfl) rfl rfl rfl rfl rfl hnw
  have h_28 : rTxt v_8 z0 g a := rTxt_x hI hz (frE_of f_10) rfl rfl rfl (fun _ => rfl) htx
  refine lv_pop hx hb dL_law_1688 rfl ?_
  refine lv_aload_n hx hb dL_law_1689 rfl (lv_at hl 1 rfl) ?_
  refine lv_aload_n hx hb dL_law_1690 rfl (lv_at hl 3 rfl) ?_
  refine lv_iload_n hx hb dL_law_1691 rfl (lv_at hl 0 rfl) ?_
  refine lv_iconst (v := iI 1) hx hb dL_law_1692 rfl ?_
  refine xr_add hx hb dL_law_1693 ?_
  refine va_sld hx hb hX9 hbl hbA hS (xvp (t := i + 1) (by omega) (by omega) hn) dL_law_1694 ?_
  refine jt_i (iI p_1) h_2 ?_
  obtain ⟨hP, hD⟩ := lsw hP hD
  have hPm := jp_tail hP
  have hDm := jd_tail hD
  refine jct_i (va_runV (As := [.int (iI p_1)]) (rest := []) ⟨hx, hb, hml, hown, hts⟩ (sX13_steal l dC dI _ am cm g a p_1 hM r_3) (cwV 1 hts (jgoodVL m_1634 m_470 m_471 m_503 m_203) rfl rfl rfl (by decide +kernel) ⟨(Nat.le_of_ble_eq_true rfl), (Nat.le_of_ble_eq_true rfl)⟩) ⟨jw_blind, va_recv hKm hPm (ci := 13) (q0 := 0) rfl rfl, fun U hU hW => ⟨rfl, jw_of hU hW hPm hKm hDm⟩⟩ rfl rfl hl.1 rfl (lv_room (Nat.le_of_ble_eq_true rfl)) dL_law_1695 ⟨(show nc + 0 ≤ 600000 by omega), (show ns + 0 ≤ 7302250 by omega)⟩) hP hD hS hA (fun r u_31 H locs w_30 hP hKm hD hS => ?_)
  obtain ⟨g_32, a_33⟩ := u_31
  obtain ⟨y_29, rfl, h_34, h_35, h_36, h_37, h_38⟩ := w_30
  have hP : va_P (dC, dI) vwCl (xG L cid K N v_8 ++ mG am cm g_32 a_33) H := hP
  have hD : va_D (fun q : Nat => s.heap.size ≤ q) (xG L cid K N v_8 ++ mG am cm g_32 a_33) := hD
  have h_34 : mI g_32 a_33 := h_34
  have h_38 : (y_29 = -1 ∧ g_32 78 = g 78 ∧ (p_1 < 0 ∨ 999 < p_1 ∨ g 78 = 30)) ∨ (y_29 = g 78 + 1 ∧ g_32 78 = g 78 + 1 ∧ 0 ≤ p_1 ∧ p_1 ≤ 999 ∧ g 78 ≠ 30) := h_38
  have h_39 : rLine g_32 a_33 := rLine_t (h_35 56 (by decide)) (h_36 45 (by decide)) hrLine
  have h_40 : rLead g_32 a_33 := rLead_t (h_35 37 (by decide)) (h_36 27 (by decide)) (h_36 31 (by decide)) hrLead
  have h_41 : rSkill g_32 a_33 := rSkill_t (h_35 50 (by decide)) (h_36 38 (by decide)) hrSkill
  have h_42 : rSh g_32 a_33 := rSh_t (h_35 18 (by decide)) (h_35 26 (by decide)) (h_36 9 (by decide)) (h_36 10 (by decide)) (h_36 11 (by decide)) (h_36 12 (by decide)) (h_36 16 (by decide)) hrSh
  have h_43 : v_8 z0 0 = g_32 30 := h_11.trans (h_35 30 (by decide)).symm
  have h_44 : v_8 z0 11 = g_32 50 := h_12.trans (h_35 50 (by decide)).symm
  have b_46 := hM.1 78
  have b_46 : 0 ≤ g 78 ∧ g 78 ≤ 30 := b_46
  have h_45 : v_8 (v_8 z0 19) 1 = g_32 78 := by omega
  have h_47 : v_8 (v_8 z0 14) 5 = g_32 66 := h_13.trans (h_35 66 (by decide)).symm
  have h_48 : v_8 (v_8 z0 2) 1 = g_32 1 := h_17.trans (h_35 1 (by decide)).symm
  have h_49 : v_8 (v_8 z0 3) 1 = g_32 18 := h_21.trans (h_35 18 (by decide)).symm
  have h_50 : rSub v_8 z0 a_33 := rSub_m (h_36 60 (by decide)) h_25
  have h_51 : rHand v_8 z0 g_32 a_33 := rHand_m (h_35 50 (by decide)) (h_36 41 (by decide)) h_26
  have h_52 : rNews v_8 z0 g_32 a_33 := rNews_m (h_35 66 (by decide)) (h_36 51 (by decide)) (h_36 52 (by decide)) (h_36 53 (by decide)) (h_36 54 (by decide)) h_27
  have h_53 : rTxt v_8 z0 g_32 a_33 := rTxt_m (h_35 1 (by decide)) (h_36 1 (by decide)) h_28
  obtain ⟨hP, hD⟩ := lsw hP hD
  refine lv_pop hx hb dL_law_1698 rfl ?_
  refine lv_goto (tgt := 1804) hx hb dL_law_1699 (by decide) ?_
  exact kk L K N v_8 g_32 a_33 _ _ H locs hz I_9 h_34 h_39 h_40 h_41 h_42 h_43 h_44 h_45 h_47 h_48 h_49 h_50 h_51 h_52 h_53 (by omega) (by omega) hP hD hS
set_option maxHeartbeats 4000000 in
set_option maxRecDepth 100000 in
theorem lc_44 {p : Program} {l : Launch} {e : Env} {s : State} {m : MethodId} {below : List Frame} {meth : Method} {c : Code} {b n : Nat} {xs : Nat → Int32} (C0 : lw_At p s m meth c b n xs) (hn : n ≤ 3072) {dC : Nat → ClassId} {dI : Nat → Nat → Nat} {am : Nat → Nat} {cm cid : Nat → ClassId} {tW : Nat} {sK sV : Nat → Nat} (hXx : xX tW sK sV (fun q : Nat => s.heap.size ≤ q) s s.heap) (hKx : va_K (dC, dI) vwCl (xT cid) s) (hKm : va_K (dC, dI) vwCl (mT cm) s) {z0 : Int} {i : Int} (hi0 : 0 ≤ i) (hi : i + 6 ≤ n) {L : List Nat} {K : Int → Nat} {N : Int → Int} {v : Int → Int → Int} {g : Nat → Int} {a : Nat → Int → Int} (hz : ok L K z0 12) (hI : xI L K N v) (hM : mI g a) (hrLine : rLine g a) (hrLead : rLead g a) (hrSkill : rSkill g a) (hrSh : rSh g a) (hnow : v z0 0 = g 30) (hhands : v z0 11 = g 50) (hstolen : v (v z0 19) 1 = g 78) (htold : v (v z0 14) 5 = g 66) (hsize : v (v z0 2) 1 = g 1) (hsheets : v (v z0 3) 1 = g 18) (hsub : rSub v z0 a) (hhd : rHand v z0 g a) (hnw : rNews v z0 g a) (htx : rTxt v z0 g a) {nc ns : Nat} (hc : nc + 5 ≤ 600000) (hs : ns + 12100 ≤ 7302250) {H : Heap} {locs : List Loc} {ls : Array Slot} (hP : va_P (dC, dI) vwCl (mG am cm g a ++ xG L cid K N v) H) (hD : va_D (fun q : Nat => s.heap.size ≤ q) (mG am cm g a ++ xG L cid K N v)) (hS : va_S (fun q : Nat => s.heap.size ≤ q) s.heap H locs) (hl : lv_has ls 4 [(3, .int (iI i)), (2, .ref (am 0)), (1, .ref z0.toNat), (0, .ref b)])
    (kk : ∀ (L : List Nat) (K : Int → Nat) (N : Int → Int) (v : Int → Int → Int) (g : Nat → Int) (a : Nat → Int → Int) (nc1 ns1 : Nat) (H : Heap) (locs : List Loc), ok L K z0 12 → xI L K N v → mI g a → rLine g a → rLead g a → rSkill g a → rSh g a → v z0 0 = g 30 → v z0 11 = g 50 → v (v z0 19) 1 = g 78 → v (v z0 14) 5 = g 66 → v (v z0 2) 1 = g 1 → v (v z0 3) 1 = g 18 → rSub v z0 a → rHand v z0 g a → rNews v z0 g a → rTxt v z0 g a → nc1 ≤ nc + 5 → ns1 ≤ ns + 12100 → va_P (dC, dI) vwCl (mG am cm g a ++ xG L cid K N v) H → va_D (fun q : Nat => s.heap.size ≤ q) (mG am cm g a ++ xG L cid K N v) → va_S (fun q : Nat => s.heap.size ≤ q) s.heap H locs → W p l e room_1 s m #[Value.ref b] below meth c H locs nc1 ns1 (lw_Z below #[Value.ref b] s) (F0 m 1804 ls [])) : W p l e room_1 s m #[Value.ref b] below meth c H locs nc ns (lw_Z below #[Value.ref b] s) (F0 m 1702 ls []) := by
  obtain ⟨hx, hb, hr, hml, hown, hts, hX9, hbl, hlocks, hgv⟩ := id C0
  have hA : ∀ q : Nat, s.heap.size ≤ q → (fun q : Nat => s.heap.size ≤ q) q := fun _ h => h
  have hbA : ¬ (fun q : Nat => s.heap.size ≤ q) b := Nat.not_le.mpr hbl
  refine lv_aload_n hx hb dL_law_1702 rfl (lv_at hl 2 rfl) ?_
  have hPx := jp_tail hP
  have hDx := jd_tail hD
  refine jct_i (va_runV (As := []) (rest := []) ⟨hx, hb, hml, hown, hts⟩ (sX12_forget l dC dI _ L cid K N tW sK sV v z0 hI hz) (cwV 0 hts (jgoodVL m_1635 m_1636 m_1637 m_873 m_1638) rfl rfl rfl (by decide +kernel) ⟨(Nat.le_of_ble_eq_true rfl), (Nat.le_of_ble_eq_true rfl)⟩) ⟨xP_blind, xrecv hKx hPx hz rfl rfl, fun U hU hW => ⟨rfl, xP_of hU hW hPx hKx hDx hXx hS (fun _ h => h) hA⟩⟩ rfl rfl hl.1 rfl (lv_room (Nat.le_of_ble_eq_true rfl)) dL_law_1703 ⟨(show nc + 0 ≤ 600000 by omega), (show ns + 0 ≤ 7302250 by omega)⟩) hP hD hS hA (fun r v_5 H locs w_2 hP hKx hD hS => ?_)
  obtain ⟨x_1, rfl, I_6, f_7, f_3, f_4⟩ := w_2
  have hP : va_P (dC, dI) vwCl (mG am cm g a ++ xG L cid K N v_5) H := hP
  have hD : va_D (fun q : Nat => s.heap.size ≤ q) (mG am cm g a ++ xG L cid K N v_5) := hD
  have f_4 : x_1 = v (v z0 19) 1 ∧ v_5 (v_5 z0 19) 1 = 0 := f_4
  have h_8 : v_5 z0 0 = g 30 := (fr_use hz f_7 rfl).trans hnow
  have h_9 : v_5 z0 11 = g 50 := (fr_use hz f_7 rfl).trans hhands
  have h_11 : ok L K (v z0 14) 5 := xf_12_14 hI hz
  have b_12 : v_5 z0 14 = v z0 14 := fr_use hz f_7 rfl
  have b_13 : v_5 (v z0 14) 5 = v (v z0 14) 5 := fr_use h_11 f_7 rfl
  have h_10 : v_5 (v_5 z0 14) 5 = g 66 := by rw [b_12, b_13]; exact htold
  have h_15 : ok L K (v z0 2) 7 := xf_12_2 hI hz
  have b_16 : v_5 z0 2 = v z0 2 := fr_use hz f_7 rfl
  have b_17 : v_5 (v z0 2) 1 = v (v z0 2) 1 := fr_use h_15 f_7 rfl
  have h_14 : v_5 (v_5 z0 2) 1 = g 1 := by rw [b_16, b_17]; exact hsize
  have h_19 : ok L K (v z0 3) 8 := xf_12_3 hI hz
  have b_20 : v_5 z0 3 = v z0 3 := fr_use hz f_7 rfl
  have b_21 : v_5 (v z0 3) 1 = v (v z0 3) 1 := fr_use h_19 f_7 rfl
  have h_18 : v_5 (v_5 z0 3) 1 = g 18 := by rw [b_20, b_21]; exact hsheets
  have h_22 : rSub v_5 z0 a := rSub_x hI hz (frE_of f_7) rfl (fun _ => rfl) hsub
  have h_23 : rHand v_5 z0 g a := rHand_x hI hz (frE_of f_7) rfl (fun _ => rfl) rfl hhd
  have h_24 : rNews v_5 z0 g a := rNews_x hI hz (frE_of f_7) rfl (fun _ => rfl) (fun _ => rfl) (fun _ => rfl) (fun _ => rfl) (fun _ => rfl) rfl rfl rfl rfl rfl hnw
  have h_25 : rTxt v_5 z0 g a := rTxt_x hI hz (frE_of f_7) rfl rfl rfl (fun _ => rfl) htx
  refine lv_pop hx hb dL_law_1706 rfl ?_
  refine lv_aload_n hx hb dL_law_1707 rfl (lv_at hl 1 rfl) ?_
  obtain ⟨hP, hD⟩ := lsw hP hD
  have hPm := jp_tail hP
  have hDm := jd_tail hD
  refine jct_i (va_runV (As := []) (rest := []) ⟨hx, hb, hml, hown, hts⟩ (sX13_forget l dC dI _ am cm g a hM) (cwV 0 hts (jgoodVL m_1639 m_344 m_345 m_503 m_137) rfl rfl rfl (by decide +kernel) ⟨(Nat.le_of_ble_eq_true rfl), (Nat.le_of_ble_eq_true rfl)⟩) ⟨jw_blind, va_recv hKm hPm (ci := 13) (q0 := 0) rfl rfl, fun U hU hW => ⟨rfl, jw_of hU hW hPm hKm hDm⟩⟩ rfl rfl hl.1 rfl (lv_room (Nat.le_of_ble_eq_true rfl)) dL_law_1708 ⟨(show nc + 0 ≤ 600000 by omega), (show ns + 0 ≤ 7302250 by omega)⟩) hP hD hS hA (fun r u_28 H locs w_27 hP hKm hD hS => ?_)
  obtain ⟨g_29, a_30⟩ := u_28
  obtain ⟨y_26, rfl, h_31, h_32, h_33, h_34, h_35⟩ := w_27
  have hP : va_P (dC, dI) vwCl (xG L cid K N v_5 ++ mG am cm g_29 a_30) H := hP
  have hD : va_D (fun q : Nat => s.heap.size ≤ q) (xG L cid K N v_5 ++ mG am cm g_29 a_30) := hD
  have h_31 : mI g_29 a_30 := h_31
  have h_35 : y_26 = g 78 ∧ g_29 78 = 0 := h_35
  have h_36 : rLine g_29 a_30 := rLine_t (h_32 56 (by decide)) (h_33 45 (by decide)) hrLine
  have h_37 : rLead g_29 a_30 := rLead_t (h_32 37 (by decide)) (h_33 27 (by decide)) (h_33 31 (by decide)) hrLead
  have h_38 : rSkill g_29 a_30 := rSkill_t (h_32 50 (by decide)) (h_33 38 (by decide)) hrSkill
  have h_39 : rSh g_29 a_30 := rSh_t (h_32 18 (by decide)) (h_32 26 (by decide)) (h_33 9 (by decide)) (h_33 10 (by decide)) (h_33 11 (by decide)) (h_33 12 (by decide)) (h_33 16 (by decide)) hrSh
  have h_40 : v_5 z0 0 = g_29 30 := h_8.trans (h_32 30 (by decide)).symm
  have h_41 : v_5 z0 11 = g_29 50 := h_9.trans (h_32 50 (by decide)).symm
  have b_43 := hM.1 78
  have b_43 : 0 ≤ g 78 ∧ g 78 ≤ 30 := b_43
  have h_42 : v_5 (v_5 z0 19) 1 = g_29 78 := by omega
  have h_44 : v_5 (v_5 z0 14) 5 = g_29 66 := h_10.trans (h_32 66 (by decide)).symm
  have h_45 : v_5 (v_5 z0 2) 1 = g_29 1 := h_14.trans (h_32 1 (by decide)).symm
  have h_46 : v_5 (v_5 z0 3) 1 = g_29 18 := h_18.trans (h_32 18 (by decide)).symm
  have h_47 : rSub v_5 z0 a_30 := rSub_m (h_33 60 (by decide)) h_22
  have h_48 : rHand v_5 z0 g_29 a_30 := rHand_m (h_32 50 (by decide)) (h_33 41 (by decide)) h_23
  have h_49 : rNews v_5 z0 g_29 a_30 := rNews_m (h_32 66 (by decide)) (h_33 51 (by decide)) (h_33 52 (by decide)) (h_33 53 (by decide)) (h_33 54 (by decide)) h_24
  have h_50 : rTxt v_5 z0 g_29 a_30 := rTxt_m (h_32 1 (by decide)) (h_33 1 (by decide)) h_25
  obtain ⟨hP, hD⟩ := lsw hP hD
  refine lv_pop hx hb dL_law_1711 rfl ?_
  refine lv_goto (tgt := 1804) hx hb dL_law_1712 (by decide) ?_
  exact kk L K N v_5 g_29 a_30 _ _ H locs hz I_6 h_31 h_36 h_37 h_38 h_39 h_40 h_41 h_42 h_44 h_45 h_46 h_47 h_48 h_49 h_50 (by omega) (by omega) hP hD hS
set_option maxHeartbeats 4000000 in
set_option maxRecDepth 100000 in
theorem lc_45 {p : Program} {l : Launch} {e : Env} {s : State} {m : MethodId} {below : List Frame} {meth : Method} {c : Code} {b n : Nat} {xs : Nat → Int32} (C0 : lw_At p s m meth c b n xs) (hn : n ≤ 3072) {dC : Nat → ClassId} {dI : Nat → Nat → Nat} {am : Nat → Nat} {cm cid : Nat → ClassId} {tW : Nat} {sK sV : Nat → Nat} (hXx : xX tW sK sV (fun q : Nat => s.heap.size ≤ q) s s.heap) (hKx : va_K (dC, dI) vwCl (xT cid) s) (hKm : va_K (dC, dI) vwCl (mT cm) s) {z0 : Int} {i : Int} (hi0 : 0 ≤ i) (hi : i + 6 ≤ n) {L : List Nat} {K : Int → Nat} {N : Int → Int} {v : Int → Int → Int} {g : Nat → Int} {a : Nat → Int → Int} (hz : ok L K z0 12) (hI : xI L K N v) (hM : mI g a) (hrLine : rLine g a) (hrLead : rLead g a) (hrSkill : rSkill g a) (hrSh : rSh g a) (hnow : v z0 0 = g 30) (hhands : v z0 11 = g 50) (hstolen : v (v z0 19) 1 = g 78) (htold : v (v z0 14) 5 = g 66) (hsize : v (v z0 2) 1 = g 1) (hsheets : v (v z0 3) 1 = g 18) (hsub : rSub v z0 a) (hhd : rHand v z0 g a) (hnw : rNews v z0 g a) (htx : rTxt v z0 g a) {nc ns : Nat} (hc : nc + 5 ≤ 600000) (hs : ns + 12100 ≤ 7302250) {H : Heap} {locs : List Loc} {ls : Array Slot} (hP : va_P (dC, dI) vwCl (mG am cm g a ++ xG L cid K N v) H) (hD : va_D (fun q : Nat => s.heap.size ≤ q) (mG am cm g a ++ xG L cid K N v)) (hS : va_S (fun q : Nat => s.heap.size ≤ q) s.heap H locs) (hl : lv_has ls 4 [(3, .int (iI i)), (2, .ref (am 0)), (1, .ref z0.toNat), (0, .ref b)])
    (kk : ∀ (L : List Nat) (K : Int → Nat) (N : Int → Int) (v : Int → Int → Int) (g : Nat → Int) (a : Nat → Int → Int) (nc1 ns1 : Nat) (H : Heap) (locs : List Loc), ok L K z0 12 → xI L K N v → mI g a → rLine g a → rLead g a → rSkill g a → rSh g a → v z0 0 = g 30 → v z0 11 = g 50 → v (v z0 19) 1 = g 78 → v (v z0 14) 5 = g 66 → v (v z0 2) 1 = g 1 → v (v z0 3) 1 = g 18 → rSub v z0 a → rHand v z0 g a → rNews v z0 g a → rTxt v z0 g a → nc1 ≤ nc + 5 → ns1 ≤ ns + 12100 → va_P (dC, dI) vwCl (mG am cm g a ++ xG L cid K N v) H → va_D (fun q : Nat => s.heap.size ≤ q) (mG am cm g a ++ xG L cid K N v) → va_S (fun q : Nat => s.heap.size ≤ q) s.heap H locs → W p l e room_1 s m #[Value.ref b] below meth c H locs nc1 ns1 (lw_Z below #[Value.ref b] s) (F0 m 1804 ls [])) : W p l e room_1 s m #[Value.ref b] below meth c H locs nc ns (lw_Z below #[Value.ref b] s) (F0 m 1715 ls []) := by
  obtain ⟨hx, hb, hr, hml, hown, hts, hX9, hbl, hlocks, hgv⟩ := id C0
  have hA : ∀ q : Nat, s.heap.size ≤ q → (fun q : Nat => s.heap.size ≤ q) q := fun _ h => h
  have hbA : ¬ (fun q : Nat => s.heap.size ≤ q) b := Nat.not_le.mpr hbl
  refine lv_aload_n hx hb dL_law_1715 rfl (lv_at hl 2 rfl) ?_
  refine lv_aload_n hx hb dL_law_1716 rfl (lv_at hl 3 rfl) ?_
  refine lv_iload_n hx hb dL_law_1717 rfl (lv_at hl 0 rfl) ?_
  refine lv_iconst (v := iI 1) hx hb dL_law_1718 rfl ?_
  refine xr_add hx hb dL_law_1719 ?_
  refine va_sld hx hb hX9 hbl hbA hS (xvp (t := i + 1) (by omega) (by omega) hn) dL_law_1720 ?_
  obtain ⟨p_1, h_2, r_3⟩ : ∃ y : Int, xs (iI (i + 1)).toNatClampNeg = iI y ∧ rg y := ⟨_, iI_of _, rg_of _⟩
  refine jt_i (iI p_1) h_2 ?_
  refine lv_aload_n hx hb dL_law_1721 rfl (lv_at hl 3 rfl) ?_
  refine lv_iload_n hx hb dL_law_1722 rfl (lv_at hl 0 rfl) ?_
  refine lv_iconst (v := iI 2) hx hb dL_law_1723 rfl ?_
  refine xr_add hx hb dL_law_1724 ?_
  refine va_sld hx hb hX9 hbl hbA hS (xvp (t := i + 2) (by omega) (by omega) hn) dL_law_1725 ?_
  obtain ⟨p_4, h_5, r_6⟩ : ∃ y : Int, xs (iI (i + 2)).toNatClampNeg = iI y ∧ rg y := ⟨_, iI_of _, rg_of _⟩
  refine jt_i (iI p_4) h_5 ?_
  have hPx := jp_tail hP
  have hDx := jd_tail hD
  refine jct_i (va_runV (As := [.int (iI p_1), .int (iI p_4)]) (rest := []) ⟨hx, hb, hml, hown, hts⟩ (sX12_thief l dC dI _ L cid K N tW sK sV v z0 p_1 p_4 hI hz r_3 r_6) (cwV 2 hts (jgoodVL m_1640 m_1641 m_1642 m_873 m_1643) rfl rfl rfl (by decide +kernel) ⟨(Nat.le_of_ble_eq_true rfl), (Nat.le_of_ble_eq_true rfl)⟩) ⟨xP_blind, xrecv hKx hPx hz rfl rfl, fun U hU hW => ⟨rfl, xP_of hU hW hPx hKx hDx hXx hS (fun _ h => h) hA⟩⟩ rfl rfl hl.1 rfl (lv_room (Nat.le_of_ble_eq_true rfl)) dL_law_1726 ⟨(show nc + 0 ≤ 600000 by omega), (show ns + 0 ≤ 7302250 by omega)⟩) hP hD hS hA (fun r v_10 H locs w_8 hP hKx hD hS => ?_)
  obtain ⟨x_7, rfl, I_11, f_12, f_9⟩ := w_8
  have hP : va_P (dC, dI) vwCl (mG am cm g a ++ xG L cid K N v_10) H := hP
  have hD : va_D (fun q : Nat => s.heap.size ≤ q) (mG am cm g a ++ xG L cid K N v_10) := hD
  have h_13 : v_10 z0 0 = g 30 := (fr_use hz f_12 rfl).trans hnow
  have h_14 : v_10 z0 11 = g 50 := (fr_use hz f_12 rfl).trans hhands
  have h_16 : ok L K (v z0 19) 10 := xf_12_19 hI hz
  have b_17 : v_10 z0 19 = v z0 19 := fr_use hz f_12 rfl
  have b_18 : v_10 (v z0 19) 1 = v (v z0 19) 1 := fr_use h_16 f_12 rfl
  have h_15 : v_10 (v_10 z0 19) 1 = g 78 := by rw [b_17, b_18]; exact hstolen
  have h_20 : ok L K (v z0 14) 5 := xf_12_14 hI hz
  have b_21 : v_10 z0 14 = v z0 14 := fr_use hz f_12 rfl
  have b_22 : v_10 (v z0 14) 5 = v (v z0 14) 5 := fr_use h_20 f_12 rfl
  have h_19 : v_10 (v_10 z0 14) 5 = g 66 := by rw [b_21, b_22]; exact htold
  have h_24 : ok L K (v z0 2) 7 := xf_12_2 hI hz
  have b_25 : v_10 z0 2 = v z0 2 := fr_use hz f_12 rfl
  have b_26 : v_10 (v z0 2) 1 = v (v z0 2) 1 := fr_use h_24 f_12 rfl
  have h_23 : v_10 (v_10 z0 2) 1 = g 1 := by rw [b_25, b_26]; exact hsize
  have h_28 : ok L K (v z0 3) 8 := xf_12_3 hI hz
  have b_29 : v_10 z0 3 = v z0 3 := fr_use hz f_12 rfl
  have b_30 : v_10 (v z0 3) 1 = v (v z0 3) 1 := fr_use h_28 f_12 rfl
  have h_27 : v_10 (v_10 z0 3) 1 = g 18 := by rw [b_29, b_30]; exact hsheets
  have h_31 : rSub v_10 z0 a := rSub_x hI hz (frE_of f_12) rfl (fun _ => rfl) hsub
  have h_32 : rHand v_10 z0 g a := rHand_x hI hz (frE_of f_12) rfl (fun _ => rfl) rfl hhd
  have h_33 : rNews v_10 z0 g a := rNews_x hI hz (frE_of f_12) rfl (fun _ => rfl) (fun _ => rfl) (fun _ => rfl) (fun _ => rfl) (fun _ => rfl) rfl rfl rfl rfl rfl hnw
  have h_34 : rTxt v_10 z0 g a := rTxt_x hI hz (frE_of f_12) rfl rfl rfl (fun _ => rfl) htx
  refine lv_pop hx hb dL_law_1729 rfl ?_
  refine lv_aload_n hx hb dL_law_1730 rfl (lv_at hl 1 rfl) ?_
  refine lv_aload_n hx hb dL_law_1731 rfl (lv_at hl 3 rfl) ?_
  refine lv_iload_n hx hb dL_law_1732 rfl (lv_at hl 0 rfl) ?_
  refine lv_iconst (v := iI 1) hx hb dL_law_1733 rfl ?_
  refine xr_add hx hb dL_law_1734 ?_
  refine va_sld hx hb hX9 hbl hbA hS (xvp (t := i + 1) (by omega) (by omega) hn) dL_law_1735 ?_
  refine jt_i (iI p_1) h_2 ?_
  refine lv_aload_n hx hb dL_law_1736 rfl (lv_at hl 3 rfl) ?_
  refine lv_iload_n hx hb dL_law_1737 rfl (lv_at hl 0 rfl) ?_
  refine lv_iconst (v := iI 2) hx hb dL_law_1738 rfl ?_
  refine xr_add hx hb dL_law_1739 ?_
  refine va_sld hx hb hX9 hbl hbA hS (xvp (t := i + 2) (by omega) (by omega) hn) dL_law_1740 ?_
  refine jt_i (iI p_4) h_5 ?_
  obtain ⟨hP, hD⟩ := lsw hP hD
  have hPm := jp_tail hP
  have hDm := jd_tail hD
  refine jct_i (va_runV (As := [.int (iI p_1), .int (iI p_4)]) (rest := []) ⟨hx, hb, hml, hown, hts⟩ (sX13_thief l dC dI _ am cm g a p_1 p_4 hM r_3 r_6) (cwV 2 hts (jgoodVL m_1644 m_486 m_487 m_503 m_211) rfl rfl rfl (by decide +kernel) ⟨(Nat.le_of_ble_eq_true rfl), (Nat.le_of_ble_eq_true rfl)⟩) ⟨jw_blind, va_recv hKm hPm (ci := 13) (q0 := 0) rfl rfl, fun U hU hW => ⟨rfl, jw_of hU hW hPm hKm hDm⟩⟩ rfl rfl hl.1 rfl (lv_room (Nat.le_of_ble_eq_true rfl)) dL_law_1741 ⟨(show nc + 0 ≤ 600000 by omega), (show ns + 0 ≤ 7302250 by omega)⟩) hP hD hS hA (fun r u_37 H locs w_36 hP hKm hD hS => ?_)
  obtain ⟨g_38, a_39⟩ := u_37
  obtain ⟨y_35, rfl, h_40, h_41, h_42, h_43⟩ := w_36
  have hP : va_P (dC, dI) vwCl (xG L cid K N v_10 ++ mG am cm g_38 a_39) H := hP
  have hD : va_D (fun q : Nat => s.heap.size ≤ q) (xG L cid K N v_10 ++ mG am cm g_38 a_39) := hD
  have h_40 : g_38 = g := h_40
  have h_41 : mI g_38 a_39 := h_41
  have h_44 : rLine g_38 a_39 := rLine_t (congrFun h_40 56) (h_42 45 (by decide)) hrLine
  have h_45 : rLead g_38 a_39 := rLead_t (congrFun h_40 37) (h_42 27 (by decide)) (h_42 31 (by decide)) hrLead
  have h_46 : rSkill g_38 a_39 := rSkill_t (congrFun h_40 50) (h_42 38 (by decide)) hrSkill
  have h_47 : rSh g_38 a_39 := rSh_t (congrFun h_40 18) (congrFun h_40 26) (h_42 9 (by decide)) (h_42 10 (by decide)) (h_42 11 (by decide)) (h_42 12 (by decide)) (h_42 16 (by decide)) hrSh
  have h_48 : v_10 z0 0 = g_38 30 := h_13.trans (congrFun h_40 30).symm
  have h_49 : v_10 z0 11 = g_38 50 := h_14.trans (congrFun h_40 50).symm
  have h_50 : v_10 (v_10 z0 19) 1 = g_38 78 := h_15.trans (congrFun h_40 78).symm
  have h_51 : v_10 (v_10 z0 14) 5 = g_38 66 := h_19.trans (congrFun h_40 66).symm
  have h_52 : v_10 (v_10 z0 2) 1 = g_38 1 := h_23.trans (congrFun h_40 1).symm
  have h_53 : v_10 (v_10 z0 3) 1 = g_38 18 := h_27.trans (congrFun h_40 18).symm
  have h_54 : rSub v_10 z0 a_39 := rSub_m (h_42 60 (by decide)) h_31
  have h_55 : rHand v_10 z0 g_38 a_39 := rHand_m (congrFun h_40 50) (h_42 41 (by decide)) h_32
  have h_56 : rNews v_10 z0 g_38 a_39 := rNews_m (congrFun h_40 66) (h_42 51 (by decide)) (h_42 52 (by decide)) (h_42 53 (by decide)) (h_42 54 (by decide)) h_33
  have h_57 : rTxt v_10 z0 g_38 a_39 := rTxt_m (congrFun h_40 1) (h_42 1 (by decide)) h_34
  obtain ⟨hP, hD⟩ := lsw hP hD
  refine lv_pop hx hb dL_law_1744 rfl ?_
  refine lv_goto (tgt := 1804) hx hb dL_law_1745 (by decide) ?_
  exact kk L K N v_10 g_38 a_39 _ _ H locs hz I_11 h_41 h_44 h_45 h_46 h_47 h_48 h_49 h_50 h_51 h_52 h_53 h_54 h_55 h_56 h_57 (by omega) (by omega) hP hD hS
set_option maxHeartbeats 4000000 in
set_option maxRecDepth 100000 in
theorem lc_46 {p : Program} {l : Launch} {e : Env} {s : State} {m : MethodId} {below : List Frame} {meth : Method} {c : Code} {b n : Nat} {xs : Nat → Int32} (C0 : lw_At p s m meth c b n xs) (hn : n ≤ 3072) {dC : Nat → ClassId} {dI : Nat → Nat → Nat} {am : Nat → Nat} {cm cid : Nat → ClassId} {tW : Nat} {sK sV : Nat → Nat} (hXx : xX tW sK sV (fun q : Nat => s.heap.size ≤ q) s s.heap) (hKx : va_K (dC, dI) vwCl (xT cid) s) (hKm : va_K (dC, dI) vwCl (mT cm) s) {z0 : Int} {i : Int} (hi0 : 0 ≤ i) (hi : i + 6 ≤ n) {L : List Nat} {K : Int → Nat} {N : Int → Int} {v : Int → Int → Int} {g : Nat → Int} {a : Nat → Int → Int} (hz : ok L K z0 12) (hI : xI L K N v) (hM : mI g a) (hrLine : rLine g a) (hrLead : rLead g a) (hrSkill : rSkill g a) (hrSh : rSh g a) (hnow : v z0 0 = g 30) (hhands : v z0 11 = g 50) (hstolen : v (v z0 19) 1 = g 78) (htold : v (v z0 14) 5 = g 66) (hsize : v (v z0 2) 1 = g 1) (hsheets : v (v z0 3) 1 = g 18) (hsub : rSub v z0 a) (hhd : rHand v z0 g a) (hnw : rNews v z0 g a) (htx : rTxt v z0 g a) {nc ns : Nat} (hc : nc + 5 ≤ 600000) (hs : ns + 12100 ≤ 7302250) {H : Heap} {locs : List Loc} {ls : Array Slot} (hP : va_P (dC, dI) vwCl (mG am cm g a ++ xG L cid K N v) H) (hD : va_D (fun q : Nat => s.heap.size ≤ q) (mG am cm g a ++ xG L cid K N v)) (hS : va_S (fun q : Nat => s.heap.size ≤ q) s.heap H locs) (hl : lv_has ls 4 [(3, .int (iI i)), (2, .ref (am 0)), (1, .ref z0.toNat), (0, .ref b)])
    (kk : ∀ (L : List Nat) (K : Int → Nat) (N : Int → Int) (v : Int → Int → Int) (g : Nat → Int) (a : Nat → Int → Int) (nc1 ns1 : Nat) (H : Heap) (locs : List Loc), ok L K z0 12 → xI L K N v → mI g a → rLine g a → rLead g a → rSkill g a → rSh g a → v z0 0 = g 30 → v z0 11 = g 50 → v (v z0 19) 1 = g 78 → v (v z0 14) 5 = g 66 → v (v z0 2) 1 = g 1 → v (v z0 3) 1 = g 18 → rSub v z0 a → rHand v z0 g a → rNews v z0 g a → rTxt v z0 g a → nc1 ≤ nc + 5 → ns1 ≤ ns + 12100 → va_P (dC, dI) vwCl (mG am cm g a ++ xG L cid K N v) H → va_D (fun q : Nat => s.heap.size ≤ q) (mG am cm g a ++ xG L cid K N v) → va_S (fun q : Nat => s.heap.size ≤ q) s.heap H locs → W p l e room_1 s m #[Value.ref b] below meth c H locs nc1 ns1 (lw_Z below #[Value.ref b] s) (F0 m 1804 ls [])) : W p l e room_1 s m #[Value.ref b] below meth c H locs nc ns (lw_Z below #[Value.ref b] s) (F0 m 1748 ls []) := by
  obtain ⟨hx, hb, hr, hml, hown, hts, hX9, hbl, hlocks, hgv⟩ := id C0
  have hA : ∀ q : Nat, s.heap.size ≤ q → (fun q : Nat => s.heap.size ≤ q) q := fun _ h => h
  have hbA : ¬ (fun q : Nat => s.heap.size ≤ q) b := Nat.not_le.mpr hbl
  refine lv_aload_n hx hb dL_law_1748 rfl (lv_at hl 2 rfl) ?_
  refine lv_aload_n hx hb dL_law_1749 rfl (lv_at hl 3 rfl) ?_
  refine lv_iload_n hx hb dL_law_1750 rfl (lv_at hl 0 rfl) ?_
  refine lv_iconst (v := iI 1) hx hb dL_law_1751 rfl ?_
  refine xr_add hx hb dL_law_1752 ?_
  refine va_sld hx hb hX9 hbl hbA hS (xvp (t := i + 1) (by omega) (by omega) hn) dL_law_1753 ?_
  obtain ⟨p_1, h_2, r_3⟩ : ∃ y : Int, xs (iI (i + 1)).toNatClampNeg = iI y ∧ rg y := ⟨_, iI_of _, rg_of _⟩
  refine jt_i (iI p_1) h_2 ?_
  refine lv_aload_n hx hb dL_law_1754 rfl (lv_at hl 3 rfl) ?_
  refine lv_iload_n hx hb dL_law_1755 rfl (lv_at hl 0 rfl) ?_
  refine lv_iconst (v := iI 2) hx hb dL_law_1756 rfl ?_
  refine xr_add hx hb dL_law_1757 ?_
  refine va_sld hx hb hX9 hbl hbA hS (xvp (t := i + 2) (by omega) (by omega) hn) dL_law_1758 ?_
  obtain ⟨p_4, h_5, r_6⟩ : ∃ y : Int, xs (iI (i + 2)).toNatClampNeg = iI y ∧ rg y := ⟨_, iI_of _, rg_of _⟩
  refine jt_i (iI p_4) h_5 ?_
  have hPx := jp_tail hP
  have hDx := jd_tail hD
  refine jc_i (va_runV (As := [.int (iI p_1), .int (iI p_4)]) (rest := []) ⟨hx, hb, hml, hown, hts⟩ (sX12_is l dC dI _ L cid K N tW sK sV v z0 p_1 p_4 hI hz r_3 r_6) (cwV 2 hts (jgoodVL m_1645 m_1646 m_1647 m_873 m_1648) rfl rfl rfl (by decide +kernel) ⟨(Nat.le_of_ble_eq_true rfl), (Nat.le_of_ble_eq_true rfl)⟩) ⟨xP_blind, xrecv hKx hPx hz rfl rfl, fun U hU hW => ⟨rfl, xP_of hU hW hPx hKx hDx hXx hS (fun _ h => h) hA⟩⟩ rfl rfl hl.1 rfl (lv_room (Nat.le_of_ble_eq_true rfl)) dL_law_1759 ⟨(show nc + 0 ≤ 600000 by omega), (show ns + 0 ≤ 7302250 by omega)⟩) hP hS hA (fun r H locs w_8 hP hS => ?_)
  obtain ⟨x_7, rfl, f_9⟩ := w_8
  refine lv_pop hx hb dL_law_1762 rfl ?_
  refine lv_aload_n hx hb dL_law_1763 rfl (lv_at hl 1 rfl) ?_
  refine lv_aload_n hx hb dL_law_1764 rfl (lv_at hl 3 rfl) ?_
  refine lv_iload_n hx hb dL_law_1765 rfl (lv_at hl 0 rfl) ?_
  refine lv_iconst (v := iI 1) hx hb dL_law_1766 rfl ?_
  refine xr_add hx hb dL_law_1767 ?_
  refine va_sld hx hb hX9 hbl hbA hS (xvp (t := i + 1) (by omega) (by omega) hn) dL_law_1768 ?_
  refine jt_i (iI p_1) h_2 ?_
  refine lv_aload_n hx hb dL_law_1769 rfl (lv_at hl 3 rfl) ?_
  refine lv_iload_n hx hb dL_law_1770 rfl (lv_at hl 0 rfl) ?_
  refine lv_iconst (v := iI 2) hx hb dL_law_1771 rfl ?_
  refine xr_add hx hb dL_law_1772 ?_
  refine va_sld hx hb hX9 hbl hbA hS (xvp (t := i + 2) (by omega) (by omega) hn) dL_law_1773 ?_
  refine jt_i (iI p_4) h_5 ?_
  obtain ⟨hP, hD⟩ := lsw hP hD
  have hPm := jp_tail hP
  have hDm := jd_tail hD
  refine jct_i (va_runV (As := [.int (iI p_1), .int (iI p_4)]) (rest := []) ⟨hx, hb, hml, hown, hts⟩ (sX13_is l dC dI _ am cm g a p_1 p_4 hM r_3 r_6 hrSh) (cwV 2 hts (jgoodVL m_1649 m_369 m_370 m_503 m_150) rfl rfl rfl (by decide +kernel) ⟨(Nat.le_of_ble_eq_true rfl), (Nat.le_of_ble_eq_true rfl)⟩) ⟨jw_blind, va_recv hKm hPm (ci := 13) (q0 := 0) rfl rfl, fun U hU hW => ⟨rfl, jw_of hU hW hPm hKm hDm⟩⟩ rfl rfl hl.1 rfl (lv_room (Nat.le_of_ble_eq_true rfl)) dL_law_1774 ⟨(show nc + 0 ≤ 600000 by omega), (show ns + 0 ≤ 7302250 by omega)⟩) hP hD hS hA (fun r u_12 H locs w_11 hP hKm hD hS => ?_)
  obtain ⟨g_13, a_14⟩ := u_12
  obtain ⟨y_10, rfl, h_15, h_16, h_17, h_18⟩ := w_11
  have hP : va_P (dC, dI) vwCl (xG L cid K N v ++ mG am cm g_13 a_14) H := hP
  have hD : va_D (fun q : Nat => s.heap.size ≤ q) (xG L cid K N v ++ mG am cm g_13 a_14) := hD
  have h_15 : g_13 = g := h_15
  have h_16 : mI g_13 a_14 := h_16
  have h_19 : rLine g_13 a_14 := rLine_t (congrFun h_15 56) (h_17 45 (by decide)) hrLine
  have h_20 : rLead g_13 a_14 := rLead_t (congrFun h_15 37) (h_17 27 (by decide)) (h_17 31 (by decide)) hrLead
  have h_21 : rSkill g_13 a_14 := rSkill_t (congrFun h_15 50) (h_17 38 (by decide)) hrSkill
  have h_22 : rSh g_13 a_14 := rSh_t (congrFun h_15 18) (congrFun h_15 26) (h_17 9 (by decide)) (h_17 10 (by decide)) (h_17 11 (by decide)) (h_17 12 (by decide)) (h_17 16 (by decide)) hrSh
  have h_23 : v z0 0 = g_13 30 := hnow.trans (congrFun h_15 30).symm
  have h_24 : v z0 11 = g_13 50 := hhands.trans (congrFun h_15 50).symm
  have h_25 : v (v z0 19) 1 = g_13 78 := hstolen.trans (congrFun h_15 78).symm
  have h_26 : v (v z0 14) 5 = g_13 66 := htold.trans (congrFun h_15 66).symm
  have h_27 : v (v z0 2) 1 = g_13 1 := hsize.trans (congrFun h_15 1).symm
  have h_28 : v (v z0 3) 1 = g_13 18 := hsheets.trans (congrFun h_15 18).symm
  have h_29 : rSub v z0 a_14 := rSub_m (h_17 60 (by decide)) hsub
  have h_30 : rHand v z0 g_13 a_14 := rHand_m (congrFun h_15 50) (h_17 41 (by decide)) hhd
  have h_31 : rNews v z0 g_13 a_14 := rNews_m (congrFun h_15 66) (h_17 51 (by decide)) (h_17 52 (by decide)) (h_17 53 (by decide)) (h_17 54 (by decide)) hnw
  have h_32 : rTxt v z0 g_13 a_14 := rTxt_m (congrFun h_15 1) (h_17 1 (by decide)) htx
  obtain ⟨hP, hD⟩ := lsw hP hD
  refine lv_pop hx hb dL_law_1777 rfl ?_
  refine lv_goto (tgt := 1804) hx hb dL_law_1778 (by decide) ?_
  exact kk L K N v g_13 a_14 _ _ H locs hz hI h_16 h_19 h_20 h_21 h_22 h_23 h_24 h_25 h_26 h_27 h_28 h_29 h_30 h_31 h_32 (by omega) (by omega) hP hD hS
