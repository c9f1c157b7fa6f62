set_option maxHeartbeats 4000000 in
set_option maxRecDepth 100000 in
theorem lc_18 {p : Program} {l : Launch} {e : Env} {s : State} {m : MethodId} {below : List Frame} {meth : Method} {c : Code} {b n : Nat} {xs : Nat → Int32} (C0 : lw_At p s m meth c b n xs) (hn : n ≤ 3072) {dC : Nat → ClassId} {dI : Nat → Nat → Nat} {am : Nat → Nat} {cm cid : Nat → ClassId} {tW : Nat} {sK sV : Nat → Nat} (hXx : xX tW sK sV (fun q : Nat => s.heap.size ≤ q) s s.heap) (hKx : va_K (dC, dI) vwCl (xT cid) s) (hKm : va_K (dC, dI) vwCl (mT cm) s) {z0 : Int} {i : Int} (hi0 : 0 ≤ i) (hi : i + 6 ≤ n) {L : List Nat} {K : Int → Nat} {N : Int → Int} {v : Int → Int → Int} {g : Nat → Int} {a : Nat → Int → Int} (hz : ok L K z0 12) (hI : xI L K N v) (hM : mI g a) (hrLine : rLine g a) (hrLead : rLead g a) (hrSkill : rSkill g a) (hrSh : rSh g a) (hnow : v z0 0 = g 30) (hhands : v z0 11 = g 50) (hstolen : v (v z0 19) 1 = g 78) (htold : v (v z0 14) 5 = g 66) (hsub : rSub v z0 a) (hhd : rHand v z0 g a) (hnw : rNews v z0 g a) {nc ns : Nat} (hc : nc + 5 ≤ 600000) (hs : ns + 12100 ≤ 7302250) {H : Heap} {locs : List Loc} {ls : Array Slot} (hP : va_P (dC, dI) vwCl (mG am cm g a ++ xG L cid K N v) H) (hD : va_D (fun q : Nat => s.heap.size ≤ q) (mG am cm g a ++ xG L cid K N v)) (hS : va_S (fun q : Nat => s.heap.size ≤ q) s.heap H locs) (hl : lv_has ls 4 [(3, .int (iI i)), (2, .ref (am 0)), (1, .ref z0.toNat), (0, .ref b)])
    (kk : ∀ (L : List Nat) (K : Int → Nat) (N : Int → Int) (v : Int → Int → Int) (g : Nat → Int) (a : Nat → Int → Int) (nc1 ns1 : Nat) (H : Heap) (locs : List Loc), ok L K z0 12 → xI L K N v → mI g a → rLine g a → rLead g a → rSkill g a → rSh g a → v z0 0 = g 30 → v z0 11 = g 50 → v (v z0 19) 1 = g 78 → v (v z0 14) 5 = g 66 → rSub v z0 a → rHand v z0 g a → rNews v z0 g a → nc1 ≤ nc + 5 → ns1 ≤ ns + 12100 → va_P (dC, dI) vwCl (mG am cm g a ++ xG L cid K N v) H → va_D (fun q : Nat => s.heap.size ≤ q) (mG am cm g a ++ xG L cid K N v) → va_S (fun q : Nat => s.heap.size ≤ q) s.heap H locs → W p l e room_1 s m #[Value.ref b] below meth c H locs nc1 ns1 (lw_Z below #[Value.ref b] s) (F0 m 1804 ls [])) : W p l e room_1 s m #[Value.ref b] below meth c H locs nc ns (lw_Z below #[Value.ref b] s) (F0 m 864 ls []) := by
  obtain ⟨hx, hb, hr, hml, hown, hts, hX9, hbl, hlocks, hgv⟩ := id C0
  have hA : ∀ q : Nat, s.heap.size ≤ q → (fun q : Nat => s.heap.size ≤ q) q := fun _ h => h
  have hbA : ¬ (fun q : Nat => s.heap.size ≤ q) b := Nat.not_le.mpr hbl
  refine lv_aload_n hx hb dL_law_864 rfl (lv_at hl 2 rfl) ?_
  refine lv_aload_n hx hb dL_law_865 rfl (lv_at hl 3 rfl) ?_
  refine lv_iload_n hx hb dL_law_866 rfl (lv_at hl 0 rfl) ?_
  refine lv_iconst (v := iI 1) hx hb dL_law_867 rfl ?_
  refine xr_add hx hb dL_law_868 ?_
  refine va_sld hx hb hX9 hbl hbA hS (xvp (t := i + 1) (by omega) (by omega) hn) dL_law_869 ?_
  obtain ⟨p_1, h_2, r_3⟩ : ∃ y : Int, xs (iI (i + 1)).toNatClampNeg = iI y ∧ rg y := ⟨_, iI_of _, rg_of _⟩
  refine jt_i (iI p_1) h_2 ?_
  refine lv_aload_n hx hb dL_law_870 rfl (lv_at hl 3 rfl) ?_
  refine lv_iload_n hx hb dL_law_871 rfl (lv_at hl 0 rfl) ?_
  refine lv_iconst (v := iI 2) hx hb dL_law_872 rfl ?_
  refine xr_add hx hb dL_law_873 ?_
  refine va_sld hx hb hX9 hbl hbA hS (xvp (t := i + 2) (by omega) (by omega) hn) dL_law_874 ?_
  obtain ⟨p_4, h_5, r_6⟩ : ∃ y : Int, xs (iI (i + 2)).toNatClampNeg = iI y ∧ rg y := ⟨_, iI_of _, rg_of _⟩
  refine jt_i (iI p_4) h_5 ?_
  have hPx := jp_tail hP
  have hDx := jd_tail hD
  refine jct_i (va_runV (As := [.int (iI p_1), .int (iI p_4)]) (rest := []) ⟨hx, hb, hml, hown, hts⟩ (sX12_enemies l dC dI _ L cid K N tW sK sV v z0 p_1 p_4 hI hz r_3 r_6) (cwV 2 hts (jgoodVL m_1505 m_1506 m_1507 m_873 m_1508) rfl rfl rfl (by decide +kernel) ⟨(Nat.le_of_ble_eq_true rfl), (Nat.le_of_ble_eq_true rfl)⟩) ⟨xP_blind, xrecv hKx hPx hz rfl rfl, fun U hU hW => ⟨rfl, xP_of hU hW hPx hKx hDx hXx hS (fun _ h => h) hA⟩⟩ rfl rfl hl.1 rfl (lv_room (Nat.le_of_ble_eq_true rfl)) dL_law_875 ⟨(show nc + 0 ≤ 600000 by omega), (show ns + 0 ≤ 7302250 by omega)⟩) hP hD hS hA (fun r v_15 H locs w_8 hP hKx hD hS => ?_)
  obtain ⟨x_7, rfl, I_16, f_17, f_9, f_10, f_11, f_12, f_13, f_14⟩ := w_8
  have hP : va_P (dC, dI) vwCl (mG am cm g a ++ xG L cid K N v_15) H := hP
  have hD : va_D (fun q : Nat => s.heap.size ≤ q) (mG am cm g a ++ xG L cid K N v_15) := hD
  have f_11 : iF (x_7 = 1) (zand (zshr (v (v (v z0 10) p_1) 4) p_4) 1 = 0) := f_11
  have f_12 : iF (x_7 = 0) ((p_1 < 0 ∨ v z0 11 ≤ p_1 ∨ p_4 < 0 ∨ v z0 11 ≤ p_4 ∨ v (v z0 10) p_1 < 0 ∨ v (v z0 10) p_4 < 0 ∨ p_1 = p_4 ∨ zand (zshr (v (v (v z0 10) p_1) 4) p_4) 1 ≠ 0)) := f_12
  have f_13 : iF (x_7 = 0) (v_15 = v) := f_13
  have f_14 : iF (x_7 = 1) (v_15 = vu (vu v (v (v z0 10) p_1) 4 (zor (v (v (v z0 10) p_1) 4) (zshl 1 p_4))) (v (v z0 10) p_4) 4 (zor ((vu v (v (v z0 10) p_1) 4 (zor (v (v (v z0 10) p_1) 4) (zshl 1 p_4))) (v (v z0 10) p_4) 4) (zshl 1 p_1))) := f_14
  have h_18 : v_15 z0 0 = g 30 := (fr_use hz f_17 rfl).trans hnow
  have h_19 : v_15 z0 11 = g 50 := (fr_use hz f_17 rfl).trans hhands
  have h_21 : ok L K (v z0 19) 10 := xf_12_19 hI hz
  have b_22 : v_15 z0 19 = v z0 19 := fr_use hz f_17 rfl
  have b_23 : v_15 (v z0 19) 1 = v (v z0 19) 1 := fr_use h_21 f_17 rfl
  have h_20 : v_15 (v_15 z0 19) 1 = g 78 := by rw [b_22, b_23]; exact hstolen
  have h_25 : ok L K (v z0 14) 5 := xf_12_14 hI hz
  have b_26 : v_15 z0 14 = v z0 14 := fr_use hz f_17 rfl
  have b_27 : v_15 (v z0 14) 5 = v (v z0 14) 5 := fr_use h_25 f_17 rfl
  have h_24 : v_15 (v_15 z0 14) 5 = g 66 := by rw [b_26, b_27]; exact htold
  have h_28 : rSub v_15 z0 a := rSub_x hI hz (frE_of f_17) rfl (fun _ => rfl) hsub
  have h_29 : rNews v_15 z0 g a := rNews_x hI hz (frE_of f_17) rfl (fun _ => rfl) (fun _ => rfl) (fun _ => rfl) (fun _ => rfl) (fun _ => rfl) rfl rfl rfl rfl rfl hnw
  refine lv_pop hx hb dL_law_878 rfl ?_
  refine lv_aload_n hx hb dL_law_879 rfl (lv_at hl 1 rfl) ?_
  refine lv_aload_n hx hb dL_law_880 rfl (lv_at hl 3 rfl) ?_
  refine lv_iload_n hx hb dL_law_881 rfl (lv_at hl 0 rfl) ?_
  refine lv_iconst (v := iI 1) hx hb dL_law_882 rfl ?_
  refine xr_add hx hb dL_law_883 ?_
  refine va_sld hx hb hX9 hbl hbA hS (xvp (t := i + 1) (by omega) (by omega) hn) dL_law_884 ?_
  refine jt_i (iI p_1) h_2 ?_
  refine lv_aload_n hx hb dL_law_885 rfl (lv_at hl 3 rfl) ?_
  refine lv_iload_n hx hb dL_law_886 rfl (lv_at hl 0 rfl) ?_
  refine lv_iconst (v := iI 2) hx hb dL_law_887 rfl ?_
  refine xr_add hx hb dL_law_888 ?_
  refine va_sld hx hb hX9 hbl hbA hS (xvp (t := i + 2) (by omega) (by omega) hn) dL_law_889 ?_
  refine jt_i (iI p_4) h_5 ?_
  obtain ⟨hP, hD⟩ := lsw hP hD
  have hPm := jp_tail hP
  have hDm := jd_tail hD
  refine jct_i (va_runV (As := [.int (iI p_1), .int (iI p_4)]) (rest := []) ⟨hx, hb, hml, hown, hts⟩ (sX13_enemies l dC dI _ am cm g a p_1 p_4 hM r_3 r_6) (cwV 2 hts (jgoodVL m_1509 m_330 m_331 m_503 m_130) rfl rfl rfl (by decide +kernel) ⟨(Nat.le_of_ble_eq_true rfl), (Nat.le_of_ble_eq_true rfl)⟩) ⟨jw_blind, va_recv hKm hPm (ci := 13) (q0 := 0) rfl rfl, fun U hU hW => ⟨rfl, jw_of hU hW hPm hKm hDm⟩⟩ rfl rfl hl.1 rfl (lv_room (Nat.le_of_ble_eq_true rfl)) dL_law_890 ⟨(show nc + 0 ≤ 600000 by omega), (show ns + 0 ≤ 7302250 by omega)⟩) hP hD hS hA (fun r u_32 H locs w_31 hP hKm hD hS => ?_)
  obtain ⟨g_33, a_34⟩ := u_32
  obtain ⟨y_30, rfl, h_35, h_36, h_37, h_38, h_39, h_40, h_41⟩ := w_31
  have hP : va_P (dC, dI) vwCl (xG L cid K N v_15 ++ mG am cm g_33 a_34) H := hP
  have hD : va_D (fun q : Nat => s.heap.size ≤ q) (xG L cid K N v_15 ++ mG am cm g_33 a_34) := hD
  have h_35 : g_33 = g := h_35
  have h_36 : mI g_33 a_34 := h_36
  have h_40 : oF (y_30 = 1) (a_34 41 = a 41) := h_40
  have h_41 : oF (y_30 = 0) (a_34 41 = up (up (a 41) (12 * p_1 + p_4) 1) (12 * p_4 + p_1) 1) := h_41
  have h_42 : rLine g_33 a_34 := rLine_t (congrFun h_35 56) (h_37 45 (by decide)) hrLine
  have h_43 : rLead g_33 a_34 := rLead_t (congrFun h_35 37) (h_37 27 (by decide)) (h_37 31 (by decide)) hrLead
  have h_44 : rSkill g_33 a_34 := rSkill_t (congrFun h_35 50) (h_37 38 (by decide)) hrSkill
  have h_45 : rSh g_33 a_34 := rSh_t (congrFun h_35 18) (congrFun h_35 26) (h_37 9 (by decide)) (h_37 10 (by decide)) (h_37 11 (by decide)) (h_37 12 (by decide)) (h_37 16 (by decide)) hrSh
  have h_46 : v_15 z0 0 = g_33 30 := h_18.trans (congrFun h_35 30).symm
  have h_47 : v_15 z0 11 = g_33 50 := h_19.trans (congrFun h_35 50).symm
  have h_48 : v_15 (v_15 z0 19) 1 = g_33 78 := h_20.trans (congrFun h_35 78).symm
  have h_49 : v_15 (v_15 z0 14) 5 = g_33 66 := h_24.trans (congrFun h_35 66).symm
  have h_50 : rSub v_15 z0 a_34 := rSub_m (h_37 60 (by decide)) h_28
  have ht9 := en_tie hhd hhands (show 0 ≤ g 50 ∧ g 50 ≤ 12 from hM.1 50).2 f_10 f_11 f_12 h_39
  have h_51 : rHand v_15 z0 g_33 a_34 := by
    rcases ht9 with ⟨q9, r9⟩ | ⟨q9, r9, z1, z2, z3, z4, z5⟩
    · rw [f_13 q9]; exact rHand_m (congrFun h_35 50) ((h_40).resolve_left (fun z => absurd (r9.symm.trans z) (by decide))) hhd
    · exact rHand_en hI hz (f_14 q9) (congrFun h_35 50) ((h_41).resolve_left (fun z => absurd (r9.symm.trans z) (by decide))) z1 z2 z3 z4 z5 (show 0 ≤ g 50 ∧ g 50 ≤ 12 from hM.1 50).2 hhd
  have h_52 : rNews v_15 z0 g_33 a_34 := rNews_m (congrFun h_35 66) (h_37 51 (by decide)) (h_37 52 (by decide)) (h_37 53 (by decide)) (h_37 54 (by decide)) h_29
  obtain ⟨hP, hD⟩ := lsw hP hD
  refine lv_pop hx hb dL_law_893 rfl ?_
  refine lv_goto (tgt := 1804) hx hb dL_law_894 (by decide) ?_
  exact kk L K N v_15 g_33 a_34 _ _ H locs hz I_16 h_36 h_42 h_43 h_44 h_45 h_46 h_47 h_48 h_49 h_50 h_51 h_52 (by omega) (by omega) hP hD hS
set_option maxHeartbeats 4000000 in
set_option maxRecDepth 100000 in
theorem lc_19 {p : Program} {l : Launch} {e : Env} {s : State} {m : MethodId} {below : List Frame} {meth : Method} {c : Code} {b n : Nat} {xs : Nat → Int32} (C0 : lw_At p s m meth c b n xs) (hn : n ≤ 3072) {dC : Nat → ClassId} {dI : Nat → Nat → Nat} {am : Nat → Nat} {cm cid : Nat → ClassId} {tW : Nat} {sK sV : Nat → Nat} (hXx : xX tW sK sV (fun q : Nat => s.heap.size ≤ q) s s.heap) (hKx : va_K (dC, dI) vwCl (xT cid) s) (hKm : va_K (dC, dI) vwCl (mT cm) s) {z0 : Int} {i : Int} (hi0 : 0 ≤ i) (hi : i + 6 ≤ n) {L : List Nat} {K : Int → Nat} {N : Int → Int} {v : Int → Int → Int} {g : Nat → Int} {a : Nat → Int → Int} (hz : ok L K z0 12) (hI : xI L K N v) (hM : mI g a) (hrLine : rLine g a) (hrLead : rLead g a) (hrSkill : rSkill g a) (hrSh : rSh g a) (hnow : v z0 0 = g 30) (hhands : v z0 11 = g 50) (hstolen : v (v z0 19) 1 = g 78) (htold : v (v z0 14) 5 = g 66) (hsub : rSub v z0 a) (hhd : rHand v z0 g a) (hnw : rNews v z0 g a) {nc ns : Nat} (hc : nc + 5 ≤ 600000) (hs : ns + 12100 ≤ 7302250) {H : Heap} {locs : List Loc} {ls : Array Slot} (hP : va_P (dC, dI) vwCl (mG am cm g a ++ xG L cid K N v) H) (hD : va_D (fun q : Nat => s.heap.size ≤ q) (mG am cm g a ++ xG L cid K N v)) (hS : va_S (fun q : Nat => s.heap.size ≤ q) s.heap H locs) (hl : lv_has ls 4 [(3, .int (iI i)), (2, .ref (am 0)), (1, .ref z0.toNat), (0, .ref b)])
    (kk : ∀ (L : List Nat) (K : Int → Nat) (N : Int → Int) (v : Int → Int → Int) (g : Nat → Int) (a : Nat → Int → Int) (nc1 ns1 : Nat) (H : Heap) (locs : List Loc), ok L K z0 12 → xI L K N v → mI g a → rLine g a → rLead g a → rSkill g a → rSh g a → v z0 0 = g 30 → v z0 11 = g 50 → v (v z0 19) 1 = g 78 → v (v z0 14) 5 = g 66 → rSub v z0 a → rHand v z0 g a → rNews v z0 g a → nc1 ≤ nc + 5 → ns1 ≤ ns + 12100 → va_P (dC, dI) vwCl (mG am cm g a ++ xG L cid K N v) H → va_D (fun q : Nat => s.heap.size ≤ q) (mG am cm g a ++ xG L cid K N v) → va_S (fun q : Nat => s.heap.size ≤ q) s.heap H locs → W p l e room_1 s m #[Value.ref b] below meth c H locs nc1 ns1 (lw_Z below #[Value.ref b] s) (F0 m 1804 ls [])) : W p l e room_1 s m #[Value.ref b] below meth c H locs nc ns (lw_Z below #[Value.ref b] s) (F0 m 897 ls []) := by
  obtain ⟨hx, hb, hr, hml, hown, hts, hX9, hbl, hlocks, hgv⟩ := id C0
  have hA : ∀ q : Nat, s.heap.size ≤ q → (fun q : Nat => s.heap.size ≤ q) q := fun _ h => h
  have hbA : ¬ (fun q : Nat => s.heap.size ≤ q) b := Nat.not_le.mpr hbl
  refine lv_aload_n hx hb dL_law_897 rfl (lv_at hl 2 rfl) ?_
  refine lv_aload_n hx hb dL_law_898 rfl (lv_at hl 3 rfl) ?_
  refine lv_iload_n hx hb dL_law_899 rfl (lv_at hl 0 rfl) ?_
  refine lv_iconst (v := iI 1) hx hb dL_law_900 rfl ?_
  refine xr_add hx hb dL_law_901 ?_
  refine va_sld hx hb hX9 hbl hbA hS (xvp (t := i + 1) (by omega) (by omega) hn) dL_law_902 ?_
  obtain ⟨p_1, h_2, r_3⟩ : ∃ y : Int, xs (iI (i + 1)).toNatClampNeg = iI y ∧ rg y := ⟨_, iI_of _, rg_of _⟩
  refine jt_i (iI p_1) h_2 ?_
  refine lv_aload_n hx hb dL_law_903 rfl (lv_at hl 3 rfl) ?_
  refine lv_iload_n hx hb dL_law_904 rfl (lv_at hl 0 rfl) ?_
  refine lv_iconst (v := iI 2) hx hb dL_law_905 rfl ?_
  refine xr_add hx hb dL_law_906 ?_
  refine va_sld hx hb hX9 hbl hbA hS (xvp (t := i + 2) (by omega) (by omega) hn) dL_law_907 ?_
  obtain ⟨p_4, h_5, r_6⟩ : ∃ y : Int, xs (iI (i + 2)).toNatClampNeg = iI y ∧ rg y := ⟨_, iI_of _, rg_of _⟩
  refine jt_i (iI p_4) h_5 ?_
  have hPx := jp_tail hP
  have hDx := jd_tail hD
  refine jct_i (va_runV (As := [.int (iI p_1), .int (iI p_4)]) (rest := []) ⟨hx, hb, hml, hown, hts⟩ (sX12_give l dC dI _ L cid K N tW sK sV v z0 p_1 p_4 hI hz r_3 r_6) (cwV 2 hts (jgoodVL m_1510 m_1511 m_1512 m_873 m_1513) rfl rfl rfl (by decide +kernel) ⟨(Nat.le_of_ble_eq_true rfl), (Nat.le_of_ble_eq_true rfl)⟩) ⟨xP_blind, xrecv hKx hPx hz rfl rfl, fun U hU hW => ⟨rfl, xP_of hU hW hPx hKx hDx hXx hS (fun _ h => h) hA⟩⟩ rfl rfl hl.1 rfl (lv_room (Nat.le_of_ble_eq_true rfl)) dL_law_908 ⟨(show nc + 0 ≤ 600000 by omega), (show ns + 0 ≤ 7302250 by omega)⟩) hP hD hS hA (fun r v_10 H locs w_8 hP hKx hD hS => ?_)
  obtain ⟨x_7, rfl, I_11, f_12, f_9⟩ := w_8
  have hP : va_P (dC, dI) vwCl (mG am cm g a ++ xG L cid K N v_10) H := hP
  have hD : va_D (fun q : Nat => s.heap.size ≤ q) (mG am cm g a ++ xG L cid K N v_10) := hD
  have h_13 : v_10 z0 0 = g 30 := (fr_use hz f_12 rfl).trans hnow
  have h_14 : v_10 z0 11 = g 50 := (fr_use hz f_12 rfl).trans hhands
  have h_16 : ok L K (v z0 19) 10 := xf_12_19 hI hz
  have b_17 : v_10 z0 19 = v z0 19 := fr_use hz f_12 rfl
  have b_18 : v_10 (v z0 19) 1 = v (v z0 19) 1 := fr_use h_16 f_12 rfl
  have h_15 : v_10 (v_10 z0 19) 1 = g 78 := by rw [b_17, b_18]; exact hstolen
  have h_20 : ok L K (v z0 14) 5 := xf_12_14 hI hz
  have b_21 : v_10 z0 14 = v z0 14 := fr_use hz f_12 rfl
  have b_22 : v_10 (v z0 14) 5 = v (v z0 14) 5 := fr_use h_20 f_12 rfl
  have h_19 : v_10 (v_10 z0 14) 5 = g 66 := by rw [b_21, b_22]; exact htold
  have h_23 : rSub v_10 z0 a := rSub_x hI hz (frE_of f_12) rfl (fun _ => rfl) hsub
  have h_24 : rHand v_10 z0 g a := rHand_x hI hz (frE_of f_12) rfl (fun _ => rfl) rfl hhd
  have h_25 : rNews v_10 z0 g a := rNews_x hI hz (frE_of f_12) rfl (fun _ => rfl) (fun _ => rfl) (fun _ => rfl) (fun _ => rfl) (fun _ => rfl) rfl rfl rfl rfl rfl hnw
  refine lv_pop hx hb dL_law_911 rfl ?_
  refine lv_aload_n hx hb dL_law_912 rfl (lv_at hl 1 rfl) ?_
  refine lv_aload_n hx hb dL_law_913 rfl (lv_at hl 3 rfl) ?_
  refine lv_iload_n hx hb dL_law_914 rfl (lv_at hl 0 rfl) ?_
  refine lv_iconst (v := iI 1) hx hb dL_law_915 rfl ?_
  refine xr_add hx hb dL_law_916 ?_
  refine va_sld hx hb hX9 hbl hbA hS (xvp (t := i + 1) (by omega) (by omega) hn) dL_law_917 ?_
  refine jt_i (iI p_1) h_2 ?_
  refine lv_aload_n hx hb dL_law_918 rfl (lv_at hl 3 rfl) ?_
  refine lv_iload_n hx hb dL_law_919 rfl (lv_at hl 0 rfl) ?_
  refine lv_iconst (v := iI 2) hx hb dL_law_920 rfl ?_
  refine xr_add hx hb dL_law_921 ?_
  refine va_sld hx hb hX9 hbl hbA hS (xvp (t := i + 2) (by omega) (by omega) hn) dL_law_922 ?_
  refine jt_i (iI p_4) h_5 ?_
  obtain ⟨hP, hD⟩ := lsw hP hD
  have hPm := jp_tail hP
  have hDm := jd_tail hD
  refine jct_i (va_runV (As := [.int (iI p_1), .int (iI p_4)]) (rest := []) ⟨hx, hb, hml, hown, hts⟩ (sX13_give l dC dI _ am cm g a p_1 p_4 hM r_3 r_6 hrSh) (cwV 2 hts (jgoodVL m_1514 m_346 m_347 m_503 m_138) rfl rfl rfl (by decide +kernel) ⟨(Nat.le_of_ble_eq_true rfl), (Nat.le_of_ble_eq_true rfl)⟩) ⟨jw_blind, va_recv hKm hPm (ci := 13) (q0 := 0) rfl rfl, fun U hU hW => ⟨rfl, jw_of hU hW hPm hKm hDm⟩⟩ rfl rfl hl.1 rfl (lv_room (Nat.le_of_ble_eq_true rfl)) dL_law_923 ⟨(show nc + 0 ≤ 600000 by omega), (show ns + 0 ≤ 7302250 by omega)⟩) hP hD hS hA (fun r u_28 H locs w_27 hP hKm hD hS => ?_)
  obtain ⟨g_29, a_30⟩ := u_28
  obtain ⟨y_26, rfl, h_31, h_32, h_33, h_34⟩ := w_27
  have hP : va_P (dC, dI) vwCl (xG L cid K N v_10 ++ mG am cm g_29 a_30) H := hP
  have hD : va_D (fun q : Nat => s.heap.size ≤ q) (xG L cid K N v_10 ++ mG am cm g_29 a_30) := hD
  have h_31 : g_29 = g := h_31
  have h_32 : mI g_29 a_30 := h_32
  have h_35 : rLine g_29 a_30 := rLine_t (congrFun h_31 56) (h_33 45 (by decide)) hrLine
  have h_36 : rLead g_29 a_30 := rLead_t (congrFun h_31 37) (h_33 27 (by decide)) (h_33 31 (by decide)) hrLead
  have h_37 : rSkill g_29 a_30 := rSkill_t (congrFun h_31 50) (h_33 38 (by decide)) hrSkill
  have h_38 : rSh g_29 a_30 := rSh_t (congrFun h_31 18) (congrFun h_31 26) (h_33 9 (by decide)) (h_33 10 (by decide)) (h_33 11 (by decide)) (h_33 12 (by decide)) (h_33 16 (by decide)) hrSh
  have h_39 : v_10 z0 0 = g_29 30 := h_13.trans (congrFun h_31 30).symm
  have h_40 : v_10 z0 11 = g_29 50 := h_14.trans (congrFun h_31 50).symm
  have h_41 : v_10 (v_10 z0 19) 1 = g_29 78 := h_15.trans (congrFun h_31 78).symm
  have h_42 : v_10 (v_10 z0 14) 5 = g_29 66 := h_19.trans (congrFun h_31 66).symm
  have h_43 : rSub v_10 z0 a_30 := rSub_m (h_33 60 (by decide)) h_23
  have h_44 : rHand v_10 z0 g_29 a_30 := rHand_m (congrFun h_31 50) (h_33 41 (by decide)) h_24
  have h_45 : rNews v_10 z0 g_29 a_30 := rNews_m (congrFun h_31 66) (h_33 51 (by decide)) (h_33 52 (by decide)) (h_33 53 (by decide)) (h_33 54 (by decide)) h_25
  obtain ⟨hP, hD⟩ := lsw hP hD
  refine lv_pop hx hb dL_law_926 rfl ?_
  refine lv_goto (tgt := 1804) hx hb dL_law_927 (by decide) ?_
  exact kk L K N v_10 g_29 a_30 _ _ H locs hz I_11 h_32 h_35 h_36 h_37 h_38 h_39 h_40 h_41 h_42 h_43 h_44 h_45 (by omega) (by omega) hP hD hS
set_option maxHeartbeats 4000000 in
set_option maxRecDepth 100000 in
theorem lc_20 {p : Program} {l : Launch} {e : Env} {s : State} {m : MethodId} {below : List Frame} {meth : Method} {c : Code} {b n : Nat} {xs : Nat → Int32} (C0 : lw_At p s m meth c b n xs) (hn : n ≤ 3072) {dC : Nat → ClassId} {dI : Nat → Nat → Nat} {am : Nat → Nat} {cm cid : Nat → ClassId} {tW : Nat} {sK sV : Nat → Nat} (hXx : xX tW sK sV (fun q : Nat => s.heap.size ≤ q) s s.heap) (hKx : va_K (dC, dI) vwCl (xT cid) s) (hKm : va_K (dC, dI) vwCl (mT cm) s) {z0 : Int} {i : Int} (hi0 : 0 ≤ i) (hi : i + 6 ≤ n) {L : List Nat} {K : Int → Nat} {N : Int → Int} {v : Int → Int → Int} {g : Nat → Int} {a : Nat → Int → Int} (hz : ok L K z0 12) (hI : xI L K N v) (hM : mI g a) (hrLine : rLine g a) (hrLead : rLead g a) (hrSkill : rSkill g a) (hrSh : rSh g a) (hnow : v z0 0 = g 30) (hhands : v z0 11 = g 50) (hstolen : v (v z0 19) 1 = g 78) (htold : v (v z0 14) 5 = g 66) (hsub : rSub v z0 a) (hhd : rHand v z0 g a) (hnw : rNews v z0 g a) {nc ns : Nat} (hc : nc + 5 ≤ 600000) (hs : ns + 12100 ≤ 7302250) {H : Heap} {locs : List Loc} {ls : Array Slot} (hP : va_P (dC, dI) vwCl (mG am cm g a ++ xG L cid K N v) H) (hD : va_D (fun q : Nat => s.heap.size ≤ q) (mG am cm g a ++ xG L cid K N v)) (hS : va_S (fun q : Nat => s.heap.size ≤ q) s.heap H locs) (hl : lv_has ls 4 [(3, .int (iI i)), (2, .ref (am 0)), (1, .ref z0.toNat), (0, .ref b)])
    (kk : ∀ (L : List Nat) (K : Int → Nat) (N : Int → Int) (v : Int → Int → Int) (g : Nat → Int) (a : Nat → Int → Int) (nc1 ns1 : Nat) (H : Heap) (locs : List Loc), ok L K z0 12 → xI L K N v → mI g a → rLine g a → rLead g a → rSkill g a → rSh g a → v z0 0 = g 30 → v z0 11 = g 50 → v (v z0 19) 1 = g 78 → v (v z0 14) 5 = g 66 → rSub v z0 a → rHand v z0 g a → rNews v z0 g a → nc1 ≤ nc + 5 → ns1 ≤ ns + 12100 → va_P (dC, dI) vwCl (mG am cm g a ++ xG L cid K N v) H → va_D (fun q : Nat => s.heap.size ≤ q) (mG am cm g a ++ xG L cid K N v) → va_S (fun q : Nat => s.heap.size ≤ q) s.heap H locs → W p l e room_1 s m #[Value.ref b] below meth c H locs nc1 ns1 (lw_Z below #[Value.ref b] s) (F0 m 1804 ls [])) : W p l e room_1 s m #[Value.ref b] below meth c H locs nc ns (lw_Z below #[Value.ref b] s) (F0 m 930 ls []) := by
  obtain ⟨hx, hb, hr, hml, hown, hts, hX9, hbl, hlocks, hgv⟩ := id C0
  have hA : ∀ q : Nat, s.heap.size ≤ q → (fun q : Nat => s.heap.size ≤ q) q := fun _ h => h
  have hbA : ¬ (fun q : Nat => s.heap.size ≤ q) b := Nat.not_le.mpr hbl
  refine lv_aload_n hx hb dL_law_930 rfl (lv_at hl 2 rfl) ?_
  refine lv_aload_n hx hb dL_law_931 rfl (lv_at hl 3 rfl) ?_
  refine lv_iload_n hx hb dL_law_932 rfl (lv_at hl 0 rfl) ?_
  refine lv_iconst (v := iI 1) hx hb dL_law_933 rfl ?_
  refine xr_add hx hb dL_law_934 ?_
  refine va_sld hx hb hX9 hbl hbA hS (xvp (t := i + 1) (by omega) (by omega) hn) dL_law_935 ?_
  obtain ⟨p_1, h_2, r_3⟩ : ∃ y : Int, xs (iI (i + 1)).toNatClampNeg = iI y ∧ rg y := ⟨_, iI_of _, rg_of _⟩
  refine jt_i (iI p_1) h_2 ?_
  refine lv_aload_n hx hb dL_law_936 rfl (lv_at hl 3 rfl) ?_
  refine lv_iload_n hx hb dL_law_937 rfl (lv_at hl 0 rfl) ?_
  refine lv_iconst (v := iI 2) hx hb dL_law_938 rfl ?_
  refine xr_add hx hb dL_law_939 ?_
  refine va_sld hx hb hX9 hbl hbA hS (xvp (t := i + 2) (by omega) (by omega) hn) dL_law_940 ?_
  obtain ⟨p_4, h_5, r_6⟩ : ∃ y : Int, xs (iI (i + 2)).toNatClampNeg = iI y ∧ rg y := ⟨_, iI_of _, rg_of _⟩
  refine jt_i (iI p_4) h_5 ?_
  refine lv_aload_n hx hb dL_law_941 rfl (lv_at hl 3 rfl) ?_
  refine lv_iload_n hx hb dL_law_942 rfl (lv_at hl 0 rfl) ?_
  refine lv_iconst (v := iI 3) hx hb dL_law_943 rfl ?_
  refine xr_add hx hb dL_law_944 ?_
  refine va_sld hx hb hX9 hbl hbA hS (xvp (t := i + 3) (by omega) (by omega) hn) dL_law_945 ?_
  obtain ⟨p_7, h_8, r_9⟩ : ∃ y : Int, xs (iI (i + 3)).toNatClampNeg = iI y ∧ rg y := ⟨_, iI_of _, rg_of _⟩
  refine jt_i (iI p_7) h_8 ?_
  have hPx := jp_tail hP
  have hDx := jd_tail hD
  refine jct_i (va_runV (As := [.int (iI p_1), .int (iI p_4), .int (iI p_7)]) (rest := []) ⟨hx, hb, hml, hown, hts⟩ (sX12_line l dC dI _ L cid K N tW sK sV v z0 p_1 p_4 p_7 hI hz r_3 r_6 r_9) (cwV 3 hts (jgoodVL m_1515 m_1516 m_1517 m_873 m_1518) rfl rfl rfl (by decide +kernel) ⟨(Nat.le_of_ble_eq_true rfl), (Nat.le_of_ble_eq_true rfl)⟩) ⟨xP_blind, xrecv hKx hPx hz rfl rfl, fun U hU hW => ⟨rfl, xP_of hU hW hPx hKx hDx hXx hS (fun _ h => h) hA⟩⟩ rfl rfl hl.1 rfl (lv_room (Nat.le_of_ble_eq_true rfl)) dL_law_946 ⟨(show nc + 1 ≤ 600000 by omega), (show ns + 9 ≤ 7302250 by omega)⟩) hP hD hS hA (fun r u_13 H locs w_11 hP hKx hD hS => ?_)
  obtain ⟨L_14, K_15, N_16, v_17⟩ := u_13
  obtain ⟨x_10, rfl, I_18, E_19, f_20, f_12⟩ := w_11
  have hP : va_P (dC, dI) vwCl (mG am cm g a ++ xG L_14 cid K_15 N_16 v_17) H := hP
  have hD : va_D (fun q : Nat => s.heap.size ≤ q) (mG am cm g a ++ xG L_14 cid K_15 N_16 v_17) := hD
  have I_18 : xI L_14 K_15 N_16 v_17 := I_18
  have E_19 : xE L K N L_14 K_15 N_16 := E_19
  have f_20 : frE L K [(0, 15), (0, 16), (0, 17), (2, 5), (4, 3), (4, 4), (4, 5), (4, 6), (4, 8), (12, 13), (33, (-1)), (34, (-1)), (39, (-1)), (99, 0)] v_17 v := f_20
  have h_22 : v_17 z0 0 = g 30 := (frE_use hz f_20 rfl).trans hnow
  have h_23 : v_17 z0 11 = g 50 := (frE_use hz f_20 rfl).trans hhands
  have h_25 : ok L K (v z0 19) 10 := xf_12_19 hI hz
  have b_26 : v_17 z0 19 = v z0 19 := frE_use hz f_20 rfl
  have b_27 : v_17 (v z0 19) 1 = v (v z0 19) 1 := frE_use h_25 f_20 rfl
  have h_24 : v_17 (v_17 z0 19) 1 = g 78 := by rw [b_26, b_27]; exact hstolen
  have h_29 : ok L K (v z0 14) 5 := xf_12_14 hI hz
  have b_30 : v_17 z0 14 = v z0 14 := frE_use hz f_20 rfl
  have b_31 : v_17 (v z0 14) 5 = v (v z0 14) 5 := frE_use h_29 f_20 rfl
  have h_28 : v_17 (v_17 z0 14) 5 = g 66 := by rw [b_30, b_31]; exact htold
  have h_32 : rSub v_17 z0 a := rSub_x hI hz f_20 rfl (fun _ => rfl) hsub
  have h_33 : rHand v_17 z0 g a := rHand_x hI hz f_20 rfl (fun _ => rfl) rfl hhd
  have h_34 : rNews v_17 z0 g a := rNews_x hI hz f_20 rfl (fun _ => rfl) (fun _ => rfl) (fun _ => rfl) (fun _ => rfl) (fun _ => rfl) rfl rfl rfl rfl rfl hnw
  have h_21 := xE_ok E_19 hz
  refine lv_pop hx hb dL_law_949 rfl ?_
  refine lv_aload_n hx hb dL_law_950 rfl (lv_at hl 1 rfl) ?_
  refine lv_aload_n hx hb dL_law_951 rfl (lv_at hl 3 rfl) ?_
  refine lv_iload_n hx hb dL_law_952 rfl (lv_at hl 0 rfl) ?_
  refine lv_iconst (v := iI 1) hx hb dL_law_953 rfl ?_
  refine xr_add hx hb dL_law_954 ?_
  refine va_sld hx hb hX9 hbl hbA hS (xvp (t := i + 1) (by omega) (by omega) hn) dL_law_955 ?_
  refine jt_i (iI p_1) h_2 ?_
  refine lv_aload_n hx hb dL_law_956 rfl (lv_at hl 3 rfl) ?_
  refine lv_iload_n hx hb dL_law_957 rfl (lv_at hl 0 rfl) ?_
  refine lv_iconst (v := iI 2) hx hb dL_law_958 rfl ?_
  refine xr_add hx hb dL_law_959 ?_
  refine va_sld hx hb hX9 hbl hbA hS (xvp (t := i + 2) (by omega) (by omega) hn) dL_law_960 ?_
  refine jt_i (iI p_4) h_5 ?_
  refine lv_aload_n hx hb dL_law_961 rfl (lv_at hl 3 rfl) ?_
  refine lv_iload_n hx hb dL_law_962 rfl (lv_at hl 0 rfl) ?_
  refine lv_iconst (v := iI 3) hx hb dL_law_963 rfl ?_
  refine xr_add hx hb dL_law_964 ?_
  refine va_sld hx hb hX9 hbl hbA hS (xvp (t := i + 3) (by omega) (by omega) hn) dL_law_965 ?_
  refine jt_i (iI p_7) h_8 ?_
  obtain ⟨hP, hD⟩ := lsw hP hD
  have hPm := jp_tail hP
  have hDm := jd_tail hD
  refine jct_i (va_runV (As := [.int (iI p_1), .int (iI p_4), .int (iI p_7)]) (rest := []) ⟨hx, hb, hml, hown, hts⟩ (sX13_line l dC dI _ am cm g a p_1 p_4 p_7 hM r_3 r_6 r_9 hrSh hrLine) (cwV 3 hts (jgoodVL m_1519 m_416 m_417 m_503 m_175) rfl rfl rfl (by decide +kernel) ⟨(Nat.le_of_ble_eq_true rfl), (Nat.le_of_ble_eq_true rfl)⟩) ⟨jw_blind, va_recv hKm hPm (ci := 13) (q0 := 0) rfl rfl, fun U hU hW => ⟨rfl, jw_of hU hW hPm hKm hDm⟩⟩ rfl rfl hl.1 rfl (lv_room (Nat.le_of_ble_eq_true rfl)) dL_law_966 ⟨(show nc + 1 + 0 ≤ 600000 by omega), (show ns + 9 + 0 ≤ 7302250 by omega)⟩) hP hD hS hA (fun r u_37 H locs w_36 hP hKm hD hS => ?_)
  obtain ⟨g_38, a_39⟩ := u_37
  obtain ⟨y_35, rfl, h_40, h_41, h_42, h_43, h_44⟩ := w_36
  have hP : va_P (dC, dI) vwCl (xG L_14 cid K_15 N_16 v_17 ++ mG am cm g_38 a_39) H := hP
  have hD : va_D (fun q : Nat => s.heap.size ≤ q) (xG L_14 cid K_15 N_16 v_17 ++ mG am cm g_38 a_39) := hD
  have h_40 : mI g_38 a_39 := h_40
  have h_45 : rLine g_38 a_39 := h_44
  have h_46 : rLead g_38 a_39 := rLead_t (h_41 37 (by decide)) (h_42 27 (by decide)) (h_42 31 (by decide)) hrLead
  have h_47 : rSkill g_38 a_39 := rSkill_t (h_41 50 (by decide)) (h_42 38 (by decide)) hrSkill
  have h_48 : rSh g_38 a_39 := rSh_t (h_41 18 (by decide)) (h_41 26 (by decide)) (h_42 9 (by decide)) (h_42 10 (by decide)) (h_42 11 (by decide)) (h_42 12 (by decide)) (h_42 16 (by decide)) hrSh
  have h_49 : v_17 z0 0 = g_38 30 := h_22.trans (h_41 30 (by decide)).symm
  have h_50 : v_17 z0 11 = g_38 50 := h_23.trans (h_41 50 (by decide)).symm
  have h_51 : v_17 (v_17 z0 19) 1 = g_38 78 := h_24.trans (h_41 78 (by decide)).symm
  have h_52 : v_17 (v_17 z0 14) 5 = g_38 66 := h_28.trans (h_41 66 (by decide)).symm
  have h_53 : rSub v_17 z0 a_39 := rSub_m (h_42 60 (by decide)) h_32
  have h_54 : rHand v_17 z0 g_38 a_39 := rHand_m (h_41 50 (by decide)) (h_42 41 (by decide)) h_33
  have h_55 : rNews v_17 z0 g_38 a_39 := rNews_m (h_41 66 (by decide)) (h_42 51 (by decide)) (h_42 52 (by decide)) (h_42 53 (by decide)) (h_42 54 (by decide)) h_34
  obtain ⟨hP, hD⟩ := lsw hP hD
  refine lv_pop hx hb dL_law_969 rfl ?_
  refine lv_goto (tgt := 1804) hx hb dL_law_970 (by decide) ?_
  exact kk L_14 K_15 N_16 v_17 g_38 a_39 _ _ H locs h_21 I_18 h_40 h_45 h_46 h_47 h_48 h_49 h_50 h_51 h_52 h_53 h_54 h_55 (by omega) (by omega) hP hD hS
