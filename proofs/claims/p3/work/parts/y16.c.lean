set_option maxHeartbeats 4000000 in
set_option maxRecDepth 100000 in
theorem lc_20 {p : Program} {l : Launch} {e : Env} {s : State} {m : MethodId} {below : List Frame} {meth : Method} {c : Code} {b n : Nat} {xs : Nat → Int32} (C0 : lw_At p s m meth c b n xs) (hn : n ≤ 3072) {dC : Nat → ClassId} {dI : Nat → Nat → Nat} {am : Nat → Nat} {cm cid : Nat → ClassId} {tW : Nat} {sK sV : Nat → Nat} (hXx : xX tW sK sV (fun q : Nat => s.heap.size ≤ q) s s.heap) (hKx : va_K (dC, dI) vwCl (xT cid) s) (hKm : va_K (dC, dI) vwCl (mT cm) s) {z0 : Int} {i : Int} (hi0 : 0 ≤ i) (hi : i + 6 ≤ n) {L : List Nat} {K : Int → Nat} {N : Int → Int} {v : Int → Int → Int} {g : Nat → Int} {a : Nat → Int → Int} (hz : ok L K z0 12) (hI : xI L K N v) (hM : mI g a) (hrLine : rLine g a) (hrLead : rLead g a) (hrSkill : rSkill g a) (hrSh : rSh g a) (hnow : v z0 0 = g 30) (hhands : v z0 11 = g 50) (hstolen : v (v z0 19) 1 = g 78) (htold : v (v z0 14) 5 = g 66) (hsize : v (v z0 2) 1 = g 1) (hsheets : v (v z0 3) 1 = g 18) (hsub : rSub v z0 a) (hhd : rHand v z0 g a) (hnw : rNews v z0 g a) (htx : rTxt v z0 g a) {nc ns : Nat} (hc : nc + 5 ≤ 600000) (hs : ns + 12100 ≤ 7302250) {H : Heap} {locs : List Loc} {ls : Array Slot} (hP : va_P (dC, dI) vwCl (mG am cm g a ++ xG L cid K N v) H) (hD : va_D (fun q : Nat => s.heap.size ≤ q) (mG am cm g a ++ xG L cid K N v)) (hS : va_S (fun q : Nat => s.heap.size ≤ q) s.heap H locs) (hl : lv_has ls 4 [(3, .int (iI i)), (2, .ref (am 0)), (1, .ref z0.toNat), (0, .ref b)])
    (kk : ∀ (L : List Nat) (K : Int → Nat) (N : Int → Int) (v : Int → Int → Int) (g : Nat → Int) (a : Nat → Int → Int) (nc1 ns1 : Nat) (H : Heap) (locs : List Loc), ok L K z0 12 → xI L K N v → mI g a → rLine g a → rLead g a → rSkill g a → rSh g a → v z0 0 = g 30 → v z0 11 = g 50 → v (v z0 19) 1 = g 78 → v (v z0 14) 5 = g 66 → v (v z0 2) 1 = g 1 → v (v z0 3) 1 = g 18 → rSub v z0 a → rHand v z0 g a → rNews v z0 g a → rTxt v z0 g a → nc1 ≤ nc + 5 → ns1 ≤ ns + 12100 → va_P (dC, dI) vwCl (mG am cm g a ++ xG L cid K N v) H → va_D (fun q : Nat => s.heap.size ≤ q) (mG am cm g a ++ xG L cid K N v) → va_S (fun q : Nat => s.heap.size ≤ q) s.heap H locs → W p l e room_1 s m #[Value.ref b] below meth c H locs nc1 ns1 (lw_Z below #[Value.ref b] s) (F0 m 1804 ls [])) : W p l e room_1 s m #[Value.ref b] below meth c H locs nc ns (lw_Z below #[Value.ref b] s) (F0 m 930 ls []) := by
  obtain ⟨hx, hb, hr, hml, hown, hts, hX9, hbl, hlocks, hgv⟩ := id C0
  have hA : ∀ q : Nat, s.heap.size ≤ q → (fun q : Nat => s.heap.size ≤ q) q := fun _ h => h
  have hbA : ¬ (fun q : Nat => s.heap.size ≤ q) b := Nat.not_le.mpr hbl
  refine lv_aload_n hx hb dL_law_930 rfl (lv_at hl 2 rfl) ?_
  refine lv_aload_n hx hb dL_law_931 rfl (lv_at hl 3 rfl) ?_
  refine lv_iload_n hx hb dL_law_932 rfl (lv_at hl 0 rfl) ?_
  refine lv_iconst (v := iI 1) hx hb dL_law_933 rfl ?_
  refine xr_add hx hb dL_law_934 ?_
  refine va_sld hx hb hX9 hbl hbA hS (xvp (t := i + 1) (by omega) (by omega) hn) dL_law_935 ?_
  obtain ⟨p_1, h_2, r_3⟩ : ∃ y : Int, xs (iI (i + 1)).toNatClampNeg = iI y ∧ rg y := ⟨_, iI_of _, rg_of _⟩
  refine jt_i (iI p_1) h_2 ?_
  refine lv_aload_n hx hb dL_law_936 rfl (lv_at hl 3 rfl) ?_
  refine lv_iload_n hx hb dL_law_937 rfl (lv_at hl 0 rfl) ?_
  refine lv_iconst (v := iI 2) hx hb dL_law_938 rfl ?_
  refine xr_add hx hb dL_law_939 ?_
  refine va_sld hx hb hX9 hbl hbA hS (xvp (t := i + 2) (by omega) (by omega) hn) dL_law_940 ?_
  obtain ⟨p_4, h_5, r_6⟩ : ∃ y : Int, xs (iI (i + 2)).toNatClampNeg = iI y ∧ rg y := ⟨_, iI_of _, rg_of _⟩
  refine jt_i (iI p_4) h_5 ?_
  refine lv_aload_n hx hb dL_law_941 rfl (lv_at hl 3 rfl) ?_
  refine lv_iload_n hx hb dL_law_942 rfl (lv_at hl 0 rfl) ?_
  refine lv_iconst (v := iI 3) hx hb dL_law_943 rfl ?_
  refine xr_add hx hb dL_law_944 ?_
  refine va_sld hx hb hX9 hbl hbA hS (xvp (t := i + 3) (by omega) (by omega) hn) dL_law_945 ?_
  obtain ⟨p_7, h_8, r_9⟩ : ∃ y : Int, xs (iI (i + 3)).toNatClampNeg = iI y ∧ rg y := ⟨_, iI_of _, rg_of _⟩
  refine jt_i (iI p_7) h_8 ?_
  have hPx := jp_tail hP
  have hDx := jd_tail hD
  refine jct_i (va_runV (As := [.int (iI p_1), .int (iI p_4), .int (iI p_7)]) (rest := []) ⟨hx, hb, hml, hown, hts⟩ (sX12_line l dC dI _ L cid K N tW sK sV v z0 p_1 p_4 p_7 hI hz r_3 r_6 r_9) (cwV 3 hts (jgoodVL m_1515 m_1516 m_1517 m_873 m_1518) rfl rfl rfl (by decide +kernel) ⟨(Nat.le_of_ble_eq_true rfl), (Nat.le_of_ble_eq_true rfl)⟩) ⟨xP_blind, xrecv hKx hPx hz rfl rfl, fun U hU hW => ⟨rfl, xP_of hU hW hPx hKx hDx hXx hS (fun _ h => h) hA⟩⟩ rfl rfl hl.1 rfl (lv_room (Nat.le_of_ble_eq_true rfl)) dL_law_946 ⟨(show nc + 1 ≤ 600000 by omega), (show ns + 9 ≤ 7302250 by omega)⟩) hP hD hS hA (fun r u_13 H locs w_11 hP hKx hD hS => ?_)
  obtain ⟨L_14, K_15, N_16, v_17⟩ := u_13
  obtain ⟨x_10, rfl, I_18, E_19, f_20, f_12⟩ := w_11
  have hP : va_P (dC, dI) vwCl (mG am cm g a ++ xG L_14 cid K_15 N_16 v_17) H := hP
  have hD : va_D (fun q : Nat => s.heap.size ≤ q) (mG am cm g a ++ xG L_14 cid K_15 N_16 v_17) := hD
  have I_18 : xI L_14 K_15 N_16 v_17 := I_18
  have E_19 : xE L K N L_14 K_15 N_16 := E_19
  have f_20 : frE L K [(0, 15), (0, 16), (0, 17), (2, 5), (4, 3), (4, 4), (4, 5), (4, 6), (4, 8), (12, 13), (33, (-1)), (34, (-1)), (39, (-1)), (99, 0)] v_17 v := f_20
  have h_22 : v_17 z0 0 = g 30 := (frE_use hz f_20 rfl).trans hnow
  have h_23 : v_17 z0 11 = g 50 := (frE_use hz f_20 rfl).trans hhands
  have h_25 : ok L K (v z0 19) 10 := xf_12_19 hI hz
  have b_26 : v_17 z0 19 = v z0 19 := frE_use hz f_20 rfl
  have b_27 : v_17 (v z0 19) 1 = v (v z0 19) 1 := frE_use h_25 f_20 rfl
  have h_24 : v_17 (v_17 z0 19) 1 = g 78 := by rw [b_26, b_27]; exact hstolen
  have h_29 : ok L K (v z0 14) 5 := xf_12_14 hI hz
  have b_30 : v_17 z0 14 = v z0 14 := frE_use hz f_20 rfl
  have b_31 : v_17 (v z0 14) 5 = v (v z0 14) 5 := frE_use h_29 f_20 rfl
  have h_28 : v_17 (v_17 z0 14) 5 = g 66 := by rw [b_30, b_31]; exact htold
  have h_33 : ok L K (v z0 2) 7 := xf_12_2 hI hz
  have b_34 : v_17 z0 2 = v z0 2 := frE_use hz f_20 rfl
  have b_35 : v_17 (v z0 2) 1 = v (v z0 2) 1 := frE_use h_33 f_20 rfl
  have h_32 : v_17 (v_17 z0 2) 1 = g 1 := by rw [b_34, b_35]; exact hsize
  have h_37 : ok L K (v z0 3) 8 := xf_12_3 hI hz
  have b_38 : v_17 z0 3 = v z0 3 := frE_use hz f_20 rfl
  have b_39 : v_17 (v z0 3) 1 = v (v z0 3) 1 := frE_use h_37 f_20 rfl
  have h_36 : v_17 (v_17 z0 3) 1 = g 18 := by rw [b_38, b_39]; exact hsheets
  have h_40 : rSub v_17 z0 a := rSub_x hI hz f_20 rfl (fun _ => rfl) hsub
  have h_41 : rHand v_17 z0 g a := rHand_x hI hz f_20 rfl (fun _ => rfl) rfl hhd
  have h_42 : rNews v_17 z0 g a := rNews_x hI hz f_20 rfl (fun _ => rfl) (fun _ => rfl) (fun _ => rfl) (fun _ => rfl) (fun _ => rfl) rfl rfl rfl rfl rfl hnw
  have h_43 : rTxt v_17 z0 g a := rTxt_x hI hz f_20 rfl rfl rfl (fun _ => rfl) htx
  have h_21 := xE_ok E_19 hz
  refine lv_pop hx hb dL_law_949 rfl ?_
  refine lv_aload_n hx hb dL_law_950 rfl (lv_at hl 1 rfl) ?_
  refine lv_aload_n hx hb dL_law_951 rfl (lv_at hl 3 rfl) ?_
  refine lv_iload_n hx hb dL_law_952 rfl (lv_at hl 0 rfl) ?_
  refine lv_iconst (v := iI 1) hx hb dL_law_953 rfl ?_
  refine xr_add hx hb dL_law_954 ?_
  refine va_sld hx hb hX9 hbl hbA hS (xvp (t := i + 1) (by omega) (by omega) hn) dL_law_955 ?_
  refine jt_i (iI p_1) h_2 ?_
  refine lv_aload_n hx hb dL_law_956 rfl (lv_at hl 3 rfl) ?_
  refine lv_iload_n hx hb dL_law_957 rfl (lv_at hl 0 rfl) ?_
  refine lv_iconst (v := iI 2) hx hb dL_law_958 rfl ?_
  refine xr_add hx hb dL_law_959 ?_
  refine va_sld hx hb hX9 hbl hbA hS (xvp (t := i + 2) (by omega) (by omega) hn) dL_law_960 ?_
  refine jt_i (iI p_4) h_5 ?_
  refine lv_aload_n hx hb dL_law_961 rfl (lv_at hl 3 rfl) ?_
  refine lv_iload_n hx hb dL_law_962 rfl (lv_at hl 0 rfl) ?_
  refine lv_iconst (v := iI 3) hx hb dL_law_963 rfl ?_
  refine xr_add hx hb dL_law_964 ?_
  refine va_sld hx hb hX9 hbl hbA hS (xvp (t := i + 3) (by omega) (by omega) hn) dL_law_965 ?_
  refine jt_i (iI p_7) h_8 ?_
  obtain ⟨hP, hD⟩ := lsw hP hD
  have hPm := jp_tail hP
  have hDm := jd_tail hD
  refine jct_i (va_runV (As := [.int (iI p_1), .int (iI p_4), .int (iI p_7)]) (rest := []) ⟨hx, hb, hml, hown, hts⟩ (sX13_line l dC dI _ am cm g a p_1 p_4 p_7 hM r_3 r_6 r_9 hrSh hrLine) (cwV 3 hts (jgoodVL m_1519 m_416 m_417 m_503 m_175) rfl rfl rfl (by decide +kernel) ⟨(Nat.le_of_ble_eq_true rfl), (Nat.le_of_ble_eq_true rfl)⟩) ⟨jw_blind, va_recv hKm hPm (ci := 13) (q0 := 0) rfl rfl, fun U hU hW => ⟨rfl, jw_of hU hW hPm hKm hDm⟩⟩ rfl rfl hl.1 rfl (lv_room (Nat.le_of_ble_eq_true rfl)) dL_law_966 ⟨(show nc + 1 + 0 ≤ 600000 by omega), (show ns + 9 + 0 ≤ 7302250 by omega)⟩) hP hD hS hA (fun r u_46 H locs w_45 hP hKm hD hS => ?_)
  obtain ⟨g_47, a_48⟩ := u_46
  obtain ⟨y_44, rfl, h_49, h_50, h_51, h_52, h_53⟩ := w_45
  have hP : va_P (dC, dI) vwCl (xG L_14 cid K_15 N_16 v_17 ++ mG am cm g_47 a_48) H := hP
  have hD : va_D (fun q : Nat => s.heap.size ≤ q) (xG L_14 cid K_15 N_16 v_17 ++ mG am cm g_47 a_48) := hD
  have h_49 : mI g_47 a_48 := h_49
  have h_54 : rLine g_47 a_48 := h_53
  have h_55 : rLead g_47 a_48 := rLead_t (h_50 37 (by decide)) (h_51 27 (by decide)) (h_51 31 (by decide)) hrLead
  have h_56 : rSkill g_47 a_48 := rSkill_t (h_50 50 (by decide)) (h_51 38 (by decide)) hrSkill
  have h_57 : rSh g_47 a_48 := rSh_t (h_50 18 (by decide)) (h_50 26 (by decide)) (h_51 9 (by decide)) (h_51 10 (by decide)) (h_51 11 (by decide)) (h_51 12 (by decide)) (h_51 16 (by decide)) hrSh
  have h_58 : v_17 z0 0 = g_47 30 := h_22.trans (h_50 30 (by decide)).symm
  have h_59 : v_17 z0 11 = g_47 50 := h_23.trans (h_50 50 (by decide)).symm
  have h_60 : v_17 (v_17 z0 19) 1 = g_47 78 := h_24.trans (h_50 78 (by decide)).symm
  have h_61 : v_17 (v_17 z0 14) 5 = g_47 66 := h_28.trans (h_50 66 (by decide)).symm
  have h_62 : v_17 (v_17 z0 2) 1 = g_47 1 := h_32.trans (h_50 1 (by decide)).symm
  have h_63 : v_17 (v_17 z0 3) 1 = g_47 18 := h_36.trans (h_50 18 (by decide)).symm
  have h_64 : rSub v_17 z0 a_48 := rSub_m (h_51 60 (by decide)) h_40
  have h_65 : rHand v_17 z0 g_47 a_48 := rHand_m (h_50 50 (by decide)) (h_51 41 (by decide)) h_41
  have h_66 : rNews v_17 z0 g_47 a_48 := rNews_m (h_50 66 (by decide)) (h_51 51 (by decide)) (h_51 52 (by decide)) (h_51 53 (by decide)) (h_51 54 (by decide)) h_42
  have h_67 : rTxt v_17 z0 g_47 a_48 := rTxt_m (h_50 1 (by decide)) (h_51 1 (by decide)) h_43
  obtain ⟨hP, hD⟩ := lsw hP hD
  refine lv_pop hx hb dL_law_969 rfl ?_
  refine lv_goto (tgt := 1804) hx hb dL_law_970 (by decide) ?_
  exact kk L_14 K_15 N_16 v_17 g_47 a_48 _ _ H locs h_21 I_18 h_49 h_54 h_55 h_56 h_57 h_58 h_59 h_60 h_61 h_62 h_63 h_64 h_65 h_66 h_67 (by omega) (by omega) hP hD hS
set_option maxHeartbeats 4000000 in
set_option maxRecDepth 100000 in
theorem lc_21 {p : Program} {l : Launch} {e : Env} {s : State} {m : MethodId} {below : List Frame} {meth : Method} {c : Code} {b n : Nat} {xs : Nat → Int32} (C0 : lw_At p s m meth c b n xs) (hn : n ≤ 3072) {dC : Nat → ClassId} {dI : Nat → Nat → Nat} {am : Nat → Nat} {cm cid : Nat → ClassId} {tW : Nat} {sK sV : Nat → Nat} (hXx : xX tW sK sV (fun q : Nat => s.heap.size ≤ q) s s.heap) (hKx : va_K (dC, dI) vwCl (xT cid) s) (hKm : va_K (dC, dI) vwCl (mT cm) s) {z0 : Int} {i : Int} (hi0 : 0 ≤ i) (hi : i + 6 ≤ n) {L : List Nat} {K : Int → Nat} {N : Int → Int} {v : Int → Int → Int} {g : Nat → Int} {a : Nat → Int → Int} (hz : ok L K z0 12) (hI : xI L K N v) (hM : mI g a) (hrLine : rLine g a) (hrLead : rLead g a) (hrSkill : rSkill g a) (hrSh : rSh g a) (hnow : v z0 0 = g 30) (hhands : v z0 11 = g 50) (hstolen : v (v z0 19) 1 = g 78) (htold : v (v z0 14) 5 = g 66) (hsize : v (v z0 2) 1 = g 1) (hsheets : v (v z0 3) 1 = g 18) (hsub : rSub v z0 a) (hhd : rHand v z0 g a) (hnw : rNews v z0 g a) (htx : rTxt v z0 g a) {nc ns : Nat} (hc : nc + 5 ≤ 600000) (hs : ns + 12100 ≤ 7302250) {H : Heap} {locs : List Loc} {ls : Array Slot} (hP : va_P (dC, dI) vwCl (mG am cm g a ++ xG L cid K N v) H) (hD : va_D (fun q : Nat => s.heap.size ≤ q) (mG am cm g a ++ xG L cid K N v)) (hS : va_S (fun q : Nat => s.heap.size ≤ q) s.heap H locs) (hl : lv_has ls 4 [(3, .int (iI i)), (2, .ref (am 0)), (1, .ref z0.toNat), (0, .ref b)])
    (kk : ∀ (L : List Nat) (K : Int → Nat) (N : Int → Int) (v : Int → Int → Int) (g : Nat → Int) (a : Nat → Int → Int) (nc1 ns1 : Nat) (H : Heap) (locs : List Loc), ok L K z0 12 → xI L K N v → mI g a → rLine g a → rLead g a → rSkill g a → rSh g a → v z0 0 = g 30 → v z0 11 = g 50 → v (v z0 19) 1 = g 78 → v (v z0 14) 5 = g 66 → v (v z0 2) 1 = g 1 → v (v z0 3) 1 = g 18 → rSub v z0 a → rHand v z0 g a → rNews v z0 g a → rTxt v z0 g a → nc1 ≤ nc + 5 → ns1 ≤ ns + 12100 → va_P (dC, dI) vwCl (mG am cm g a ++ xG L cid K N v) H → va_D (fun q : Nat => s.heap.size ≤ q) (mG am cm g a ++ xG L cid K N v) → va_S (fun q : Nat => s.heap.size ≤ q) s.heap H locs → W p l e room_1 s m #[Value.ref b] below meth c H locs nc1 ns1 (lw_Z below #[Value.ref b] s) (F0 m 1804 ls [])) : W p l e room_1 s m #[Value.ref b] below meth c H locs nc ns (lw_Z below #[Value.ref b] s) (F0 m 973 ls []) := by
  obtain ⟨hx, hb, hr, hml, hown, hts, hX9, hbl, hlocks, hgv⟩ := id C0
  have hA : ∀ q : Nat, s.heap.size ≤ q → (fun q : Nat => s.heap.size ≤ q) q := fun _ h => h
  have hbA : ¬ (fun q : Nat => s.heap.size ≤ q) b := Nat.not_le.mpr hbl
  refine lv_aload_n hx hb dL_law_973 rfl (lv_at hl 2 rfl) ?_
  refine lv_aload_n hx hb dL_law_974 rfl (lv_at hl 3 rfl) ?_
  refine lv_iload_n hx hb dL_law_975 rfl (lv_at hl 0 rfl) ?_
  refine lv_iconst (v := iI 1) hx hb dL_law_976 rfl ?_
  refine xr_add hx hb dL_law_977 ?_
  refine va_sld hx hb hX9 hbl hbA hS (xvp (t := i + 1) (by omega) (by omega) hn) dL_law_978 ?_
  obtain ⟨p_1, h_2, r_3⟩ : ∃ y : Int, xs (iI (i + 1)).toNatClampNeg = iI y ∧ rg y := ⟨_, iI_of _, rg_of _⟩
  refine jt_i (iI p_1) h_2 ?_
  have hPx := jp_tail hP
  have hDx := jd_tail hD
  refine jct_i (va_runV (As := [.int (iI p_1)]) (rest := []) ⟨hx, hb, hml, hown, hts⟩ (sX12_die l dC dI _ L cid K N tW sK sV v z0 p_1 hI hz r_3) (cwV 1 hts (jgoodVL m_1520 m_1521 m_1522 m_873 m_1523) rfl rfl rfl (by decide +kernel) ⟨(Nat.le_of_ble_eq_true rfl), (Nat.le_of_ble_eq_true rfl)⟩) ⟨xP_blind, xrecv hKx hPx hz rfl rfl, fun U hU hW => ⟨rfl, xP_of hU hW hPx hKx hDx hXx hS (fun _ h => h) hA⟩⟩ rfl rfl hl.1 rfl (lv_room (Nat.le_of_ble_eq_true rfl)) dL_law_979 ⟨(show nc + 0 ≤ 600000 by omega), (show ns + 0 ≤ 7302250 by omega)⟩) hP hD hS hA (fun r v_7 H locs w_5 hP hKx hD hS => ?_)
  obtain ⟨x_4, rfl, I_8, f_9, f_6⟩ := w_5
  have hP : va_P (dC, dI) vwCl (mG am cm g a ++ xG L cid K N v_7) H := hP
  have hD : va_D (fun q : Nat => s.heap.size ≤ q) (mG am cm g a ++ xG L cid K N v_7) := hD
  have h_10 : v_7 z0 0 = g 30 := (fr_use hz f_9 rfl).trans hnow
  have h_11 : v_7 z0 11 = g 50 := (fr_use hz f_9 rfl).trans hhands
  have h_13 : ok L K (v z0 19) 10 := xf_12_19 hI hz
  have b_14 : v_7 z0 19 = v z0 19 := fr_use hz f_9 rfl
  have b_15 : v_7 (v z0 19) 1 = v (v z0 19) 1 := fr_use h_13 f_9 rfl
  have h_12 : v_7 (v_7 z0 19) 1 = g 78 := by rw [b_14, b_15]; exact hstolen
  have h_17 : ok L K (v z0 14) 5 := xf_12_14 hI hz
  have b_18 : v_7 z0 14 = v z0 14 := fr_use hz f_9 rfl
  have b_19 : v_7 (v z0 14) 5 = v (v z0 14) 5 := fr_use h_17 f_9 rfl
  have h_16 : v_7 (v_7 z0 14) 5 = g 66 := by rw [b_18, b_19]; exact htold
  have h_21 : ok L K (v z0 2) 7 := xf_12_2 hI hz
  have b_22 : v_7 z0 2 = v z0 2 := fr_use hz f_9 rfl
  have b_23 : v_7 (v z0 2) 1 = v (v z0 2) 1 := fr_use h_21 f_9 rfl
  have h_20 : v_7 (v_7 z0 2) 1 = g 1 := by rw [b_22, b_23]; exact hsize
  have h_25 : ok L K (v z0 3) 8 := xf_12_3 hI hz
  have b_26 : v_7 z0 3 = v z0 3 := fr_use hz f_9 rfl
  have b_27 : v_7 (v z0 3) 1 = v (v z0 3) 1 := fr_use h_25 f_9 rfl
  have h_24 : v_7 (v_7 z0 3) 1 = g 18 := by rw [b_26, b_27]; exact hsheets
  have h_28 : rSub v_7 z0 a := rSub_x hI hz (frE_of f_9) rfl (fun _ => rfl) hsub
  have h_29 : rHand v_7 z0 g a := rHand_x hI hz (frE_of f_9) rfl (fun _ => rfl) rfl hhd
  have h_30 : rNews v_7 z0 g a := rNews_x hI hz (frE_of f_9) rfl (fun _ => rfl) (fun _ => rfl) (fun _ => rfl) (fun _ => rfl) (fun _ => rfl) rfl rfl rfl rfl rfl hnw
  have h_31 : rTxt v_7 z0 g a := rTxt_x hI hz (frE_of f_9) rfl rfl rfl (fun _ => rfl) htx
  refine lv_pop hx hb dL_law_982 rfl ?_
  refine lv_aload_n hx hb dL_law_983 rfl (lv_at hl 1 rfl) ?_
  refine lv_aload_n hx hb dL_law_984 rfl (lv_at hl 3 rfl) ?_
  refine lv_iload_n hx hb dL_law_985 rfl (lv_at hl 0 rfl) ?_
  refine lv_iconst (v := iI 1) hx hb dL_law_986 rfl ?_
  refine xr_add hx hb dL_law_987 ?_
  refine va_sld hx hb hX9 hbl hbA hS (xvp (t := i + 1) (by omega) (by omega) hn) dL_law_988 ?_
  refine jt_i (iI p_1) h_2 ?_
  obtain ⟨hP, hD⟩ := lsw hP hD
  have hPm := jp_tail hP
  have hDm := jd_tail hD
  refine jct_i (va_runV (As := [.int (iI p_1)]) (rest := []) ⟨hx, hb, hml, hown, hts⟩ (sX13_die l dC dI _ am cm g a p_1 hM r_3) (cwV 1 hts (jgoodVL m_1524 m_320 m_321 m_503 m_125) rfl rfl rfl (by decide +kernel) ⟨(Nat.le_of_ble_eq_true rfl), (Nat.le_of_ble_eq_true rfl)⟩) ⟨jw_blind, va_recv hKm hPm (ci := 13) (q0 := 0) rfl rfl, fun U hU hW => ⟨rfl, jw_of hU hW hPm hKm hDm⟩⟩ rfl rfl hl.1 rfl (lv_room (Nat.le_of_ble_eq_true rfl)) dL_law_989 ⟨(show nc + 0 ≤ 600000 by omega), (show ns + 0 ≤ 7302250 by omega)⟩) hP hD hS hA (fun r u_34 H locs w_33 hP hKm hD hS => ?_)
  obtain ⟨g_35, a_36⟩ := u_34
  obtain ⟨y_32, rfl, h_37, h_38, h_39, h_40⟩ := w_33
  have hP : va_P (dC, dI) vwCl (xG L cid K N v_7 ++ mG am cm g_35 a_36) H := hP
  have hD : va_D (fun q : Nat => s.heap.size ≤ q) (xG L cid K N v_7 ++ mG am cm g_35 a_36) := hD
  have h_37 : g_35 = g := h_37
  have h_38 : mI g_35 a_36 := h_38
  have h_41 : rLine g_35 a_36 := rLine_t (congrFun h_37 56) (h_39 45 (by decide)) hrLine
  have h_42 : rLead g_35 a_36 := rLead_t (congrFun h_37 37) (h_39 27 (by decide)) (h_39 31 (by decide)) hrLead
  have h_43 : rSkill g_35 a_36 := rSkill_t (congrFun h_37 50) (h_39 38 (by decide)) hrSkill
  have h_44 : rSh g_35 a_36 := rSh_t (congrFun h_37 18) (congrFun h_37 26) (h_39 9 (by decide)) (h_39 10 (by decide)) (h_39 11 (by decide)) (h_39 12 (by decide)) (h_39 16 (by decide)) hrSh
  have h_45 : v_7 z0 0 = g_35 30 := h_10.trans (congrFun h_37 30).symm
  have h_46 : v_7 z0 11 = g_35 50 := h_11.trans (congrFun h_37 50).symm
  have h_47 : v_7 (v_7 z0 19) 1 = g_35 78 := h_12.trans (congrFun h_37 78).symm
  have h_48 : v_7 (v_7 z0 14) 5 = g_35 66 := h_16.trans (congrFun h_37 66).symm
  have h_49 : v_7 (v_7 z0 2) 1 = g_35 1 := h_20.trans (congrFun h_37 1).symm
  have h_50 : v_7 (v_7 z0 3) 1 = g_35 18 := h_24.trans (congrFun h_37 18).symm
  have h_51 : rSub v_7 z0 a_36 := rSub_m (h_39 60 (by decide)) h_28
  have h_52 : rHand v_7 z0 g_35 a_36 := rHand_m (congrFun h_37 50) (h_39 41 (by decide)) h_29
  have h_53 : rNews v_7 z0 g_35 a_36 := rNews_m (congrFun h_37 66) (h_39 51 (by decide)) (h_39 52 (by decide)) (h_39 53 (by decide)) (h_39 54 (by decide)) h_30
  have h_54 : rTxt v_7 z0 g_35 a_36 := rTxt_m (congrFun h_37 1) (h_39 1 (by decide)) h_31
  obtain ⟨hP, hD⟩ := lsw hP hD
  refine lv_pop hx hb dL_law_992 rfl ?_
  refine lv_goto (tgt := 1804) hx hb dL_law_993 (by decide) ?_
  exact kk L K N v_7 g_35 a_36 _ _ H locs hz I_8 h_38 h_41 h_42 h_43 h_44 h_45 h_46 h_47 h_48 h_49 h_50 h_51 h_52 h_53 h_54 (by omega) (by omega) hP hD hS
set_option maxHeartbeats 4000000 in
set_option maxRecDepth 100000 in
theorem lc_22 {p : Program} {l : Launch} {e : Env} {s : State} {m : MethodId} {below : List Frame} {meth : Method} {c : Code} {b n : Nat} {xs : Nat → Int32} (C0 : lw_At p s m meth c b n xs) (hn : n ≤ 3072) {dC : Nat → ClassId} {dI : Nat → Nat → Nat} {am : Nat → Nat} {cm cid : Nat → ClassId} {tW : Nat} {sK sV : Nat → Nat} (hXx : xX tW sK sV (fun q : Nat => s.heap.size ≤ q) s s.heap) (hKx : va_K (dC, dI) vwCl (xT cid) s) (hKm : va_K (dC, dI) vwCl (mT cm) s) {z0 : Int} {i : Int} (hi0 : 0 ≤ i) (hi : i + 6 ≤ n) {L : List Nat} {K : Int → Nat} {N : Int → Int} {v : Int → Int → Int} {g : Nat → Int} {a : Nat → Int → Int} (hz : ok L K z0 12) (hI : xI L K N v) (hM : mI g a) (hrLine : rLine g a) (hrLead : rLead g a) (hrSkill : rSkill g a) (hrSh : rSh g a) (hnow : v z0 0 = g 30) (hhands : v z0 11 = g 50) (hstolen : v (v z0 19) 1 = g 78) (htold : v (v z0 14) 5 = g 66) (hsize : v (v z0 2) 1 = g 1) (hsheets : v (v z0 3) 1 = g 18) (hsub : rSub v z0 a) (hhd : rHand v z0 g a) (hnw : rNews v z0 g a) (htx : rTxt v z0 g a) {nc ns : Nat} (hc : nc + 5 ≤ 600000) (hs : ns + 12100 ≤ 7302250) {H : Heap} {locs : List Loc} {ls : Array Slot} (hP : va_P (dC, dI) vwCl (mG am cm g a ++ xG L cid K N v) H) (hD : va_D (fun q : Nat => s.heap.size ≤ q) (mG am cm g a ++ xG L cid K N v)) (hS : va_S (fun q : Nat => s.heap.size ≤ q) s.heap H locs) (hl : lv_has ls 4 [(3, .int (iI i)), (2, .ref (am 0)), (1, .ref z0.toNat), (0, .ref b)])
    (kk : ∀ (L : List Nat) (K : Int → Nat) (N : Int → Int) (v : Int → Int → Int) (g : Nat → Int) (a : Nat → Int → Int) (nc1 ns1 : Nat) (H : Heap) (locs : List Loc), ok L K z0 12 → xI L K N v → mI g a → rLine g a → rLead g a → rSkill g a → rSh g a → v z0 0 = g 30 → v z0 11 = g 50 → v (v z0 19) 1 = g 78 → v (v z0 14) 5 = g 66 → v (v z0 2) 1 = g 1 → v (v z0 3) 1 = g 18 → rSub v z0 a → rHand v z0 g a → rNews v z0 g a → rTxt v z0 g a → nc1 ≤ nc + 5 → ns1 ≤ ns + 12100 → va_P (dC, dI) vwCl (mG am cm g a ++ xG L cid K N v) H → va_D (fun q : Nat => s.heap.size ≤ q) (mG am cm g a ++ xG L cid K N v) → va_S (fun q : Nat => s.heap.size ≤ q) s.heap H locs → W p l e room_1 s m #[Value.ref b] below meth c H locs nc1 ns1 (lw_Z below #[Value.ref b] s) (F0 m 1804 ls [])) : W p l e room_1 s m #[Value.ref b] below meth c H locs nc ns (lw_Z below #[Value.ref b] s) (F0 m 996 ls []) := by
  obtain ⟨hx, hb, hr, hml, hown, hts, hX9, hbl, hlocks, hgv⟩ := id C0
  have hA : ∀ q : Nat, s.heap.size ≤ q → (fun q : Nat => s.heap.size ≤ q) q := fun _ h => h
  have hbA : ¬ (fun q : Nat => s.heap.size ≤ q) b := Nat.not_le.mpr hbl
  refine lv_aload_n hx hb dL_law_996 rfl (lv_at hl 2 rfl) ?_
  refine lv_aload_n hx hb dL_law_997 rfl (lv_at hl 3 rfl) ?_
  refine lv_iload_n hx hb dL_law_998 rfl (lv_at hl 0 rfl) ?_
  refine lv_iconst (v := iI 1) hx hb dL_law_999 rfl ?_
  refine xr_add hx hb dL_law_1000 ?_
  refine va_sld hx hb hX9 hbl hbA hS (xvp (t := i + 1) (by omega) (by omega) hn) dL_law_1001 ?_
  obtain ⟨p_1, h_2, r_3⟩ : ∃ y : Int, xs (iI (i + 1)).toNatClampNeg = iI y ∧ rg y := ⟨_, iI_of _, rg_of _⟩
  refine jt_i (iI p_1) h_2 ?_
  have hPx := jp_tail hP
  have hDx := jd_tail hD
  refine jct_i (va_runV (As := [.int (iI p_1)]) (rest := []) ⟨hx, hb, hml, hown, hts⟩ (sX12_takers l dC dI _ L cid K N tW sK sV v z0 p_1 hI hz r_3) (cwV 1 hts (jgoodVL m_1525 m_1526 m_1527 m_873 m_1528) rfl rfl rfl (by decide +kernel) ⟨(Nat.le_of_ble_eq_true rfl), (Nat.le_of_ble_eq_true rfl)⟩) ⟨xP_blind, xrecv hKx hPx hz rfl rfl, fun U hU hW => ⟨rfl, xP_of hU hW hPx hKx hDx hXx hS (fun _ h => h) hA⟩⟩ rfl rfl hl.1 rfl (lv_room (Nat.le_of_ble_eq_true rfl)) dL_law_1002 ⟨(show nc + 0 ≤ 600000 by omega), (show ns + 0 ≤ 7302250 by omega)⟩) hP hD hS hA (fun r v_7 H locs w_5 hP hKx hD hS => ?_)
  obtain ⟨x_4, rfl, I_8, f_9, f_6⟩ := w_5
  have hP : va_P (dC, dI) vwCl (mG am cm g a ++ xG L cid K N v_7) H := hP
  have hD : va_D (fun q : Nat => s.heap.size ≤ q) (mG am cm g a ++ xG L cid K N v_7) := hD
  have h_10 : v_7 z0 0 = g 30 := (fr_use hz f_9 rfl).trans hnow
  have h_11 : v_7 z0 11 = g 50 := (fr_use hz f_9 rfl).trans hhands
  have h_13 : ok L K (v z0 19) 10 := xf_12_19 hI hz
  have b_14 : v_7 z0 19 = v z0 19 := fr_use hz f_9 rfl
  have b_15 : v_7 (v z0 19) 1 = v (v z0 19) 1 := fr_use h_13 f_9 rfl
  have h_12 : v_7 (v_7 z0 19) 1 = g 78 := by rw [b_14, b_15]; exact hstolen
  have h_17 : ok L K (v z0 14) 5 := xf_12_14 hI hz
  have b_18 : v_7 z0 14 = v z0 14 := fr_use hz f_9 rfl
  have b_19 : v_7 (v z0 14) 5 = v (v z0 14) 5 := fr_use h_17 f_9 rfl
  have h_16 : v_7 (v_7 z0 14) 5 = g 66 := by rw [b_18, b_19]; exact htold
  have h_21 : ok L K (v z0 2) 7 := xf_12_2 hI hz
  have b_22 : v_7 z0 2 = v z0 2 := fr_use hz f_9 rfl
  have b_23 : v_7 (v z0 2) 1 = v (v z0 2) 1 := fr_use h_21 f_9 rfl
  have h_20 : v_7 (v_7 z0 2) 1 = g 1 := by rw [b_22, b_23]; exact hsize
  have h_25 : ok L K (v z0 3) 8 := xf_12_3 hI hz
  have b_26 : v_7 z0 3 = v z0 3 := fr_use hz f_9 rfl
  have b_27 : v_7 (v z0 3) 1 = v (v z0 3) 1 := fr_use h_25 f_9 rfl
  have h_24 : v_7 (v_7 z0 3) 1 = g 18 := by rw [b_26, b_27]; exact hsheets
  have h_28 : rSub v_7 z0 a := rSub_x hI hz (frE_of f_9) rfl (fun _ => rfl) hsub
  have h_29 : rHand v_7 z0 g a := rHand_x hI hz (frE_of f_9) rfl (fun _ => rfl) rfl hhd
  have h_30 : rNews v_7 z0 g a := rNews_x hI hz (frE_of f_9) rfl (fun _ => rfl) (fun _ => rfl) (fun _ => rfl) (fun _ => rfl) (fun _ => rfl) rfl rfl rfl rfl rfl hnw
  have h_31 : rTxt v_7 z0 g a := rTxt_x hI hz (frE_of f_9) rfl rfl rfl (fun _ => rfl) htx
  refine lv_pop hx hb dL_law_1005 rfl ?_
  refine lv_aload_n hx hb dL_law_1006 rfl (lv_at hl 1 rfl) ?_
  refine lv_aload_n hx hb dL_law_1007 rfl (lv_at hl 3 rfl) ?_
  refine lv_iload_n hx hb dL_law_1008 rfl (lv_at hl 0 rfl) ?_
  refine lv_iconst (v := iI 1) hx hb dL_law_1009 rfl ?_
  refine xr_add hx hb dL_law_1010 ?_
  refine va_sld hx hb hX9 hbl hbA hS (xvp (t := i + 1) (by omega) (by omega) hn) dL_law_1011 ?_
  refine jt_i (iI p_1) h_2 ?_
  obtain ⟨hP, hD⟩ := lsw hP hD
  have hPm := jp_tail hP
  have hDm := jd_tail hD
  refine jct_i (va_runV (As := [.int (iI p_1)]) (rest := []) ⟨hx, hb, hml, hown, hts⟩ (sX13_takers l dC dI _ am cm g a p_1 hM r_3 hrSh) (cwV 1 hts (jgoodVL m_1529 m_478 m_479 m_503 m_207) rfl rfl rfl (by decide +kernel) ⟨(Nat.le_of_ble_eq_true rfl), (Nat.le_of_ble_eq_true rfl)⟩) ⟨jw_blind, va_recv hKm hPm (ci := 13) (q0 := 0) rfl rfl, fun U hU hW => ⟨rfl, jw_of hU hW hPm hKm hDm⟩⟩ rfl rfl hl.1 rfl (lv_room (Nat.le_of_ble_eq_true rfl)) dL_law_1012 ⟨(show nc + 0 ≤ 600000 by omega), (show ns + 0 ≤ 7302250 by omega)⟩) hP hD hS hA (fun r u_34 H locs w_33 hP hKm hD hS => ?_)
  obtain ⟨g_35, a_36⟩ := u_34
  obtain ⟨y_32, rfl, h_37, h_38, h_39, h_40⟩ := w_33
  have hP : va_P (dC, dI) vwCl (xG L cid K N v_7 ++ mG am cm g_35 a_36) H := hP
  have hD : va_D (fun q : Nat => s.heap.size ≤ q) (xG L cid K N v_7 ++ mG am cm g_35 a_36) := hD
  have h_37 : g_35 = g := h_37
  have h_38 : mI g_35 a_36 := h_38
  have h_41 : rLine g_35 a_36 := rLine_t (congrFun h_37 56) (h_39 45 (by decide)) hrLine
  have h_42 : rLead g_35 a_36 := rLead_t (congrFun h_37 37) (h_39 27 (by decide)) (h_39 31 (by decide)) hrLead
  have h_43 : rSkill g_35 a_36 := rSkill_t (congrFun h_37 50) (h_39 38 (by decide)) hrSkill
  have h_44 : rSh g_35 a_36 := rSh_t (congrFun h_37 18) (congrFun h_37 26) (h_39 9 (by decide)) (h_39 10 (by decide)) (h_39 11 (by decide)) (h_39 12 (by decide)) (h_39 16 (by decide)) hrSh
  have h_45 : v_7 z0 0 = g_35 30 := h_10.trans (congrFun h_37 30).symm
  have h_46 : v_7 z0 11 = g_35 50 := h_11.trans (congrFun h_37 50).symm
  have h_47 : v_7 (v_7 z0 19) 1 = g_35 78 := h_12.trans (congrFun h_37 78).symm
  have h_48 : v_7 (v_7 z0 14) 5 = g_35 66 := h_16.trans (congrFun h_37 66).symm
  have h_49 : v_7 (v_7 z0 2) 1 = g_35 1 := h_20.trans (congrFun h_37 1).symm
  have h_50 : v_7 (v_7 z0 3) 1 = g_35 18 := h_24.trans (congrFun h_37 18).symm
  have h_51 : rSub v_7 z0 a_36 := rSub_m (h_39 60 (by decide)) h_28
  have h_52 : rHand v_7 z0 g_35 a_36 := rHand_m (congrFun h_37 50) (h_39 41 (by decide)) h_29
  have h_53 : rNews v_7 z0 g_35 a_36 := rNews_m (congrFun h_37 66) (h_39 51 (by decide)) (h_39 52 (by decide)) (h_39 53 (by decide)) (h_39 54 (by decide)) h_30
  have h_54 : rTxt v_7 z0 g_35 a_36 := rTxt_m (congrFun h_37 1) (h_39 1 (by decide)) h_31
  obtain ⟨hP, hD⟩ := lsw hP hD
  refine lv_pop hx hb dL_law_1015 rfl ?_
  refine lv_goto (tgt := 1804) hx hb dL_law_1016 (by decide) ?_
  exact kk L K N v_7 g_35 a_36 _ _ H locs hz I_8 h_38 h_41 h_42 h_43 h_44 h_45 h_46 h_47 h_48 h_49 h_50 h_51 h_52 h_53 h_54 (by omega) (by omega) hP hD hS
