set_option maxHeartbeats 4000000 in
set_option maxRecDepth 100000 in
theorem lc_0 {p : Program} {l : Launch} {e : Env} {s : State} {m : MethodId} {below : List Frame} {meth : Method} {c : Code} {b n : Nat} {xs : Nat → Int32} (C0 : lw_At p s m meth c b n xs) (hn : n ≤ 3072) {dC : Nat → ClassId} {dI : Nat → Nat → Nat} {am : Nat → Nat} {cm cid : Nat → ClassId} {tW : Nat} {sK sV : Nat → Nat} (hXx : xX tW sK sV (fun q : Nat => s.heap.size ≤ q) s s.heap) (hKx : va_K (dC, dI) vwCl (xT cid) s) (hKm : va_K (dC, dI) vwCl (mT cm) s) {z0 : Int} {i : Int} (hi0 : 0 ≤ i) (hi : i + 6 ≤ n) {L : List Nat} {K : Int → Nat} {N : Int → Int} {v : Int → Int → Int} {g : Nat → Int} {a : Nat → Int → Int} (hz : ok L K z0 12) (hI : xI L K N v) (hM : mI g a) (hrLine : rLine g a) (hrLead : rLead g a) (hrSkill : rSkill g a) (hrSh : rSh g a) (hnow : v z0 0 = g 30) (hhands : v z0 11 = g 50) (hstolen : v (v z0 19) 1 = g 78) (htold : v (v z0 14) 5 = g 66) (hsize : v (v z0 2) 1 = g 1) (hsheets : v (v z0 3) 1 = g 18) (hsub : rSub v z0 a) (hhd : rHand v z0 g a) (hnw : rNews v z0 g a) (htx : rTxt v z0 g a) {nc ns : Nat} (hc : nc + 5 ≤ 600000) (hs : ns + 12100 ≤ 7302250) {H : Heap} {locs : List Loc} {ls : Array Slot} (hP : va_P (dC, dI) vwCl (mG am cm g a ++ xG L cid K N v) H) (hD : va_D (fun q : Nat => s.heap.size ≤ q) (mG am cm g a ++ xG L cid K N v)) (hS : va_S (fun q : Nat => s.heap.size ≤ q) s.heap H locs) (hl : lv_has ls 4 [(3, .int (iI i)), (2, .ref (am 0)), (1, .ref z0.toNat), (0, .ref b)])
    (kk : ∀ (L : List Nat) (K : Int → Nat) (N : Int → Int) (v : Int → Int → Int) (g : Nat → Int) (a : Nat → Int → Int) (nc1 ns1 : Nat) (H : Heap) (locs : List Loc), ok L K z0 12 → xI L K N v → mI g a → rLine g a → rLead g a → rSkill g a → rSh g a → v z0 0 = g 30 → v z0 11 = g 50 → v (v z0 19) 1 = g 78 → v (v z0 14) 5 = g 66 → v (v z0 2) 1 = g 1 → v (v z0 3) 1 = g 18 → rSub v z0 a → rHand v z0 g a → rNews v z0 g a → rTxt v z0 g a → nc1 ≤ nc + 5 → ns1 ≤ ns + 12100 → va_P (dC, dI) vwCl (mG am cm g a ++ xG L cid K N v) H → va_D (fun q : Nat => s.heap.size ≤ q) (mG am cm g a ++ xG L cid K N v) → va_S (fun q : Nat => s.heap.size ≤ q) s.heap H locs → W p l e room_1 s m #[Value.ref b] below meth c H locs nc1 ns1 (lw_Z below #[Value.ref b] s) (F0 m 1804 ls [])) : W p l e room_1 s m #[Value.ref b] below meth c H locs nc ns (lw_Z below #[Value.ref b] s) (F0 m 240 ls []) := by
  obtain ⟨hx, hb, hr, hml, hown, hts, hX9, hbl, hlocks, hgv⟩ := id C0
  have hA : ∀ q : Nat, s.heap.size ≤ q → (fun q : Nat => s.heap.size ≤ q) q := fun _ h => h
  have hbA : ¬ (fun q : Nat => s.heap.size ≤ q) b := Nat.not_le.mpr hbl
  refine lv_aload_n hx hb dL_law_240 rfl (lv_at hl 2 rfl) ?_
  refine lv_aload_n hx hb dL_law_241 rfl (lv_at hl 3 rfl) ?_
  refine lv_iload_n hx hb dL_law_242 rfl (lv_at hl 0 rfl) ?_
  refine lv_iconst (v := iI 1) hx hb dL_law_243 rfl ?_
  refine xr_add hx hb dL_law_244 ?_
  refine va_sld hx hb hX9 hbl hbA hS (xvp (t := i + 1) (by omega) (by omega) hn) dL_law_245 ?_
  obtain ⟨p_1, h_2, r_3⟩ : ∃ y : Int, xs (iI (i + 1)).toNatClampNeg = iI y ∧ rg y := ⟨_, iI_of _, rg_of _⟩
  refine jt_i (iI p_1) h_2 ?_
  refine lv_aload_n hx hb dL_law_246 rfl (lv_at hl 3 rfl) ?_
  refine lv_iload_n hx hb dL_law_247 rfl (lv_at hl 0 rfl) ?_
  refine lv_iconst (v := iI 2) hx hb dL_law_248 rfl ?_
  refine xr_add hx hb dL_law_249 ?_
  refine va_sld hx hb hX9 hbl hbA hS (xvp (t := i + 2) (by omega) (by omega) hn) dL_law_250 ?_
  obtain ⟨p_4, h_5, r_6⟩ : ∃ y : Int, xs (iI (i + 2)).toNatClampNeg = iI y ∧ rg y := ⟨_, iI_of _, rg_of _⟩
  refine jt_i (iI p_4) h_5 ?_
  refine lv_aload_n hx hb dL_law_251 rfl (lv_at hl 3 rfl) ?_
  refine lv_iload_n hx hb dL_law_252 rfl (lv_at hl 0 rfl) ?_
  refine lv_iconst (v := iI 3) hx hb dL_law_253 rfl ?_
  refine xr_add hx hb dL_law_254 ?_
  refine va_sld hx hb hX9 hbl hbA hS (xvp (t := i + 3) (by omega) (by omega) hn) dL_law_255 ?_
  obtain ⟨p_7, h_8, r_9⟩ : ∃ y : Int, xs (iI (i + 3)).toNatClampNeg = iI y ∧ rg y := ⟨_, iI_of _, rg_of _⟩
  refine jt_i (iI p_7) h_8 ?_
  refine lv_aload_n hx hb dL_law_256 rfl (lv_at hl 3 rfl) ?_
  refine lv_iload_n hx hb dL_law_257 rfl (lv_at hl 0 rfl) ?_
  refine lv_iconst (v := iI 4) hx hb dL_law_258 rfl ?_
  refine xr_add hx hb dL_law_259 ?_
  refine va_sld hx hb hX9 hbl hbA hS (xvp (t := i + 4) (by omega) (by omega) hn) dL_law_260 ?_
  obtain ⟨p_10, h_11, r_12⟩ : ∃ y : Int, xs (iI (i + 4)).toNatClampNeg = iI y ∧ rg y := ⟨_, iI_of _, rg_of _⟩
  refine jt_i (iI p_10) h_11 ?_
  refine lv_aload_n hx hb dL_law_261 rfl (lv_at hl 3 rfl) ?_
  refine lv_iload_n hx hb dL_law_262 rfl (lv_at hl 0 rfl) ?_
  refine lv_iconst (v := iI 5) hx hb dL_law_263 rfl ?_
  refine xr_add hx hb dL_law_264 ?_
  refine va_sld hx hb hX9 hbl hbA hS (xvp (t := i + 5) (by omega) (by omega) hn) dL_law_265 ?_
  obtain ⟨p_13, h_14, r_15⟩ : ∃ y : Int, xs (iI (i + 5)).toNatClampNeg = iI y ∧ rg y := ⟨_, iI_of _, rg_of _⟩
  refine jt_i (iI p_13) h_14 ?_
  have hPx := jp_tail hP
  have hDx := jd_tail hD
  refine jct_i (va_runV (As := [.int (iI p_1), .int (iI p_4), .int (iI p_7), .int (iI p_10), .int (iI p_13)]) (rest := []) ⟨hx, hb, hml, hown, hts⟩ (sX12_feed l dC dI _ L cid K N tW sK sV v z0 p_1 p_4 p_7 p_10 p_13 hI hz r_3 r_6 r_9 r_12 r_15) (cwV 5 hts (jgoodVL m_1415 m_1416 m_1417 m_873 m_1418) rfl rfl rfl (by decide +kernel) ⟨(Nat.le_of_ble_eq_true rfl), (Nat.le_of_ble_eq_true rfl)⟩) ⟨xP_blind, xrecv hKx hPx hz rfl rfl, fun U hU hW => ⟨rfl, xP_of hU hW hPx hKx hDx hXx hS (fun _ h => h) hA⟩⟩ rfl rfl hl.1 rfl (lv_room (Nat.le_of_ble_eq_true rfl)) dL_law_266 ⟨(show nc + 0 ≤ 600000 by omega), (show ns + 0 ≤ 7302250 by omega)⟩) hP hD hS hA (fun r v_22 H locs w_17 hP hKx hD hS => ?_)
  obtain ⟨x_16, rfl, I_23, f_24, f_18, f_19, f_20, f_21⟩ := w_17
  have hP : va_P (dC, dI) vwCl (mG am cm g a ++ xG L cid K N v_22) H := hP
  have hD : va_D (fun q : Nat => s.heap.size ≤ q) (mG am cm g a ++ xG L cid K N v_22) := hD
  have f_19 : (x_16 = -1 ∧ 580 < v (v z0 2) 1 ∧ v_22 (v_22 z0 2) 1 = v (v z0 2) 1) ∨ (x_16 = v (v z0 2) 1 + 20 ∧ v (v z0 2) 1 ≤ 580 ∧ v_22 (v_22 z0 2) 1 = v (v z0 2) 1 + 20) := f_19
  have f_20 : iF (x_16 = -1) (xTT v_22 (v z0 2) = xTT v (v z0 2)) := f_20
  have f_21 : iF (x_16 ≠ -1) (xTT v_22 (v z0 2) = fdT (xTT v (v z0 2)) (v (v z0 2) 1) p_1 p_4 p_7 p_10 p_13) := f_21
  have h_25 : v_22 z0 0 = g 30 := (fr_use hz f_24 rfl).trans hnow
  have h_26 : v_22 z0 11 = g 50 := (fr_use hz f_24 rfl).trans hhands
  have h_28 : ok L K (v z0 19) 10 := xf_12_19 hI hz
  have b_29 : v_22 z0 19 = v z0 19 := fr_use hz f_24 rfl
  have b_30 : v_22 (v z0 19) 1 = v (v z0 19) 1 := fr_use h_28 f_24 rfl
  have h_27 : v_22 (v_22 z0 19) 1 = g 78 := by rw [b_29, b_30]; exact hstolen
  have h_32 : ok L K (v z0 14) 5 := xf_12_14 hI hz
  have b_33 : v_22 z0 14 = v z0 14 := fr_use hz f_24 rfl
  have b_34 : v_22 (v z0 14) 5 = v (v z0 14) 5 := fr_use h_32 f_24 rfl
  have h_31 : v_22 (v_22 z0 14) 5 = g 66 := by rw [b_33, b_34]; exact htold
  have h_36 : ok L K (v z0 3) 8 := xf_12_3 hI hz
  have b_37 : v_22 z0 3 = v z0 3 := fr_use hz f_24 rfl
  have b_38 : v_22 (v z0 3) 1 = v (v z0 3) 1 := fr_use h_36 f_24 rfl
  have h_35 : v_22 (v_22 z0 3) 1 = g 18 := by rw [b_37, b_38]; exact hsheets
  have h_39 : rSub v_22 z0 a := rSub_x hI hz (frE_of f_24) rfl (fun _ => rfl) hsub
  have h_40 : rHand v_22 z0 g a := rHand_x hI hz (frE_of f_24) rfl (fun _ => rfl) rfl hhd
  have h_41 : rNews v_22 z0 g a := rNews_x hI hz (frE_of f_24) rfl (fun _ => rfl) (fun _ => rfl) (fun _ => rfl) (fun _ => rfl) (fun _ => rfl) rfl rfl rfl rfl rfl hnw
  refine lv_pop hx hb dL_law_269 rfl ?_
  refine lv_aload_n hx hb dL_law_270 rfl (lv_at hl 1 rfl) ?_
  refine lv_aload_n hx hb dL_law_271 rfl (lv_at hl 3 rfl) ?_
  refine lv_iload_n hx hb dL_law_272 rfl (lv_at hl 0 rfl) ?_
  refine lv_iconst (v := iI 1) hx hb dL_law_273 rfl ?_
  refine xr_add hx hb dL_law_274 ?_
  refine va_sld hx hb hX9 hbl hbA hS (xvp (t := i + 1) (by omega) (by omega) hn) dL_law_275 ?_
  refine jt_i (iI p_1) h_2 ?_
  refine lv_aload_n hx hb dL_law_276 rfl (lv_at hl 3 rfl) ?_
  refine lv_iload_n hx hb dL_law_277 rfl (lv_at hl 0 rfl) ?_
  refine lv_iconst (v := iI 2) hx hb dL_law_278 rfl ?_
  refine xr_add hx hb dL_law_279 ?_
  refine va_sld hx hb hX9 hbl hbA hS (xvp (t := i + 2) (by omega) (by omega) hn) dL_law_280 ?_
  refine jt_i (iI p_4) h_5 ?_
  refine lv_aload_n hx hb dL_law_281 rfl (lv_at hl 3 rfl) ?_
  refine lv_iload_n hx hb dL_law_282 rfl (lv_at hl 0 rfl) ?_
  refine lv_iconst (v := iI 3) hx hb dL_law_283 rfl ?_
  refine xr_add hx hb dL_law_284 ?_
  refine va_sld hx hb hX9 hbl hbA hS (xvp (t := i + 3) (by omega) (by omega) hn) dL_law_285 ?_
  refine jt_i (iI p_7) h_8 ?_
  refine lv_aload_n hx hb dL_law_286 rfl (lv_at hl 3 rfl) ?_
  refine lv_iload_n hx hb dL_law_287 rfl (lv_at hl 0 rfl) ?_
  refine lv_iconst (v := iI 4) hx hb dL_law_288 rfl ?_
  refine xr_add hx hb dL_law_289 ?_
  refine va_sld hx hb hX9 hbl hbA hS (xvp (t := i + 4) (by omega) (by omega) hn) dL_law_290 ?_
  refine jt_i (iI p_10) h_11 ?_
  refine lv_aload_n hx hb dL_law_291 rfl (lv_at hl 3 rfl) ?_
  refine lv_iload_n hx hb dL_law_292 rfl (lv_at hl 0 rfl) ?_
  refine lv_iconst (v := iI 5) hx hb dL_law_293 rfl ?_
  refine xr_add hx hb dL_law_294 ?_
  refine va_sld hx hb hX9 hbl hbA hS (xvp (t := i + 5) (by omega) (by omega) hn) dL_law_295 ?_
  refine jt_i (iI p_13) h_14 ?_
  obtain ⟨hP, hD⟩ := lsw hP hD
  have hPm := jp_tail hP
  have hDm := jd_tail hD
  refine jct_i (va_runV (As := [.int (iI p_1), .int (iI p_4), .int (iI p_7), .int (iI p_10), .int (iI p_13)]) (rest := []) ⟨hx, hb, hml, hown, hts⟩ (sX13_feed l dC dI _ am cm g a p_1 p_4 p_7 p_10 p_13 hM r_3 r_6 r_9 r_12 r_15) (cwV 5 hts (jgoodVL m_1419 m_340 m_341 m_503 m_135) rfl rfl rfl (by decide +kernel) ⟨(Nat.le_of_ble_eq_true rfl), (Nat.le_of_ble_eq_true rfl)⟩) ⟨jw_blind, va_recv hKm hPm (ci := 13) (q0 := 0) rfl rfl, fun U hU hW => ⟨rfl, jw_of hU hW hPm hKm hDm⟩⟩ rfl rfl hl.1 rfl (lv_room (Nat.le_of_ble_eq_true rfl)) dL_law_296 ⟨(show nc + 0 ≤ 600000 by omega), (show ns + 0 ≤ 7302250 by omega)⟩) hP hD hS hA (fun r u_44 H locs w_43 hP hKm hD hS => ?_)
  obtain ⟨g_45, a_46⟩ := u_44
  obtain ⟨y_42, rfl, h_47, h_48, h_49, h_50, h_51, h_52, h_53⟩ := w_43
  have hP : va_P (dC, dI) vwCl (xG L cid K N v_22 ++ mG am cm g_45 a_46) H := hP
  have hD : va_D (fun q : Nat => s.heap.size ≤ q) (xG L cid K N v_22 ++ mG am cm g_45 a_46) := hD
  have h_47 : mI g_45 a_46 := h_47
  have h_51 : (y_42 = -1 ∧ 580 < g 1 ∧ g_45 1 = g 1) ∨ (y_42 = g 1 + 20 ∧ g 1 ≤ 580 ∧ g_45 1 = g 1 + 20) := h_51
  have h_52 : iF (y_42 = -1) (a_46 1 = a 1) := h_52
  have h_53 : iF (y_42 ≠ -1) (rTT g_45 a_46 = fdT (rTT g a) (g 1) p_1 p_4 p_7 p_10 p_13) := h_53
  have h_54 : rLine g_45 a_46 := rLine_t (h_48 56 (by decide)) (h_49 45 (by decide)) hrLine
  have h_55 : rLead g_45 a_46 := rLead_t (h_48 37 (by decide)) (h_49 27 (by decide)) (h_49 31 (by decide)) hrLead
  have h_56 : rSkill g_45 a_46 := rSkill_t (h_48 50 (by decide)) (h_49 38 (by decide)) hrSkill
  have h_57 : rSh g_45 a_46 := rSh_t (h_48 18 (by decide)) (h_48 26 (by decide)) (h_49 9 (by decide)) (h_49 10 (by decide)) (h_49 11 (by decide)) (h_49 12 (by decide)) (h_49 16 (by decide)) hrSh
  have h_58 : v_22 z0 0 = g_45 30 := h_25.trans (h_48 30 (by decide)).symm
  have h_59 : v_22 z0 11 = g_45 50 := h_26.trans (h_48 50 (by decide)).symm
  have h_60 : v_22 (v_22 z0 19) 1 = g_45 78 := h_27.trans (h_48 78 (by decide)).symm
  have h_61 : v_22 (v_22 z0 14) 5 = g_45 66 := h_31.trans (h_48 66 (by decide)).symm
  have b_63 := hM.1 1
  have b_63 : 0 ≤ g 1 ∧ g 1 ≤ 600 := b_63
  have h_62 : v_22 (v_22 z0 2) 1 = g_45 1 := by omega
  have h_64 : v_22 (v_22 z0 3) 1 = g_45 18 := h_35.trans (h_48 18 (by decide)).symm
  have h_65 : rSub v_22 z0 a_46 := rSub_m (h_49 60 (by decide)) h_39
  have h_66 : rHand v_22 z0 g_45 a_46 := rHand_m (h_48 50 (by decide)) (h_49 41 (by decide)) h_40
  have h_67 : rNews v_22 z0 g_45 a_46 := rNews_m (h_48 66 (by decide)) (h_49 51 (by decide)) (h_49 52 (by decide)) (h_49 53 (by decide)) (h_49 54 (by decide)) h_41
  have h_68 : rTxt v_22 z0 g_45 a_46 := by
    rcases (show x_16 = -1 ∨ x_16 ≠ -1 by omega) with q9 | q9
    · exact rTxt_sm hz (frE_of f_24) rfl (f_20 q9) (by omega) (by omega) (h_52 (by omega)) htx
    · exact rTxt_fd hz (frE_of f_24) rfl (f_21 q9) (h_53 (by omega)) (by omega) htx
  obtain ⟨hP, hD⟩ := lsw hP hD
  refine lv_pop hx hb dL_law_299 rfl ?_
  refine lv_goto (tgt := 1804) hx hb dL_law_300 (by decide) ?_
  exact kk L K N v_22 g_45 a_46 _ _ H locs hz I_23 h_47 h_54 h_55 h_56 h_57 h_58 h_59 h_60 h_61 h_62 h_64 h_65 h_66 h_67 h_68 (by omega) (by omega) hP hD hS
set_option maxHeartbeats 4000000 in
set_option maxRecDepth 100000 in
theorem lc_1 {p : Program} {l : Launch} {e : Env} {s : State} {m : MethodId} {below : List Frame} {meth : Method} {c : Code} {b n : Nat} {xs : Nat → Int32} (C0 : lw_At p s m meth c b n xs) (hn : n ≤ 3072) {dC : Nat → ClassId} {dI : Nat → Nat → Nat} {am : Nat → Nat} {cm cid : Nat → ClassId} {tW : Nat} {sK sV : Nat → Nat} (hXx : xX tW sK sV (fun q : Nat => s.heap.size ≤ q) s s.heap) (hKx : va_K (dC, dI) vwCl (xT cid) s) (hKm : va_K (dC, dI) vwCl (mT cm) s) {z0 : Int} {i : Int} (hi0 : 0 ≤ i) (hi : i + 6 ≤ n) {L : List Nat} {K : Int → Nat} {N : Int → Int} {v : Int → Int → Int} {g : Nat → Int} {a : Nat → Int → Int} (hz : ok L K z0 12) (hI : xI L K N v) (hM : mI g a) (hrLine : rLine g a) (hrLead : rLead g a) (hrSkill : rSkill g a) (hrSh : rSh g a) (hnow : v z0 0 = g 30) (hhands : v z0 11 = g 50) (hstolen : v (v z0 19) 1 = g 78) (htold : v (v z0 14) 5 = g 66) (hsize : v (v z0 2) 1 = g 1) (hsheets : v (v z0 3) 1 = g 18) (hsub : rSub v z0 a) (hhd : rHand v z0 g a) (hnw : rNews v z0 g a) (htx : rTxt v z0 g a) {nc ns : Nat} (hc : nc + 5 ≤ 600000) (hs : ns + 12100 ≤ 7302250) {H : Heap} {locs : List Loc} {ls : Array Slot} (hP : va_P (dC, dI) vwCl (mG am cm g a ++ xG L cid K N v) H) (hD : va_D (fun q : Nat => s.heap.size ≤ q) (mG am cm g a ++ xG L cid K N v)) (hS : va_S (fun q : Nat => s.heap.size ≤ q) s.heap H locs) (hl : lv_has ls 4 [(3, .int (iI i)), (2, .ref (am 0)), (1, .ref z0.toNat), (0, .ref b)])
    (kk : ∀ (L : List Nat) (K : Int → Nat) (N : Int → Int) (v : Int → Int → Int) (g : Nat → Int) (a : Nat → Int → Int) (nc1 ns1 : Nat) (H : Heap) (locs : List Loc), ok L K z0 12 → xI L K N v → mI g a → rLine g a → rLead g a → rSkill g a → rSh g a → v z0 0 = g 30 → v z0 11 = g 50 → v (v z0 19) 1 = g 78 → v (v z0 14) 5 = g 66 → v (v z0 2) 1 = g 1 → v (v z0 3) 1 = g 18 → rSub v z0 a → rHand v z0 g a → rNews v z0 g a → rTxt v z0 g a → nc1 ≤ nc + 5 → ns1 ≤ ns + 12100 → va_P (dC, dI) vwCl (mG am cm g a ++ xG L cid K N v) H → va_D (fun q : Nat => s.heap.size ≤ q) (mG am cm g a ++ xG L cid K N v) → va_S (fun q : Nat => s.heap.size ≤ q) s.heap H locs → W p l e room_1 s m #[Value.ref b] below meth c H locs nc1 ns1 (lw_Z below #[Value.ref b] s) (F0 m 1804 ls [])) : W p l e room_1 s m #[Value.ref b] below meth c H locs nc ns (lw_Z below #[Value.ref b] s) (F0 m 303 ls []) := by
  obtain ⟨hx, hb, hr, hml, hown, hts, hX9, hbl, hlocks, hgv⟩ := id C0
  have hA : ∀ q : Nat, s.heap.size ≤ q → (fun q : Nat => s.heap.size ≤ q) q := fun _ h => h
  have hbA : ¬ (fun q : Nat => s.heap.size ≤ q) b := Nat.not_le.mpr hbl
  refine lv_aload_n hx hb dL_law_303 rfl (lv_at hl 2 rfl) ?_
  refine lv_aload_n hx hb dL_law_304 rfl (lv_at hl 3 rfl) ?_
  refine lv_iload_n hx hb dL_law_305 rfl (lv_at hl 0 rfl) ?_
  refine lv_iconst (v := iI 1) hx hb dL_law_306 rfl ?_
  refine xr_add hx hb dL_law_307 ?_
  refine va_sld hx hb hX9 hbl hbA hS (xvp (t := i + 1) (by omega) (by omega) hn) dL_law_308 ?_
  obtain ⟨p_1, h_2, r_3⟩ : ∃ y : Int, xs (iI (i + 1)).toNatClampNeg = iI y ∧ rg y := ⟨_, iI_of _, rg_of _⟩
  refine jt_i (iI p_1) h_2 ?_
  have hPx := jp_tail hP
  have hDx := jd_tail hD
  refine jct_i (va_runV (As := [.int (iI p_1)]) (rest := []) ⟨hx, hb, hml, hown, hts⟩ (sX12_end l dC dI _ L cid K N tW sK sV v z0 p_1 hI hz r_3) (cwV 1 hts (jgoodVL m_1420 m_1421 m_1422 m_873 m_1423) rfl rfl rfl (by decide +kernel) ⟨(Nat.le_of_ble_eq_true rfl), (Nat.le_of_ble_eq_true rfl)⟩) ⟨xP_blind, xrecv hKx hPx hz rfl rfl, fun U hU hW => ⟨rfl, xP_of hU hW hPx hKx hDx hXx hS (fun _ h => h) hA⟩⟩ rfl rfl hl.1 rfl (lv_room (Nat.le_of_ble_eq_true rfl)) dL_law_309 ⟨(show nc + 0 ≤ 600000 by omega), (show ns + 0 ≤ 7302250 by omega)⟩) hP hD hS hA (fun r v_10 H locs w_5 hP hKx hD hS => ?_)
  obtain ⟨x_4, rfl, I_11, f_12, f_6, f_7, f_8, f_9⟩ := w_5
  have hP : va_P (dC, dI) vwCl (mG am cm g a ++ xG L cid K N v_10) H := hP
  have hD : va_D (fun q : Nat => s.heap.size ≤ q) (mG am cm g a ++ xG L cid K N v_10) := hD
  have f_7 : (x_4 = 0 ∧ v_10 (v_10 z0 2) 1 = v (v z0 2) 1 ∧ (p_1 < 0 ∨ v (v z0 2) 1 < p_1)) ∨ (x_4 = 1 ∧ v_10 (v_10 z0 2) 1 = p_1 ∧ 0 ≤ p_1 ∧ p_1 ≤ v (v z0 2) 1) := f_7
  have f_8 : iF (x_4 = 0) (v_10 = v) := f_8
  have f_9 : iF (x_4 = 1) (v_10 = vu v (v z0 2) 1 p_1) := f_9
  have h_13 : v_10 z0 0 = g 30 := (fr_use hz f_12 rfl).trans hnow
  have h_14 : v_10 z0 11 = g 50 := (fr_use hz f_12 rfl).trans hhands
  have h_16 : ok L K (v z0 19) 10 := xf_12_19 hI hz
  have b_17 : v_10 z0 19 = v z0 19 := fr_use hz f_12 rfl
  have b_18 : v_10 (v z0 19) 1 = v (v z0 19) 1 := fr_use h_16 f_12 rfl
  have h_15 : v_10 (v_10 z0 19) 1 = g 78 := by rw [b_17, b_18]; exact hstolen
  have h_20 : ok L K (v z0 14) 5 := xf_12_14 hI hz
  have b_21 : v_10 z0 14 = v z0 14 := fr_use hz f_12 rfl
  have b_22 : v_10 (v z0 14) 5 = v (v z0 14) 5 := fr_use h_20 f_12 rfl
  have h_19 : v_10 (v_10 z0 14) 5 = g 66 := by rw [b_21, b_22]; exact htold
  have h_24 : ok L K (v z0 3) 8 := xf_12_3 hI hz
  have b_25 : v_10 z0 3 = v z0 3 := fr_use hz f_12 rfl
  have b_26 : v_10 (v z0 3) 1 = v (v z0 3) 1 := fr_use h_24 f_12 rfl
  have h_23 : v_10 (v_10 z0 3) 1 = g 18 := by rw [b_25, b_26]; exact hsheets
  have h_27 : rSub v_10 z0 a := rSub_x hI hz (frE_of f_12) rfl (fun _ => rfl) hsub
  have h_28 : rHand v_10 z0 g a := rHand_x hI hz (frE_of f_12) rfl (fun _ => rfl) rfl hhd
  have h_29 : rNews v_10 z0 g a := rNews_x hI hz (frE_of f_12) rfl (fun _ => rfl) (fun _ => rfl) (fun _ => rfl) (fun _ => rfl) (fun _ => rfl) rfl rfl rfl rfl rfl hnw
  refine lv_aload_n hx hb dL_law_312 rfl (lv_at hl 1 rfl) ?_
  refine lv_aload_n hx hb dL_law_313 rfl (lv_at hl 3 rfl) ?_
  refine lv_iload_n hx hb dL_law_314 rfl (lv_at hl 0 rfl) ?_
  refine lv_iconst (v := iI 1) hx hb dL_law_315 rfl ?_
  refine xr_add hx hb dL_law_316 ?_
  refine va_sld hx hb hX9 hbl hbA hS (xvp (t := i + 1) (by omega) (by omega) hn) dL_law_317 ?_
  refine jt_i (iI p_1) h_2 ?_
  obtain ⟨hP, hD⟩ := lsw hP hD
  have hPm := jp_tail hP
  have hDm := jd_tail hD
  refine jct_i (va_runV (As := [.int (iI p_1)]) (rest := [.int (iI x_4)]) ⟨hx, hb, hml, hown, hts⟩ (sX13_end l dC dI _ am cm g a p_1 hM r_3) (cwV 1 hts (jgoodVL m_1424 m_324 m_325 m_503 m_127) rfl rfl rfl (by decide +kernel) ⟨(Nat.le_of_ble_eq_true rfl), (Nat.le_of_ble_eq_true rfl)⟩) ⟨jw_blind, va_recv hKm hPm (ci := 13) (q0 := 0) rfl rfl, fun U hU hW => ⟨rfl, jw_of hU hW hPm hKm hDm⟩⟩ rfl rfl hl.1 rfl (lv_room (Nat.le_of_ble_eq_true rfl)) dL_law_318 ⟨(show nc + 0 ≤ 600000 by omega), (show ns + 0 ≤ 7302250 by omega)⟩) hP hD hS hA (fun r u_32 H locs w_31 hP hKm hD hS => ?_)
  obtain ⟨g_33, a_34⟩ := u_32
  obtain ⟨y_30, rfl, h_35, h_36, h_37, h_38, h_39⟩ := w_31
  have hP : va_P (dC, dI) vwCl (xG L cid K N v_10 ++ mG am cm g_33 a_34) H := hP
  have hD : va_D (fun q : Nat => s.heap.size ≤ q) (xG L cid K N v_10 ++ mG am cm g_33 a_34) := hD
  have h_35 : mI g_33 a_34 := h_35
  have h_39 : (y_30 = 0 ∧ g_33 1 = g 1 ∧ (p_1 < 0 ∨ g 1 < p_1)) ∨ (y_30 = 1 ∧ g_33 1 = p_1 ∧ 0 ≤ p_1 ∧ p_1 ≤ g 1) := h_39
  have h_40 : rLine g_33 a_34 := rLine_t (h_36 56 (by decide)) (h_37 45 (by decide)) hrLine
  have h_41 : rLead g_33 a_34 := rLead_t (h_36 37 (by decide)) (h_37 27 (by decide)) (h_37 31 (by decide)) hrLead
  have h_42 : rSkill g_33 a_34 := rSkill_t (h_36 50 (by decide)) (h_37 38 (by decide)) hrSkill
  have h_43 : rSh g_33 a_34 := rSh_t (h_36 18 (by decide)) (h_36 26 (by decide)) (h_37 9 (by decide)) (h_37 10 (by decide)) (h_37 11 (by decide)) (h_37 12 (by decide)) (h_37 16 (by decide)) hrSh
  have h_44 : v_10 z0 0 = g_33 30 := h_13.trans (h_36 30 (by decide)).symm
  have h_45 : v_10 z0 11 = g_33 50 := h_14.trans (h_36 50 (by decide)).symm
  have h_46 : v_10 (v_10 z0 19) 1 = g_33 78 := h_15.trans (h_36 78 (by decide)).symm
  have h_47 : v_10 (v_10 z0 14) 5 = g_33 66 := h_19.trans (h_36 66 (by decide)).symm
  have b_49 := hM.1 1
  have b_49 : 0 ≤ g 1 ∧ g 1 ≤ 600 := b_49
  have h_48 : v_10 (v_10 z0 2) 1 = g_33 1 := by omega
  have h_50 : v_10 (v_10 z0 3) 1 = g_33 18 := h_23.trans (h_36 18 (by decide)).symm
  have h_51 : rSub v_10 z0 a_34 := rSub_m (h_37 60 (by decide)) h_27
  have h_52 : rHand v_10 z0 g_33 a_34 := rHand_m (h_36 50 (by decide)) (h_37 41 (by decide)) h_28
  have h_53 : rNews v_10 z0 g_33 a_34 := rNews_m (h_36 66 (by decide)) (h_37 51 (by decide)) (h_37 52 (by decide)) (h_37 53 (by decide)) (h_37 54 (by decide)) h_29
  have h_54 : rTxt v_10 z0 g_33 a_34 := by
    rcases (show x_4 = 0 ∨ x_4 = 1 by omega) with q9 | q9
    · rw [f_8 q9]; exact rTxt_m (by omega) (h_37 1 (by decide)) htx
    · exact rTxt_en hI hz (f_9 q9) (by omega) (by omega) (by omega) (h_37 1 (by decide)) htx
  obtain ⟨hP, hD⟩ := lsw hP hD
  have h_55 : x_4 = y_30 := by omega
  subst h_55
  refine lv_icmp_eq (tgt := 1804) hx hb dL_law_321 (by decide) (fun _ => ?_) (fun z => absurd rfl z)
  exact kk L K N v_10 g_33 a_34 _ _ H locs hz I_11 h_35 h_40 h_41 h_42 h_43 h_44 h_45 h_46 h_47 h_48 h_50 h_51 h_52 h_53 h_54 (by omega) (by omega) hP hD hS
set_option maxHeartbeats 4000000 in
set_option maxRecDepth 100000 in
theorem lc_2 {p : Program} {l : Launch} {e : Env} {s : State} {m : MethodId} {below : List Frame} {meth : Method} {c : Code} {b n : Nat} {xs : Nat → Int32} (C0 : lw_At p s m meth c b n xs) (hn : n ≤ 3072) {dC : Nat → ClassId} {dI : Nat → Nat → Nat} {am : Nat → Nat} {cm cid : Nat → ClassId} {tW : Nat} {sK sV : Nat → Nat} (hXx : xX tW sK sV (fun q : Nat => s.heap.size ≤ q) s s.heap) (hKx : va_K (dC, dI) vwCl (xT cid) s) (hKm : va_K (dC, dI) vwCl (mT cm) s) {z0 : Int} {i : Int} (hi0 : 0 ≤ i) (hi : i + 6 ≤ n) {L : List Nat} {K : Int → Nat} {N : Int → Int} {v : Int → Int → Int} {g : Nat → Int} {a : Nat → Int → Int} (hz : ok L K z0 12) (hI : xI L K N v) (hM : mI g a) (hrLine : rLine g a) (hrLead : rLead g a) (hrSkill : rSkill g a) (hrSh : rSh g a) (hnow : v z0 0 = g 30) (hhands : v z0 11 = g 50) (hstolen : v (v z0 19) 1 = g 78) (htold : v (v z0 14) 5 = g 66) (hsize : v (v z0 2) 1 = g 1) (hsheets : v (v z0 3) 1 = g 18) (hsub : rSub v z0 a) (hhd : rHand v z0 g a) (hnw : rNews v z0 g a) (htx : rTxt v z0 g a) {nc ns : Nat} (hc : nc + 5 ≤ 600000) (hs : ns + 12100 ≤ 7302250) {H : Heap} {locs : List Loc} {ls : Array Slot} (hP : va_P (dC, dI) vwCl (mG am cm g a ++ xG L cid K N v) H) (hD : va_D (fun q : Nat => s.heap.size ≤ q) (mG am cm g a ++ xG L cid K N v)) (hS : va_S (fun q : Nat => s.heap.size ≤ q) s.heap H locs) (hl : lv_has ls 4 [(3, .int (iI i)), (2, .ref (am 0)), (1, .ref z0.toNat), (0, .ref b)])
    (kk : ∀ (L : List Nat) (K : Int → Nat) (N : Int → Int) (v : Int → Int → Int) (g : Nat → Int) (a : Nat → Int → Int) (nc1 ns1 : Nat) (H : Heap) (locs : List Loc), ok L K z0 12 → xI L K N v → mI g a → rLine g a → rLead g a → rSkill g a → rSh g a → v z0 0 = g 30 → v z0 11 = g 50 → v (v z0 19) 1 = g 78 → v (v z0 14) 5 = g 66 → v (v z0 2) 1 = g 1 → v (v z0 3) 1 = g 18 → rSub v z0 a → rHand v z0 g a → rNews v z0 g a → rTxt v z0 g a → nc1 ≤ nc + 5 → ns1 ≤ ns + 12100 → va_P (dC, dI) vwCl (mG am cm g a ++ xG L cid K N v) H → va_D (fun q : Nat => s.heap.size ≤ q) (mG am cm g a ++ xG L cid K N v) → va_S (fun q : Nat => s.heap.size ≤ q) s.heap H locs → W p l e room_1 s m #[Value.ref b] below meth c H locs nc1 ns1 (lw_Z below #[Value.ref b] s) (F0 m 1804 ls [])) : W p l e room_1 s m #[Value.ref b] below meth c H locs nc ns (lw_Z below #[Value.ref b] s) (F0 m 326 ls []) := by
  obtain ⟨hx, hb, hr, hml, hown, hts, hX9, hbl, hlocks, hgv⟩ := id C0
  have hA : ∀ q : Nat, s.heap.size ≤ q → (fun q : Nat => s.heap.size ≤ q) q := fun _ h => h
  have hbA : ¬ (fun q : Nat => s.heap.size ≤ q) b := Nat.not_le.mpr hbl
  refine lv_aload_n hx hb dL_law_326 rfl (lv_at hl 2 rfl) ?_
  have hPx := jp_tail hP
  have hDx := jd_tail hD
  refine jct_i (va_runV (As := []) (rest := []) ⟨hx, hb, hml, hown, hts⟩ (sX12_fault l dC dI _ L cid K N tW sK sV v z0 hI hz) (cwV 0 hts (jgoodVL m_1425 m_1426 m_1427 m_873 m_1428) rfl rfl rfl (by decide +kernel) ⟨(Nat.le_of_ble_eq_true rfl), (Nat.le_of_ble_eq_true rfl)⟩) ⟨xP_blind, xrecv hKx hPx hz rfl rfl, fun U hU hW => ⟨rfl, xP_of hU hW hPx hKx hDx hXx hS (fun _ h => h) hA⟩⟩ rfl rfl hl.1 rfl (lv_room (Nat.le_of_ble_eq_true rfl)) dL_law_327 ⟨(show nc + 0 ≤ 600000 by omega), (show ns + 0 ≤ 7302250 by omega)⟩) hP hD hS hA (fun r v_5 H locs w_2 hP hKx hD hS => ?_)
  obtain ⟨x_1, rfl, I_6, f_7, f_3, f_4⟩ := w_2
  have hP : va_P (dC, dI) vwCl (mG am cm g a ++ xG L cid K N v_5) H := hP
  have hD : va_D (fun q : Nat => s.heap.size ≤ q) (mG am cm g a ++ xG L cid K N v_5) := hD
  have h_8 : v_5 z0 0 = g 30 := (fr_use hz f_7 rfl).trans hnow
  have h_9 : v_5 z0 11 = g 50 := (fr_use hz f_7 rfl).trans hhands
  have h_11 : ok L K (v z0 19) 10 := xf_12_19 hI hz
  have b_12 : v_5 z0 19 = v z0 19 := fr_use hz f_7 rfl
  have b_13 : v_5 (v z0 19) 1 = v (v z0 19) 1 := fr_use h_11 f_7 rfl
  have h_10 : v_5 (v_5 z0 19) 1 = g 78 := by rw [b_12, b_13]; exact hstolen
  have h_15 : ok L K (v z0 14) 5 := xf_12_14 hI hz
  have b_16 : v_5 z0 14 = v z0 14 := fr_use hz f_7 rfl
  have b_17 : v_5 (v z0 14) 5 = v (v z0 14) 5 := fr_use h_15 f_7 rfl
  have h_14 : v_5 (v_5 z0 14) 5 = g 66 := by rw [b_16, b_17]; exact htold
  have h_19 : ok L K (v z0 2) 7 := xf_12_2 hI hz
  have b_20 : v_5 z0 2 = v z0 2 := fr_use hz f_7 rfl
  have b_21 : v_5 (v z0 2) 1 = v (v z0 2) 1 := fr_use h_19 f_7 rfl
  have h_18 : v_5 (v_5 z0 2) 1 = g 1 := by rw [b_20, b_21]; exact hsize
  have h_23 : ok L K (v z0 3) 8 := xf_12_3 hI hz
  have b_24 : v_5 z0 3 = v z0 3 := fr_use hz f_7 rfl
  have b_25 : v_5 (v z0 3) 1 = v (v z0 3) 1 := fr_use h_23 f_7 rfl
  have h_22 : v_5 (v_5 z0 3) 1 = g 18 := by rw [b_24, b_25]; exact hsheets
  have h_26 : rSub v_5 z0 a := rSub_x hI hz (frE_of f_7) rfl (fun _ => rfl) hsub
  have h_27 : rHand v_5 z0 g a := rHand_x hI hz (frE_of f_7) rfl (fun _ => rfl) rfl hhd
  have h_28 : rNews v_5 z0 g a := rNews_x hI hz (frE_of f_7) rfl (fun _ => rfl) (fun _ => rfl) (fun _ => rfl) (fun _ => rfl) (fun _ => rfl) rfl rfl rfl rfl rfl hnw
  have h_29 : rTxt v_5 z0 g a := rTxt_x hI hz (frE_of f_7) rfl rfl rfl (fun _ => rfl) htx
  refine lv_pop hx hb dL_law_330 rfl ?_
  refine lv_aload_n hx hb dL_law_331 rfl (lv_at hl 1 rfl) ?_
  obtain ⟨hP, hD⟩ := lsw hP hD
  have hPm := jp_tail hP
  have hDm := jd_tail hD
  refine jct_i (va_runV (As := []) (rest := []) ⟨hx, hb, hml, hown, hts⟩ (sX13_fault l dC dI _ am cm sK sV g a hM) (cwV 0 hts (jgoodVL m_1429 m_338 m_339 m_503 m_134) rfl rfl rfl (by decide +kernel) ⟨(Nat.le_of_ble_eq_true rfl), (Nat.le_of_ble_eq_true rfl)⟩) ⟨mP_blind, va_recv hKm hPm (ci := 13) (q0 := 0) rfl rfl, fun U hU hW => ⟨rfl, mP_of hU hW hPm hKm hDm hXx.2.2 hS (fun _ h => h) hA⟩⟩ rfl rfl hl.1 rfl (lv_room (Nat.le_of_ble_eq_true rfl)) dL_law_332 ⟨(show nc + 0 ≤ 600000 by omega), (show ns + 0 ≤ 7302250 by omega)⟩) hP hD hS hA (fun r u_32 H locs w_31 hP hKm hD hS => ?_)
  obtain ⟨g_33, a_34⟩ := u_32
  obtain ⟨y_30, rfl, h_35, h_36, h_37, h_38, h_39⟩ := w_31
  have hP : va_P (dC, dI) vwCl (xG L cid K N v_5 ++ mG am cm g_33 a_34) H := hP
  have hD : va_D (fun q : Nat => s.heap.size ≤ q) (xG L cid K N v_5 ++ mG am cm g_33 a_34) := hD
  have h_35 : mI g_33 a_34 := h_35
  have h_40 : rLine g_33 a_34 := rLine_t (h_36 56 (by decide)) (h_37 45 (by decide)) hrLine
  have h_41 : rLead g_33 a_34 := rLead_t (h_36 37 (by decide)) (h_37 27 (by decide)) (h_37 31 (by decide)) hrLead
  have h_42 : rSkill g_33 a_34 := rSkill_t (h_36 50 (by decide)) (h_37 38 (by decide)) hrSkill
  have h_43 : rSh g_33 a_34 := rSh_t (h_36 18 (by decide)) (h_36 26 (by decide)) (h_37 9 (by decide)) (h_37 10 (by decide)) (h_37 11 (by decide)) (h_37 12 (by decide)) (h_37 16 (by decide)) hrSh
  have i9 := flt_tie htx f_4 h_39
  have h_44 : v_5 z0 0 = g_33 30 := h_8.trans (h_36 30 (by decide)).symm
  have h_45 : v_5 z0 11 = g_33 50 := h_9.trans (h_36 50 (by decide)).symm
  have h_46 : v_5 (v_5 z0 19) 1 = g_33 78 := h_10.trans (h_36 78 (by decide)).symm
  have h_47 : v_5 (v_5 z0 14) 5 = g_33 66 := h_14.trans (h_36 66 (by decide)).symm
  have h_48 : v_5 (v_5 z0 2) 1 = g_33 1 := h_18.trans (h_36 1 (by decide)).symm
  have h_49 : v_5 (v_5 z0 3) 1 = g_33 18 := h_22.trans (h_36 18 (by decide)).symm
  have h_50 : rSub v_5 z0 a_34 := rSub_m (h_37 60 (by decide)) h_26
  have h_51 : rHand v_5 z0 g_33 a_34 := rHand_m (h_36 50 (by decide)) (h_37 41 (by decide)) h_27
  have h_52 : rNews v_5 z0 g_33 a_34 := rNews_m (h_36 66 (by decide)) (h_37 51 (by decide)) (h_37 52 (by decide)) (h_37 53 (by decide)) (h_37 54 (by decide)) h_28
  have h_53 : rTxt v_5 z0 g_33 a_34 := rTxt_m (h_36 1 (by decide)) (h_37 1 (by decide)) h_29
  obtain ⟨hP, hD⟩ := lsw hP hD
  refine lv_pop hx hb dL_law_335 rfl ?_
  refine lv_goto (tgt := 1804) hx hb dL_law_336 (by decide) ?_
  exact kk L K N v_5 g_33 a_34 _ _ H locs hz I_6 h_35 h_40 h_41 h_42 h_43 h_44 h_45 h_46 h_47 h_48 h_49 h_50 h_51 h_52 h_53 (by omega) (by omega) hP hD hS
