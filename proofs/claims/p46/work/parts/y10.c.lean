set_option maxHeartbeats 4000000 in
set_option maxRecDepth 100000 in
theorem lc_0 {p : Program} {l : Launch} {e : Env} {s : State} {m : MethodId} {below : List Frame} {meth : Method} {c : Code} {b n : Nat} {xs : Nat → Int32} (C0 : lw_At p s m meth c b n xs) (hn : n ≤ 3072) {dC : Nat → ClassId} {dI : Nat → Nat → Nat} {am : Nat → Nat} {cm cid : Nat → ClassId} {tW : Nat} {sK sV : Nat → Nat} (hXx : xX tW sK sV (fun q : Nat => s.heap.size ≤ q) s s.heap) (hKx : va_K (dC, dI) vwCl (xT cid) s) (hKm : va_K (dC, dI) vwCl (mT cm) s) {z0 : Int} {i : Int} (hi0 : 0 ≤ i) (hi : i + 6 ≤ n) {L : List Nat} {K : Int → Nat} {N : Int → Int} {v : Int → Int → Int} {g : Nat → Int} {a : Nat → Int → Int} (hz : ok L K z0 12) (hI : xI L K N v) (hM : mI g a) (hrLine : rLine g a) (hrLead : rLead g a) (hrSkill : rSkill g a) (hrSh : rSh g a) (hnow : v z0 0 = g 30) (hhands : v z0 11 = g 50) (hstolen : v (v z0 19) 1 = g 78) (htold : v (v z0 14) 5 = g 66) (hsub : rSub v z0 a) (hhd : rHand v z0 g a) (hnw : rNews v z0 g a) {nc ns : Nat} (hc : nc + 5 ≤ 600000) (hs : ns + 12100 ≤ 7302250) {H : Heap} {locs : List Loc} {ls : Array Slot} (hP : va_P (dC, dI) vwCl (mG am cm g a ++ xG L cid K N v) H) (hD : va_D (fun q : Nat => s.heap.size ≤ q) (mG am cm g a ++ xG L cid K N v)) (hS : va_S (fun q : Nat => s.heap.size ≤ q) s.heap H locs) (hl : lv_has ls 4 [(3, .int (iI i)), (2, .ref (am 0)), (1, .ref z0.toNat), (0, .ref b)])
    (kk : ∀ (L : List Nat) (K : Int → Nat) (N : Int → Int) (v : Int → Int → Int) (g : Nat → Int) (a : Nat → Int → Int) (nc1 ns1 : Nat) (H : Heap) (locs : List Loc), ok L K z0 12 → xI L K N v → mI g a → rLine g a → rLead g a → rSkill g a → rSh g a → v z0 0 = g 30 → v z0 11 = g 50 → v (v z0 19) 1 = g 78 → v (v z0 14) 5 = g 66 → rSub v z0 a → rHand v z0 g a → rNews v z0 g a → nc1 ≤ nc + 5 → ns1 ≤ ns + 12100 → va_P (dC, dI) vwCl (mG am cm g a ++ xG L cid K N v) H → va_D (fun q : Nat => s.heap.size ≤ q) (mG am cm g a ++ xG L cid K N v) → va_S (fun q : Nat => s.heap.size ≤ q) s.heap H locs → W p l e room_1 s m #[Value.ref b] below meth c H locs nc1 ns1 (lw_Z below #[Value.ref b] s) (F0 m 1804 ls [])) : W p l e room_1 s m #[Value.ref b] below meth c H locs nc ns (lw_Z below #[Value.ref b] s) (F0 m 240 ls []) := by
  obtain ⟨hx, hb, hr, hml, hown, hts, hX9, hbl, hlocks, hgv⟩ := id C0
  have hA : ∀ q : Nat, s.heap.size ≤ q → (fun q : Nat => s.heap.size ≤ q) q := fun _ h => h
  have hbA : ¬ (fun q : Nat => s.heap.size ≤ q) b := Nat.not_le.mpr hbl
  refine lv_aload_n hx hb dL_law_240 rfl (lv_at hl 2 rfl) ?_
  refine lv_aload_n hx hb dL_law_241 rfl (lv_at hl 3 rfl) ?_
  refine lv_iload_n hx hb dL_law_242 rfl (lv_at hl 0 rfl) ?_
  refine lv_iconst (v := iI 1) hx hb dL_law_243 rfl ?_
  refine xr_add hx hb dL_law_244 ?_
  refine va_sld hx hb hX9 hbl hbA hS (xvp (t := i + 1) (by omega) (by omega) hn) dL_law_245 ?_
  obtain ⟨p_1, h_2, r_3⟩ : ∃ y : Int, xs (iI (i + 1)).toNatClampNeg = iI y ∧ rg y := ⟨_, iI_of _, rg_of _⟩
  refine jt_i (iI p_1) h_2 ?_
  refine lv_aload_n hx hb dL_law_246 rfl (lv_at hl 3 rfl) ?_
  refine lv_iload_n hx hb dL_law_247 rfl (lv_at hl 0 rfl) ?_
  refine lv_iconst (v := iI 2) hx hb dL_law_248 rfl ?_
  refine xr_add hx hb dL_law_249 ?_
  refine va_sld hx hb hX9 hbl hbA hS (xvp (t := i + 2) (by omega) (by omega) hn) dL_law_250 ?_
  obtain ⟨p_4, h_5, r_6⟩ : ∃ y : Int, xs (iI (i + 2)).toNatClampNeg = iI y ∧ rg y := ⟨_, iI_of _, rg_of _⟩
  refine jt_i (iI p_4) h_5 ?_
  refine lv_aload_n hx hb dL_law_251 rfl (lv_at hl 3 rfl) ?_
  refine lv_iload_n hx hb dL_law_252 rfl (lv_at hl 0 rfl) ?_
  refine lv_iconst (v := iI 3) hx hb dL_law_253 rfl ?_
  refine xr_add hx hb dL_law_254 ?_
  refine va_sld hx hb hX9 hbl hbA hS (xvp (t := i + 3) (by omega) (by omega) hn) dL_law_255 ?_
  obtain ⟨p_7, h_8, r_9⟩ : ∃ y : Int, xs (iI (i + 3)).toNatClampNeg = iI y ∧ rg y := ⟨_, iI_of _, rg_of _⟩
  refine jt_i (iI p_7) h_8 ?_
  refine lv_aload_n hx hb dL_law_256 rfl (lv_at hl 3 rfl) ?_
  refine lv_iload_n hx hb dL_law_257 rfl (lv_at hl 0 rfl) ?_
  refine lv_iconst (v := iI 4) hx hb dL_law_258 rfl ?_
  refine xr_add hx hb dL_law_259 ?_
  refine va_sld hx hb hX9 hbl hbA hS (xvp (t := i + 4) (by omega) (by omega) hn) dL_law_260 ?_
  obtain ⟨p_10, h_11, r_12⟩ : ∃ y : Int, xs (iI (i + 4)).toNatClampNeg = iI y ∧ rg y := ⟨_, iI_of _, rg_of _⟩
  refine jt_i (iI p_10) h_11 ?_
  refine lv_aload_n hx hb dL_law_261 rfl (lv_at hl 3 rfl) ?_
  refine lv_iload_n hx hb dL_law_262 rfl (lv_at hl 0 rfl) ?_
  refine lv_iconst (v := iI 5) hx hb dL_law_263 rfl ?_
  refine xr_add hx hb dL_law_264 ?_
  refine va_sld hx hb hX9 hbl hbA hS (xvp (t := i + 5) (by omega) (by omega) hn) dL_law_265 ?_
  obtain ⟨p_13, h_14, r_15⟩ : ∃ y : Int, xs (iI (i + 5)).toNatClampNeg = iI y ∧ rg y := ⟨_, iI_of _, rg_of _⟩
  refine jt_i (iI p_13) h_14 ?_
  have hPx := jp_tail hP
  have hDx := jd_tail hD
  refine jct_i (va_runV (As := [.int (iI p_1), .int (iI p_4), .int (iI p_7), .int (iI p_10), .int (iI p_13)]) (rest := []) ⟨hx, hb, hml, hown, hts⟩ (sX12_feed l dC dI _ L cid K N tW sK sV v z0 p_1 p_4 p_7 p_10 p_13 hI hz r_3 r_6 r_9 r_12 r_15) (cwV 5 hts (jgoodVL m_1415 m_1416 m_1417 m_873 m_1418) rfl rfl rfl (by decide +kernel) ⟨(Nat.le_of_ble_eq_true rfl), (Nat.le_of_ble_eq_true rfl)⟩) ⟨xP_blind, xrecv hKx hPx hz rfl rfl, fun U hU hW => ⟨rfl, xP_of hU hW hPx hKx hDx hXx hS (fun _ h => h) hA⟩⟩ rfl rfl hl.1 rfl (lv_room (Nat.le_of_ble_eq_true rfl)) dL_law_266 ⟨(show nc + 0 ≤ 600000 by omega), (show ns + 0 ≤ 7302250 by omega)⟩) hP hD hS hA (fun r v_19 H locs w_17 hP hKx hD hS => ?_)
  obtain ⟨x_16, rfl, I_20, f_21, f_18⟩ := w_17
  have hP : va_P (dC, dI) vwCl (mG am cm g a ++ xG L cid K N v_19) H := hP
  have hD : va_D (fun q : Nat => s.heap.size ≤ q) (mG am cm g a ++ xG L cid K N v_19) := hD
  have h_22 : v_19 z0 0 = g 30 := (fr_use hz f_21 rfl).trans hnow
  have h_23 : v_19 z0 11 = g 50 := (fr_use hz f_21 rfl).trans hhands
  have h_25 : ok L K (v z0 19) 10 := xf_12_19 hI hz
  have b_26 : v_19 z0 19 = v z0 19 := fr_use hz f_21 rfl
  have b_27 : v_19 (v z0 19) 1 = v (v z0 19) 1 := fr_use h_25 f_21 rfl
  have h_24 : v_19 (v_19 z0 19) 1 = g 78 := by rw [b_26, b_27]; exact hstolen
  have h_29 : ok L K (v z0 14) 5 := xf_12_14 hI hz
  have b_30 : v_19 z0 14 = v z0 14 := fr_use hz f_21 rfl
  have b_31 : v_19 (v z0 14) 5 = v (v z0 14) 5 := fr_use h_29 f_21 rfl
  have h_28 : v_19 (v_19 z0 14) 5 = g 66 := by rw [b_30, b_31]; exact htold
  have h_32 : rSub v_19 z0 a := rSub_x hI hz (frE_of f_21) rfl (fun _ => rfl) hsub
  have h_33 : rHand v_19 z0 g a := rHand_x hI hz (frE_of f_21) rfl (fun _ => rfl) rfl hhd
  have h_34 : rNews v_19 z0 g a := rNews_x hI hz (frE_of f_21) rfl (fun _ => rfl) (fun _ => rfl) (fun _ => rfl) (fun _ => rfl) (fun _ => rfl) rfl rfl rfl rfl rfl hnw
  refine lv_pop hx hb dL_law_269 rfl ?_
  refine lv_aload_n hx hb dL_law_270 rfl (lv_at hl 1 rfl) ?_
  refine lv_aload_n hx hb dL_law_271 rfl (lv_at hl 3 rfl) ?_
  refine lv_iload_n hx hb dL_law_272 rfl (lv_at hl 0 rfl) ?_
  refine lv_iconst (v := iI 1) hx hb dL_law_273 rfl ?_
  refine xr_add hx hb dL_law_274 ?_
  refine va_sld hx hb hX9 hbl hbA hS (xvp (t := i + 1) (by omega) (by omega) hn) dL_law_275 ?_
  refine jt_i (iI p_1) h_2 ?_
  refine lv_aload_n hx hb dL_law_276 rfl (lv_at hl 3 rfl) ?_
  refine lv_iload_n hx hb dL_law_277 rfl (lv_at hl 0 rfl) ?_
  refine lv_iconst (v := iI 2) hx hb dL_law_278 rfl ?_
  refine xr_add hx hb dL_law_279 ?_
  refine va_sld hx hb hX9 hbl hbA hS (xvp (t := i + 2) (by omega) (by omega) hn) dL_law_280 ?_
  refine jt_i (iI p_4) h_5 ?_
  refine lv_aload_n hx hb dL_law_281 rfl (lv_at hl 3 rfl) ?_
  refine lv_iload_n hx hb dL_law_282 rfl (lv_at hl 0 rfl) ?_
  refine lv_iconst (v := iI 3) hx hb dL_law_283 rfl ?_
  refine xr_add hx hb dL_law_284 ?_
  refine va_sld hx hb hX9 hbl hbA hS (xvp (t := i + 3) (by omega) (by omega) hn) dL_law_285 ?_
  refine jt_i (iI p_7) h_8 ?_
  refine lv_aload_n hx hb dL_law_286 rfl (lv_at hl 3 rfl) ?_
  refine lv_iload_n hx hb dL_law_287 rfl (lv_at hl 0 rfl) ?_
  refine lv_iconst (v := iI 4) hx hb dL_law_288 rfl ?_
  refine xr_add hx hb dL_law_289 ?_
  refine va_sld hx hb hX9 hbl hbA hS (xvp (t := i + 4) (by omega) (by omega) hn) dL_law_290 ?_
  refine jt_i (iI p_10) h_11 ?_
  refine lv_aload_n hx hb dL_law_291 rfl (lv_at hl 3 rfl) ?_
  refine lv_iload_n hx hb dL_law_292 rfl (lv_at hl 0 rfl) ?_
  refine lv_iconst (v := iI 5) hx hb dL_law_293 rfl ?_
  refine xr_add hx hb dL_law_294 ?_
  refine va_sld hx hb hX9 hbl hbA hS (xvp (t := i + 5) (by omega) (by omega) hn) dL_law_295 ?_
  refine jt_i (iI p_13) h_14 ?_
  obtain ⟨hP, hD⟩ := lsw hP hD
  have hPm := jp_tail hP
  have hDm := jd_tail hD
  refine jct_i (va_runV (As := [.int (iI p_1), .int (iI p_4), .int (iI p_7), .int (iI p_10), .int (iI p_13)]) (rest := []) ⟨hx, hb, hml, hown, hts⟩ (sX13_feed l dC dI _ am cm g a p_1 p_4 p_7 p_10 p_13 hM r_3 r_6 r_9 r_12 r_15) (cwV 5 hts (jgoodVL m_1419 m_340 m_341 m_503 m_135) rfl rfl rfl (by decide +kernel) ⟨(Nat.le_of_ble_eq_true rfl), (Nat.le_of_ble_eq_true rfl)⟩) ⟨jw_blind, va_recv hKm hPm (ci := 13) (q0 := 0) rfl rfl, fun U hU hW => ⟨rfl, jw_of hU hW hPm hKm hDm⟩⟩ rfl rfl hl.1 rfl (lv_room (Nat.le_of_ble_eq_true rfl)) dL_law_296 ⟨(show nc + 0 ≤ 600000 by omega), (show ns + 0 ≤ 7302250 by omega)⟩) hP hD hS hA (fun r u_37 H locs w_36 hP hKm hD hS => ?_)
  obtain ⟨g_38, a_39⟩ := u_37
  obtain ⟨y_35, rfl, h_40, h_41, h_42, h_43⟩ := w_36
  have hP : va_P (dC, dI) vwCl (xG L cid K N v_19 ++ mG am cm g_38 a_39) H := hP
  have hD : va_D (fun q : Nat => s.heap.size ≤ q) (xG L cid K N v_19 ++ mG am cm g_38 a_39) := hD
  have h_40 : mI g_38 a_39 := h_40
  have h_44 : rLine g_38 a_39 := rLine_t (h_41 56 (by decide)) (h_42 45 (by decide)) hrLine
  have h_45 : rLead g_38 a_39 := rLead_t (h_41 37 (by decide)) (h_42 27 (by decide)) (h_42 31 (by decide)) hrLead
  have h_46 : rSkill g_38 a_39 := rSkill_t (h_41 50 (by decide)) (h_42 38 (by decide)) hrSkill
  have h_47 : rSh g_38 a_39 := rSh_t (h_41 18 (by decide)) (h_41 26 (by decide)) (h_42 9 (by decide)) (h_42 10 (by decide)) (h_42 11 (by decide)) (h_42 12 (by decide)) (h_42 16 (by decide)) hrSh
  have h_48 : v_19 z0 0 = g_38 30 := h_22.trans (h_41 30 (by decide)).symm
  have h_49 : v_19 z0 11 = g_38 50 := h_23.trans (h_41 50 (by decide)).symm
  have h_50 : v_19 (v_19 z0 19) 1 = g_38 78 := h_24.trans (h_41 78 (by decide)).symm
  have h_51 : v_19 (v_19 z0 14) 5 = g_38 66 := h_28.trans (h_41 66 (by decide)).symm
  have h_52 : rSub v_19 z0 a_39 := rSub_m (h_42 60 (by decide)) h_32
  have h_53 : rHand v_19 z0 g_38 a_39 := rHand_m (h_41 50 (by decide)) (h_42 41 (by decide)) h_33
  have h_54 : rNews v_19 z0 g_38 a_39 := rNews_m (h_41 66 (by decide)) (h_42 51 (by decide)) (h_42 52 (by decide)) (h_42 53 (by decide)) (h_42 54 (by decide)) h_34
  obtain ⟨hP, hD⟩ := lsw hP hD
  refine lv_pop hx hb dL_law_299 rfl ?_
  refine lv_goto (tgt := 1804) hx hb dL_law_300 (by decide) ?_
  exact kk L K N v_19 g_38 a_39 _ _ H locs hz I_20 h_40 h_44 h_45 h_46 h_47 h_48 h_49 h_50 h_51 h_52 h_53 h_54 (by omega) (by omega) hP hD hS
set_option maxHeartbeats 4000000 in
set_option maxRecDepth 100000 in
theorem lc_1 {p : Program} {l : Launch} {e : Env} {s : State} {m : MethodId} {below : List Frame} {meth : Method} {c : Code} {b n : Nat} {xs : Nat → Int32} (C0 : lw_At p s m meth c b n xs) (hn : n ≤ 3072) {dC : Nat → ClassId} {dI : Nat → Nat → Nat} {am : Nat → Nat} {cm cid : Nat → ClassId} {tW : Nat} {sK sV : Nat → Nat} (hXx : xX tW sK sV (fun q : Nat => s.heap.size ≤ q) s s.heap) (hKx : va_K (dC, dI) vwCl (xT cid) s) (hKm : va_K (dC, dI) vwCl (mT cm) s) {z0 : Int} {i : Int} (hi0 : 0 ≤ i) (hi : i + 6 ≤ n) {L : List Nat} {K : Int → Nat} {N : Int → Int} {v : Int → Int → Int} {g : Nat → Int} {a : Nat → Int → Int} (hz : ok L K z0 12) (hI : xI L K N v) (hM : mI g a) (hrLine : rLine g a) (hrLead : rLead g a) (hrSkill : rSkill g a) (hrSh : rSh g a) (hnow : v z0 0 = g 30) (hhands : v z0 11 = g 50) (hstolen : v (v z0 19) 1 = g 78) (htold : v (v z0 14) 5 = g 66) (hsub : rSub v z0 a) (hhd : rHand v z0 g a) (hnw : rNews v z0 g a) {nc ns : Nat} (hc : nc + 5 ≤ 600000) (hs : ns + 12100 ≤ 7302250) {H : Heap} {locs : List Loc} {ls : Array Slot} (hP : va_P (dC, dI) vwCl (mG am cm g a ++ xG L cid K N v) H) (hD : va_D (fun q : Nat => s.heap.size ≤ q) (mG am cm g a ++ xG L cid K N v)) (hS : va_S (fun q : Nat => s.heap.size ≤ q) s.heap H locs) (hl : lv_has ls 4 [(3, .int (iI i)), (2, .ref (am 0)), (1, .ref z0.toNat), (0, .ref b)])
    (kk : ∀ (L : List Nat) (K : Int → Nat) (N : Int → Int) (v : Int → Int → Int) (g : Nat → Int) (a : Nat → Int → Int) (nc1 ns1 : Nat) (H : Heap) (locs : List Loc), ok L K z0 12 → xI L K N v → mI g a → rLine g a → rLead g a → rSkill g a → rSh g a → v z0 0 = g 30 → v z0 11 = g 50 → v (v z0 19) 1 = g 78 → v (v z0 14) 5 = g 66 → rSub v z0 a → rHand v z0 g a → rNews v z0 g a → nc1 ≤ nc + 5 → ns1 ≤ ns + 12100 → va_P (dC, dI) vwCl (mG am cm g a ++ xG L cid K N v) H → va_D (fun q : Nat => s.heap.size ≤ q) (mG am cm g a ++ xG L cid K N v) → va_S (fun q : Nat => s.heap.size ≤ q) s.heap H locs → W p l e room_1 s m #[Value.ref b] below meth c H locs nc1 ns1 (lw_Z below #[Value.ref b] s) (F0 m 1804 ls [])) : W p l e room_1 s m #[Value.ref b] below meth c H locs nc ns (lw_Z below #[Value.ref b] s) (F0 m 303 ls []) := by
  obtain ⟨hx, hb, hr, hml, hown, hts, hX9, hbl, hlocks, hgv⟩ := id C0
  have hA : ∀ q : Nat, s.heap.size ≤ q → (fun q : Nat => s.heap.size ≤ q) q := fun _ h => h
  have hbA : ¬ (fun q : Nat => s.heap.size ≤ q) b := Nat.not_le.mpr hbl
  refine lv_aload_n hx hb dL_law_303 rfl (lv_at hl 2 rfl) ?_
  refine lv_aload_n hx hb dL_law_304 rfl (lv_at hl 3 rfl) ?_
  refine lv_iload_n hx hb dL_law_305 rfl (lv_at hl 0 rfl) ?_
  refine lv_iconst (v := iI 1) hx hb dL_law_306 rfl ?_
  refine xr_add hx hb dL_law_307 ?_
  refine va_sld hx hb hX9 hbl hbA hS (xvp (t := i + 1) (by omega) (by omega) hn) dL_law_308 ?_
  obtain ⟨p_1, h_2, r_3⟩ : ∃ y : Int, xs (iI (i + 1)).toNatClampNeg = iI y ∧ rg y := ⟨_, iI_of _, rg_of _⟩
  refine jt_i (iI p_1) h_2 ?_
  have hPx := jp_tail hP
  have hDx := jd_tail hD
  refine jct_i (va_runV (As := [.int (iI p_1)]) (rest := []) ⟨hx, hb, hml, hown, hts⟩ (sX12_end l dC dI _ L cid K N tW sK sV v z0 p_1 hI hz r_3) (cwV 1 hts (jgoodVL m_1420 m_1421 m_1422 m_873 m_1423) rfl rfl rfl (by decide +kernel) ⟨(Nat.le_of_ble_eq_true rfl), (Nat.le_of_ble_eq_true rfl)⟩) ⟨xP_blind, xrecv hKx hPx hz rfl rfl, fun U hU hW => ⟨rfl, xP_of hU hW hPx hKx hDx hXx hS (fun _ h => h) hA⟩⟩ rfl rfl hl.1 rfl (lv_room (Nat.le_of_ble_eq_true rfl)) dL_law_309 ⟨(show nc + 0 ≤ 600000 by omega), (show ns + 0 ≤ 7302250 by omega)⟩) hP hD hS hA (fun r v_7 H locs w_5 hP hKx hD hS => ?_)
  obtain ⟨x_4, rfl, I_8, f_9, f_6⟩ := w_5
  have hP : va_P (dC, dI) vwCl (mG am cm g a ++ xG L cid K N v_7) H := hP
  have hD : va_D (fun q : Nat => s.heap.size ≤ q) (mG am cm g a ++ xG L cid K N v_7) := hD
  have h_10 : v_7 z0 0 = g 30 := (fr_use hz f_9 rfl).trans hnow
  have h_11 : v_7 z0 11 = g 50 := (fr_use hz f_9 rfl).trans hhands
  have h_13 : ok L K (v z0 19) 10 := xf_12_19 hI hz
  have b_14 : v_7 z0 19 = v z0 19 := fr_use hz f_9 rfl
  have b_15 : v_7 (v z0 19) 1 = v (v z0 19) 1 := fr_use h_13 f_9 rfl
  have h_12 : v_7 (v_7 z0 19) 1 = g 78 := by rw [b_14, b_15]; exact hstolen
  have h_17 : ok L K (v z0 14) 5 := xf_12_14 hI hz
  have b_18 : v_7 z0 14 = v z0 14 := fr_use hz f_9 rfl
  have b_19 : v_7 (v z0 14) 5 = v (v z0 14) 5 := fr_use h_17 f_9 rfl
  have h_16 : v_7 (v_7 z0 14) 5 = g 66 := by rw [b_18, b_19]; exact htold
  have h_20 : rSub v_7 z0 a := rSub_x hI hz (frE_of f_9) rfl (fun _ => rfl) hsub
  have h_21 : rHand v_7 z0 g a := rHand_x hI hz (frE_of f_9) rfl (fun _ => rfl) rfl hhd
  have h_22 : rNews v_7 z0 g a := rNews_x hI hz (frE_of f_9) rfl (fun _ => rfl) (fun _ => rfl) (fun _ => rfl) (fun _ => rfl) (fun _ => rfl) rfl rfl rfl rfl rfl hnw
  refine lv_pop hx hb dL_law_312 rfl ?_
  refine lv_aload_n hx hb dL_law_313 rfl (lv_at hl 1 rfl) ?_
  refine lv_aload_n hx hb dL_law_314 rfl (lv_at hl 3 rfl) ?_
  refine lv_iload_n hx hb dL_law_315 rfl (lv_at hl 0 rfl) ?_
  refine lv_iconst (v := iI 1) hx hb dL_law_316 rfl ?_
  refine xr_add hx hb dL_law_317 ?_
  refine va_sld hx hb hX9 hbl hbA hS (xvp (t := i + 1) (by omega) (by omega) hn) dL_law_318 ?_
  refine jt_i (iI p_1) h_2 ?_
  obtain ⟨hP, hD⟩ := lsw hP hD
  have hPm := jp_tail hP
  have hDm := jd_tail hD
  refine jct_i (va_runV (As := [.int (iI p_1)]) (rest := []) ⟨hx, hb, hml, hown, hts⟩ (sX13_end l dC dI _ am cm g a p_1 hM r_3) (cwV 1 hts (jgoodVL m_1424 m_324 m_325 m_503 m_127) rfl rfl rfl (by decide +kernel) ⟨(Nat.le_of_ble_eq_true rfl), (Nat.le_of_ble_eq_true rfl)⟩) ⟨jw_blind, va_recv hKm hPm (ci := 13) (q0 := 0) rfl rfl, fun U hU hW => ⟨rfl, jw_of hU hW hPm hKm hDm⟩⟩ rfl rfl hl.1 rfl (lv_room (Nat.le_of_ble_eq_true rfl)) dL_law_319 ⟨(show nc + 0 ≤ 600000 by omega), (show ns + 0 ≤ 7302250 by omega)⟩) hP hD hS hA (fun r u_25 H locs w_24 hP hKm hD hS => ?_)
  obtain ⟨g_26, a_27⟩ := u_25
  obtain ⟨y_23, rfl, h_28, h_29, h_30, h_31⟩ := w_24
  have hP : va_P (dC, dI) vwCl (xG L cid K N v_7 ++ mG am cm g_26 a_27) H := hP
  have hD : va_D (fun q : Nat => s.heap.size ≤ q) (xG L cid K N v_7 ++ mG am cm g_26 a_27) := hD
  have h_28 : mI g_26 a_27 := h_28
  have h_32 : rLine g_26 a_27 := rLine_t (h_29 56 (by decide)) (h_30 45 (by decide)) hrLine
  have h_33 : rLead g_26 a_27 := rLead_t (h_29 37 (by decide)) (h_30 27 (by decide)) (h_30 31 (by decide)) hrLead
  have h_34 : rSkill g_26 a_27 := rSkill_t (h_29 50 (by decide)) (h_30 38 (by decide)) hrSkill
  have h_35 : rSh g_26 a_27 := rSh_t (h_29 18 (by decide)) (h_29 26 (by decide)) (h_30 9 (by decide)) (h_30 10 (by decide)) (h_30 11 (by decide)) (h_30 12 (by decide)) (h_30 16 (by decide)) hrSh
  have h_36 : v_7 z0 0 = g_26 30 := h_10.trans (h_29 30 (by decide)).symm
  have h_37 : v_7 z0 11 = g_26 50 := h_11.trans (h_29 50 (by decide)).symm
  have h_38 : v_7 (v_7 z0 19) 1 = g_26 78 := h_12.trans (h_29 78 (by decide)).symm
  have h_39 : v_7 (v_7 z0 14) 5 = g_26 66 := h_16.trans (h_29 66 (by decide)).symm
  have h_40 : rSub v_7 z0 a_27 := rSub_m (h_30 60 (by decide)) h_20
  have h_41 : rHand v_7 z0 g_26 a_27 := rHand_m (h_29 50 (by decide)) (h_30 41 (by decide)) h_21
  have h_42 : rNews v_7 z0 g_26 a_27 := rNews_m (h_29 66 (by decide)) (h_30 51 (by decide)) (h_30 52 (by decide)) (h_30 53 (by decide)) (h_30 54 (by decide)) h_22
  obtain ⟨hP, hD⟩ := lsw hP hD
  refine lv_pop hx hb dL_law_322 rfl ?_
  refine lv_goto (tgt := 1804) hx hb dL_law_323 (by decide) ?_
  exact kk L K N v_7 g_26 a_27 _ _ H locs hz I_8 h_28 h_32 h_33 h_34 h_35 h_36 h_37 h_38 h_39 h_40 h_41 h_42 (by omega) (by omega) hP hD hS
set_option maxHeartbeats 4000000 in
set_option maxRecDepth 100000 in
theorem lc_2 {p : Program} {l : Launch} {e : Env} {s : State} {m : MethodId} {below : List Frame} {meth : Method} {c : Code} {b n : Nat} {xs : Nat → Int32} (C0 : lw_At p s m meth c b n xs) (hn : n ≤ 3072) {dC : Nat → ClassId} {dI : Nat → Nat → Nat} {am : Nat → Nat} {cm cid : Nat → ClassId} {tW : Nat} {sK sV : Nat → Nat} (hXx : xX tW sK sV (fun q : Nat => s.heap.size ≤ q) s s.heap) (hKx : va_K (dC, dI) vwCl (xT cid) s) (hKm : va_K (dC, dI) vwCl (mT cm) s) {z0 : Int} {i : Int} (hi0 : 0 ≤ i) (hi : i + 6 ≤ n) {L : List Nat} {K : Int → Nat} {N : Int → Int} {v : Int → Int → Int} {g : Nat → Int} {a : Nat → Int → Int} (hz : ok L K z0 12) (hI : xI L K N v) (hM : mI g a) (hrLine : rLine g a) (hrLead : rLead g a) (hrSkill : rSkill g a) (hrSh : rSh g a) (hnow : v z0 0 = g 30) (hhands : v z0 11 = g 50) (hstolen : v (v z0 19) 1 = g 78) (htold : v (v z0 14) 5 = g 66) (hsub : rSub v z0 a) (hhd : rHand v z0 g a) (hnw : rNews v z0 g a) {nc ns : Nat} (hc : nc + 5 ≤ 600000) (hs : ns + 12100 ≤ 7302250) {H : Heap} {locs : List Loc} {ls : Array Slot} (hP : va_P (dC, dI) vwCl (mG am cm g a ++ xG L cid K N v) H) (hD : va_D (fun q : Nat => s.heap.size ≤ q) (mG am cm g a ++ xG L cid K N v)) (hS : va_S (fun q : Nat => s.heap.size ≤ q) s.heap H locs) (hl : lv_has ls 4 [(3, .int (iI i)), (2, .ref (am 0)), (1, .ref z0.toNat), (0, .ref b)])
    (kk : ∀ (L : List Nat) (K : Int → Nat) (N : Int → Int) (v : Int → Int → Int) (g : Nat → Int) (a : Nat → Int → Int) (nc1 ns1 : Nat) (H : Heap) (locs : List Loc), ok L K z0 12 → xI L K N v → mI g a → rLine g a → rLead g a → rSkill g a → rSh g a → v z0 0 = g 30 → v z0 11 = g 50 → v (v z0 19) 1 = g 78 → v (v z0 14) 5 = g 66 → rSub v z0 a → rHand v z0 g a → rNews v z0 g a → nc1 ≤ nc + 5 → ns1 ≤ ns + 12100 → va_P (dC, dI) vwCl (mG am cm g a ++ xG L cid K N v) H → va_D (fun q : Nat => s.heap.size ≤ q) (mG am cm g a ++ xG L cid K N v) → va_S (fun q : Nat => s.heap.size ≤ q) s.heap H locs → W p l e room_1 s m #[Value.ref b] below meth c H locs nc1 ns1 (lw_Z below #[Value.ref b] s) (F0 m 1804 ls [])) : W p l e room_1 s m #[Value.ref b] below meth c H locs nc ns (lw_Z below #[Value.ref b] s) (F0 m 326 ls []) := by
  obtain ⟨hx, hb, hr, hml, hown, hts, hX9, hbl, hlocks, hgv⟩ := id C0
  have hA : ∀ q : Nat, s.heap.size ≤ q → (fun q : Nat => s.heap.size ≤ q) q := fun _ h => h
  have hbA : ¬ (fun q : Nat => s.heap.size ≤ q) b := Nat.not_le.mpr hbl
  refine lv_aload_n hx hb dL_law_326 rfl (lv_at hl 2 rfl) ?_
  have hPx := jp_tail hP
  have hDx := jd_tail hD
  refine jct_i (va_runV (As := []) (rest := []) ⟨hx, hb, hml, hown, hts⟩ (sX12_fault l dC dI _ L cid K N tW sK sV v z0 hI hz) (cwV 0 hts (jgoodVL m_1425 m_1426 m_1427 m_873 m_1428) rfl rfl rfl (by decide +kernel) ⟨(Nat.le_of_ble_eq_true rfl), (Nat.le_of_ble_eq_true rfl)⟩) ⟨xP_blind, xrecv hKx hPx hz rfl rfl, fun U hU hW => ⟨rfl, xP_of hU hW hPx hKx hDx hXx hS (fun _ h => h) hA⟩⟩ rfl rfl hl.1 rfl (lv_room (Nat.le_of_ble_eq_true rfl)) dL_law_327 ⟨(show nc + 0 ≤ 600000 by omega), (show ns + 0 ≤ 7302250 by omega)⟩) hP hD hS hA (fun r v_4 H locs w_2 hP hKx hD hS => ?_)
  obtain ⟨x_1, rfl, I_5, f_6, f_3⟩ := w_2
  have hP : va_P (dC, dI) vwCl (mG am cm g a ++ xG L cid K N v_4) H := hP
  have hD : va_D (fun q : Nat => s.heap.size ≤ q) (mG am cm g a ++ xG L cid K N v_4) := hD
  have h_7 : v_4 z0 0 = g 30 := (fr_use hz f_6 rfl).trans hnow
  have h_8 : v_4 z0 11 = g 50 := (fr_use hz f_6 rfl).trans hhands
  have h_10 : ok L K (v z0 19) 10 := xf_12_19 hI hz
  have b_11 : v_4 z0 19 = v z0 19 := fr_use hz f_6 rfl
  have b_12 : v_4 (v z0 19) 1 = v (v z0 19) 1 := fr_use h_10 f_6 rfl
  have h_9 : v_4 (v_4 z0 19) 1 = g 78 := by rw [b_11, b_12]; exact hstolen
  have h_14 : ok L K (v z0 14) 5 := xf_12_14 hI hz
  have b_15 : v_4 z0 14 = v z0 14 := fr_use hz f_6 rfl
  have b_16 : v_4 (v z0 14) 5 = v (v z0 14) 5 := fr_use h_14 f_6 rfl
  have h_13 : v_4 (v_4 z0 14) 5 = g 66 := by rw [b_15, b_16]; exact htold
  have h_17 : rSub v_4 z0 a := rSub_x hI hz (frE_of f_6) rfl (fun _ => rfl) hsub
  have h_18 : rHand v_4 z0 g a := rHand_x hI hz (frE_of f_6) rfl (fun _ => rfl) rfl hhd
  have h_19 : rNews v_4 z0 g a := rNews_x hI hz (frE_of f_6) rfl (fun _ => rfl) (fun _ => rfl) (fun _ => rfl) (fun _ => rfl) (fun _ => rfl) rfl rfl rfl rfl rfl hnw
  refine lv_pop hx hb dL_law_330 rfl ?_
  refine lv_aload_n hx hb dL_law_331 rfl (lv_at hl 1 rfl) ?_
  obtain ⟨hP, hD⟩ := lsw hP hD
  have hPm := jp_tail hP
  have hDm := jd_tail hD
  refine jct_i (va_runV (As := []) (rest := []) ⟨hx, hb, hml, hown, hts⟩ (sX13_fault l dC dI _ am cm sK sV g a hM) (cwV 0 hts (jgoodVL m_1429 m_338 m_339 m_503 m_134) rfl rfl rfl (by decide +kernel) ⟨(Nat.le_of_ble_eq_true rfl), (Nat.le_of_ble_eq_true rfl)⟩) ⟨mP_blind, va_recv hKm hPm (ci := 13) (q0 := 0) rfl rfl, fun U hU hW => ⟨rfl, mP_of hU hW hPm hKm hDm hXx.2.2 hS (fun _ h => h) hA⟩⟩ rfl rfl hl.1 rfl (lv_room (Nat.le_of_ble_eq_true rfl)) dL_law_332 ⟨(show nc + 0 ≤ 600000 by omega), (show ns + 0 ≤ 7302250 by omega)⟩) hP hD hS hA (fun r u_22 H locs w_21 hP hKm hD hS => ?_)
  obtain ⟨g_23, a_24⟩ := u_22
  obtain ⟨y_20, rfl, h_25, h_26, h_27, h_28⟩ := w_21
  have hP : va_P (dC, dI) vwCl (xG L cid K N v_4 ++ mG am cm g_23 a_24) H := hP
  have hD : va_D (fun q : Nat => s.heap.size ≤ q) (xG L cid K N v_4 ++ mG am cm g_23 a_24) := hD
  have h_25 : mI g_23 a_24 := h_25
  have h_29 : rLine g_23 a_24 := rLine_t (h_26 56 (by decide)) (h_27 45 (by decide)) hrLine
  have h_30 : rLead g_23 a_24 := rLead_t (h_26 37 (by decide)) (h_27 27 (by decide)) (h_27 31 (by decide)) hrLead
  have h_31 : rSkill g_23 a_24 := rSkill_t (h_26 50 (by decide)) (h_27 38 (by decide)) hrSkill
  have h_32 : rSh g_23 a_24 := rSh_t (h_26 18 (by decide)) (h_26 26 (by decide)) (h_27 9 (by decide)) (h_27 10 (by decide)) (h_27 11 (by decide)) (h_27 12 (by decide)) (h_27 16 (by decide)) hrSh
  have h_33 : v_4 z0 0 = g_23 30 := h_7.trans (h_26 30 (by decide)).symm
  have h_34 : v_4 z0 11 = g_23 50 := h_8.trans (h_26 50 (by decide)).symm
  have h_35 : v_4 (v_4 z0 19) 1 = g_23 78 := h_9.trans (h_26 78 (by decide)).symm
  have h_36 : v_4 (v_4 z0 14) 5 = g_23 66 := h_13.trans (h_26 66 (by decide)).symm
  have h_37 : rSub v_4 z0 a_24 := rSub_m (h_27 60 (by decide)) h_17
  have h_38 : rHand v_4 z0 g_23 a_24 := rHand_m (h_26 50 (by decide)) (h_27 41 (by decide)) h_18
  have h_39 : rNews v_4 z0 g_23 a_24 := rNews_m (h_26 66 (by decide)) (h_27 51 (by decide)) (h_27 52 (by decide)) (h_27 53 (by decide)) (h_27 54 (by decide)) h_19
  obtain ⟨hP, hD⟩ := lsw hP hD
  refine lv_pop hx hb dL_law_335 rfl ?_
  refine lv_goto (tgt := 1804) hx hb dL_law_336 (by decide) ?_
  exact kk L K N v_4 g_23 a_24 _ _ H locs hz I_5 h_25 h_29 h_30 h_31 h_32 h_33 h_34 h_35 h_36 h_37 h_38 h_39 (by omega) (by omega) hP hD hS
set_option maxHeartbeats 4000000 in
set_option maxRecDepth 100000 in
theorem lc_3 {p : Program} {l : Launch} {e : Env} {s : State} {m : MethodId} {below : List Frame} {meth : Method} {c : Code} {b n : Nat} {xs : Nat → Int32} (C0 : lw_At p s m meth c b n xs) (hn : n ≤ 3072) {dC : Nat → ClassId} {dI : Nat → Nat → Nat} {am : Nat → Nat} {cm cid : Nat → ClassId} {tW : Nat} {sK sV : Nat → Nat} (hXx : xX tW sK sV (fun q : Nat => s.heap.size ≤ q) s s.heap) (hKx : va_K (dC, dI) vwCl (xT cid) s) (hKm : va_K (dC, dI) vwCl (mT cm) s) {z0 : Int} {i : Int} (hi0 : 0 ≤ i) (hi : i + 6 ≤ n) {L : List Nat} {K : Int → Nat} {N : Int → Int} {v : Int → Int → Int} {g : Nat → Int} {a : Nat → Int → Int} (hz : ok L K z0 12) (hI : xI L K N v) (hM : mI g a) (hrLine : rLine g a) (hrLead : rLead g a) (hrSkill : rSkill g a) (hrSh : rSh g a) (hnow : v z0 0 = g 30) (hhands : v z0 11 = g 50) (hstolen : v (v z0 19) 1 = g 78) (htold : v (v z0 14) 5 = g 66) (hsub : rSub v z0 a) (hhd : rHand v z0 g a) (hnw : rNews v z0 g a) {nc ns : Nat} (hc : nc + 5 ≤ 600000) (hs : ns + 12100 ≤ 7302250) {H : Heap} {locs : List Loc} {ls : Array Slot} (hP : va_P (dC, dI) vwCl (mG am cm g a ++ xG L cid K N v) H) (hD : va_D (fun q : Nat => s.heap.size ≤ q) (mG am cm g a ++ xG L cid K N v)) (hS : va_S (fun q : Nat => s.heap.size ≤ q) s.heap H locs) (hl : lv_has ls 4 [(3, .int (iI i)), (2, .ref (am 0)), (1, .ref z0.toNat), (0, .ref b)])
    (kk : ∀ (L : List Nat) (K : Int → Nat) (N : Int → Int) (v : Int → Int → Int) (g : Nat → Int) (a : Nat → Int → Int) (nc1 ns1 : Nat) (H : Heap) (locs : List Loc), ok L K z0 12 → xI L K N v → mI g a → rLine g a → rLead g a → rSkill g a → rSh g a → v z0 0 = g 30 → v z0 11 = g 50 → v (v z0 19) 1 = g 78 → v (v z0 14) 5 = g 66 → rSub v z0 a → rHand v z0 g a → rNews v z0 g a → nc1 ≤ nc + 5 → ns1 ≤ ns + 12100 → va_P (dC, dI) vwCl (mG am cm g a ++ xG L cid K N v) H → va_D (fun q : Nat => s.heap.size ≤ q) (mG am cm g a ++ xG L cid K N v) → va_S (fun q : Nat => s.heap.size ≤ q) s.heap H locs → W p l e room_1 s m #[Value.ref b] below meth c H locs nc1 ns1 (lw_Z below #[Value.ref b] s) (F0 m 1804 ls [])) : W p l e room_1 s m #[Value.ref b] below meth c H locs nc ns (lw_Z below #[Value.ref b] s) (F0 m 339 ls []) := by
  obtain ⟨hx, hb, hr, hml, hown, hts, hX9, hbl, hlocks, hgv⟩ := id C0
  have hA : ∀ q : Nat, s.heap.size ≤ q → (fun q : Nat => s.heap.size ≤ q) q := fun _ h => h
  have hbA : ¬ (fun q : Nat => s.heap.size ≤ q) b := Nat.not_le.mpr hbl
  refine lv_aload_n hx hb dL_law_339 rfl (lv_at hl 2 rfl) ?_
  have hPx := jp_tail hP
  have hDx := jd_tail hD
  refine jct_i (va_runV (As := []) (rest := []) ⟨hx, hb, hml, hown, hts⟩ (sX12_sheet l dC dI _ L cid K N tW sK sV v z0 hI hz) (cwV 0 hts (jgoodVL m_1430 m_1431 m_1432 m_873 m_1433) rfl rfl rfl (by decide +kernel) ⟨(Nat.le_of_ble_eq_true rfl), (Nat.le_of_ble_eq_true rfl)⟩) ⟨xP_blind, xrecv hKx hPx hz rfl rfl, fun U hU hW => ⟨rfl, xP_of hU hW hPx hKx hDx hXx hS (fun _ h => h) hA⟩⟩ rfl rfl hl.1 rfl (lv_room (Nat.le_of_ble_eq_true rfl)) dL_law_340 ⟨(show nc + 5 ≤ 600000 by omega), (show ns + 636 ≤ 7302250 by omega)⟩) hP hD hS hA (fun r u_4 H locs w_2 hP hKx hD hS => ?_)
  obtain ⟨L_5, K_6, N_7, v_8⟩ := u_4
  obtain ⟨x_1, rfl, I_9, E_10, f_11, f_3⟩ := w_2
  have hP : va_P (dC, dI) vwCl (mG am cm g a ++ xG L_5 cid K_6 N_7 v_8) H := hP
  have hD : va_D (fun q : Nat => s.heap.size ≤ q) (mG am cm g a ++ xG L_5 cid K_6 N_7 v_8) := hD
  have I_9 : xI L_5 K_6 N_7 v_8 := I_9
  have E_10 : xE L K N L_5 K_6 N_7 := E_10
  have f_11 : frE L K [(7, 1), (7, 6), (7, 7), (7, 8), (7, 10), (7, 14), (8, 1), (13, 0), (13, 1), (13, 2), (13, 3), (21, (-1)), (22, (-1)), (23, (-1)), (24, (-1)), (25, (-1)), (26, (-1)), (27, (-1)), (28, (-1)), (29, (-1)), (66, (-1)), (69, (-1)), (99, 0)] v_8 v := f_11
  have h_13 : v_8 z0 0 = g 30 := (frE_use hz f_11 rfl).trans hnow
  have h_14 : v_8 z0 11 = g 50 := (frE_use hz f_11 rfl).trans hhands
  have h_16 : ok L K (v z0 19) 10 := xf_12_19 hI hz
  have b_17 : v_8 z0 19 = v z0 19 := frE_use hz f_11 rfl
  have b_18 : v_8 (v z0 19) 1 = v (v z0 19) 1 := frE_use h_16 f_11 rfl
  have h_15 : v_8 (v_8 z0 19) 1 = g 78 := by rw [b_17, b_18]; exact hstolen
  have h_20 : ok L K (v z0 14) 5 := xf_12_14 hI hz
  have b_21 : v_8 z0 14 = v z0 14 := frE_use hz f_11 rfl
  have b_22 : v_8 (v z0 14) 5 = v (v z0 14) 5 := frE_use h_20 f_11 rfl
  have h_19 : v_8 (v_8 z0 14) 5 = g 66 := by rw [b_21, b_22]; exact htold
  have h_23 : rSub v_8 z0 a := rSub_x hI hz f_11 rfl (fun _ => rfl) hsub
  have h_24 : rHand v_8 z0 g a := rHand_x hI hz f_11 rfl (fun _ => rfl) rfl hhd
  have h_25 : rNews v_8 z0 g a := rNews_x hI hz f_11 rfl (fun _ => rfl) (fun _ => rfl) (fun _ => rfl) (fun _ => rfl) (fun _ => rfl) rfl rfl rfl rfl rfl hnw
  have h_12 := xE_ok E_10 hz
  refine lv_pop hx hb dL_law_343 rfl ?_
  refine lv_aload_n hx hb dL_law_344 rfl (lv_at hl 1 rfl) ?_
  obtain ⟨hP, hD⟩ := lsw hP hD
  have hPm := jp_tail hP
  have hDm := jd_tail hD
  refine jct_i (va_runV (As := []) (rest := []) ⟨hx, hb, hml, hown, hts⟩ (sX13_sheet l dC dI _ am cm sK sV g a hM hrSh) (cwV 0 hts (jgoodVL m_1434 m_462 m_463 m_503 m_199) rfl rfl rfl (by decide +kernel) ⟨(Nat.le_of_ble_eq_true rfl), (Nat.le_of_ble_eq_true rfl)⟩) ⟨mP_blind, va_recv hKm hPm (ci := 13) (q0 := 0) rfl rfl, fun U hU hW => ⟨rfl, mP_of hU hW hPm hKm hDm hXx.2.2 hS (fun _ h => h) hA⟩⟩ rfl rfl hl.1 rfl (lv_room (Nat.le_of_ble_eq_true rfl)) dL_law_345 ⟨(show nc + 5 + 0 ≤ 600000 by omega), (show ns + 636 + 0 ≤ 7302250 by omega)⟩) hP hD hS hA (fun r u_28 H locs w_27 hP hKm hD hS => ?_)
  obtain ⟨g_29, a_30⟩ := u_28
  obtain ⟨y_26, rfl, h_31, h_32, h_33, h_34, h_35⟩ := w_27
  have hP : va_P (dC, dI) vwCl (xG L_5 cid K_6 N_7 v_8 ++ mG am cm g_29 a_30) H := hP
  have hD : va_D (fun q : Nat => s.heap.size ≤ q) (xG L_5 cid K_6 N_7 v_8 ++ mG am cm g_29 a_30) := hD
  have h_31 : mI g_29 a_30 := h_31
  have h_36 : rLine g_29 a_30 := rLine_t (h_32 56 (by decide)) (h_33 45 (by decide)) hrLine
  have h_37 : rLead g_29 a_30 := rLead_t (h_32 37 (by decide)) (h_33 27 (by decide)) (h_33 31 (by decide)) hrLead
  have h_38 : rSkill g_29 a_30 := rSkill_t (h_32 50 (by decide)) (h_33 38 (by decide)) hrSkill
  have h_39 : rSh g_29 a_30 := h_35
  have h_40 : v_8 z0 0 = g_29 30 := h_13.trans (h_32 30 (by decide)).symm
  have h_41 : v_8 z0 11 = g_29 50 := h_14.trans (h_32 50 (by decide)).symm
  have h_42 : v_8 (v_8 z0 19) 1 = g_29 78 := h_15.trans (h_32 78 (by decide)).symm
  have h_43 : v_8 (v_8 z0 14) 5 = g_29 66 := h_19.trans (h_32 66 (by decide)).symm
  have h_44 : rSub v_8 z0 a_30 := rSub_m (h_33 60 (by decide)) h_23
  have h_45 : rHand v_8 z0 g_29 a_30 := rHand_m (h_32 50 (by decide)) (h_33 41 (by decide)) h_24
  have h_46 : rNews v_8 z0 g_29 a_30 := rNews_m (h_32 66 (by decide)) (h_33 51 (by decide)) (h_33 52 (by decide)) (h_33 53 (by decide)) (h_33 54 (by decide)) h_25
  obtain ⟨hP, hD⟩ := lsw hP hD
  refine lv_pop hx hb dL_law_348 rfl ?_
  refine lv_goto (tgt := 1804) hx hb dL_law_349 (by decide) ?_
  exact kk L_5 K_6 N_7 v_8 g_29 a_30 _ _ H locs h_12 I_9 h_31 h_36 h_37 h_38 h_39 h_40 h_41 h_42 h_43 h_44 h_45 h_46 (by omega) (by omega) hP hD hS
