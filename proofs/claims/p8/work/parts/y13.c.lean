set_option maxHeartbeats 4000000 in
set_option maxRecDepth 100000 in
theorem lc_12 {p : Program} {l : Launch} {e : Env} {s : State} {m : MethodId} {below : List Frame} {meth : Method} {c : Code} {b n : Nat} {xs : Nat → Int32} (C0 : lw_At p s m meth c b n xs) (hn : n ≤ 3072) {dC : Nat → ClassId} {dI : Nat → Nat → Nat} {am : Nat → Nat} {cm cid : Nat → ClassId} {tW : Nat} {sK sV : Nat → Nat} (hXx : xX tW sK sV (fun q : Nat => s.heap.size ≤ q) s s.heap) (hKx : va_K (dC, dI) vwCl (xT cid) s) (hKm : va_K (dC, dI) vwCl (mT cm) s) {z0 : Int} {i : Int} (hi0 : 0 ≤ i) (hi : i + 6 ≤ n) {L : List Nat} {K : Int → Nat} {N : Int → Int} {v : Int → Int → Int} {g : Nat → Int} {a : Nat → Int → Int} (hz : ok L K z0 12) (hI : xI L K N v) (hM : mI g a) (hrLine : rLine g a) (hrLead : rLead g a) (hrSkill : rSkill g a) (hrSh : rSh g a) (hnow : v z0 0 = g 30) {nc ns : Nat} (hc : nc + 5 ≤ 600000) (hs : ns + 12100 ≤ 7302250) {H : Heap} {locs : List Loc} {ls : Array Slot} (hP : va_P (dC, dI) vwCl (mG am cm g a ++ xG L cid K N v) H) (hD : va_D (fun q : Nat => s.heap.size ≤ q) (mG am cm g a ++ xG L cid K N v)) (hS : va_S (fun q : Nat => s.heap.size ≤ q) s.heap H locs) (hl : lv_has ls 4 [(3, .int (iI i)), (2, .ref (am 0)), (1, .ref z0.toNat), (0, .ref b)])
    (kk : ∀ (L : List Nat) (K : Int → Nat) (N : Int → Int) (v : Int → Int → Int) (g : Nat → Int) (a : Nat → Int → Int) (nc1 ns1 : Nat) (H : Heap) (locs : List Loc), ok L K z0 12 → xI L K N v → mI g a → rLine g a → rLead g a → rSkill g a → rSh g a → v z0 0 = g 30 → nc1 ≤ nc + 5 → ns1 ≤ ns + 12100 → va_P (dC, dI) vwCl (mG am cm g a ++ xG L cid K N v) H → va_D (fun q : Nat => s.heap.size ≤ q) (mG am cm g a ++ xG L cid K N v) → va_S (fun q : Nat => s.heap.size ≤ q) s.heap H locs → W p l e room_1 s m #[Value.ref b] below meth c H locs nc1 ns1 (lw_Z below #[Value.ref b] s) (F0 m 1804 ls [])) : W p l e room_1 s m #[Value.ref b] below meth c H locs nc ns (lw_Z below #[Value.ref b] s) (F0 m 686 ls []) := by
  obtain ⟨hx, hb, hr, hml, hown, hts, hX9, hbl, hlocks, hgv⟩ := id C0
  have hA : ∀ q : Nat, s.heap.size ≤ q → (fun q : Nat => s.heap.size ≤ q) q := fun _ h => h
  have hbA : ¬ (fun q : Nat => s.heap.size ≤ q) b := Nat.not_le.mpr hbl
  refine lv_aload_n hx hb dL_law_686 rfl (lv_at hl 2 rfl) ?_
  refine lv_aload_n hx hb dL_law_687 rfl (lv_at hl 3 rfl) ?_
  refine lv_iload_n hx hb dL_law_688 rfl (lv_at hl 0 rfl) ?_
  refine lv_iconst (v := iI 1) hx hb dL_law_689 rfl ?_
  refine xr_add hx hb dL_law_690 ?_
  refine va_sld hx hb hX9 hbl hbA hS (xvp (t := i + 1) (by omega) (by omega) hn) dL_law_691 ?_
  obtain ⟨p_1, h_2, r_3⟩ : ∃ y : Int, xs (iI (i + 1)).toNatClampNeg = iI y ∧ rg y := ⟨_, iI_of _, rg_of _⟩
  refine jt_i (iI p_1) h_2 ?_
  have hPx := jp_tail hP
  have hDx := jd_tail hD
  refine jct_i (va_runV (As := [.int (iI p_1)]) (rest := []) ⟨hx, hb, hml, hown, hts⟩ (sX12_strike l dC dI _ L cid K N tW sK sV v z0 p_1 hI hz r_3) (cwV 1 hts (jgoodVL m_1475 m_1476 m_1477 m_873 m_1478) rfl rfl rfl (by decide +kernel) ⟨(Nat.le_of_ble_eq_true rfl), (Nat.le_of_ble_eq_true rfl)⟩) ⟨xP_blind, xrecv hKx hPx hz rfl rfl, fun U hU hW => ⟨rfl, xP_of hU hW hPx hKx hDx hXx hS (fun _ h => h) hA⟩⟩ rfl rfl hl.1 rfl (lv_room (Nat.le_of_ble_eq_true rfl)) dL_law_692 ⟨(show nc + 0 ≤ 600000 by omega), (show ns + 0 ≤ 7302250 by omega)⟩) hP hD hS hA (fun r v_7 H locs w_5 hP hKx hD hS => ?_)
  obtain ⟨x_4, rfl, I_8, f_9, f_6⟩ := w_5
  have hP : va_P (dC, dI) vwCl (mG am cm g a ++ xG L cid K N v_7) H := hP
  have hD : va_D (fun q : Nat => s.heap.size ≤ q) (mG am cm g a ++ xG L cid K N v_7) := hD
  have h_10 : v_7 z0 0 = g 30 := (fr_use hz f_9 rfl).trans hnow
  refine lv_pop hx hb dL_law_695 rfl ?_
  refine lv_aload_n hx hb dL_law_696 rfl (lv_at hl 1 rfl) ?_
  refine lv_aload_n hx hb dL_law_697 rfl (lv_at hl 3 rfl) ?_
  refine lv_iload_n hx hb dL_law_698 rfl (lv_at hl 0 rfl) ?_
  refine lv_iconst (v := iI 1) hx hb dL_law_699 rfl ?_
  refine xr_add hx hb dL_law_700 ?_
  refine va_sld hx hb hX9 hbl hbA hS (xvp (t := i + 1) (by omega) (by omega) hn) dL_law_701 ?_
  refine jt_i (iI p_1) h_2 ?_
  obtain ⟨hP, hD⟩ := lsw hP hD
  have hPm := jp_tail hP
  have hDm := jd_tail hD
  refine jct_i (va_runV (As := [.int (iI p_1)]) (rest := []) ⟨hx, hb, hml, hown, hts⟩ (sX13_strike l dC dI _ am cm g a p_1 hM r_3 hrSh) (cwV 1 hts (jgoodVL m_1479 m_474 m_475 m_503 m_205) rfl rfl rfl (by decide +kernel) ⟨(Nat.le_of_ble_eq_true rfl), (Nat.le_of_ble_eq_true rfl)⟩) ⟨jw_blind, va_recv hKm hPm (ci := 13) (q0 := 0) rfl rfl, fun U hU hW => ⟨rfl, jw_of hU hW hPm hKm hDm⟩⟩ rfl rfl hl.1 rfl (lv_room (Nat.le_of_ble_eq_true rfl)) dL_law_702 ⟨(show nc + 0 ≤ 600000 by omega), (show ns + 0 ≤ 7302250 by omega)⟩) hP hD hS hA (fun r u_13 H locs w_12 hP hKm hD hS => ?_)
  obtain ⟨g_14, a_15⟩ := u_13
  obtain ⟨y_11, rfl, h_16, h_17, h_18, h_19⟩ := w_12
  have hP : va_P (dC, dI) vwCl (xG L cid K N v_7 ++ mG am cm g_14 a_15) H := hP
  have hD : va_D (fun q : Nat => s.heap.size ≤ q) (xG L cid K N v_7 ++ mG am cm g_14 a_15) := hD
  have h_16 : g_14 = g := h_16
  have h_17 : mI g_14 a_15 := h_17
  have h_20 : rLine g_14 a_15 := rLine_t (congrFun h_16 56) (h_18 45 (by decide)) hrLine
  have h_21 : rLead g_14 a_15 := rLead_t (congrFun h_16 37) (h_18 27 (by decide)) (h_18 31 (by decide)) hrLead
  have h_22 : rSkill g_14 a_15 := rSkill_t (congrFun h_16 50) (h_18 38 (by decide)) hrSkill
  have h_23 : rSh g_14 a_15 := rSh_t (congrFun h_16 18) (congrFun h_16 26) (h_18 9 (by decide)) (h_18 10 (by decide)) (h_18 11 (by decide)) (h_18 12 (by decide)) (h_18 16 (by decide)) hrSh
  have h_24 : v_7 z0 0 = g_14 30 := h_10.trans (congrFun h_16 30).symm
  obtain ⟨hP, hD⟩ := lsw hP hD
  refine lv_pop hx hb dL_law_705 rfl ?_
  refine lv_goto (tgt := 1804) hx hb dL_law_706 (by decide) ?_
  exact kk L K N v_7 g_14 a_15 _ _ H locs hz I_8 h_17 h_20 h_21 h_22 h_23 h_24 (by omega) (by omega) hP hD hS
set_option maxHeartbeats 4000000 in
set_option maxRecDepth 100000 in
theorem lc_13 {p : Program} {l : Launch} {e : Env} {s : State} {m : MethodId} {below : List Frame} {meth : Method} {c : Code} {b n : Nat} {xs : Nat → Int32} (C0 : lw_At p s m meth c b n xs) (hn : n ≤ 3072) {dC : Nat → ClassId} {dI : Nat → Nat → Nat} {am : Nat → Nat} {cm cid : Nat → ClassId} {tW : Nat} {sK sV : Nat → Nat} (hXx : xX tW sK sV (fun q : Nat => s.heap.size ≤ q) s s.heap) (hKx : va_K (dC, dI) vwCl (xT cid) s) (hKm : va_K (dC, dI) vwCl (mT cm) s) {z0 : Int} {i : Int} (hi0 : 0 ≤ i) (hi : i + 6 ≤ n) {L : List Nat} {K : Int → Nat} {N : Int → Int} {v : Int → Int → Int} {g : Nat → Int} {a : Nat → Int → Int} (hz : ok L K z0 12) (hI : xI L K N v) (hM : mI g a) (hrLine : rLine g a) (hrLead : rLead g a) (hrSkill : rSkill g a) (hrSh : rSh g a) (hnow : v z0 0 = g 30) {nc ns : Nat} (hc : nc + 5 ≤ 600000) (hs : ns + 12100 ≤ 7302250) {H : Heap} {locs : List Loc} {ls : Array Slot} (hP : va_P (dC, dI) vwCl (mG am cm g a ++ xG L cid K N v) H) (hD : va_D (fun q : Nat => s.heap.size ≤ q) (mG am cm g a ++ xG L cid K N v)) (hS : va_S (fun q : Nat => s.heap.size ≤ q) s.heap H locs) (hl : lv_has ls 4 [(3, .int (iI i)), (2, .ref (am 0)), (1, .ref z0.toNat), (0, .ref b)])
    (kk : ∀ (L : List Nat) (K : Int → Nat) (N : Int → Int) (v : Int → Int → Int) (g : Nat → Int) (a : Nat → Int → Int) (nc1 ns1 : Nat) (H : Heap) (locs : List Loc), ok L K z0 12 → xI L K N v → mI g a → rLine g a → rLead g a → rSkill g a → rSh g a → v z0 0 = g 30 → nc1 ≤ nc + 5 → ns1 ≤ ns + 12100 → va_P (dC, dI) vwCl (mG am cm g a ++ xG L cid K N v) H → va_D (fun q : Nat => s.heap.size ≤ q) (mG am cm g a ++ xG L cid K N v) → va_S (fun q : Nat => s.heap.size ≤ q) s.heap H locs → W p l e room_1 s m #[Value.ref b] below meth c H locs nc1 ns1 (lw_Z below #[Value.ref b] s) (F0 m 1804 ls [])) : W p l e room_1 s m #[Value.ref b] below meth c H locs nc ns (lw_Z below #[Value.ref b] s) (F0 m 709 ls []) := by
  obtain ⟨hx, hb, hr, hml, hown, hts, hX9, hbl, hlocks, hgv⟩ := id C0
  have hA : ∀ q : Nat, s.heap.size ≤ q → (fun q : Nat => s.heap.size ≤ q) q := fun _ h => h
  have hbA : ¬ (fun q : Nat => s.heap.size ≤ q) b := Nat.not_le.mpr hbl
  refine lv_aload_n hx hb dL_law_709 rfl (lv_at hl 2 rfl) ?_
  refine lv_aload_n hx hb dL_law_710 rfl (lv_at hl 3 rfl) ?_
  refine lv_iload_n hx hb dL_law_711 rfl (lv_at hl 0 rfl) ?_
  refine lv_iconst (v := iI 1) hx hb dL_law_712 rfl ?_
  refine xr_add hx hb dL_law_713 ?_
  refine va_sld hx hb hX9 hbl hbA hS (xvp (t := i + 1) (by omega) (by omega) hn) dL_law_714 ?_
  obtain ⟨p_1, h_2, r_3⟩ : ∃ y : Int, xs (iI (i + 1)).toNatClampNeg = iI y ∧ rg y := ⟨_, iI_of _, rg_of _⟩
  refine jt_i (iI p_1) h_2 ?_
  have hPx := jp_tail hP
  have hDx := jd_tail hD
  refine jct_i (va_runV (As := [.int (iI p_1)]) (rest := []) ⟨hx, hb, hml, hown, hts⟩ (sX12_later l dC dI _ L cid K N tW sK sV v z0 p_1 hI hz r_3) (cwV 1 hts (jgoodVL m_1480 m_1481 m_1482 m_873 m_1483) rfl rfl rfl (by decide +kernel) ⟨(Nat.le_of_ble_eq_true rfl), (Nat.le_of_ble_eq_true rfl)⟩) ⟨xP_blind, xrecv hKx hPx hz rfl rfl, fun U hU hW => ⟨rfl, xP_of hU hW hPx hKx hDx hXx hS (fun _ h => h) hA⟩⟩ rfl rfl hl.1 rfl (lv_room (Nat.le_of_ble_eq_true rfl)) dL_law_715 ⟨(show nc + 0 ≤ 600000 by omega), (show ns + 0 ≤ 7302250 by omega)⟩) hP hD hS hA (fun r v_7 H locs w_5 hP hKx hD hS => ?_)
  obtain ⟨x_4, rfl, I_8, f_9, f_6⟩ := w_5
  have hP : va_P (dC, dI) vwCl (mG am cm g a ++ xG L cid K N v_7) H := hP
  have hD : va_D (fun q : Nat => s.heap.size ≤ q) (mG am cm g a ++ xG L cid K N v_7) := hD
  have h_10 : v_7 z0 0 = g 30 := (fr_use hz f_9 rfl).trans hnow
  refine lv_pop hx hb dL_law_718 rfl ?_
  refine lv_aload_n hx hb dL_law_719 rfl (lv_at hl 1 rfl) ?_
  refine lv_aload_n hx hb dL_law_720 rfl (lv_at hl 3 rfl) ?_
  refine lv_iload_n hx hb dL_law_721 rfl (lv_at hl 0 rfl) ?_
  refine lv_iconst (v := iI 1) hx hb dL_law_722 rfl ?_
  refine xr_add hx hb dL_law_723 ?_
  refine va_sld hx hb hX9 hbl hbA hS (xvp (t := i + 1) (by omega) (by omega) hn) dL_law_724 ?_
  refine jt_i (iI p_1) h_2 ?_
  obtain ⟨hP, hD⟩ := lsw hP hD
  have hPm := jp_tail hP
  have hDm := jd_tail hD
  refine jct_i (va_runV (As := [.int (iI p_1)]) (rest := []) ⟨hx, hb, hml, hown, hts⟩ (sX13_later l dC dI _ am cm g a p_1 hM r_3 hrSh) (cwV 1 hts (jgoodVL m_1484 m_408 m_409 m_503 m_171) rfl rfl rfl (by decide +kernel) ⟨(Nat.le_of_ble_eq_true rfl), (Nat.le_of_ble_eq_true rfl)⟩) ⟨jw_blind, va_recv hKm hPm (ci := 13) (q0 := 0) rfl rfl, fun U hU hW => ⟨rfl, jw_of hU hW hPm hKm hDm⟩⟩ rfl rfl hl.1 rfl (lv_room (Nat.le_of_ble_eq_true rfl)) dL_law_725 ⟨(show nc + 0 ≤ 600000 by omega), (show ns + 0 ≤ 7302250 by omega)⟩) hP hD hS hA (fun r u_13 H locs w_12 hP hKm hD hS => ?_)
  obtain ⟨g_14, a_15⟩ := u_13
  obtain ⟨y_11, rfl, h_16, h_17, h_18, h_19⟩ := w_12
  have hP : va_P (dC, dI) vwCl (xG L cid K N v_7 ++ mG am cm g_14 a_15) H := hP
  have hD : va_D (fun q : Nat => s.heap.size ≤ q) (xG L cid K N v_7 ++ mG am cm g_14 a_15) := hD
  have h_16 : g_14 = g := h_16
  have h_17 : mI g_14 a_15 := h_17
  have h_20 : rLine g_14 a_15 := rLine_t (congrFun h_16 56) (h_18 45 (by decide)) hrLine
  have h_21 : rLead g_14 a_15 := rLead_t (congrFun h_16 37) (h_18 27 (by decide)) (h_18 31 (by decide)) hrLead
  have h_22 : rSkill g_14 a_15 := rSkill_t (congrFun h_16 50) (h_18 38 (by decide)) hrSkill
  have h_23 : rSh g_14 a_15 := rSh_t (congrFun h_16 18) (congrFun h_16 26) (h_18 9 (by decide)) (h_18 10 (by decide)) (h_18 11 (by decide)) (h_18 12 (by decide)) (h_18 16 (by decide)) hrSh
  have h_24 : v_7 z0 0 = g_14 30 := h_10.trans (congrFun h_16 30).symm
  obtain ⟨hP, hD⟩ := lsw hP hD
  refine lv_pop hx hb dL_law_728 rfl ?_
  refine lv_goto (tgt := 1804) hx hb dL_law_729 (by decide) ?_
  exact kk L K N v_7 g_14 a_15 _ _ H locs hz I_8 h_17 h_20 h_21 h_22 h_23 h_24 (by omega) (by omega) hP hD hS
set_option maxHeartbeats 4000000 in
set_option maxRecDepth 100000 in
theorem lc_14 {p : Program} {l : Launch} {e : Env} {s : State} {m : MethodId} {below : List Frame} {meth : Method} {c : Code} {b n : Nat} {xs : Nat → Int32} (C0 : lw_At p s m meth c b n xs) (hn : n ≤ 3072) {dC : Nat → ClassId} {dI : Nat → Nat → Nat} {am : Nat → Nat} {cm cid : Nat → ClassId} {tW : Nat} {sK sV : Nat → Nat} (hXx : xX tW sK sV (fun q : Nat => s.heap.size ≤ q) s s.heap) (hKx : va_K (dC, dI) vwCl (xT cid) s) (hKm : va_K (dC, dI) vwCl (mT cm) s) {z0 : Int} {i : Int} (hi0 : 0 ≤ i) (hi : i + 6 ≤ n) {L : List Nat} {K : Int → Nat} {N : Int → Int} {v : Int → Int → Int} {g : Nat → Int} {a : Nat → Int → Int} (hz : ok L K z0 12) (hI : xI L K N v) (hM : mI g a) (hrLine : rLine g a) (hrLead : rLead g a) (hrSkill : rSkill g a) (hrSh : rSh g a) (hnow : v z0 0 = g 30) {nc ns : Nat} (hc : nc + 5 ≤ 600000) (hs : ns + 12100 ≤ 7302250) {H : Heap} {locs : List Loc} {ls : Array Slot} (hP : va_P (dC, dI) vwCl (mG am cm g a ++ xG L cid K N v) H) (hD : va_D (fun q : Nat => s.heap.size ≤ q) (mG am cm g a ++ xG L cid K N v)) (hS : va_S (fun q : Nat => s.heap.size ≤ q) s.heap H locs) (hl : lv_has ls 4 [(3, .int (iI i)), (2, .ref (am 0)), (1, .ref z0.toNat), (0, .ref b)])
    (kk : ∀ (L : List Nat) (K : Int → Nat) (N : Int → Int) (v : Int → Int → Int) (g : Nat → Int) (a : Nat → Int → Int) (nc1 ns1 : Nat) (H : Heap) (locs : List Loc), ok L K z0 12 → xI L K N v → mI g a → rLine g a → rLead g a → rSkill g a → rSh g a → v z0 0 = g 30 → nc1 ≤ nc + 5 → ns1 ≤ ns + 12100 → va_P (dC, dI) vwCl (mG am cm g a ++ xG L cid K N v) H → va_D (fun q : Nat => s.heap.size ≤ q) (mG am cm g a ++ xG L cid K N v) → va_S (fun q : Nat => s.heap.size ≤ q) s.heap H locs → W p l e room_1 s m #[Value.ref b] below meth c H locs nc1 ns1 (lw_Z below #[Value.ref b] s) (F0 m 1804 ls [])) : W p l e room_1 s m #[Value.ref b] below meth c H locs nc ns (lw_Z below #[Value.ref b] s) (F0 m 732 ls []) := by
  obtain ⟨hx, hb, hr, hml, hown, hts, hX9, hbl, hlocks, hgv⟩ := id C0
  have hA : ∀ q : Nat, s.heap.size ≤ q → (fun q : Nat => s.heap.size ≤ q) q := fun _ h => h
  have hbA : ¬ (fun q : Nat => s.heap.size ≤ q) b := Nat.not_le.mpr hbl
  refine lv_aload_n hx hb dL_law_732 rfl (lv_at hl 2 rfl) ?_
  refine lv_aload_n hx hb dL_law_733 rfl (lv_at hl 3 rfl) ?_
  refine lv_iload_n hx hb dL_law_734 rfl (lv_at hl 0 rfl) ?_
  refine lv_iconst (v := iI 1) hx hb dL_law_735 rfl ?_
  refine xr_add hx hb dL_law_736 ?_
  refine va_sld hx hb hX9 hbl hbA hS (xvp (t := i + 1) (by omega) (by omega) hn) dL_law_737 ?_
  obtain ⟨p_1, h_2, r_3⟩ : ∃ y : Int, xs (iI (i + 1)).toNatClampNeg = iI y ∧ rg y := ⟨_, iI_of _, rg_of _⟩
  refine jt_i (iI p_1) h_2 ?_
  have hPx := jp_tail hP
  have hDx := jd_tail hD
  refine jc_i (va_runV (As := [.int (iI p_1)]) (rest := []) ⟨hx, hb, hml, hown, hts⟩ (sX12_volume l dC dI _ L cid K N tW sK sV v z0 p_1 hI hz r_3) (cwV 1 hts (jgoodVL m_1485 m_1486 m_1487 m_873 m_1488) rfl rfl rfl (by decide +kernel) ⟨(Nat.le_of_ble_eq_true rfl), (Nat.le_of_ble_eq_true rfl)⟩) ⟨xP_blind, xrecv hKx hPx hz rfl rfl, fun U hU hW => ⟨rfl, xP_of hU hW hPx hKx hDx hXx hS (fun _ h => h) hA⟩⟩ rfl rfl hl.1 rfl (lv_room (Nat.le_of_ble_eq_true rfl)) dL_law_738 ⟨(show nc + 0 ≤ 600000 by omega), (show ns + 0 ≤ 7302250 by omega)⟩) hP hS hA (fun r H locs w_5 hP hS => ?_)
  obtain ⟨x_4, rfl, f_6⟩ := w_5
  refine lv_pop hx hb dL_law_741 rfl ?_
  refine lv_aload_n hx hb dL_law_742 rfl (lv_at hl 1 rfl) ?_
  refine lv_aload_n hx hb dL_law_743 rfl (lv_at hl 3 rfl) ?_
  refine lv_iload_n hx hb dL_law_744 rfl (lv_at hl 0 rfl) ?_
  refine lv_iconst (v := iI 1) hx hb dL_law_745 rfl ?_
  refine xr_add hx hb dL_law_746 ?_
  refine va_sld hx hb hX9 hbl hbA hS (xvp (t := i + 1) (by omega) (by omega) hn) dL_law_747 ?_
  refine jt_i (iI p_1) h_2 ?_
  obtain ⟨hP, hD⟩ := lsw hP hD
  have hPm := jp_tail hP
  have hDm := jd_tail hD
  refine jct_i (va_runV (As := [.int (iI p_1)]) (rest := []) ⟨hx, hb, hml, hown, hts⟩ (sX13_volume l dC dI _ am cm g a p_1 hM r_3 hrSh) (cwV 1 hts (jgoodVL m_1489 m_492 m_493 m_503 m_214) rfl rfl rfl (by decide +kernel) ⟨(Nat.le_of_ble_eq_true rfl), (Nat.le_of_ble_eq_true rfl)⟩) ⟨jw_blind, va_recv hKm hPm (ci := 13) (q0 := 0) rfl rfl, fun U hU hW => ⟨rfl, jw_of hU hW hPm hKm hDm⟩⟩ rfl rfl hl.1 rfl (lv_room (Nat.le_of_ble_eq_true rfl)) dL_law_748 ⟨(show nc + 0 ≤ 600000 by omega), (show ns + 0 ≤ 7302250 by omega)⟩) hP hD hS hA (fun r u_9 H locs w_8 hP hKm hD hS => ?_)
  obtain ⟨g_10, a_11⟩ := u_9
  obtain ⟨y_7, rfl, h_12, h_13, h_14, h_15⟩ := w_8
  have hP : va_P (dC, dI) vwCl (xG L cid K N v ++ mG am cm g_10 a_11) H := hP
  have hD : va_D (fun q : Nat => s.heap.size ≤ q) (xG L cid K N v ++ mG am cm g_10 a_11) := hD
  have h_12 : g_10 = g := h_12
  have h_13 : mI g_10 a_11 := h_13
  have h_16 : rLine g_10 a_11 := rLine_t (congrFun h_12 56) (h_14 45 (by decide)) hrLine
  have h_17 : rLead g_10 a_11 := rLead_t (congrFun h_12 37) (h_14 27 (by decide)) (h_14 31 (by decide)) hrLead
  have h_18 : rSkill g_10 a_11 := rSkill_t (congrFun h_12 50) (h_14 38 (by decide)) hrSkill
  have h_19 : rSh g_10 a_11 := rSh_t (congrFun h_12 18) (congrFun h_12 26) (h_14 9 (by decide)) (h_14 10 (by decide)) (h_14 11 (by decide)) (h_14 12 (by decide)) (h_14 16 (by decide)) hrSh
  have h_20 : v z0 0 = g_10 30 := hnow.trans (congrFun h_12 30).symm
  obtain ⟨hP, hD⟩ := lsw hP hD
  refine lv_pop hx hb dL_law_751 rfl ?_
  refine lv_goto (tgt := 1804) hx hb dL_law_752 (by decide) ?_
  exact kk L K N v g_10 a_11 _ _ H locs hz hI h_13 h_16 h_17 h_18 h_19 h_20 (by omega) (by omega) hP hD hS
set_option maxHeartbeats 4000000 in
set_option maxRecDepth 100000 in
theorem lc_15 {p : Program} {l : Launch} {e : Env} {s : State} {m : MethodId} {below : List Frame} {meth : Method} {c : Code} {b n : Nat} {xs : Nat → Int32} (C0 : lw_At p s m meth c b n xs) (hn : n ≤ 3072) {dC : Nat → ClassId} {dI : Nat → Nat → Nat} {am : Nat → Nat} {cm cid : Nat → ClassId} {tW : Nat} {sK sV : Nat → Nat} (hXx : xX tW sK sV (fun q : Nat => s.heap.size ≤ q) s s.heap) (hKx : va_K (dC, dI) vwCl (xT cid) s) (hKm : va_K (dC, dI) vwCl (mT cm) s) {z0 : Int} {i : Int} (hi0 : 0 ≤ i) (hi : i + 6 ≤ n) {L : List Nat} {K : Int → Nat} {N : Int → Int} {v : Int → Int → Int} {g : Nat → Int} {a : Nat → Int → Int} (hz : ok L K z0 12) (hI : xI L K N v) (hM : mI g a) (hrLine : rLine g a) (hrLead : rLead g a) (hrSkill : rSkill g a) (hrSh : rSh g a) (hnow : v z0 0 = g 30) {nc ns : Nat} (hc : nc + 5 ≤ 600000) (hs : ns + 12100 ≤ 7302250) {H : Heap} {locs : List Loc} {ls : Array Slot} (hP : va_P (dC, dI) vwCl (mG am cm g a ++ xG L cid K N v) H) (hD : va_D (fun q : Nat => s.heap.size ≤ q) (mG am cm g a ++ xG L cid K N v)) (hS : va_S (fun q : Nat => s.heap.size ≤ q) s.heap H locs) (hl : lv_has ls 4 [(3, .int (iI i)), (2, .ref (am 0)), (1, .ref z0.toNat), (0, .ref b)])
    (kk : ∀ (L : List Nat) (K : Int → Nat) (N : Int → Int) (v : Int → Int → Int) (g : Nat → Int) (a : Nat → Int → Int) (nc1 ns1 : Nat) (H : Heap) (locs : List Loc), ok L K z0 12 → xI L K N v → mI g a → rLine g a → rLead g a → rSkill g a → rSh g a → v z0 0 = g 30 → nc1 ≤ nc + 5 → ns1 ≤ ns + 12100 → va_P (dC, dI) vwCl (mG am cm g a ++ xG L cid K N v) H → va_D (fun q : Nat => s.heap.size ≤ q) (mG am cm g a ++ xG L cid K N v) → va_S (fun q : Nat => s.heap.size ≤ q) s.heap H locs → W p l e room_1 s m #[Value.ref b] below meth c H locs nc1 ns1 (lw_Z below #[Value.ref b] s) (F0 m 1804 ls [])) : W p l e room_1 s m #[Value.ref b] below meth c H locs nc ns (lw_Z below #[Value.ref b] s) (F0 m 755 ls []) := by
  obtain ⟨hx, hb, hr, hml, hown, hts, hX9, hbl, hlocks, hgv⟩ := id C0
  have hA : ∀ q : Nat, s.heap.size ≤ q → (fun q : Nat => s.heap.size ≤ q) q := fun _ h => h
  have hbA : ¬ (fun q : Nat => s.heap.size ≤ q) b := Nat.not_le.mpr hbl
  refine lv_aload_n hx hb dL_law_755 rfl (lv_at hl 2 rfl) ?_
  refine lv_aload_n hx hb dL_law_756 rfl (lv_at hl 3 rfl) ?_
  refine lv_iload_n hx hb dL_law_757 rfl (lv_at hl 0 rfl) ?_
  refine lv_iconst (v := iI 1) hx hb dL_law_758 rfl ?_
  refine xr_add hx hb dL_law_759 ?_
  refine va_sld hx hb hX9 hbl hbA hS (xvp (t := i + 1) (by omega) (by omega) hn) dL_law_760 ?_
  obtain ⟨p_1, h_2, r_3⟩ : ∃ y : Int, xs (iI (i + 1)).toNatClampNeg = iI y ∧ rg y := ⟨_, iI_of _, rg_of _⟩
  refine jt_i (iI p_1) h_2 ?_
  refine lv_aload_n hx hb dL_law_761 rfl (lv_at hl 3 rfl) ?_
  refine lv_iload_n hx hb dL_law_762 rfl (lv_at hl 0 rfl) ?_
  refine lv_iconst (v := iI 2) hx hb dL_law_763 rfl ?_
  refine xr_add hx hb dL_law_764 ?_
  refine va_sld hx hb hX9 hbl hbA hS (xvp (t := i + 2) (by omega) (by omega) hn) dL_law_765 ?_
  obtain ⟨p_4, h_5, r_6⟩ : ∃ y : Int, xs (iI (i + 2)).toNatClampNeg = iI y ∧ rg y := ⟨_, iI_of _, rg_of _⟩
  refine jt_i (iI p_4) h_5 ?_
  have hPx := jp_tail hP
  have hDx := jd_tail hD
  refine jct_i (va_runV (As := [.int (iI p_1), .int (iI p_4)]) (rest := []) ⟨hx, hb, hml, hown, hts⟩ (sX12_at l dC dI _ L cid K N tW sK sV v z0 p_1 p_4 hI hz r_3 r_6) (cwV 2 hts (jgoodVL m_1490 m_1491 m_1492 m_873 m_1493) rfl rfl rfl (by decide +kernel) ⟨(Nat.le_of_ble_eq_true rfl), (Nat.le_of_ble_eq_true rfl)⟩) ⟨xP_blind, xrecv hKx hPx hz rfl rfl, fun U hU hW => ⟨rfl, xP_of hU hW hPx hKx hDx hXx hS (fun _ h => h) hA⟩⟩ rfl rfl hl.1 rfl (lv_room (Nat.le_of_ble_eq_true rfl)) dL_law_766 ⟨(show nc + 0 ≤ 600000 by omega), (show ns + 0 ≤ 7302250 by omega)⟩) hP hD hS hA (fun r v_10 H locs w_8 hP hKx hD hS => ?_)
  obtain ⟨x_7, rfl, I_11, f_12, f_9⟩ := w_8
  have hP : va_P (dC, dI) vwCl (mG am cm g a ++ xG L cid K N v_10) H := hP
  have hD : va_D (fun q : Nat => s.heap.size ≤ q) (mG am cm g a ++ xG L cid K N v_10) := hD
  have h_13 : v_10 z0 0 = g 30 := (fr_use hz f_12 rfl).trans hnow
  refine lv_pop hx hb dL_law_769 rfl ?_
  refine lv_aload_n hx hb dL_law_770 rfl (lv_at hl 1 rfl) ?_
  refine lv_aload_n hx hb dL_law_771 rfl (lv_at hl 3 rfl) ?_
  refine lv_iload_n hx hb dL_law_772 rfl (lv_at hl 0 rfl) ?_
  refine lv_iconst (v := iI 1) hx hb dL_law_773 rfl ?_
  refine xr_add hx hb dL_law_774 ?_
  refine va_sld hx hb hX9 hbl hbA hS (xvp (t := i + 1) (by omega) (by omega) hn) dL_law_775 ?_
  refine jt_i (iI p_1) h_2 ?_
  refine lv_aload_n hx hb dL_law_776 rfl (lv_at hl 3 rfl) ?_
  refine lv_iload_n hx hb dL_law_777 rfl (lv_at hl 0 rfl) ?_
  refine lv_iconst (v := iI 2) hx hb dL_law_778 rfl ?_
  refine xr_add hx hb dL_law_779 ?_
  refine va_sld hx hb hX9 hbl hbA hS (xvp (t := i + 2) (by omega) (by omega) hn) dL_law_780 ?_
  refine jt_i (iI p_4) h_5 ?_
  obtain ⟨hP, hD⟩ := lsw hP hD
  have hPm := jp_tail hP
  have hDm := jd_tail hD
  refine jct_i (va_runV (As := [.int (iI p_1), .int (iI p_4)]) (rest := []) ⟨hx, hb, hml, hown, hts⟩ (sX13_at l dC dI _ am cm g a p_1 p_4 hM r_3 r_6 hrSh) (cwV 2 hts (jgoodVL m_1494 m_289 m_290 m_503 m_109) rfl rfl rfl (by decide +kernel) ⟨(Nat.le_of_ble_eq_true rfl), (Nat.le_of_ble_eq_true rfl)⟩) ⟨jw_blind, va_recv hKm hPm (ci := 13) (q0 := 0) rfl rfl, fun U hU hW => ⟨rfl, jw_of hU hW hPm hKm hDm⟩⟩ rfl rfl hl.1 rfl (lv_room (Nat.le_of_ble_eq_true rfl)) dL_law_781 ⟨(show nc + 0 ≤ 600000 by omega), (show ns + 0 ≤ 7302250 by omega)⟩) hP hD hS hA (fun r u_16 H locs w_15 hP hKm hD hS => ?_)
  obtain ⟨g_17, a_18⟩ := u_16
  obtain ⟨y_14, rfl, h_19, h_20, h_21, h_22⟩ := w_15
  have hP : va_P (dC, dI) vwCl (xG L cid K N v_10 ++ mG am cm g_17 a_18) H := hP
  have hD : va_D (fun q : Nat => s.heap.size ≤ q) (xG L cid K N v_10 ++ mG am cm g_17 a_18) := hD
  have h_19 : g_17 = g := h_19
  have h_20 : mI g_17 a_18 := h_20
  have h_23 : rLine g_17 a_18 := rLine_t (congrFun h_19 56) (h_21 45 (by decide)) hrLine
  have h_24 : rLead g_17 a_18 := rLead_t (congrFun h_19 37) (h_21 27 (by decide)) (h_21 31 (by decide)) hrLead
  have h_25 : rSkill g_17 a_18 := rSkill_t (congrFun h_19 50) (h_21 38 (by decide)) hrSkill
  have h_26 : rSh g_17 a_18 := rSh_t (congrFun h_19 18) (congrFun h_19 26) (h_21 9 (by decide)) (h_21 10 (by decide)) (h_21 11 (by decide)) (h_21 12 (by decide)) (h_21 16 (by decide)) hrSh
  have h_27 : v_10 z0 0 = g_17 30 := h_13.trans (congrFun h_19 30).symm
  obtain ⟨hP, hD⟩ := lsw hP hD
  refine lv_pop hx hb dL_law_784 rfl ?_
  refine lv_goto (tgt := 1804) hx hb dL_law_785 (by decide) ?_
  exact kk L K N v_10 g_17 a_18 _ _ H locs hz I_11 h_20 h_23 h_24 h_25 h_26 h_27 (by omega) (by omega) hP hD hS
set_option maxHeartbeats 4000000 in
set_option maxRecDepth 100000 in
theorem lc_16 {p : Program} {l : Launch} {e : Env} {s : State} {m : MethodId} {below : List Frame} {meth : Method} {c : Code} {b n : Nat} {xs : Nat → Int32} (C0 : lw_At p s m meth c b n xs) (hn : n ≤ 3072) {dC : Nat → ClassId} {dI : Nat → Nat → Nat} {am : Nat → Nat} {cm cid : Nat → ClassId} {tW : Nat} {sK sV : Nat → Nat} (hXx : xX tW sK sV (fun q : Nat => s.heap.size ≤ q) s s.heap) (hKx : va_K (dC, dI) vwCl (xT cid) s) (hKm : va_K (dC, dI) vwCl (mT cm) s) {z0 : Int} {i : Int} (hi0 : 0 ≤ i) (hi : i + 6 ≤ n) {L : List Nat} {K : Int → Nat} {N : Int → Int} {v : Int → Int → Int} {g : Nat → Int} {a : Nat → Int → Int} (hz : ok L K z0 12) (hI : xI L K N v) (hM : mI g a) (hrLine : rLine g a) (hrLead : rLead g a) (hrSkill : rSkill g a) (hrSh : rSh g a) (hnow : v z0 0 = g 30) {nc ns : Nat} (hc : nc + 5 ≤ 600000) (hs : ns + 12100 ≤ 7302250) {H : Heap} {locs : List Loc} {ls : Array Slot} (hP : va_P (dC, dI) vwCl (mG am cm g a ++ xG L cid K N v) H) (hD : va_D (fun q : Nat => s.heap.size ≤ q) (mG am cm g a ++ xG L cid K N v)) (hS : va_S (fun q : Nat => s.heap.size ≤ q) s.heap H locs) (hl : lv_has ls 4 [(3, .int (iI i)), (2, .ref (am 0)), (1, .ref z0.toNat), (0, .ref b)])
    (kk : ∀ (L : List Nat) (K : Int → Nat) (N : Int → Int) (v : Int → Int → Int) (g : Nat → Int) (a : Nat → Int → Int) (nc1 ns1 : Nat) (H : Heap) (locs : List Loc), ok L K z0 12 → xI L K N v → mI g a → rLine g a → rLead g a → rSkill g a → rSh g a → v z0 0 = g 30 → nc1 ≤ nc + 5 → ns1 ≤ ns + 12100 → va_P (dC, dI) vwCl (mG am cm g a ++ xG L cid K N v) H → va_D (fun q : Nat => s.heap.size ≤ q) (mG am cm g a ++ xG L cid K N v) → va_S (fun q : Nat => s.heap.size ≤ q) s.heap H locs → W p l e room_1 s m #[Value.ref b] below meth c H locs nc1 ns1 (lw_Z below #[Value.ref b] s) (F0 m 1804 ls [])) : W p l e room_1 s m #[Value.ref b] below meth c H locs nc ns (lw_Z below #[Value.ref b] s) (F0 m 788 ls []) := by
  obtain ⟨hx, hb, hr, hml, hown, hts, hX9, hbl, hlocks, hgv⟩ := id C0
  have hA : ∀ q : Nat, s.heap.size ≤ q → (fun q : Nat => s.heap.size ≤ q) q := fun _ h => h
  have hbA : ¬ (fun q : Nat => s.heap.size ≤ q) b := Nat.not_le.mpr hbl
  refine lv_aload_n hx hb dL_law_788 rfl (lv_at hl 2 rfl) ?_
  refine lv_aload_n hx hb dL_law_789 rfl (lv_at hl 3 rfl) ?_
  refine lv_iload_n hx hb dL_law_790 rfl (lv_at hl 0 rfl) ?_
  refine lv_iconst (v := iI 1) hx hb dL_law_791 rfl ?_
  refine xr_add hx hb dL_law_792 ?_
  refine va_sld hx hb hX9 hbl hbA hS (xvp (t := i + 1) (by omega) (by omega) hn) dL_law_793 ?_
  obtain ⟨p_1, h_2, r_3⟩ : ∃ y : Int, xs (iI (i + 1)).toNatClampNeg = iI y ∧ rg y := ⟨_, iI_of _, rg_of _⟩
  refine jt_i (iI p_1) h_2 ?_
  refine lv_aload_n hx hb dL_law_794 rfl (lv_at hl 3 rfl) ?_
  refine lv_iload_n hx hb dL_law_795 rfl (lv_at hl 0 rfl) ?_
  refine lv_iconst (v := iI 2) hx hb dL_law_796 rfl ?_
  refine xr_add hx hb dL_law_797 ?_
  refine va_sld hx hb hX9 hbl hbA hS (xvp (t := i + 2) (by omega) (by omega) hn) dL_law_798 ?_
  obtain ⟨p_4, h_5, r_6⟩ : ∃ y : Int, xs (iI (i + 2)).toNatClampNeg = iI y ∧ rg y := ⟨_, iI_of _, rg_of _⟩
  refine jt_i (iI p_4) h_5 ?_
  have hPx := jp_tail hP
  have hDx := jd_tail hD
  refine jct_i (va_runV (As := [.int (iI p_1), .int (iI p_4)]) (rest := []) ⟨hx, hb, hml, hown, hts⟩ (sX12_why l dC dI _ L cid K N tW sK sV v z0 p_1 p_4 hI hz r_3 r_6) (cwV 2 hts (jgoodVL m_1495 m_1496 m_1497 m_873 m_1498) rfl rfl rfl (by decide +kernel) ⟨(Nat.le_of_ble_eq_true rfl), (Nat.le_of_ble_eq_true rfl)⟩) ⟨xP_blind, xrecv hKx hPx hz rfl rfl, fun U hU hW => ⟨rfl, xP_of hU hW hPx hKx hDx hXx hS (fun _ h => h) hA⟩⟩ rfl rfl hl.1 rfl (lv_room (Nat.le_of_ble_eq_true rfl)) dL_law_799 ⟨(show nc + 0 ≤ 600000 by omega), (show ns + 0 ≤ 7302250 by omega)⟩) hP hD hS hA (fun r v_10 H locs w_8 hP hKx hD hS => ?_)
  obtain ⟨x_7, rfl, I_11, f_12, f_9⟩ := w_8
  have hP : va_P (dC, dI) vwCl (mG am cm g a ++ xG L cid K N v_10) H := hP
  have hD : va_D (fun q : Nat => s.heap.size ≤ q) (mG am cm g a ++ xG L cid K N v_10) := hD
  have h_13 : v_10 z0 0 = g 30 := (fr_use hz f_12 rfl).trans hnow
  refine lv_pop hx hb dL_law_802 rfl ?_
  refine lv_aload_n hx hb dL_law_803 rfl (lv_at hl 1 rfl) ?_
  refine lv_aload_n hx hb dL_law_804 rfl (lv_at hl 3 rfl) ?_
  refine lv_iload_n hx hb dL_law_805 rfl (lv_at hl 0 rfl) ?_
  refine lv_iconst (v := iI 1) hx hb dL_law_806 rfl ?_
  refine xr_add hx hb dL_law_807 ?_
  refine va_sld hx hb hX9 hbl hbA hS (xvp (t := i + 1) (by omega) (by omega) hn) dL_law_808 ?_
  refine jt_i (iI p_1) h_2 ?_
  refine lv_aload_n hx hb dL_law_809 rfl (lv_at hl 3 rfl) ?_
  refine lv_iload_n hx hb dL_law_810 rfl (lv_at hl 0 rfl) ?_
  refine lv_iconst (v := iI 2) hx hb dL_law_811 rfl ?_
  refine xr_add hx hb dL_law_812 ?_
  refine va_sld hx hb hX9 hbl hbA hS (xvp (t := i + 2) (by omega) (by omega) hn) dL_law_813 ?_
  refine jt_i (iI p_4) h_5 ?_
  obtain ⟨hP, hD⟩ := lsw hP hD
  have hPm := jp_tail hP
  have hDm := jd_tail hD
  refine jct_i (va_runV (As := [.int (iI p_1), .int (iI p_4)]) (rest := []) ⟨hx, hb, hml, hown, hts⟩ (sX13_why l dC dI _ am cm g a p_1 p_4 hM r_3 r_6 hrSh) (cwV 2 hts (jgoodVL m_1499 m_498 m_499 m_503 m_217) rfl rfl rfl (by decide +kernel) ⟨(Nat.le_of_ble_eq_true rfl), (Nat.le_of_ble_eq_true rfl)⟩) ⟨jw_blind, va_recv hKm hPm (ci := 13) (q0 := 0) rfl rfl, fun U hU hW => ⟨rfl, jw_of hU hW hPm hKm hDm⟩⟩ rfl rfl hl.1 rfl (lv_room (Nat.le_of_ble_eq_true rfl)) dL_law_814 ⟨(show nc + 0 ≤ 600000 by omega), (show ns + 0 ≤ 7302250 by omega)⟩) hP hD hS hA (fun r u_16 H locs w_15 hP hKm hD hS => ?_)
  obtain ⟨g_17, a_18⟩ := u_16
  obtain ⟨y_14, rfl, h_19, h_20, h_21, h_22⟩ := w_15
  have hP : va_P (dC, dI) vwCl (xG L cid K N v_10 ++ mG am cm g_17 a_18) H := hP
  have hD : va_D (fun q : Nat => s.heap.size ≤ q) (xG L cid K N v_10 ++ mG am cm g_17 a_18) := hD
  have h_19 : g_17 = g := h_19
  have h_20 : mI g_17 a_18 := h_20
  have h_23 : rLine g_17 a_18 := rLine_t (congrFun h_19 56) (h_21 45 (by decide)) hrLine
  have h_24 : rLead g_17 a_18 := rLead_t (congrFun h_19 37) (h_21 27 (by decide)) (h_21 31 (by decide)) hrLead
  have h_25 : rSkill g_17 a_18 := rSkill_t (congrFun h_19 50) (h_21 38 (by decide)) hrSkill
  have h_26 : rSh g_17 a_18 := rSh_t (congrFun h_19 18) (congrFun h_19 26) (h_21 9 (by decide)) (h_21 10 (by decide)) (h_21 11 (by decide)) (h_21 12 (by decide)) (h_21 16 (by decide)) hrSh
  have h_27 : v_10 z0 0 = g_17 30 := h_13.trans (congrFun h_19 30).symm
  obtain ⟨hP, hD⟩ := lsw hP hD
  refine lv_pop hx hb dL_law_817 rfl ?_
  refine lv_goto (tgt := 1804) hx hb dL_law_818 (by decide) ?_
  exact kk L K N v_10 g_17 a_18 _ _ H locs hz I_11 h_20 h_23 h_24 h_25 h_26 h_27 (by omega) (by omega) hP hD hS
