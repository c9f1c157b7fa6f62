set_option maxHeartbeats 4000000 in
set_option maxRecDepth 100000 in
theorem lc_17 {p : Program} {l : Launch} {e : Env} {s : State} {m : MethodId} {below : List Frame} {meth : Method} {c : Code} {b n : Nat} {xs : Nat → Int32} (C0 : lw_At p s m meth c b n xs) (hn : n ≤ 3072) {dC : Nat → ClassId} {dI : Nat → Nat → Nat} {am : Nat → Nat} {cm cid : Nat → ClassId} {tW : Nat} {sK sV : Nat → Nat} (hXx : xX tW sK sV (fun q : Nat => s.heap.size ≤ q) s s.heap) (hKx : va_K (dC, dI) vwCl (xT cid) s) (hKm : va_K (dC, dI) vwCl (mT cm) s) {z0 : Int} {i : Int} (hi0 : 0 ≤ i) (hi : i + 6 ≤ n) {L : List Nat} {K : Int → Nat} {N : Int → Int} {v : Int → Int → Int} {g : Nat → Int} {a : Nat → Int → Int} (hz : ok L K z0 12) (hI : xI L K N v) (hM : mI g a) (hrLine : rLine g a) (hrLead : rLead g a) (hrSkill : rSkill g a) (hrSh : rSh g a) (hnow : v z0 0 = g 30) {nc ns : Nat} (hc : nc + 5 ≤ 600000) (hs : ns + 12100 ≤ 7302250) {H : Heap} {locs : List Loc} {ls : Array Slot} (hP : va_P (dC, dI) vwCl (mG am cm g a ++ xG L cid K N v) H) (hD : va_D (fun q : Nat => s.heap.size ≤ q) (mG am cm g a ++ xG L cid K N v)) (hS : va_S (fun q : Nat => s.heap.size ≤ q) s.heap H locs) (hl : lv_has ls 4 [(3, .int (iI i)), (2, .ref (am 0)), (1, .ref z0.toNat), (0, .ref b)])
    (kk : ∀ (L : List Nat) (K : Int → Nat) (N : Int → Int) (v : Int → Int → Int) (g : Nat → Int) (a : Nat → Int → Int) (nc1 ns1 : Nat) (H : Heap) (locs : List Loc), ok L K z0 12 → xI L K N v → mI g a → rLine g a → rLead g a → rSkill g a → rSh g a → v z0 0 = g 30 → nc1 ≤ nc + 5 → ns1 ≤ ns + 12100 → va_P (dC, dI) vwCl (mG am cm g a ++ xG L cid K N v) H → va_D (fun q : Nat => s.heap.size ≤ q) (mG am cm g a ++ xG L cid K N v) → va_S (fun q : Nat => s.heap.size ≤ q) s.heap H locs → W p l e room_1 s m #[Value.ref b] below meth c H locs nc1 ns1 (lw_Z below #[Value.ref b] s) (F0 m 1804 ls [])) : W p l e room_1 s m #[Value.ref b] below meth c H locs nc ns (lw_Z below #[Value.ref b] s) (F0 m 821 ls []) := by
  obtain ⟨hx, hb, hr, hml, hown, hts, hX9, hbl, hlocks, hgv⟩ := id C0
  have hA : ∀ q : Nat, s.heap.size ≤ q → (fun q : Nat => s.heap.size ≤ q) q := fun _ h => h
  have hbA : ¬ (fun q : Nat => s.heap.size ≤ q) b := Nat.not_le.mpr hbl
  refine lv_aload_n hx hb dL_law_821 rfl (lv_at hl 2 rfl) ?_
  refine lv_aload_n hx hb dL_law_822 rfl (lv_at hl 3 rfl) ?_
  refine lv_iload_n hx hb dL_law_823 rfl (lv_at hl 0 rfl) ?_
  refine lv_iconst (v := iI 1) hx hb dL_law_824 rfl ?_
  refine xr_add hx hb dL_law_825 ?_
  refine va_sld hx hb hX9 hbl hbA hS (xvp (t := i + 1) (by omega) (by omega) hn) dL_law_826 ?_
  obtain ⟨p_1, h_2, r_3⟩ : ∃ y : Int, xs (iI (i + 1)).toNatClampNeg = iI y ∧ rg y := ⟨_, iI_of _, rg_of _⟩
  refine jt_i (iI p_1) h_2 ?_
  refine lv_aload_n hx hb dL_law_827 rfl (lv_at hl 3 rfl) ?_
  refine lv_iload_n hx hb dL_law_828 rfl (lv_at hl 0 rfl) ?_
  refine lv_iconst (v := iI 2) hx hb dL_law_829 rfl ?_
  refine xr_add hx hb dL_law_830 ?_
  refine va_sld hx hb hX9 hbl hbA hS (xvp (t := i + 2) (by omega) (by omega) hn) dL_law_831 ?_
  obtain ⟨p_4, h_5, r_6⟩ : ∃ y : Int, xs (iI (i + 2)).toNatClampNeg = iI y ∧ rg y := ⟨_, iI_of _, rg_of _⟩
  refine jt_i (iI p_4) h_5 ?_
  refine lv_aload_n hx hb dL_law_832 rfl (lv_at hl 3 rfl) ?_
  refine lv_iload_n hx hb dL_law_833 rfl (lv_at hl 0 rfl) ?_
  refine lv_iconst (v := iI 3) hx hb dL_law_834 rfl ?_
  refine xr_add hx hb dL_law_835 ?_
  refine va_sld hx hb hX9 hbl hbA hS (xvp (t := i + 3) (by omega) (by omega) hn) dL_law_836 ?_
  obtain ⟨p_7, h_8, r_9⟩ : ∃ y : Int, xs (iI (i + 3)).toNatClampNeg = iI y ∧ rg y := ⟨_, iI_of _, rg_of _⟩
  refine jt_i (iI p_7) h_8 ?_
  have hPx := jp_tail hP
  have hDx := jd_tail hD
  refine jct_i (va_runV (As := [.int (iI p_1), .int (iI p_4), .int (iI p_7)]) (rest := []) ⟨hx, hb, hml, hown, hts⟩ (sX12_hand l dC dI _ L cid K N tW sK sV v z0 p_1 p_4 p_7 hI hz r_3 r_6 r_9) (cwV 3 hts (jgoodVL m_1500 m_1501 m_1502 m_873 m_1503) rfl rfl rfl (by decide +kernel) ⟨(Nat.le_of_ble_eq_true rfl), (Nat.le_of_ble_eq_true rfl)⟩) ⟨xP_blind, xrecv hKx hPx hz rfl rfl, fun U hU hW => ⟨rfl, xP_of hU hW hPx hKx hDx hXx hS (fun _ h => h) hA⟩⟩ rfl rfl hl.1 rfl (lv_room (Nat.le_of_ble_eq_true rfl)) dL_law_837 ⟨(show nc + 1 ≤ 600000 by omega), (show ns + 6 ≤ 7302250 by omega)⟩) hP hD hS hA (fun r u_13 H locs w_11 hP hKx hD hS => ?_)
  obtain ⟨L_14, K_15, N_16, v_17⟩ := u_13
  obtain ⟨x_10, rfl, I_18, E_19, f_20, f_12⟩ := w_11
  have hP : va_P (dC, dI) vwCl (mG am cm g a ++ xG L_14 cid K_15 N_16 v_17) H := hP
  have hD : va_D (fun q : Nat => s.heap.size ≤ q) (mG am cm g a ++ xG L_14 cid K_15 N_16 v_17) := hD
  have I_18 : xI L_14 K_15 N_16 v_17 := I_18
  have E_19 : xE L K N L_14 K_15 N_16 := E_19
  have f_20 : frE L K [(12, 11), (38, (-1)), (99, 0)] v_17 v := f_20
  have h_21 : v_17 z0 0 = g 30 := (frE_use hz f_20 rfl).trans hnow
  have h_22 := xE_ok E_19 hz
  refine lv_pop hx hb dL_law_840 rfl ?_
  refine lv_aload_n hx hb dL_law_841 rfl (lv_at hl 1 rfl) ?_
  refine lv_aload_n hx hb dL_law_842 rfl (lv_at hl 3 rfl) ?_
  refine lv_iload_n hx hb dL_law_843 rfl (lv_at hl 0 rfl) ?_
  refine lv_iconst (v := iI 1) hx hb dL_law_844 rfl ?_
  refine xr_add hx hb dL_law_845 ?_
  refine va_sld hx hb hX9 hbl hbA hS (xvp (t := i + 1) (by omega) (by omega) hn) dL_law_846 ?_
  refine jt_i (iI p_1) h_2 ?_
  refine lv_aload_n hx hb dL_law_847 rfl (lv_at hl 3 rfl) ?_
  refine lv_iload_n hx hb dL_law_848 rfl (lv_at hl 0 rfl) ?_
  refine lv_iconst (v := iI 2) hx hb dL_law_849 rfl ?_
  refine xr_add hx hb dL_law_850 ?_
  refine va_sld hx hb hX9 hbl hbA hS (xvp (t := i + 2) (by omega) (by omega) hn) dL_law_851 ?_
  refine jt_i (iI p_4) h_5 ?_
  refine lv_aload_n hx hb dL_law_852 rfl (lv_at hl 3 rfl) ?_
  refine lv_iload_n hx hb dL_law_853 rfl (lv_at hl 0 rfl) ?_
  refine lv_iconst (v := iI 3) hx hb dL_law_854 rfl ?_
  refine xr_add hx hb dL_law_855 ?_
  refine va_sld hx hb hX9 hbl hbA hS (xvp (t := i + 3) (by omega) (by omega) hn) dL_law_856 ?_
  refine jt_i (iI p_7) h_8 ?_
  obtain ⟨hP, hD⟩ := lsw hP hD
  have hPm := jp_tail hP
  have hDm := jd_tail hD
  refine jct_i (va_runV (As := [.int (iI p_1), .int (iI p_4), .int (iI p_7)]) (rest := []) ⟨hx, hb, hml, hown, hts⟩ (sX13_hand l dC dI _ am cm g a p_1 p_4 p_7 hM r_3 r_6 r_9 hrSkill) (cwV 3 hts (jgoodVL m_1504 m_356 m_357 m_503 m_143) rfl rfl rfl (by decide +kernel) ⟨(Nat.le_of_ble_eq_true rfl), (Nat.le_of_ble_eq_true rfl)⟩) ⟨jw_blind, va_recv hKm hPm (ci := 13) (q0 := 0) rfl rfl, fun U hU hW => ⟨rfl, jw_of hU hW hPm hKm hDm⟩⟩ rfl rfl hl.1 rfl (lv_room (Nat.le_of_ble_eq_true rfl)) dL_law_857 ⟨(show nc + 1 + 0 ≤ 600000 by omega), (show ns + 6 + 0 ≤ 7302250 by omega)⟩) hP hD hS hA (fun r u_25 H locs w_24 hP hKm hD hS => ?_)
  obtain ⟨g_26, a_27⟩ := u_25
  obtain ⟨y_23, rfl, h_28, h_29, h_30, h_31, h_32⟩ := w_24
  have hP : va_P (dC, dI) vwCl (xG L_14 cid K_15 N_16 v_17 ++ mG am cm g_26 a_27) H := hP
  have hD : va_D (fun q : Nat => s.heap.size ≤ q) (xG L_14 cid K_15 N_16 v_17 ++ mG am cm g_26 a_27) := hD
  have h_28 : mI g_26 a_27 := h_28
  have h_33 : rLine g_26 a_27 := rLine_t (h_29 56 (by decide)) (h_30 45 (by decide)) hrLine
  have h_34 : rLead g_26 a_27 := rLead_t (h_29 37 (by decide)) (h_30 27 (by decide)) (h_30 31 (by decide)) hrLead
  have h_35 : rSkill g_26 a_27 := h_32
  have h_36 : rSh g_26 a_27 := rSh_t (h_29 18 (by decide)) (h_29 26 (by decide)) (h_30 9 (by decide)) (h_30 10 (by decide)) (h_30 11 (by decide)) (h_30 12 (by decide)) (h_30 16 (by decide)) hrSh
  have h_37 : v_17 z0 0 = g_26 30 := h_21.trans (h_29 30 (by decide)).symm
  obtain ⟨hP, hD⟩ := lsw hP hD
  refine lv_pop hx hb dL_law_860 rfl ?_
  refine lv_goto (tgt := 1804) hx hb dL_law_861 (by decide) ?_
  exact kk L_14 K_15 N_16 v_17 g_26 a_27 _ _ H locs h_22 I_18 h_28 h_33 h_34 h_35 h_36 h_37 (by omega) (by omega) hP hD hS
set_option maxHeartbeats 4000000 in
set_option maxRecDepth 100000 in
theorem lc_18 {p : Program} {l : Launch} {e : Env} {s : State} {m : MethodId} {below : List Frame} {meth : Method} {c : Code} {b n : Nat} {xs : Nat → Int32} (C0 : lw_At p s m meth c b n xs) (hn : n ≤ 3072) {dC : Nat → ClassId} {dI : Nat → Nat → Nat} {am : Nat → Nat} {cm cid : Nat → ClassId} {tW : Nat} {sK sV : Nat → Nat} (hXx : xX tW sK sV (fun q : Nat => s.heap.size ≤ q) s s.heap) (hKx : va_K (dC, dI) vwCl (xT cid) s) (hKm : va_K (dC, dI) vwCl (mT cm) s) {z0 : Int} {i : Int} (hi0 : 0 ≤ i) (hi : i + 6 ≤ n) {L : List Nat} {K : Int → Nat} {N : Int → Int} {v : Int → Int → Int} {g : Nat → Int} {a : Nat → Int → Int} (hz : ok L K z0 12) (hI : xI L K N v) (hM : mI g a) (hrLine : rLine g a) (hrLead : rLead g a) (hrSkill : rSkill g a) (hrSh : rSh g a) (hnow : v z0 0 = g 30) {nc ns : Nat} (hc : nc + 5 ≤ 600000) (hs : ns + 12100 ≤ 7302250) {H : Heap} {locs : List Loc} {ls : Array Slot} (hP : va_P (dC, dI) vwCl (mG am cm g a ++ xG L cid K N v) H) (hD : va_D (fun q : Nat => s.heap.size ≤ q) (mG am cm g a ++ xG L cid K N v)) (hS : va_S (fun q : Nat => s.heap.size ≤ q) s.heap H locs) (hl : lv_has ls 4 [(3, .int (iI i)), (2, .ref (am 0)), (1, .ref z0.toNat), (0, .ref b)])
    (kk : ∀ (L : List Nat) (K : Int → Nat) (N : Int → Int) (v : Int → Int → Int) (g : Nat → Int) (a : Nat → Int → Int) (nc1 ns1 : Nat) (H : Heap) (locs : List Loc), ok L K z0 12 → xI L K N v → mI g a → rLine g a → rLead g a → rSkill g a → rSh g a → v z0 0 = g 30 → nc1 ≤ nc + 5 → ns1 ≤ ns + 12100 → va_P (dC, dI) vwCl (mG am cm g a ++ xG L cid K N v) H → va_D (fun q : Nat => s.heap.size ≤ q) (mG am cm g a ++ xG L cid K N v) → va_S (fun q : Nat => s.heap.size ≤ q) s.heap H locs → W p l e room_1 s m #[Value.ref b] below meth c H locs nc1 ns1 (lw_Z below #[Value.ref b] s) (F0 m 1804 ls [])) : W p l e room_1 s m #[Value.ref b] below meth c H locs nc ns (lw_Z below #[Value.ref b] s) (F0 m 864 ls []) := by
  obtain ⟨hx, hb, hr, hml, hown, hts, hX9, hbl, hlocks, hgv⟩ := id C0
  have hA : ∀ q : Nat, s.heap.size ≤ q → (fun q : Nat => s.heap.size ≤ q) q := fun _ h => h
  have hbA : ¬ (fun q : Nat => s.heap.size ≤ q) b := Nat.not_le.mpr hbl
  refine lv_aload_n hx hb dL_law_864 rfl (lv_at hl 2 rfl) ?_
  refine lv_aload_n hx hb dL_law_865 rfl (lv_at hl 3 rfl) ?_
  refine lv_iload_n hx hb dL_law_866 rfl (lv_at hl 0 rfl) ?_
  refine lv_iconst (v := iI 1) hx hb dL_law_867 rfl ?_
  refine xr_add hx hb dL_law_868 ?_
  refine va_sld hx hb hX9 hbl hbA hS (xvp (t := i + 1) (by omega) (by omega) hn) dL_law_869 ?_
  obtain ⟨p_1, h_2, r_3⟩ : ∃ y : Int, xs (iI (i + 1)).toNatClampNeg = iI y ∧ rg y := ⟨_, iI_of _, rg_of _⟩
  refine jt_i (iI p_1) h_2 ?_
  refine lv_aload_n hx hb dL_law_870 rfl (lv_at hl 3 rfl) ?_
  refine lv_iload_n hx hb dL_law_871 rfl (lv_at hl 0 rfl) ?_
  refine lv_iconst (v := iI 2) hx hb dL_law_872 rfl ?_
  refine xr_add hx hb dL_law_873 ?_
  refine va_sld hx hb hX9 hbl hbA hS (xvp (t := i + 2) (by omega) (by omega) hn) dL_law_874 ?_
  obtain ⟨p_4, h_5, r_6⟩ : ∃ y : Int, xs (iI (i + 2)).toNatClampNeg = iI y ∧ rg y := ⟨_, iI_of _, rg_of _⟩
  refine jt_i (iI p_4) h_5 ?_
  have hPx := jp_tail hP
  have hDx := jd_tail hD
  refine jct_i (va_runV (As := [.int (iI p_1), .int (iI p_4)]) (rest := []) ⟨hx, hb, hml, hown, hts⟩ (sX12_enemies l dC dI _ L cid K N tW sK sV v z0 p_1 p_4 hI hz r_3 r_6) (cwV 2 hts (jgoodVL m_1505 m_1506 m_1507 m_873 m_1508) rfl rfl rfl (by decide +kernel) ⟨(Nat.le_of_ble_eq_true rfl), (Nat.le_of_ble_eq_true rfl)⟩) ⟨xP_blind, xrecv hKx hPx hz rfl rfl, fun U hU hW => ⟨rfl, xP_of hU hW hPx hKx hDx hXx hS (fun _ h => h) hA⟩⟩ rfl rfl hl.1 rfl (lv_room (Nat.le_of_ble_eq_true rfl)) dL_law_875 ⟨(show nc + 0 ≤ 600000 by omega), (show ns + 0 ≤ 7302250 by omega)⟩) hP hD hS hA (fun r v_10 H locs w_8 hP hKx hD hS => ?_)
  obtain ⟨x_7, rfl, I_11, f_12, f_9⟩ := w_8
  have hP : va_P (dC, dI) vwCl (mG am cm g a ++ xG L cid K N v_10) H := hP
  have hD : va_D (fun q : Nat => s.heap.size ≤ q) (mG am cm g a ++ xG L cid K N v_10) := hD
  have h_13 : v_10 z0 0 = g 30 := (fr_use hz f_12 rfl).trans hnow
  refine lv_pop hx hb dL_law_878 rfl ?_
  refine lv_aload_n hx hb dL_law_879 rfl (lv_at hl 1 rfl) ?_
  refine lv_aload_n hx hb dL_law_880 rfl (lv_at hl 3 rfl) ?_
  refine lv_iload_n hx hb dL_law_881 rfl (lv_at hl 0 rfl) ?_
  refine lv_iconst (v := iI 1) hx hb dL_law_882 rfl ?_
  refine xr_add hx hb dL_law_883 ?_
  refine va_sld hx hb hX9 hbl hbA hS (xvp (t := i + 1) (by omega) (by omega) hn) dL_law_884 ?_
  refine jt_i (iI p_1) h_2 ?_
  refine lv_aload_n hx hb dL_law_885 rfl (lv_at hl 3 rfl) ?_
  refine lv_iload_n hx hb dL_law_886 rfl (lv_at hl 0 rfl) ?_
  refine lv_iconst (v := iI 2) hx hb dL_law_887 rfl ?_
  refine xr_add hx hb dL_law_888 ?_
  refine va_sld hx hb hX9 hbl hbA hS (xvp (t := i + 2) (by omega) (by omega) hn) dL_law_889 ?_
  refine jt_i (iI p_4) h_5 ?_
  obtain ⟨hP, hD⟩ := lsw hP hD
  have hPm := jp_tail hP
  have hDm := jd_tail hD
  refine jct_i (va_runV (As := [.int (iI p_1), .int (iI p_4)]) (rest := []) ⟨hx, hb, hml, hown, hts⟩ (sX13_enemies l dC dI _ am cm g a p_1 p_4 hM r_3 r_6) (cwV 2 hts (jgoodVL m_1509 m_330 m_331 m_503 m_130) rfl rfl rfl (by decide +kernel) ⟨(Nat.le_of_ble_eq_true rfl), (Nat.le_of_ble_eq_true rfl)⟩) ⟨jw_blind, va_recv hKm hPm (ci := 13) (q0 := 0) rfl rfl, fun U hU hW => ⟨rfl, jw_of hU hW hPm hKm hDm⟩⟩ rfl rfl hl.1 rfl (lv_room (Nat.le_of_ble_eq_true rfl)) dL_law_890 ⟨(show nc + 0 ≤ 600000 by omega), (show ns + 0 ≤ 7302250 by omega)⟩) hP hD hS hA (fun r u_16 H locs w_15 hP hKm hD hS => ?_)
  obtain ⟨g_17, a_18⟩ := u_16
  obtain ⟨y_14, rfl, h_19, h_20, h_21, h_22⟩ := w_15
  have hP : va_P (dC, dI) vwCl (xG L cid K N v_10 ++ mG am cm g_17 a_18) H := hP
  have hD : va_D (fun q : Nat => s.heap.size ≤ q) (xG L cid K N v_10 ++ mG am cm g_17 a_18) := hD
  have h_19 : g_17 = g := h_19
  have h_20 : mI g_17 a_18 := h_20
  have h_23 : rLine g_17 a_18 := rLine_t (congrFun h_19 56) (h_21 45 (by decide)) hrLine
  have h_24 : rLead g_17 a_18 := rLead_t (congrFun h_19 37) (h_21 27 (by decide)) (h_21 31 (by decide)) hrLead
  have h_25 : rSkill g_17 a_18 := rSkill_t (congrFun h_19 50) (h_21 38 (by decide)) hrSkill
  have h_26 : rSh g_17 a_18 := rSh_t (congrFun h_19 18) (congrFun h_19 26) (h_21 9 (by decide)) (h_21 10 (by decide)) (h_21 11 (by decide)) (h_21 12 (by decide)) (h_21 16 (by decide)) hrSh
  have h_27 : v_10 z0 0 = g_17 30 := h_13.trans (congrFun h_19 30).symm
  obtain ⟨hP, hD⟩ := lsw hP hD
  refine lv_pop hx hb dL_law_893 rfl ?_
  refine lv_goto (tgt := 1804) hx hb dL_law_894 (by decide) ?_
  exact kk L K N v_10 g_17 a_18 _ _ H locs hz I_11 h_20 h_23 h_24 h_25 h_26 h_27 (by omega) (by omega) hP hD hS
set_option maxHeartbeats 4000000 in
set_option maxRecDepth 100000 in
theorem lc_19 {p : Program} {l : Launch} {e : Env} {s : State} {m : MethodId} {below : List Frame} {meth : Method} {c : Code} {b n : Nat} {xs : Nat → Int32} (C0 : lw_At p s m meth c b n xs) (hn : n ≤ 3072) {dC : Nat → ClassId} {dI : Nat → Nat → Nat} {am : Nat → Nat} {cm cid : Nat → ClassId} {tW : Nat} {sK sV : Nat → Nat} (hXx : xX tW sK sV (fun q : Nat => s.heap.size ≤ q) s s.heap) (hKx : va_K (dC, dI) vwCl (xT cid) s) (hKm : va_K (dC, dI) vwCl (mT cm) s) {z0 : Int} {i : Int} (hi0 : 0 ≤ i) (hi : i + 6 ≤ n) {L : List Nat} {K : Int → Nat} {N : Int → Int} {v : Int → Int → Int} {g : Nat → Int} {a : Nat → Int → Int} (hz : ok L K z0 12) (hI : xI L K N v) (hM : mI g a) (hrLine : rLine g a) (hrLead : rLead g a) (hrSkill : rSkill g a) (hrSh : rSh g a) (hnow : v z0 0 = g 30) {nc ns : Nat} (hc : nc + 5 ≤ 600000) (hs : ns + 12100 ≤ 7302250) {H : Heap} {locs : List Loc} {ls : Array Slot} (hP : va_P (dC, dI) vwCl (mG am cm g a ++ xG L cid K N v) H) (hD : va_D (fun q : Nat => s.heap.size ≤ q) (mG am cm g a ++ xG L cid K N v)) (hS : va_S (fun q : Nat => s.heap.size ≤ q) s.heap H locs) (hl : lv_has ls 4 [(3, .int (iI i)), (2, .ref (am 0)), (1, .ref z0.toNat), (0, .ref b)])
    (kk : ∀ (L : List Nat) (K : Int → Nat) (N : Int → Int) (v : Int → Int → Int) (g : Nat → Int) (a : Nat → Int → Int) (nc1 ns1 : Nat) (H : Heap) (locs : List Loc), ok L K z0 12 → xI L K N v → mI g a → rLine g a → rLead g a → rSkill g a → rSh g a → v z0 0 = g 30 → nc1 ≤ nc + 5 → ns1 ≤ ns + 12100 → va_P (dC, dI) vwCl (mG am cm g a ++ xG L cid K N v) H → va_D (fun q : Nat => s.heap.size ≤ q) (mG am cm g a ++ xG L cid K N v) → va_S (fun q : Nat => s.heap.size ≤ q) s.heap H locs → W p l e room_1 s m #[Value.ref b] below meth c H locs nc1 ns1 (lw_Z below #[Value.ref b] s) (F0 m 1804 ls [])) : W p l e room_1 s m #[Value.ref b] below meth c H locs nc ns (lw_Z below #[Value.ref b] s) (F0 m 897 ls []) := by
  obtain ⟨hx, hb, hr, hml, hown, hts, hX9, hbl, hlocks, hgv⟩ := id C0
  have hA : ∀ q : Nat, s.heap.size ≤ q → (fun q : Nat => s.heap.size ≤ q) q := fun _ h => h
  have hbA : ¬ (fun q : Nat => s.heap.size ≤ q) b := Nat.not_le.mpr hbl
  refine lv_aload_n hx hb dL_law_897 rfl (lv_at hl 2 rfl) ?_
  refine lv_aload_n hx hb dL_law_898 rfl (lv_at hl 3 rfl) ?_
  refine lv_iload_n hx hb dL_law_899 rfl (lv_at hl 0 rfl) ?_
  refine lv_iconst (v := iI 1) hx hb dL_law_900 rfl ?_
  refine xr_add hx hb dL_law_901 ?_
  refine va_sld hx hb hX9 hbl hbA hS (xvp (t := i + 1) (by omega) (by omega) hn) dL_law_902 ?_
  obtain ⟨p_1, h_2, r_3⟩ : ∃ y : Int, xs (iI (i + 1)).toNatClampNeg = iI y ∧ rg y := ⟨_, iI_of _, rg_of _⟩
  refine jt_i (iI p_1) h_2 ?_
  refine lv_aload_n hx hb dL_law_903 rfl (lv_at hl 3 rfl) ?_
  refine lv_iload_n hx hb dL_law_904 rfl (lv_at hl 0 rfl) ?_
  refine lv_iconst (v := iI 2) hx hb dL_law_905 rfl ?_
  refine xr_add hx hb dL_law_906 ?_
  refine va_sld hx hb hX9 hbl hbA hS (xvp (t := i + 2) (by omega) (by omega) hn) dL_law_907 ?_
  obtain ⟨p_4, h_5, r_6⟩ : ∃ y : Int, xs (iI (i + 2)).toNatClampNeg = iI y ∧ rg y := ⟨_, iI_of _, rg_of _⟩
  refine jt_i (iI p_4) h_5 ?_
  have hPx := jp_tail hP
  have hDx := jd_tail hD
  refine jct_i (va_runV (As := [.int (iI p_1), .int (iI p_4)]) (rest := []) ⟨hx, hb, hml, hown, hts⟩ (sX12_give l dC dI _ L cid K N tW sK sV v z0 p_1 p_4 hI hz r_3 r_6) (cwV 2 hts (jgoodVL m_1510 m_1511 m_1512 m_873 m_1513) rfl rfl rfl (by decide +kernel) ⟨(Nat.le_of_ble_eq_true rfl), (Nat.le_of_ble_eq_true rfl)⟩) ⟨xP_blind, xrecv hKx hPx hz rfl rfl, fun U hU hW => ⟨rfl, xP_of hU hW hPx hKx hDx hXx hS (fun _ h => h) hA⟩⟩ rfl rfl hl.1 rfl (lv_room (Nat.le_of_ble_eq_true rfl)) dL_law_908 ⟨(show nc + 0 ≤ 600000 by omega), (show ns + 0 ≤ 7302250 by omega)⟩) hP hD hS hA (fun r v_10 H locs w_8 hP hKx hD hS => ?_)
  obtain ⟨x_7, rfl, I_11, f_12, f_9⟩ := w_8
  have hP : va_P (dC, dI) vwCl (mG am cm g a ++ xG L cid K N v_10) H := hP
  have hD : va_D (fun q : Nat => s.heap.size ≤ q) (mG am cm g a ++ xG L cid K N v_10) := hD
  have h_13 : v_10 z0 0 = g 30 := (fr_use hz f_12 rfl).trans hnow
  refine lv_pop hx hb dL_law_911 rfl ?_
  refine lv_aload_n hx hb dL_law_912 rfl (lv_at hl 1 rfl) ?_
  refine lv_aload_n hx hb dL_law_913 rfl (lv_at hl 3 rfl) ?_
  refine lv_iload_n hx hb dL_law_914 rfl (lv_at hl 0 rfl) ?_
  refine lv_iconst (v := iI 1) hx hb dL_law_915 rfl ?_
  refine xr_add hx hb dL_law_916 ?_
  refine va_sld hx hb hX9 hbl hbA hS (xvp (t := i + 1) (by omega) (by omega) hn) dL_law_917 ?_
  refine jt_i (iI p_1) h_2 ?_
  refine lv_aload_n hx hb dL_law_918 rfl (lv_at hl 3 rfl) ?_
  refine lv_iload_n hx hb dL_law_919 rfl (lv_at hl 0 rfl) ?_
  refine lv_iconst (v := iI 2) hx hb dL_law_920 rfl ?_
  refine xr_add hx hb dL_law_921 ?_
  refine va_sld hx hb hX9 hbl hbA hS (xvp (t := i + 2) (by omega) (by omega) hn) dL_law_922 ?_
  refine jt_i (iI p_4) h_5 ?_
  obtain ⟨hP, hD⟩ := lsw hP hD
  have hPm := jp_tail hP
  have hDm := jd_tail hD
  refine jct_i (va_runV (As := [.int (iI p_1), .int (iI p_4)]) (rest := []) ⟨hx, hb, hml, hown, hts⟩ (sX13_give l dC dI _ am cm g a p_1 p_4 hM r_3 r_6 hrSh) (cwV 2 hts (jgoodVL m_1514 m_346 m_347 m_503 m_138) rfl rfl rfl (by decide +kernel) ⟨(Nat.le_of_ble_eq_true rfl), (Nat.le_of_ble_eq_true rfl)⟩) ⟨jw_blind, va_recv hKm hPm (ci := 13) (q0 := 0) rfl rfl, fun U hU hW => ⟨rfl, jw_of hU hW hPm hKm hDm⟩⟩ rfl rfl hl.1 rfl (lv_room (Nat.le_of_ble_eq_true rfl)) dL_law_923 ⟨(show nc + 0 ≤ 600000 by omega), (show ns + 0 ≤ 7302250 by omega)⟩) hP hD hS hA (fun r u_16 H locs w_15 hP hKm hD hS => ?_)
  obtain ⟨g_17, a_18⟩ := u_16
  obtain ⟨y_14, rfl, h_19, h_20, h_21, h_22⟩ := w_15
  have hP : va_P (dC, dI) vwCl (xG L cid K N v_10 ++ mG am cm g_17 a_18) H := hP
  have hD : va_D (fun q : Nat => s.heap.size ≤ q) (xG L cid K N v_10 ++ mG am cm g_17 a_18) := hD
  have h_19 : g_17 = g := h_19
  have h_20 : mI g_17 a_18 := h_20
  have h_23 : rLine g_17 a_18 := rLine_t (congrFun h_19 56) (h_21 45 (by decide)) hrLine
  have h_24 : rLead g_17 a_18 := rLead_t (congrFun h_19 37) (h_21 27 (by decide)) (h_21 31 (by decide)) hrLead
  have h_25 : rSkill g_17 a_18 := rSkill_t (congrFun h_19 50) (h_21 38 (by decide)) hrSkill
  have h_26 : rSh g_17 a_18 := rSh_t (congrFun h_19 18) (congrFun h_19 26) (h_21 9 (by decide)) (h_21 10 (by decide)) (h_21 11 (by decide)) (h_21 12 (by decide)) (h_21 16 (by decide)) hrSh
  have h_27 : v_10 z0 0 = g_17 30 := h_13.trans (congrFun h_19 30).symm
  obtain ⟨hP, hD⟩ := lsw hP hD
  refine lv_pop hx hb dL_law_926 rfl ?_
  refine lv_goto (tgt := 1804) hx hb dL_law_927 (by decide) ?_
  exact kk L K N v_10 g_17 a_18 _ _ H locs hz I_11 h_20 h_23 h_24 h_25 h_26 h_27 (by omega) (by omega) hP hD hS
set_option maxHeartbeats 4000000 in
set_option maxRecDepth 100000 in
theorem lc_20 {p : Program} {l : Launch} {e : Env} {s : State} {m : MethodId} {below : List Frame} {meth : Method} {c : Code} {b n : Nat} {xs : Nat → Int32} (C0 : lw_At p s m meth c b n xs) (hn : n ≤ 3072) {dC : Nat → ClassId} {dI : Nat → Nat → Nat} {am : Nat → Nat} {cm cid : Nat → ClassId} {tW : Nat} {sK sV : Nat → Nat} (hXx : xX tW sK sV (fun q : Nat => s.heap.size ≤ q) s s.heap) (hKx : va_K (dC, dI) vwCl (xT cid) s) (hKm : va_K (dC, dI) vwCl (mT cm) s) {z0 : Int} {i : Int} (hi0 : 0 ≤ i) (hi : i + 6 ≤ n) {L : List Nat} {K : Int → Nat} {N : Int → Int} {v : Int → Int → Int} {g : Nat → Int} {a : Nat → Int → Int} (hz : ok L K z0 12) (hI : xI L K N v) (hM : mI g a) (hrLine : rLine g a) (hrLead : rLead g a) (hrSkill : rSkill g a) (hrSh : rSh g a) (hnow : v z0 0 = g 30) {nc ns : Nat} (hc : nc + 5 ≤ 600000) (hs : ns + 12100 ≤ 7302250) {H : Heap} {locs : List Loc} {ls : Array Slot} (hP : va_P (dC, dI) vwCl (mG am cm g a ++ xG L cid K N v) H) (hD : va_D (fun q : Nat => s.heap.size ≤ q) (mG am cm g a ++ xG L cid K N v)) (hS : va_S (fun q : Nat => s.heap.size ≤ q) s.heap H locs) (hl : lv_has ls 4 [(3, .int (iI i)), (2, .ref (am 0)), (1, .ref z0.toNat), (0, .ref b)])
    (kk : ∀ (L : List Nat) (K : Int → Nat) (N : Int → Int) (v : Int → Int → Int) (g : Nat → Int) (a : Nat → Int → Int) (nc1 ns1 : Nat) (H : Heap) (locs : List Loc), ok L K z0 12 → xI L K N v → mI g a → rLine g a → rLead g a → rSkill g a → rSh g a → v z0 0 = g 30 → nc1 ≤ nc + 5 → ns1 ≤ ns + 12100 → va_P (dC, dI) vwCl (mG am cm g a ++ xG L cid K N v) H → va_D (fun q : Nat => s.heap.size ≤ q) (mG am cm g a ++ xG L cid K N v) → va_S (fun q : Nat => s.heap.size ≤ q) s.heap H locs → W p l e room_1 s m #[Value.ref b] below meth c H locs nc1 ns1 (lw_Z below #[Value.ref b] s) (F0 m 1804 ls [])) : W p l e room_1 s m #[Value.ref b] below meth c H locs nc ns (lw_Z below #[Value.ref b] s) (F0 m 930 ls []) := by
  obtain ⟨hx, hb, hr, hml, hown, hts, hX9, hbl, hlocks, hgv⟩ := id C0
  have hA : ∀ q : Nat, s.heap.size ≤ q → (fun q : Nat => s.heap.size ≤ q) q := fun _ h => h
  have hbA : ¬ (fun q : Nat => s.heap.size ≤ q) b := Nat.not_le.mpr hbl
  refine lv_aload_n hx hb dL_law_930 rfl (lv_at hl 2 rfl) ?_
  refine lv_aload_n hx hb dL_law_931 rfl (lv_at hl 3 rfl) ?_
  refine lv_iload_n hx hb dL_law_932 rfl (lv_at hl 0 rfl) ?_
  refine lv_iconst (v := iI 1) hx hb dL_law_933 rfl ?_
  refine xr_add hx hb dL_law_934 ?_
  refine va_sld hx hb hX9 hbl hbA hS (xvp (t := i + 1) (by omega) (by omega) hn) dL_law_935 ?_
  obtain ⟨p_1, h_2, r_3⟩ : ∃ y : Int, xs (iI (i + 1)).toNatClampNeg = iI y ∧ rg y := ⟨_, iI_of _, rg_of _⟩
  refine jt_i (iI p_1) h_2 ?_
  refine lv_aload_n hx hb dL_law_936 rfl (lv_at hl 3 rfl) ?_
  refine lv_iload_n hx hb dL_law_937 rfl (lv_at hl 0 rfl) ?_
  refine lv_iconst (v := iI 2) hx hb dL_law_938 rfl ?_
  refine xr_add hx hb dL_law_939 ?_
  refine va_sld hx hb hX9 hbl hbA hS (xvp (t := i + 2) (by omega) (by omega) hn) dL_law_940 ?_
  obtain ⟨p_4, h_5, r_6⟩ : ∃ y : Int, xs (iI (i + 2)).toNatClampNeg = iI y ∧ rg y := ⟨_, iI_of _, rg_of _⟩
  refine jt_i (iI p_4) h_5 ?_
  refine lv_aload_n hx hb dL_law_941 rfl (lv_at hl 3 rfl) ?_
  refine lv_iload_n hx hb dL_law_942 rfl (lv_at hl 0 rfl) ?_
  refine lv_iconst (v := iI 3) hx hb dL_law_943 rfl ?_
  refine xr_add hx hb dL_law_944 ?_
  refine va_sld hx hb hX9 hbl hbA hS (xvp (t := i + 3) (by omega) (by omega) hn) dL_law_945 ?_
  obtain ⟨p_7, h_8, r_9⟩ : ∃ y : Int, xs (iI (i + 3)).toNatClampNeg = iI y ∧ rg y := ⟨_, iI_of _, rg_of _⟩
  refine jt_i (iI p_7) h_8 ?_
  have hPx := jp_tail hP
  have hDx := jd_tail hD
  refine jct_i (va_runV (As := [.int (iI p_1), .int (iI p_4), .int (iI p_7)]) (rest := []) ⟨hx, hb, hml, hown, hts⟩ (sX12_line l dC dI _ L cid K N tW sK sV v z0 p_1 p_4 p_7 hI hz r_3 r_6 r_9) (cwV 3 hts (jgoodVL m_1515 m_1516 m_1517 m_873 m_1518) rfl rfl rfl (by decide +kernel) ⟨(Nat.le_of_ble_eq_true rfl), (Nat.le_of_ble_eq_true rfl)⟩) ⟨xP_blind, xrecv hKx hPx hz rfl rfl, fun U hU hW => ⟨rfl, xP_of hU hW hPx hKx hDx hXx hS (fun _ h => h) hA⟩⟩ rfl rfl hl.1 rfl (lv_room (Nat.le_of_ble_eq_true rfl)) dL_law_946 ⟨(show nc + 1 ≤ 600000 by omega), (show ns + 9 ≤ 7302250 by omega)⟩) hP hD hS hA (fun r u_13 H locs w_11 hP hKx hD hS => ?_)
  obtain ⟨L_14, K_15, N_16, v_17⟩ := u_13
  obtain ⟨x_10, rfl, I_18, E_19, f_20, f_12⟩ := w_11
  have hP : va_P (dC, dI) vwCl (mG am cm g a ++ xG L_14 cid K_15 N_16 v_17) H := hP
  have hD : va_D (fun q : Nat => s.heap.size ≤ q) (mG am cm g a ++ xG L_14 cid K_15 N_16 v_17) := hD
  have I_18 : xI L_14 K_15 N_16 v_17 := I_18
  have E_19 : xE L K N L_14 K_15 N_16 := E_19
  have f_20 : frE L K [(0, 15), (0, 16), (0, 17), (2, 5), (4, 3), (4, 4), (4, 5), (4, 6), (4, 8), (12, 13), (33, (-1)), (34, (-1)), (39, (-1)), (99, 0)] v_17 v := f_20
  have h_21 : v_17 z0 0 = g 30 := (frE_use hz f_20 rfl).trans hnow
  have h_22 := xE_ok E_19 hz
  refine lv_pop hx hb dL_law_949 rfl ?_
  refine lv_aload_n hx hb dL_law_950 rfl (lv_at hl 1 rfl) ?_
  refine lv_aload_n hx hb dL_law_951 rfl (lv_at hl 3 rfl) ?_
  refine lv_iload_n hx hb dL_law_952 rfl (lv_at hl 0 rfl) ?_
  refine lv_iconst (v := iI 1) hx hb dL_law_953 rfl ?_
  refine xr_add hx hb dL_law_954 ?_
  refine va_sld hx hb hX9 hbl hbA hS (xvp (t := i + 1) (by omega) (by omega) hn) dL_law_955 ?_
  refine jt_i (iI p_1) h_2 ?_
  refine lv_aload_n hx hb dL_law_956 rfl (lv_at hl 3 rfl) ?_
  refine lv_iload_n hx hb dL_law_957 rfl (lv_at hl 0 rfl) ?_
  refine lv_iconst (v := iI 2) hx hb dL_law_958 rfl ?_
  refine xr_add hx hb dL_law_959 ?_
  refine va_sld hx hb hX9 hbl hbA hS (xvp (t := i + 2) (by omega) (by omega) hn) dL_law_960 ?_
  refine jt_i (iI p_4) h_5 ?_
  refine lv_aload_n hx hb dL_law_961 rfl (lv_at hl 3 rfl) ?_
  refine lv_iload_n hx hb dL_law_962 rfl (lv_at hl 0 rfl) ?_
  refine lv_iconst (v := iI 3) hx hb dL_law_963 rfl ?_
  refine xr_add hx hb dL_law_964 ?_
  refine va_sld hx hb hX9 hbl hbA hS (xvp (t := i + 3) (by omega) (by omega) hn) dL_law_965 ?_
  refine jt_i (iI p_7) h_8 ?_
  obtain ⟨hP, hD⟩ := lsw hP hD
  have hPm := jp_tail hP
  have hDm := jd_tail hD
  refine jct_i (va_runV (As := [.int (iI p_1), .int (iI p_4), .int (iI p_7)]) (rest := []) ⟨hx, hb, hml, hown, hts⟩ (sX13_line l dC dI _ am cm g a p_1 p_4 p_7 hM r_3 r_6 r_9 hrSh hrLine) (cwV 3 hts (jgoodVL m_1519 m_416 m_417 m_503 m_175) rfl rfl rfl (by decide +kernel) ⟨(Nat.le_of_ble_eq_true rfl), (Nat.le_of_ble_eq_true rfl)⟩) ⟨jw_blind, va_recv hKm hPm (ci := 13) (q0 := 0) rfl rfl, fun U hU hW => ⟨rfl, jw_of hU hW hPm hKm hDm⟩⟩ rfl rfl hl.1 rfl (lv_room (Nat.le_of_ble_eq_true rfl)) dL_law_966 ⟨(show nc + 1 + 0 ≤ 600000 by omega), (show ns + 9 + 0 ≤ 7302250 by omega)⟩) hP hD hS hA (fun r u_25 H locs w_24 hP hKm hD hS => ?_)
  obtain ⟨g_26, a_27⟩ := u_25
  obtain ⟨y_23, rfl, h_28, h_29, h_30, h_31, h_32⟩ := w_24
  have hP : va_P (dC, dI) vwCl (xG L_14 cid K_15 N_16 v_17 ++ mG am cm g_26 a_27) H := hP
  have hD : va_D (fun q : Nat => s.heap.size ≤ q) (xG L_14 cid K_15 N_16 v_17 ++ mG am cm g_26 a_27) := hD
  have h_28 : mI g_26 a_27 := h_28
  have h_33 : rLine g_26 a_27 := h_32
  have h_34 : rLead g_26 a_27 := rLead_t (h_29 37 (by decide)) (h_30 27 (by decide)) (h_30 31 (by decide)) hrLead
  have h_35 : rSkill g_26 a_27 := rSkill_t (h_29 50 (by decide)) (h_30 38 (by decide)) hrSkill
  have h_36 : rSh g_26 a_27 := rSh_t (h_29 18 (by decide)) (h_29 26 (by decide)) (h_30 9 (by decide)) (h_30 10 (by decide)) (h_30 11 (by decide)) (h_30 12 (by decide)) (h_30 16 (by decide)) hrSh
  have h_37 : v_17 z0 0 = g_26 30 := h_21.trans (h_29 30 (by decide)).symm
  obtain ⟨hP, hD⟩ := lsw hP hD
  refine lv_pop hx hb dL_law_969 rfl ?_
  refine lv_goto (tgt := 1804) hx hb dL_law_970 (by decide) ?_
  exact kk L_14 K_15 N_16 v_17 g_26 a_27 _ _ H locs h_22 I_18 h_28 h_33 h_34 h_35 h_36 h_37 (by omega) (by omega) hP hD hS
