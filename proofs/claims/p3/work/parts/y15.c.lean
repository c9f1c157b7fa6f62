set_option maxHeartbeats 4000000 in
set_option maxRecDepth 100000 in
theorem lc_17 {p : Program} {l : Launch} {e : Env} {s : State} {m : MethodId} {below : List Frame} {meth : Method} {c : Code} {b n : Nat} {xs : Nat → Int32} (C0 : lw_At p s m meth c b n xs) (hn : n ≤ 3072) {dC : Nat → ClassId} {dI : Nat → Nat → Nat} {am : Nat → Nat} {cm cid : Nat → ClassId} {tW : Nat} {sK sV : Nat → Nat} (hXx : xX tW sK sV (fun q : Nat => s.heap.size ≤ q) s s.heap) (hKx : va_K (dC, dI) vwCl (xT cid) s) (hKm : va_K (dC, dI) vwCl (mT cm) s) {z0 : Int} {i : Int} (hi0 : 0 ≤ i) (hi : i + 6 ≤ n) {L : List Nat} {K : Int → Nat} {N : Int → Int} {v : Int → Int → Int} {g : Nat → Int} {a : Nat → Int → Int} (hz : ok L K z0 12) (hI : xI L K N v) (hM : mI g a) (hrLine : rLine g a) (hrLead : rLead g a) (hrSkill : rSkill g a) (hrSh : rSh g a) (hnow : v z0 0 = g 30) (hhands : v z0 11 = g 50) (hstolen : v (v z0 19) 1 = g 78) (htold : v (v z0 14) 5 = g 66) (hsize : v (v z0 2) 1 = g 1) (hsheets : v (v z0 3) 1 = g 18) (hsub : rSub v z0 a) (hhd : rHand v z0 g a) (hnw : rNews v z0 g a) (htx : rTxt v z0 g a) {nc ns : Nat} (hc : nc + 5 ≤ 600000) (hs : ns + 12100 ≤ 7302250) {H : Heap} {locs : List Loc} {ls : Array Slot} (hP : va_P (dC, dI) vwCl (mG am cm g a ++ xG L cid K N v) H) (hD : va_D (fun q : Nat => s.heap.size ≤ q) (mG am cm g a ++ xG L cid K N v)) (hS : va_S (fun q : Nat => s.heap.size ≤ q) s.heap H locs) (hl : lv_has ls 4 [(3, .int (iI i)), (2, .ref (am 0)), (1, .ref z0.toNat), (0, .ref b)])
    (kk : ∀ (L : List Nat) (K : Int → Nat) (N : Int → Int) (v : Int → Int → Int) (g : Nat → Int) (a : Nat → Int → Int) (nc1 ns1 : Nat) (H : Heap) (locs : List Loc), ok L K z0 12 → xI L K N v → mI g a → rLine g a → rLead g a → rSkill g a → rSh g a → v z0 0 = g 30 → v z0 11 = g 50 → v (v z0 19) 1 = g 78 → v (v z0 14) 5 = g 66 → v (v z0 2) 1 = g 1 → v (v z0 3) 1 = g 18 → rSub v z0 a → rHand v z0 g a → rNews v z0 g a → rTxt v z0 g a → nc1 ≤ nc + 5 → ns1 ≤ ns + 12100 → va_P (dC, dI) vwCl (mG am cm g a ++ xG L cid K N v) H → va_D (fun q : Nat => s.heap.size ≤ q) (mG am cm g a ++ xG L cid K N v) → va_S (fun q : Nat => s.heap.size ≤ q) s.heap H locs → W p l e room_1 s m #[Value.ref b] below meth c H locs nc1 ns1 (lw_Z below #[Value.ref b] s) (F0 m 1804 ls [])) : W p l e room_1 s m #[Value.ref b] below meth c H locs nc ns (lw_Z below #[Value.ref b] s) (F0 m 821 ls []) := by
  obtain ⟨hx, hb, hr, hml, hown, hts, hX9, hbl, hlocks, hgv⟩ := id C0
  have hA : ∀ q : Nat, s.heap.size ≤ q → (fun q : Nat => s.heap.size ≤ q) q := fun _ h => h
  have hbA : ¬ (fun q : Nat => s.heap.size ≤ q) b := Nat.not_le.mpr hbl
  refine lv_aload_n hx hb dL_law_821 rfl (lv_at hl 2 rfl) ?_
  refine lv_aload_n hx hb dL_law_822 rfl (lv_at hl 3 rfl) ?_
  refine lv_iload_n hx hb dL_law_823 rfl (lv_at hl 0 rfl) ?_
  refine lv_iconst (v := iI 1) hx hb dL_law_824 rfl ?_
  refine xr_add hx hb dL_law_825 ?_
  refine va_sld hx hb hX9 hbl hbA hS (xvp (t := i + 1) (by omega) (by omega) hn) dL_law_826 ?_
  obtain ⟨p_1, h_2, r_3⟩ : ∃ y : Int, xs (iI (i + 1)).toNatClampNeg = iI y ∧ rg y := ⟨_, iI_of _, rg_of _⟩
  refine jt_i (iI p_1) h_2 ?_
  refine lv_aload_n hx hb dL_law_827 rfl (lv_at hl 3 rfl) ?_
  refine lv_iload_n hx hb dL_law_828 rfl (lv_at hl 0 rfl) ?_
  refine lv_iconst (v := iI 2) hx hb dL_law_829 rfl ?_
  refine xr_add hx hb dL_law_830 ?_
  refine va_sld hx hb hX9 hbl hbA hS (xvp (t := i + 2) (by omega) (by omega) hn) dL_law_831 ?_
  obtain ⟨p_4, h_5, r_6⟩ : ∃ y : Int, xs (iI (i + 2)).toNatClampNeg = iI y ∧ rg y := ⟨_, iI_of _, rg_of _⟩
  refine jt_i (iI p_4) h_5 ?_
  refine lv_aload_n hx hb dL_law_832 rfl (lv_at hl 3 rfl) ?_
  refine lv_iload_n hx hb dL_law_833 rfl (lv_at hl 0 rfl) ?_
  refine lv_iconst (v := iI 3) hx hb dL_law_834 rfl ?_
  refine xr_add hx hb dL_law_835 ?_
  refine va_sld hx hb hX9 hbl hbA hS (xvp (t := i + 3) (by omega) (by omega) hn) dL_law_836 ?_
  obtain ⟨p_7, h_8, r_9⟩ : ∃ y : Int, xs (iI (i + 3)).toNatClampNeg = iI y ∧ rg y := ⟨_, iI_of _, rg_of _⟩
  refine jt_i (iI p_7) h_8 ?_
  have hPx := jp_tail hP
  have hDx := jd_tail hD
  refine jct_i (va_runV (As := [.int (iI p_1), .int (iI p_4), .int (iI p_7)]) (rest := []) ⟨hx, hb, hml, hown, hts⟩ (sX12_hand l dC dI _ L cid K N tW sK sV v z0 p_1 p_4 p_7 hI hz r_3 r_6 r_9) (cwV 3 hts (jgoodVL m_1500 m_1501 m_1502 m_873 m_1503) rfl rfl rfl (by decide +kernel) ⟨(Nat.le_of_ble_eq_true rfl), (Nat.le_of_ble_eq_true rfl)⟩) ⟨xP_blind, xrecv hKx hPx hz rfl rfl, fun U hU hW => ⟨rfl, xP_of hU hW hPx hKx hDx hXx hS (fun _ h => h) hA⟩⟩ rfl rfl hl.1 rfl (lv_room (Nat.le_of_ble_eq_true rfl)) dL_law_837 ⟨(show nc + 1 ≤ 600000 by omega), (show ns + 6 ≤ 7302250 by omega)⟩) hP hD hS hA (fun r u_16 H locs w_11 hP hKx hD hS => ?_)
  obtain ⟨L_17, K_18, N_19, v_20⟩ := u_16
  obtain ⟨x_10, rfl, I_21, E_22, f_23, f_12, f_13, f_14, f_15⟩ := w_11
  have hP : va_P (dC, dI) vwCl (mG am cm g a ++ xG L_17 cid K_18 N_19 v_20) H := hP
  have hD : va_D (fun q : Nat => s.heap.size ≤ q) (mG am cm g a ++ xG L_17 cid K_18 N_19 v_20) := hD
  have I_21 : xI L_17 K_18 N_19 v_20 := I_21
  have E_22 : xE L K N L_17 K_18 N_19 := E_22
  have f_23 : frE L K [(12, 11), (38, (-1)), (99, 0)] v_20 v := f_23
  have f_13 : (x_10 = -1 ∧ v_20 z0 11 = v z0 11 ∧ ((p_1 < 1 ∨ 255 < p_1 ∨ p_4 < 1 ∨ 20 < p_4 ∨ p_7 < (-40000) ∨ 0 < p_7) ∨ 12 ≤ v z0 11)) ∨ (x_10 = v z0 11 ∧ v_20 z0 11 = v z0 11 + 1 ∧ 1 ≤ p_1 ∧ p_1 ≤ 255 ∧ 1 ≤ p_4 ∧ p_4 ≤ 20 ∧ (-40000) ≤ p_7 ∧ p_7 ≤ 0 ∧ v z0 11 < 12) := f_13
  have f_14 : iF (x_10 = -1) (∀ i, v_20 (v z0 10) i = v (v z0 10) i) := f_14
  have f_15 : iF (x_10 ≠ -1) (hNewP L K v v_20 (v z0 10) (v z0 11)) := f_15
  have h_25 : v_20 z0 0 = g 30 := (frE_use hz f_23 rfl).trans hnow
  have h_27 : ok L K (v z0 19) 10 := xf_12_19 hI hz
  have b_28 : v_20 z0 19 = v z0 19 := frE_use hz f_23 rfl
  have b_29 : v_20 (v z0 19) 1 = v (v z0 19) 1 := frE_use h_27 f_23 rfl
  have h_26 : v_20 (v_20 z0 19) 1 = g 78 := by rw [b_28, b_29]; exact hstolen
  have h_31 : ok L K (v z0 14) 5 := xf_12_14 hI hz
  have b_32 : v_20 z0 14 = v z0 14 := frE_use hz f_23 rfl
  have b_33 : v_20 (v z0 14) 5 = v (v z0 14) 5 := frE_use h_31 f_23 rfl
  have h_30 : v_20 (v_20 z0 14) 5 = g 66 := by rw [b_32, b_33]; exact htold
  have h_35 : ok L K (v z0 2) 7 := xf_12_2 hI hz
  have b_36 : v_20 z0 2 = v z0 2 := frE_use hz f_23 rfl
  have b_37 : v_20 (v z0 2) 1 = v (v z0 2) 1 := frE_use h_35 f_23 rfl
  have h_34 : v_20 (v_20 z0 2) 1 = g 1 := by rw [b_36, b_37]; exact hsize
  have h_39 : ok L K (v z0 3) 8 := xf_12_3 hI hz
  have b_40 : v_20 z0 3 = v z0 3 := frE_use hz f_23 rfl
  have b_41 : v_20 (v z0 3) 1 = v (v z0 3) 1 := frE_use h_39 f_23 rfl
  have h_38 : v_20 (v_20 z0 3) 1 = g 18 := by rw [b_40, b_41]; exact hsheets
  have h_42 : rSub v_20 z0 a := rSub_x hI hz f_23 rfl (fun _ => rfl) hsub
  have h_43 : rNews v_20 z0 g a := rNews_x hI hz f_23 rfl (fun _ => rfl) (fun _ => rfl) (fun _ => rfl) (fun _ => rfl) (fun _ => rfl) rfl rfl rfl rfl rfl hnw
  have h_44 : rTxt v_20 z0 g a := rTxt_x hI hz f_23 rfl rfl rfl (fun _ => rfl) htx
  have h_24 := xE_ok E_22 hz
  refine lv_pop hx hb dL_law_840 rfl ?_
  refine lv_aload_n hx hb dL_law_841 rfl (lv_at hl 1 rfl) ?_
  refine lv_aload_n hx hb dL_law_842 rfl (lv_at hl 3 rfl) ?_
  refine lv_iload_n hx hb dL_law_843 rfl (lv_at hl 0 rfl) ?_
  refine lv_iconst (v := iI 1) hx hb dL_law_844 rfl ?_
  refine xr_add hx hb dL_law_845 ?_
  refine va_sld hx hb hX9 hbl hbA hS (xvp (t := i + 1) (by omega) (by omega) hn) dL_law_846 ?_
  refine jt_i (iI p_1) h_2 ?_
  refine lv_aload_n hx hb dL_law_847 rfl (lv_at hl 3 rfl) ?_
  refine lv_iload_n hx hb dL_law_848 rfl (lv_at hl 0 rfl) ?_
  refine lv_iconst (v := iI 2) hx hb dL_law_849 rfl ?_
  refine xr_add hx hb dL_law_850 ?_
  refine va_sld hx hb hX9 hbl hbA hS (xvp (t := i + 2) (by omega) (by omega) hn) dL_law_851 ?_
  refine jt_i (iI p_4) h_5 ?_
  refine lv_aload_n hx hb dL_law_852 rfl (lv_at hl 3 rfl) ?_
  refine lv_iload_n hx hb dL_law_853 rfl (lv_at hl 0 rfl) ?_
  refine lv_iconst (v := iI 3) hx hb dL_law_854 rfl ?_
  refine xr_add hx hb dL_law_855 ?_
  refine va_sld hx hb hX9 hbl hbA hS (xvp (t := i + 3) (by omega) (by omega) hn) dL_law_856 ?_
  refine jt_i (iI p_7) h_8 ?_
  obtain ⟨hP, hD⟩ := lsw hP hD
  have hPm := jp_tail hP
  have hDm := jd_tail hD
  refine jct_i (va_runV (As := [.int (iI p_1), .int (iI p_4), .int (iI p_7)]) (rest := []) ⟨hx, hb, hml, hown, hts⟩ (sX13_hand l dC dI _ am cm g a p_1 p_4 p_7 hM r_3 r_6 r_9 hrSkill) (cwV 3 hts (jgoodVL m_1504 m_356 m_357 m_503 m_143) rfl rfl rfl (by decide +kernel) ⟨(Nat.le_of_ble_eq_true rfl), (Nat.le_of_ble_eq_true rfl)⟩) ⟨jw_blind, va_recv hKm hPm (ci := 13) (q0 := 0) rfl rfl, fun U hU hW => ⟨rfl, jw_of hU hW hPm hKm hDm⟩⟩ rfl rfl hl.1 rfl (lv_room (Nat.le_of_ble_eq_true rfl)) dL_law_857 ⟨(show nc + 1 + 0 ≤ 600000 by omega), (show ns + 6 + 0 ≤ 7302250 by omega)⟩) hP hD hS hA (fun r u_47 H locs w_46 hP hKm hD hS => ?_)
  obtain ⟨g_48, a_49⟩ := u_47
  obtain ⟨y_45, rfl, h_50, h_51, h_52, h_53, h_54, h_55⟩ := w_46
  have hP : va_P (dC, dI) vwCl (xG L_17 cid K_18 N_19 v_20 ++ mG am cm g_48 a_49) H := hP
  have hD : va_D (fun q : Nat => s.heap.size ≤ q) (xG L_17 cid K_18 N_19 v_20 ++ mG am cm g_48 a_49) := hD
  have h_50 : mI g_48 a_49 := h_50
  have h_55 : (y_45 = -1 ∧ g_48 50 = g 50 ∧ ((p_1 < 1 ∨ 255 < p_1 ∨ p_4 < 1 ∨ 20 < p_4 ∨ p_7 < (-40000) ∨ 0 < p_7) ∨ g 50 = 12)) ∨ (y_45 = g 50 ∧ g_48 50 = g 50 + 1 ∧ 1 ≤ p_1 ∧ p_1 ≤ 255 ∧ 1 ≤ p_4 ∧ p_4 ≤ 20 ∧ (-40000) ≤ p_7 ∧ p_7 ≤ 0 ∧ g 50 ≠ 12) := h_55
  have h_56 : rLine g_48 a_49 := rLine_t (h_51 56 (by decide)) (h_52 45 (by decide)) hrLine
  have h_57 : rLead g_48 a_49 := rLead_t (h_51 37 (by decide)) (h_52 27 (by decide)) (h_52 31 (by decide)) hrLead
  have h_58 : rSkill g_48 a_49 := h_54
  have h_59 : rSh g_48 a_49 := rSh_t (h_51 18 (by decide)) (h_51 26 (by decide)) (h_52 9 (by decide)) (h_52 10 (by decide)) (h_52 11 (by decide)) (h_52 12 (by decide)) (h_52 16 (by decide)) hrSh
  have h_60 : v_20 z0 0 = g_48 30 := h_25.trans (h_51 30 (by decide)).symm
  have b_62 := hM.1 50
  have b_62 : 0 ≤ g 50 ∧ g 50 ≤ 12 := b_62
  have h_61 : v_20 z0 11 = g_48 50 := by omega
  have h_63 : v_20 (v_20 z0 19) 1 = g_48 78 := h_26.trans (h_51 78 (by decide)).symm
  have h_64 : v_20 (v_20 z0 14) 5 = g_48 66 := h_30.trans (h_51 66 (by decide)).symm
  have h_65 : v_20 (v_20 z0 2) 1 = g_48 1 := h_34.trans (h_51 1 (by decide)).symm
  have h_66 : v_20 (v_20 z0 3) 1 = g_48 18 := h_38.trans (h_51 18 (by decide)).symm
  have h_67 : rSub v_20 z0 a_49 := rSub_m (h_52 60 (by decide)) h_42
  have h_68 : rHand v_20 z0 g_48 a_49 := by
    have i4 : 0 ≤ g 50 ∧ g 50 ≤ 12 := hM.1 50
    rcases (show x_10 = -1 ∨ x_10 ≠ -1 by omega) with q9 | q9
    · exact rHand_m (by omega) (h_52 41 (by decide)) (rHand_y hI hz f_23 rfl (f_14 q9) rfl hhd)
    · obtain ⟨q, q0, qn, q4, qe⟩ := f_15 q9
      exact rHand_new hI hz f_23 rfl rfl q0 qn q4 (fun i => by rw [← hhands]; exact qe i) (by omega) (by omega) (by omega) (h_52 41 (by decide)) hhd
  have h_69 : rNews v_20 z0 g_48 a_49 := rNews_m (h_51 66 (by decide)) (h_52 51 (by decide)) (h_52 52 (by decide)) (h_52 53 (by decide)) (h_52 54 (by decide)) h_43
  have h_70 : rTxt v_20 z0 g_48 a_49 := rTxt_m (h_51 1 (by decide)) (h_52 1 (by decide)) h_44
  obtain ⟨hP, hD⟩ := lsw hP hD
  refine lv_pop hx hb dL_law_860 rfl ?_
  refine lv_goto (tgt := 1804) hx hb dL_law_861 (by decide) ?_
  exact kk L_17 K_18 N_19 v_20 g_48 a_49 _ _ H locs h_24 I_21 h_50 h_56 h_57 h_58 h_59 h_60 h_61 h_63 h_64 h_65 h_66 h_67 h_68 h_69 h_70 (by omega) (by omega) hP hD hS
set_option maxHeartbeats 4000000 in
set_option maxRecDepth 100000 in
theorem lc_18 {p : Program} {l : Launch} {e : Env} {s : State} {m : MethodId} {below : List Frame} {meth : Method} {c : Code} {b n : Nat} {xs : Nat → Int32} (C0 : lw_At p s m meth c b n xs) (hn : n ≤ 3072) {dC : Nat → ClassId} {dI : Nat → Nat → Nat} {am : Nat → Nat} {cm cid : Nat → ClassId} {tW : Nat} {sK sV : Nat → Nat} (hXx : xX tW sK sV (fun q : Nat => s.heap.size ≤ q) s s.heap) (hKx : va_K (dC, dI) vwCl (xT cid) s) (hKm : va_K (dC, dI) vwCl (mT cm) s) {z0 : Int} {i : Int} (hi0 : 0 ≤ i) (hi : i + 6 ≤ n) {L : List Nat} {K : Int → Nat} {N : Int → Int} {v : Int → Int → Int} {g : Nat → Int} {a : Nat → Int → Int} (hz : ok L K z0 12) (hI : xI L K N v) (hM : mI g a) (hrLine : rLine g a) (hrLead : rLead g a) (hrSkill : rSkill g a) (hrSh : rSh g a) (hnow : v z0 0 = g 30) (hhands : v z0 11 = g 50) (hstolen : v (v z0 19) 1 = g 78) (htold : v (v z0 14) 5 = g 66) (hsize : v (v z0 2) 1 = g 1) (hsheets : v (v z0 3) 1 = g 18) (hsub : rSub v z0 a) (hhd : rHand v z0 g a) (hnw : rNews v z0 g a) (htx : rTxt v z0 g a) {nc ns : Nat} (hc : nc + 5 ≤ 600000) (hs : ns + 12100 ≤ 7302250) {H : Heap} {locs : List Loc} {ls : Array Slot} (hP : va_P (dC, dI) vwCl (mG am cm g a ++ xG L cid K N v) H) (hD : va_D (fun q : Nat => s.heap.size ≤ q) (mG am cm g a ++ xG L cid K N v)) (hS : va_S (fun q : Nat => s.heap.size ≤ q) s.heap H locs) (hl : lv_has ls 4 [(3, .int (iI i)), (2, .ref (am 0)), (1, .ref z0.toNat), (0, .ref b)])
    (kk : ∀ (L : List Nat) (K : Int → Nat) (N : Int → Int) (v : Int → Int → Int) (g : Nat → Int) (a : Nat → Int → Int) (nc1 ns1 : Nat) (H : Heap) (locs : List Loc), ok L K z0 12 → xI L K N v → mI g a → rLine g a → rLead g a → rSkill g a → rSh g a → v z0 0 = g 30 → v z0 11 = g 50 → v (v z0 19) 1 = g 78 → v (v z0 14) 5 = g 66 → v (v z0 2) 1 = g 1 → v (v z0 3) 1 = g 18 → rSub v z0 a → rHand v z0 g a → rNews v z0 g a → rTxt v z0 g a → nc1 ≤ nc + 5 → ns1 ≤ ns + 12100 → va_P (dC, dI) vwCl (mG am cm g a ++ xG L cid K N v) H → va_D (fun q : Nat => s.heap.size ≤ q) (mG am cm g a ++ xG L cid K N v) → va_S (fun q : Nat => s.heap.size ≤ q) s.heap H locs → W p l e room_1 s m #[Value.ref b] below meth c H locs nc1 ns1 (lw_Z below #[Value.ref b] s) (F0 m 1804 ls [])) : W p l e room_1 s m #[Value.ref b] below meth c H locs nc ns (lw_Z below #[Value.ref b] s) (F0 m 864 ls []) := by
  obtain ⟨hx, hb, hr, hml, hown, hts, hX9, hbl, hlocks, hgv⟩ := id C0
  have hA : ∀ q : Nat, s.heap.size ≤ q → (fun q : Nat => s.heap.size ≤ q) q := fun _ h => h
  have hbA : ¬ (fun q : Nat => s.heap.size ≤ q) b := Nat.not_le.mpr hbl
  refine lv_aload_n hx hb dL_law_864 rfl (lv_at hl 2 rfl) ?_
  refine lv_aload_n hx hb dL_law_865 rfl (lv_at hl 3 rfl) ?_
  refine lv_iload_n hx hb dL_law_866 rfl (lv_at hl 0 rfl) ?_
  refine lv_iconst (v := iI 1) hx hb dL_law_867 rfl ?_
  refine xr_add hx hb dL_law_868 ?_
  refine va_sld hx hb hX9 hbl hbA hS (xvp (t := i + 1) (by omega) (by omega) hn) dL_law_869 ?_
  obtain ⟨p_1, h_2, r_3⟩ : ∃ y : Int, xs (iI (i + 1)).toNatClampNeg = iI y ∧ rg y := ⟨_, iI_of _, rg_of _⟩
  refine jt_i (iI p_1) h_2 ?_
  refine lv_aload_n hx hb dL_law_870 rfl (lv_at hl 3 rfl) ?_
  refine lv_iload_n hx hb dL_law_871 rfl (lv_at hl 0 rfl) ?_
  refine lv_iconst (v := iI 2) hx hb dL_law_872 rfl ?_
  refine xr_add hx hb dL_law_873 ?_
  refine va_sld hx hb hX9 hbl hbA hS (xvp (t := i + 2) (by omega) (by omega) hn) dL_law_874 ?_
  obtain ⟨p_4, h_5, r_6⟩ : ∃ y : Int, xs (iI (i + 2)).toNatClampNeg = iI y ∧ rg y := ⟨_, iI_of _, rg_of _⟩
  refine jt_i (iI p_4) h_5 ?_
  have hPx := jp_tail hP
  have hDx := jd_tail hD
  refine jct_i (va_runV (As := [.int (iI p_1), .int (iI p_4)]) (rest := []) ⟨hx, hb, hml, hown, hts⟩ (sX12_enemies l dC dI _ L cid K N tW sK sV v z0 p_1 p_4 hI hz r_3 r_6) (cwV 2 hts (jgoodVL m_1505 m_1506 m_1507 m_873 m_1508) rfl rfl rfl (by decide +kernel) ⟨(Nat.le_of_ble_eq_true rfl), (Nat.le_of_ble_eq_true rfl)⟩) ⟨xP_blind, xrecv hKx hPx hz rfl rfl, fun U hU hW => ⟨rfl, xP_of hU hW hPx hKx hDx hXx hS (fun _ h => h) hA⟩⟩ rfl rfl hl.1 rfl (lv_room (Nat.le_of_ble_eq_true rfl)) dL_law_875 ⟨(show nc + 0 ≤ 600000 by omega), (show ns + 0 ≤ 7302250 by omega)⟩) hP hD hS hA (fun r v_15 H locs w_8 hP hKx hD hS => ?_)
  obtain ⟨x_7, rfl, I_16, f_17, f_9, f_10, f_11, f_12, f_13, f_14⟩ := w_8
  have hP : va_P (dC, dI) vwCl (mG am cm g a ++ xG L cid K N v_15) H := hP
  have hD : va_D (fun q : Nat => s.heap.size ≤ q) (mG am cm g a ++ xG L cid K N v_15) := hD
  have f_11 : iF (x_7 = 1) (zand (zshr (v (v (v z0 10) p_1) 4) p_4) 1 = 0) := f_11
  have f_12 : iF (x_7 = 0) ((p_1 < 0 ∨ v z0 11 ≤ p_1 ∨ p_4 < 0 ∨ v z0 11 ≤ p_4 ∨ v (v z0 10) p_1 < 0 ∨ v (v z0 10) p_4 < 0 ∨ p_1 = p_4 ∨ zand (zshr (v (v (v z0 10) p_1) 4) p_4) 1 ≠ 0)) := f_12
  have f_13 : iF (x_7 = 0) (v_15 = v) := f_13
  have f_14 : iF (x_7 = 1) (v_15 = vu (vu v (v (v z0 10) p_1) 4 (zor (v (v (v z0 10) p_1) 4) (zshl 1 p_4))) (v (v z0 10) p_4) 4 (zor ((vu v (v (v z0 10) p_1) 4 (zor (v (v (v z0 10) p_1) 4) (zshl 1 p_4))) (v (v z0 10) p_4) 4) (zshl 1 p_1))) := f_14
  have h_18 : v_15 z0 0 = g 30 := (fr_use hz f_17 rfl).trans hnow
  have h_19 : v_15 z0 11 = g 50 := (fr_use hz f_17 rfl).trans hhands
  have h_21 : ok L K (v z0 19) 10 := xf_12_19 hI hz
  have b_22 : v_15 z0 19 = v z0 19 := fr_use hz f_17 rfl
  have b_23 : v_15 (v z0 19) 1 = v (v z0 19) 1 := fr_use h_21 f_17 rfl
  have h_20 : v_15 (v_15 z0 19) 1 = g 78 := by rw [b_22, b_23]; exact hstolen
  have h_25 : ok L K (v z0 14) 5 := xf_12_14 hI hz
  have b_26 : v_15 z0 14 = v z0 14 := fr_use hz f_17 rfl
  have b_27 : v_15 (v z0 14) 5 = v (v z0 14) 5 := fr_use h_25 f_17 rfl
  have h_24 : v_15 (v_15 z0 14) 5 = g 66 := by rw [b_26, b_27]; exact htold
  have h_29 : ok L K (v z0 2) 7 := xf_12_2 hI hz
  have b_30 : v_15 z0 2 = v z0 2 := fr_use hz f_17 rfl
  have b_31 : v_15 (v z0 2) 1 = v (v z0 2) 1 := fr_use h_29 f_17 rfl
  have h_28 : v_15 (v_15 z0 2) 1 = g 1 := by rw [b_30, b_31]; exact hsize
  have h_33 : ok L K (v z0 3) 8 := xf_12_3 hI hz
  have b_34 : v_15 z0 3 = v z0 3 := fr_use hz f_17 rfl
  have b_35 : v_15 (v z0 3) 1 = v (v z0 3) 1 := fr_use h_33 f_17 rfl
  have h_32 : v_15 (v_15 z0 3) 1 = g 18 := by rw [b_34, b_35]; exact hsheets
  have h_36 : rSub v_15 z0 a := rSub_x hI hz (frE_of f_17) rfl (fun _ => rfl) hsub
  have h_37 : rNews v_15 z0 g a := rNews_x hI hz (frE_of f_17) rfl (fun _ => rfl) (fun _ => rfl) (fun _ => rfl) (fun _ => rfl) (fun _ => rfl) rfl rfl rfl rfl rfl hnw
  have h_38 : rTxt v_15 z0 g a := rTxt_x hI hz (frE_of f_17) rfl rfl rfl (fun _ => rfl) htx
  refine lv_pop hx hb dL_law_878 rfl ?_
  refine lv_aload_n hx hb dL_law_879 rfl (lv_at hl 1 rfl) ?_
  refine lv_aload_n hx hb dL_law_880 rfl (lv_at hl 3 rfl) ?_
  refine lv_iload_n hx hb dL_law_881 rfl (lv_at hl 0 rfl) ?_
  refine lv_iconst (v := iI 1) hx hb dL_law_882 rfl ?_
  refine xr_add hx hb dL_law_883 ?_
  refine va_sld hx hb hX9 hbl hbA hS (xvp (t := i + 1) (by omega) (by omega) hn) dL_law_884 ?_
  refine jt_i (iI p_1) h_2 ?_
  refine lv_aload_n hx hb dL_law_885 rfl (lv_at hl 3 rfl) ?_
  refine lv_iload_n hx hb dL_law_886 rfl (lv_at hl 0 rfl) ?_
  refine lv_iconst (v := iI 2) hx hb dL_law_887 rfl ?_
  refine xr_add hx hb dL_law_888 ?_
  refine va_sld hx hb hX9 hbl hbA hS (xvp (t := i + 2) (by omega) (by omega) hn) dL_law_889 ?_
  refine jt_i (iI p_4) h_5 ?_
  obtain ⟨hP, hD⟩ := lsw hP hD
  have hPm := jp_tail hP
  have hDm := jd_tail hD
  refine jct_i (va_runV (As := [.int (iI p_1), .int (iI p_4)]) (rest := []) ⟨hx, hb, hml, hown, hts⟩ (sX13_enemies l dC dI _ am cm g a p_1 p_4 hM r_3 r_6) (cwV 2 hts (jgoodVL m_1509 m_330 m_331 m_503 m_130) rfl rfl rfl (by decide +kernel) ⟨(Nat.le_of_ble_eq_true rfl), (Nat.le_of_ble_eq_true rfl)⟩) ⟨jw_blind, va_recv hKm hPm (ci := 13) (q0 := 0) rfl rfl, fun U hU hW => ⟨rfl, jw_of hU hW hPm hKm hDm⟩⟩ rfl rfl hl.1 rfl (lv_room (Nat.le_of_ble_eq_true rfl)) dL_law_890 ⟨(show nc + 0 ≤ 600000 by omega), (show ns + 0 ≤ 7302250 by omega)⟩) hP hD hS hA (fun r u_41 H locs w_40 hP hKm hD hS => ?_)
  obtain ⟨g_42, a_43⟩ := u_41
  obtain ⟨y_39, rfl, h_44, h_45, h_46, h_47, h_48, h_49, h_50⟩ := w_40
  have hP : va_P (dC, dI) vwCl (xG L cid K N v_15 ++ mG am cm g_42 a_43) H := hP
  have hD : va_D (fun q : Nat => s.heap.size ≤ q) (xG L cid K N v_15 ++ mG am cm g_42 a_43) := hD
  have h_44 : g_42 = g := h_44
  have h_45 : mI g_42 a_43 := h_45
  have h_49 : oF (y_39 = 1) (a_43 41 = a 41) := h_49
  have h_50 : oF (y_39 = 0) (a_43 41 = up (up (a 41) (12 * p_1 + p_4) 1) (12 * p_4 + p_1) 1) := h_50
  have h_51 : rLine g_42 a_43 := rLine_t (congrFun h_44 56) (h_46 45 (by decide)) hrLine
  have h_52 : rLead g_42 a_43 := rLead_t (congrFun h_44 37) (h_46 27 (by decide)) (h_46 31 (by decide)) hrLead
  have h_53 : rSkill g_42 a_43 := rSkill_t (congrFun h_44 50) (h_46 38 (by decide)) hrSkill
  have h_54 : rSh g_42 a_43 := rSh_t (congrFun h_44 18) (congrFun h_44 26) (h_46 9 (by decide)) (h_46 10 (by decide)) (h_46 11 (by decide)) (h_46 12 (by decide)) (h_46 16 (by decide)) hrSh
  have h_55 : v_15 z0 0 = g_42 30 := h_18.trans (congrFun h_44 30).symm
  have h_56 : v_15 z0 11 = g_42 50 := h_19.trans (congrFun h_44 50).symm
  have h_57 : v_15 (v_15 z0 19) 1 = g_42 78 := h_20.trans (congrFun h_44 78).symm
  have h_58 : v_15 (v_15 z0 14) 5 = g_42 66 := h_24.trans (congrFun h_44 66).symm
  have h_59 : v_15 (v_15 z0 2) 1 = g_42 1 := h_28.trans (congrFun h_44 1).symm
  have h_60 : v_15 (v_15 z0 3) 1 = g_42 18 := h_32.trans (congrFun h_44 18).symm
  have h_61 : rSub v_15 z0 a_43 := rSub_m (h_46 60 (by decide)) h_36
  have ht9 := en_tie hhd hhands (show 0 ≤ g 50 ∧ g 50 ≤ 12 from hM.1 50).2 f_10 f_11 f_12 h_48
  have h_62 : rHand v_15 z0 g_42 a_43 := by
    rcases ht9 with ⟨q9, r9⟩ | ⟨q9, r9, z1, z2, z3, z4, z5⟩
    · rw [f_13 q9]; exact rHand_m (congrFun h_44 50) ((h_49).resolve_left (fun z => absurd (r9.symm.trans z) (by decide))) hhd
    · exact rHand_en hI hz (f_14 q9) (congrFun h_44 50) ((h_50).resolve_left (fun z => absurd (r9.symm.trans z) (by decide))) z1 z2 z3 z4 z5 (show 0 ≤ g 50 ∧ g 50 ≤ 12 from hM.1 50).2 hhd
  have h_63 : rNews v_15 z0 g_42 a_43 := rNews_m (congrFun h_44 66) (h_46 51 (by decide)) (h_46 52 (by decide)) (h_46 53 (by decide)) (h_46 54 (by decide)) h_37
  have h_64 : rTxt v_15 z0 g_42 a_43 := rTxt_m (congrFun h_44 1) (h_46 1 (by decide)) h_38
  obtain ⟨hP, hD⟩ := lsw hP hD
  refine lv_pop hx hb dL_law_893 rfl ?_
  refine lv_goto (tgt := 1804) hx hb dL_law_894 (by decide) ?_
  exact kk L K N v_15 g_42 a_43 _ _ H locs hz I_16 h_45 h_51 h_52 h_53 h_54 h_55 h_56 h_57 h_58 h_59 h_60 h_61 h_62 h_63 h_64 (by omega) (by omega) hP hD hS
set_option maxHeartbeats 4000000 in
set_option maxRecDepth 100000 in
theorem lc_19 {p : Program} {l : Launch} {e : Env} {s : State} {m : MethodId} {below : List Frame} {meth : Method} {c : Code} {b n : Nat} {xs : Nat → Int32} (C0 : lw_At p s m meth c b n xs) (hn : n ≤ 3072) {dC : Nat → ClassId} {dI : Nat → Nat → Nat} {am : Nat → Nat} {cm cid : Nat → ClassId} {tW : Nat} {sK sV : Nat → Nat} (hXx : xX tW sK sV (fun q : Nat => s.heap.size ≤ q) s s.heap) (hKx : va_K (dC, dI) vwCl (xT cid) s) (hKm : va_K (dC, dI) vwCl (mT cm) s) {z0 : Int} {i : Int} (hi0 : 0 ≤ i) (hi : i + 6 ≤ n) {L : List Nat} {K : Int → Nat} {N : Int → Int} {v : Int → Int → Int} {g : Nat → Int} {a : Nat → Int → Int} (hz : ok L K z0 12) (hI : xI L K N v) (hM : mI g a) (hrLine : rLine g a) (hrLead : rLead g a) (hrSkill : rSkill g a) (hrSh : rSh g a) (hnow : v z0 0 = g 30) (hhands : v z0 11 = g 50) (hstolen : v (v z0 19) 1 = g 78) (htold : v (v z0 14) 5 = g 66) (hsize : v (v z0 2) 1 = g 1) (hsheets : v (v z0 3) 1 = g 18) (hsub : rSub v z0 a) (hhd : rHand v z0 g a) (hnw : rNews v z0 g a) (htx : rTxt v z0 g a) {nc ns : Nat} (hc : nc + 5 ≤ 600000) (hs : ns + 12100 ≤ 7302250) {H : Heap} {locs : List Loc} {ls : Array Slot} (hP : va_P (dC, dI) vwCl (mG am cm g a ++ xG L cid K N v) H) (hD : va_D (fun q : Nat => s.heap.size ≤ q) (mG am cm g a ++ xG L cid K N v)) (hS : va_S (fun q : Nat => s.heap.size ≤ q) s.heap H locs) (hl : lv_has ls 4 [(3, .int (iI i)), (2, .ref (am 0)), (1, .ref z0.toNat), (0, .ref b)])
    (kk : ∀ (L : List Nat) (K : Int → Nat) (N : Int → Int) (v : Int → Int → Int) (g : Nat → Int) (a : Nat → Int → Int) (nc1 ns1 : Nat) (H : Heap) (locs : List Loc), ok L K z0 12 → xI L K N v → mI g a → rLine g a → rLead g a → rSkill g a → rSh g a → v z0 0 = g 30 → v z0 11 = g 50 → v (v z0 19) 1 = g 78 → v (v z0 14) 5 = g 66 → v (v z0 2) 1 = g 1 → v (v z0 3) 1 = g 18 → rSub v z0 a → rHand v z0 g a → rNews v z0 g a → rTxt v z0 g a → nc1 ≤ nc + 5 → ns1 ≤ ns + 12100 → va_P (dC, dI) vwCl (mG am cm g a ++ xG L cid K N v) H → va_D (fun q : Nat => s.heap.size ≤ q) (mG am cm g a ++ xG L cid K N v) → va_S (fun q : Nat => s.heap.size ≤ q) s.heap H locs → W p l e room_1 s m #[Value.ref b] below meth c H locs nc1 ns1 (lw_Z below #[Value.ref b] s) (F0 m 1804 ls [])) : W p l e room_1 s m #[Value.ref b] below meth c H locs nc ns (lw_Z below #[Value.ref b] s) (F0 m 897 ls []) := by
  obtain ⟨hx, hb, hr, hml, hown, hts, hX9, hbl, hlocks, hgv⟩ := id C0
  have hA : ∀ q : Nat, s.heap.size ≤ q → (fun q : Nat => s.heap.size ≤ q) q := fun _ h => h
  have hbA : ¬ (fun q : Nat => s.heap.size ≤ q) b := Nat.not_le.mpr hbl
  refine lv_aload_n hx hb dL_law_897 rfl (lv_at hl 2 rfl) ?_
  refine lv_aload_n hx hb dL_law_898 rfl (lv_at hl 3 rfl) ?_
  refine lv_iload_n hx hb dL_law_899 rfl (lv_at hl 0 rfl) ?_
  refine lv_iconst (v := iI 1) hx hb dL_law_900 rfl ?_
  refine xr_add hx hb dL_law_901 ?_
  refine va_sld hx hb hX9 hbl hbA hS (xvp (t := i + 1) (by omega) (by omega) hn) dL_law_902 ?_
  obtain ⟨p_1, h_2, r_3⟩ : ∃ y : Int, xs (iI (i + 1)).toNatClampNeg = iI y ∧ rg y := ⟨_, iI_of _, rg_of _⟩
  refine jt_i (iI p_1) h_2 ?_
  refine lv_aload_n hx hb dL_law_903 rfl (lv_at hl 3 rfl) ?_
  refine lv_iload_n hx hb dL_law_904 rfl (lv_at hl 0 rfl) ?_
  refine lv_iconst (v := iI 2) hx hb dL_law_905 rfl ?_
  refine xr_add hx hb dL_law_906 ?_
  refine va_sld hx hb hX9 hbl hbA hS (xvp (t := i + 2) (by omega) (by omega) hn) dL_law_907 ?_
  obtain ⟨p_4, h_5, r_6⟩ : ∃ y : Int, xs (iI (i + 2)).toNatClampNeg = iI y ∧ rg y := ⟨_, iI_of _, rg_of _⟩
  refine jt_i (iI p_4) h_5 ?_
  have hPx := jp_tail hP
  have hDx := jd_tail hD
  refine jct_i (va_runV (As := [.int (iI p_1), .int (iI p_4)]) (rest := []) ⟨hx, hb, hml, hown, hts⟩ (sX12_give l dC dI _ L cid K N tW sK sV v z0 p_1 p_4 hI hz r_3 r_6) (cwV 2 hts (jgoodVL m_1510 m_1511 m_1512 m_873 m_1513) rfl rfl rfl (by decide +kernel) ⟨(Nat.le_of_ble_eq_true rfl), (Nat.le_of_ble_eq_true rfl)⟩) ⟨xP_blind, xrecv hKx hPx hz rfl rfl, fun U hU hW => ⟨rfl, xP_of hU hW hPx hKx hDx hXx hS (fun _ h => h) hA⟩⟩ rfl rfl hl.1 rfl (lv_room (Nat.le_of_ble_eq_true rfl)) dL_law_908 ⟨(show nc + 0 ≤ 600000 by omega), (show ns + 0 ≤ 7302250 by omega)⟩) hP hD hS hA (fun r v_10 H locs w_8 hP hKx hD hS => ?_)
  obtain ⟨x_7, rfl, I_11, f_12, f_9⟩ := w_8
  have hP : va_P (dC, dI) vwCl (mG am cm g a ++ xG L cid K N v_10) H := hP
  have hD : va_D (fun q : Nat => s.heap.size ≤ q) (mG am cm g a ++ xG L cid K N v_10) := hD
  have h_13 : v_10 z0 0 = g 30 := (fr_use hz f_12 rfl).trans hnow
  have h_14 : v_10 z0 11 = g 50 := (fr_use hz f_12 rfl).trans hhands
  have h_16 : ok L K (v z0 19) 10 := xf_12_19 hI hz
  have b_17 : v_10 z0 19 = v z0 19 := fr_use hz f_12 rfl
  have b_18 : v_10 (v z0 19) 1 = v (v z0 19) 1 := fr_use h_16 f_12 rfl
  have h_15 : v_10 (v_10 z0 19) 1 = g 78 := by rw [b_17, b_18]; exact hstolen
  have h_20 : ok L K (v z0 14) 5 := xf_12_14 hI hz
  have b_21 : v_10 z0 14 = v z0 14 := fr_use hz f_12 rfl
  have b_22 : v_10 (v z0 14) 5 = v (v z0 14) 5 := fr_use h_20 f_12 rfl
  have h_19 : v_10 (v_10 z0 14) 5 = g 66 := by rw [b_21, b_22]; exact htold
  have h_24 : ok L K (v z0 2) 7 := xf_12_2 hI hz
  have b_25 : v_10 z0 2 = v z0 2 := fr_use hz f_12 rfl
  have b_26 : v_10 (v z0 2) 1 = v (v z0 2) 1 := fr_use h_24 f_12 rfl
  have h_23 : v_10 (v_10 z0 2) 1 = g 1 := by rw [b_25, b_26]; exact hsize
  have h_28 : ok L K (v z0 3) 8 := xf_12_3 hI hz
  have b_29 : v_10 z0 3 = v z0 3 := fr_use hz f_12 rfl
  have b_30 : v_10 (v z0 3) 1 = v (v z0 3) 1 := fr_use h_28 f_12 rfl
  have h_27 : v_10 (v_10 z0 3) 1 = g 18 := by rw [b_29, b_30]; exact hsheets
  have h_31 : rSub v_10 z0 a := rSub_x hI hz (frE_of f_12) rfl (fun _ => rfl) hsub
  have h_32 : rHand v_10 z0 g a := rHand_x hI hz (frE_of f_12) rfl (fun _ => rfl) rfl hhd
  have h_33 : rNews v_10 z0 g a := rNews_x hI hz (frE_of f_12) rfl (fun _ => rfl) (fun _ => rfl) (fun _ => rfl) (fun _ => rfl) (fun _ => rfl) rfl rfl rfl rfl rfl hnw
  have h_34 : rTxt v_10 z0 g a := rTxt_x hI hz (frE_of f_12) rfl rfl rfl (fun _ => rfl) htx
  refine lv_pop hx hb dL_law_911 rfl ?_
  refine lv_aload_n hx hb dL_law_912 rfl (lv_at hl 1 rfl) ?_
  refine lv_aload_n hx hb dL_law_913 rfl (lv_at hl 3 rfl) ?_
  refine lv_iload_n hx hb dL_law_914 rfl (lv_at hl 0 rfl) ?_
  refine lv_iconst (v := iI 1) hx hb dL_law_915 rfl ?_
  refine xr_add hx hb dL_law_916 ?_
  refine va_sld hx hb hX9 hbl hbA hS (xvp (t := i + 1) (by omega) (by omega) hn) dL_law_917 ?_
  refine jt_i (iI p_1) h_2 ?_
  refine lv_aload_n hx hb dL_law_918 rfl (lv_at hl 3 rfl) ?_
  refine lv_iload_n hx hb dL_law_919 rfl (lv_at hl 0 rfl) ?_
  refine lv_iconst (v := iI 2) hx hb dL_law_920 rfl ?_
  refine xr_add hx hb dL_law_921 ?_
  refine va_sld hx hb hX9 hbl hbA hS (xvp (t := i + 2) (by omega) (by omega) hn) dL_law_922 ?_
  refine jt_i (iI p_4) h_5 ?_
  obtain ⟨hP, hD⟩ := lsw hP hD
  have hPm := jp_tail hP
  have hDm := jd_tail hD
  refine jct_i (va_runV (As := [.int (iI p_1), .int (iI p_4)]) (rest := []) ⟨hx, hb, hml, hown, hts⟩ (sX13_give l dC dI _ am cm g a p_1 p_4 hM r_3 r_6 hrSh) (cwV 2 hts (jgoodVL m_1514 m_346 m_347 m_503 m_138) rfl rfl rfl (by decide +kernel) ⟨(Nat.le_of_ble_eq_true rfl), (Nat.le_of_ble_eq_true rfl)⟩) ⟨jw_blind, va_recv hKm hPm (ci := 13) (q0 := 0) rfl rfl, fun U hU hW => ⟨rfl, jw_of hU hW hPm hKm hDm⟩⟩ rfl rfl hl.1 rfl (lv_room (Nat.le_of_ble_eq_true rfl)) dL_law_923 ⟨(show nc + 0 ≤ 600000 by omega), (show ns + 0 ≤ 7302250 by omega)⟩) hP hD hS hA (fun r u_37 H locs w_36 hP hKm hD hS => ?_)
  obtain ⟨g_38, a_39⟩ := u_37
  obtain ⟨y_35, rfl, h_40, h_41, h_42, h_43⟩ := w_36
  have hP : va_P (dC, dI) vwCl (xG L cid K N v_10 ++ mG am cm g_38 a_39) H := hP
  have hD : va_D (fun q : Nat => s.heap.size ≤ q) (xG L cid K N v_10 ++ mG am cm g_38 a_39) := hD
  have h_40 : g_38 = g := h_40
  have h_41 : mI g_38 a_39 := h_41
  have h_44 : rLine g_38 a_39 := rLine_t (congrFun h_40 56) (h_42 45 (by decide)) hrLine
  have h_45 : rLead g_38 a_39 := rLead_t (congrFun h_40 37) (h_42 27 (by decide)) (h_42 31 (by decide)) hrLead
  have h_46 : rSkill g_38 a_39 := rSkill_t (congrFun h_40 50) (h_42 38 (by decide)) hrSkill
  have h_47 : rSh g_38 a_39 := rSh_t (congrFun h_40 18) (congrFun h_40 26) (h_42 9 (by decide)) (h_42 10 (by decide)) (h_42 11 (by decide)) (h_42 12 (by decide)) (h_42 16 (by decide)) hrSh
  have h_48 : v_10 z0 0 = g_38 30 := h_13.trans (congrFun h_40 30).symm
  have h_49 : v_10 z0 11 = g_38 50 := h_14.trans (congrFun h_40 50).symm
  have h_50 : v_10 (v_10 z0 19) 1 = g_38 78 := h_15.trans (congrFun h_40 78).symm
  have h_51 : v_10 (v_10 z0 14) 5 = g_38 66 := h_19.trans (congrFun h_40 66).symm
  have h_52 : v_10 (v_10 z0 2) 1 = g_38 1 := h_23.trans (congrFun h_40 1).symm
  have h_53 : v_10 (v_10 z0 3) 1 = g_38 18 := h_27.trans (congrFun h_40 18).symm
  have h_54 : rSub v_10 z0 a_39 := rSub_m (h_42 60 (by decide)) h_31
  have h_55 : rHand v_10 z0 g_38 a_39 := rHand_m (congrFun h_40 50) (h_42 41 (by decide)) h_32
  have h_56 : rNews v_10 z0 g_38 a_39 := rNews_m (congrFun h_40 66) (h_42 51 (by decide)) (h_42 52 (by decide)) (h_42 53 (by decide)) (h_42 54 (by decide)) h_33
  have h_57 : rTxt v_10 z0 g_38 a_39 := rTxt_m (congrFun h_40 1) (h_42 1 (by decide)) h_34
  obtain ⟨hP, hD⟩ := lsw hP hD
  refine lv_pop hx hb dL_law_926 rfl ?_
  refine lv_goto (tgt := 1804) hx hb dL_law_927 (by decide) ?_
  exact kk L K N v_10 g_38 a_39 _ _ H locs hz I_11 h_41 h_44 h_45 h_46 h_47 h_48 h_49 h_50 h_51 h_52 h_53 h_54 h_55 h_56 h_57 (by omega) (by omega) hP hD hS
