set_option maxHeartbeats 8000000 in
set_option maxRecDepth 100000 in
theorem law_loop {p : Program} {l : Launch} {e : Env} {s : State} {m : MethodId} {below : List Frame} {meth : Method} {c : Code} {b n : Nat} {xs : Nat → Int32} (C0 : lw_At p s m meth c b n xs) (hn : n ≤ 3072) {dC : Nat → ClassId} {dI : Nat → Nat → Nat} {am : Nat → Nat} {cm cid : Nat → ClassId} {tW : Nat} {sK sV : Nat → Nat} (hXx : xX tW sK sV (fun q : Nat => s.heap.size ≤ q) s s.heap) (hKx : va_K (dC, dI) vwCl (xT cid) s) (hKm : va_K (dC, dI) vwCl (mT cm) s) {z0 : Int} : ∀ (r : Nat) (i : Int) (L : List Nat) (K : Int → Nat) (N : Int → Int) (v : Int → Int → Int) (g : Nat → Int) (a : Nat → Int → Int) (nc ns : Nat) (H : Heap) (locs : List Loc) (ls : Array Slot), 0 ≤ i → i ≤ n → (n : Int) ≤ i + 6 * r + 5 → nc + 5 * r ≤ 600000 → ns + 12100 * r ≤ 7302250 → ok L K z0 12 → xI L K N v → mI g a → rLine g a → rLead g a → rSkill g a → rSh g a → v z0 0 = g 30 → v z0 11 = g 50 → v (v z0 19) 1 = g 78 → v (v z0 14) 5 = g 66 → v (v z0 2) 1 = g 1 → v (v z0 3) 1 = g 18 → rSub v z0 a → rHand v z0 g a → rNews v z0 g a → rTxt v z0 g a → va_P (dC, dI) vwCl (mG am cm g a ++ xG L cid K N v) H → va_D (fun q : Nat => s.heap.size ≤ q) (mG am cm g a ++ xG L cid K N v) → va_S (fun q : Nat => s.heap.size ≤ q) s.heap H locs → lv_has ls 4 [(3, .int (iI i)), (2, .ref (am 0)), (1, .ref z0.toNat), (0, .ref b)] → W p l e room_1 s m #[Value.ref b] below meth c H locs nc ns (lw_Z below #[Value.ref b] s) (F0 m 18 ls []) := by
  obtain ⟨hx, hb, hr, hml, hown, hts, hX9, hbl, hlocks, hgv⟩ := id C0
  have hA : ∀ q : Nat, s.heap.size ≤ q → (fun q : Nat => s.heap.size ≤ q) q := fun _ h => h
  have hbA : ¬ (fun q : Nat => s.heap.size ≤ q) b := Nat.not_le.mpr hbl
  intro r
  induction r with
  | zero =>
    intro i L K N v g a nc ns H locs ls h0 h1 h2 h3 h4 hz hI hM hrLine hrLead hrSkill hrSh hnow hhands hstolen htold hsize hsheets hsub hhd hnw htx hP hD hS hl
    refine lv_iload_n hx hb dL_law_18 rfl (lv_at hl 0 rfl) ?_
    refine lv_aload_n hx hb dL_law_19 rfl (lv_at hl 3 rfl) ?_
    refine va_slen hx hb hX9 hbl hbA hS dL_law_20 ?_
    refine jt_i (iI (n : Int)) (nI_iI n) ?_
    refine lv_bipush (v := iI 6) hx hb dL_law_21 rfl ?_
    refine xr_sub hx hb dL_law_23 ?_
    refine xr_icmp_gt (tgt := 1810) hx hb dL_law_24 (by decide) (by omega) (by omega) (fun h => ?_) (fun h => ?_)
    · refine lv_iconst (v := 1) hx hb dL_law_1810 (by decide) ?_
      refine va_forget (fun q hq => hS.2.2 q hq) ?_
      refine W.widen (k := 600000) (n := 7302250) (by omega) (by omega) ?_
      exact lw_ret hx hb hr hlocks dL_law_1811
    · exact absurd h2 (by omega)
  | succ r ih =>
    intro i L K N v g a nc ns H locs ls h0 h1 h2 h3 h4 hz hI hM hrLine hrLead hrSkill hrSh hnow hhands hstolen htold hsize hsheets hsub hhd hnw htx hP hD hS hl
    refine lv_iload_n hx hb dL_law_18 rfl (lv_at hl 0 rfl) ?_
    refine lv_aload_n hx hb dL_law_19 rfl (lv_at hl 3 rfl) ?_
    refine va_slen hx hb hX9 hbl hbA hS dL_law_20 ?_
    refine jt_i (iI (n : Int)) (nI_iI n) ?_
    refine lv_bipush (v := iI 6) hx hb dL_law_21 rfl ?_
    refine xr_sub hx hb dL_law_23 ?_
    refine xr_icmp_gt (tgt := 1810) hx hb dL_law_24 (by decide) (by omega) (by omega) (fun h => ?_) (fun h => ?_)
    · refine lv_iconst (v := 1) hx hb dL_law_1810 (by decide) ?_
      refine va_forget (fun q hq => hS.2.2 q hq) ?_
      refine W.widen (k := 600000) (n := 7302250) (by omega) (by omega) ?_
      exact lw_ret hx hb hr hlocks dL_law_1811
    · have nxt : ∀ (L : List Nat) (K : Int → Nat) (N : Int → Int) (v : Int → Int → Int) (g : Nat → Int) (a : Nat → Int → Int) (nc1 ns1 : Nat) (H : Heap) (locs : List Loc), ok L K z0 12 → xI L K N v → mI g a → rLine g a → rLead g a → rSkill g a → rSh g a → v z0 0 = g 30 → v z0 11 = g 50 → v (v z0 19) 1 = g 78 → v (v z0 14) 5 = g 66 → v (v z0 2) 1 = g 1 → v (v z0 3) 1 = g 18 → rSub v z0 a → rHand v z0 g a → rNews v z0 g a → rTxt v z0 g a → nc1 ≤ nc + 5 → ns1 ≤ ns + 12100 → va_P (dC, dI) vwCl (mG am cm g a ++ xG L cid K N v) H → va_D (fun q : Nat => s.heap.size ≤ q) (mG am cm g a ++ xG L cid K N v) → va_S (fun q : Nat => s.heap.size ≤ q) s.heap H locs → W p l e room_1 s m #[Value.ref b] below meth c H locs nc1 ns1 (lw_Z below #[Value.ref b] s) (F0 m 1804 ls []) := by
        intro L K N v g a nc1 ns1 H locs hz hI hM hrLine hrLead hrSkill hrSh hnow hhands hstolen htold hsize hsheets hsub hhd hnw htx c1 c2 hP hD hS
        refine lv_iinc (v := iI (i + 6)) (lv' := [(3, .int (iI (i + 6))), (2, .ref (am 0)), (1, .ref z0.toNat), (0, .ref b)]) hx hb dL_law_1804 hl (k := 0) rfl (iI_add _ _) (by decide) rfl (fun ls hl => ?_)
        refine lv_goto (tgt := 18) hx hb dL_law_1807 (by decide) ?_
        exact ih (i + 6) L K N v g a nc1 ns1 H locs ls (by omega) (by omega) (by omega) (by omega) (by omega) hz hI hM hrLine hrLead hrSkill hrSh hnow hhands hstolen htold hsize hsheets hsub hhd hnw htx hP hD hS hl
      refine lv_aload_n hx hb dL_law_27 rfl (lv_at hl 3 rfl) ?_
      refine lv_iload_n hx hb dL_law_28 rfl (lv_at hl 0 rfl) ?_
      refine va_sld hx hb hX9 hbl hbA hS (xvp (t := i) (by omega) (by omega) hn) dL_law_29 ?_
      refine jt_i (iI _) (iI_of _) ?_
      refine lv_bipush (v := iI 63) hx hb dL_law_30 rfl ?_
      refine xr_andR hx hb (by omega) (by omega) dL_law_32 (fun j hj => ?_)
      rcases (show (j < 0 ∨ 47 < j) ∨ j = 0 ∨ j = 1 ∨ j = 2 ∨ j = 3 ∨ j = 4 ∨ j = 5 ∨ j = 6 ∨ j = 7 ∨ j = 8 ∨ j = 9 ∨ j = 10 ∨ j = 11 ∨ j = 12 ∨ j = 13 ∨ j = 14 ∨ j = 15 ∨ j = 16 ∨ j = 17 ∨ j = 18 ∨ j = 19 ∨ j = 20 ∨ j = 21 ∨ j = 22 ∨ j = 23 ∨ j = 24 ∨ j = 25 ∨ j = 26 ∨ j = 27 ∨ j = 28 ∨ j = 29 ∨ j = 30 ∨ j = 31 ∨ j = 32 ∨ j = 33 ∨ j = 34 ∨ j = 35 ∨ j = 36 ∨ j = 37 ∨ j = 38 ∨ j = 39 ∨ j = 40 ∨ j = 41 ∨ j = 42 ∨ j = 43 ∨ j = 44 ∨ j = 45 ∨ j = 46 ∨ j = 47 by omega) with q | q | q | q | q | q | q | q | q | q | q | q | q | q | q | q | q | q | q | q | q | q | q | q | q | q | q | q | q | q | q | q | q | q | q | q | q | q | q | q | q | q | q | q | q | q | q | q | q
      · refine lv_tableOut (tgt := 1804) hx hb dL_law_33 (by rw [iI_toInt (by omega)]; omega) (by decide) ?_
        exact nxt L K N v g a nc ns H locs hz hI hM hrLine hrLead hrSkill hrSh hnow hhands hstolen htold hsize hsheets hsub hhd hnw htx (by omega) (by omega) hP hD hS
      · refine jtab_in (v := iI 0) (off := 207) (tgt := 240) hx hb dL_law_33 (by rw [q]) (by decide) (by decide) (by decide) (by decide) ?_
        exact lc_0 C0 hn hXx hKx hKm h0 (by omega) hz hI hM hrLine hrLead hrSkill hrSh hnow hhands hstolen htold hsize hsheets hsub hhd hnw htx (by omega) (by omega) hP hD hS hl nxt
      · refine jtab_in (v := iI 1) (off := 270) (tgt := 303) hx hb dL_law_33 (by rw [q]) (by decide) (by decide) (by decide) (by decide) ?_
        exact lc_1 C0 hn hXx hKx hKm h0 (by omega) hz hI hM hrLine hrLead hrSkill hrSh hnow hhands hstolen htold hsize hsheets hsub hhd hnw htx (by omega) (by omega) hP hD hS hl nxt
      · refine jtab_in (v := iI 2) (off := 293) (tgt := 326) hx hb dL_law_33 (by rw [q]) (by decide) (by decide) (by decide) (by decide) ?_
        exact lc_2 C0 hn hXx hKx hKm h0 (by omega) hz hI hM hrLine hrLead hrSkill hrSh hnow hhands hstolen htold hsize hsheets hsub hhd hnw htx (by omega) (by omega) hP hD hS hl nxt
      · refine jtab_in (v := iI 3) (off := 306) (tgt := 339) hx hb dL_law_33 (by rw [q]) (by decide) (by decide) (by decide) (by decide) ?_
        exact lc_3 C0 hn hXx hKx hKm h0 (by omega) hz hI hM hrLine hrLead hrSkill hrSh hnow hhands hstolen htold hsize hsheets hsub hhd hnw htx (by omega) (by omega) hP hD hS hl nxt
      · refine jtab_in (v := iI 4) (off := 319) (tgt := 352) hx hb dL_law_33 (by rw [q]) (by decide) (by decide) (by decide) (by decide) ?_
        exact lc_4 C0 hn hXx hKx hKm h0 (by omega) hz hI hM hrLine hrLead hrSkill hrSh hnow hhands hstolen htold hsize hsheets hsub hhd hnw htx (by omega) (by omega) hP hD hS hl nxt
      · refine jtab_in (v := iI 5) (off := 352) (tgt := 385) hx hb dL_law_33 (by rw [q]) (by decide) (by decide) (by decide) (by decide) ?_
        exact lc_5 C0 hn hXx hKx hKm h0 (by omega) hz hI hM hrLine hrLead hrSkill hrSh hnow hhands hstolen htold hsize hsheets hsub hhd hnw htx (by omega) (by omega) hP hD hS hl nxt
      · refine jtab_in (v := iI 6) (off := 395) (tgt := 428) hx hb dL_law_33 (by rw [q]) (by decide) (by decide) (by decide) (by decide) ?_
        exact lc_6 C0 hn hXx hKx hKm h0 (by omega) hz hI hM hrLine hrLead hrSkill hrSh hnow hhands hstolen htold hsize hsheets hsub hhd hnw htx (by omega) (by omega) hP hD hS hl nxt
      · refine jtab_in (v := iI 7) (off := 418) (tgt := 451) hx hb dL_law_33 (by rw [q]) (by decide) (by decide) (by decide) (by decide) ?_
        exact lc_7 C0 hn hXx hKx hKm h0 (by omega) hz hI hM hrLine hrLead hrSkill hrSh hnow hhands hstolen htold hsize hsheets hsub hhd hnw htx (by omega) (by omega) hP hD hS hl nxt
      · refine jtab_in (v := iI 8) (off := 451) (tgt := 484) hx hb dL_law_33 (by rw [q]) (by decide) (by decide) (by decide) (by decide) ?_
        exact lc_8 C0 hn hXx hKx hKm h0 (by omega) hz hI hM hrLine hrLead hrSkill hrSh hnow hhands hstolen htold hsize hsheets hsub hhd hnw htx (by omega) (by omega) hP hD hS hl nxt
      · refine jtab_in (v := iI 9) (off := 504) (tgt := 537) hx hb dL_law_33 (by rw [q]) (by decide) (by decide) (by decide) (by decide) ?_
        exact lc_9 C0 hn hXx hKx hKm h0 (by omega) hz hI hM hrLine hrLead hrSkill hrSh hnow hhands hstolen htold hsize hsheets hsub hhd hnw htx (by omega) (by omega) hP hD hS hl nxt
      · refine jtab_in (v := iI 10) (off := 557) (tgt := 590) hx hb dL_law_33 (by rw [q]) (by decide) (by decide) (by decide) (by decide) ?_
        exact lc_10 C0 hn hXx hKx hKm h0 (by omega) hz hI hM hrLine hrLead hrSkill hrSh hnow hhands hstolen htold hsize hsheets hsub hhd hnw htx (by omega) (by omega) hP hD hS hl nxt
      · refine jtab_in (v := iI 11) (off := 620) (tgt := 653) hx hb dL_law_33 (by rw [q]) (by decide) (by decide) (by decide) (by decide) ?_
        exact lc_11 C0 hn hXx hKx hKm h0 (by omega) hz hI hM hrLine hrLead hrSkill hrSh hnow hhands hstolen htold hsize hsheets hsub hhd hnw htx (by omega) (by omega) hP hD hS hl nxt
      · refine jtab_in (v := iI 12) (off := 653) (tgt := 686) hx hb dL_law_33 (by rw [q]) (by decide) (by decide) (by decide) (by decide) ?_
        exact lc_12 C0 hn hXx hKx hKm h0 (by omega) hz hI hM hrLine hrLead hrSkill hrSh hnow hhands hstolen htold hsize hsheets hsub hhd hnw htx (by omega) (by omega) hP hD hS hl nxt
      · refine jtab_in (v := iI 13) (off := 676) (tgt := 709) hx hb dL_law_33 (by rw [q]) (by decide) (by decide) (by decide) (by decide) ?_
        exact lc_13 C0 hn hXx hKx hKm h0 (by omega) hz hI hM hrLine hrLead hrSkill hrSh hnow hhands hstolen htold hsize hsheets hsub hhd hnw htx (by omega) (by omega) hP hD hS hl nxt
      · refine jtab_in (v := iI 14) (off := 699) (tgt := 732) hx hb dL_law_33 (by rw [q]) (by decide) (by decide) (by decide) (by decide) ?_
        exact lc_14 C0 hn hXx hKx hKm h0 (by omega) hz hI hM hrLine hrLead hrSkill hrSh hnow hhands hstolen htold hsize hsheets hsub hhd hnw htx (by omega) (by omega) hP hD hS hl nxt
      · refine jtab_in (v := iI 15) (off := 722) (tgt := 755) hx hb dL_law_33 (by rw [q]) (by decide) (by decide) (by decide) (by decide) ?_
        exact lc_15 C0 hn hXx hKx hKm h0 (by omega) hz hI hM hrLine hrLead hrSkill hrSh hnow hhands hstolen htold hsize hsheets hsub hhd hnw htx (by omega) (by omega) hP hD hS hl nxt
      · refine jtab_in (v := iI 16) (off := 755) (tgt := 788) hx hb dL_law_33 (by rw [q]) (by decide) (by decide) (by decide) (by decide) ?_
        exact lc_16 C0 hn hXx hKx hKm h0 (by omega) hz hI hM hrLine hrLead hrSkill hrSh hnow hhands hstolen htold hsize hsheets hsub hhd hnw htx (by omega) (by omega) hP hD hS hl nxt
      · refine jtab_in (v := iI 17) (off := 788) (tgt := 821) hx hb dL_law_33 (by rw [q]) (by decide) (by decide) (by decide) (by decide) ?_
        exact lc_17 C0 hn hXx hKx hKm h0 (by omega) hz hI hM hrLine hrLead hrSkill hrSh hnow hhands hstolen htold hsize hsheets hsub hhd hnw htx (by omega) (by omega) hP hD hS hl nxt
      · refine jtab_in (v := iI 18) (off := 831) (tgt := 864) hx hb dL_law_33 (by rw [q]) (by decide) (by decide) (by decide) (by decide) ?_
        exact lc_18 C0 hn hXx hKx hKm h0 (by omega) hz hI hM hrLine hrLead hrSkill hrSh hnow hhands hstolen htold hsize hsheets hsub hhd hnw htx (by omega) (by omega) hP hD hS hl nxt
      · refine jtab_in (v := iI 19) (off := 864) (tgt := 897) hx hb dL_law_33 (by rw [q]) (by decide) (by decide) (by decide) (by decide) ?_
        exact lc_19 C0 hn hXx hKx hKm h0 (by omega) hz hI hM hrLine hrLead hrSkill hrSh hnow hhands hstolen htold hsize hsheets hsub hhd hnw htx (by omega) (by omega) hP hD hS hl nxt
      · refine jtab_in (v := iI 20) (off := 897) (tgt := 930) hx hb dL_law_33 (by rw [q]) (by decide) (by decide) (by decide) (by decide) ?_
        exact lc_20 C0 hn hXx hKx hKm h0 (by omega) hz hI hM hrLine hrLead hrSkill hrSh hnow hhands hstolen htold hsize hsheets hsub hhd hnw htx (by omega) (by omega) hP hD hS hl nxt
      · refine jtab_in (v := iI 21) (off := 940) (tgt := 973) hx hb dL_law_33 (by rw [q]) (by decide) (by decide) (by decide) (by decide) ?_
        exact lc_21 C0 hn hXx hKx hKm h0 (by omega) hz hI hM hrLine hrLead hrSkill hrSh hnow hhands hstolen htold hsize hsheets hsub hhd hnw htx (by omega) (by omega) hP hD hS hl nxt
      · refine jtab_in (v := iI 22) (off := 963) (tgt := 996) hx hb dL_law_33 (by rw [q]) (by decide) (by decide) (by decide) (by decide) ?_
        exact lc_22 C0 hn hXx hKx hKm h0 (by omega) hz hI hM hrLine hrLead hrSkill hrSh hnow hhands hstolen htold hsize hsheets hsub hhd hnw htx (by omega) (by omega) hP hD hS hl nxt
      · refine jtab_in (v := iI 23) (off := 986) (tgt := 1019) hx hb dL_law_33 (by rw [q]) (by decide) (by decide) (by decide) (by decide) ?_
        exact lc_23 C0 hn hXx hKx hKm h0 (by omega) hz hI hM hrLine hrLead hrSkill hrSh hnow hhands hstolen htold hsize hsheets hsub hhd hnw htx (by omega) (by omega) hP hD hS hl nxt
      · refine jtab_in (v := iI 24) (off := 1029) (tgt := 1062) hx hb dL_law_33 (by rw [q]) (by decide) (by decide) (by decide) (by decide) ?_
        exact lc_24 C0 hn hXx hKx hKm h0 (by omega) hz hI hM hrLine hrLead hrSkill hrSh hnow hhands hstolen htold hsize hsheets hsub hhd hnw htx (by omega) (by omega) hP hD hS hl nxt
      · refine jtab_in (v := iI 25) (off := 1072) (tgt := 1105) hx hb dL_law_33 (by rw [q]) (by decide) (by decide) (by decide) (by decide) ?_
        exact lc_25 C0 hn hXx hKx hKm h0 (by omega) hz hI hM hrLine hrLead hrSkill hrSh hnow hhands hstolen htold hsize hsheets hsub hhd hnw htx (by omega) (by omega) hP hD hS hl nxt
      · refine jtab_in (v := iI 26) (off := 1105) (tgt := 1138) hx hb dL_law_33 (by rw [q]) (by decide) (by decide) (by decide) (by decide) ?_
        exact lc_26 C0 hn hXx hKx hKm h0 (by omega) hz hI hM hrLine hrLead hrSkill hrSh hnow hhands hstolen htold hsize hsheets hsub hhd hnw htx (by omega) (by omega) hP hD hS hl nxt
      · refine jtab_in (v := iI 27) (off := 1128) (tgt := 1161) hx hb dL_law_33 (by rw [q]) (by decide) (by decide) (by decide) (by decide) ?_
        exact lc_27 C0 hn hXx hKx hKm h0 (by omega) hz hI hM hrLine hrLead hrSkill hrSh hnow hhands hstolen htold hsize hsheets hsub hhd hnw htx (by omega) (by omega) hP hD hS hl nxt
      · refine jtab_in (v := iI 28) (off := 1151) (tgt := 1184) hx hb dL_law_33 (by rw [q]) (by decide) (by decide) (by decide) (by decide) ?_
        exact lc_28 C0 hn hXx hKx hKm h0 (by omega) hz hI hM hrLine hrLead hrSkill hrSh hnow hhands hstolen htold hsize hsheets hsub hhd hnw htx (by omega) (by omega) hP hD hS hl nxt
      · refine jtab_in (v := iI 29) (off := 1194) (tgt := 1227) hx hb dL_law_33 (by rw [q]) (by decide) (by decide) (by decide) (by decide) ?_
        exact lc_29 C0 hn hXx hKx hKm h0 (by omega) hz hI hM hrLine hrLead hrSkill hrSh hnow hhands hstolen htold hsize hsheets hsub hhd hnw htx (by omega) (by omega) hP hD hS hl nxt
      · refine jtab_in (v := iI 30) (off := 1217) (tgt := 1250) hx hb dL_law_33 (by rw [q]) (by decide) (by decide) (by decide) (by decide) ?_
        exact lc_30 C0 hn hXx hKx hKm h0 (by omega) hz hI hM hrLine hrLead hrSkill hrSh hnow hhands hstolen htold hsize hsheets hsub hhd hnw htx (by omega) (by omega) hP hD hS hl nxt
      · refine jtab_in (v := iI 31) (off := 1250) (tgt := 1283) hx hb dL_law_33 (by rw [q]) (by decide) (by decide) (by decide) (by decide) ?_
        exact lc_31 C0 hn hXx hKx hKm h0 (by omega) hz hI hM hrLine hrLead hrSkill hrSh hnow hhands hstolen htold hsize hsheets hsub hhd hnw htx (by omega) (by omega) hP hD hS hl nxt
      · refine jtab_in (v := iI 32) (off := 1273) (tgt := 1306) hx hb dL_law_33 (by rw [q]) (by decide) (by decide) (by decide) (by decide) ?_
        exact lc_32 C0 hn hXx hKx hKm h0 (by omega) hz hI hM hrLine hrLead hrSkill hrSh hnow hhands hstolen htold hsize hsheets hsub hhd hnw htx (by omega) (by omega) hP hD hS hl nxt
      · refine jtab_in (v := iI 33) (off := 1296) (tgt := 1329) hx hb dL_law_33 (by rw [q]) (by decide) (by decide) (by decide) (by decide) ?_
        exact lc_33 C0 hn hXx hKx hKm h0 (by omega) hz hI hM hrLine hrLead hrSkill hrSh hnow hhands hstolen htold hsize hsheets hsub hhd hnw htx (by omega) (by omega) hP hD hS hl nxt
      · refine jtab_in (v := iI 34) (off := 1319) (tgt := 1352) hx hb dL_law_33 (by rw [q]) (by decide) (by decide) (by decide) (by decide) ?_
        exact lc_34 C0 hn hXx hKx hKm h0 (by omega) hz hI hM hrLine hrLead hrSkill hrSh hnow hhands hstolen htold hsize hsheets hsub hhd hnw htx (by omega) (by omega) hP hD hS hl nxt
      · refine jtab_in (v := iI 35) (off := 1342) (tgt := 1375) hx hb dL_law_33 (by rw [q]) (by decide) (by decide) (by decide) (by decide) ?_
        exact lc_35 C0 hn hXx hKx hKm h0 (by omega) hz hI hM hrLine hrLead hrSkill hrSh hnow hhands hstolen htold hsize hsheets hsub hhd hnw htx (by omega) (by omega) hP hD hS hl nxt
      · refine jtab_in (v := iI 36) (off := 1365) (tgt := 1398) hx hb dL_law_33 (by rw [q]) (by decide) (by decide) (by decide) (by decide) ?_
        exact lc_36 C0 hn hXx hKx hKm h0 (by omega) hz hI hM hrLine hrLead hrSkill hrSh hnow hhands hstolen htold hsize hsheets hsub hhd hnw htx (by omega) (by omega) hP hD hS hl nxt
      · refine jtab_in (v := iI 37) (off := 1408) (tgt := 1441) hx hb dL_law_33 (by rw [q]) (by decide) (by decide) (by decide) (by decide) ?_
        exact lc_37 C0 hn hXx hKx hKm h0 (by omega) hz hI hM hrLine hrLead hrSkill hrSh hnow hhands hstolen htold hsize hsheets hsub hhd hnw htx (by omega) (by omega) hP hD hS hl nxt
      · refine jtab_in (v := iI 38) (off := 1441) (tgt := 1474) hx hb dL_law_33 (by rw [q]) (by decide) (by decide) (by decide) (by decide) ?_
        exact lc_38 C0 hn hXx hKx hKm h0 (by omega) hz hI hM hrLine hrLead hrSkill hrSh hnow hhands hstolen htold hsize hsheets hsub hhd hnw htx (by omega) (by omega) hP hD hS hl nxt
      · refine jtab_in (v := iI 39) (off := 1474) (tgt := 1507) hx hb dL_law_33 (by rw [q]) (by decide) (by decide) (by decide) (by decide) ?_
        exact lc_39 C0 hn hXx hKx hKm h0 (by omega) hz hI hM hrLine hrLead hrSkill hrSh hnow hhands hstolen htold hsize hsheets hsub hhd hnw htx (by omega) (by omega) hP hD hS hl nxt
      · refine jtab_in (v := iI 40) (off := 1507) (tgt := 1540) hx hb dL_law_33 (by rw [q]) (by decide) (by decide) (by decide) (by decide) ?_
        exact lc_40 C0 hn hXx hKx hKm h0 (by omega) hz hI hM hrLine hrLead hrSkill hrSh hnow hhands hstolen htold hsize hsheets hsub hhd hnw htx (by omega) (by omega) hP hD hS hl nxt
      · refine jtab_in (v := iI 41) (off := 1550) (tgt := 1583) hx hb dL_law_33 (by rw [q]) (by decide) (by decide) (by decide) (by decide) ?_
        exact lc_41 C0 hn hXx hKx hKm h0 (by omega) hz hI hM hrLine hrLead hrSkill hrSh hnow hhands hstolen htold hsize hsheets hsub hhd hnw htx (by omega) (by omega) hP hD hS hl nxt
      · refine jtab_in (v := iI 42) (off := 1603) (tgt := 1636) hx hb dL_law_33 (by rw [q]) (by decide) (by decide) (by decide) (by decide) ?_
        exact lc_42 C0 hn hXx hKx hKm h0 (by omega) hz hI hM hrLine hrLead hrSkill hrSh hnow hhands hstolen htold hsize hsheets hsub hhd hnw htx (by omega) (by omega) hP hD hS hl nxt
      · refine jtab_in (v := iI 43) (off := 1646) (tgt := 1679) hx hb dL_law_33 (by rw [q]) (by decide) (by decide) (by decide) (by decide) ?_
        exact lc_43 C0 hn hXx hKx hKm h0 (by omega) hz hI hM hrLine hrLead hrSkill hrSh hnow hhands hstolen htold hsize hsheets hsub hhd hnw htx (by omega) (by omega) hP hD hS hl nxt
      · refine jtab_in (v := iI 44) (off := 1669) (tgt := 1702) hx hb dL_law_33 (by rw [q]) (by decide) (by decide) (by decide) (by decide) ?_
        exact lc_44 C0 hn hXx hKx hKm h0 (by omega) hz hI hM hrLine hrLead hrSkill hrSh hnow hhands hstolen htold hsize hsheets hsub hhd hnw htx (by omega) (by omega) hP hD hS hl nxt
      · refine jtab_in (v := iI 45) (off := 1682) (tgt := 1715) hx hb dL_law_33 (by rw [q]) (by decide) (by decide) (by decide) (by decide) ?_
        exact lc_45 C0 hn hXx hKx hKm h0 (by omega) hz hI hM hrLine hrLead hrSkill hrSh hnow hhands hstolen htold hsize hsheets hsub hhd hnw htx (by omega) (by omega) hP hD hS hl nxt
      · refine jtab_in (v := iI 46) (off := 1715) (tgt := 1748) hx hb dL_law_33 (by rw [q]) (by decide) (by decide) (by decide) (by decide) ?_
        exact lc_46 C0 hn hXx hKx hKm h0 (by omega) hz hI hM hrLine hrLead hrSkill hrSh hnow hhands hstolen htold hsize hsheets hsub hhd hnw htx (by omega) (by omega) hP hD hS hl nxt
      · refine jtab_in (v := iI 47) (off := 1748) (tgt := 1781) hx hb dL_law_33 (by rw [q]) (by decide) (by decide) (by decide) (by decide) ?_
        exact lc_47 C0 hn hXx hKx hKm h0 (by omega) hz hI hM hrLine hrLead hrSkill hrSh hnow hhands hstolen htold hsize hsheets hsub hhd hnw htx (by omega) (by omega) hP hD hS hl nxt
