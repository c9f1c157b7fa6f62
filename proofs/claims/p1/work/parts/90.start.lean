set_option maxHeartbeats 4000000 in
set_option maxRecDepth 100000 in
theorem law_head {p : Program} {l : Launch} {e : Env} {s : State} {m : MethodId} {below : List Frame} {meth : Method} {c : Code} {b L : Nat} {xs : Nat → Int32} (hL : L ≤ 6) (C0 : lw_At p s m meth c b L xs) {dC : Nat → ClassId} {dI : Nat → Nat → Nat} {ax am : Nat → Nat} {ca cm : Nat → ClassId} {tW : Nat} (hE : jE s) (hZ : va_Z "BookOfAll$Rules" "WITHOUT" "[I" (.ref tW) (fun q : Nat => s.heap.size ≤ q) s s.heap) (hT : va_T .int tW 14 (fun k => .int (jz_f k)) (fun q : Nat => s.heap.size ≤ q) s s.heap) (hK : va_K (dC, dI) vwCl (xT ca ++ mT cm) s) {H : Heap} {locs : List Loc} {ls : Array Slot} (hP : va_P (dC, dI) vwCl (xW ax ca ++ mW am cm) H) (hD : va_D (fun q : Nat => s.heap.size ≤ q) (xW ax ca ++ mW am cm)) (hS : va_S (fun q : Nat => s.heap.size ≤ q) s.heap H locs) (hl : lv_has ls 4 [(3, .int 0), (2, .ref (am 0)), (1, .ref (ax 0)), (0, .ref b)]) : W p l e room_1 s m #[Value.ref b] below meth c H locs 152 53404 (lw_Z below #[Value.ref b] s) (F0 m 18 ls []) := by
  rcases (show L = 0 ∨ L = 1 ∨ L = 2 ∨ L = 3 ∨ L = 4 ∨ L = 5 ∨ L = 6 by omega) with rfl | rfl | rfl | rfl | rfl | rfl | rfl
  · obtain ⟨hx, hb, hr, hml, hown, hts, hX, hbl, hlocks, hgv⟩ := id C0
    have hA : ∀ q : Nat, s.heap.size ≤ q → (fun q : Nat => s.heap.size ≤ q) q := fun _ h => h
    have hbA : ¬ (fun q : Nat => s.heap.size ≤ q) b := Nat.not_le.mpr hbl
    refine lv_iload_n hx hb dL_law_18 rfl (lv_at hl 0 rfl) ?_
    refine lv_aload_n hx hb dL_law_19 rfl (lv_at hl 3 rfl) ?_
    refine va_slen hx hb hX hbl hbA hS dL_law_20 ?_
    refine lv_bipush (v := 6) hx hb dL_law_21 (by decide) ?_
    refine lv_isub hx hb dL_law_23 ?_
    refine lv_icmp_gt (tgt := 1810) hx hb dL_law_24 (by decide) (fun _ => ?_) (fun z => absurd (by decide) z)
    refine lv_iconst (v := 1) hx hb dL_law_1810 (by decide) ?_
    refine va_forget (fun q hq => hS.2.2 q hq) ?_
    refine W.widen (k := 600000) (n := 7302250) (Nat.le_of_ble_eq_true rfl) (Nat.le_of_ble_eq_true rfl) ?_
    exact lw_ret hx hb hr hlocks dL_law_1811
  · obtain ⟨hx, hb, hr, hml, hown, hts, hX, hbl, hlocks, hgv⟩ := id C0
    have hA : ∀ q : Nat, s.heap.size ≤ q → (fun q : Nat => s.heap.size ≤ q) q := fun _ h => h
    have hbA : ¬ (fun q : Nat => s.heap.size ≤ q) b := Nat.not_le.mpr hbl
    refine lv_iload_n hx hb dL_law_18 rfl (lv_at hl 0 rfl) ?_
    refine lv_aload_n hx hb dL_law_19 rfl (lv_at hl 3 rfl) ?_
    refine va_slen hx hb hX hbl hbA hS dL_law_20 ?_
    refine lv_bipush (v := 6) hx hb dL_law_21 (by decide) ?_
    refine lv_isub hx hb dL_law_23 ?_
    refine lv_icmp_gt (tgt := 1810) hx hb dL_law_24 (by decide) (fun _ => ?_) (fun z => absurd (by decide) z)
    refine lv_iconst (v := 1) hx hb dL_law_1810 (by decide) ?_
    refine va_forget (fun q hq => hS.2.2 q hq) ?_
    refine W.widen (k := 600000) (n := 7302250) (Nat.le_of_ble_eq_true rfl) (Nat.le_of_ble_eq_true rfl) ?_
    exact lw_ret hx hb hr hlocks dL_law_1811
  · obtain ⟨hx, hb, hr, hml, hown, hts, hX, hbl, hlocks, hgv⟩ := id C0
    have hA : ∀ q : Nat, s.heap.size ≤ q → (fun q : Nat => s.heap.size ≤ q) q := fun _ h => h
    have hbA : ¬ (fun q : Nat => s.heap.size ≤ q) b := Nat.not_le.mpr hbl
    refine lv_iload_n hx hb dL_law_18 rfl (lv_at hl 0 rfl) ?_
    refine lv_aload_n hx hb dL_law_19 rfl (lv_at hl 3 rfl) ?_
    refine va_slen hx hb hX hbl hbA hS dL_law_20 ?_
    refine lv_bipush (v := 6) hx hb dL_law_21 (by decide) ?_
    refine lv_isub hx hb dL_law_23 ?_
    refine lv_icmp_gt (tgt := 1810) hx hb dL_law_24 (by decide) (fun _ => ?_) (fun z => absurd (by decide) z)
    refine lv_iconst (v := 1) hx hb dL_law_1810 (by decide) ?_
    refine va_forget (fun q hq => hS.2.2 q hq) ?_
    refine W.widen (k := 600000) (n := 7302250) (Nat.le_of_ble_eq_true rfl) (Nat.le_of_ble_eq_true rfl) ?_
    exact lw_ret hx hb hr hlocks dL_law_1811
  · obtain ⟨hx, hb, hr, hml, hown, hts, hX, hbl, hlocks, hgv⟩ := id C0
    have hA : ∀ q : Nat, s.heap.size ≤ q → (fun q : Nat => s.heap.size ≤ q) q := fun _ h => h
    have hbA : ¬ (fun q : Nat => s.heap.size ≤ q) b := Nat.not_le.mpr hbl
    refine lv_iload_n hx hb dL_law_18 rfl (lv_at hl 0 rfl) ?_
    refine lv_aload_n hx hb dL_law_19 rfl (lv_at hl 3 rfl) ?_
    refine va_slen hx hb hX hbl hbA hS dL_law_20 ?_
    refine lv_bipush (v := 6) hx hb dL_law_21 (by decide) ?_
    refine lv_isub hx hb dL_law_23 ?_
    refine lv_icmp_gt (tgt := 1810) hx hb dL_law_24 (by decide) (fun _ => ?_) (fun z => absurd (by decide) z)
    refine lv_iconst (v := 1) hx hb dL_law_1810 (by decide) ?_
    refine va_forget (fun q hq => hS.2.2 q hq) ?_
    refine W.widen (k := 600000) (n := 7302250) (Nat.le_of_ble_eq_true rfl) (Nat.le_of_ble_eq_true rfl) ?_
    exact lw_ret hx hb hr hlocks dL_law_1811
  · obtain ⟨hx, hb, hr, hml, hown, hts, hX, hbl, hlocks, hgv⟩ := id C0
    have hA : ∀ q : Nat, s.heap.size ≤ q → (fun q : Nat => s.heap.size ≤ q) q := fun _ h => h
    have hbA : ¬ (fun q : Nat => s.heap.size ≤ q) b := Nat.not_le.mpr hbl
    refine lv_iload_n hx hb dL_law_18 rfl (lv_at hl 0 rfl) ?_
    refine lv_aload_n hx hb dL_law_19 rfl (lv_at hl 3 rfl) ?_
    refine va_slen hx hb hX hbl hbA hS dL_law_20 ?_
    refine lv_bipush (v := 6) hx hb dL_law_21 (by decide) ?_
    refine lv_isub hx hb dL_law_23 ?_
    refine lv_icmp_gt (tgt := 1810) hx hb dL_law_24 (by decide) (fun _ => ?_) (fun z => absurd (by decide) z)
    refine lv_iconst (v := 1) hx hb dL_law_1810 (by decide) ?_
    refine va_forget (fun q hq => hS.2.2 q hq) ?_
    refine W.widen (k := 600000) (n := 7302250) (Nat.le_of_ble_eq_true rfl) (Nat.le_of_ble_eq_true rfl) ?_
    exact lw_ret hx hb hr hlocks dL_law_1811
  · obtain ⟨hx, hb, hr, hml, hown, hts, hX, hbl, hlocks, hgv⟩ := id C0
    have hA : ∀ q : Nat, s.heap.size ≤ q → (fun q : Nat => s.heap.size ≤ q) q := fun _ h => h
    have hbA : ¬ (fun q : Nat => s.heap.size ≤ q) b := Nat.not_le.mpr hbl
    refine lv_iload_n hx hb dL_law_18 rfl (lv_at hl 0 rfl) ?_
    refine lv_aload_n hx hb dL_law_19 rfl (lv_at hl 3 rfl) ?_
    refine va_slen hx hb hX hbl hbA hS dL_law_20 ?_
    refine lv_bipush (v := 6) hx hb dL_law_21 (by decide) ?_
    refine lv_isub hx hb dL_law_23 ?_
    refine lv_icmp_gt (tgt := 1810) hx hb dL_law_24 (by decide) (fun _ => ?_) (fun z => absurd (by decide) z)
    refine lv_iconst (v := 1) hx hb dL_law_1810 (by decide) ?_
    refine va_forget (fun q hq => hS.2.2 q hq) ?_
    refine W.widen (k := 600000) (n := 7302250) (Nat.le_of_ble_eq_true rfl) (Nat.le_of_ble_eq_true rfl) ?_
    exact lw_ret hx hb hr hlocks dL_law_1811
  · obtain ⟨hx, hb, hr, hml, hown, hts, hX, hbl, hlocks, hgv⟩ := id C0
    have hA : ∀ q : Nat, s.heap.size ≤ q → (fun q : Nat => s.heap.size ≤ q) q := fun _ h => h
    have hbA : ¬ (fun q : Nat => s.heap.size ≤ q) b := Nat.not_le.mpr hbl
    refine lv_iload_n hx hb dL_law_18 rfl (lv_at hl 0 rfl) ?_
    refine lv_aload_n hx hb dL_law_19 rfl (lv_at hl 3 rfl) ?_
    refine va_slen hx hb hX hbl hbA hS dL_law_20 ?_
    refine lv_bipush (v := 6) hx hb dL_law_21 (by decide) ?_
    refine lv_isub hx hb dL_law_23 ?_
    refine lv_icmp_gt (tgt := 1810) hx hb dL_law_24 (by decide) (fun z => absurd z (by decide)) (fun _ => ?_)
    refine lv_aload_n hx hb dL_law_27 rfl (lv_at hl 3 rfl) ?_
    refine lv_iload_n hx hb dL_law_28 rfl (lv_at hl 0 rfl) ?_
    refine va_sld hx hb hX hbl hbA hS (vp_in_nI (n := 0) (by decide) (by decide)) dL_law_29 ?_
    refine jt_i (xs 0) rfl ?_
    refine lv_bipush (v := 63) hx hb dL_law_30 (by decide) ?_
    refine lv_iand hx hb dL_law_32 ?_
    obtain ⟨j, hj, ej⟩ := pk_andE (xs 0) (m := 63) 6 (by decide)
    refine jt_i (nI j) ej ?_
    rcases (show j = 0 ∨ j = 1 ∨ j = 2 ∨ j = 3 ∨ j = 4 ∨ j = 5 ∨ j = 6 ∨ j = 7 ∨ j = 8 ∨ j = 9 ∨ j = 10 ∨ j = 11 ∨ j = 12 ∨ j = 13 ∨ j = 14 ∨ j = 15 ∨ j = 16 ∨ j = 17 ∨ j = 18 ∨ j = 19 ∨ j = 20 ∨ j = 21 ∨ j = 22 ∨ j = 23 ∨ j = 24 ∨ j = 25 ∨ j = 26 ∨ j = 27 ∨ j = 28 ∨ j = 29 ∨ j = 30 ∨ j = 31 ∨ j = 32 ∨ j = 33 ∨ j = 34 ∨ j = 35 ∨ j = 36 ∨ j = 37 ∨ j = 38 ∨ j = 39 ∨ j = 40 ∨ j = 41 ∨ j = 42 ∨ j = 43 ∨ j = 44 ∨ j = 45 ∨ j = 46 ∨ j = 47 ∨ 48 ≤ j by omega) with rfl | rfl | rfl | rfl | rfl | rfl | rfl | rfl | rfl | rfl | rfl | rfl | rfl | rfl | rfl | rfl | rfl | rfl | rfl | rfl | rfl | rfl | rfl | rfl | rfl | rfl | rfl | rfl | rfl | rfl | rfl | rfl | rfl | rfl | rfl | rfl | rfl | rfl | rfl | rfl | rfl | rfl | rfl | rfl | rfl | rfl | rfl | rfl | h48
    · exact jtab_in (v := 0) (off := 207) (tgt := 240) hx hb dL_law_33 rfl (by decide) (by decide) (by decide) (by decide) (lc_0 C0 hE hZ hT hK hP hD hS hl)
    · exact jtab_in (v := 1) (off := 270) (tgt := 303) hx hb dL_law_33 rfl (by decide) (by decide) (by decide) (by decide) (lc_1 C0 hE hZ hT hK hP hD hS hl)
    · exact jtab_in (v := 2) (off := 293) (tgt := 326) hx hb dL_law_33 rfl (by decide) (by decide) (by decide) (by decide) (lc_2 C0 hE hZ hT hK hP hD hS hl)
    · exact jtab_in (v := 3) (off := 306) (tgt := 339) hx hb dL_law_33 rfl (by decide) (by decide) (by decide) (by decide) (lc_3 C0 hE hZ hT hK hP hD hS hl)
    · exact jtab_in (v := 4) (off := 319) (tgt := 352) hx hb dL_law_33 rfl (by decide) (by decide) (by decide) (by decide) (lc_4 C0 hE hZ hT hK hP hD hS hl)
    · exact jtab_in (v := 5) (off := 352) (tgt := 385) hx hb dL_law_33 rfl (by decide) (by decide) (by decide) (by decide) (lc_5 C0 hE hZ hT hK hP hD hS hl)
    · exact jtab_in (v := 6) (off := 395) (tgt := 428) hx hb dL_law_33 rfl (by decide) (by decide) (by decide) (by decide) (lc_6 C0 hE hZ hT hK hP hD hS hl)
    · exact jtab_in (v := 7) (off := 418) (tgt := 451) hx hb dL_law_33 rfl (by decide) (by decide) (by decide) (by decide) (lc_7 C0 hE hZ hT hK hP hD hS hl)
    · exact jtab_in (v := 8) (off := 451) (tgt := 484) hx hb dL_law_33 rfl (by decide) (by decide) (by decide) (by decide) (lc_8 C0 hE hZ hT hK hP hD hS hl)
    · exact jtab_in (v := 9) (off := 504) (tgt := 537) hx hb dL_law_33 rfl (by decide) (by decide) (by decide) (by decide) (lc_9 C0 hE hZ hT hK hP hD hS hl)
    · exact jtab_in (v := 10) (off := 557) (tgt := 590) hx hb dL_law_33 rfl (by decide) (by decide) (by decide) (by decide) (lc_10 C0 hE hZ hT hK hP hD hS hl)
    · exact jtab_in (v := 11) (off := 620) (tgt := 653) hx hb dL_law_33 rfl (by decide) (by decide) (by decide) (by decide) (lc_11 C0 hE hZ hT hK hP hD hS hl)
    · exact jtab_in (v := 12) (off := 653) (tgt := 686) hx hb dL_law_33 rfl (by decide) (by decide) (by decide) (by decide) (lc_12 C0 hE hZ hT hK hP hD hS hl)
    · exact jtab_in (v := 13) (off := 676) (tgt := 709) hx hb dL_law_33 rfl (by decide) (by decide) (by decide) (by decide) (lc_13 C0 hE hZ hT hK hP hD hS hl)
    · exact jtab_in (v := 14) (off := 699) (tgt := 732) hx hb dL_law_33 rfl (by decide) (by decide) (by decide) (by decide) (lc_14 C0 hE hZ hT hK hP hD hS hl)
    · exact jtab_in (v := 15) (off := 722) (tgt := 755) hx hb dL_law_33 rfl (by decide) (by decide) (by decide) (by decide) (lc_15 C0 hE hZ hT hK hP hD hS hl)
    · exact jtab_in (v := 16) (off := 755) (tgt := 788) hx hb dL_law_33 rfl (by decide) (by decide) (by decide) (by decide) (lc_16 C0 hE hZ hT hK hP hD hS hl)
    · exact jtab_in (v := 17) (off := 788) (tgt := 821) hx hb dL_law_33 rfl (by decide) (by decide) (by decide) (by decide) (lc_17 C0 hE hZ hT hK hP hD hS hl)
    · exact jtab_in (v := 18) (off := 831) (tgt := 864) hx hb dL_law_33 rfl (by decide) (by decide) (by decide) (by decide) (lc_18 C0 hE hZ hT hK hP hD hS hl)
    · exact jtab_in (v := 19) (off := 864) (tgt := 897) hx hb dL_law_33 rfl (by decide) (by decide) (by decide) (by decide) (lc_19 C0 hE hZ hT hK hP hD hS hl)
    · exact jtab_in (v := 20) (off := 897) (tgt := 930) hx hb dL_law_33 rfl (by decide) (by decide) (by decide) (by decide) (lc_20 C0 hE hZ hT hK hP hD hS hl)
    · exact jtab_in (v := 21) (off := 940) (tgt := 973) hx hb dL_law_33 rfl (by decide) (by decide) (by decide) (by decide) (lc_21 C0 hE hZ hT hK hP hD hS hl)
    · exact jtab_in (v := 22) (off := 963) (tgt := 996) hx hb dL_law_33 rfl (by decide) (by decide) (by decide) (by decide) (lc_22 C0 hE hZ hT hK hP hD hS hl)
    · exact jtab_in (v := 23) (off := 986) (tgt := 1019) hx hb dL_law_33 rfl (by decide) (by decide) (by decide) (by decide) (lc_23 C0 hE hZ hT hK hP hD hS hl)
    · exact jtab_in (v := 24) (off := 1029) (tgt := 1062) hx hb dL_law_33 rfl (by decide) (by decide) (by decide) (by decide) (lc_24 C0 hE hZ hT hK hP hD hS hl)
    · exact jtab_in (v := 25) (off := 1072) (tgt := 1105) hx hb dL_law_33 rfl (by decide) (by decide) (by decide) (by decide) (lc_25 C0 hE hZ hT hK hP hD hS hl)
    · exact jtab_in (v := 26) (off := 1105) (tgt := 1138) hx hb dL_law_33 rfl (by decide) (by decide) (by decide) (by decide) (lc_26 C0 hE hZ hT hK hP hD hS hl)
    · exact jtab_in (v := 27) (off := 1128) (tgt := 1161) hx hb dL_law_33 rfl (by decide) (by decide) (by decide) (by decide) (lc_27 C0 hE hZ hT hK hP hD hS hl)
    · exact jtab_in (v := 28) (off := 1151) (tgt := 1184) hx hb dL_law_33 rfl (by decide) (by decide) (by decide) (by decide) (lc_28 C0 hE hZ hT hK hP hD hS hl)
    · exact jtab_in (v := 29) (off := 1194) (tgt := 1227) hx hb dL_law_33 rfl (by decide) (by decide) (by decide) (by decide) (lc_29 C0 hE hZ hT hK hP hD hS hl)
    · exact jtab_in (v := 30) (off := 1217) (tgt := 1250) hx hb dL_law_33 rfl (by decide) (by decide) (by decide) (by decide) (lc_30 C0 hE hZ hT hK hP hD hS hl)
    · exact jtab_in (v := 31) (off := 1250) (tgt := 1283) hx hb dL_law_33 rfl (by decide) (by decide) (by decide) (by decide) (lc_31 C0 hE hZ hT hK hP hD hS hl)
    · exact jtab_in (v := 32) (off := 1273) (tgt := 1306) hx hb dL_law_33 rfl (by decide) (by decide) (by decide) (by decide) (lc_32 C0 hE hZ hT hK hP hD hS hl)
    · exact jtab_in (v := 33) (off := 1296) (tgt := 1329) hx hb dL_law_33 rfl (by decide) (by decide) (by decide) (by decide) (lc_33 C0 hE hZ hT hK hP hD hS hl)
    · exact jtab_in (v := 34) (off := 1319) (tgt := 1352) hx hb dL_law_33 rfl (by decide) (by decide) (by decide) (by decide) (lc_34 C0 hE hZ hT hK hP hD hS hl)
    · exact jtab_in (v := 35) (off := 1342) (tgt := 1375) hx hb dL_law_33 rfl (by decide) (by decide) (by decide) (by decide) (lc_35 C0 hE hZ hT hK hP hD hS hl)
    · exact jtab_in (v := 36) (off := 1365) (tgt := 1398) hx hb dL_law_33 rfl (by decide) (by decide) (by decide) (by decide) (lc_36 C0 hE hZ hT hK hP hD hS hl)
    · exact jtab_in (v := 37) (off := 1408) (tgt := 1441) hx hb dL_law_33 rfl (by decide) (by decide) (by decide) (by decide) (lc_37 C0 hE hZ hT hK hP hD hS hl)
    · exact jtab_in (v := 38) (off := 1441) (tgt := 1474) hx hb dL_law_33 rfl (by decide) (by decide) (by decide) (by decide) (lc_38 C0 hE hZ hT hK hP hD hS hl)
    · exact jtab_in (v := 39) (off := 1474) (tgt := 1507) hx hb dL_law_33 rfl (by decide) (by decide) (by decide) (by decide) (lc_39 C0 hE hZ hT hK hP hD hS hl)
    · exact jtab_in (v := 40) (off := 1507) (tgt := 1540) hx hb dL_law_33 rfl (by decide) (by decide) (by decide) (by decide) (lc_40 C0 hE hZ hT hK hP hD hS hl)
    · exact jtab_in (v := 41) (off := 1550) (tgt := 1583) hx hb dL_law_33 rfl (by decide) (by decide) (by decide) (by decide) (lc_41 C0 hE hZ hT hK hP hD hS hl)
    · exact jtab_in (v := 42) (off := 1603) (tgt := 1636) hx hb dL_law_33 rfl (by decide) (by decide) (by decide) (by decide) (lc_42 C0 hE hZ hT hK hP hD hS hl)
    · exact jtab_in (v := 43) (off := 1646) (tgt := 1679) hx hb dL_law_33 rfl (by decide) (by decide) (by decide) (by decide) (lc_43 C0 hE hZ hT hK hP hD hS hl)
    · exact jtab_in (v := 44) (off := 1669) (tgt := 1702) hx hb dL_law_33 rfl (by decide) (by decide) (by decide) (by decide) (lc_44 C0 hE hZ hT hK hP hD hS hl)
    · exact jtab_in (v := 45) (off := 1682) (tgt := 1715) hx hb dL_law_33 rfl (by decide) (by decide) (by decide) (by decide) (lc_45 C0 hE hZ hT hK hP hD hS hl)
    · exact jtab_in (v := 46) (off := 1715) (tgt := 1748) hx hb dL_law_33 rfl (by decide) (by decide) (by decide) (by decide) (lc_46 C0 hE hZ hT hK hP hD hS hl)
    · exact jtab_in (v := 47) (off := 1748) (tgt := 1781) hx hb dL_law_33 rfl (by decide) (by decide) (by decide) (by decide) (lc_47 C0 hE hZ hT hK hP hD hS hl)
    · refine lv_tableOut (tgt := 1804) hx hb dL_law_33 (Or.inr (by rw [nI_toInt (by omega)]; omega)) (by decide) ?_
      exact lc_end C0 hS hl (Nat.le_of_ble_eq_true rfl) (Nat.le_of_ble_eq_true rfl)
section JT
variable {p : Program} {l : Launch} {e : Env} {R : Room} {s : State} {m : MethodId} {args : Array Value} {below : List Frame} {meth : Method} {c : Code} {H : Heap} {locs : List Loc} {cells slots : Nat} {Q : State → Prop}
variable {pc : Nat} {ls : Array Slot} {rest st0 : List Value} {a : Array Value} {A0 : Nat → Prop} {H0 : Heap} {mc ms : Nat} {D : va_G}
theorem jciT_v {S : Type} {w0 : va_W} {x : Nat × va_E} {wf : S → va_W} {tf : S → List (ClassId × FieldType)} {post : S → Prop} (hr : va_Run p l e R s m args below meth c H locs cells slots mc ms (F0 m pc ls st0) rest (va_Qv post (fun u t => va_P D vwCl (wf u) t.heap ∧ va_K D vwCl (tf u) t ∧ va_D (va_A [x] H.size) (wf u)) (va_A [x] H.size) a) (va_A [x] H.size)) (hP : va_P D vwCl (w0 ++ [x]) H) (hD : va_D A0 (w0 ++ [x])) (hS : va_S A0 H0 H locs) (hA : ∀ q, H0.size ≤ q → A0 q)
    (kk : ∀ (u : S) (H1 : Heap) (locs1 : List Loc), post u → va_P D vwCl (w0 ++ wf u) H1 → va_K D vwCl (tf u) s → va_D A0 (w0 ++ wf u) → va_S A0 H0 H1 locs1 → W p l e R s m args below meth c H1 locs1 (cells + mc) (slots + ms) Q (F0 m (pc + 3) ls rest)) : W p l e R s m args below meth c H locs cells slots Q (F0 m pc ls st0) :=
  va_callv hr hS (fun q _ h => ja_last hD hS hA q h) (ja_last hD hS hA) (fun u t H1 locs1 ht hvm hw hB _ hk hS1 => by
    have hj := jj_last hP hD (ja_last hD hS hA) hk (by rw [← ht]; exact hB.1) hB.2.2
    exact kk u H1 locs1 hw hj.1 (va_K.moved hvm.symm hB.2.1) hj.2 hS1)
end JT
set_option maxHeartbeats 4000000 in
set_option maxRecDepth 100000 in
theorem law_E {s : State} {av : Array Value} (hts : ∀ w ∈ lw_tbl, w.before av s = true) : jE s := by
  refine ⟨?_, ?_, ?_⟩
  · intro C hC
    simp only [jE_cs, List.mem_cons, List.not_mem_nil, or_false] at hC
    rcases hC with rfl | rfl | rfl | rfl | rfl
    · exact va_AO.of (hts (.arrayOver (.object RX9)) n_0)
    · exact va_AO.of (hts (.arrayOver (.object RX11)) n_1)
    · exact va_AO.of (hts (.arrayOver (.object RX0)) n_2)
    · exact va_AO.of (hts (.arrayOver (.object RX2)) n_3)
    · exact va_AO.of (hts (.arrayOver (.object RX4)) n_4)
  · intro n hn
    simp only [jE_ns, List.mem_cons, List.not_mem_nil, or_false] at hn
    rcases hn with rfl | rfl | rfl | rfl | rfl | rfl
    · exact va_Nw.of rfl (hts (.methodLinkNest RX12 9 yX7_init RX12) n_5)
    · exact va_Nw.of rfl (hts (.methodLinkNest RX12 18 yX8_init RX12) n_6)
    · exact va_Nw.of rfl (hts (.methodLinkNest RX12 84 yX3_init RX12) n_7)
    · exact va_Nw.of rfl (hts (.methodLinkNest RX12 91 yX1_init RX12) n_8)
    · exact va_Nw.of rfl (hts (.methodLinkNest RX12 98 yX10_init RX12) n_9)
    · exact va_Nw.of rfl (hts (.methodLinkNest RX7 75 yX9_init RX12) n_10)
  · exact va_Nw.of rfl (hts (.castable "[I" "java/lang/Cloneable") n_11)
set_option maxHeartbeats 4000000 in
set_option maxRecDepth 100000 in
theorem law_Z {s : State} {av : Array Value} (hts : ∀ w ∈ lw_tbl, w.before av s = true) (hgv : (Jvm.Cond.and given_1 narrow_1).before av s = true) : ∃ tW : Nat, va_Z "BookOfAll$Rules" "WITHOUT" "[I" (.ref tW) (fun q : Nat => s.heap.size ≤ q) s s.heap ∧ va_T .int tW 14 (fun k => .int (jz_f k)) (fun q : Nat => s.heap.size ≤ q) s s.heap := by
  have hs := flat_of_before _ hgv
  have harr : (Cond.arrayOf (.static "BookOfAll$Rules" "WITHOUT" "[I") .int).before av s = true := hs _ (by decide +kernel)
  have hlen := va_eqt (hs (Cond.eq (.length (.static "BookOfAll$Rules" "WITHOUT" "[I")) (.int 14)) (by decide +kernel))
  have hel : ∀ j : Nat, j < 14 → (Term.elem (.static "BookOfAll$Rules" "WITHOUT" "[I") (.int (Int32.ofNat j))).eval av s none [] s = some (.int (jz_f j)) := by
    intro j hj
    rcases (show j = 0 ∨ j = 1 ∨ j = 2 ∨ j = 3 ∨ j = 4 ∨ j = 5 ∨ j = 6 ∨ j = 7 ∨ j = 8 ∨ j = 9 ∨ j = 10 ∨ j = 11 ∨ j = 12 ∨ j = 13 by omega) with rfl | rfl | rfl | rfl | rfl | rfl | rfl | rfl | rfl | rfl | rfl | rfl | rfl | rfl
    · exact va_eqt (hs (Cond.eq (.elem (.static "BookOfAll$Rules" "WITHOUT" "[I") (.int 0)) (.int 1)) (by decide +kernel))
    · exact va_eqt (hs (Cond.eq (.elem (.static "BookOfAll$Rules" "WITHOUT" "[I") (.int 1)) (.int 1)) (by decide +kernel))
    · exact va_eqt (hs (Cond.eq (.elem (.static "BookOfAll$Rules" "WITHOUT" "[I") (.int 2)) (.int 1)) (by decide +kernel))
    · exact va_eqt (hs (Cond.eq (.elem (.static "BookOfAll$Rules" "WITHOUT" "[I") (.int 3)) (.int 1)) (by decide +kernel))
    · exact va_eqt (hs (Cond.eq (.elem (.static "BookOfAll$Rules" "WITHOUT" "[I") (.int 4)) (.int 0)) (by decide +kernel))
    · exact va_eqt (hs (Cond.eq (.elem (.static "BookOfAll$Rules" "WITHOUT" "[I") (.int 5)) (.int 1)) (by decide +kernel))
    · exact va_eqt (hs (Cond.eq (.elem (.static "BookOfAll$Rules" "WITHOUT" "[I") (.int 6)) (.int 1)) (by decide +kernel))
    · exact va_eqt (hs (Cond.eq (.elem (.static "BookOfAll$Rules" "WITHOUT" "[I") (.int 7)) (.int 1)) (by decide +kernel))
    · exact va_eqt (hs (Cond.eq (.elem (.static "BookOfAll$Rules" "WITHOUT" "[I") (.int 8)) (.int 400)) (by decide +kernel))
    · exact va_eqt (hs (Cond.eq (.elem (.static "BookOfAll$Rules" "WITHOUT" "[I") (.int 9)) (.int 400)) (by decide +kernel))
    · exact va_eqt (hs (Cond.eq (.elem (.static "BookOfAll$Rules" "WITHOUT" "[I") (.int 10)) (.int 400)) (by decide +kernel))
    · exact va_eqt (hs (Cond.eq (.elem (.static "BookOfAll$Rules" "WITHOUT" "[I") (.int 11)) (.int 1)) (by decide +kernel))
    · exact va_eqt (hs (Cond.eq (.elem (.static "BookOfAll$Rules" "WITHOUT" "[I") (.int 12)) (.int 1)) (by decide +kernel))
    · exact va_eqt (hs (Cond.eq (.elem (.static "BookOfAll$Rules" "WITHOUT" "[I") (.int 13)) (.int 1)) (by decide +kernel))
  obtain ⟨tW, ht, hT⟩ := va_Tof (A := (fun q : Nat => s.heap.size ≤ q)) (N := 14) (f := fun k => .int (jz_f k)) (by decide) harr hlen hel (fun a h z => absurd h (Nat.not_lt.mpr z))
  exact ⟨tW, va_Zof (hts (.laysStatic "BookOfAll$Rules" "WITHOUT" "[I") n_12) (hts (.initialized RX8) (jlw _ m_157)) ht (fun a h z => absurd h (Nat.not_lt.mpr z)), hT⟩
set_option maxHeartbeats 8000000 in
set_option maxRecDepth 100000 in
/-- THE LAW, from its entry -/
theorem whole_start {p : Program} {e : Env} {s : State} {m : MethodId} {below : List Frame} {meth : Method} {c : Code} (l : Launch) {b L : Nat} {xs : Nat → Int32} (hL : L ≤ 6) (C0 : lw_At p s m meth c b L xs) : W p l e room_1 s m #[Value.ref b] below meth c s.heap [] 0 0 (lw_Z below #[Value.ref b] s) (entryFrame m ([Value.ref b] : List Value).toArray 4) := by
  obtain ⟨hx, hb, hr, hml, hown, hts, hX, hbl, hlocks, hgv⟩ := id C0
  have hA : ∀ q : Nat, s.heap.size ≤ q → (fun q : Nat => s.heap.size ≤ q) q := fun _ h => h
  have hE := law_E hts
  obtain ⟨tW, hZ, hT⟩ := law_Z hts hgv
  obtain ⟨c0, iS0, hKn0⟩ := u_known (C := RX0) (T := TX0) (N := 18) (n := 18) hts (fun w h => jlw w (hin_RX0 w h)) (hts (.instantiable RX0 18) n_13)
  obtain ⟨c1, iS1, hKn1⟩ := u_known (C := RX1) (T := TX1) (N := 10) (n := 10) hts (fun w h => jlw w (hin_RX1 w h)) (hts (.instantiable RX1 10) n_14)
  obtain ⟨c2, iS2, hKn2⟩ := u_known (C := RX2) (T := TX2) (N := 6) (n := 6) hts (fun w h => jlw w (hin_RX2 w h)) (hts (.instantiable RX2 6) n_15)
  obtain ⟨c3, iS3, hKn3⟩ := u_known (C := RX3) (T := TX3) (N := 7) (n := 7) hts (fun w h => jlw w (hin_RX3 w h)) (hts (.instantiable RX3 7) n_16)
  obtain ⟨c4, iS4, hKn4⟩ := u_known (C := RX4) (T := TX4) (N := 9) (n := 9) hts (fun w h => jlw w (hin_RX4 w h)) (hts (.instantiable RX4 9) n_17)
  obtain ⟨c5, iS5, hKn5⟩ := u_known (C := RX5) (T := TX5) (N := 12) (n := 12) hts (fun w h => jlw w (hin_RX5 w h)) (hts (.instantiable RX5 12) n_18)
  obtain ⟨c6, iS6, hKn6⟩ := u_known (C := RX6) (T := TX6) (N := 6) (n := 6) hts (fun w h => jlw w (hin_RX6 w h)) (hts (.instantiable RX6 6) n_19)
  obtain ⟨c7, iS7, hKn7⟩ := u_known (C := RX7) (T := TX7) (N := 15) (n := 15) hts (fun w h => jlw w (hin_RX7 w h)) (hts (.instantiable RX7 15) n_20)
  obtain ⟨c8, iS8, hKn8⟩ := u_known (C := RX8) (T := TX8) (N := 8) (n := 8) hts (fun w h => jlw w (hin_RX8 w h)) (hts (.instantiable RX8 8) n_21)
  obtain ⟨c9, iS9, hKn9⟩ := u_known (C := RX9) (T := TX9) (N := 4) (n := 4) hts (fun w h => jlw w (hin_RX9 w h)) (hts (.instantiable RX9 4) n_22)
  obtain ⟨c10, iS10, hKn10⟩ := u_known (C := RX10) (T := TX10) (N := 3) (n := 3) hts (fun w h => jlw w (hin_RX10 w h)) (hts (.instantiable RX10 3) n_23)
  obtain ⟨c11, iS11, hKn11⟩ := u_known (C := RX11) (T := TX11) (N := 7) (n := 7) hts (fun w h => jlw w (hin_RX11 w h)) (hts (.instantiable RX11 7) n_24)
  obtain ⟨c12, iS12, hKn12⟩ := u_known (C := RX12) (T := TX12) (N := 20) (n := 20) hts (fun w h => jlw w (hin_RX12 w h)) (hts (.instantiable RX12 20) n_25)
  obtain ⟨c13, iS13, hKn13⟩ := u_known (C := RX13) (T := TX13) (N := 104) (n := 104) hts (fun w h => jlw w (hin_RX13 w h)) (hts (.instantiable RX13 104) n_26)
  obtain ⟨dC, dI, hKc⟩ : ∃ (dC : Nat → ClassId) (dI : Nat → Nat → Nat), ∀ (k : Nat) (q : vw_C), vwCl[k]? = some q → u_Kn s q.1 q.2.1 q.2.2 (dC k) (dI k) := by
    refine ⟨fun k => [c0, c1, c2, c3, c4, c5, c6, c7, c8, c9, c10, c11, c12, c13].getD k c0, fun k => [iS0, iS1, iS2, iS3, iS4, iS5, iS6, iS7, iS8, iS9, iS10, iS11, iS12, iS13].getD k iS0, ?_⟩
    intro k q hq
    match k, hq with
    | 0, hq => cases hq; exact hKn0
    | 1, hq => cases hq; exact hKn1
    | 2, hq => cases hq; exact hKn2
    | 3, hq => cases hq; exact hKn3
    | 4, hq => cases hq; exact hKn4
    | 5, hq => cases hq; exact hKn5
    | 6, hq => cases hq; exact hKn6
    | 7, hq => cases hq; exact hKn7
    | 8, hq => cases hq; exact hKn8
    | 9, hq => cases hq; exact hKn9
    | 10, hq => cases hq; exact hKn10
    | 11, hq => cases hq; exact hKn11
    | 12, hq => cases hq; exact hKn12
    | 13, hq => cases hq; exact hKn13
    | k + 14, hq => simp [vwCl] at hq
  have hS : va_S (fun q : Nat => s.heap.size ≤ q) s.heap s.heap [] := va_S.rf
  have hK : va_K (dC, dI) vwCl [] s := ⟨hKc, fun k q h => by simp at h⟩
  have hP : va_P (dC, dI) vwCl [] s.heap := fun k q h => by simp at h
  have hD : va_D (fun q : Nat => s.heap.size ≤ q) [] := ⟨fun i j p q h => by simp at h, fun k q h => by simp at h⟩
  have hl := lv_entry ([.ref b]) (n := 4) (Nat.le_of_ble_eq_true rfl)
  rw [lg_entry_eq]
  generalize (lg_sl ([.ref b]) ++ List.replicate (4 - (lg_sl ([.ref b])).length) Slot.unset).toArray = ls at hl ⊢
  have hl : lv_has ls 4 [(0, .ref b)] := hl
  refine va_new (ci := 12) (fs := [.int 0, .int 0, .null, .null, .null, .null, .null, .int 0, .null, .int 0, .null, .int 0, .null, .int 0, .null, .null, .null, .null, .null, .null]) (C := RX12) (T := TX12) (N := 20) hx hb hts (fun w h => jlw w (hin_RX12 w h)) tyX12 tyX12_ok hown (hts (.classLink RL 7 RX12) (jlw _ m_1056)) (hts (.instantiable RX12 20) n_25) (hts (.initialized RX12) (jlw _ m_210)) hK hP hD hS hA rfl jd_RX12 (Nat.le_of_ble_eq_true rfl) (Nat.le_of_ble_eq_true rfl) dL_law_0 (fun q1 H hP hD hS => ?_)
  refine W.widen (k := 1) (n := 20) (Nat.le_of_ble_eq_true rfl) (Nat.le_of_ble_eq_true rfl) ?_
  refine lv_dup hx hb dL_law_3 rfl ?_
  refine jciT_v (va_runI (As := []) (rest := [.ref q1]) ⟨hx, hb, hml, hown, hts⟩ (iX12_init_1 l dC dI _ q1) (cwI 0 hts (jgoodIL m_1057) rfl rfl rfl (hts (.initialized RX12) (jlw _ m_210)) (hts (.methodLink RL 9 yX12_init) (jlw _ m_1058)) (hts (.instanceMethod yX12_init) (jlw _ m_1059)) rfl (by decide +kernel) ⟨(Nat.le_of_ble_eq_true rfl), (Nat.le_of_ble_eq_true rfl)⟩) ⟨jw_blindE, fun U hU hW => ⟨rfl, jw_of hU hW (jp_last hP) (hK.sub [] rfl) (jd_last hD), hE.warm hW⟩⟩ rfl rfl hl.1 rfl (lv_room (Nat.le_of_ble_eq_true rfl)) dL_law_4 ⟨(Nat.le_of_ble_eq_true rfl), (Nat.le_of_ble_eq_true rfl)⟩) hP hD hS hA (fun u H locs hu hP1 hK2 hD1 hS1 => ?_)
  have hu : u.1 0 = q1 := hu
  subst hu
  have hP := hP1
  have hD := hD1
  have hS := hS1
  have hK := hK.app hK2
  refine W.widen (k := 73) (n := 7758) (Nat.le_of_ble_eq_true rfl) (Nat.le_of_ble_eq_true rfl) ?_
  refine lv_astore_n (lv' := [(1, .ref (u.1 0)), (0, .ref b)]) hx hb dL_law_7 rfl hl (by decide) rfl (fun ls hl => ?_)
  refine va_new (ci := 13) (fs := [.null, .int 0, .int 0, .int 0, .int 0, .int 0, .null, .int 0, .int 0, .int 0, .null, .null, .int 0, .null, .null, .int 0, .null, .null, .int 0, .null, .null, .null, .null, .null, .null, .null, .int 0, .null, .null, .null, .int 0, .null, .null, .null, .null, .null, .null, .int 0, .null, .null, .null, .null, .null, .null, .null, .null, .null, .null, .null, .null, .int 0, .null, .null, .null, .null, .null, .int 0, .null, .null, .null, .null, .null, .null, .null, .null, .null, .int 0, .null, .null, .null, .null, .int 0, .null, .null, .null, .null, .null, .null, .int 0, .null, .null, .null, .null, .null, .null, .null, .int 0, .null, .null, .null, .int 0, .null, .null, .null, .null, .null, .int 0, .int 0, .int 0, .int 0, .int 0, .null, .null, .null]) (C := RX13) (T := TX13) (N := 104) hx hb hts (fun w h => jlw w (hin_RX13 w h)) tyX13 tyX13_ok hown (hts (.classLink RL 10 RX13) (jlw _ m_1060)) (hts (.instantiable RX13 104) n_26) (hts (.initialized RX13) (jlw _ m_96)) hK hP hD hS hA rfl jd_RX13 (Nat.le_of_ble_eq_true rfl) (Nat.le_of_ble_eq_true rfl) dL_law_8 (fun q2 H hP hD hS => ?_)
  refine W.widen (k := 74) (n := 7862) (Nat.le_of_ble_eq_true rfl) (Nat.le_of_ble_eq_true rfl) ?_
  refine lv_dup hx hb dL_law_11 rfl ?_
  refine jciT_v (va_runI (As := []) (rest := [.ref q2]) ⟨hx, hb, hml, hown, hts⟩ (iX13_init_1 l dC dI _ q2) (cwI 0 hts (jgoodIL m_1061) rfl rfl rfl (hts (.initialized RX13) (jlw _ m_96)) (hts (.methodLink RL 12 yX13_init) (jlw _ m_1062)) (hts (.instanceMethod yX13_init) (jlw _ m_1063)) rfl (by decide +kernel) ⟨(Nat.le_of_ble_eq_true rfl), (Nat.le_of_ble_eq_true rfl)⟩) ⟨jw_blind, fun U hU hW => ⟨rfl, jw_of hU hW (jp_last hP) (hK.sub [] rfl) (jd_last hD)⟩⟩ rfl rfl hl.1 rfl (lv_room (Nat.le_of_ble_eq_true rfl)) dL_law_12 ⟨(Nat.le_of_ble_eq_true rfl), (Nat.le_of_ble_eq_true rfl)⟩) hP hD hS hA (fun v H locs hu hP1 hK2 hD1 hS1 => ?_)
  have hu : v.1 0 = q2 := hu
  subst hu
  have hP := hP1
  have hD := hD1
  have hS := hS1
  have hK := hK.app hK2
  refine W.widen (k := 152) (n := 53404) (Nat.le_of_ble_eq_true rfl) (Nat.le_of_ble_eq_true rfl) ?_
  refine lv_astore_n (lv' := [(2, .ref (v.1 0)), (1, .ref (u.1 0)), (0, .ref b)]) hx hb dL_law_15 rfl hl (by decide) rfl (fun ls hl => ?_)
  refine lv_iconst (v := 0) hx hb dL_law_16 (by decide) ?_
  refine lv_istore_n (lv' := [(3, .int 0), (2, .ref (v.1 0)), (1, .ref (u.1 0)), (0, .ref b)]) hx hb dL_law_17 rfl hl (by decide) rfl (fun ls hl => ?_)
  exact law_head hL C0 hE hZ hT hK hP hD hS hl
