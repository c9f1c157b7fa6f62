set_option maxHeartbeats 4000000 in
set_option maxRecDepth 100000 in
theorem lc_32 {p : Program} {l : Launch} {e : Env} {s : State} {m : MethodId} {below : List Frame} {meth : Method} {c : Code} {b : Nat} {xs : Nat → Int32} (C0 : lw_At p s m meth c b 6 xs) {dC : Nat → ClassId} {dI : Nat → Nat → Nat} {ax am : Nat → Nat} {ca cm : Nat → ClassId} {tW : Nat} (hE : jE s) (hZ : va_Z "BookOfAll$Rules" "WITHOUT" "[I" (.ref tW) (fun q : Nat => s.heap.size ≤ q) s s.heap) (hT : va_T .int tW 14 (fun k => .int (jz_f k)) (fun q : Nat => s.heap.size ≤ q) s s.heap) (hK : va_K (dC, dI) vwCl (xT ca ++ mT cm) s) {H : Heap} {locs : List Loc} {ls : Array Slot} (hP : va_P (dC, dI) vwCl (xW ax ca ++ mW am cm) H) (hD : va_D (fun q : Nat => s.heap.size ≤ q) (xW ax ca ++ mW am cm)) (hS : va_S (fun q : Nat => s.heap.size ≤ q) s.heap H locs) (hl : lv_has ls 4 [(3, .int 0), (2, .ref (am 0)), (1, .ref (ax 0)), (0, .ref b)]) : W p l e room_1 s m #[Value.ref b] below meth c H locs 152 53404 (lw_Z below #[Value.ref b] s) (F0 m 1306 ls []) := by
  have C0 := C0
  obtain ⟨hx, hb, hr, hml, hown, hts, hX, hbl, hlocks, hgv⟩ := id C0
  have hA : ∀ q : Nat, s.heap.size ≤ q → (fun q : Nat => s.heap.size ≤ q) q := fun _ h => h
  have hbA : ¬ (fun q : Nat => s.heap.size ≤ q) b := Nat.not_le.mpr hbl
  refine lv_aload_n hx hb dL_law_1306 rfl (lv_at hl 2 rfl) ?_
  refine lv_aload_n hx hb dL_law_1307 rfl (lv_at hl 3 rfl) ?_
  refine lv_iload_n hx hb dL_law_1308 rfl (lv_at hl 0 rfl) ?_
  refine lv_iconst (v := 1) hx hb dL_law_1309 (by decide) ?_
  refine lv_iadd hx hb dL_law_1310 ?_
  refine jt_i 1 (by decide) ?_
  refine va_sld hx hb hX hbl hbA hS (vp_in_nI (n := 1) (by decide) (by decide)) dL_law_1311 ?_
  refine jt_i (xs 1) rfl ?_
  have hPs := jp_init hP
  have hDs := jd_init hD
  have hKs := jk_init hK
  refine jc_i (va_runV (As := [.int (xs 1)]) (rest := []) ⟨hx, hb, hml, hown, hts⟩ (tX12_page l dC dI _ ax ca (xs 1)) (cwV 1 hts (jgoodVL m_928 m_929 m_930 m_210 m_931) rfl rfl rfl (by decide +kernel) ⟨(Nat.le_of_ble_eq_true rfl), (Nat.le_of_ble_eq_true rfl)⟩) ⟨jw_blind, va_recv hKs hPs (ci := 12) (q0 := 0) rfl rfl, fun U hU hW => ⟨rfl, jw_of hU hW hPs hKs hDs⟩⟩ rfl rfl hl.1 rfl (lv_room (Nat.le_of_ble_eq_true rfl)) dL_law_1312 ⟨(Nat.le_of_ble_eq_true rfl), (Nat.le_of_ble_eq_true rfl)⟩) hP hS hA (fun r1 H locs hr1 hP hS => ?_)
  have hPm := jp_tail hP
  have hr1 : r1 = (-1) := hr1
  refine lv_aload_n hx hb dL_law_1315 rfl (lv_at hl 1 rfl) ?_
  refine lv_aload_n hx hb dL_law_1316 rfl (lv_at hl 3 rfl) ?_
  refine lv_iload_n hx hb dL_law_1317 rfl (lv_at hl 0 rfl) ?_
  refine lv_iconst (v := 1) hx hb dL_law_1318 (by decide) ?_
  refine lv_iadd hx hb dL_law_1319 ?_
  refine jt_i 1 (by decide) ?_
  refine va_sld hx hb hX hbl hbA hS (vp_in_nI (n := 1) (by decide) (by decide)) dL_law_1320 ?_
  refine jt_i (xs 1) rfl ?_
  have hPs := hPm
  have hDs := jd_tail hD
  have hKs := jk_tail hK
  refine jc_i (va_runV (As := [.int (xs 1)]) (rest := [.int r1]) ⟨hx, hb, hml, hown, hts⟩ (tX13_page l dC dI _ am cm (xs 1)) (cwV 1 hts (jgoodVL m_932 m_933 m_934 m_96 m_935) rfl rfl rfl (by decide +kernel) ⟨(Nat.le_of_ble_eq_true rfl), (Nat.le_of_ble_eq_true rfl)⟩) ⟨jw_blind, va_recv hKs hPs (ci := 13) (q0 := 0) rfl rfl, fun U hU hW => ⟨rfl, jw_of hU hW hPs hKs hDs⟩⟩ rfl rfl hl.1 rfl (lv_room (Nat.le_of_ble_eq_true rfl)) dL_law_1321 ⟨(Nat.le_of_ble_eq_true rfl), (Nat.le_of_ble_eq_true rfl)⟩) hPm hS hA (fun r2 H locs hr2 hPm hS => ?_)
  have hr2 : r2 = (-1) := hr2
  refine lv_icmp_eq (tgt := 1804) hx hb dL_law_1324 (by decide) (fun _ => ?_) (fun z => absurd (hr1.trans hr2.symm) z)
  exact lc_end C0 hS hl (Nat.le_of_ble_eq_true rfl) (Nat.le_of_ble_eq_true rfl)
set_option maxHeartbeats 4000000 in
set_option maxRecDepth 100000 in
theorem lc_33 {p : Program} {l : Launch} {e : Env} {s : State} {m : MethodId} {below : List Frame} {meth : Method} {c : Code} {b : Nat} {xs : Nat → Int32} (C0 : lw_At p s m meth c b 6 xs) {dC : Nat → ClassId} {dI : Nat → Nat → Nat} {ax am : Nat → Nat} {ca cm : Nat → ClassId} {tW : Nat} (hE : jE s) (hZ : va_Z "BookOfAll$Rules" "WITHOUT" "[I" (.ref tW) (fun q : Nat => s.heap.size ≤ q) s s.heap) (hT : va_T .int tW 14 (fun k => .int (jz_f k)) (fun q : Nat => s.heap.size ≤ q) s s.heap) (hK : va_K (dC, dI) vwCl (xT ca ++ mT cm) s) {H : Heap} {locs : List Loc} {ls : Array Slot} (hP : va_P (dC, dI) vwCl (xW ax ca ++ mW am cm) H) (hD : va_D (fun q : Nat => s.heap.size ≤ q) (xW ax ca ++ mW am cm)) (hS : va_S (fun q : Nat => s.heap.size ≤ q) s.heap H locs) (hl : lv_has ls 4 [(3, .int 0), (2, .ref (am 0)), (1, .ref (ax 0)), (0, .ref b)]) : W p l e room_1 s m #[Value.ref b] below meth c H locs 152 53404 (lw_Z below #[Value.ref b] s) (F0 m 1329 ls []) := by
  have C0 := C0
  obtain ⟨hx, hb, hr, hml, hown, hts, hX, hbl, hlocks, hgv⟩ := id C0
  have hA : ∀ q : Nat, s.heap.size ≤ q → (fun q : Nat => s.heap.size ≤ q) q := fun _ h => h
  have hbA : ¬ (fun q : Nat => s.heap.size ≤ q) b := Nat.not_le.mpr hbl
  refine lv_aload_n hx hb dL_law_1329 rfl (lv_at hl 2 rfl) ?_
  refine lv_aload_n hx hb dL_law_1330 rfl (lv_at hl 3 rfl) ?_
  refine lv_iload_n hx hb dL_law_1331 rfl (lv_at hl 0 rfl) ?_
  refine lv_iconst (v := 1) hx hb dL_law_1332 (by decide) ?_
  refine lv_iadd hx hb dL_law_1333 ?_
  refine jt_i 1 (by decide) ?_
  refine va_sld hx hb hX hbl hbA hS (vp_in_nI (n := 1) (by decide) (by decide)) dL_law_1334 ?_
  refine jt_i (xs 1) rfl ?_
  have hPs := jp_init hP
  have hDs := jd_init hD
  have hKs := jk_init hK
  refine jc_i (va_runV (As := [.int (xs 1)]) (rest := []) ⟨hx, hb, hml, hown, hts⟩ (tX12_promise l dC dI _ ax ca (xs 1)) (cwV 1 hts (jgoodVL m_936 m_937 m_938 m_210 m_939) rfl rfl rfl (by decide +kernel) ⟨(Nat.le_of_ble_eq_true rfl), (Nat.le_of_ble_eq_true rfl)⟩) ⟨jw_blind, va_recv hKs hPs (ci := 12) (q0 := 0) rfl rfl, fun U hU hW => ⟨rfl, jw_of hU hW hPs hKs hDs⟩⟩ rfl rfl hl.1 rfl (lv_room (Nat.le_of_ble_eq_true rfl)) dL_law_1335 ⟨(Nat.le_of_ble_eq_true rfl), (Nat.le_of_ble_eq_true rfl)⟩) hP hS hA (fun r1 H locs hr1 hP hS => ?_)
  have hPm := jp_tail hP
  have hr1 : r1 = (-1) := hr1
  refine lv_aload_n hx hb dL_law_1338 rfl (lv_at hl 1 rfl) ?_
  refine lv_aload_n hx hb dL_law_1339 rfl (lv_at hl 3 rfl) ?_
  refine lv_iload_n hx hb dL_law_1340 rfl (lv_at hl 0 rfl) ?_
  refine lv_iconst (v := 1) hx hb dL_law_1341 (by decide) ?_
  refine lv_iadd hx hb dL_law_1342 ?_
  refine jt_i 1 (by decide) ?_
  refine va_sld hx hb hX hbl hbA hS (vp_in_nI (n := 1) (by decide) (by decide)) dL_law_1343 ?_
  refine jt_i (xs 1) rfl ?_
  have hPs := hPm
  have hDs := jd_tail hD
  have hKs := jk_tail hK
  refine jc_i (va_runV (As := [.int (xs 1)]) (rest := [.int r1]) ⟨hx, hb, hml, hown, hts⟩ (tX13_promise l dC dI _ am cm (xs 1)) (cwV 1 hts (jgoodVL m_940 m_941 m_942 m_96 m_943) rfl rfl rfl (by decide +kernel) ⟨(Nat.le_of_ble_eq_true rfl), (Nat.le_of_ble_eq_true rfl)⟩) ⟨jw_blind, va_recv hKs hPs (ci := 13) (q0 := 0) rfl rfl, fun U hU hW => ⟨rfl, jw_of hU hW hPs hKs hDs⟩⟩ rfl rfl hl.1 rfl (lv_room (Nat.le_of_ble_eq_true rfl)) dL_law_1344 ⟨(Nat.le_of_ble_eq_true rfl), (Nat.le_of_ble_eq_true rfl)⟩) hPm hS hA (fun r2 H locs hr2 hPm hS => ?_)
  have hr2 : r2 = (-1) := hr2
  refine lv_icmp_eq (tgt := 1804) hx hb dL_law_1347 (by decide) (fun _ => ?_) (fun z => absurd (hr1.trans hr2.symm) z)
  exact lc_end C0 hS hl (Nat.le_of_ble_eq_true rfl) (Nat.le_of_ble_eq_true rfl)
set_option maxHeartbeats 4000000 in
set_option maxRecDepth 100000 in
theorem lc_34 {p : Program} {l : Launch} {e : Env} {s : State} {m : MethodId} {below : List Frame} {meth : Method} {c : Code} {b : Nat} {xs : Nat → Int32} (C0 : lw_At p s m meth c b 6 xs) {dC : Nat → ClassId} {dI : Nat → Nat → Nat} {ax am : Nat → Nat} {ca cm : Nat → ClassId} {tW : Nat} (hE : jE s) (hZ : va_Z "BookOfAll$Rules" "WITHOUT" "[I" (.ref tW) (fun q : Nat => s.heap.size ≤ q) s s.heap) (hT : va_T .int tW 14 (fun k => .int (jz_f k)) (fun q : Nat => s.heap.size ≤ q) s s.heap) (hK : va_K (dC, dI) vwCl (xT ca ++ mT cm) s) {H : Heap} {locs : List Loc} {ls : Array Slot} (hP : va_P (dC, dI) vwCl (xW ax ca ++ mW am cm) H) (hD : va_D (fun q : Nat => s.heap.size ≤ q) (xW ax ca ++ mW am cm)) (hS : va_S (fun q : Nat => s.heap.size ≤ q) s.heap H locs) (hl : lv_has ls 4 [(3, .int 0), (2, .ref (am 0)), (1, .ref (ax 0)), (0, .ref b)]) : W p l e room_1 s m #[Value.ref b] below meth c H locs 152 53404 (lw_Z below #[Value.ref b] s) (F0 m 1352 ls []) := by
  have C0 := C0
  obtain ⟨hx, hb, hr, hml, hown, hts, hX, hbl, hlocks, hgv⟩ := id C0
  have hA : ∀ q : Nat, s.heap.size ≤ q → (fun q : Nat => s.heap.size ≤ q) q := fun _ h => h
  have hbA : ¬ (fun q : Nat => s.heap.size ≤ q) b := Nat.not_le.mpr hbl
  refine lv_aload_n hx hb dL_law_1352 rfl (lv_at hl 2 rfl) ?_
  refine lv_aload_n hx hb dL_law_1353 rfl (lv_at hl 3 rfl) ?_
  refine lv_iload_n hx hb dL_law_1354 rfl (lv_at hl 0 rfl) ?_
  refine lv_iconst (v := 1) hx hb dL_law_1355 (by decide) ?_
  refine lv_iadd hx hb dL_law_1356 ?_
  refine jt_i 1 (by decide) ?_
  refine va_sld hx hb hX hbl hbA hS (vp_in_nI (n := 1) (by decide) (by decide)) dL_law_1357 ?_
  refine jt_i (xs 1) rfl ?_
  have hPs := jp_init hP
  have hDs := jd_init hD
  have hKs := jk_init hK
  refine jc_i (va_runV (As := [.int (xs 1)]) (rest := []) ⟨hx, hb, hml, hown, hts⟩ (tX12_ends l dC dI _ ax ca (xs 1)) (cwV 1 hts (jgoodVL m_944 m_945 m_946 m_210 m_947) rfl rfl rfl (by decide +kernel) ⟨(Nat.le_of_ble_eq_true rfl), (Nat.le_of_ble_eq_true rfl)⟩) ⟨jw_blind, va_recv hKs hPs (ci := 12) (q0 := 0) rfl rfl, fun U hU hW => ⟨rfl, jw_of hU hW hPs hKs hDs⟩⟩ rfl rfl hl.1 rfl (lv_room (Nat.le_of_ble_eq_true rfl)) dL_law_1358 ⟨(Nat.le_of_ble_eq_true rfl), (Nat.le_of_ble_eq_true rfl)⟩) hP hS hA (fun r1 H locs hr1 hP hS => ?_)
  have hPm := jp_tail hP
  have hr1 : r1 = (-1) := hr1
  refine lv_aload_n hx hb dL_law_1361 rfl (lv_at hl 1 rfl) ?_
  refine lv_aload_n hx hb dL_law_1362 rfl (lv_at hl 3 rfl) ?_
  refine lv_iload_n hx hb dL_law_1363 rfl (lv_at hl 0 rfl) ?_
  refine lv_iconst (v := 1) hx hb dL_law_1364 (by decide) ?_
  refine lv_iadd hx hb dL_law_1365 ?_
  refine jt_i 1 (by decide) ?_
  refine va_sld hx hb hX hbl hbA hS (vp_in_nI (n := 1) (by decide) (by decide)) dL_law_1366 ?_
  refine jt_i (xs 1) rfl ?_
  have hPs := hPm
  have hDs := jd_tail hD
  have hKs := jk_tail hK
  refine jc_i (va_runV (As := [.int (xs 1)]) (rest := [.int r1]) ⟨hx, hb, hml, hown, hts⟩ (tX13_ends l dC dI _ am cm (xs 1)) (cwV 1 hts (jgoodVL m_948 m_949 m_950 m_96 m_951) rfl rfl rfl (by decide +kernel) ⟨(Nat.le_of_ble_eq_true rfl), (Nat.le_of_ble_eq_true rfl)⟩) ⟨jw_blind, va_recv hKs hPs (ci := 13) (q0 := 0) rfl rfl, fun U hU hW => ⟨rfl, jw_of hU hW hPs hKs hDs⟩⟩ rfl rfl hl.1 rfl (lv_room (Nat.le_of_ble_eq_true rfl)) dL_law_1367 ⟨(Nat.le_of_ble_eq_true rfl), (Nat.le_of_ble_eq_true rfl)⟩) hPm hS hA (fun r2 H locs hr2 hPm hS => ?_)
  have hr2 : r2 = (-1) := hr2
  refine lv_icmp_eq (tgt := 1804) hx hb dL_law_1370 (by decide) (fun _ => ?_) (fun z => absurd (hr1.trans hr2.symm) z)
  exact lc_end C0 hS hl (Nat.le_of_ble_eq_true rfl) (Nat.le_of_ble_eq_true rfl)
set_option maxHeartbeats 4000000 in
set_option maxRecDepth 100000 in
theorem lc_35 {p : Program} {l : Launch} {e : Env} {s : State} {m : MethodId} {below : List Frame} {meth : Method} {c : Code} {b : Nat} {xs : Nat → Int32} (C0 : lw_At p s m meth c b 6 xs) {dC : Nat → ClassId} {dI : Nat → Nat → Nat} {ax am : Nat → Nat} {ca cm : Nat → ClassId} {tW : Nat} (hE : jE s) (hZ : va_Z "BookOfAll$Rules" "WITHOUT" "[I" (.ref tW) (fun q : Nat => s.heap.size ≤ q) s s.heap) (hT : va_T .int tW 14 (fun k => .int (jz_f k)) (fun q : Nat => s.heap.size ≤ q) s s.heap) (hK : va_K (dC, dI) vwCl (xT ca ++ mT cm) s) {H : Heap} {locs : List Loc} {ls : Array Slot} (hP : va_P (dC, dI) vwCl (xW ax ca ++ mW am cm) H) (hD : va_D (fun q : Nat => s.heap.size ≤ q) (xW ax ca ++ mW am cm)) (hS : va_S (fun q : Nat => s.heap.size ≤ q) s.heap H locs) (hl : lv_has ls 4 [(3, .int 0), (2, .ref (am 0)), (1, .ref (ax 0)), (0, .ref b)]) : W p l e room_1 s m #[Value.ref b] below meth c H locs 152 53404 (lw_Z below #[Value.ref b] s) (F0 m 1375 ls []) := by
  have C0 := C0
  obtain ⟨hx, hb, hr, hml, hown, hts, hX, hbl, hlocks, hgv⟩ := id C0
  have hA : ∀ q : Nat, s.heap.size ≤ q → (fun q : Nat => s.heap.size ≤ q) q := fun _ h => h
  have hbA : ¬ (fun q : Nat => s.heap.size ≤ q) b := Nat.not_le.mpr hbl
  refine lv_aload_n hx hb dL_law_1375 rfl (lv_at hl 2 rfl) ?_
  refine lv_aload_n hx hb dL_law_1376 rfl (lv_at hl 3 rfl) ?_
  refine lv_iload_n hx hb dL_law_1377 rfl (lv_at hl 0 rfl) ?_
  refine lv_iconst (v := 1) hx hb dL_law_1378 (by decide) ?_
  refine lv_iadd hx hb dL_law_1379 ?_
  refine jt_i 1 (by decide) ?_
  refine va_sld hx hb hX hbl hbA hS (vp_in_nI (n := 1) (by decide) (by decide)) dL_law_1380 ?_
  refine jt_i (xs 1) rfl ?_
  have hPs := jp_init hP
  have hDs := jd_init hD
  have hKs := jk_init hK
  refine jc_i (va_runV (As := [.int (xs 1)]) (rest := []) ⟨hx, hb, hml, hown, hts⟩ (tX12_promised l dC dI _ ax ca (xs 1)) (cwV 1 hts (jgoodVL m_952 m_953 m_954 m_210 m_955) rfl rfl rfl (by decide +kernel) ⟨(Nat.le_of_ble_eq_true rfl), (Nat.le_of_ble_eq_true rfl)⟩) ⟨jw_blind, va_recv hKs hPs (ci := 12) (q0 := 0) rfl rfl, fun U hU hW => ⟨rfl, jw_of hU hW hPs hKs hDs⟩⟩ rfl rfl hl.1 rfl (lv_room (Nat.le_of_ble_eq_true rfl)) dL_law_1381 ⟨(Nat.le_of_ble_eq_true rfl), (Nat.le_of_ble_eq_true rfl)⟩) hP hS hA (fun r1 H locs hr1 hP hS => ?_)
  have hPm := jp_tail hP
  have hr1 : r1 = (-1) := hr1
  refine lv_aload_n hx hb dL_law_1384 rfl (lv_at hl 1 rfl) ?_
  refine lv_aload_n hx hb dL_law_1385 rfl (lv_at hl 3 rfl) ?_
  refine lv_iload_n hx hb dL_law_1386 rfl (lv_at hl 0 rfl) ?_
  refine lv_iconst (v := 1) hx hb dL_law_1387 (by decide) ?_
  refine lv_iadd hx hb dL_law_1388 ?_
  refine jt_i 1 (by decide) ?_
  refine va_sld hx hb hX hbl hbA hS (vp_in_nI (n := 1) (by decide) (by decide)) dL_law_1389 ?_
  refine jt_i (xs 1) rfl ?_
  have hPs := hPm
  have hDs := jd_tail hD
  have hKs := jk_tail hK
  refine jc_i (va_runV (As := [.int (xs 1)]) (rest := [.int r1]) ⟨hx, hb, hml, hown, hts⟩ (tX13_promised l dC dI _ am cm (xs 1)) (cwV 1 hts (jgoodVL m_956 m_957 m_958 m_96 m_959) rfl rfl rfl (by decide +kernel) ⟨(Nat.le_of_ble_eq_true rfl), (Nat.le_of_ble_eq_true rfl)⟩) ⟨jw_blind, va_recv hKs hPs (ci := 13) (q0 := 0) rfl rfl, fun U hU hW => ⟨rfl, jw_of hU hW hPs hKs hDs⟩⟩ rfl rfl hl.1 rfl (lv_room (Nat.le_of_ble_eq_true rfl)) dL_law_1390 ⟨(Nat.le_of_ble_eq_true rfl), (Nat.le_of_ble_eq_true rfl)⟩) hPm hS hA (fun r2 H locs hr2 hPm hS => ?_)
  have hr2 : r2 = (-1) := hr2
  refine lv_icmp_eq (tgt := 1804) hx hb dL_law_1393 (by decide) (fun _ => ?_) (fun z => absurd (hr1.trans hr2.symm) z)
  exact lc_end C0 hS hl (Nat.le_of_ble_eq_true rfl) (Nat.le_of_ble_eq_true rfl)
set_option maxHeartbeats 4000000 in
set_option maxRecDepth 100000 in
theorem lc_36 {p : Program} {l : Launch} {e : Env} {s : State} {m : MethodId} {below : List Frame} {meth : Method} {c : Code} {b : Nat} {xs : Nat → Int32} (C0 : lw_At p s m meth c b 6 xs) {dC : Nat → ClassId} {dI : Nat → Nat → Nat} {ax am : Nat → Nat} {ca cm : Nat → ClassId} {tW : Nat} (hE : jE s) (hZ : va_Z "BookOfAll$Rules" "WITHOUT" "[I" (.ref tW) (fun q : Nat => s.heap.size ≤ q) s s.heap) (hT : va_T .int tW 14 (fun k => .int (jz_f k)) (fun q : Nat => s.heap.size ≤ q) s s.heap) (hK : va_K (dC, dI) vwCl (xT ca ++ mT cm) s) {H : Heap} {locs : List Loc} {ls : Array Slot} (hP : va_P (dC, dI) vwCl (xW ax ca ++ mW am cm) H) (hD : va_D (fun q : Nat => s.heap.size ≤ q) (xW ax ca ++ mW am cm)) (hS : va_S (fun q : Nat => s.heap.size ≤ q) s.heap H locs) (hl : lv_has ls 4 [(3, .int 0), (2, .ref (am 0)), (1, .ref (ax 0)), (0, .ref b)]) : W p l e room_1 s m #[Value.ref b] below meth c H locs 152 53404 (lw_Z below #[Value.ref b] s) (F0 m 1398 ls []) := by
  have C0 := C0
  obtain ⟨hx, hb, hr, hml, hown, hts, hX, hbl, hlocks, hgv⟩ := id C0
  have hA : ∀ q : Nat, s.heap.size ≤ q → (fun q : Nat => s.heap.size ≤ q) q := fun _ h => h
  have hbA : ¬ (fun q : Nat => s.heap.size ≤ q) b := Nat.not_le.mpr hbl
  refine lv_aload_n hx hb dL_law_1398 rfl (lv_at hl 2 rfl) ?_
  refine lv_aload_n hx hb dL_law_1399 rfl (lv_at hl 3 rfl) ?_
  refine lv_iload_n hx hb dL_law_1400 rfl (lv_at hl 0 rfl) ?_
  refine lv_iconst (v := 1) hx hb dL_law_1401 (by decide) ?_
  refine lv_iadd hx hb dL_law_1402 ?_
  refine jt_i 1 (by decide) ?_
  refine va_sld hx hb hX hbl hbA hS (vp_in_nI (n := 1) (by decide) (by decide)) dL_law_1403 ?_
  refine jt_i (xs 1) rfl ?_
  refine lv_aload_n hx hb dL_law_1404 rfl (lv_at hl 3 rfl) ?_
  refine lv_iload_n hx hb dL_law_1405 rfl (lv_at hl 0 rfl) ?_
  refine lv_iconst (v := 2) hx hb dL_law_1406 (by decide) ?_
  refine lv_iadd hx hb dL_law_1407 ?_
  refine jt_i 2 (by decide) ?_
  refine va_sld hx hb hX hbl hbA hS (vp_in_nI (n := 2) (by decide) (by decide)) dL_law_1408 ?_
  refine jt_i (xs 2) rfl ?_
  refine lv_aload_n hx hb dL_law_1409 rfl (lv_at hl 3 rfl) ?_
  refine lv_iload_n hx hb dL_law_1410 rfl (lv_at hl 0 rfl) ?_
  refine lv_iconst (v := 3) hx hb dL_law_1411 (by decide) ?_
  refine lv_iadd hx hb dL_law_1412 ?_
  refine jt_i 3 (by decide) ?_
  refine va_sld hx hb hX hbl hbA hS (vp_in_nI (n := 3) (by decide) (by decide)) dL_law_1413 ?_
  refine jt_i (xs 3) rfl ?_
  have hPs := jp_init hP
  have hDs := jd_init hD
  have hKs := jk_init hK
  refine jcx_i (va_runV (As := [.int (xs 1), .int (xs 2), .int (xs 3)]) (rest := []) ⟨hx, hb, hml, hown, hts⟩ (tX12_subscribe l dC dI _ ax ca (xs 1) (xs 2) (xs 3)) (cwV 3 hts (jgoodVL m_960 m_961 m_962 m_210 m_963) rfl rfl rfl (by decide +kernel) ⟨(Nat.le_of_ble_eq_true rfl), (Nat.le_of_ble_eq_true rfl)⟩) ⟨jw_blind, va_recv hKs hPs (ci := 12) (q0 := 0) rfl rfl, fun U hU hW => ⟨rfl, jw_of hU hW hPs hKs hDs⟩⟩ rfl rfl hl.1 rfl (lv_room (Nat.le_of_ble_eq_true rfl)) dL_law_1414 ⟨(Nat.le_of_ble_eq_true rfl), (Nat.le_of_ble_eq_true rfl)⟩) hP hD hS hA (fun r1 H locs hr1 hPm hS => ?_)
  have hr1 : r1 = sp_subscribe (xs 1) (xs 2) (xs 3) := hr1
  refine lv_aload_n hx hb dL_law_1417 rfl (lv_at hl 1 rfl) ?_
  refine lv_aload_n hx hb dL_law_1418 rfl (lv_at hl 3 rfl) ?_
  refine lv_iload_n hx hb dL_law_1419 rfl (lv_at hl 0 rfl) ?_
  refine lv_iconst (v := 1) hx hb dL_law_1420 (by decide) ?_
  refine lv_iadd hx hb dL_law_1421 ?_
  refine jt_i 1 (by decide) ?_
  refine va_sld hx hb hX hbl hbA hS (vp_in_nI (n := 1) (by decide) (by decide)) dL_law_1422 ?_
  refine jt_i (xs 1) rfl ?_
  refine lv_aload_n hx hb dL_law_1423 rfl (lv_at hl 3 rfl) ?_
  refine lv_iload_n hx hb dL_law_1424 rfl (lv_at hl 0 rfl) ?_
  refine lv_iconst (v := 2) hx hb dL_law_1425 (by decide) ?_
  refine lv_iadd hx hb dL_law_1426 ?_
  refine jt_i 2 (by decide) ?_
  refine va_sld hx hb hX hbl hbA hS (vp_in_nI (n := 2) (by decide) (by decide)) dL_law_1427 ?_
  refine jt_i (xs 2) rfl ?_
  refine lv_aload_n hx hb dL_law_1428 rfl (lv_at hl 3 rfl) ?_
  refine lv_iload_n hx hb dL_law_1429 rfl (lv_at hl 0 rfl) ?_
  refine lv_iconst (v := 3) hx hb dL_law_1430 (by decide) ?_
  refine lv_iadd hx hb dL_law_1431 ?_
  refine jt_i 3 (by decide) ?_
  refine va_sld hx hb hX hbl hbA hS (vp_in_nI (n := 3) (by decide) (by decide)) dL_law_1432 ?_
  refine jt_i (xs 3) rfl ?_
  have hPs := hPm
  have hDs := jd_tail hD
  have hKs := jk_tail hK
  refine jcy_i (va_runV (As := [.int (xs 1), .int (xs 2), .int (xs 3)]) (rest := [.int r1]) ⟨hx, hb, hml, hown, hts⟩ (tX13_subscribe l dC dI _ am cm (xs 1) (xs 2) (xs 3)) (cwV 3 hts (jgoodVL m_964 m_965 m_966 m_96 m_967) rfl rfl rfl (by decide +kernel) ⟨(Nat.le_of_ble_eq_true rfl), (Nat.le_of_ble_eq_true rfl)⟩) ⟨jw_blind, va_recv hKs hPs (ci := 13) (q0 := 0) rfl rfl, fun U hU hW => ⟨rfl, jw_of hU hW hPs hKs hDs⟩⟩ rfl rfl hl.1 rfl (lv_room (Nat.le_of_ble_eq_true rfl)) dL_law_1433 ⟨(Nat.le_of_ble_eq_true rfl), (Nat.le_of_ble_eq_true rfl)⟩) hDs hS hA (fun r2 H locs hr2 hS => ?_)
  have hr2 : r2 = sp_subscribe (xs 1) (xs 2) (xs 3) := hr2
  refine lv_icmp_eq (tgt := 1804) hx hb dL_law_1436 (by decide) (fun _ => ?_) (fun z => absurd (hr1.trans hr2.symm) z)
  exact lc_end C0 hS hl (Nat.le_of_ble_eq_true rfl) (Nat.le_of_ble_eq_true rfl)
set_option maxHeartbeats 4000000 in
set_option maxRecDepth 100000 in
theorem lc_37 {p : Program} {l : Launch} {e : Env} {s : State} {m : MethodId} {below : List Frame} {meth : Method} {c : Code} {b : Nat} {xs : Nat → Int32} (C0 : lw_At p s m meth c b 6 xs) {dC : Nat → ClassId} {dI : Nat → Nat → Nat} {ax am : Nat → Nat} {ca cm : Nat → ClassId} {tW : Nat} (hE : jE s) (hZ : va_Z "BookOfAll$Rules" "WITHOUT" "[I" (.ref tW) (fun q : Nat => s.heap.size ≤ q) s s.heap) (hT : va_T .int tW 14 (fun k => .int (jz_f k)) (fun q : Nat => s.heap.size ≤ q) s s.heap) (hK : va_K (dC, dI) vwCl (xT ca ++ mT cm) s) {H : Heap} {locs : List Loc} {ls : Array Slot} (hP : va_P (dC, dI) vwCl (xW ax ca ++ mW am cm) H) (hD : va_D (fun q : Nat => s.heap.size ≤ q) (xW ax ca ++ mW am cm)) (hS : va_S (fun q : Nat => s.heap.size ≤ q) s.heap H locs) (hl : lv_has ls 4 [(3, .int 0), (2, .ref (am 0)), (1, .ref (ax 0)), (0, .ref b)]) : W p l e room_1 s m #[Value.ref b] below meth c H locs 152 53404 (lw_Z below #[Value.ref b] s) (F0 m 1441 ls []) := by
  have C0 := C0
  obtain ⟨hx, hb, hr, hml, hown, hts, hX, hbl, hlocks, hgv⟩ := id C0
  have hA : ∀ q : Nat, s.heap.size ≤ q → (fun q : Nat => s.heap.size ≤ q) q := fun _ h => h
  have hbA : ¬ (fun q : Nat => s.heap.size ≤ q) b := Nat.not_le.mpr hbl
  rcases jv6 (xs 2) with h | h | h | h | h | h | h | h
  · refine lv_aload_n hx hb dL_law_1441 rfl (lv_at hl 2 rfl) ?_
    refine lv_aload_n hx hb dL_law_1442 rfl (lv_at hl 3 rfl) ?_
    refine lv_iload_n hx hb dL_law_1443 rfl (lv_at hl 0 rfl) ?_
    refine lv_iconst (v := 1) hx hb dL_law_1444 (by decide) ?_
    refine lv_iadd hx hb dL_law_1445 ?_
    refine jt_i 1 (by decide) ?_
    refine va_sld hx hb hX hbl hbA hS (vp_in_nI (n := 1) (by decide) (by decide)) dL_law_1446 ?_
    refine jt_i (xs 1) rfl ?_
    refine lv_aload_n hx hb dL_law_1447 rfl (lv_at hl 3 rfl) ?_
    refine lv_iload_n hx hb dL_law_1448 rfl (lv_at hl 0 rfl) ?_
    refine lv_iconst (v := 2) hx hb dL_law_1449 (by decide) ?_
    refine lv_iadd hx hb dL_law_1450 ?_
    refine jt_i 2 (by decide) ?_
    refine va_sld hx hb hX hbl hbA hS (vp_in_nI (n := 2) (by decide) (by decide)) dL_law_1451 ?_
    refine jt_i (xs 2) rfl ?_
    have hPs := jp_init hP
    have hDs := jd_init hD
    have hKs := jk_init hK
    refine jc_i (va_runV (As := [.int (xs 1), .int (xs 2)]) (rest := []) ⟨hx, hb, hml, hown, hts⟩ (tX12_owed_lo l dC dI _ ax ca (xs 1) (xs 2) h) (cwV 2 hts (jgoodVL m_968 m_969 m_970 m_210 m_971) rfl rfl rfl (by decide +kernel) ⟨(Nat.le_of_ble_eq_true rfl), (Nat.le_of_ble_eq_true rfl)⟩) ⟨jw_blind, va_recv hKs hPs (ci := 12) (q0 := 0) rfl rfl, fun U hU hW => ⟨rfl, jw_of hU hW hPs hKs hDs⟩⟩ rfl rfl hl.1 rfl (lv_room (Nat.le_of_ble_eq_true rfl)) dL_law_1452 ⟨(Nat.le_of_ble_eq_true rfl), (Nat.le_of_ble_eq_true rfl)⟩) hP hS hA (fun r1 H locs hr1 hP hS => ?_)
    have hPm := jp_tail hP
    have hr1 : r1 = (-1) := hr1
    refine lv_aload_n hx hb dL_law_1455 rfl (lv_at hl 1 rfl) ?_
    refine lv_aload_n hx hb dL_law_1456 rfl (lv_at hl 3 rfl) ?_
    refine lv_iload_n hx hb dL_law_1457 rfl (lv_at hl 0 rfl) ?_
    refine lv_iconst (v := 1) hx hb dL_law_1458 (by decide) ?_
    refine lv_iadd hx hb dL_law_1459 ?_
    refine jt_i 1 (by decide) ?_
    refine va_sld hx hb hX hbl hbA hS (vp_in_nI (n := 1) (by decide) (by decide)) dL_law_1460 ?_
    refine jt_i (xs 1) rfl ?_
    refine lv_aload_n hx hb dL_law_1461 rfl (lv_at hl 3 rfl) ?_
    refine lv_iload_n hx hb dL_law_1462 rfl (lv_at hl 0 rfl) ?_
    refine lv_iconst (v := 2) hx hb dL_law_1463 (by decide) ?_
    refine lv_iadd hx hb dL_law_1464 ?_
    refine jt_i 2 (by decide) ?_
    refine va_sld hx hb hX hbl hbA hS (vp_in_nI (n := 2) (by decide) (by decide)) dL_law_1465 ?_
    refine jt_i (xs 2) rfl ?_
    have hPs := hPm
    have hDs := jd_tail hD
    have hKs := jk_tail hK
    refine jc_i (va_runV (As := [.int (xs 1), .int (xs 2)]) (rest := [.int r1]) ⟨hx, hb, hml, hown, hts⟩ (tX13_owed l dC dI _ am cm (xs 1) (xs 2)) (cwV 2 hts (jgoodVL m_972 m_973 m_974 m_96 m_975) rfl rfl rfl (by decide +kernel) ⟨(Nat.le_of_ble_eq_true rfl), (Nat.le_of_ble_eq_true rfl)⟩) ⟨jw_blind, va_recv hKs hPs (ci := 13) (q0 := 0) rfl rfl, fun U hU hW => ⟨rfl, jw_of hU hW hPs hKs hDs⟩⟩ rfl rfl hl.1 rfl (lv_room (Nat.le_of_ble_eq_true rfl)) dL_law_1466 ⟨(Nat.le_of_ble_eq_true rfl), (Nat.le_of_ble_eq_true rfl)⟩) hPm hS hA (fun r2 H locs hr2 hPm hS => ?_)
    have hr2 : r2 = (-1) := hr2
    refine lv_icmp_eq (tgt := 1804) hx hb dL_law_1469 (by decide) (fun _ => ?_) (fun z => absurd (hr1.trans hr2.symm) z)
    exact lc_end C0 hS hl (Nat.le_of_ble_eq_true rfl) (Nat.le_of_ble_eq_true rfl)
  · refine lv_aload_n hx hb dL_law_1441 rfl (lv_at hl 2 rfl) ?_
    refine lv_aload_n hx hb dL_law_1442 rfl (lv_at hl 3 rfl) ?_
    refine lv_iload_n hx hb dL_law_1443 rfl (lv_at hl 0 rfl) ?_
    refine lv_iconst (v := 1) hx hb dL_law_1444 (by decide) ?_
    refine lv_iadd hx hb dL_law_1445 ?_
    refine jt_i 1 (by decide) ?_
    refine va_sld hx hb hX hbl hbA hS (vp_in_nI (n := 1) (by decide) (by decide)) dL_law_1446 ?_
    refine jt_i (xs 1) rfl ?_
    refine lv_aload_n hx hb dL_law_1447 rfl (lv_at hl 3 rfl) ?_
    refine lv_iload_n hx hb dL_law_1448 rfl (lv_at hl 0 rfl) ?_
    refine lv_iconst (v := 2) hx hb dL_law_1449 (by decide) ?_
    refine lv_iadd hx hb dL_law_1450 ?_
    refine jt_i 2 (by decide) ?_
    refine va_sld hx hb hX hbl hbA hS (vp_in_nI (n := 2) (by decide) (by decide)) dL_law_1451 ?_
    refine jt_i (xs 2) rfl ?_
    have hPs := jp_init hP
    have hDs := jd_init hD
    have hKs := jk_init hK
    refine jc_i (va_runV (As := [.int (xs 1), .int (xs 2)]) (rest := []) ⟨hx, hb, hml, hown, hts⟩ (tX12_owed_hi l dC dI _ ax ca (xs 1) (xs 2) h) (cwV 2 hts (jgoodVL m_968 m_969 m_970 m_210 m_971) rfl rfl rfl (by decide +kernel) ⟨(Nat.le_of_ble_eq_true rfl), (Nat.le_of_ble_eq_true rfl)⟩) ⟨jw_blind, va_recv hKs hPs (ci := 12) (q0 := 0) rfl rfl, fun U hU hW => ⟨rfl, jw_of hU hW hPs hKs hDs⟩⟩ rfl rfl hl.1 rfl (lv_room (Nat.le_of_ble_eq_true rfl)) dL_law_1452 ⟨(Nat.le_of_ble_eq_true rfl), (Nat.le_of_ble_eq_true rfl)⟩) hP hS hA (fun r1 H locs hr1 hP hS => ?_)
    have hPm := jp_tail hP
    have hr1 : r1 = (-1) := hr1
    refine lv_aload_n hx hb dL_law_1455 rfl (lv_at hl 1 rfl) ?_
    refine lv_aload_n hx hb dL_law_1456 rfl (lv_at hl 3 rfl) ?_
    refine lv_iload_n hx hb dL_law_1457 rfl (lv_at hl 0 rfl) ?_
    refine lv_iconst (v := 1) hx hb dL_law_1458 (by decide) ?_
    refine lv_iadd hx hb dL_law_1459 ?_
    refine jt_i 1 (by decide) ?_
    refine va_sld hx hb hX hbl hbA hS (vp_in_nI (n := 1) (by decide) (by decide)) dL_law_1460 ?_
    refine jt_i (xs 1) rfl ?_
    refine lv_aload_n hx hb dL_law_1461 rfl (lv_at hl 3 rfl) ?_
    refine lv_iload_n hx hb dL_law_1462 rfl (lv_at hl 0 rfl) ?_
    refine lv_iconst (v := 2) hx hb dL_law_1463 (by decide) ?_
    refine lv_iadd hx hb dL_law_1464 ?_
    refine jt_i 2 (by decide) ?_
    refine va_sld hx hb hX hbl hbA hS (vp_in_nI (n := 2) (by decide) (by decide)) dL_law_1465 ?_
    refine jt_i (xs 2) rfl ?_
    have hPs := hPm
    have hDs := jd_tail hD
    have hKs := jk_tail hK
    refine jc_i (va_runV (As := [.int (xs 1), .int (xs 2)]) (rest := [.int r1]) ⟨hx, hb, hml, hown, hts⟩ (tX13_owed l dC dI _ am cm (xs 1) (xs 2)) (cwV 2 hts (jgoodVL m_972 m_973 m_974 m_96 m_975) rfl rfl rfl (by decide +kernel) ⟨(Nat.le_of_ble_eq_true rfl), (Nat.le_of_ble_eq_true rfl)⟩) ⟨jw_blind, va_recv hKs hPs (ci := 13) (q0 := 0) rfl rfl, fun U hU hW => ⟨rfl, jw_of hU hW hPs hKs hDs⟩⟩ rfl rfl hl.1 rfl (lv_room (Nat.le_of_ble_eq_true rfl)) dL_law_1466 ⟨(Nat.le_of_ble_eq_true rfl), (Nat.le_of_ble_eq_true rfl)⟩) hPm hS hA (fun r2 H locs hr2 hPm hS => ?_)
    have hr2 : r2 = (-1) := hr2
    refine lv_icmp_eq (tgt := 1804) hx hb dL_law_1469 (by decide) (fun _ => ?_) (fun z => absurd (hr1.trans hr2.symm) z)
    exact lc_end C0 hS hl (Nat.le_of_ble_eq_true rfl) (Nat.le_of_ble_eq_true rfl)
  · refine lv_aload_n hx hb dL_law_1441 rfl (lv_at hl 2 rfl) ?_
    refine lv_aload_n hx hb dL_law_1442 rfl (lv_at hl 3 rfl) ?_
    refine lv_iload_n hx hb dL_law_1443 rfl (lv_at hl 0 rfl) ?_
    refine lv_iconst (v := 1) hx hb dL_law_1444 (by decide) ?_
    refine lv_iadd hx hb dL_law_1445 ?_
    refine jt_i 1 (by decide) ?_
    refine va_sld hx hb hX hbl hbA hS (vp_in_nI (n := 1) (by decide) (by decide)) dL_law_1446 ?_
    refine jt_i (xs 1) rfl ?_
    refine lv_aload_n hx hb dL_law_1447 rfl (lv_at hl 3 rfl) ?_
    refine lv_iload_n hx hb dL_law_1448 rfl (lv_at hl 0 rfl) ?_
    refine lv_iconst (v := 2) hx hb dL_law_1449 (by decide) ?_
    refine lv_iadd hx hb dL_law_1450 ?_
    refine jt_i 2 (by decide) ?_
    refine va_sld hx hb hX hbl hbA hS (vp_in_nI (n := 2) (by decide) (by decide)) dL_law_1451 ?_
    refine jt_i (xs 2) rfl ?_
    refine jt_i 0 h ?_
    have hPs := jp_init hP
    have hDs := jd_init hD
    have hKs := jk_init hK
    refine jc_i (va_runV (As := [.int (xs 1), .int 0]) (rest := []) ⟨hx, hb, hml, hown, hts⟩ (tX12_owed_v0 l dC dI _ ax ca (xs 1)) (cwV 2 hts (jgoodVL m_968 m_969 m_970 m_210 m_971) rfl rfl rfl (by decide +kernel) ⟨(Nat.le_of_ble_eq_true rfl), (Nat.le_of_ble_eq_true rfl)⟩) ⟨jw_blind, va_recv hKs hPs (ci := 12) (q0 := 0) rfl rfl, fun U hU hW => ⟨rfl, jw_of hU hW hPs hKs hDs⟩⟩ rfl rfl hl.1 rfl (lv_room (Nat.le_of_ble_eq_true rfl)) dL_law_1452 ⟨(Nat.le_of_ble_eq_true rfl), (Nat.le_of_ble_eq_true rfl)⟩) hP hS hA (fun r1 H locs hr1 hP hS => ?_)
    have hPm := jp_tail hP
    have hr1 : r1 = (-1) := hr1
    refine lv_aload_n hx hb dL_law_1455 rfl (lv_at hl 1 rfl) ?_
    refine lv_aload_n hx hb dL_law_1456 rfl (lv_at hl 3 rfl) ?_
    refine lv_iload_n hx hb dL_law_1457 rfl (lv_at hl 0 rfl) ?_
    refine lv_iconst (v := 1) hx hb dL_law_1458 (by decide) ?_
    refine lv_iadd hx hb dL_law_1459 ?_
    refine jt_i 1 (by decide) ?_
    refine va_sld hx hb hX hbl hbA hS (vp_in_nI (n := 1) (by decide) (by decide)) dL_law_1460 ?_
    refine jt_i (xs 1) rfl ?_
    refine lv_aload_n hx hb dL_law_1461 rfl (lv_at hl 3 rfl) ?_
    refine lv_iload_n hx hb dL_law_1462 rfl (lv_at hl 0 rfl) ?_
    refine lv_iconst (v := 2) hx hb dL_law_1463 (by decide) ?_
    refine lv_iadd hx hb dL_law_1464 ?_
    refine jt_i 2 (by decide) ?_
    refine va_sld hx hb hX hbl hbA hS (vp_in_nI (n := 2) (by decide) (by decide)) dL_law_1465 ?_
    refine jt_i (xs 2) rfl ?_
    refine jt_i 0 h ?_
    have hPs := hPm
    have hDs := jd_tail hD
    have hKs := jk_tail hK
    refine jc_i (va_runV (As := [.int (xs 1), .int 0]) (rest := [.int r1]) ⟨hx, hb, hml, hown, hts⟩ (tX13_owed l dC dI _ am cm (xs 1) 0) (cwV 2 hts (jgoodVL m_972 m_973 m_974 m_96 m_975) rfl rfl rfl (by decide +kernel) ⟨(Nat.le_of_ble_eq_true rfl), (Nat.le_of_ble_eq_true rfl)⟩) ⟨jw_blind, va_recv hKs hPs (ci := 13) (q0 := 0) rfl rfl, fun U hU hW => ⟨rfl, jw_of hU hW hPs hKs hDs⟩⟩ rfl rfl hl.1 rfl (lv_room (Nat.le_of_ble_eq_true rfl)) dL_law_1466 ⟨(Nat.le_of_ble_eq_true rfl), (Nat.le_of_ble_eq_true rfl)⟩) hPm hS hA (fun r2 H locs hr2 hPm hS => ?_)
    have hr2 : r2 = (-1) := hr2
    refine lv_icmp_eq (tgt := 1804) hx hb dL_law_1469 (by decide) (fun _ => ?_) (fun z => absurd (hr1.trans hr2.symm) z)
    exact lc_end C0 hS hl (Nat.le_of_ble_eq_true rfl) (Nat.le_of_ble_eq_true rfl)
  · refine lv_aload_n hx hb dL_law_1441 rfl (lv_at hl 2 rfl) ?_
    refine lv_aload_n hx hb dL_law_1442 rfl (lv_at hl 3 rfl) ?_
    refine lv_iload_n hx hb dL_law_1443 rfl (lv_at hl 0 rfl) ?_
    refine lv_iconst (v := 1) hx hb dL_law_1444 (by decide) ?_
    refine lv_iadd hx hb dL_law_1445 ?_
    refine jt_i 1 (by decide) ?_
    refine va_sld hx hb hX hbl hbA hS (vp_in_nI (n := 1) (by decide) (by decide)) dL_law_1446 ?_
    refine jt_i (xs 1) rfl ?_
    refine lv_aload_n hx hb dL_law_1447 rfl (lv_at hl 3 rfl) ?_
    refine lv_iload_n hx hb dL_law_1448 rfl (lv_at hl 0 rfl) ?_
    refine lv_iconst (v := 2) hx hb dL_law_1449 (by decide) ?_
    refine lv_iadd hx hb dL_law_1450 ?_
    refine jt_i 2 (by decide) ?_
    refine va_sld hx hb hX hbl hbA hS (vp_in_nI (n := 2) (by decide) (by decide)) dL_law_1451 ?_
    refine jt_i (xs 2) rfl ?_
    refine jt_i 1 h ?_
    have hPs := jp_init hP
    have hDs := jd_init hD
    have hKs := jk_init hK
    refine jc_i (va_runV (As := [.int (xs 1), .int 1]) (rest := []) ⟨hx, hb, hml, hown, hts⟩ (tX12_owed_v1 l dC dI _ ax ca (xs 1)) (cwV 2 hts (jgoodVL m_968 m_969 m_970 m_210 m_971) rfl rfl rfl (by decide +kernel) ⟨(Nat.le_of_ble_eq_true rfl), (Nat.le_of_ble_eq_true rfl)⟩) ⟨jw_blind, va_recv hKs hPs (ci := 12) (q0 := 0) rfl rfl, fun U hU hW => ⟨rfl, jw_of hU hW hPs hKs hDs⟩⟩ rfl rfl hl.1 rfl (lv_room (Nat.le_of_ble_eq_true rfl)) dL_law_1452 ⟨(Nat.le_of_ble_eq_true rfl), (Nat.le_of_ble_eq_true rfl)⟩) hP hS hA (fun r1 H locs hr1 hP hS => ?_)
    have hPm := jp_tail hP
    have hr1 : r1 = (-1) := hr1
    refine lv_aload_n hx hb dL_law_1455 rfl (lv_at hl 1 rfl) ?_
    refine lv_aload_n hx hb dL_law_1456 rfl (lv_at hl 3 rfl) ?_
    refine lv_iload_n hx hb dL_law_1457 rfl (lv_at hl 0 rfl) ?_
    refine lv_iconst (v := 1) hx hb dL_law_1458 (by decide) ?_
    refine lv_iadd hx hb dL_law_1459 ?_
    refine jt_i 1 (by decide) ?_
    refine va_sld hx hb hX hbl hbA hS (vp_in_nI (n := 1) (by decide) (by decide)) dL_law_1460 ?_
    refine jt_i (xs 1) rfl ?_
    refine lv_aload_n hx hb dL_law_1461 rfl (lv_at hl 3 rfl) ?_
    refine lv_iload_n hx hb dL_law_1462 rfl (lv_at hl 0 rfl) ?_
    refine lv_iconst (v := 2) hx hb dL_law_1463 (by decide) ?_
    refine lv_iadd hx hb dL_law_1464 ?_
    refine jt_i 2 (by decide) ?_
    refine va_sld hx hb hX hbl hbA hS (vp_in_nI (n := 2) (by decide) (by decide)) dL_law_1465 ?_
    refine jt_i (xs 2) rfl ?_
    refine jt_i 1 h ?_
    have hPs := hPm
    have hDs := jd_tail hD
    have hKs := jk_tail hK
    refine jc_i (va_runV (As := [.int (xs 1), .int 1]) (rest := [.int r1]) ⟨hx, hb, hml, hown, hts⟩ (tX13_owed l dC dI _ am cm (xs 1) 1) (cwV 2 hts (jgoodVL m_972 m_973 m_974 m_96 m_975) rfl rfl rfl (by decide +kernel) ⟨(Nat.le_of_ble_eq_true rfl), (Nat.le_of_ble_eq_true rfl)⟩) ⟨jw_blind, va_recv hKs hPs (ci := 13) (q0 := 0) rfl rfl, fun U hU hW => ⟨rfl, jw_of hU hW hPs hKs hDs⟩⟩ rfl rfl hl.1 rfl (lv_room (Nat.le_of_ble_eq_true rfl)) dL_law_1466 ⟨(Nat.le_of_ble_eq_true rfl), (Nat.le_of_ble_eq_true rfl)⟩) hPm hS hA (fun r2 H locs hr2 hPm hS => ?_)
    have hr2 : r2 = (-1) := hr2
    refine lv_icmp_eq (tgt := 1804) hx hb dL_law_1469 (by decide) (fun _ => ?_) (fun z => absurd (hr1.trans hr2.symm) z)
    exact lc_end C0 hS hl (Nat.le_of_ble_eq_true rfl) (Nat.le_of_ble_eq_true rfl)
  · refine lv_aload_n hx hb dL_law_1441 rfl (lv_at hl 2 rfl) ?_
    refine lv_aload_n hx hb dL_law_1442 rfl (lv_at hl 3 rfl) ?_
    refine lv_iload_n hx hb dL_law_1443 rfl (lv_at hl 0 rfl) ?_
    refine lv_iconst (v := 1) hx hb dL_law_1444 (by decide) ?_
    refine lv_iadd hx hb dL_law_1445 ?_
    refine jt_i 1 (by decide) ?_
    refine va_sld hx hb hX hbl hbA hS (vp_in_nI (n := 1) (by decide) (by decide)) dL_law_1446 ?_
    refine jt_i (xs 1) rfl ?_
    refine lv_aload_n hx hb dL_law_1447 rfl (lv_at hl 3 rfl) ?_
    refine lv_iload_n hx hb dL_law_1448 rfl (lv_at hl 0 rfl) ?_
    refine lv_iconst (v := 2) hx hb dL_law_1449 (by decide) ?_
    refine lv_iadd hx hb dL_law_1450 ?_
    refine jt_i 2 (by decide) ?_
    refine va_sld hx hb hX hbl hbA hS (vp_in_nI (n := 2) (by decide) (by decide)) dL_law_1451 ?_
    refine jt_i (xs 2) rfl ?_
    refine jt_i 2 h ?_
    have hPs := jp_init hP
    have hDs := jd_init hD
    have hKs := jk_init hK
    refine jc_i (va_runV (As := [.int (xs 1), .int 2]) (rest := []) ⟨hx, hb, hml, hown, hts⟩ (tX12_owed_v2 l dC dI _ ax ca (xs 1)) (cwV 2 hts (jgoodVL m_968 m_969 m_970 m_210 m_971) rfl rfl rfl (by decide +kernel) ⟨(Nat.le_of_ble_eq_true rfl), (Nat.le_of_ble_eq_true rfl)⟩) ⟨jw_blind, va_recv hKs hPs (ci := 12) (q0 := 0) rfl rfl, fun U hU hW => ⟨rfl, jw_of hU hW hPs hKs hDs⟩⟩ rfl rfl hl.1 rfl (lv_room (Nat.le_of_ble_eq_true rfl)) dL_law_1452 ⟨(Nat.le_of_ble_eq_true rfl), (Nat.le_of_ble_eq_true rfl)⟩) hP hS hA (fun r1 H locs hr1 hP hS => ?_)
    have hPm := jp_tail hP
    have hr1 : r1 = (-1) := hr1
    refine lv_aload_n hx hb dL_law_1455 rfl (lv_at hl 1 rfl) ?_
    refine lv_aload_n hx hb dL_law_1456 rfl (lv_at hl 3 rfl) ?_
    refine lv_iload_n hx hb dL_law_1457 rfl (lv_at hl 0 rfl) ?_
    refine lv_iconst (v := 1) hx hb dL_law_1458 (by decide) ?_
    refine lv_iadd hx hb dL_law_1459 ?_
    refine jt_i 1 (by decide) ?_
    refine va_sld hx hb hX hbl hbA hS (vp_in_nI (n := 1) (by decide) (by decide)) dL_law_1460 ?_
    refine jt_i (xs 1) rfl ?_
    refine lv_aload_n hx hb dL_law_1461 rfl (lv_at hl 3 rfl) ?_
    refine lv_iload_n hx hb dL_law_1462 rfl (lv_at hl 0 rfl) ?_
    refine lv_iconst (v := 2) hx hb dL_law_1463 (by decide) ?_
    refine lv_iadd hx hb dL_law_1464 ?_
    refine jt_i 2 (by decide) ?_
    refine va_sld hx hb hX hbl hbA hS (vp_in_nI (n := 2) (by decide) (by decide)) dL_law_1465 ?_
    refine jt_i (xs 2) rfl ?_
    refine jt_i 2 h ?_
    have hPs := hPm
    have hDs := jd_tail hD
    have hKs := jk_tail hK
    refine jc_i (va_runV (As := [.int (xs 1), .int 2]) (rest := [.int r1]) ⟨hx, hb, hml, hown, hts⟩ (tX13_owed l dC dI _ am cm (xs 1) 2) (cwV 2 hts (jgoodVL m_972 m_973 m_974 m_96 m_975) rfl rfl rfl (by decide +kernel) ⟨(Nat.le_of_ble_eq_true rfl), (Nat.le_of_ble_eq_true rfl)⟩) ⟨jw_blind, va_recv hKs hPs (ci := 13) (q0 := 0) rfl rfl, fun U hU hW => ⟨rfl, jw_of hU hW hPs hKs hDs⟩⟩ rfl rfl hl.1 rfl (lv_room (Nat.le_of_ble_eq_true rfl)) dL_law_1466 ⟨(Nat.le_of_ble_eq_true rfl), (Nat.le_of_ble_eq_true rfl)⟩) hPm hS hA (fun r2 H locs hr2 hPm hS => ?_)
    have hr2 : r2 = (-1) := hr2
    refine lv_icmp_eq (tgt := 1804) hx hb dL_law_1469 (by decide) (fun _ => ?_) (fun z => absurd (hr1.trans hr2.symm) z)
    exact lc_end C0 hS hl (Nat.le_of_ble_eq_true rfl) (Nat.le_of_ble_eq_true rfl)
  · refine lv_aload_n hx hb dL_law_1441 rfl (lv_at hl 2 rfl) ?_
    refine lv_aload_n hx hb dL_law_1442 rfl (lv_at hl 3 rfl) ?_
    refine lv_iload_n hx hb dL_law_1443 rfl (lv_at hl 0 rfl) ?_
    refine lv_iconst (v := 1) hx hb dL_law_1444 (by decide) ?_
    refine lv_iadd hx hb dL_law_1445 ?_
    refine jt_i 1 (by decide) ?_
    refine va_sld hx hb hX hbl hbA hS (vp_in_nI (n := 1) (by decide) (by decide)) dL_law_1446 ?_
    refine jt_i (xs 1) rfl ?_
    refine lv_aload_n hx hb dL_law_1447 rfl (lv_at hl 3 rfl) ?_
    refine lv_iload_n hx hb dL_law_1448 rfl (lv_at hl 0 rfl) ?_
    refine lv_iconst (v := 2) hx hb dL_law_1449 (by decide) ?_
    refine lv_iadd hx hb dL_law_1450 ?_
    refine jt_i 2 (by decide) ?_
    refine va_sld hx hb hX hbl hbA hS (vp_in_nI (n := 2) (by decide) (by decide)) dL_law_1451 ?_
    refine jt_i (xs 2) rfl ?_
    refine jt_i 3 h ?_
    have hPs := jp_init hP
    have hDs := jd_init hD
    have hKs := jk_init hK
    refine jc_i (va_runV (As := [.int (xs 1), .int 3]) (rest := []) ⟨hx, hb, hml, hown, hts⟩ (tX12_owed_v3 l dC dI _ ax ca (xs 1)) (cwV 2 hts (jgoodVL m_968 m_969 m_970 m_210 m_971) rfl rfl rfl (by decide +kernel) ⟨(Nat.le_of_ble_eq_true rfl), (Nat.le_of_ble_eq_true rfl)⟩) ⟨jw_blind, va_recv hKs hPs (ci := 12) (q0 := 0) rfl rfl, fun U hU hW => ⟨rfl, jw_of hU hW hPs hKs hDs⟩⟩ rfl rfl hl.1 rfl (lv_room (Nat.le_of_ble_eq_true rfl)) dL_law_1452 ⟨(Nat.le_of_ble_eq_true rfl), (Nat.le_of_ble_eq_true rfl)⟩) hP hS hA (fun r1 H locs hr1 hP hS => ?_)
    have hPm := jp_tail hP
    have hr1 : r1 = (-1) := hr1
    refine lv_aload_n hx hb dL_law_1455 rfl (lv_at hl 1 rfl) ?_
    refine lv_aload_n hx hb dL_law_1456 rfl (lv_at hl 3 rfl) ?_
    refine lv_iload_n hx hb dL_law_1457 rfl (lv_at hl 0 rfl) ?_
    refine lv_iconst (v := 1) hx hb dL_law_1458 (by decide) ?_
    refine lv_iadd hx hb dL_law_1459 ?_
    refine jt_i 1 (by decide) ?_
    refine va_sld hx hb hX hbl hbA hS (vp_in_nI (n := 1) (by decide) (by decide)) dL_law_1460 ?_
    refine jt_i (xs 1) rfl ?_
    refine lv_aload_n hx hb dL_law_1461 rfl (lv_at hl 3 rfl) ?_
    refine lv_iload_n hx hb dL_law_1462 rfl (lv_at hl 0 rfl) ?_
    refine lv_iconst (v := 2) hx hb dL_law_1463 (by decide) ?_
    refine lv_iadd hx hb dL_law_1464 ?_
    refine jt_i 2 (by decide) ?_
    refine va_sld hx hb hX hbl hbA hS (vp_in_nI (n := 2) (by decide) (by decide)) dL_law_1465 ?_
    refine jt_i (xs 2) rfl ?_
    refine jt_i 3 h ?_
    have hPs := hPm
    have hDs := jd_tail hD
    have hKs := jk_tail hK
    refine jc_i (va_runV (As := [.int (xs 1), .int 3]) (rest := [.int r1]) ⟨hx, hb, hml, hown, hts⟩ (tX13_owed l dC dI _ am cm (xs 1) 3) (cwV 2 hts (jgoodVL m_972 m_973 m_974 m_96 m_975) rfl rfl rfl (by decide +kernel) ⟨(Nat.le_of_ble_eq_true rfl), (Nat.le_of_ble_eq_true rfl)⟩) ⟨jw_blind, va_recv hKs hPs (ci := 13) (q0 := 0) rfl rfl, fun U hU hW => ⟨rfl, jw_of hU hW hPs hKs hDs⟩⟩ rfl rfl hl.1 rfl (lv_room (Nat.le_of_ble_eq_true rfl)) dL_law_1466 ⟨(Nat.le_of_ble_eq_true rfl), (Nat.le_of_ble_eq_true rfl)⟩) hPm hS hA (fun r2 H locs hr2 hPm hS => ?_)
    have hr2 : r2 = (-1) := hr2
    refine lv_icmp_eq (tgt := 1804) hx hb dL_law_1469 (by decide) (fun _ => ?_) (fun z => absurd (hr1.trans hr2.symm) z)
    exact lc_end C0 hS hl (Nat.le_of_ble_eq_true rfl) (Nat.le_of_ble_eq_true rfl)
  · refine lv_aload_n hx hb dL_law_1441 rfl (lv_at hl 2 rfl) ?_
    refine lv_aload_n hx hb dL_law_1442 rfl (lv_at hl 3 rfl) ?_
    refine lv_iload_n hx hb dL_law_1443 rfl (lv_at hl 0 rfl) ?_
    refine lv_iconst (v := 1) hx hb dL_law_1444 (by decide) ?_
    refine lv_iadd hx hb dL_law_1445 ?_
    refine jt_i 1 (by decide) ?_
    refine va_sld hx hb hX hbl hbA hS (vp_in_nI (n := 1) (by decide) (by decide)) dL_law_1446 ?_
    refine jt_i (xs 1) rfl ?_
    refine lv_aload_n hx hb dL_law_1447 rfl (lv_at hl 3 rfl) ?_
    refine lv_iload_n hx hb dL_law_1448 rfl (lv_at hl 0 rfl) ?_
    refine lv_iconst (v := 2) hx hb dL_law_1449 (by decide) ?_
    refine lv_iadd hx hb dL_law_1450 ?_
    refine jt_i 2 (by decide) ?_
    refine va_sld hx hb hX hbl hbA hS (vp_in_nI (n := 2) (by decide) (by decide)) dL_law_1451 ?_
    refine jt_i (xs 2) rfl ?_
    refine jt_i 4 h ?_
    have hPs := jp_init hP
    have hDs := jd_init hD
    have hKs := jk_init hK
    refine jc_i (va_runV (As := [.int (xs 1), .int 4]) (rest := []) ⟨hx, hb, hml, hown, hts⟩ (tX12_owed_v4 l dC dI _ ax ca (xs 1)) (cwV 2 hts (jgoodVL m_968 m_969 m_970 m_210 m_971) rfl rfl rfl (by decide +kernel) ⟨(Nat.le_of_ble_eq_true rfl), (Nat.le_of_ble_eq_true rfl)⟩) ⟨jw_blind, va_recv hKs hPs (ci := 12) (q0 := 0) rfl rfl, fun U hU hW => ⟨rfl, jw_of hU hW hPs hKs hDs⟩⟩ rfl rfl hl.1 rfl (lv_room (Nat.le_of_ble_eq_true rfl)) dL_law_1452 ⟨(Nat.le_of_ble_eq_true rfl), (Nat.le_of_ble_eq_true rfl)⟩) hP hS hA (fun r1 H locs hr1 hP hS => ?_)
    have hPm := jp_tail hP
    have hr1 : r1 = (-1) := hr1
    refine lv_aload_n hx hb dL_law_1455 rfl (lv_at hl 1 rfl) ?_
    refine lv_aload_n hx hb dL_law_1456 rfl (lv_at hl 3 rfl) ?_
    refine lv_iload_n hx hb dL_law_1457 rfl (lv_at hl 0 rfl) ?_
    refine lv_iconst (v := 1) hx hb dL_law_1458 (by decide) ?_
    refine lv_iadd hx hb dL_law_1459 ?_
    refine jt_i 1 (by decide) ?_
    refine va_sld hx hb hX hbl hbA hS (vp_in_nI (n := 1) (by decide) (by decide)) dL_law_1460 ?_
    refine jt_i (xs 1) rfl ?_
    refine lv_aload_n hx hb dL_law_1461 rfl (lv_at hl 3 rfl) ?_
    refine lv_iload_n hx hb dL_law_1462 rfl (lv_at hl 0 rfl) ?_
    refine lv_iconst (v := 2) hx hb dL_law_1463 (by decide) ?_
    refine lv_iadd hx hb dL_law_1464 ?_
    refine jt_i 2 (by decide) ?_
    refine va_sld hx hb hX hbl hbA hS (vp_in_nI (n := 2) (by decide) (by decide)) dL_law_1465 ?_
    refine jt_i (xs 2) rfl ?_
    refine jt_i 4 h ?_
    have hPs := hPm
    have hDs := jd_tail hD
    have hKs := jk_tail hK
    refine jc_i (va_runV (As := [.int (xs 1), .int 4]) (rest := [.int r1]) ⟨hx, hb, hml, hown, hts⟩ (tX13_owed l dC dI _ am cm (xs 1) 4) (cwV 2 hts (jgoodVL m_972 m_973 m_974 m_96 m_975) rfl rfl rfl (by decide +kernel) ⟨(Nat.le_of_ble_eq_true rfl), (Nat.le_of_ble_eq_true rfl)⟩) ⟨jw_blind, va_recv hKs hPs (ci := 13) (q0 := 0) rfl rfl, fun U hU hW => ⟨rfl, jw_of hU hW hPs hKs hDs⟩⟩ rfl rfl hl.1 rfl (lv_room (Nat.le_of_ble_eq_true rfl)) dL_law_1466 ⟨(Nat.le_of_ble_eq_true rfl), (Nat.le_of_ble_eq_true rfl)⟩) hPm hS hA (fun r2 H locs hr2 hPm hS => ?_)
    have hr2 : r2 = (-1) := hr2
    refine lv_icmp_eq (tgt := 1804) hx hb dL_law_1469 (by decide) (fun _ => ?_) (fun z => absurd (hr1.trans hr2.symm) z)
    exact lc_end C0 hS hl (Nat.le_of_ble_eq_true rfl) (Nat.le_of_ble_eq_true rfl)
  · refine lv_aload_n hx hb dL_law_1441 rfl (lv_at hl 2 rfl) ?_
    refine lv_aload_n hx hb dL_law_1442 rfl (lv_at hl 3 rfl) ?_
    refine lv_iload_n hx hb dL_law_1443 rfl (lv_at hl 0 rfl) ?_
    refine lv_iconst (v := 1) hx hb dL_law_1444 (by decide) ?_
    refine lv_iadd hx hb dL_law_1445 ?_
    refine jt_i 1 (by decide) ?_
    refine va_sld hx hb hX hbl hbA hS (vp_in_nI (n := 1) (by decide) (by decide)) dL_law_1446 ?_
    refine jt_i (xs 1) rfl ?_
    refine lv_aload_n hx hb dL_law_1447 rfl (lv_at hl 3 rfl) ?_
    refine lv_iload_n hx hb dL_law_1448 rfl (lv_at hl 0 rfl) ?_
    refine lv_iconst (v := 2) hx hb dL_law_1449 (by decide) ?_
    refine lv_iadd hx hb dL_law_1450 ?_
    refine jt_i 2 (by decide) ?_
    refine va_sld hx hb hX hbl hbA hS (vp_in_nI (n := 2) (by decide) (by decide)) dL_law_1451 ?_
    refine jt_i (xs 2) rfl ?_
    refine jt_i 5 h ?_
    have hPs := jp_init hP
    have hDs := jd_init hD
    have hKs := jk_init hK
    refine jc_i (va_runV (As := [.int (xs 1), .int 5]) (rest := []) ⟨hx, hb, hml, hown, hts⟩ (tX12_owed_v5 l dC dI _ ax ca (xs 1)) (cwV 2 hts (jgoodVL m_968 m_969 m_970 m_210 m_971) rfl rfl rfl (by decide +kernel) ⟨(Nat.le_of_ble_eq_true rfl), (Nat.le_of_ble_eq_true rfl)⟩) ⟨jw_blind, va_recv hKs hPs (ci := 12) (q0 := 0) rfl rfl, fun U hU hW => ⟨rfl, jw_of hU hW hPs hKs hDs⟩⟩ rfl rfl hl.1 rfl (lv_room (Nat.le_of_ble_eq_true rfl)) dL_law_1452 ⟨(Nat.le_of_ble_eq_true rfl), (Nat.le_of_ble_eq_true rfl)⟩) hP hS hA (fun r1 H locs hr1 hP hS => ?_)
    have hPm := jp_tail hP
    have hr1 : r1 = (-1) := hr1
    refine lv_aload_n hx hb dL_law_1455 rfl (lv_at hl 1 rfl) ?_
    refine lv_aload_n hx hb dL_law_1456 rfl (lv_at hl 3 rfl) ?_
    refine lv_iload_n hx hb dL_law_1457 rfl (lv_at hl 0 rfl) ?_
    refine lv_iconst (v := 1) hx hb dL_law_1458 (by decide) ?_
    refine lv_iadd hx hb dL_law_1459 ?_
    refine jt_i 1 (by decide) ?_
    refine va_sld hx hb hX hbl hbA hS (vp_in_nI (n := 1) (by decide) (by decide)) dL_law_1460 ?_
    refine jt_i (xs 1) rfl ?_
    refine lv_aload_n hx hb dL_law_1461 rfl (lv_at hl 3 rfl) ?_
    refine lv_iload_n hx hb dL_law_1462 rfl (lv_at hl 0 rfl) ?_
    refine lv_iconst (v := 2) hx hb dL_law_1463 (by decide) ?_
    refine lv_iadd hx hb dL_law_1464 ?_
    refine jt_i 2 (by decide) ?_
    refine va_sld hx hb hX hbl hbA hS (vp_in_nI (n := 2) (by decide) (by decide)) dL_law_1465 ?_
    refine jt_i (xs 2) rfl ?_
    refine jt_i 5 h ?_
    have hPs := hPm
    have hDs := jd_tail hD
    have hKs := jk_tail hK
    refine jc_i (va_runV (As := [.int (xs 1), .int 5]) (rest := [.int r1]) ⟨hx, hb, hml, hown, hts⟩ (tX13_owed l dC dI _ am cm (xs 1) 5) (cwV 2 hts (jgoodVL m_972 m_973 m_974 m_96 m_975) rfl rfl rfl (by decide +kernel) ⟨(Nat.le_of_ble_eq_true rfl), (Nat.le_of_ble_eq_true rfl)⟩) ⟨jw_blind, va_recv hKs hPs (ci := 13) (q0 := 0) rfl rfl, fun U hU hW => ⟨rfl, jw_of hU hW hPs hKs hDs⟩⟩ rfl rfl hl.1 rfl (lv_room (Nat.le_of_ble_eq_true rfl)) dL_law_1466 ⟨(Nat.le_of_ble_eq_true rfl), (Nat.le_of_ble_eq_true rfl)⟩) hPm hS hA (fun r2 H locs hr2 hPm hS => ?_)
    have hr2 : r2 = (-1) := hr2
    refine lv_icmp_eq (tgt := 1804) hx hb dL_law_1469 (by decide) (fun _ => ?_) (fun z => absurd (hr1.trans hr2.symm) z)
    exact lc_end C0 hS hl (Nat.le_of_ble_eq_true rfl) (Nat.le_of_ble_eq_true rfl)
set_option maxHeartbeats 4000000 in
set_option maxRecDepth 100000 in
theorem lc_38 {p : Program} {l : Launch} {e : Env} {s : State} {m : MethodId} {below : List Frame} {meth : Method} {c : Code} {b : Nat} {xs : Nat → Int32} (C0 : lw_At p s m meth c b 6 xs) {dC : Nat → ClassId} {dI : Nat → Nat → Nat} {ax am : Nat → Nat} {ca cm : Nat → ClassId} {tW : Nat} (hE : jE s) (hZ : va_Z "BookOfAll$Rules" "WITHOUT" "[I" (.ref tW) (fun q : Nat => s.heap.size ≤ q) s s.heap) (hT : va_T .int tW 14 (fun k => .int (jz_f k)) (fun q : Nat => s.heap.size ≤ q) s s.heap) (hK : va_K (dC, dI) vwCl (xT ca ++ mT cm) s) {H : Heap} {locs : List Loc} {ls : Array Slot} (hP : va_P (dC, dI) vwCl (xW ax ca ++ mW am cm) H) (hD : va_D (fun q : Nat => s.heap.size ≤ q) (xW ax ca ++ mW am cm)) (hS : va_S (fun q : Nat => s.heap.size ≤ q) s.heap H locs) (hl : lv_has ls 4 [(3, .int 0), (2, .ref (am 0)), (1, .ref (ax 0)), (0, .ref b)]) : W p l e room_1 s m #[Value.ref b] below meth c H locs 152 53404 (lw_Z below #[Value.ref b] s) (F0 m 1474 ls []) := by
  have C0 := C0
  obtain ⟨hx, hb, hr, hml, hown, hts, hX, hbl, hlocks, hgv⟩ := id C0
  have hA : ∀ q : Nat, s.heap.size ≤ q → (fun q : Nat => s.heap.size ≤ q) q := fun _ h => h
  have hbA : ¬ (fun q : Nat => s.heap.size ≤ q) b := Nat.not_le.mpr hbl
  rcases jv6 (xs 1) with h | h | h | h | h | h | h | h
  · refine lv_aload_n hx hb dL_law_1474 rfl (lv_at hl 2 rfl) ?_
    refine lv_aload_n hx hb dL_law_1475 rfl (lv_at hl 3 rfl) ?_
    refine lv_iload_n hx hb dL_law_1476 rfl (lv_at hl 0 rfl) ?_
    refine lv_iconst (v := 1) hx hb dL_law_1477 (by decide) ?_
    refine lv_iadd hx hb dL_law_1478 ?_
    refine jt_i 1 (by decide) ?_
    refine va_sld hx hb hX hbl hbA hS (vp_in_nI (n := 1) (by decide) (by decide)) dL_law_1479 ?_
    refine jt_i (xs 1) rfl ?_
    refine lv_aload_n hx hb dL_law_1480 rfl (lv_at hl 3 rfl) ?_
    refine lv_iload_n hx hb dL_law_1481 rfl (lv_at hl 0 rfl) ?_
    refine lv_iconst (v := 2) hx hb dL_law_1482 (by decide) ?_
    refine lv_iadd hx hb dL_law_1483 ?_
    refine jt_i 2 (by decide) ?_
    refine va_sld hx hb hX hbl hbA hS (vp_in_nI (n := 2) (by decide) (by decide)) dL_law_1484 ?_
    refine jt_i (xs 2) rfl ?_
    have hPs := jp_init hP
    have hDs := jd_init hD
    have hKs := jk_init hK
    refine jcx_i (va_runV (As := [.int (xs 1), .int (xs 2)]) (rest := []) ⟨hx, hb, hml, hown, hts⟩ (tX12_lengths_lo l dC dI _ ax ca (xs 1) (xs 2) h tW) (cwV 2 hts (jgoodVL m_976 m_977 m_978 m_210 m_979) rfl rfl rfl (by decide +kernel) ⟨(Nat.le_of_ble_eq_true rfl), (Nat.le_of_ble_eq_true rfl)⟩) ⟨jw_blindZ, va_recv hKs hPs (ci := 12) (q0 := 0) rfl rfl, fun U hU hW => ⟨rfl, jw_of hU hW hPs hKs hDs, jz_of hU hW hDs hS hA hZ hT⟩⟩ rfl rfl hl.1 rfl (lv_room (Nat.le_of_ble_eq_true rfl)) dL_law_1485 ⟨(Nat.le_of_ble_eq_true rfl), (Nat.le_of_ble_eq_true rfl)⟩) hP hD hS hA (fun r1 H locs hr1 hPm hS => ?_)
    have hr1 : r1 = sp_lengths (xs 1) (xs 2) := hr1
    refine lv_aload_n hx hb dL_law_1488 rfl (lv_at hl 1 rfl) ?_
    refine lv_aload_n hx hb dL_law_1489 rfl (lv_at hl 3 rfl) ?_
    refine lv_iload_n hx hb dL_law_1490 rfl (lv_at hl 0 rfl) ?_
    refine lv_iconst (v := 1) hx hb dL_law_1491 (by decide) ?_
    refine lv_iadd hx hb dL_law_1492 ?_
    refine jt_i 1 (by decide) ?_
    refine va_sld hx hb hX hbl hbA hS (vp_in_nI (n := 1) (by decide) (by decide)) dL_law_1493 ?_
    refine jt_i (xs 1) rfl ?_
    refine lv_aload_n hx hb dL_law_1494 rfl (lv_at hl 3 rfl) ?_
    refine lv_iload_n hx hb dL_law_1495 rfl (lv_at hl 0 rfl) ?_
    refine lv_iconst (v := 2) hx hb dL_law_1496 (by decide) ?_
    refine lv_iadd hx hb dL_law_1497 ?_
    refine jt_i 2 (by decide) ?_
    refine va_sld hx hb hX hbl hbA hS (vp_in_nI (n := 2) (by decide) (by decide)) dL_law_1498 ?_
    refine jt_i (xs 2) rfl ?_
    have hPs := hPm
    have hDs := jd_tail hD
    have hKs := jk_tail hK
    refine jcy_i (va_runV (As := [.int (xs 1), .int (xs 2)]) (rest := [.int r1]) ⟨hx, hb, hml, hown, hts⟩ (tX13_lengths l dC dI _ am cm (xs 1) (xs 2)) (cwV 2 hts (jgoodVL m_980 m_981 m_982 m_96 m_983) rfl rfl rfl (by decide +kernel) ⟨(Nat.le_of_ble_eq_true rfl), (Nat.le_of_ble_eq_true rfl)⟩) ⟨jw_blind, va_recv hKs hPs (ci := 13) (q0 := 0) rfl rfl, fun U hU hW => ⟨rfl, jw_of hU hW hPs hKs hDs⟩⟩ rfl rfl hl.1 rfl (lv_room (Nat.le_of_ble_eq_true rfl)) dL_law_1499 ⟨(Nat.le_of_ble_eq_true rfl), (Nat.le_of_ble_eq_true rfl)⟩) hDs hS hA (fun r2 H locs hr2 hS => ?_)
    have hr2 : r2 = sp_lengths (xs 1) (xs 2) := hr2
    refine lv_icmp_eq (tgt := 1804) hx hb dL_law_1502 (by decide) (fun _ => ?_) (fun z => absurd (hr1.trans hr2.symm) z)
    exact lc_end C0 hS hl (Nat.le_of_ble_eq_true rfl) (Nat.le_of_ble_eq_true rfl)
  · refine lv_aload_n hx hb dL_law_1474 rfl (lv_at hl 2 rfl) ?_
    refine lv_aload_n hx hb dL_law_1475 rfl (lv_at hl 3 rfl) ?_
    refine lv_iload_n hx hb dL_law_1476 rfl (lv_at hl 0 rfl) ?_
    refine lv_iconst (v := 1) hx hb dL_law_1477 (by decide) ?_
    refine lv_iadd hx hb dL_law_1478 ?_
    refine jt_i 1 (by decide) ?_
    refine va_sld hx hb hX hbl hbA hS (vp_in_nI (n := 1) (by decide) (by decide)) dL_law_1479 ?_
    refine jt_i (xs 1) rfl ?_
    refine lv_aload_n hx hb dL_law_1480 rfl (lv_at hl 3 rfl) ?_
    refine lv_iload_n hx hb dL_law_1481 rfl (lv_at hl 0 rfl) ?_
    refine lv_iconst (v := 2) hx hb dL_law_1482 (by decide) ?_
    refine lv_iadd hx hb dL_law_1483 ?_
    refine jt_i 2 (by decide) ?_
    refine va_sld hx hb hX hbl hbA hS (vp_in_nI (n := 2) (by decide) (by decide)) dL_law_1484 ?_
    refine jt_i (xs 2) rfl ?_
    have hPs := jp_init hP
    have hDs := jd_init hD
    have hKs := jk_init hK
    refine jcx_i (va_runV (As := [.int (xs 1), .int (xs 2)]) (rest := []) ⟨hx, hb, hml, hown, hts⟩ (tX12_lengths_hi l dC dI _ ax ca (xs 1) (xs 2) h tW) (cwV 2 hts (jgoodVL m_976 m_977 m_978 m_210 m_979) rfl rfl rfl (by decide +kernel) ⟨(Nat.le_of_ble_eq_true rfl), (Nat.le_of_ble_eq_true rfl)⟩) ⟨jw_blindZ, va_recv hKs hPs (ci := 12) (q0 := 0) rfl rfl, fun U hU hW => ⟨rfl, jw_of hU hW hPs hKs hDs, jz_of hU hW hDs hS hA hZ hT⟩⟩ rfl rfl hl.1 rfl (lv_room (Nat.le_of_ble_eq_true rfl)) dL_law_1485 ⟨(Nat.le_of_ble_eq_true rfl), (Nat.le_of_ble_eq_true rfl)⟩) hP hD hS hA (fun r1 H locs hr1 hPm hS => ?_)
    have hr1 : r1 = sp_lengths (xs 1) (xs 2) := hr1
    refine lv_aload_n hx hb dL_law_1488 rfl (lv_at hl 1 rfl) ?_
    refine lv_aload_n hx hb dL_law_1489 rfl (lv_at hl 3 rfl) ?_
    refine lv_iload_n hx hb dL_law_1490 rfl (lv_at hl 0 rfl) ?_
    refine lv_iconst (v := 1) hx hb dL_law_1491 (by decide) ?_
    refine lv_iadd hx hb dL_law_1492 ?_
    refine jt_i 1 (by decide) ?_
    refine va_sld hx hb hX hbl hbA hS (vp_in_nI (n := 1) (by decide) (by decide)) dL_law_1493 ?_
    refine jt_i (xs 1) rfl ?_
    refine lv_aload_n hx hb dL_law_1494 rfl (lv_at hl 3 rfl) ?_
    refine lv_iload_n hx hb dL_law_1495 rfl (lv_at hl 0 rfl) ?_
    refine lv_iconst (v := 2) hx hb dL_law_1496 (by decide) ?_
    refine lv_iadd hx hb dL_law_1497 ?_
    refine jt_i 2 (by decide) ?_
    refine va_sld hx hb hX hbl hbA hS (vp_in_nI (n := 2) (by decide) (by decide)) dL_law_1498 ?_
    refine jt_i (xs 2) rfl ?_
    have hPs := hPm
    have hDs := jd_tail hD
    have hKs := jk_tail hK
    refine jcy_i (va_runV (As := [.int (xs 1), .int (xs 2)]) (rest := [.int r1]) ⟨hx, hb, hml, hown, hts⟩ (tX13_lengths l dC dI _ am cm (xs 1) (xs 2)) (cwV 2 hts (jgoodVL m_980 m_981 m_982 m_96 m_983) rfl rfl rfl (by decide +kernel) ⟨(Nat.le_of_ble_eq_true rfl), (Nat.le_of_ble_eq_true rfl)⟩) ⟨jw_blind, va_recv hKs hPs (ci := 13) (q0 := 0) rfl rfl, fun U hU hW => ⟨rfl, jw_of hU hW hPs hKs hDs⟩⟩ rfl rfl hl.1 rfl (lv_room (Nat.le_of_ble_eq_true rfl)) dL_law_1499 ⟨(Nat.le_of_ble_eq_true rfl), (Nat.le_of_ble_eq_true rfl)⟩) hDs hS hA (fun r2 H locs hr2 hS => ?_)
    have hr2 : r2 = sp_lengths (xs 1) (xs 2) := hr2
    refine lv_icmp_eq (tgt := 1804) hx hb dL_law_1502 (by decide) (fun _ => ?_) (fun z => absurd (hr1.trans hr2.symm) z)
    exact lc_end C0 hS hl (Nat.le_of_ble_eq_true rfl) (Nat.le_of_ble_eq_true rfl)
  · refine lv_aload_n hx hb dL_law_1474 rfl (lv_at hl 2 rfl) ?_
    refine lv_aload_n hx hb dL_law_1475 rfl (lv_at hl 3 rfl) ?_
    refine lv_iload_n hx hb dL_law_1476 rfl (lv_at hl 0 rfl) ?_
    refine lv_iconst (v := 1) hx hb dL_law_1477 (by decide) ?_
    refine lv_iadd hx hb dL_law_1478 ?_
    refine jt_i 1 (by decide) ?_
    refine va_sld hx hb hX hbl hbA hS (vp_in_nI (n := 1) (by decide) (by decide)) dL_law_1479 ?_
    refine jt_i (xs 1) rfl ?_
    refine jt_i 0 h ?_
    refine lv_aload_n hx hb dL_law_1480 rfl (lv_at hl 3 rfl) ?_
    refine lv_iload_n hx hb dL_law_1481 rfl (lv_at hl 0 rfl) ?_
    refine lv_iconst (v := 2) hx hb dL_law_1482 (by decide) ?_
    refine lv_iadd hx hb dL_law_1483 ?_
    refine jt_i 2 (by decide) ?_
    refine va_sld hx hb hX hbl hbA hS (vp_in_nI (n := 2) (by decide) (by decide)) dL_law_1484 ?_
    refine jt_i (xs 2) rfl ?_
    have hPs := jp_init hP
    have hDs := jd_init hD
    have hKs := jk_init hK
    refine jcx_i (va_runV (As := [.int 0, .int (xs 2)]) (rest := []) ⟨hx, hb, hml, hown, hts⟩ (tX12_lengths_v0 l dC dI _ ax ca (xs 2) tW) (cwV 2 hts (jgoodVL m_976 m_977 m_978 m_210 m_979) rfl rfl rfl (by decide +kernel) ⟨(Nat.le_of_ble_eq_true rfl), (Nat.le_of_ble_eq_true rfl)⟩) ⟨jw_blindZ, va_recv hKs hPs (ci := 12) (q0 := 0) rfl rfl, fun U hU hW => ⟨rfl, jw_of hU hW hPs hKs hDs, jz_of hU hW hDs hS hA hZ hT⟩⟩ rfl rfl hl.1 rfl (lv_room (Nat.le_of_ble_eq_true rfl)) dL_law_1485 ⟨(Nat.le_of_ble_eq_true rfl), (Nat.le_of_ble_eq_true rfl)⟩) hP hD hS hA (fun r1 H locs hr1 hPm hS => ?_)
    have hr1 : r1 = sp_lengths 0 (xs 2) := hr1
    refine lv_aload_n hx hb dL_law_1488 rfl (lv_at hl 1 rfl) ?_
    refine lv_aload_n hx hb dL_law_1489 rfl (lv_at hl 3 rfl) ?_
    refine lv_iload_n hx hb dL_law_1490 rfl (lv_at hl 0 rfl) ?_
    refine lv_iconst (v := 1) hx hb dL_law_1491 (by decide) ?_
    refine lv_iadd hx hb dL_law_1492 ?_
    refine jt_i 1 (by decide) ?_
    refine va_sld hx hb hX hbl hbA hS (vp_in_nI (n := 1) (by decide) (by decide)) dL_law_1493 ?_
    refine jt_i (xs 1) rfl ?_
    refine jt_i 0 h ?_
    refine lv_aload_n hx hb dL_law_1494 rfl (lv_at hl 3 rfl) ?_
    refine lv_iload_n hx hb dL_law_1495 rfl (lv_at hl 0 rfl) ?_
    refine lv_iconst (v := 2) hx hb dL_law_1496 (by decide) ?_
    refine lv_iadd hx hb dL_law_1497 ?_
    refine jt_i 2 (by decide) ?_
    refine va_sld hx hb hX hbl hbA hS (vp_in_nI (n := 2) (by decide) (by decide)) dL_law_1498 ?_
    refine jt_i (xs 2) rfl ?_
    have hPs := hPm
    have hDs := jd_tail hD
    have hKs := jk_tail hK
    refine jcy_i (va_runV (As := [.int 0, .int (xs 2)]) (rest := [.int r1]) ⟨hx, hb, hml, hown, hts⟩ (tX13_lengths l dC dI _ am cm 0 (xs 2)) (cwV 2 hts (jgoodVL m_980 m_981 m_982 m_96 m_983) rfl rfl rfl (by decide +kernel) ⟨(Nat.le_of_ble_eq_true rfl), (Nat.le_of_ble_eq_true rfl)⟩) ⟨jw_blind, va_recv hKs hPs (ci := 13) (q0 := 0) rfl rfl, fun U hU hW => ⟨rfl, jw_of hU hW hPs hKs hDs⟩⟩ rfl rfl hl.1 rfl (lv_room (Nat.le_of_ble_eq_true rfl)) dL_law_1499 ⟨(Nat.le_of_ble_eq_true rfl), (Nat.le_of_ble_eq_true rfl)⟩) hDs hS hA (fun r2 H locs hr2 hS => ?_)
    have hr2 : r2 = sp_lengths 0 (xs 2) := hr2
    refine lv_icmp_eq (tgt := 1804) hx hb dL_law_1502 (by decide) (fun _ => ?_) (fun z => absurd (hr1.trans hr2.symm) z)
    exact lc_end C0 hS hl (Nat.le_of_ble_eq_true rfl) (Nat.le_of_ble_eq_true rfl)
  · refine lv_aload_n hx hb dL_law_1474 rfl (lv_at hl 2 rfl) ?_
    refine lv_aload_n hx hb dL_law_1475 rfl (lv_at hl 3 rfl) ?_
    refine lv_iload_n hx hb dL_law_1476 rfl (lv_at hl 0 rfl) ?_
    refine lv_iconst (v := 1) hx hb dL_law_1477 (by decide) ?_
    refine lv_iadd hx hb dL_law_1478 ?_
    refine jt_i 1 (by decide) ?_
    refine va_sld hx hb hX hbl hbA hS (vp_in_nI (n := 1) (by decide) (by decide)) dL_law_1479 ?_
    refine jt_i (xs 1) rfl ?_
    refine jt_i 1 h ?_
    refine lv_aload_n hx hb dL_law_1480 rfl (lv_at hl 3 rfl) ?_
    refine lv_iload_n hx hb dL_law_1481 rfl (lv_at hl 0 rfl) ?_
    refine lv_iconst (v := 2) hx hb dL_law_1482 (by decide) ?_
    refine lv_iadd hx hb dL_law_1483 ?_
    refine jt_i 2 (by decide) ?_
    refine va_sld hx hb hX hbl hbA hS (vp_in_nI (n := 2) (by decide) (by decide)) dL_law_1484 ?_
    refine jt_i (xs 2) rfl ?_
    have hPs := jp_init hP
    have hDs := jd_init hD
    have hKs := jk_init hK
    refine jcx_i (va_runV (As := [.int 1, .int (xs 2)]) (rest := []) ⟨hx, hb, hml, hown, hts⟩ (tX12_lengths_v1 l dC dI _ ax ca (xs 2) tW) (cwV 2 hts (jgoodVL m_976 m_977 m_978 m_210 m_979) rfl rfl rfl (by decide +kernel) ⟨(Nat.le_of_ble_eq_true rfl), (Nat.le_of_ble_eq_true rfl)⟩) ⟨jw_blindZ, va_recv hKs hPs (ci := 12) (q0 := 0) rfl rfl, fun U hU hW => ⟨rfl, jw_of hU hW hPs hKs hDs, jz_of hU hW hDs hS hA hZ hT⟩⟩ rfl rfl hl.1 rfl (lv_room (Nat.le_of_ble_eq_true rfl)) dL_law_1485 ⟨(Nat.le_of_ble_eq_true rfl), (Nat.le_of_ble_eq_true rfl)⟩) hP hD hS hA (fun r1 H locs hr1 hPm hS => ?_)
    have hr1 : r1 = sp_lengths 1 (xs 2) := hr1
    refine lv_aload_n hx hb dL_law_1488 rfl (lv_at hl 1 rfl) ?_
    refine lv_aload_n hx hb dL_law_1489 rfl (lv_at hl 3 rfl) ?_
    refine lv_iload_n hx hb dL_law_1490 rfl (lv_at hl 0 rfl) ?_
    refine lv_iconst (v := 1) hx hb dL_law_1491 (by decide) ?_
    refine lv_iadd hx hb dL_law_1492 ?_
    refine jt_i 1 (by decide) ?_
    refine va_sld hx hb hX hbl hbA hS (vp_in_nI (n := 1) (by decide) (by decide)) dL_law_1493 ?_
    refine jt_i (xs 1) rfl ?_
    refine jt_i 1 h ?_
    refine lv_aload_n hx hb dL_law_1494 rfl (lv_at hl 3 rfl) ?_
    refine lv_iload_n hx hb dL_law_1495 rfl (lv_at hl 0 rfl) ?_
    refine lv_iconst (v := 2) hx hb dL_law_1496 (by decide) ?_
    refine lv_iadd hx hb dL_law_1497 ?_
    refine jt_i 2 (by decide) ?_
    refine va_sld hx hb hX hbl hbA hS (vp_in_nI (n := 2) (by decide) (by decide)) dL_law_1498 ?_
    refine jt_i (xs 2) rfl ?_
    have hPs := hPm
    have hDs := jd_tail hD
    have hKs := jk_tail hK
    refine jcy_i (va_runV (As := [.int 1, .int (xs 2)]) (rest := [.int r1]) ⟨hx, hb, hml, hown, hts⟩ (tX13_lengths l dC dI _ am cm 1 (xs 2)) (cwV 2 hts (jgoodVL m_980 m_981 m_982 m_96 m_983) rfl rfl rfl (by decide +kernel) ⟨(Nat.le_of_ble_eq_true rfl), (Nat.le_of_ble_eq_true rfl)⟩) ⟨jw_blind, va_recv hKs hPs (ci := 13) (q0 := 0) rfl rfl, fun U hU hW => ⟨rfl, jw_of hU hW hPs hKs hDs⟩⟩ rfl rfl hl.1 rfl (lv_room (Nat.le_of_ble_eq_true rfl)) dL_law_1499 ⟨(Nat.le_of_ble_eq_true rfl), (Nat.le_of_ble_eq_true rfl)⟩) hDs hS hA (fun r2 H locs hr2 hS => ?_)
    have hr2 : r2 = sp_lengths 1 (xs 2) := hr2
    refine lv_icmp_eq (tgt := 1804) hx hb dL_law_1502 (by decide) (fun _ => ?_) (fun z => absurd (hr1.trans hr2.symm) z)
    exact lc_end C0 hS hl (Nat.le_of_ble_eq_true rfl) (Nat.le_of_ble_eq_true rfl)
  · refine lv_aload_n hx hb dL_law_1474 rfl (lv_at hl 2 rfl) ?_
    refine lv_aload_n hx hb dL_law_1475 rfl (lv_at hl 3 rfl) ?_
    refine lv_iload_n hx hb dL_law_1476 rfl (lv_at hl 0 rfl) ?_
    refine lv_iconst (v := 1) hx hb dL_law_1477 (by decide) ?_
    refine lv_iadd hx hb dL_law_1478 ?_
    refine jt_i 1 (by decide) ?_
    refine va_sld hx hb hX hbl hbA hS (vp_in_nI (n := 1) (by decide) (by decide)) dL_law_1479 ?_
    refine jt_i (xs 1) rfl ?_
    refine jt_i 2 h ?_
    refine lv_aload_n hx hb dL_law_1480 rfl (lv_at hl 3 rfl) ?_
    refine lv_iload_n hx hb dL_law_1481 rfl (lv_at hl 0 rfl) ?_
    refine lv_iconst (v := 2) hx hb dL_law_1482 (by decide) ?_
    refine lv_iadd hx hb dL_law_1483 ?_
    refine jt_i 2 (by decide) ?_
    refine va_sld hx hb hX hbl hbA hS (vp_in_nI (n := 2) (by decide) (by decide)) dL_law_1484 ?_
    refine jt_i (xs 2) rfl ?_
    have hPs := jp_init hP
    have hDs := jd_init hD
    have hKs := jk_init hK
    refine jcx_i (va_runV (As := [.int 2, .int (xs 2)]) (rest := []) ⟨hx, hb, hml, hown, hts⟩ (tX12_lengths_v2 l dC dI _ ax ca (xs 2) tW) (cwV 2 hts (jgoodVL m_976 m_977 m_978 m_210 m_979) rfl rfl rfl (by decide +kernel) ⟨(Nat.le_of_ble_eq_true rfl), (Nat.le_of_ble_eq_true rfl)⟩) ⟨jw_blindZ, va_recv hKs hPs (ci := 12) (q0 := 0) rfl rfl, fun U hU hW => ⟨rfl, jw_of hU hW hPs hKs hDs, jz_of hU hW hDs hS hA hZ hT⟩⟩ rfl rfl hl.1 rfl (lv_room (Nat.le_of_ble_eq_true rfl)) dL_law_1485 ⟨(Nat.le_of_ble_eq_true rfl), (Nat.le_of_ble_eq_true rfl)⟩) hP hD hS hA (fun r1 H locs hr1 hPm hS => ?_)
    have hr1 : r1 = sp_lengths 2 (xs 2) := hr1
    refine lv_aload_n hx hb dL_law_1488 rfl (lv_at hl 1 rfl) ?_
    refine lv_aload_n hx hb dL_law_1489 rfl (lv_at hl 3 rfl) ?_
    refine lv_iload_n hx hb dL_law_1490 rfl (lv_at hl 0 rfl) ?_
    refine lv_iconst (v := 1) hx hb dL_law_1491 (by decide) ?_
    refine lv_iadd hx hb dL_law_1492 ?_
    refine jt_i 1 (by decide) ?_
    refine va_sld hx hb hX hbl hbA hS (vp_in_nI (n := 1) (by decide) (by decide)) dL_law_1493 ?_
    refine jt_i (xs 1) rfl ?_
    refine jt_i 2 h ?_
    refine lv_aload_n hx hb dL_law_1494 rfl (lv_at hl 3 rfl) ?_
    refine lv_iload_n hx hb dL_law_1495 rfl (lv_at hl 0 rfl) ?_
    refine lv_iconst (v := 2) hx hb dL_law_1496 (by decide) ?_
    refine lv_iadd hx hb dL_law_1497 ?_
    refine jt_i 2 (by decide) ?_
    refine va_sld hx hb hX hbl hbA hS (vp_in_nI (n := 2) (by decide) (by decide)) dL_law_1498 ?_
    refine jt_i (xs 2) rfl ?_
    have hPs := hPm
    have hDs := jd_tail hD
    have hKs := jk_tail hK
    refine jcy_i (va_runV (As := [.int 2, .int (xs 2)]) (rest := [.int r1]) ⟨hx, hb, hml, hown, hts⟩ (tX13_lengths l dC dI _ am cm 2 (xs 2)) (cwV 2 hts (jgoodVL m_980 m_981 m_982 m_96 m_983) rfl rfl rfl (by decide +kernel) ⟨(Nat.le_of_ble_eq_true rfl), (Nat.le_of_ble_eq_true rfl)⟩) ⟨jw_blind, va_recv hKs hPs (ci := 13) (q0 := 0) rfl rfl, fun U hU hW => ⟨rfl, jw_of hU hW hPs hKs hDs⟩⟩ rfl rfl hl.1 rfl (lv_room (Nat.le_of_ble_eq_true rfl)) dL_law_1499 ⟨(Nat.le_of_ble_eq_true rfl), (Nat.le_of_ble_eq_true rfl)⟩) hDs hS hA (fun r2 H locs hr2 hS => ?_)
    have hr2 : r2 = sp_lengths 2 (xs 2) := hr2
    refine lv_icmp_eq (tgt := 1804) hx hb dL_law_1502 (by decide) (fun _ => ?_) (fun z => absurd (hr1.trans hr2.symm) z)
    exact lc_end C0 hS hl (Nat.le_of_ble_eq_true rfl) (Nat.le_of_ble_eq_true rfl)
  · refine lv_aload_n hx hb dL_law_1474 rfl (lv_at hl 2 rfl) ?_
    refine lv_aload_n hx hb dL_law_1475 rfl (lv_at hl 3 rfl) ?_
    refine lv_iload_n hx hb dL_law_1476 rfl (lv_at hl 0 rfl) ?_
    refine lv_iconst (v := 1) hx hb dL_law_1477 (by decide) ?_
    refine lv_iadd hx hb dL_law_1478 ?_
    refine jt_i 1 (by decide) ?_
    refine va_sld hx hb hX hbl hbA hS (vp_in_nI (n := 1) (by decide) (by decide)) dL_law_1479 ?_
    refine jt_i (xs 1) rfl ?_
    refine jt_i 3 h ?_
    refine lv_aload_n hx hb dL_law_1480 rfl (lv_at hl 3 rfl) ?_
    refine lv_iload_n hx hb dL_law_1481 rfl (lv_at hl 0 rfl) ?_
    refine lv_iconst (v := 2) hx hb dL_law_1482 (by decide) ?_
    refine lv_iadd hx hb dL_law_1483 ?_
    refine jt_i 2 (by decide) ?_
    refine va_sld hx hb hX hbl hbA hS (vp_in_nI (n := 2) (by decide) (by decide)) dL_law_1484 ?_
    refine jt_i (xs 2) rfl ?_
    have hPs := jp_init hP
    have hDs := jd_init hD
    have hKs := jk_init hK
    refine jcx_i (va_runV (As := [.int 3, .int (xs 2)]) (rest := []) ⟨hx, hb, hml, hown, hts⟩ (tX12_lengths_v3 l dC dI _ ax ca (xs 2) tW) (cwV 2 hts (jgoodVL m_976 m_977 m_978 m_210 m_979) rfl rfl rfl (by decide +kernel) ⟨(Nat.le_of_ble_eq_true rfl), (Nat.le_of_ble_eq_true rfl)⟩) ⟨jw_blindZ, va_recv hKs hPs (ci := 12) (q0 := 0) rfl rfl, fun U hU hW => ⟨rfl, jw_of hU hW hPs hKs hDs, jz_of hU hW hDs hS hA hZ hT⟩⟩ rfl rfl hl.1 rfl (lv_room (Nat.le_of_ble_eq_true rfl)) dL_law_1485 ⟨(Nat.le_of_ble_eq_true rfl), (Nat.le_of_ble_eq_true rfl)⟩) hP hD hS hA (fun r1 H locs hr1 hPm hS => ?_)
    have hr1 : r1 = sp_lengths 3 (xs 2) := hr1
    refine lv_aload_n hx hb dL_law_1488 rfl (lv_at hl 1 rfl) ?_
    refine lv_aload_n hx hb dL_law_1489 rfl (lv_at hl 3 rfl) ?_
    refine lv_iload_n hx hb dL_law_1490 rfl (lv_at hl 0 rfl) ?_
    refine lv_iconst (v := 1) hx hb dL_law_1491 (by decide) ?_
    refine lv_iadd hx hb dL_law_1492 ?_
    refine jt_i 1 (by decide) ?_
    refine va_sld hx hb hX hbl hbA hS (vp_in_nI (n := 1) (by decide) (by decide)) dL_law_1493 ?_
    refine jt_i (xs 1) rfl ?_
    refine jt_i 3 h ?_
    refine lv_aload_n hx hb dL_law_1494 rfl (lv_at hl 3 rfl) ?_
    refine lv_iload_n hx hb dL_law_1495 rfl (lv_at hl 0 rfl) ?_
    refine lv_iconst (v := 2) hx hb dL_law_1496 (by decide) ?_
    refine lv_iadd hx hb dL_law_1497 ?_
    refine jt_i 2 (by decide) ?_
    refine va_sld hx hb hX hbl hbA hS (vp_in_nI (n := 2) (by decide) (by decide)) dL_law_1498 ?_
    refine jt_i (xs 2) rfl ?_
    have hPs := hPm
    have hDs := jd_tail hD
    have hKs := jk_tail hK
    refine jcy_i (va_runV (As := [.int 3, .int (xs 2)]) (rest := [.int r1]) ⟨hx, hb, hml, hown, hts⟩ (tX13_lengths l dC dI _ am cm 3 (xs 2)) (cwV 2 hts (jgoodVL m_980 m_981 m_982 m_96 m_983) rfl rfl rfl (by decide +kernel) ⟨(Nat.le_of_ble_eq_true rfl), (Nat.le_of_ble_eq_true rfl)⟩) ⟨jw_blind, va_recv hKs hPs (ci := 13) (q0 := 0) rfl rfl, fun U hU hW => ⟨rfl, jw_of hU hW hPs hKs hDs⟩⟩ rfl rfl hl.1 rfl (lv_room (Nat.le_of_ble_eq_true rfl)) dL_law_1499 ⟨(Nat.le_of_ble_eq_true rfl), (Nat.le_of_ble_eq_true rfl)⟩) hDs hS hA (fun r2 H locs hr2 hS => ?_)
    have hr2 : r2 = sp_lengths 3 (xs 2) := hr2
    refine lv_icmp_eq (tgt := 1804) hx hb dL_law_1502 (by decide) (fun _ => ?_) (fun z => absurd (hr1.trans hr2.symm) z)
    exact lc_end C0 hS hl (Nat.le_of_ble_eq_true rfl) (Nat.le_of_ble_eq_true rfl)
  · refine lv_aload_n hx hb dL_law_1474 rfl (lv_at hl 2 rfl) ?_
    refine lv_aload_n hx hb dL_law_1475 rfl (lv_at hl 3 rfl) ?_
    refine lv_iload_n hx hb dL_law_1476 rfl (lv_at hl 0 rfl) ?_
    refine lv_iconst (v := 1) hx hb dL_law_1477 (by decide) ?_
    refine lv_iadd hx hb dL_law_1478 ?_
    refine jt_i 1 (by decide) ?_
    refine va_sld hx hb hX hbl hbA hS (vp_in_nI (n := 1) (by decide) (by decide)) dL_law_1479 ?_
    refine jt_i (xs 1) rfl ?_
    refine jt_i 4 h ?_
    refine lv_aload_n hx hb dL_law_1480 rfl (lv_at hl 3 rfl) ?_
    refine lv_iload_n hx hb dL_law_1481 rfl (lv_at hl 0 rfl) ?_
    refine lv_iconst (v := 2) hx hb dL_law_1482 (by decide) ?_
    refine lv_iadd hx hb dL_law_1483 ?_
    refine jt_i 2 (by decide) ?_
    refine va_sld hx hb hX hbl hbA hS (vp_in_nI (n := 2) (by decide) (by decide)) dL_law_1484 ?_
    refine jt_i (xs 2) rfl ?_
    have hPs := jp_init hP
    have hDs := jd_init hD
    have hKs := jk_init hK
    refine jcx_i (va_runV (As := [.int 4, .int (xs 2)]) (rest := []) ⟨hx, hb, hml, hown, hts⟩ (tX12_lengths_v4 l dC dI _ ax ca (xs 2) tW) (cwV 2 hts (jgoodVL m_976 m_977 m_978 m_210 m_979) rfl rfl rfl (by decide +kernel) ⟨(Nat.le_of_ble_eq_true rfl), (Nat.le_of_ble_eq_true rfl)⟩) ⟨jw_blindZ, va_recv hKs hPs (ci := 12) (q0 := 0) rfl rfl, fun U hU hW => ⟨rfl, jw_of hU hW hPs hKs hDs, jz_of hU hW hDs hS hA hZ hT⟩⟩ rfl rfl hl.1 rfl (lv_room (Nat.le_of_ble_eq_true rfl)) dL_law_1485 ⟨(Nat.le_of_ble_eq_true rfl), (Nat.le_of_ble_eq_true rfl)⟩) hP hD hS hA (fun r1 H locs hr1 hPm hS => ?_)
    have hr1 : r1 = sp_lengths 4 (xs 2) := hr1
    refine lv_aload_n hx hb dL_law_1488 rfl (lv_at hl 1 rfl) ?_
    refine lv_aload_n hx hb dL_law_1489 rfl (lv_at hl 3 rfl) ?_
    refine lv_iload_n hx hb dL_law_1490 rfl (lv_at hl 0 rfl) ?_
    refine lv_iconst (v := 1) hx hb dL_law_1491 (by decide) ?_
    refine lv_iadd hx hb dL_law_1492 ?_
    refine jt_i 1 (by decide) ?_
    refine va_sld hx hb hX hbl hbA hS (vp_in_nI (n := 1) (by decide) (by decide)) dL_law_1493 ?_
    refine jt_i (xs 1) rfl ?_
    refine jt_i 4 h ?_
    refine lv_aload_n hx hb dL_law_1494 rfl (lv_at hl 3 rfl) ?_
    refine lv_iload_n hx hb dL_law_1495 rfl (lv_at hl 0 rfl) ?_
    refine lv_iconst (v := 2) hx hb dL_law_1496 (by decide) ?_
    refine lv_iadd hx hb dL_law_1497 ?_
    refine jt_i 2 (by decide) ?_
    refine va_sld hx hb hX hbl hbA hS (vp_in_nI (n := 2) (by decide) (by decide)) dL_law_1498 ?_
    refine jt_i (xs 2) rfl ?_
    have hPs := hPm
    have hDs := jd_tail hD
    have hKs := jk_tail hK
    refine jcy_i (va_runV (As := [.int 4, .int (xs 2)]) (rest := [.int r1]) ⟨hx, hb, hml, hown, hts⟩ (tX13_lengths l dC dI _ am cm 4 (xs 2)) (cwV 2 hts (jgoodVL m_980 m_981 m_982 m_96 m_983) rfl rfl rfl (by decide +kernel) ⟨(Nat.le_of_ble_eq_true rfl), (Nat.le_of_ble_eq_true rfl)⟩) ⟨jw_blind, va_recv hKs hPs (ci := 13) (q0 := 0) rfl rfl, fun U hU hW => ⟨rfl, jw_of hU hW hPs hKs hDs⟩⟩ rfl rfl hl.1 rfl (lv_room (Nat.le_of_ble_eq_true rfl)) dL_law_1499 ⟨(Nat.le_of_ble_eq_true rfl), (Nat.le_of_ble_eq_true rfl)⟩) hDs hS hA (fun r2 H locs hr2 hS => ?_)
    have hr2 : r2 = sp_lengths 4 (xs 2) := hr2
    refine lv_icmp_eq (tgt := 1804) hx hb dL_law_1502 (by decide) (fun _ => ?_) (fun z => absurd (hr1.trans hr2.symm) z)
    exact lc_end C0 hS hl (Nat.le_of_ble_eq_true rfl) (Nat.le_of_ble_eq_true rfl)
  · refine lv_aload_n hx hb dL_law_1474 rfl (lv_at hl 2 rfl) ?_
    refine lv_aload_n hx hb dL_law_1475 rfl (lv_at hl 3 rfl) ?_
    refine lv_iload_n hx hb dL_law_1476 rfl (lv_at hl 0 rfl) ?_
    refine lv_iconst (v := 1) hx hb dL_law_1477 (by decide) ?_
    refine lv_iadd hx hb dL_law_1478 ?_
    refine jt_i 1 (by decide) ?_
    refine va_sld hx hb hX hbl hbA hS (vp_in_nI (n := 1) (by decide) (by decide)) dL_law_1479 ?_
    refine jt_i (xs 1) rfl ?_
    refine jt_i 5 h ?_
    refine lv_aload_n hx hb dL_law_1480 rfl (lv_at hl 3 rfl) ?_
    refine lv_iload_n hx hb dL_law_1481 rfl (lv_at hl 0 rfl) ?_
    refine lv_iconst (v := 2) hx hb dL_law_1482 (by decide) ?_
    refine lv_iadd hx hb dL_law_1483 ?_
    refine jt_i 2 (by decide) ?_
    refine va_sld hx hb hX hbl hbA hS (vp_in_nI (n := 2) (by decide) (by decide)) dL_law_1484 ?_
    refine jt_i (xs 2) rfl ?_
    have hPs := jp_init hP
    have hDs := jd_init hD
    have hKs := jk_init hK
    refine jcx_i (va_runV (As := [.int 5, .int (xs 2)]) (rest := []) ⟨hx, hb, hml, hown, hts⟩ (tX12_lengths_v5 l dC dI _ ax ca (xs 2) tW) (cwV 2 hts (jgoodVL m_976 m_977 m_978 m_210 m_979) rfl rfl rfl (by decide +kernel) ⟨(Nat.le_of_ble_eq_true rfl), (Nat.le_of_ble_eq_true rfl)⟩) ⟨jw_blindZ, va_recv hKs hPs (ci := 12) (q0 := 0) rfl rfl, fun U hU hW => ⟨rfl, jw_of hU hW hPs hKs hDs, jz_of hU hW hDs hS hA hZ hT⟩⟩ rfl rfl hl.1 rfl (lv_room (Nat.le_of_ble_eq_true rfl)) dL_law_1485 ⟨(Nat.le_of_ble_eq_true rfl), (Nat.le_of_ble_eq_true rfl)⟩) hP hD hS hA (fun r1 H locs hr1 hPm hS => ?_)
    have hr1 : r1 = sp_lengths 5 (xs 2) := hr1
    refine lv_aload_n hx hb dL_law_1488 rfl (lv_at hl 1 rfl) ?_
    refine lv_aload_n hx hb dL_law_1489 rfl (lv_at hl 3 rfl) ?_
    refine lv_iload_n hx hb dL_law_1490 rfl (lv_at hl 0 rfl) ?_
    refine lv_iconst (v := 1) hx hb dL_law_1491 (by decide) ?_
    refine lv_iadd hx hb dL_law_1492 ?_
    refine jt_i 1 (by decide) ?_
    refine va_sld hx hb hX hbl hbA hS (vp_in_nI (n := 1) (by decide) (by decide)) dL_law_1493 ?_
    refine jt_i (xs 1) rfl ?_
    refine jt_i 5 h ?_
    refine lv_aload_n hx hb dL_law_1494 rfl (lv_at hl 3 rfl) ?_
    refine lv_iload_n hx hb dL_law_1495 rfl (lv_at hl 0 rfl) ?_
    refine lv_iconst (v := 2) hx hb dL_law_1496 (by decide) ?_
    refine lv_iadd hx hb dL_law_1497 ?_
    refine jt_i 2 (by decide) ?_
    refine va_sld hx hb hX hbl hbA hS (vp_in_nI (n := 2) (by decide) (by decide)) dL_law_1498 ?_
    refine jt_i (xs 2) rfl ?_
    have hPs := hPm
    have hDs := jd_tail hD
    have hKs := jk_tail hK
    refine jcy_i (va_runV (As := [.int 5, .int (xs 2)]) (rest := [.int r1]) ⟨hx, hb, hml, hown, hts⟩ (tX13_lengths l dC dI _ am cm 5 (xs 2)) (cwV 2 hts (jgoodVL m_980 m_981 m_982 m_96 m_983) rfl rfl rfl (by decide +kernel) ⟨(Nat.le_of_ble_eq_true rfl), (Nat.le_of_ble_eq_true rfl)⟩) ⟨jw_blind, va_recv hKs hPs (ci := 13) (q0 := 0) rfl rfl, fun U hU hW => ⟨rfl, jw_of hU hW hPs hKs hDs⟩⟩ rfl rfl hl.1 rfl (lv_room (Nat.le_of_ble_eq_true rfl)) dL_law_1499 ⟨(Nat.le_of_ble_eq_true rfl), (Nat.le_of_ble_eq_true rfl)⟩) hDs hS hA (fun r2 H locs hr2 hS => ?_)
    have hr2 : r2 = sp_lengths 5 (xs 2) := hr2
    refine lv_icmp_eq (tgt := 1804) hx hb dL_law_1502 (by decide) (fun _ => ?_) (fun z => absurd (hr1.trans hr2.symm) z)
    exact lc_end C0 hS hl (Nat.le_of_ble_eq_true rfl) (Nat.le_of_ble_eq_true rfl)
set_option maxHeartbeats 4000000 in
set_option maxRecDepth 100000 in
theorem lc_39 {p : Program} {l : Launch} {e : Env} {s : State} {m : MethodId} {below : List Frame} {meth : Method} {c : Code} {b : Nat} {xs : Nat → Int32} (C0 : lw_At p s m meth c b 6 xs) {dC : Nat → ClassId} {dI : Nat → Nat → Nat} {ax am : Nat → Nat} {ca cm : Nat → ClassId} {tW : Nat} (hE : jE s) (hZ : va_Z "BookOfAll$Rules" "WITHOUT" "[I" (.ref tW) (fun q : Nat => s.heap.size ≤ q) s s.heap) (hT : va_T .int tW 14 (fun k => .int (jz_f k)) (fun q : Nat => s.heap.size ≤ q) s s.heap) (hK : va_K (dC, dI) vwCl (xT ca ++ mT cm) s) {H : Heap} {locs : List Loc} {ls : Array Slot} (hP : va_P (dC, dI) vwCl (xW ax ca ++ mW am cm) H) (hD : va_D (fun q : Nat => s.heap.size ≤ q) (xW ax ca ++ mW am cm)) (hS : va_S (fun q : Nat => s.heap.size ≤ q) s.heap H locs) (hl : lv_has ls 4 [(3, .int 0), (2, .ref (am 0)), (1, .ref (ax 0)), (0, .ref b)]) : W p l e room_1 s m #[Value.ref b] below meth c H locs 152 53404 (lw_Z below #[Value.ref b] s) (F0 m 1507 ls []) := by
  have C0 := C0
  obtain ⟨hx, hb, hr, hml, hown, hts, hX, hbl, hlocks, hgv⟩ := id C0
  have hA : ∀ q : Nat, s.heap.size ≤ q → (fun q : Nat => s.heap.size ≤ q) q := fun _ h => h
  have hbA : ¬ (fun q : Nat => s.heap.size ≤ q) b := Nat.not_le.mpr hbl
  refine lv_aload_n hx hb dL_law_1507 rfl (lv_at hl 2 rfl) ?_
  refine lv_aload_n hx hb dL_law_1508 rfl (lv_at hl 3 rfl) ?_
  refine lv_iload_n hx hb dL_law_1509 rfl (lv_at hl 0 rfl) ?_
  refine lv_iconst (v := 1) hx hb dL_law_1510 (by decide) ?_
  refine lv_iadd hx hb dL_law_1511 ?_
  refine jt_i 1 (by decide) ?_
  refine va_sld hx hb hX hbl hbA hS (vp_in_nI (n := 1) (by decide) (by decide)) dL_law_1512 ?_
  refine jt_i (xs 1) rfl ?_
  refine lv_aload_n hx hb dL_law_1513 rfl (lv_at hl 3 rfl) ?_
  refine lv_iload_n hx hb dL_law_1514 rfl (lv_at hl 0 rfl) ?_
  refine lv_iconst (v := 2) hx hb dL_law_1515 (by decide) ?_
  refine lv_iadd hx hb dL_law_1516 ?_
  refine jt_i 2 (by decide) ?_
  refine va_sld hx hb hX hbl hbA hS (vp_in_nI (n := 2) (by decide) (by decide)) dL_law_1517 ?_
  refine jt_i (xs 2) rfl ?_
  have hPs := jp_init hP
  have hDs := jd_init hD
  have hKs := jk_init hK
  refine jc_i (va_runV (As := [.int (xs 1), .int (xs 2)]) (rest := []) ⟨hx, hb, hml, hown, hts⟩ (tX12_length l dC dI _ ax ca (xs 1) (xs 2)) (cwV 2 hts (jgoodVL m_984 m_985 m_986 m_210 m_987) rfl rfl rfl (by decide +kernel) ⟨(Nat.le_of_ble_eq_true rfl), (Nat.le_of_ble_eq_true rfl)⟩) ⟨jw_blind, va_recv hKs hPs (ci := 12) (q0 := 0) rfl rfl, fun U hU hW => ⟨rfl, jw_of hU hW hPs hKs hDs⟩⟩ rfl rfl hl.1 rfl (lv_room (Nat.le_of_ble_eq_true rfl)) dL_law_1518 ⟨(Nat.le_of_ble_eq_true rfl), (Nat.le_of_ble_eq_true rfl)⟩) hP hS hA (fun r1 H locs hr1 hP hS => ?_)
  have hPm := jp_tail hP
  have hr1 : r1 = (-1) := hr1
  refine lv_aload_n hx hb dL_law_1521 rfl (lv_at hl 1 rfl) ?_
  refine lv_aload_n hx hb dL_law_1522 rfl (lv_at hl 3 rfl) ?_
  refine lv_iload_n hx hb dL_law_1523 rfl (lv_at hl 0 rfl) ?_
  refine lv_iconst (v := 1) hx hb dL_law_1524 (by decide) ?_
  refine lv_iadd hx hb dL_law_1525 ?_
  refine jt_i 1 (by decide) ?_
  refine va_sld hx hb hX hbl hbA hS (vp_in_nI (n := 1) (by decide) (by decide)) dL_law_1526 ?_
  refine jt_i (xs 1) rfl ?_
  refine lv_aload_n hx hb dL_law_1527 rfl (lv_at hl 3 rfl) ?_
  refine lv_iload_n hx hb dL_law_1528 rfl (lv_at hl 0 rfl) ?_
  refine lv_iconst (v := 2) hx hb dL_law_1529 (by decide) ?_
  refine lv_iadd hx hb dL_law_1530 ?_
  refine jt_i 2 (by decide) ?_
  refine va_sld hx hb hX hbl hbA hS (vp_in_nI (n := 2) (by decide) (by decide)) dL_law_1531 ?_
  refine jt_i (xs 2) rfl ?_
  have hPs := hPm
  have hDs := jd_tail hD
  have hKs := jk_tail hK
  refine jc_i (va_runV (As := [.int (xs 1), .int (xs 2)]) (rest := [.int r1]) ⟨hx, hb, hml, hown, hts⟩ (tX13_length l dC dI _ am cm (xs 1) (xs 2)) (cwV 2 hts (jgoodVL m_988 m_989 m_990 m_96 m_991) rfl rfl rfl (by decide +kernel) ⟨(Nat.le_of_ble_eq_true rfl), (Nat.le_of_ble_eq_true rfl)⟩) ⟨jw_blind, va_recv hKs hPs (ci := 13) (q0 := 0) rfl rfl, fun U hU hW => ⟨rfl, jw_of hU hW hPs hKs hDs⟩⟩ rfl rfl hl.1 rfl (lv_room (Nat.le_of_ble_eq_true rfl)) dL_law_1532 ⟨(Nat.le_of_ble_eq_true rfl), (Nat.le_of_ble_eq_true rfl)⟩) hPm hS hA (fun r2 H locs hr2 hPm hS => ?_)
  have hr2 : r2 = (-1) := hr2
  refine lv_icmp_eq (tgt := 1804) hx hb dL_law_1535 (by decide) (fun _ => ?_) (fun z => absurd (hr1.trans hr2.symm) z)
  exact lc_end C0 hS hl (Nat.le_of_ble_eq_true rfl) (Nat.le_of_ble_eq_true rfl)
