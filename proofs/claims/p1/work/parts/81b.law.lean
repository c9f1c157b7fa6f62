set_option maxHeartbeats 4000000 in
set_option maxRecDepth 100000 in
theorem lc_8 {p : Program} {l : Launch} {e : Env} {s : State} {m : MethodId} {below : List Frame} {meth : Method} {c : Code} {b : Nat} {xs : Nat → Int32} (C0 : lw_At p s m meth c b 6 xs) {dC : Nat → ClassId} {dI : Nat → Nat → Nat} {ax am : Nat → Nat} {ca cm : Nat → ClassId} {tW : Nat} (hE : jE s) (hZ : va_Z "BookOfAll$Rules" "WITHOUT" "[I" (.ref tW) (fun q : Nat => s.heap.size ≤ q) s s.heap) (hT : va_T .int tW 14 (fun k => .int (jz_f k)) (fun q : Nat => s.heap.size ≤ q) s s.heap) (hK : va_K (dC, dI) vwCl (xT ca ++ mT cm) s) {H : Heap} {locs : List Loc} {ls : Array Slot} (hP : va_P (dC, dI) vwCl (xW ax ca ++ mW am cm) H) (hD : va_D (fun q : Nat => s.heap.size ≤ q) (xW ax ca ++ mW am cm)) (hS : va_S (fun q : Nat => s.heap.size ≤ q) s.heap H locs) (hl : lv_has ls 4 [(3, .int 0), (2, .ref (am 0)), (1, .ref (ax 0)), (0, .ref b)]) : W p l e room_1 s m #[Value.ref b] below meth c H locs 152 53404 (lw_Z below #[Value.ref b] s) (F0 m 484 ls []) := by
  have C0 := C0
  obtain ⟨hx, hb, hr, hml, hown, hts, hX, hbl, hlocks, hgv⟩ := id C0
  have hA : ∀ q : Nat, s.heap.size ≤ q → (fun q : Nat => s.heap.size ≤ q) q := fun _ h => h
  have hbA : ¬ (fun q : Nat => s.heap.size ≤ q) b := Nat.not_le.mpr hbl
  refine lv_aload_n hx hb dL_law_484 rfl (lv_at hl 2 rfl) ?_
  refine lv_aload_n hx hb dL_law_485 rfl (lv_at hl 3 rfl) ?_
  refine lv_iload_n hx hb dL_law_486 rfl (lv_at hl 0 rfl) ?_
  refine lv_iconst (v := 1) hx hb dL_law_487 (by decide) ?_
  refine lv_iadd hx hb dL_law_488 ?_
  refine jt_i 1 (by decide) ?_
  refine va_sld hx hb hX hbl hbA hS (vp_in_nI (n := 1) (by decide) (by decide)) dL_law_489 ?_
  refine jt_i (xs 1) rfl ?_
  refine lv_aload_n hx hb dL_law_490 rfl (lv_at hl 3 rfl) ?_
  refine lv_iload_n hx hb dL_law_491 rfl (lv_at hl 0 rfl) ?_
  refine lv_iconst (v := 2) hx hb dL_law_492 (by decide) ?_
  refine lv_iadd hx hb dL_law_493 ?_
  refine jt_i 2 (by decide) ?_
  refine va_sld hx hb hX hbl hbA hS (vp_in_nI (n := 2) (by decide) (by decide)) dL_law_494 ?_
  refine jt_i (xs 2) rfl ?_
  refine lv_aload_n hx hb dL_law_495 rfl (lv_at hl 3 rfl) ?_
  refine lv_iload_n hx hb dL_law_496 rfl (lv_at hl 0 rfl) ?_
  refine lv_iconst (v := 3) hx hb dL_law_497 (by decide) ?_
  refine lv_iadd hx hb dL_law_498 ?_
  refine jt_i 3 (by decide) ?_
  refine va_sld hx hb hX hbl hbA hS (vp_in_nI (n := 3) (by decide) (by decide)) dL_law_499 ?_
  refine jt_i (xs 3) rfl ?_
  refine lv_aload_n hx hb dL_law_500 rfl (lv_at hl 3 rfl) ?_
  refine lv_iload_n hx hb dL_law_501 rfl (lv_at hl 0 rfl) ?_
  refine lv_iconst (v := 4) hx hb dL_law_502 (by decide) ?_
  refine lv_iadd hx hb dL_law_503 ?_
  refine jt_i 4 (by decide) ?_
  refine va_sld hx hb hX hbl hbA hS (vp_in_nI (n := 4) (by decide) (by decide)) dL_law_504 ?_
  refine jt_i (xs 4) rfl ?_
  have hPs := jp_init hP
  have hDs := jd_init hD
  have hKs := jk_init hK
  refine jcx_i (va_runV (As := [.int (xs 1), .int (xs 2), .int (xs 3), .int (xs 4)]) (rest := []) ⟨hx, hb, hml, hown, hts⟩ (tX12_article l dC dI _ ax ca (xs 1) (xs 2) (xs 3) (xs 4) tW) (cwV 4 hts (jgoodVL m_736 m_737 m_738 m_210 m_739) rfl rfl rfl (by decide +kernel) ⟨(Nat.le_of_ble_eq_true rfl), (Nat.le_of_ble_eq_true rfl)⟩) ⟨jw_blindZ, va_recv hKs hPs (ci := 12) (q0 := 0) rfl rfl, fun U hU hW => ⟨rfl, jw_of hU hW hPs hKs hDs, jz_of hU hW hDs hS hA hZ hT⟩⟩ rfl rfl hl.1 rfl (lv_room (Nat.le_of_ble_eq_true rfl)) dL_law_505 ⟨(Nat.le_of_ble_eq_true rfl), (Nat.le_of_ble_eq_true rfl)⟩) hP hD hS hA (fun r1 H locs hr1 hPm hS => ?_)
  have hr1 : r1 = sp_article (xs 1) (xs 2) (xs 3) (xs 4) := hr1
  refine lv_aload_n hx hb dL_law_508 rfl (lv_at hl 1 rfl) ?_
  refine lv_aload_n hx hb dL_law_509 rfl (lv_at hl 3 rfl) ?_
  refine lv_iload_n hx hb dL_law_510 rfl (lv_at hl 0 rfl) ?_
  refine lv_iconst (v := 1) hx hb dL_law_511 (by decide) ?_
  refine lv_iadd hx hb dL_law_512 ?_
  refine jt_i 1 (by decide) ?_
  refine va_sld hx hb hX hbl hbA hS (vp_in_nI (n := 1) (by decide) (by decide)) dL_law_513 ?_
  refine jt_i (xs 1) rfl ?_
  refine lv_aload_n hx hb dL_law_514 rfl (lv_at hl 3 rfl) ?_
  refine lv_iload_n hx hb dL_law_515 rfl (lv_at hl 0 rfl) ?_
  refine lv_iconst (v := 2) hx hb dL_law_516 (by decide) ?_
  refine lv_iadd hx hb dL_law_517 ?_
  refine jt_i 2 (by decide) ?_
  refine va_sld hx hb hX hbl hbA hS (vp_in_nI (n := 2) (by decide) (by decide)) dL_law_518 ?_
  refine jt_i (xs 2) rfl ?_
  refine lv_aload_n hx hb dL_law_519 rfl (lv_at hl 3 rfl) ?_
  refine lv_iload_n hx hb dL_law_520 rfl (lv_at hl 0 rfl) ?_
  refine lv_iconst (v := 3) hx hb dL_law_521 (by decide) ?_
  refine lv_iadd hx hb dL_law_522 ?_
  refine jt_i 3 (by decide) ?_
  refine va_sld hx hb hX hbl hbA hS (vp_in_nI (n := 3) (by decide) (by decide)) dL_law_523 ?_
  refine jt_i (xs 3) rfl ?_
  refine lv_aload_n hx hb dL_law_524 rfl (lv_at hl 3 rfl) ?_
  refine lv_iload_n hx hb dL_law_525 rfl (lv_at hl 0 rfl) ?_
  refine lv_iconst (v := 4) hx hb dL_law_526 (by decide) ?_
  refine lv_iadd hx hb dL_law_527 ?_
  refine jt_i 4 (by decide) ?_
  refine va_sld hx hb hX hbl hbA hS (vp_in_nI (n := 4) (by decide) (by decide)) dL_law_528 ?_
  refine jt_i (xs 4) rfl ?_
  have hPs := hPm
  have hDs := jd_tail hD
  have hKs := jk_tail hK
  refine jcy_i (va_runV (As := [.int (xs 1), .int (xs 2), .int (xs 3), .int (xs 4)]) (rest := [.int r1]) ⟨hx, hb, hml, hown, hts⟩ (tX13_article l dC dI _ am cm (xs 1) (xs 2) (xs 3) (xs 4)) (cwV 4 hts (jgoodVL m_740 m_741 m_742 m_96 m_743) rfl rfl rfl (by decide +kernel) ⟨(Nat.le_of_ble_eq_true rfl), (Nat.le_of_ble_eq_true rfl)⟩) ⟨jw_blind, va_recv hKs hPs (ci := 13) (q0 := 0) rfl rfl, fun U hU hW => ⟨rfl, jw_of hU hW hPs hKs hDs⟩⟩ rfl rfl hl.1 rfl (lv_room (Nat.le_of_ble_eq_true rfl)) dL_law_529 ⟨(Nat.le_of_ble_eq_true rfl), (Nat.le_of_ble_eq_true rfl)⟩) hDs hS hA (fun r2 H locs hr2 hS => ?_)
  have hr2 : r2 = sp_article (xs 1) (xs 2) (xs 3) (xs 4) := hr2
  refine lv_icmp_eq (tgt := 1804) hx hb dL_law_532 (by decide) (fun _ => ?_) (fun z => absurd (hr1.trans hr2.symm) z)
  exact lc_end C0 hS hl (Nat.le_of_ble_eq_true rfl) (Nat.le_of_ble_eq_true rfl)
set_option maxHeartbeats 4000000 in
set_option maxRecDepth 100000 in
theorem lc_9 {p : Program} {l : Launch} {e : Env} {s : State} {m : MethodId} {below : List Frame} {meth : Method} {c : Code} {b : Nat} {xs : Nat → Int32} (C0 : lw_At p s m meth c b 6 xs) {dC : Nat → ClassId} {dI : Nat → Nat → Nat} {ax am : Nat → Nat} {ca cm : Nat → ClassId} {tW : Nat} (hE : jE s) (hZ : va_Z "BookOfAll$Rules" "WITHOUT" "[I" (.ref tW) (fun q : Nat => s.heap.size ≤ q) s s.heap) (hT : va_T .int tW 14 (fun k => .int (jz_f k)) (fun q : Nat => s.heap.size ≤ q) s s.heap) (hK : va_K (dC, dI) vwCl (xT ca ++ mT cm) s) {H : Heap} {locs : List Loc} {ls : Array Slot} (hP : va_P (dC, dI) vwCl (xW ax ca ++ mW am cm) H) (hD : va_D (fun q : Nat => s.heap.size ≤ q) (xW ax ca ++ mW am cm)) (hS : va_S (fun q : Nat => s.heap.size ≤ q) s.heap H locs) (hl : lv_has ls 4 [(3, .int 0), (2, .ref (am 0)), (1, .ref (ax 0)), (0, .ref b)]) : W p l e room_1 s m #[Value.ref b] below meth c H locs 152 53404 (lw_Z below #[Value.ref b] s) (F0 m 537 ls []) := by
  have C0 := C0
  obtain ⟨hx, hb, hr, hml, hown, hts, hX, hbl, hlocks, hgv⟩ := id C0
  have hA : ∀ q : Nat, s.heap.size ≤ q → (fun q : Nat => s.heap.size ≤ q) q := fun _ h => h
  have hbA : ¬ (fun q : Nat => s.heap.size ≤ q) b := Nat.not_le.mpr hbl
  refine lv_aload_n hx hb dL_law_537 rfl (lv_at hl 2 rfl) ?_
  refine lv_aload_n hx hb dL_law_538 rfl (lv_at hl 3 rfl) ?_
  refine lv_iload_n hx hb dL_law_539 rfl (lv_at hl 0 rfl) ?_
  refine lv_iconst (v := 1) hx hb dL_law_540 (by decide) ?_
  refine lv_iadd hx hb dL_law_541 ?_
  refine jt_i 1 (by decide) ?_
  refine va_sld hx hb hX hbl hbA hS (vp_in_nI (n := 1) (by decide) (by decide)) dL_law_542 ?_
  refine jt_i (xs 1) rfl ?_
  refine lv_aload_n hx hb dL_law_543 rfl (lv_at hl 3 rfl) ?_
  refine lv_iload_n hx hb dL_law_544 rfl (lv_at hl 0 rfl) ?_
  refine lv_iconst (v := 2) hx hb dL_law_545 (by decide) ?_
  refine lv_iadd hx hb dL_law_546 ?_
  refine jt_i 2 (by decide) ?_
  refine va_sld hx hb hX hbl hbA hS (vp_in_nI (n := 2) (by decide) (by decide)) dL_law_547 ?_
  refine jt_i (xs 2) rfl ?_
  refine lv_aload_n hx hb dL_law_548 rfl (lv_at hl 3 rfl) ?_
  refine lv_iload_n hx hb dL_law_549 rfl (lv_at hl 0 rfl) ?_
  refine lv_iconst (v := 3) hx hb dL_law_550 (by decide) ?_
  refine lv_iadd hx hb dL_law_551 ?_
  refine jt_i 3 (by decide) ?_
  refine va_sld hx hb hX hbl hbA hS (vp_in_nI (n := 3) (by decide) (by decide)) dL_law_552 ?_
  refine jt_i (xs 3) rfl ?_
  refine lv_aload_n hx hb dL_law_553 rfl (lv_at hl 3 rfl) ?_
  refine lv_iload_n hx hb dL_law_554 rfl (lv_at hl 0 rfl) ?_
  refine lv_iconst (v := 4) hx hb dL_law_555 (by decide) ?_
  refine lv_iadd hx hb dL_law_556 ?_
  refine jt_i 4 (by decide) ?_
  refine va_sld hx hb hX hbl hbA hS (vp_in_nI (n := 4) (by decide) (by decide)) dL_law_557 ?_
  refine jt_i (xs 4) rfl ?_
  have hPs := jp_init hP
  have hDs := jd_init hD
  have hKs := jk_init hK
  refine jc_i (va_runV (As := [.int (xs 1), .int (xs 2), .int (xs 3), .int (xs 4)]) (rest := []) ⟨hx, hb, hml, hown, hts⟩ (tX12_pointer l dC dI _ ax ca (xs 1) (xs 2) (xs 3) (xs 4)) (cwV 4 hts (jgoodVL m_744 m_745 m_746 m_210 m_747) rfl rfl rfl (by decide +kernel) ⟨(Nat.le_of_ble_eq_true rfl), (Nat.le_of_ble_eq_true rfl)⟩) ⟨jw_blind, va_recv hKs hPs (ci := 12) (q0 := 0) rfl rfl, fun U hU hW => ⟨rfl, jw_of hU hW hPs hKs hDs⟩⟩ rfl rfl hl.1 rfl (lv_room (Nat.le_of_ble_eq_true rfl)) dL_law_558 ⟨(Nat.le_of_ble_eq_true rfl), (Nat.le_of_ble_eq_true rfl)⟩) hP hS hA (fun r1 H locs hr1 hP hS => ?_)
  have hPm := jp_tail hP
  have hr1 : r1 = (-1) := hr1
  refine lv_aload_n hx hb dL_law_561 rfl (lv_at hl 1 rfl) ?_
  refine lv_aload_n hx hb dL_law_562 rfl (lv_at hl 3 rfl) ?_
  refine lv_iload_n hx hb dL_law_563 rfl (lv_at hl 0 rfl) ?_
  refine lv_iconst (v := 1) hx hb dL_law_564 (by decide) ?_
  refine lv_iadd hx hb dL_law_565 ?_
  refine jt_i 1 (by decide) ?_
  refine va_sld hx hb hX hbl hbA hS (vp_in_nI (n := 1) (by decide) (by decide)) dL_law_566 ?_
  refine jt_i (xs 1) rfl ?_
  refine lv_aload_n hx hb dL_law_567 rfl (lv_at hl 3 rfl) ?_
  refine lv_iload_n hx hb dL_law_568 rfl (lv_at hl 0 rfl) ?_
  refine lv_iconst (v := 2) hx hb dL_law_569 (by decide) ?_
  refine lv_iadd hx hb dL_law_570 ?_
  refine jt_i 2 (by decide) ?_
  refine va_sld hx hb hX hbl hbA hS (vp_in_nI (n := 2) (by decide) (by decide)) dL_law_571 ?_
  refine jt_i (xs 2) rfl ?_
  refine lv_aload_n hx hb dL_law_572 rfl (lv_at hl 3 rfl) ?_
  refine lv_iload_n hx hb dL_law_573 rfl (lv_at hl 0 rfl) ?_
  refine lv_iconst (v := 3) hx hb dL_law_574 (by decide) ?_
  refine lv_iadd hx hb dL_law_575 ?_
  refine jt_i 3 (by decide) ?_
  refine va_sld hx hb hX hbl hbA hS (vp_in_nI (n := 3) (by decide) (by decide)) dL_law_576 ?_
  refine jt_i (xs 3) rfl ?_
  refine lv_aload_n hx hb dL_law_577 rfl (lv_at hl 3 rfl) ?_
  refine lv_iload_n hx hb dL_law_578 rfl (lv_at hl 0 rfl) ?_
  refine lv_iconst (v := 4) hx hb dL_law_579 (by decide) ?_
  refine lv_iadd hx hb dL_law_580 ?_
  refine jt_i 4 (by decide) ?_
  refine va_sld hx hb hX hbl hbA hS (vp_in_nI (n := 4) (by decide) (by decide)) dL_law_581 ?_
  refine jt_i (xs 4) rfl ?_
  have hPs := hPm
  have hDs := jd_tail hD
  have hKs := jk_tail hK
  refine jcy_i (va_runV (As := [.int (xs 1), .int (xs 2), .int (xs 3), .int (xs 4)]) (rest := [.int r1]) ⟨hx, hb, hml, hown, hts⟩ (tX13_pointer l dC dI _ am cm (xs 1) (xs 2) (xs 3) (xs 4)) (cwV 4 hts (jgoodVL m_748 m_749 m_750 m_96 m_751) rfl rfl rfl (by decide +kernel) ⟨(Nat.le_of_ble_eq_true rfl), (Nat.le_of_ble_eq_true rfl)⟩) ⟨jw_blind, va_recv hKs hPs (ci := 13) (q0 := 0) rfl rfl, fun U hU hW => ⟨rfl, jw_of hU hW hPs hKs hDs⟩⟩ rfl rfl hl.1 rfl (lv_room (Nat.le_of_ble_eq_true rfl)) dL_law_582 ⟨(Nat.le_of_ble_eq_true rfl), (Nat.le_of_ble_eq_true rfl)⟩) hDs hS hA (fun r2 H locs hr2 hS => ?_)
  have hr2 : r2 = (-1) := hr2
  refine lv_icmp_eq (tgt := 1804) hx hb dL_law_585 (by decide) (fun _ => ?_) (fun z => absurd (hr1.trans hr2.symm) z)
  exact lc_end C0 hS hl (Nat.le_of_ble_eq_true rfl) (Nat.le_of_ble_eq_true rfl)
set_option maxHeartbeats 4000000 in
set_option maxRecDepth 100000 in
theorem lc_10 {p : Program} {l : Launch} {e : Env} {s : State} {m : MethodId} {below : List Frame} {meth : Method} {c : Code} {b : Nat} {xs : Nat → Int32} (C0 : lw_At p s m meth c b 6 xs) {dC : Nat → ClassId} {dI : Nat → Nat → Nat} {ax am : Nat → Nat} {ca cm : Nat → ClassId} {tW : Nat} (hE : jE s) (hZ : va_Z "BookOfAll$Rules" "WITHOUT" "[I" (.ref tW) (fun q : Nat => s.heap.size ≤ q) s s.heap) (hT : va_T .int tW 14 (fun k => .int (jz_f k)) (fun q : Nat => s.heap.size ≤ q) s s.heap) (hK : va_K (dC, dI) vwCl (xT ca ++ mT cm) s) {H : Heap} {locs : List Loc} {ls : Array Slot} (hP : va_P (dC, dI) vwCl (xW ax ca ++ mW am cm) H) (hD : va_D (fun q : Nat => s.heap.size ≤ q) (xW ax ca ++ mW am cm)) (hS : va_S (fun q : Nat => s.heap.size ≤ q) s.heap H locs) (hl : lv_has ls 4 [(3, .int 0), (2, .ref (am 0)), (1, .ref (ax 0)), (0, .ref b)]) : W p l e room_1 s m #[Value.ref b] below meth c H locs 152 53404 (lw_Z below #[Value.ref b] s) (F0 m 590 ls []) := by
  have C0 := C0
  obtain ⟨hx, hb, hr, hml, hown, hts, hX, hbl, hlocks, hgv⟩ := id C0
  have hA : ∀ q : Nat, s.heap.size ≤ q → (fun q : Nat => s.heap.size ≤ q) q := fun _ h => h
  have hbA : ¬ (fun q : Nat => s.heap.size ≤ q) b := Nat.not_le.mpr hbl
  refine lv_aload_n hx hb dL_law_590 rfl (lv_at hl 2 rfl) ?_
  refine lv_aload_n hx hb dL_law_591 rfl (lv_at hl 3 rfl) ?_
  refine lv_iload_n hx hb dL_law_592 rfl (lv_at hl 0 rfl) ?_
  refine lv_iconst (v := 1) hx hb dL_law_593 (by decide) ?_
  refine lv_iadd hx hb dL_law_594 ?_
  refine jt_i 1 (by decide) ?_
  refine va_sld hx hb hX hbl hbA hS (vp_in_nI (n := 1) (by decide) (by decide)) dL_law_595 ?_
  refine jt_i (xs 1) rfl ?_
  refine lv_aload_n hx hb dL_law_596 rfl (lv_at hl 3 rfl) ?_
  refine lv_iload_n hx hb dL_law_597 rfl (lv_at hl 0 rfl) ?_
  refine lv_iconst (v := 2) hx hb dL_law_598 (by decide) ?_
  refine lv_iadd hx hb dL_law_599 ?_
  refine jt_i 2 (by decide) ?_
  refine va_sld hx hb hX hbl hbA hS (vp_in_nI (n := 2) (by decide) (by decide)) dL_law_600 ?_
  refine jt_i (xs 2) rfl ?_
  refine lv_aload_n hx hb dL_law_601 rfl (lv_at hl 3 rfl) ?_
  refine lv_iload_n hx hb dL_law_602 rfl (lv_at hl 0 rfl) ?_
  refine lv_iconst (v := 3) hx hb dL_law_603 (by decide) ?_
  refine lv_iadd hx hb dL_law_604 ?_
  refine jt_i 3 (by decide) ?_
  refine va_sld hx hb hX hbl hbA hS (vp_in_nI (n := 3) (by decide) (by decide)) dL_law_605 ?_
  refine jt_i (xs 3) rfl ?_
  refine lv_aload_n hx hb dL_law_606 rfl (lv_at hl 3 rfl) ?_
  refine lv_iload_n hx hb dL_law_607 rfl (lv_at hl 0 rfl) ?_
  refine lv_iconst (v := 4) hx hb dL_law_608 (by decide) ?_
  refine lv_iadd hx hb dL_law_609 ?_
  refine jt_i 4 (by decide) ?_
  refine va_sld hx hb hX hbl hbA hS (vp_in_nI (n := 4) (by decide) (by decide)) dL_law_610 ?_
  refine jt_i (xs 4) rfl ?_
  refine lv_aload_n hx hb dL_law_611 rfl (lv_at hl 3 rfl) ?_
  refine lv_iload_n hx hb dL_law_612 rfl (lv_at hl 0 rfl) ?_
  refine lv_iconst (v := 5) hx hb dL_law_613 (by decide) ?_
  refine lv_iadd hx hb dL_law_614 ?_
  refine jt_i 5 (by decide) ?_
  refine va_sld hx hb hX hbl hbA hS (vp_in_nI (n := 5) (by decide) (by decide)) dL_law_615 ?_
  refine jt_i (xs 5) rfl ?_
  have hPs := jp_init hP
  have hDs := jd_init hD
  have hKs := jk_init hK
  refine jc_i (va_runV (As := [.int (xs 1), .int (xs 2), .int (xs 3), .int (xs 4), .int (xs 5)]) (rest := []) ⟨hx, hb, hml, hown, hts⟩ (tX12_plate l dC dI _ ax ca (xs 1) (xs 2) (xs 3) (xs 4) (xs 5)) (cwV 5 hts (jgoodVL m_752 m_753 m_754 m_210 m_755) rfl rfl rfl (by decide +kernel) ⟨(Nat.le_of_ble_eq_true rfl), (Nat.le_of_ble_eq_true rfl)⟩) ⟨jw_blind, va_recv hKs hPs (ci := 12) (q0 := 0) rfl rfl, fun U hU hW => ⟨rfl, jw_of hU hW hPs hKs hDs⟩⟩ rfl rfl hl.1 rfl (lv_room (Nat.le_of_ble_eq_true rfl)) dL_law_616 ⟨(Nat.le_of_ble_eq_true rfl), (Nat.le_of_ble_eq_true rfl)⟩) hP hS hA (fun r1 H locs hr1 hP hS => ?_)
  have hPm := jp_tail hP
  have hr1 : r1 = (-1) := hr1
  refine lv_aload_n hx hb dL_law_619 rfl (lv_at hl 1 rfl) ?_
  refine lv_aload_n hx hb dL_law_620 rfl (lv_at hl 3 rfl) ?_
  refine lv_iload_n hx hb dL_law_621 rfl (lv_at hl 0 rfl) ?_
  refine lv_iconst (v := 1) hx hb dL_law_622 (by decide) ?_
  refine lv_iadd hx hb dL_law_623 ?_
  refine jt_i 1 (by decide) ?_
  refine va_sld hx hb hX hbl hbA hS (vp_in_nI (n := 1) (by decide) (by decide)) dL_law_624 ?_
  refine jt_i (xs 1) rfl ?_
  refine lv_aload_n hx hb dL_law_625 rfl (lv_at hl 3 rfl) ?_
  refine lv_iload_n hx hb dL_law_626 rfl (lv_at hl 0 rfl) ?_
  refine lv_iconst (v := 2) hx hb dL_law_627 (by decide) ?_
  refine lv_iadd hx hb dL_law_628 ?_
  refine jt_i 2 (by decide) ?_
  refine va_sld hx hb hX hbl hbA hS (vp_in_nI (n := 2) (by decide) (by decide)) dL_law_629 ?_
  refine jt_i (xs 2) rfl ?_
  refine lv_aload_n hx hb dL_law_630 rfl (lv_at hl 3 rfl) ?_
  refine lv_iload_n hx hb dL_law_631 rfl (lv_at hl 0 rfl) ?_
  refine lv_iconst (v := 3) hx hb dL_law_632 (by decide) ?_
  refine lv_iadd hx hb dL_law_633 ?_
  refine jt_i 3 (by decide) ?_
  refine va_sld hx hb hX hbl hbA hS (vp_in_nI (n := 3) (by decide) (by decide)) dL_law_634 ?_
  refine jt_i (xs 3) rfl ?_
  refine lv_aload_n hx hb dL_law_635 rfl (lv_at hl 3 rfl) ?_
  refine lv_iload_n hx hb dL_law_636 rfl (lv_at hl 0 rfl) ?_
  refine lv_iconst (v := 4) hx hb dL_law_637 (by decide) ?_
  refine lv_iadd hx hb dL_law_638 ?_
  refine jt_i 4 (by decide) ?_
  refine va_sld hx hb hX hbl hbA hS (vp_in_nI (n := 4) (by decide) (by decide)) dL_law_639 ?_
  refine jt_i (xs 4) rfl ?_
  refine lv_aload_n hx hb dL_law_640 rfl (lv_at hl 3 rfl) ?_
  refine lv_iload_n hx hb dL_law_641 rfl (lv_at hl 0 rfl) ?_
  refine lv_iconst (v := 5) hx hb dL_law_642 (by decide) ?_
  refine lv_iadd hx hb dL_law_643 ?_
  refine jt_i 5 (by decide) ?_
  refine va_sld hx hb hX hbl hbA hS (vp_in_nI (n := 5) (by decide) (by decide)) dL_law_644 ?_
  refine jt_i (xs 5) rfl ?_
  have hPs := hPm
  have hDs := jd_tail hD
  have hKs := jk_tail hK
  refine jcy_i (va_runV (As := [.int (xs 1), .int (xs 2), .int (xs 3), .int (xs 4), .int (xs 5)]) (rest := [.int r1]) ⟨hx, hb, hml, hown, hts⟩ (tX13_plate l dC dI _ am cm (xs 1) (xs 2) (xs 3) (xs 4) (xs 5)) (cwV 5 hts (jgoodVL m_756 m_757 m_758 m_96 m_759) rfl rfl rfl (by decide +kernel) ⟨(Nat.le_of_ble_eq_true rfl), (Nat.le_of_ble_eq_true rfl)⟩) ⟨jw_blind, va_recv hKs hPs (ci := 13) (q0 := 0) rfl rfl, fun U hU hW => ⟨rfl, jw_of hU hW hPs hKs hDs⟩⟩ rfl rfl hl.1 rfl (lv_room (Nat.le_of_ble_eq_true rfl)) dL_law_645 ⟨(Nat.le_of_ble_eq_true rfl), (Nat.le_of_ble_eq_true rfl)⟩) hDs hS hA (fun r2 H locs hr2 hS => ?_)
  have hr2 : r2 = (-1) := hr2
  refine lv_icmp_eq (tgt := 1804) hx hb dL_law_648 (by decide) (fun _ => ?_) (fun z => absurd (hr1.trans hr2.symm) z)
  exact lc_end C0 hS hl (Nat.le_of_ble_eq_true rfl) (Nat.le_of_ble_eq_true rfl)
set_option maxHeartbeats 4000000 in
set_option maxRecDepth 100000 in
theorem lc_11 {p : Program} {l : Launch} {e : Env} {s : State} {m : MethodId} {below : List Frame} {meth : Method} {c : Code} {b : Nat} {xs : Nat → Int32} (C0 : lw_At p s m meth c b 6 xs) {dC : Nat → ClassId} {dI : Nat → Nat → Nat} {ax am : Nat → Nat} {ca cm : Nat → ClassId} {tW : Nat} (hE : jE s) (hZ : va_Z "BookOfAll$Rules" "WITHOUT" "[I" (.ref tW) (fun q : Nat => s.heap.size ≤ q) s s.heap) (hT : va_T .int tW 14 (fun k => .int (jz_f k)) (fun q : Nat => s.heap.size ≤ q) s s.heap) (hK : va_K (dC, dI) vwCl (xT ca ++ mT cm) s) {H : Heap} {locs : List Loc} {ls : Array Slot} (hP : va_P (dC, dI) vwCl (xW ax ca ++ mW am cm) H) (hD : va_D (fun q : Nat => s.heap.size ≤ q) (xW ax ca ++ mW am cm)) (hS : va_S (fun q : Nat => s.heap.size ≤ q) s.heap H locs) (hl : lv_has ls 4 [(3, .int 0), (2, .ref (am 0)), (1, .ref (ax 0)), (0, .ref b)]) : W p l e room_1 s m #[Value.ref b] below meth c H locs 152 53404 (lw_Z below #[Value.ref b] s) (F0 m 653 ls []) := by
  have C0 := C0
  obtain ⟨hx, hb, hr, hml, hown, hts, hX, hbl, hlocks, hgv⟩ := id C0
  have hA : ∀ q : Nat, s.heap.size ≤ q → (fun q : Nat => s.heap.size ≤ q) q := fun _ h => h
  have hbA : ¬ (fun q : Nat => s.heap.size ≤ q) b := Nat.not_le.mpr hbl
  refine lv_aload_n hx hb dL_law_653 rfl (lv_at hl 2 rfl) ?_
  refine lv_aload_n hx hb dL_law_654 rfl (lv_at hl 3 rfl) ?_
  refine lv_iload_n hx hb dL_law_655 rfl (lv_at hl 0 rfl) ?_
  refine lv_iconst (v := 1) hx hb dL_law_656 (by decide) ?_
  refine lv_iadd hx hb dL_law_657 ?_
  refine jt_i 1 (by decide) ?_
  refine va_sld hx hb hX hbl hbA hS (vp_in_nI (n := 1) (by decide) (by decide)) dL_law_658 ?_
  refine jt_i (xs 1) rfl ?_
  refine lv_aload_n hx hb dL_law_659 rfl (lv_at hl 3 rfl) ?_
  refine lv_iload_n hx hb dL_law_660 rfl (lv_at hl 0 rfl) ?_
  refine lv_iconst (v := 2) hx hb dL_law_661 (by decide) ?_
  refine lv_iadd hx hb dL_law_662 ?_
  refine jt_i 2 (by decide) ?_
  refine va_sld hx hb hX hbl hbA hS (vp_in_nI (n := 2) (by decide) (by decide)) dL_law_663 ?_
  refine jt_i (xs 2) rfl ?_
  have hPs := jp_init hP
  have hDs := jd_init hD
  have hKs := jk_init hK
  refine jc_i (va_runV (As := [.int (xs 1), .int (xs 2)]) (rest := []) ⟨hx, hb, hml, hown, hts⟩ (tX12_points l dC dI _ ax ca (xs 1) (xs 2)) (cwV 2 hts (jgoodVL m_760 m_761 m_762 m_210 m_763) rfl rfl rfl (by decide +kernel) ⟨(Nat.le_of_ble_eq_true rfl), (Nat.le_of_ble_eq_true rfl)⟩) ⟨jw_blind, va_recv hKs hPs (ci := 12) (q0 := 0) rfl rfl, fun U hU hW => ⟨rfl, jw_of hU hW hPs hKs hDs⟩⟩ rfl rfl hl.1 rfl (lv_room (Nat.le_of_ble_eq_true rfl)) dL_law_664 ⟨(Nat.le_of_ble_eq_true rfl), (Nat.le_of_ble_eq_true rfl)⟩) hP hS hA (fun r1 H locs hr1 hP hS => ?_)
  have hPm := jp_tail hP
  have hr1 : r1 = 0 := hr1
  refine lv_aload_n hx hb dL_law_667 rfl (lv_at hl 1 rfl) ?_
  refine lv_aload_n hx hb dL_law_668 rfl (lv_at hl 3 rfl) ?_
  refine lv_iload_n hx hb dL_law_669 rfl (lv_at hl 0 rfl) ?_
  refine lv_iconst (v := 1) hx hb dL_law_670 (by decide) ?_
  refine lv_iadd hx hb dL_law_671 ?_
  refine jt_i 1 (by decide) ?_
  refine va_sld hx hb hX hbl hbA hS (vp_in_nI (n := 1) (by decide) (by decide)) dL_law_672 ?_
  refine jt_i (xs 1) rfl ?_
  refine lv_aload_n hx hb dL_law_673 rfl (lv_at hl 3 rfl) ?_
  refine lv_iload_n hx hb dL_law_674 rfl (lv_at hl 0 rfl) ?_
  refine lv_iconst (v := 2) hx hb dL_law_675 (by decide) ?_
  refine lv_iadd hx hb dL_law_676 ?_
  refine jt_i 2 (by decide) ?_
  refine va_sld hx hb hX hbl hbA hS (vp_in_nI (n := 2) (by decide) (by decide)) dL_law_677 ?_
  refine jt_i (xs 2) rfl ?_
  have hPs := hPm
  have hDs := jd_tail hD
  have hKs := jk_tail hK
  refine jc_i (va_runV (As := [.int (xs 1), .int (xs 2)]) (rest := [.int r1]) ⟨hx, hb, hml, hown, hts⟩ (tX13_points l dC dI _ am cm (xs 1) (xs 2)) (cwV 2 hts (jgoodVL m_764 m_765 m_766 m_96 m_767) rfl rfl rfl (by decide +kernel) ⟨(Nat.le_of_ble_eq_true rfl), (Nat.le_of_ble_eq_true rfl)⟩) ⟨jw_blind, va_recv hKs hPs (ci := 13) (q0 := 0) rfl rfl, fun U hU hW => ⟨rfl, jw_of hU hW hPs hKs hDs⟩⟩ rfl rfl hl.1 rfl (lv_room (Nat.le_of_ble_eq_true rfl)) dL_law_678 ⟨(Nat.le_of_ble_eq_true rfl), (Nat.le_of_ble_eq_true rfl)⟩) hPm hS hA (fun r2 H locs hr2 hPm hS => ?_)
  have hr2 : r2 = 0 := hr2
  refine lv_icmp_eq (tgt := 1804) hx hb dL_law_681 (by decide) (fun _ => ?_) (fun z => absurd (hr1.trans hr2.symm) z)
  exact lc_end C0 hS hl (Nat.le_of_ble_eq_true rfl) (Nat.le_of_ble_eq_true rfl)
set_option maxHeartbeats 4000000 in
set_option maxRecDepth 100000 in
theorem lc_12 {p : Program} {l : Launch} {e : Env} {s : State} {m : MethodId} {below : List Frame} {meth : Method} {c : Code} {b : Nat} {xs : Nat → Int32} (C0 : lw_At p s m meth c b 6 xs) {dC : Nat → ClassId} {dI : Nat → Nat → Nat} {ax am : Nat → Nat} {ca cm : Nat → ClassId} {tW : Nat} (hE : jE s) (hZ : va_Z "BookOfAll$Rules" "WITHOUT" "[I" (.ref tW) (fun q : Nat => s.heap.size ≤ q) s s.heap) (hT : va_T .int tW 14 (fun k => .int (jz_f k)) (fun q : Nat => s.heap.size ≤ q) s s.heap) (hK : va_K (dC, dI) vwCl (xT ca ++ mT cm) s) {H : Heap} {locs : List Loc} {ls : Array Slot} (hP : va_P (dC, dI) vwCl (xW ax ca ++ mW am cm) H) (hD : va_D (fun q : Nat => s.heap.size ≤ q) (xW ax ca ++ mW am cm)) (hS : va_S (fun q : Nat => s.heap.size ≤ q) s.heap H locs) (hl : lv_has ls 4 [(3, .int 0), (2, .ref (am 0)), (1, .ref (ax 0)), (0, .ref b)]) : W p l e room_1 s m #[Value.ref b] below meth c H locs 152 53404 (lw_Z below #[Value.ref b] s) (F0 m 686 ls []) := by
  have C0 := C0
  obtain ⟨hx, hb, hr, hml, hown, hts, hX, hbl, hlocks, hgv⟩ := id C0
  have hA : ∀ q : Nat, s.heap.size ≤ q → (fun q : Nat => s.heap.size ≤ q) q := fun _ h => h
  have hbA : ¬ (fun q : Nat => s.heap.size ≤ q) b := Nat.not_le.mpr hbl
  refine lv_aload_n hx hb dL_law_686 rfl (lv_at hl 2 rfl) ?_
  refine lv_aload_n hx hb dL_law_687 rfl (lv_at hl 3 rfl) ?_
  refine lv_iload_n hx hb dL_law_688 rfl (lv_at hl 0 rfl) ?_
  refine lv_iconst (v := 1) hx hb dL_law_689 (by decide) ?_
  refine lv_iadd hx hb dL_law_690 ?_
  refine jt_i 1 (by decide) ?_
  refine va_sld hx hb hX hbl hbA hS (vp_in_nI (n := 1) (by decide) (by decide)) dL_law_691 ?_
  refine jt_i (xs 1) rfl ?_
  have hPs := jp_init hP
  have hDs := jd_init hD
  have hKs := jk_init hK
  refine jc_i (va_runV (As := [.int (xs 1)]) (rest := []) ⟨hx, hb, hml, hown, hts⟩ (tX12_strike l dC dI _ ax ca (xs 1)) (cwV 1 hts (jgoodVL m_768 m_769 m_770 m_210 m_771) rfl rfl rfl (by decide +kernel) ⟨(Nat.le_of_ble_eq_true rfl), (Nat.le_of_ble_eq_true rfl)⟩) ⟨jw_blind, va_recv hKs hPs (ci := 12) (q0 := 0) rfl rfl, fun U hU hW => ⟨rfl, jw_of hU hW hPs hKs hDs⟩⟩ rfl rfl hl.1 rfl (lv_room (Nat.le_of_ble_eq_true rfl)) dL_law_692 ⟨(Nat.le_of_ble_eq_true rfl), (Nat.le_of_ble_eq_true rfl)⟩) hP hS hA (fun r1 H locs hr1 hP hS => ?_)
  have hPm := jp_tail hP
  have hr1 : r1 = 0 := hr1
  refine lv_aload_n hx hb dL_law_695 rfl (lv_at hl 1 rfl) ?_
  refine lv_aload_n hx hb dL_law_696 rfl (lv_at hl 3 rfl) ?_
  refine lv_iload_n hx hb dL_law_697 rfl (lv_at hl 0 rfl) ?_
  refine lv_iconst (v := 1) hx hb dL_law_698 (by decide) ?_
  refine lv_iadd hx hb dL_law_699 ?_
  refine jt_i 1 (by decide) ?_
  refine va_sld hx hb hX hbl hbA hS (vp_in_nI (n := 1) (by decide) (by decide)) dL_law_700 ?_
  refine jt_i (xs 1) rfl ?_
  have hPs := hPm
  have hDs := jd_tail hD
  have hKs := jk_tail hK
  refine jc_i (va_runV (As := [.int (xs 1)]) (rest := [.int r1]) ⟨hx, hb, hml, hown, hts⟩ (tX13_strike l dC dI _ am cm (xs 1)) (cwV 1 hts (jgoodVL m_772 m_773 m_774 m_96 m_775) rfl rfl rfl (by decide +kernel) ⟨(Nat.le_of_ble_eq_true rfl), (Nat.le_of_ble_eq_true rfl)⟩) ⟨jw_blind, va_recv hKs hPs (ci := 13) (q0 := 0) rfl rfl, fun U hU hW => ⟨rfl, jw_of hU hW hPs hKs hDs⟩⟩ rfl rfl hl.1 rfl (lv_room (Nat.le_of_ble_eq_true rfl)) dL_law_701 ⟨(Nat.le_of_ble_eq_true rfl), (Nat.le_of_ble_eq_true rfl)⟩) hPm hS hA (fun r2 H locs hr2 hPm hS => ?_)
  have hr2 : r2 = 0 := hr2
  refine lv_icmp_eq (tgt := 1804) hx hb dL_law_704 (by decide) (fun _ => ?_) (fun z => absurd (hr1.trans hr2.symm) z)
  exact lc_end C0 hS hl (Nat.le_of_ble_eq_true rfl) (Nat.le_of_ble_eq_true rfl)
set_option maxHeartbeats 4000000 in
set_option maxRecDepth 100000 in
theorem lc_13 {p : Program} {l : Launch} {e : Env} {s : State} {m : MethodId} {below : List Frame} {meth : Method} {c : Code} {b : Nat} {xs : Nat → Int32} (C0 : lw_At p s m meth c b 6 xs) {dC : Nat → ClassId} {dI : Nat → Nat → Nat} {ax am : Nat → Nat} {ca cm : Nat → ClassId} {tW : Nat} (hE : jE s) (hZ : va_Z "BookOfAll$Rules" "WITHOUT" "[I" (.ref tW) (fun q : Nat => s.heap.size ≤ q) s s.heap) (hT : va_T .int tW 14 (fun k => .int (jz_f k)) (fun q : Nat => s.heap.size ≤ q) s s.heap) (hK : va_K (dC, dI) vwCl (xT ca ++ mT cm) s) {H : Heap} {locs : List Loc} {ls : Array Slot} (hP : va_P (dC, dI) vwCl (xW ax ca ++ mW am cm) H) (hD : va_D (fun q : Nat => s.heap.size ≤ q) (xW ax ca ++ mW am cm)) (hS : va_S (fun q : Nat => s.heap.size ≤ q) s.heap H locs) (hl : lv_has ls 4 [(3, .int 0), (2, .ref (am 0)), (1, .ref (ax 0)), (0, .ref b)]) : W p l e room_1 s m #[Value.ref b] below meth c H locs 152 53404 (lw_Z below #[Value.ref b] s) (F0 m 709 ls []) := by
  have C0 := C0
  obtain ⟨hx, hb, hr, hml, hown, hts, hX, hbl, hlocks, hgv⟩ := id C0
  have hA : ∀ q : Nat, s.heap.size ≤ q → (fun q : Nat => s.heap.size ≤ q) q := fun _ h => h
  have hbA : ¬ (fun q : Nat => s.heap.size ≤ q) b := Nat.not_le.mpr hbl
  refine lv_aload_n hx hb dL_law_709 rfl (lv_at hl 2 rfl) ?_
  refine lv_aload_n hx hb dL_law_710 rfl (lv_at hl 3 rfl) ?_
  refine lv_iload_n hx hb dL_law_711 rfl (lv_at hl 0 rfl) ?_
  refine lv_iconst (v := 1) hx hb dL_law_712 (by decide) ?_
  refine lv_iadd hx hb dL_law_713 ?_
  refine jt_i 1 (by decide) ?_
  refine va_sld hx hb hX hbl hbA hS (vp_in_nI (n := 1) (by decide) (by decide)) dL_law_714 ?_
  refine jt_i (xs 1) rfl ?_
  have hPs := jp_init hP
  have hDs := jd_init hD
  have hKs := jk_init hK
  refine jc_i (va_runV (As := [.int (xs 1)]) (rest := []) ⟨hx, hb, hml, hown, hts⟩ (tX12_later l dC dI _ ax ca (xs 1)) (cwV 1 hts (jgoodVL m_776 m_777 m_778 m_210 m_779) rfl rfl rfl (by decide +kernel) ⟨(Nat.le_of_ble_eq_true rfl), (Nat.le_of_ble_eq_true rfl)⟩) ⟨jw_blind, va_recv hKs hPs (ci := 12) (q0 := 0) rfl rfl, fun U hU hW => ⟨rfl, jw_of hU hW hPs hKs hDs⟩⟩ rfl rfl hl.1 rfl (lv_room (Nat.le_of_ble_eq_true rfl)) dL_law_715 ⟨(Nat.le_of_ble_eq_true rfl), (Nat.le_of_ble_eq_true rfl)⟩) hP hS hA (fun r1 H locs hr1 hP hS => ?_)
  have hPm := jp_tail hP
  have hr1 : r1 = 0 := hr1
  refine lv_aload_n hx hb dL_law_718 rfl (lv_at hl 1 rfl) ?_
  refine lv_aload_n hx hb dL_law_719 rfl (lv_at hl 3 rfl) ?_
  refine lv_iload_n hx hb dL_law_720 rfl (lv_at hl 0 rfl) ?_
  refine lv_iconst (v := 1) hx hb dL_law_721 (by decide) ?_
  refine lv_iadd hx hb dL_law_722 ?_
  refine jt_i 1 (by decide) ?_
  refine va_sld hx hb hX hbl hbA hS (vp_in_nI (n := 1) (by decide) (by decide)) dL_law_723 ?_
  refine jt_i (xs 1) rfl ?_
  have hPs := hPm
  have hDs := jd_tail hD
  have hKs := jk_tail hK
  refine jc_i (va_runV (As := [.int (xs 1)]) (rest := [.int r1]) ⟨hx, hb, hml, hown, hts⟩ (tX13_later l dC dI _ am cm (xs 1)) (cwV 1 hts (jgoodVL m_780 m_781 m_782 m_96 m_783) rfl rfl rfl (by decide +kernel) ⟨(Nat.le_of_ble_eq_true rfl), (Nat.le_of_ble_eq_true rfl)⟩) ⟨jw_blind, va_recv hKs hPs (ci := 13) (q0 := 0) rfl rfl, fun U hU hW => ⟨rfl, jw_of hU hW hPs hKs hDs⟩⟩ rfl rfl hl.1 rfl (lv_room (Nat.le_of_ble_eq_true rfl)) dL_law_724 ⟨(Nat.le_of_ble_eq_true rfl), (Nat.le_of_ble_eq_true rfl)⟩) hPm hS hA (fun r2 H locs hr2 hPm hS => ?_)
  have hr2 : r2 = 0 := hr2
  refine lv_icmp_eq (tgt := 1804) hx hb dL_law_727 (by decide) (fun _ => ?_) (fun z => absurd (hr1.trans hr2.symm) z)
  exact lc_end C0 hS hl (Nat.le_of_ble_eq_true rfl) (Nat.le_of_ble_eq_true rfl)
set_option maxHeartbeats 4000000 in
set_option maxRecDepth 100000 in
theorem lc_14 {p : Program} {l : Launch} {e : Env} {s : State} {m : MethodId} {below : List Frame} {meth : Method} {c : Code} {b : Nat} {xs : Nat → Int32} (C0 : lw_At p s m meth c b 6 xs) {dC : Nat → ClassId} {dI : Nat → Nat → Nat} {ax am : Nat → Nat} {ca cm : Nat → ClassId} {tW : Nat} (hE : jE s) (hZ : va_Z "BookOfAll$Rules" "WITHOUT" "[I" (.ref tW) (fun q : Nat => s.heap.size ≤ q) s s.heap) (hT : va_T .int tW 14 (fun k => .int (jz_f k)) (fun q : Nat => s.heap.size ≤ q) s s.heap) (hK : va_K (dC, dI) vwCl (xT ca ++ mT cm) s) {H : Heap} {locs : List Loc} {ls : Array Slot} (hP : va_P (dC, dI) vwCl (xW ax ca ++ mW am cm) H) (hD : va_D (fun q : Nat => s.heap.size ≤ q) (xW ax ca ++ mW am cm)) (hS : va_S (fun q : Nat => s.heap.size ≤ q) s.heap H locs) (hl : lv_has ls 4 [(3, .int 0), (2, .ref (am 0)), (1, .ref (ax 0)), (0, .ref b)]) : W p l e room_1 s m #[Value.ref b] below meth c H locs 152 53404 (lw_Z below #[Value.ref b] s) (F0 m 732 ls []) := by
  have C0 := C0
  obtain ⟨hx, hb, hr, hml, hown, hts, hX, hbl, hlocks, hgv⟩ := id C0
  have hA : ∀ q : Nat, s.heap.size ≤ q → (fun q : Nat => s.heap.size ≤ q) q := fun _ h => h
  have hbA : ¬ (fun q : Nat => s.heap.size ≤ q) b := Nat.not_le.mpr hbl
  refine lv_aload_n hx hb dL_law_732 rfl (lv_at hl 2 rfl) ?_
  refine lv_aload_n hx hb dL_law_733 rfl (lv_at hl 3 rfl) ?_
  refine lv_iload_n hx hb dL_law_734 rfl (lv_at hl 0 rfl) ?_
  refine lv_iconst (v := 1) hx hb dL_law_735 (by decide) ?_
  refine lv_iadd hx hb dL_law_736 ?_
  refine jt_i 1 (by decide) ?_
  refine va_sld hx hb hX hbl hbA hS (vp_in_nI (n := 1) (by decide) (by decide)) dL_law_737 ?_
  refine jt_i (xs 1) rfl ?_
  have hPs := jp_init hP
  have hDs := jd_init hD
  have hKs := jk_init hK
  refine jc_i (va_runV (As := [.int (xs 1)]) (rest := []) ⟨hx, hb, hml, hown, hts⟩ (tX12_volume l dC dI _ ax ca (xs 1)) (cwV 1 hts (jgoodVL m_784 m_785 m_786 m_210 m_787) rfl rfl rfl (by decide +kernel) ⟨(Nat.le_of_ble_eq_true rfl), (Nat.le_of_ble_eq_true rfl)⟩) ⟨jw_blind, va_recv hKs hPs (ci := 12) (q0 := 0) rfl rfl, fun U hU hW => ⟨rfl, jw_of hU hW hPs hKs hDs⟩⟩ rfl rfl hl.1 rfl (lv_room (Nat.le_of_ble_eq_true rfl)) dL_law_738 ⟨(Nat.le_of_ble_eq_true rfl), (Nat.le_of_ble_eq_true rfl)⟩) hP hS hA (fun r1 H locs hr1 hP hS => ?_)
  have hPm := jp_tail hP
  have hr1 : r1 = (-1) := hr1
  refine lv_aload_n hx hb dL_law_741 rfl (lv_at hl 1 rfl) ?_
  refine lv_aload_n hx hb dL_law_742 rfl (lv_at hl 3 rfl) ?_
  refine lv_iload_n hx hb dL_law_743 rfl (lv_at hl 0 rfl) ?_
  refine lv_iconst (v := 1) hx hb dL_law_744 (by decide) ?_
  refine lv_iadd hx hb dL_law_745 ?_
  refine jt_i 1 (by decide) ?_
  refine va_sld hx hb hX hbl hbA hS (vp_in_nI (n := 1) (by decide) (by decide)) dL_law_746 ?_
  refine jt_i (xs 1) rfl ?_
  have hPs := hPm
  have hDs := jd_tail hD
  have hKs := jk_tail hK
  refine jc_i (va_runV (As := [.int (xs 1)]) (rest := [.int r1]) ⟨hx, hb, hml, hown, hts⟩ (tX13_volume l dC dI _ am cm (xs 1)) (cwV 1 hts (jgoodVL m_788 m_789 m_790 m_96 m_791) rfl rfl rfl (by decide +kernel) ⟨(Nat.le_of_ble_eq_true rfl), (Nat.le_of_ble_eq_true rfl)⟩) ⟨jw_blind, va_recv hKs hPs (ci := 13) (q0 := 0) rfl rfl, fun U hU hW => ⟨rfl, jw_of hU hW hPs hKs hDs⟩⟩ rfl rfl hl.1 rfl (lv_room (Nat.le_of_ble_eq_true rfl)) dL_law_747 ⟨(Nat.le_of_ble_eq_true rfl), (Nat.le_of_ble_eq_true rfl)⟩) hPm hS hA (fun r2 H locs hr2 hPm hS => ?_)
  have hr2 : r2 = (-1) := hr2
  refine lv_icmp_eq (tgt := 1804) hx hb dL_law_750 (by decide) (fun _ => ?_) (fun z => absurd (hr1.trans hr2.symm) z)
  exact lc_end C0 hS hl (Nat.le_of_ble_eq_true rfl) (Nat.le_of_ble_eq_true rfl)
set_option maxHeartbeats 4000000 in
set_option maxRecDepth 100000 in
theorem lc_15 {p : Program} {l : Launch} {e : Env} {s : State} {m : MethodId} {below : List Frame} {meth : Method} {c : Code} {b : Nat} {xs : Nat → Int32} (C0 : lw_At p s m meth c b 6 xs) {dC : Nat → ClassId} {dI : Nat → Nat → Nat} {ax am : Nat → Nat} {ca cm : Nat → ClassId} {tW : Nat} (hE : jE s) (hZ : va_Z "BookOfAll$Rules" "WITHOUT" "[I" (.ref tW) (fun q : Nat => s.heap.size ≤ q) s s.heap) (hT : va_T .int tW 14 (fun k => .int (jz_f k)) (fun q : Nat => s.heap.size ≤ q) s s.heap) (hK : va_K (dC, dI) vwCl (xT ca ++ mT cm) s) {H : Heap} {locs : List Loc} {ls : Array Slot} (hP : va_P (dC, dI) vwCl (xW ax ca ++ mW am cm) H) (hD : va_D (fun q : Nat => s.heap.size ≤ q) (xW ax ca ++ mW am cm)) (hS : va_S (fun q : Nat => s.heap.size ≤ q) s.heap H locs) (hl : lv_has ls 4 [(3, .int 0), (2, .ref (am 0)), (1, .ref (ax 0)), (0, .ref b)]) : W p l e room_1 s m #[Value.ref b] below meth c H locs 152 53404 (lw_Z below #[Value.ref b] s) (F0 m 755 ls []) := by
  have C0 := C0
  obtain ⟨hx, hb, hr, hml, hown, hts, hX, hbl, hlocks, hgv⟩ := id C0
  have hA : ∀ q : Nat, s.heap.size ≤ q → (fun q : Nat => s.heap.size ≤ q) q := fun _ h => h
  have hbA : ¬ (fun q : Nat => s.heap.size ≤ q) b := Nat.not_le.mpr hbl
  rcases jv6 (xs 1) with h | h | h | h | h | h | h | h
  · refine lv_aload_n hx hb dL_law_755 rfl (lv_at hl 2 rfl) ?_
    refine lv_aload_n hx hb dL_law_756 rfl (lv_at hl 3 rfl) ?_
    refine lv_iload_n hx hb dL_law_757 rfl (lv_at hl 0 rfl) ?_
    refine lv_iconst (v := 1) hx hb dL_law_758 (by decide) ?_
    refine lv_iadd hx hb dL_law_759 ?_
    refine jt_i 1 (by decide) ?_
    refine va_sld hx hb hX hbl hbA hS (vp_in_nI (n := 1) (by decide) (by decide)) dL_law_760 ?_
    refine jt_i (xs 1) rfl ?_
    refine lv_aload_n hx hb dL_law_761 rfl (lv_at hl 3 rfl) ?_
    refine lv_iload_n hx hb dL_law_762 rfl (lv_at hl 0 rfl) ?_
    refine lv_iconst (v := 2) hx hb dL_law_763 (by decide) ?_
    refine lv_iadd hx hb dL_law_764 ?_
    refine jt_i 2 (by decide) ?_
    refine va_sld hx hb hX hbl hbA hS (vp_in_nI (n := 2) (by decide) (by decide)) dL_law_765 ?_
    refine jt_i (xs 2) rfl ?_
    have hPs := jp_init hP
    have hDs := jd_init hD
    have hKs := jk_init hK
    refine jc_i (va_runV (As := [.int (xs 1), .int (xs 2)]) (rest := []) ⟨hx, hb, hml, hown, hts⟩ (tX12_at_lo l dC dI _ ax ca (xs 1) (xs 2) h) (cwV 2 hts (jgoodVL m_792 m_793 m_794 m_210 m_795) rfl rfl rfl (by decide +kernel) ⟨(Nat.le_of_ble_eq_true rfl), (Nat.le_of_ble_eq_true rfl)⟩) ⟨jw_blind, va_recv hKs hPs (ci := 12) (q0 := 0) rfl rfl, fun U hU hW => ⟨rfl, jw_of hU hW hPs hKs hDs⟩⟩ rfl rfl hl.1 rfl (lv_room (Nat.le_of_ble_eq_true rfl)) dL_law_766 ⟨(Nat.le_of_ble_eq_true rfl), (Nat.le_of_ble_eq_true rfl)⟩) hP hS hA (fun r1 H locs hr1 hP hS => ?_)
    have hPm := jp_tail hP
    have hr1 : r1 = (-1) := hr1
    refine lv_aload_n hx hb dL_law_769 rfl (lv_at hl 1 rfl) ?_
    refine lv_aload_n hx hb dL_law_770 rfl (lv_at hl 3 rfl) ?_
    refine lv_iload_n hx hb dL_law_771 rfl (lv_at hl 0 rfl) ?_
    refine lv_iconst (v := 1) hx hb dL_law_772 (by decide) ?_
    refine lv_iadd hx hb dL_law_773 ?_
    refine jt_i 1 (by decide) ?_
    refine va_sld hx hb hX hbl hbA hS (vp_in_nI (n := 1) (by decide) (by decide)) dL_law_774 ?_
    refine jt_i (xs 1) rfl ?_
    refine lv_aload_n hx hb dL_law_775 rfl (lv_at hl 3 rfl) ?_
    refine lv_iload_n hx hb dL_law_776 rfl (lv_at hl 0 rfl) ?_
    refine lv_iconst (v := 2) hx hb dL_law_777 (by decide) ?_
    refine lv_iadd hx hb dL_law_778 ?_
    refine jt_i 2 (by decide) ?_
    refine va_sld hx hb hX hbl hbA hS (vp_in_nI (n := 2) (by decide) (by decide)) dL_law_779 ?_
    refine jt_i (xs 2) rfl ?_
    have hPs := hPm
    have hDs := jd_tail hD
    have hKs := jk_tail hK
    refine jc_i (va_runV (As := [.int (xs 1), .int (xs 2)]) (rest := [.int r1]) ⟨hx, hb, hml, hown, hts⟩ (tX13_at l dC dI _ am cm (xs 1) (xs 2)) (cwV 2 hts (jgoodVL m_796 m_797 m_798 m_96 m_799) rfl rfl rfl (by decide +kernel) ⟨(Nat.le_of_ble_eq_true rfl), (Nat.le_of_ble_eq_true rfl)⟩) ⟨jw_blind, va_recv hKs hPs (ci := 13) (q0 := 0) rfl rfl, fun U hU hW => ⟨rfl, jw_of hU hW hPs hKs hDs⟩⟩ rfl rfl hl.1 rfl (lv_room (Nat.le_of_ble_eq_true rfl)) dL_law_780 ⟨(Nat.le_of_ble_eq_true rfl), (Nat.le_of_ble_eq_true rfl)⟩) hPm hS hA (fun r2 H locs hr2 hPm hS => ?_)
    have hr2 : r2 = (-1) := hr2
    refine lv_icmp_eq (tgt := 1804) hx hb dL_law_783 (by decide) (fun _ => ?_) (fun z => absurd (hr1.trans hr2.symm) z)
    exact lc_end C0 hS hl (Nat.le_of_ble_eq_true rfl) (Nat.le_of_ble_eq_true rfl)
  · refine lv_aload_n hx hb dL_law_755 rfl (lv_at hl 2 rfl) ?_
    refine lv_aload_n hx hb dL_law_756 rfl (lv_at hl 3 rfl) ?_
    refine lv_iload_n hx hb dL_law_757 rfl (lv_at hl 0 rfl) ?_
    refine lv_iconst (v := 1) hx hb dL_law_758 (by decide) ?_
    refine lv_iadd hx hb dL_law_759 ?_
    refine jt_i 1 (by decide) ?_
    refine va_sld hx hb hX hbl hbA hS (vp_in_nI (n := 1) (by decide) (by decide)) dL_law_760 ?_
    refine jt_i (xs 1) rfl ?_
    refine lv_aload_n hx hb dL_law_761 rfl (lv_at hl 3 rfl) ?_
    refine lv_iload_n hx hb dL_law_762 rfl (lv_at hl 0 rfl) ?_
    refine lv_iconst (v := 2) hx hb dL_law_763 (by decide) ?_
    refine lv_iadd hx hb dL_law_764 ?_
    refine jt_i 2 (by decide) ?_
    refine va_sld hx hb hX hbl hbA hS (vp_in_nI (n := 2) (by decide) (by decide)) dL_law_765 ?_
    refine jt_i (xs 2) rfl ?_
    have hPs := jp_init hP
    have hDs := jd_init hD
    have hKs := jk_init hK
    refine jc_i (va_runV (As := [.int (xs 1), .int (xs 2)]) (rest := []) ⟨hx, hb, hml, hown, hts⟩ (tX12_at_hi l dC dI _ ax ca (xs 1) (xs 2) h) (cwV 2 hts (jgoodVL m_792 m_793 m_794 m_210 m_795) rfl rfl rfl (by decide +kernel) ⟨(Nat.le_of_ble_eq_true rfl), (Nat.le_of_ble_eq_true rfl)⟩) ⟨jw_blind, va_recv hKs hPs (ci := 12) (q0 := 0) rfl rfl, fun U hU hW => ⟨rfl, jw_of hU hW hPs hKs hDs⟩⟩ rfl rfl hl.1 rfl (lv_room (Nat.le_of_ble_eq_true rfl)) dL_law_766 ⟨(Nat.le_of_ble_eq_true rfl), (Nat.le_of_ble_eq_true rfl)⟩) hP hS hA (fun r1 H locs hr1 hP hS => ?_)
    have hPm := jp_tail hP
    have hr1 : r1 = (-1) := hr1
    refine lv_aload_n hx hb dL_law_769 rfl (lv_at hl 1 rfl) ?_
    refine lv_aload_n hx hb dL_law_770 rfl (lv_at hl 3 rfl) ?_
    refine lv_iload_n hx hb dL_law_771 rfl (lv_at hl 0 rfl) ?_
    refine lv_iconst (v := 1) hx hb dL_law_772 (by decide) ?_
    refine lv_iadd hx hb dL_law_773 ?_
    refine jt_i 1 (by decide) ?_
    refine va_sld hx hb hX hbl hbA hS (vp_in_nI (n := 1) (by decide) (by decide)) dL_law_774 ?_
    refine jt_i (xs 1) rfl ?_
    refine lv_aload_n hx hb dL_law_775 rfl (lv_at hl 3 rfl) ?_
    refine lv_iload_n hx hb dL_law_776 rfl (lv_at hl 0 rfl) ?_
    refine lv_iconst (v := 2) hx hb dL_law_777 (by decide) ?_
    refine lv_iadd hx hb dL_law_778 ?_
    refine jt_i 2 (by decide) ?_
    refine va_sld hx hb hX hbl hbA hS (vp_in_nI (n := 2) (by decide) (by decide)) dL_law_779 ?_
    refine jt_i (xs 2) rfl ?_
    have hPs := hPm
    have hDs := jd_tail hD
    have hKs := jk_tail hK
    refine jc_i (va_runV (As := [.int (xs 1), .int (xs 2)]) (rest := [.int r1]) ⟨hx, hb, hml, hown, hts⟩ (tX13_at l dC dI _ am cm (xs 1) (xs 2)) (cwV 2 hts (jgoodVL m_796 m_797 m_798 m_96 m_799) rfl rfl rfl (by decide +kernel) ⟨(Nat.le_of_ble_eq_true rfl), (Nat.le_of_ble_eq_true rfl)⟩) ⟨jw_blind, va_recv hKs hPs (ci := 13) (q0 := 0) rfl rfl, fun U hU hW => ⟨rfl, jw_of hU hW hPs hKs hDs⟩⟩ rfl rfl hl.1 rfl (lv_room (Nat.le_of_ble_eq_true rfl)) dL_law_780 ⟨(Nat.le_of_ble_eq_true rfl), (Nat.le_of_ble_eq_true rfl)⟩) hPm hS hA (fun r2 H locs hr2 hPm hS => ?_)
    have hr2 : r2 = (-1) := hr2
    refine lv_icmp_eq (tgt := 1804) hx hb dL_law_783 (by decide) (fun _ => ?_) (fun z => absurd (hr1.trans hr2.symm) z)
    exact lc_end C0 hS hl (Nat.le_of_ble_eq_true rfl) (Nat.le_of_ble_eq_true rfl)
  · refine lv_aload_n hx hb dL_law_755 rfl (lv_at hl 2 rfl) ?_
    refine lv_aload_n hx hb dL_law_756 rfl (lv_at hl 3 rfl) ?_
    refine lv_iload_n hx hb dL_law_757 rfl (lv_at hl 0 rfl) ?_
    refine lv_iconst (v := 1) hx hb dL_law_758 (by decide) ?_
    refine lv_iadd hx hb dL_law_759 ?_
    refine jt_i 1 (by decide) ?_
    refine va_sld hx hb hX hbl hbA hS (vp_in_nI (n := 1) (by decide) (by decide)) dL_law_760 ?_
    refine jt_i (xs 1) rfl ?_
    refine jt_i 0 h ?_
    refine lv_aload_n hx hb dL_law_761 rfl (lv_at hl 3 rfl) ?_
    refine lv_iload_n hx hb dL_law_762 rfl (lv_at hl 0 rfl) ?_
    refine lv_iconst (v := 2) hx hb dL_law_763 (by decide) ?_
    refine lv_iadd hx hb dL_law_764 ?_
    refine jt_i 2 (by decide) ?_
    refine va_sld hx hb hX hbl hbA hS (vp_in_nI (n := 2) (by decide) (by decide)) dL_law_765 ?_
    refine jt_i (xs 2) rfl ?_
    have hPs := jp_init hP
    have hDs := jd_init hD
    have hKs := jk_init hK
    refine jcx_i (va_runV (As := [.int 0, .int (xs 2)]) (rest := []) ⟨hx, hb, hml, hown, hts⟩ (tX12_at_v0 l dC dI _ ax ca (xs 2) tW) (cwV 2 hts (jgoodVL m_792 m_793 m_794 m_210 m_795) rfl rfl rfl (by decide +kernel) ⟨(Nat.le_of_ble_eq_true rfl), (Nat.le_of_ble_eq_true rfl)⟩) ⟨jw_blindZ, va_recv hKs hPs (ci := 12) (q0 := 0) rfl rfl, fun U hU hW => ⟨rfl, jw_of hU hW hPs hKs hDs, jz_of hU hW hDs hS hA hZ hT⟩⟩ rfl rfl hl.1 rfl (lv_room (Nat.le_of_ble_eq_true rfl)) dL_law_766 ⟨(Nat.le_of_ble_eq_true rfl), (Nat.le_of_ble_eq_true rfl)⟩) hP hD hS hA (fun r1 H locs hr1 hPm hS => ?_)
    have hr1 : r1 = (-1) := hr1
    refine lv_aload_n hx hb dL_law_769 rfl (lv_at hl 1 rfl) ?_
    refine lv_aload_n hx hb dL_law_770 rfl (lv_at hl 3 rfl) ?_
    refine lv_iload_n hx hb dL_law_771 rfl (lv_at hl 0 rfl) ?_
    refine lv_iconst (v := 1) hx hb dL_law_772 (by decide) ?_
    refine lv_iadd hx hb dL_law_773 ?_
    refine jt_i 1 (by decide) ?_
    refine va_sld hx hb hX hbl hbA hS (vp_in_nI (n := 1) (by decide) (by decide)) dL_law_774 ?_
    refine jt_i (xs 1) rfl ?_
    refine jt_i 0 h ?_
    refine lv_aload_n hx hb dL_law_775 rfl (lv_at hl 3 rfl) ?_
    refine lv_iload_n hx hb dL_law_776 rfl (lv_at hl 0 rfl) ?_
    refine lv_iconst (v := 2) hx hb dL_law_777 (by decide) ?_
    refine lv_iadd hx hb dL_law_778 ?_
    refine jt_i 2 (by decide) ?_
    refine va_sld hx hb hX hbl hbA hS (vp_in_nI (n := 2) (by decide) (by decide)) dL_law_779 ?_
    refine jt_i (xs 2) rfl ?_
    have hPs := hPm
    have hDs := jd_tail hD
    have hKs := jk_tail hK
    refine jc_i (va_runV (As := [.int 0, .int (xs 2)]) (rest := [.int r1]) ⟨hx, hb, hml, hown, hts⟩ (tX13_at l dC dI _ am cm 0 (xs 2)) (cwV 2 hts (jgoodVL m_796 m_797 m_798 m_96 m_799) rfl rfl rfl (by decide +kernel) ⟨(Nat.le_of_ble_eq_true rfl), (Nat.le_of_ble_eq_true rfl)⟩) ⟨jw_blind, va_recv hKs hPs (ci := 13) (q0 := 0) rfl rfl, fun U hU hW => ⟨rfl, jw_of hU hW hPs hKs hDs⟩⟩ rfl rfl hl.1 rfl (lv_room (Nat.le_of_ble_eq_true rfl)) dL_law_780 ⟨(Nat.le_of_ble_eq_true rfl), (Nat.le_of_ble_eq_true rfl)⟩) hPm hS hA (fun r2 H locs hr2 hPm hS => ?_)
    have hr2 : r2 = (-1) := hr2
    refine lv_icmp_eq (tgt := 1804) hx hb dL_law_783 (by decide) (fun _ => ?_) (fun z => absurd (hr1.trans hr2.symm) z)
    exact lc_end C0 hS hl (Nat.le_of_ble_eq_true rfl) (Nat.le_of_ble_eq_true rfl)
  · refine lv_aload_n hx hb dL_law_755 rfl (lv_at hl 2 rfl) ?_
    refine lv_aload_n hx hb dL_law_756 rfl (lv_at hl 3 rfl) ?_
    refine lv_iload_n hx hb dL_law_757 rfl (lv_at hl 0 rfl) ?_
    refine lv_iconst (v := 1) hx hb dL_law_758 (by decide) ?_
    refine lv_iadd hx hb dL_law_759 ?_
    refine jt_i 1 (by decide) ?_
    refine va_sld hx hb hX hbl hbA hS (vp_in_nI (n := 1) (by decide) (by decide)) dL_law_760 ?_
    refine jt_i (xs 1) rfl ?_
    refine jt_i 1 h ?_
    refine lv_aload_n hx hb dL_law_761 rfl (lv_at hl 3 rfl) ?_
    refine lv_iload_n hx hb dL_law_762 rfl (lv_at hl 0 rfl) ?_
    refine lv_iconst (v := 2) hx hb dL_law_763 (by decide) ?_
    refine lv_iadd hx hb dL_law_764 ?_
    refine jt_i 2 (by decide) ?_
    refine va_sld hx hb hX hbl hbA hS (vp_in_nI (n := 2) (by decide) (by decide)) dL_law_765 ?_
    refine jt_i (xs 2) rfl ?_
    have hPs := jp_init hP
    have hDs := jd_init hD
    have hKs := jk_init hK
    refine jcx_i (va_runV (As := [.int 1, .int (xs 2)]) (rest := []) ⟨hx, hb, hml, hown, hts⟩ (tX12_at_v1 l dC dI _ ax ca (xs 2) tW) (cwV 2 hts (jgoodVL m_792 m_793 m_794 m_210 m_795) rfl rfl rfl (by decide +kernel) ⟨(Nat.le_of_ble_eq_true rfl), (Nat.le_of_ble_eq_true rfl)⟩) ⟨jw_blindZ, va_recv hKs hPs (ci := 12) (q0 := 0) rfl rfl, fun U hU hW => ⟨rfl, jw_of hU hW hPs hKs hDs, jz_of hU hW hDs hS hA hZ hT⟩⟩ rfl rfl hl.1 rfl (lv_room (Nat.le_of_ble_eq_true rfl)) dL_law_766 ⟨(Nat.le_of_ble_eq_true rfl), (Nat.le_of_ble_eq_true rfl)⟩) hP hD hS hA (fun r1 H locs hr1 hPm hS => ?_)
    have hr1 : r1 = (-1) := hr1
    refine lv_aload_n hx hb dL_law_769 rfl (lv_at hl 1 rfl) ?_
    refine lv_aload_n hx hb dL_law_770 rfl (lv_at hl 3 rfl) ?_
    refine lv_iload_n hx hb dL_law_771 rfl (lv_at hl 0 rfl) ?_
    refine lv_iconst (v := 1) hx hb dL_law_772 (by decide) ?_
    refine lv_iadd hx hb dL_law_773 ?_
    refine jt_i 1 (by decide) ?_
    refine va_sld hx hb hX hbl hbA hS (vp_in_nI (n := 1) (by decide) (by decide)) dL_law_774 ?_
    refine jt_i (xs 1) rfl ?_
    refine jt_i 1 h ?_
    refine lv_aload_n hx hb dL_law_775 rfl (lv_at hl 3 rfl) ?_
    refine lv_iload_n hx hb dL_law_776 rfl (lv_at hl 0 rfl) ?_
    refine lv_iconst (v := 2) hx hb dL_law_777 (by decide) ?_
    refine lv_iadd hx hb dL_law_778 ?_
    refine jt_i 2 (by decide) ?_
    refine va_sld hx hb hX hbl hbA hS (vp_in_nI (n := 2) (by decide) (by decide)) dL_law_779 ?_
    refine jt_i (xs 2) rfl ?_
    have hPs := hPm
    have hDs := jd_tail hD
    have hKs := jk_tail hK
    refine jc_i (va_runV (As := [.int 1, .int (xs 2)]) (rest := [.int r1]) ⟨hx, hb, hml, hown, hts⟩ (tX13_at l dC dI _ am cm 1 (xs 2)) (cwV 2 hts (jgoodVL m_796 m_797 m_798 m_96 m_799) rfl rfl rfl (by decide +kernel) ⟨(Nat.le_of_ble_eq_true rfl), (Nat.le_of_ble_eq_true rfl)⟩) ⟨jw_blind, va_recv hKs hPs (ci := 13) (q0 := 0) rfl rfl, fun U hU hW => ⟨rfl, jw_of hU hW hPs hKs hDs⟩⟩ rfl rfl hl.1 rfl (lv_room (Nat.le_of_ble_eq_true rfl)) dL_law_780 ⟨(Nat.le_of_ble_eq_true rfl), (Nat.le_of_ble_eq_true rfl)⟩) hPm hS hA (fun r2 H locs hr2 hPm hS => ?_)
    have hr2 : r2 = (-1) := hr2
    refine lv_icmp_eq (tgt := 1804) hx hb dL_law_783 (by decide) (fun _ => ?_) (fun z => absurd (hr1.trans hr2.symm) z)
    exact lc_end C0 hS hl (Nat.le_of_ble_eq_true rfl) (Nat.le_of_ble_eq_true rfl)
  · refine lv_aload_n hx hb dL_law_755 rfl (lv_at hl 2 rfl) ?_
    refine lv_aload_n hx hb dL_law_756 rfl (lv_at hl 3 rfl) ?_
    refine lv_iload_n hx hb dL_law_757 rfl (lv_at hl 0 rfl) ?_
    refine lv_iconst (v := 1) hx hb dL_law_758 (by decide) ?_
    refine lv_iadd hx hb dL_law_759 ?_
    refine jt_i 1 (by decide) ?_
    refine va_sld hx hb hX hbl hbA hS (vp_in_nI (n := 1) (by decide) (by decide)) dL_law_760 ?_
    refine jt_i (xs 1) rfl ?_
    refine jt_i 2 h ?_
    refine lv_aload_n hx hb dL_law_761 rfl (lv_at hl 3 rfl) ?_
    refine lv_iload_n hx hb dL_law_762 rfl (lv_at hl 0 rfl) ?_
    refine lv_iconst (v := 2) hx hb dL_law_763 (by decide) ?_
    refine lv_iadd hx hb dL_law_764 ?_
    refine jt_i 2 (by decide) ?_
    refine va_sld hx hb hX hbl hbA hS (vp_in_nI (n := 2) (by decide) (by decide)) dL_law_765 ?_
    refine jt_i (xs 2) rfl ?_
    have hPs := jp_init hP
    have hDs := jd_init hD
    have hKs := jk_init hK
    refine jcx_i (va_runV (As := [.int 2, .int (xs 2)]) (rest := []) ⟨hx, hb, hml, hown, hts⟩ (tX12_at_v2 l dC dI _ ax ca (xs 2) tW) (cwV 2 hts (jgoodVL m_792 m_793 m_794 m_210 m_795) rfl rfl rfl (by decide +kernel) ⟨(Nat.le_of_ble_eq_true rfl), (Nat.le_of_ble_eq_true rfl)⟩) ⟨jw_blindZ, va_recv hKs hPs (ci := 12) (q0 := 0) rfl rfl, fun U hU hW => ⟨rfl, jw_of hU hW hPs hKs hDs, jz_of hU hW hDs hS hA hZ hT⟩⟩ rfl rfl hl.1 rfl (lv_room (Nat.le_of_ble_eq_true rfl)) dL_law_766 ⟨(Nat.le_of_ble_eq_true rfl), (Nat.le_of_ble_eq_true rfl)⟩) hP hD hS hA (fun r1 H locs hr1 hPm hS => ?_)
    have hr1 : r1 = (-1) := hr1
    refine lv_aload_n hx hb dL_law_769 rfl (lv_at hl 1 rfl) ?_
    refine lv_aload_n hx hb dL_law_770 rfl (lv_at hl 3 rfl) ?_
    refine lv_iload_n hx hb dL_law_771 rfl (lv_at hl 0 rfl) ?_
    refine lv_iconst (v := 1) hx hb dL_law_772 (by decide) ?_
    refine lv_iadd hx hb dL_law_773 ?_
    refine jt_i 1 (by decide) ?_
    refine va_sld hx hb hX hbl hbA hS (vp_in_nI (n := 1) (by decide) (by decide)) dL_law_774 ?_
    refine jt_i (xs 1) rfl ?_
    refine jt_i 2 h ?_
    refine lv_aload_n hx hb dL_law_775 rfl (lv_at hl 3 rfl) ?_
    refine lv_iload_n hx hb dL_law_776 rfl (lv_at hl 0 rfl) ?_
    refine lv_iconst (v := 2) hx hb dL_law_777 (by decide) ?_
    refine lv_iadd hx hb dL_law_778 ?_
    refine jt_i 2 (by decide) ?_
    refine va_sld hx hb hX hbl hbA hS (vp_in_nI (n := 2) (by decide) (by decide)) dL_law_779 ?_
    refine jt_i (xs 2) rfl ?_
    have hPs := hPm
    have hDs := jd_tail hD
    have hKs := jk_tail hK
    refine jc_i (va_runV (As := [.int 2, .int (xs 2)]) (rest := [.int r1]) ⟨hx, hb, hml, hown, hts⟩ (tX13_at l dC dI _ am cm 2 (xs 2)) (cwV 2 hts (jgoodVL m_796 m_797 m_798 m_96 m_799) rfl rfl rfl (by decide +kernel) ⟨(Nat.le_of_ble_eq_true rfl), (Nat.le_of_ble_eq_true rfl)⟩) ⟨jw_blind, va_recv hKs hPs (ci := 13) (q0 := 0) rfl rfl, fun U hU hW => ⟨rfl, jw_of hU hW hPs hKs hDs⟩⟩ rfl rfl hl.1 rfl (lv_room (Nat.le_of_ble_eq_true rfl)) dL_law_780 ⟨(Nat.le_of_ble_eq_true rfl), (Nat.le_of_ble_eq_true rfl)⟩) hPm hS hA (fun r2 H locs hr2 hPm hS => ?_)
    have hr2 : r2 = (-1) := hr2
    refine lv_icmp_eq (tgt := 1804) hx hb dL_law_783 (by decide) (fun _ => ?_) (fun z => absurd (hr1.trans hr2.symm) z)
    exact lc_end C0 hS hl (Nat.le_of_ble_eq_true rfl) (Nat.le_of_ble_eq_true rfl)
  · refine lv_aload_n hx hb dL_law_755 rfl (lv_at hl 2 rfl) ?_
    refine lv_aload_n hx hb dL_law_756 rfl (lv_at hl 3 rfl) ?_
    refine lv_iload_n hx hb dL_law_757 rfl (lv_at hl 0 rfl) ?_
    refine lv_iconst (v := 1) hx hb dL_law_758 (by decide) ?_
    refine lv_iadd hx hb dL_law_759 ?_
    refine jt_i 1 (by decide) ?_
    refine va_sld hx hb hX hbl hbA hS (vp_in_nI (n := 1) (by decide) (by decide)) dL_law_760 ?_
    refine jt_i (xs 1) rfl ?_
    refine jt_i 3 h ?_
    refine lv_aload_n hx hb dL_law_761 rfl (lv_at hl 3 rfl) ?_
    refine lv_iload_n hx hb dL_law_762 rfl (lv_at hl 0 rfl) ?_
    refine lv_iconst (v := 2) hx hb dL_law_763 (by decide) ?_
    refine lv_iadd hx hb dL_law_764 ?_
    refine jt_i 2 (by decide) ?_
    refine va_sld hx hb hX hbl hbA hS (vp_in_nI (n := 2) (by decide) (by decide)) dL_law_765 ?_
    refine jt_i (xs 2) rfl ?_
    have hPs := jp_init hP
    have hDs := jd_init hD
    have hKs := jk_init hK
    refine jcx_i (va_runV (As := [.int 3, .int (xs 2)]) (rest := []) ⟨hx, hb, hml, hown, hts⟩ (tX12_at_v3 l dC dI _ ax ca (xs 2) tW) (cwV 2 hts (jgoodVL m_792 m_793 m_794 m_210 m_795) rfl rfl rfl (by decide +kernel) ⟨(Nat.le_of_ble_eq_true rfl), (Nat.le_of_ble_eq_true rfl)⟩) ⟨jw_blindZ, va_recv hKs hPs (ci := 12) (q0 := 0) rfl rfl, fun U hU hW => ⟨rfl, jw_of hU hW hPs hKs hDs, jz_of hU hW hDs hS hA hZ hT⟩⟩ rfl rfl hl.1 rfl (lv_room (Nat.le_of_ble_eq_true rfl)) dL_law_766 ⟨(Nat.le_of_ble_eq_true rfl), (Nat.le_of_ble_eq_true rfl)⟩) hP hD hS hA (fun r1 H locs hr1 hPm hS => ?_)
    have hr1 : r1 = (-1) := hr1
    refine lv_aload_n hx hb dL_law_769 rfl (lv_at hl 1 rfl) ?_
    refine lv_aload_n hx hb dL_law_770 rfl (lv_at hl 3 rfl) ?_
    refine lv_iload_n hx hb dL_law_771 rfl (lv_at hl 0 rfl) ?_
    refine lv_iconst (v := 1) hx hb dL_law_772 (by decide) ?_
    refine lv_iadd hx hb dL_law_773 ?_
    refine jt_i 1 (by decide) ?_
    refine va_sld hx hb hX hbl hbA hS (vp_in_nI (n := 1) (by decide) (by decide)) dL_law_774 ?_
    refine jt_i (xs 1) rfl ?_
    refine jt_i 3 h ?_
    refine lv_aload_n hx hb dL_law_775 rfl (lv_at hl 3 rfl) ?_
    refine lv_iload_n hx hb dL_law_776 rfl (lv_at hl 0 rfl) ?_
    refine lv_iconst (v := 2) hx hb dL_law_777 (by decide) ?_
    refine lv_iadd hx hb dL_law_778 ?_
    refine jt_i 2 (by decide) ?_
    refine va_sld hx hb hX hbl hbA hS (vp_in_nI (n := 2) (by decide) (by decide)) dL_law_779 ?_
    refine jt_i (xs 2) rfl ?_
    have hPs := hPm
    have hDs := jd_tail hD
    have hKs := jk_tail hK
    refine jc_i (va_runV (As := [.int 3, .int (xs 2)]) (rest := [.int r1]) ⟨hx, hb, hml, hown, hts⟩ (tX13_at l dC dI _ am cm 3 (xs 2)) (cwV 2 hts (jgoodVL m_796 m_797 m_798 m_96 m_799) rfl rfl rfl (by decide +kernel) ⟨(Nat.le_of_ble_eq_true rfl), (Nat.le_of_ble_eq_true rfl)⟩) ⟨jw_blind, va_recv hKs hPs (ci := 13) (q0 := 0) rfl rfl, fun U hU hW => ⟨rfl, jw_of hU hW hPs hKs hDs⟩⟩ rfl rfl hl.1 rfl (lv_room (Nat.le_of_ble_eq_true rfl)) dL_law_780 ⟨(Nat.le_of_ble_eq_true rfl), (Nat.le_of_ble_eq_true rfl)⟩) hPm hS hA (fun r2 H locs hr2 hPm hS => ?_)
    have hr2 : r2 = (-1) := hr2
    refine lv_icmp_eq (tgt := 1804) hx hb dL_law_783 (by decide) (fun _ => ?_) (fun z => absurd (hr1.trans hr2.symm) z)
    exact lc_end C0 hS hl (Nat.le_of_ble_eq_true rfl) (Nat.le_of_ble_eq_true rfl)
  · refine lv_aload_n hx hb dL_law_755 rfl (lv_at hl 2 rfl) ?_
    refine lv_aload_n hx hb dL_law_756 rfl (lv_at hl 3 rfl) ?_
    refine lv_iload_n hx hb dL_law_757 rfl (lv_at hl 0 rfl) ?_
    refine lv_iconst (v := 1) hx hb dL_law_758 (by decide) ?_
    refine lv_iadd hx hb dL_law_759 ?_
    refine jt_i 1 (by decide) ?_
    refine va_sld hx hb hX hbl hbA hS (vp_in_nI (n := 1) (by decide) (by decide)) dL_law_760 ?_
    refine jt_i (xs 1) rfl ?_
    refine jt_i 4 h ?_
    refine lv_aload_n hx hb dL_law_761 rfl (lv_at hl 3 rfl) ?_
    refine lv_iload_n hx hb dL_law_762 rfl (lv_at hl 0 rfl) ?_
    refine lv_iconst (v := 2) hx hb dL_law_763 (by decide) ?_
    refine lv_iadd hx hb dL_law_764 ?_
    refine jt_i 2 (by decide) ?_
    refine va_sld hx hb hX hbl hbA hS (vp_in_nI (n := 2) (by decide) (by decide)) dL_law_765 ?_
    refine jt_i (xs 2) rfl ?_
    have hPs := jp_init hP
    have hDs := jd_init hD
    have hKs := jk_init hK
    refine jcx_i (va_runV (As := [.int 4, .int (xs 2)]) (rest := []) ⟨hx, hb, hml, hown, hts⟩ (tX12_at_v4 l dC dI _ ax ca (xs 2) tW) (cwV 2 hts (jgoodVL m_792 m_793 m_794 m_210 m_795) rfl rfl rfl (by decide +kernel) ⟨(Nat.le_of_ble_eq_true rfl), (Nat.le_of_ble_eq_true rfl)⟩) ⟨jw_blindZ, va_recv hKs hPs (ci := 12) (q0 := 0) rfl rfl, fun U hU hW => ⟨rfl, jw_of hU hW hPs hKs hDs, jz_of hU hW hDs hS hA hZ hT⟩⟩ rfl rfl hl.1 rfl (lv_room (Nat.le_of_ble_eq_true rfl)) dL_law_766 ⟨(Nat.le_of_ble_eq_true rfl), (Nat.le_of_ble_eq_true rfl)⟩) hP hD hS hA (fun r1 H locs hr1 hPm hS => ?_)
    have hr1 : r1 = (-1) := hr1
    refine lv_aload_n hx hb dL_law_769 rfl (lv_at hl 1 rfl) ?_
    refine lv_aload_n hx hb dL_law_770 rfl (lv_at hl 3 rfl) ?_
    refine lv_iload_n hx hb dL_law_771 rfl (lv_at hl 0 rfl) ?_
    refine lv_iconst (v := 1) hx hb dL_law_772 (by decide) ?_
    refine lv_iadd hx hb dL_law_773 ?_
    refine jt_i 1 (by decide) ?_
    refine va_sld hx hb hX hbl hbA hS (vp_in_nI (n := 1) (by decide) (by decide)) dL_law_774 ?_
    refine jt_i (xs 1) rfl ?_
    refine jt_i 4 h ?_
    refine lv_aload_n hx hb dL_law_775 rfl (lv_at hl 3 rfl) ?_
    refine lv_iload_n hx hb dL_law_776 rfl (lv_at hl 0 rfl) ?_
    refine lv_iconst (v := 2) hx hb dL_law_777 (by decide) ?_
    refine lv_iadd hx hb dL_law_778 ?_
    refine jt_i 2 (by decide) ?_
    refine va_sld hx hb hX hbl hbA hS (vp_in_nI (n := 2) (by decide) (by decide)) dL_law_779 ?_
    refine jt_i (xs 2) rfl ?_
    have hPs := hPm
    have hDs := jd_tail hD
    have hKs := jk_tail hK
    refine jc_i (va_runV (As := [.int 4, .int (xs 2)]) (rest := [.int r1]) ⟨hx, hb, hml, hown, hts⟩ (tX13_at l dC dI _ am cm 4 (xs 2)) (cwV 2 hts (jgoodVL m_796 m_797 m_798 m_96 m_799) rfl rfl rfl (by decide +kernel) ⟨(Nat.le_of_ble_eq_true rfl), (Nat.le_of_ble_eq_true rfl)⟩) ⟨jw_blind, va_recv hKs hPs (ci := 13) (q0 := 0) rfl rfl, fun U hU hW => ⟨rfl, jw_of hU hW hPs hKs hDs⟩⟩ rfl rfl hl.1 rfl (lv_room (Nat.le_of_ble_eq_true rfl)) dL_law_780 ⟨(Nat.le_of_ble_eq_true rfl), (Nat.le_of_ble_eq_true rfl)⟩) hPm hS hA (fun r2 H locs hr2 hPm hS => ?_)
    have hr2 : r2 = (-1) := hr2
    refine lv_icmp_eq (tgt := 1804) hx hb dL_law_783 (by decide) (fun _ => ?_) (fun z => absurd (hr1.trans hr2.symm) z)
    exact lc_end C0 hS hl (Nat.le_of_ble_eq_true rfl) (Nat.le_of_ble_eq_true rfl)
  · refine lv_aload_n hx hb dL_law_755 rfl (lv_at hl 2 rfl) ?_
    refine lv_aload_n hx hb dL_law_756 rfl (lv_at hl 3 rfl) ?_
    refine lv_iload_n hx hb dL_law_757 rfl (lv_at hl 0 rfl) ?_
    refine lv_iconst (v := 1) hx hb dL_law_758 (by decide) ?_
    refine lv_iadd hx hb dL_law_759 ?_
    refine jt_i 1 (by decide) ?_
    refine va_sld hx hb hX hbl hbA hS (vp_in_nI (n := 1) (by decide) (by decide)) dL_law_760 ?_
    refine jt_i (xs 1) rfl ?_
    refine jt_i 5 h ?_
    refine lv_aload_n hx hb dL_law_761 rfl (lv_at hl 3 rfl) ?_
    refine lv_iload_n hx hb dL_law_762 rfl (lv_at hl 0 rfl) ?_
    refine lv_iconst (v := 2) hx hb dL_law_763 (by decide) ?_
    refine lv_iadd hx hb dL_law_764 ?_
    refine jt_i 2 (by decide) ?_
    refine va_sld hx hb hX hbl hbA hS (vp_in_nI (n := 2) (by decide) (by decide)) dL_law_765 ?_
    refine jt_i (xs 2) rfl ?_
    have hPs := jp_init hP
    have hDs := jd_init hD
    have hKs := jk_init hK
    refine jcx_i (va_runV (As := [.int 5, .int (xs 2)]) (rest := []) ⟨hx, hb, hml, hown, hts⟩ (tX12_at_v5 l dC dI _ ax ca (xs 2) tW) (cwV 2 hts (jgoodVL m_792 m_793 m_794 m_210 m_795) rfl rfl rfl (by decide +kernel) ⟨(Nat.le_of_ble_eq_true rfl), (Nat.le_of_ble_eq_true rfl)⟩) ⟨jw_blindZ, va_recv hKs hPs (ci := 12) (q0 := 0) rfl rfl, fun U hU hW => ⟨rfl, jw_of hU hW hPs hKs hDs, jz_of hU hW hDs hS hA hZ hT⟩⟩ rfl rfl hl.1 rfl (lv_room (Nat.le_of_ble_eq_true rfl)) dL_law_766 ⟨(Nat.le_of_ble_eq_true rfl), (Nat.le_of_ble_eq_true rfl)⟩) hP hD hS hA (fun r1 H locs hr1 hPm hS => ?_)
    have hr1 : r1 = (-1) := hr1
    refine lv_aload_n hx hb dL_law_769 rfl (lv_at hl 1 rfl) ?_
    refine lv_aload_n hx hb dL_law_770 rfl (lv_at hl 3 rfl) ?_
    refine lv_iload_n hx hb dL_law_771 rfl (lv_at hl 0 rfl) ?_
    refine lv_iconst (v := 1) hx hb dL_law_772 (by decide) ?_
    refine lv_iadd hx hb dL_law_773 ?_
    refine jt_i 1 (by decide) ?_
    refine va_sld hx hb hX hbl hbA hS (vp_in_nI (n := 1) (by decide) (by decide)) dL_law_774 ?_
    refine jt_i (xs 1) rfl ?_
    refine jt_i 5 h ?_
    refine lv_aload_n hx hb dL_law_775 rfl (lv_at hl 3 rfl) ?_
    refine lv_iload_n hx hb dL_law_776 rfl (lv_at hl 0 rfl) ?_
    refine lv_iconst (v := 2) hx hb dL_law_777 (by decide) ?_
    refine lv_iadd hx hb dL_law_778 ?_
    refine jt_i 2 (by decide) ?_
    refine va_sld hx hb hX hbl hbA hS (vp_in_nI (n := 2) (by decide) (by decide)) dL_law_779 ?_
    refine jt_i (xs 2) rfl ?_
    have hPs := hPm
    have hDs := jd_tail hD
    have hKs := jk_tail hK
    refine jc_i (va_runV (As := [.int 5, .int (xs 2)]) (rest := [.int r1]) ⟨hx, hb, hml, hown, hts⟩ (tX13_at l dC dI _ am cm 5 (xs 2)) (cwV 2 hts (jgoodVL m_796 m_797 m_798 m_96 m_799) rfl rfl rfl (by decide +kernel) ⟨(Nat.le_of_ble_eq_true rfl), (Nat.le_of_ble_eq_true rfl)⟩) ⟨jw_blind, va_recv hKs hPs (ci := 13) (q0 := 0) rfl rfl, fun U hU hW => ⟨rfl, jw_of hU hW hPs hKs hDs⟩⟩ rfl rfl hl.1 rfl (lv_room (Nat.le_of_ble_eq_true rfl)) dL_law_780 ⟨(Nat.le_of_ble_eq_true rfl), (Nat.le_of_ble_eq_true rfl)⟩) hPm hS hA (fun r2 H locs hr2 hPm hS => ?_)
    have hr2 : r2 = (-1) := hr2
    refine lv_icmp_eq (tgt := 1804) hx hb dL_law_783 (by decide) (fun _ => ?_) (fun z => absurd (hr1.trans hr2.symm) z)
    exact lc_end C0 hS hl (Nat.le_of_ble_eq_true rfl) (Nat.le_of_ble_eq_true rfl)
