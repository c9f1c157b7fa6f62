set_option maxHeartbeats 4000000 in
set_option maxRecDepth 100000 in
theorem lc_40 {p : Program} {l : Launch} {e : Env} {s : State} {m : MethodId} {below : List Frame} {meth : Method} {c : Code} {b : Nat} {xs : Nat → Int32} (C0 : lw_At p s m meth c b 6 xs) {dC : Nat → ClassId} {dI : Nat → Nat → Nat} {ax am : Nat → Nat} {ca cm : Nat → ClassId} {tW : Nat} (hE : jE s) (hZ : va_Z "BookOfAll$Rules" "WITHOUT" "[I" (.ref tW) (fun q : Nat => s.heap.size ≤ q) s s.heap) (hT : va_T .int tW 14 (fun k => .int (jz_f k)) (fun q : Nat => s.heap.size ≤ q) s s.heap) (hK : va_K (dC, dI) vwCl (xT ca ++ mT cm) s) {H : Heap} {locs : List Loc} {ls : Array Slot} (hP : va_P (dC, dI) vwCl (xW ax ca ++ mW am cm) H) (hD : va_D (fun q : Nat => s.heap.size ≤ q) (xW ax ca ++ mW am cm)) (hS : va_S (fun q : Nat => s.heap.size ≤ q) s.heap H locs) (hl : lv_has ls 4 [(3, .int 0), (2, .ref (am 0)), (1, .ref (ax 0)), (0, .ref b)]) : W p l e room_1 s m #[Value.ref b] below meth c H locs 152 53404 (lw_Z below #[Value.ref b] s) (F0 m 1540 ls []) := by
  have C0 := C0
  obtain ⟨hx, hb, hr, hml, hown, hts, hX, hbl, hlocks, hgv⟩ := id C0
  have hA : ∀ q : Nat, s.heap.size ≤ q → (fun q : Nat => s.heap.size ≤ q) q := fun _ h => h
  have hbA : ¬ (fun q : Nat => s.heap.size ≤ q) b := Nat.not_le.mpr hbl
  refine lv_aload_n hx hb dL_law_1540 rfl (lv_at hl 2 rfl) ?_
  refine lv_aload_n hx hb dL_law_1541 rfl (lv_at hl 3 rfl) ?_
  refine lv_iload_n hx hb dL_law_1542 rfl (lv_at hl 0 rfl) ?_
  refine lv_iconst (v := 1) hx hb dL_law_1543 (by decide) ?_
  refine lv_iadd hx hb dL_law_1544 ?_
  refine jt_i 1 (by decide) ?_
  refine va_sld hx hb hX hbl hbA hS (vp_in_nI (n := 1) (by decide) (by decide)) dL_law_1545 ?_
  refine jt_i (xs 1) rfl ?_
  refine lv_aload_n hx hb dL_law_1546 rfl (lv_at hl 3 rfl) ?_
  refine lv_iload_n hx hb dL_law_1547 rfl (lv_at hl 0 rfl) ?_
  refine lv_iconst (v := 2) hx hb dL_law_1548 (by decide) ?_
  refine lv_iadd hx hb dL_law_1549 ?_
  refine jt_i 2 (by decide) ?_
  refine va_sld hx hb hX hbl hbA hS (vp_in_nI (n := 2) (by decide) (by decide)) dL_law_1550 ?_
  refine jt_i (xs 2) rfl ?_
  refine lv_aload_n hx hb dL_law_1551 rfl (lv_at hl 3 rfl) ?_
  refine lv_iload_n hx hb dL_law_1552 rfl (lv_at hl 0 rfl) ?_
  refine lv_iconst (v := 3) hx hb dL_law_1553 (by decide) ?_
  refine lv_iadd hx hb dL_law_1554 ?_
  refine jt_i 3 (by decide) ?_
  refine va_sld hx hb hX hbl hbA hS (vp_in_nI (n := 3) (by decide) (by decide)) dL_law_1555 ?_
  refine jt_i (xs 3) rfl ?_
  have hPs := jp_init hP
  have hDs := jd_init hD
  have hKs := jk_init hK
  refine jcx_i (va_runV (As := [.int (xs 1), .int (xs 2), .int (xs 3)]) (rest := []) ⟨hx, hb, hml, hown, hts⟩ (tX12_giving l dC dI _ ax ca (xs 1) (xs 2) (xs 3)) (cwV 3 hts (jgoodVL m_992 m_993 m_994 m_210 m_995) rfl rfl rfl (by decide +kernel) ⟨(Nat.le_of_ble_eq_true rfl), (Nat.le_of_ble_eq_true rfl)⟩) ⟨jw_blind, va_recv hKs hPs (ci := 12) (q0 := 0) rfl rfl, fun U hU hW => ⟨rfl, jw_of hU hW hPs hKs hDs⟩⟩ rfl rfl hl.1 rfl (lv_room (Nat.le_of_ble_eq_true rfl)) dL_law_1556 ⟨(Nat.le_of_ble_eq_true rfl), (Nat.le_of_ble_eq_true rfl)⟩) hP hD hS hA (fun r1 H locs hr1 hPm hS => ?_)
  have hr1 : r1 = (-1) := hr1
  refine lv_aload_n hx hb dL_law_1559 rfl (lv_at hl 1 rfl) ?_
  refine lv_aload_n hx hb dL_law_1560 rfl (lv_at hl 3 rfl) ?_
  refine lv_iload_n hx hb dL_law_1561 rfl (lv_at hl 0 rfl) ?_
  refine lv_iconst (v := 1) hx hb dL_law_1562 (by decide) ?_
  refine lv_iadd hx hb dL_law_1563 ?_
  refine jt_i 1 (by decide) ?_
  refine va_sld hx hb hX hbl hbA hS (vp_in_nI (n := 1) (by decide) (by decide)) dL_law_1564 ?_
  refine jt_i (xs 1) rfl ?_
  refine lv_aload_n hx hb dL_law_1565 rfl (lv_at hl 3 rfl) ?_
  refine lv_iload_n hx hb dL_law_1566 rfl (lv_at hl 0 rfl) ?_
  refine lv_iconst (v := 2) hx hb dL_law_1567 (by decide) ?_
  refine lv_iadd hx hb dL_law_1568 ?_
  refine jt_i 2 (by decide) ?_
  refine va_sld hx hb hX hbl hbA hS (vp_in_nI (n := 2) (by decide) (by decide)) dL_law_1569 ?_
  refine jt_i (xs 2) rfl ?_
  refine lv_aload_n hx hb dL_law_1570 rfl (lv_at hl 3 rfl) ?_
  refine lv_iload_n hx hb dL_law_1571 rfl (lv_at hl 0 rfl) ?_
  refine lv_iconst (v := 3) hx hb dL_law_1572 (by decide) ?_
  refine lv_iadd hx hb dL_law_1573 ?_
  refine jt_i 3 (by decide) ?_
  refine va_sld hx hb hX hbl hbA hS (vp_in_nI (n := 3) (by decide) (by decide)) dL_law_1574 ?_
  refine jt_i (xs 3) rfl ?_
  have hPs := hPm
  have hDs := jd_tail hD
  have hKs := jk_tail hK
  refine jc_i (va_runV (As := [.int (xs 1), .int (xs 2), .int (xs 3)]) (rest := [.int r1]) ⟨hx, hb, hml, hown, hts⟩ (tX13_giving l dC dI _ am cm (xs 1) (xs 2) (xs 3)) (cwV 3 hts (jgoodVL m_996 m_997 m_998 m_96 m_999) rfl rfl rfl (by decide +kernel) ⟨(Nat.le_of_ble_eq_true rfl), (Nat.le_of_ble_eq_true rfl)⟩) ⟨jw_blind, va_recv hKs hPs (ci := 13) (q0 := 0) rfl rfl, fun U hU hW => ⟨rfl, jw_of hU hW hPs hKs hDs⟩⟩ rfl rfl hl.1 rfl (lv_room (Nat.le_of_ble_eq_true rfl)) dL_law_1575 ⟨(Nat.le_of_ble_eq_true rfl), (Nat.le_of_ble_eq_true rfl)⟩) hPm hS hA (fun r2 H locs hr2 hPm hS => ?_)
  have hr2 : r2 = (-1) := hr2
  refine lv_icmp_eq (tgt := 1804) hx hb dL_law_1578 (by decide) (fun _ => ?_) (fun z => absurd (hr1.trans hr2.symm) z)
  exact lc_end C0 hS hl (Nat.le_of_ble_eq_true rfl) (Nat.le_of_ble_eq_true rfl)
set_option maxHeartbeats 4000000 in
set_option maxRecDepth 100000 in
theorem lc_41 {p : Program} {l : Launch} {e : Env} {s : State} {m : MethodId} {below : List Frame} {meth : Method} {c : Code} {b : Nat} {xs : Nat → Int32} (C0 : lw_At p s m meth c b 6 xs) {dC : Nat → ClassId} {dI : Nat → Nat → Nat} {ax am : Nat → Nat} {ca cm : Nat → ClassId} {tW : Nat} (hE : jE s) (hZ : va_Z "BookOfAll$Rules" "WITHOUT" "[I" (.ref tW) (fun q : Nat => s.heap.size ≤ q) s s.heap) (hT : va_T .int tW 14 (fun k => .int (jz_f k)) (fun q : Nat => s.heap.size ≤ q) s s.heap) (hK : va_K (dC, dI) vwCl (xT ca ++ mT cm) s) {H : Heap} {locs : List Loc} {ls : Array Slot} (hP : va_P (dC, dI) vwCl (xW ax ca ++ mW am cm) H) (hD : va_D (fun q : Nat => s.heap.size ≤ q) (xW ax ca ++ mW am cm)) (hS : va_S (fun q : Nat => s.heap.size ≤ q) s.heap H locs) (hl : lv_has ls 4 [(3, .int 0), (2, .ref (am 0)), (1, .ref (ax 0)), (0, .ref b)]) : W p l e room_1 s m #[Value.ref b] below meth c H locs 152 53404 (lw_Z below #[Value.ref b] s) (F0 m 1583 ls []) := by
  have C0 := C0
  obtain ⟨hx, hb, hr, hml, hown, hts, hX, hbl, hlocks, hgv⟩ := id C0
  have hA : ∀ q : Nat, s.heap.size ≤ q → (fun q : Nat => s.heap.size ≤ q) q := fun _ h => h
  have hbA : ¬ (fun q : Nat => s.heap.size ≤ q) b := Nat.not_le.mpr hbl
  refine lv_aload_n hx hb dL_law_1583 rfl (lv_at hl 2 rfl) ?_
  refine lv_aload_n hx hb dL_law_1584 rfl (lv_at hl 3 rfl) ?_
  refine lv_iload_n hx hb dL_law_1585 rfl (lv_at hl 0 rfl) ?_
  refine lv_iconst (v := 1) hx hb dL_law_1586 (by decide) ?_
  refine lv_iadd hx hb dL_law_1587 ?_
  refine jt_i 1 (by decide) ?_
  refine va_sld hx hb hX hbl hbA hS (vp_in_nI (n := 1) (by decide) (by decide)) dL_law_1588 ?_
  refine jt_i (xs 1) rfl ?_
  refine lv_aload_n hx hb dL_law_1589 rfl (lv_at hl 3 rfl) ?_
  refine lv_iload_n hx hb dL_law_1590 rfl (lv_at hl 0 rfl) ?_
  refine lv_iconst (v := 2) hx hb dL_law_1591 (by decide) ?_
  refine lv_iadd hx hb dL_law_1592 ?_
  refine jt_i 2 (by decide) ?_
  refine va_sld hx hb hX hbl hbA hS (vp_in_nI (n := 2) (by decide) (by decide)) dL_law_1593 ?_
  refine jt_i (xs 2) rfl ?_
  refine lv_aload_n hx hb dL_law_1594 rfl (lv_at hl 3 rfl) ?_
  refine lv_iload_n hx hb dL_law_1595 rfl (lv_at hl 0 rfl) ?_
  refine lv_iconst (v := 3) hx hb dL_law_1596 (by decide) ?_
  refine lv_iadd hx hb dL_law_1597 ?_
  refine jt_i 3 (by decide) ?_
  refine va_sld hx hb hX hbl hbA hS (vp_in_nI (n := 3) (by decide) (by decide)) dL_law_1598 ?_
  refine jt_i (xs 3) rfl ?_
  refine lv_aload_n hx hb dL_law_1599 rfl (lv_at hl 3 rfl) ?_
  refine lv_iload_n hx hb dL_law_1600 rfl (lv_at hl 0 rfl) ?_
  refine lv_iconst (v := 4) hx hb dL_law_1601 (by decide) ?_
  refine lv_iadd hx hb dL_law_1602 ?_
  refine jt_i 4 (by decide) ?_
  refine va_sld hx hb hX hbl hbA hS (vp_in_nI (n := 4) (by decide) (by decide)) dL_law_1603 ?_
  refine jt_i (xs 4) rfl ?_
  have hPs := jp_init hP
  have hDs := jd_init hD
  have hKs := jk_init hK
  refine jcx_i (va_runV (As := [.int (xs 1), .int (xs 2), .int (xs 3), .int (xs 4)]) (rest := []) ⟨hx, hb, hml, hown, hts⟩ (tX12_given l dC dI _ ax ca (xs 1) (xs 2) (xs 3) (xs 4)) (cwV 4 hts (jgoodVL m_1000 m_1001 m_1002 m_210 m_1003) rfl rfl rfl (by decide +kernel) ⟨(Nat.le_of_ble_eq_true rfl), (Nat.le_of_ble_eq_true rfl)⟩) ⟨jw_blind, va_recv hKs hPs (ci := 12) (q0 := 0) rfl rfl, fun U hU hW => ⟨rfl, jw_of hU hW hPs hKs hDs⟩⟩ rfl rfl hl.1 rfl (lv_room (Nat.le_of_ble_eq_true rfl)) dL_law_1604 ⟨(Nat.le_of_ble_eq_true rfl), (Nat.le_of_ble_eq_true rfl)⟩) hP hD hS hA (fun r1 H locs hr1 hPm hS => ?_)
  have hr1 : r1 = (-1) := hr1
  refine lv_aload_n hx hb dL_law_1607 rfl (lv_at hl 1 rfl) ?_
  refine lv_aload_n hx hb dL_law_1608 rfl (lv_at hl 3 rfl) ?_
  refine lv_iload_n hx hb dL_law_1609 rfl (lv_at hl 0 rfl) ?_
  refine lv_iconst (v := 1) hx hb dL_law_1610 (by decide) ?_
  refine lv_iadd hx hb dL_law_1611 ?_
  refine jt_i 1 (by decide) ?_
  refine va_sld hx hb hX hbl hbA hS (vp_in_nI (n := 1) (by decide) (by decide)) dL_law_1612 ?_
  refine jt_i (xs 1) rfl ?_
  refine lv_aload_n hx hb dL_law_1613 rfl (lv_at hl 3 rfl) ?_
  refine lv_iload_n hx hb dL_law_1614 rfl (lv_at hl 0 rfl) ?_
  refine lv_iconst (v := 2) hx hb dL_law_1615 (by decide) ?_
  refine lv_iadd hx hb dL_law_1616 ?_
  refine jt_i 2 (by decide) ?_
  refine va_sld hx hb hX hbl hbA hS (vp_in_nI (n := 2) (by decide) (by decide)) dL_law_1617 ?_
  refine jt_i (xs 2) rfl ?_
  refine lv_aload_n hx hb dL_law_1618 rfl (lv_at hl 3 rfl) ?_
  refine lv_iload_n hx hb dL_law_1619 rfl (lv_at hl 0 rfl) ?_
  refine lv_iconst (v := 3) hx hb dL_law_1620 (by decide) ?_
  refine lv_iadd hx hb dL_law_1621 ?_
  refine jt_i 3 (by decide) ?_
  refine va_sld hx hb hX hbl hbA hS (vp_in_nI (n := 3) (by decide) (by decide)) dL_law_1622 ?_
  refine jt_i (xs 3) rfl ?_
  refine lv_aload_n hx hb dL_law_1623 rfl (lv_at hl 3 rfl) ?_
  refine lv_iload_n hx hb dL_law_1624 rfl (lv_at hl 0 rfl) ?_
  refine lv_iconst (v := 4) hx hb dL_law_1625 (by decide) ?_
  refine lv_iadd hx hb dL_law_1626 ?_
  refine jt_i 4 (by decide) ?_
  refine va_sld hx hb hX hbl hbA hS (vp_in_nI (n := 4) (by decide) (by decide)) dL_law_1627 ?_
  refine jt_i (xs 4) rfl ?_
  have hPs := hPm
  have hDs := jd_tail hD
  have hKs := jk_tail hK
  refine jc_i (va_runV (As := [.int (xs 1), .int (xs 2), .int (xs 3), .int (xs 4)]) (rest := [.int r1]) ⟨hx, hb, hml, hown, hts⟩ (tX13_given l dC dI _ am cm (xs 1) (xs 2) (xs 3) (xs 4)) (cwV 4 hts (jgoodVL m_1004 m_1005 m_1006 m_96 m_1007) rfl rfl rfl (by decide +kernel) ⟨(Nat.le_of_ble_eq_true rfl), (Nat.le_of_ble_eq_true rfl)⟩) ⟨jw_blind, va_recv hKs hPs (ci := 13) (q0 := 0) rfl rfl, fun U hU hW => ⟨rfl, jw_of hU hW hPs hKs hDs⟩⟩ rfl rfl hl.1 rfl (lv_room (Nat.le_of_ble_eq_true rfl)) dL_law_1628 ⟨(Nat.le_of_ble_eq_true rfl), (Nat.le_of_ble_eq_true rfl)⟩) hPm hS hA (fun r2 H locs hr2 hPm hS => ?_)
  have hr2 : r2 = (-1) := hr2
  refine lv_icmp_eq (tgt := 1804) hx hb dL_law_1631 (by decide) (fun _ => ?_) (fun z => absurd (hr1.trans hr2.symm) z)
  exact lc_end C0 hS hl (Nat.le_of_ble_eq_true rfl) (Nat.le_of_ble_eq_true rfl)
set_option maxHeartbeats 4000000 in
set_option maxRecDepth 100000 in
theorem lc_42 {p : Program} {l : Launch} {e : Env} {s : State} {m : MethodId} {below : List Frame} {meth : Method} {c : Code} {b : Nat} {xs : Nat → Int32} (C0 : lw_At p s m meth c b 6 xs) {dC : Nat → ClassId} {dI : Nat → Nat → Nat} {ax am : Nat → Nat} {ca cm : Nat → ClassId} {tW : Nat} (hE : jE s) (hZ : va_Z "BookOfAll$Rules" "WITHOUT" "[I" (.ref tW) (fun q : Nat => s.heap.size ≤ q) s s.heap) (hT : va_T .int tW 14 (fun k => .int (jz_f k)) (fun q : Nat => s.heap.size ≤ q) s s.heap) (hK : va_K (dC, dI) vwCl (xT ca ++ mT cm) s) {H : Heap} {locs : List Loc} {ls : Array Slot} (hP : va_P (dC, dI) vwCl (xW ax ca ++ mW am cm) H) (hD : va_D (fun q : Nat => s.heap.size ≤ q) (xW ax ca ++ mW am cm)) (hS : va_S (fun q : Nat => s.heap.size ≤ q) s.heap H locs) (hl : lv_has ls 4 [(3, .int 0), (2, .ref (am 0)), (1, .ref (ax 0)), (0, .ref b)]) : W p l e room_1 s m #[Value.ref b] below meth c H locs 152 53404 (lw_Z below #[Value.ref b] s) (F0 m 1636 ls []) := by
  have C0 := C0
  obtain ⟨hx, hb, hr, hml, hown, hts, hX, hbl, hlocks, hgv⟩ := id C0
  have hA : ∀ q : Nat, s.heap.size ≤ q → (fun q : Nat => s.heap.size ≤ q) q := fun _ h => h
  have hbA : ¬ (fun q : Nat => s.heap.size ≤ q) b := Nat.not_le.mpr hbl
  rcases jv6 (xs 2) with h | h | h | h | h | h | h | h
  · refine lv_aload_n hx hb dL_law_1636 rfl (lv_at hl 2 rfl) ?_
    refine lv_aload_n hx hb dL_law_1637 rfl (lv_at hl 3 rfl) ?_
    refine lv_iload_n hx hb dL_law_1638 rfl (lv_at hl 0 rfl) ?_
    refine lv_iconst (v := 1) hx hb dL_law_1639 (by decide) ?_
    refine lv_iadd hx hb dL_law_1640 ?_
    refine jt_i 1 (by decide) ?_
    refine va_sld hx hb hX hbl hbA hS (vp_in_nI (n := 1) (by decide) (by decide)) dL_law_1641 ?_
    refine jt_i (xs 1) rfl ?_
    refine lv_aload_n hx hb dL_law_1642 rfl (lv_at hl 3 rfl) ?_
    refine lv_iload_n hx hb dL_law_1643 rfl (lv_at hl 0 rfl) ?_
    refine lv_iconst (v := 2) hx hb dL_law_1644 (by decide) ?_
    refine lv_iadd hx hb dL_law_1645 ?_
    refine jt_i 2 (by decide) ?_
    refine va_sld hx hb hX hbl hbA hS (vp_in_nI (n := 2) (by decide) (by decide)) dL_law_1646 ?_
    refine jt_i (xs 2) rfl ?_
    refine lv_aload_n hx hb dL_law_1647 rfl (lv_at hl 3 rfl) ?_
    refine lv_iload_n hx hb dL_law_1648 rfl (lv_at hl 0 rfl) ?_
    refine lv_iconst (v := 3) hx hb dL_law_1649 (by decide) ?_
    refine lv_iadd hx hb dL_law_1650 ?_
    refine jt_i 3 (by decide) ?_
    refine va_sld hx hb hX hbl hbA hS (vp_in_nI (n := 3) (by decide) (by decide)) dL_law_1651 ?_
    refine jt_i (xs 3) rfl ?_
    have hPs := jp_init hP
    have hDs := jd_init hD
    have hKs := jk_init hK
    refine jc_i (va_runV (As := [.int (xs 1), .int (xs 2), .int (xs 3)]) (rest := []) ⟨hx, hb, hml, hown, hts⟩ (tX12_index_lo l dC dI _ ax ca (xs 1) (xs 2) (xs 3) h) (cwV 3 hts (jgoodVL m_1008 m_1009 m_1010 m_210 m_1011) rfl rfl rfl (by decide +kernel) ⟨(Nat.le_of_ble_eq_true rfl), (Nat.le_of_ble_eq_true rfl)⟩) ⟨jw_blind, va_recv hKs hPs (ci := 12) (q0 := 0) rfl rfl, fun U hU hW => ⟨rfl, jw_of hU hW hPs hKs hDs⟩⟩ rfl rfl hl.1 rfl (lv_room (Nat.le_of_ble_eq_true rfl)) dL_law_1652 ⟨(Nat.le_of_ble_eq_true rfl), (Nat.le_of_ble_eq_true rfl)⟩) hP hS hA (fun r1 H locs hr1 hP hS => ?_)
    have hPm := jp_tail hP
    have hr1 : r1 = (-1) := hr1
    refine lv_aload_n hx hb dL_law_1655 rfl (lv_at hl 1 rfl) ?_
    refine lv_aload_n hx hb dL_law_1656 rfl (lv_at hl 3 rfl) ?_
    refine lv_iload_n hx hb dL_law_1657 rfl (lv_at hl 0 rfl) ?_
    refine lv_iconst (v := 1) hx hb dL_law_1658 (by decide) ?_
    refine lv_iadd hx hb dL_law_1659 ?_
    refine jt_i 1 (by decide) ?_
    refine va_sld hx hb hX hbl hbA hS (vp_in_nI (n := 1) (by decide) (by decide)) dL_law_1660 ?_
    refine jt_i (xs 1) rfl ?_
    refine lv_aload_n hx hb dL_law_1661 rfl (lv_at hl 3 rfl) ?_
    refine lv_iload_n hx hb dL_law_1662 rfl (lv_at hl 0 rfl) ?_
    refine lv_iconst (v := 2) hx hb dL_law_1663 (by decide) ?_
    refine lv_iadd hx hb dL_law_1664 ?_
    refine jt_i 2 (by decide) ?_
    refine va_sld hx hb hX hbl hbA hS (vp_in_nI (n := 2) (by decide) (by decide)) dL_law_1665 ?_
    refine jt_i (xs 2) rfl ?_
    refine lv_aload_n hx hb dL_law_1666 rfl (lv_at hl 3 rfl) ?_
    refine lv_iload_n hx hb dL_law_1667 rfl (lv_at hl 0 rfl) ?_
    refine lv_iconst (v := 3) hx hb dL_law_1668 (by decide) ?_
    refine lv_iadd hx hb dL_law_1669 ?_
    refine jt_i 3 (by decide) ?_
    refine va_sld hx hb hX hbl hbA hS (vp_in_nI (n := 3) (by decide) (by decide)) dL_law_1670 ?_
    refine jt_i (xs 3) rfl ?_
    have hPs := hPm
    have hDs := jd_tail hD
    have hKs := jk_tail hK
    refine jc_i (va_runV (As := [.int (xs 1), .int (xs 2), .int (xs 3)]) (rest := [.int r1]) ⟨hx, hb, hml, hown, hts⟩ (tX13_index l dC dI _ am cm (xs 1) (xs 2) (xs 3)) (cwV 3 hts (jgoodVL m_1012 m_1013 m_1014 m_96 m_1015) rfl rfl rfl (by decide +kernel) ⟨(Nat.le_of_ble_eq_true rfl), (Nat.le_of_ble_eq_true rfl)⟩) ⟨jw_blind, va_recv hKs hPs (ci := 13) (q0 := 0) rfl rfl, fun U hU hW => ⟨rfl, jw_of hU hW hPs hKs hDs⟩⟩ rfl rfl hl.1 rfl (lv_room (Nat.le_of_ble_eq_true rfl)) dL_law_1671 ⟨(Nat.le_of_ble_eq_true rfl), (Nat.le_of_ble_eq_true rfl)⟩) hPm hS hA (fun r2 H locs hr2 hPm hS => ?_)
    have hr2 : r2 = (-1) := hr2
    refine lv_icmp_eq (tgt := 1804) hx hb dL_law_1674 (by decide) (fun _ => ?_) (fun z => absurd (hr1.trans hr2.symm) z)
    exact lc_end C0 hS hl (Nat.le_of_ble_eq_true rfl) (Nat.le_of_ble_eq_true rfl)
  · refine lv_aload_n hx hb dL_law_1636 rfl (lv_at hl 2 rfl) ?_
    refine lv_aload_n hx hb dL_law_1637 rfl (lv_at hl 3 rfl) ?_
    refine lv_iload_n hx hb dL_law_1638 rfl (lv_at hl 0 rfl) ?_
    refine lv_iconst (v := 1) hx hb dL_law_1639 (by decide) ?_
    refine lv_iadd hx hb dL_law_1640 ?_
    refine jt_i 1 (by decide) ?_
    refine va_sld hx hb hX hbl hbA hS (vp_in_nI (n := 1) (by decide) (by decide)) dL_law_1641 ?_
    refine jt_i (xs 1) rfl ?_
    refine lv_aload_n hx hb dL_law_1642 rfl (lv_at hl 3 rfl) ?_
    refine lv_iload_n hx hb dL_law_1643 rfl (lv_at hl 0 rfl) ?_
    refine lv_iconst (v := 2) hx hb dL_law_1644 (by decide) ?_
    refine lv_iadd hx hb dL_law_1645 ?_
    refine jt_i 2 (by decide) ?_
    refine va_sld hx hb hX hbl hbA hS (vp_in_nI (n := 2) (by decide) (by decide)) dL_law_1646 ?_
    refine jt_i (xs 2) rfl ?_
    refine lv_aload_n hx hb dL_law_1647 rfl (lv_at hl 3 rfl) ?_
    refine lv_iload_n hx hb dL_law_1648 rfl (lv_at hl 0 rfl) ?_
    refine lv_iconst (v := 3) hx hb dL_law_1649 (by decide) ?_
    refine lv_iadd hx hb dL_law_1650 ?_
    refine jt_i 3 (by decide) ?_
    refine va_sld hx hb hX hbl hbA hS (vp_in_nI (n := 3) (by decide) (by decide)) dL_law_1651 ?_
    refine jt_i (xs 3) rfl ?_
    have hPs := jp_init hP
    have hDs := jd_init hD
    have hKs := jk_init hK
    refine jc_i (va_runV (As := [.int (xs 1), .int (xs 2), .int (xs 3)]) (rest := []) ⟨hx, hb, hml, hown, hts⟩ (tX12_index_hi l dC dI _ ax ca (xs 1) (xs 2) (xs 3) h) (cwV 3 hts (jgoodVL m_1008 m_1009 m_1010 m_210 m_1011) rfl rfl rfl (by decide +kernel) ⟨(Nat.le_of_ble_eq_true rfl), (Nat.le_of_ble_eq_true rfl)⟩) ⟨jw_blind, va_recv hKs hPs (ci := 12) (q0 := 0) rfl rfl, fun U hU hW => ⟨rfl, jw_of hU hW hPs hKs hDs⟩⟩ rfl rfl hl.1 rfl (lv_room (Nat.le_of_ble_eq_true rfl)) dL_law_1652 ⟨(Nat.le_of_ble_eq_true rfl), (Nat.le_of_ble_eq_true rfl)⟩) hP hS hA (fun r1 H locs hr1 hP hS => ?_)
    have hPm := jp_tail hP
    have hr1 : r1 = (-1) := hr1
    refine lv_aload_n hx hb dL_law_1655 rfl (lv_at hl 1 rfl) ?_
    refine lv_aload_n hx hb dL_law_1656 rfl (lv_at hl 3 rfl) ?_
    refine lv_iload_n hx hb dL_law_1657 rfl (lv_at hl 0 rfl) ?_
    refine lv_iconst (v := 1) hx hb dL_law_1658 (by decide) ?_
    refine lv_iadd hx hb dL_law_1659 ?_
    refine jt_i 1 (by decide) ?_
    refine va_sld hx hb hX hbl hbA hS (vp_in_nI (n := 1) (by decide) (by decide)) dL_law_1660 ?_
    refine jt_i (xs 1) rfl ?_
    refine lv_aload_n hx hb dL_law_1661 rfl (lv_at hl 3 rfl) ?_
    refine lv_iload_n hx hb dL_law_1662 rfl (lv_at hl 0 rfl) ?_
    refine lv_iconst (v := 2) hx hb dL_law_1663 (by decide) ?_
    refine lv_iadd hx hb dL_law_1664 ?_
    refine jt_i 2 (by decide) ?_
    refine va_sld hx hb hX hbl hbA hS (vp_in_nI (n := 2) (by decide) (by decide)) dL_law_1665 ?_
    refine jt_i (xs 2) rfl ?_
    refine lv_aload_n hx hb dL_law_1666 rfl (lv_at hl 3 rfl) ?_
    refine lv_iload_n hx hb dL_law_1667 rfl (lv_at hl 0 rfl) ?_
    refine lv_iconst (v := 3) hx hb dL_law_1668 (by decide) ?_
    refine lv_iadd hx hb dL_law_1669 ?_
    refine jt_i 3 (by decide) ?_
    refine va_sld hx hb hX hbl hbA hS (vp_in_nI (n := 3) (by decide) (by decide)) dL_law_1670 ?_
    refine jt_i (xs 3) rfl ?_
    have hPs := hPm
    have hDs := jd_tail hD
    have hKs := jk_tail hK
    refine jc_i (va_runV (As := [.int (xs 1), .int (xs 2), .int (xs 3)]) (rest := [.int r1]) ⟨hx, hb, hml, hown, hts⟩ (tX13_index l dC dI _ am cm (xs 1) (xs 2) (xs 3)) (cwV 3 hts (jgoodVL m_1012 m_1013 m_1014 m_96 m_1015) rfl rfl rfl (by decide +kernel) ⟨(Nat.le_of_ble_eq_true rfl), (Nat.le_of_ble_eq_true rfl)⟩) ⟨jw_blind, va_recv hKs hPs (ci := 13) (q0 := 0) rfl rfl, fun U hU hW => ⟨rfl, jw_of hU hW hPs hKs hDs⟩⟩ rfl rfl hl.1 rfl (lv_room (Nat.le_of_ble_eq_true rfl)) dL_law_1671 ⟨(Nat.le_of_ble_eq_true rfl), (Nat.le_of_ble_eq_true rfl)⟩) hPm hS hA (fun r2 H locs hr2 hPm hS => ?_)
    have hr2 : r2 = (-1) := hr2
    refine lv_icmp_eq (tgt := 1804) hx hb dL_law_1674 (by decide) (fun _ => ?_) (fun z => absurd (hr1.trans hr2.symm) z)
    exact lc_end C0 hS hl (Nat.le_of_ble_eq_true rfl) (Nat.le_of_ble_eq_true rfl)
  · refine lv_aload_n hx hb dL_law_1636 rfl (lv_at hl 2 rfl) ?_
    refine lv_aload_n hx hb dL_law_1637 rfl (lv_at hl 3 rfl) ?_
    refine lv_iload_n hx hb dL_law_1638 rfl (lv_at hl 0 rfl) ?_
    refine lv_iconst (v := 1) hx hb dL_law_1639 (by decide) ?_
    refine lv_iadd hx hb dL_law_1640 ?_
    refine jt_i 1 (by decide) ?_
    refine va_sld hx hb hX hbl hbA hS (vp_in_nI (n := 1) (by decide) (by decide)) dL_law_1641 ?_
    refine jt_i (xs 1) rfl ?_
    refine lv_aload_n hx hb dL_law_1642 rfl (lv_at hl 3 rfl) ?_
    refine lv_iload_n hx hb dL_law_1643 rfl (lv_at hl 0 rfl) ?_
    refine lv_iconst (v := 2) hx hb dL_law_1644 (by decide) ?_
    refine lv_iadd hx hb dL_law_1645 ?_
    refine jt_i 2 (by decide) ?_
    refine va_sld hx hb hX hbl hbA hS (vp_in_nI (n := 2) (by decide) (by decide)) dL_law_1646 ?_
    refine jt_i (xs 2) rfl ?_
    refine jt_i 0 h ?_
    refine lv_aload_n hx hb dL_law_1647 rfl (lv_at hl 3 rfl) ?_
    refine lv_iload_n hx hb dL_law_1648 rfl (lv_at hl 0 rfl) ?_
    refine lv_iconst (v := 3) hx hb dL_law_1649 (by decide) ?_
    refine lv_iadd hx hb dL_law_1650 ?_
    refine jt_i 3 (by decide) ?_
    refine va_sld hx hb hX hbl hbA hS (vp_in_nI (n := 3) (by decide) (by decide)) dL_law_1651 ?_
    refine jt_i (xs 3) rfl ?_
    have hPs := jp_init hP
    have hDs := jd_init hD
    have hKs := jk_init hK
    refine jc_i (va_runV (As := [.int (xs 1), .int 0, .int (xs 3)]) (rest := []) ⟨hx, hb, hml, hown, hts⟩ (tX12_index_v0 l dC dI _ ax ca (xs 1) (xs 3)) (cwV 3 hts (jgoodVL m_1008 m_1009 m_1010 m_210 m_1011) rfl rfl rfl (by decide +kernel) ⟨(Nat.le_of_ble_eq_true rfl), (Nat.le_of_ble_eq_true rfl)⟩) ⟨jw_blind, va_recv hKs hPs (ci := 12) (q0 := 0) rfl rfl, fun U hU hW => ⟨rfl, jw_of hU hW hPs hKs hDs⟩⟩ rfl rfl hl.1 rfl (lv_room (Nat.le_of_ble_eq_true rfl)) dL_law_1652 ⟨(Nat.le_of_ble_eq_true rfl), (Nat.le_of_ble_eq_true rfl)⟩) hP hS hA (fun r1 H locs hr1 hP hS => ?_)
    have hPm := jp_tail hP
    have hr1 : r1 = (-1) := hr1
    refine lv_aload_n hx hb dL_law_1655 rfl (lv_at hl 1 rfl) ?_
    refine lv_aload_n hx hb dL_law_1656 rfl (lv_at hl 3 rfl) ?_
    refine lv_iload_n hx hb dL_law_1657 rfl (lv_at hl 0 rfl) ?_
    refine lv_iconst (v := 1) hx hb dL_law_1658 (by decide) ?_
    refine lv_iadd hx hb dL_law_1659 ?_
    refine jt_i 1 (by decide) ?_
    refine va_sld hx hb hX hbl hbA hS (vp_in_nI (n := 1) (by decide) (by decide)) dL_law_1660 ?_
    refine jt_i (xs 1) rfl ?_
    refine lv_aload_n hx hb dL_law_1661 rfl (lv_at hl 3 rfl) ?_
    refine lv_iload_n hx hb dL_law_1662 rfl (lv_at hl 0 rfl) ?_
    refine lv_iconst (v := 2) hx hb dL_law_1663 (by decide) ?_
    refine lv_iadd hx hb dL_law_1664 ?_
    refine jt_i 2 (by decide) ?_
    refine va_sld hx hb hX hbl hbA hS (vp_in_nI (n := 2) (by decide) (by decide)) dL_law_1665 ?_
    refine jt_i (xs 2) rfl ?_
    refine jt_i 0 h ?_
    refine lv_aload_n hx hb dL_law_1666 rfl (lv_at hl 3 rfl) ?_
    refine lv_iload_n hx hb dL_law_1667 rfl (lv_at hl 0 rfl) ?_
    refine lv_iconst (v := 3) hx hb dL_law_1668 (by decide) ?_
    refine lv_iadd hx hb dL_law_1669 ?_
    refine jt_i 3 (by decide) ?_
    refine va_sld hx hb hX hbl hbA hS (vp_in_nI (n := 3) (by decide) (by decide)) dL_law_1670 ?_
    refine jt_i (xs 3) rfl ?_
    have hPs := hPm
    have hDs := jd_tail hD
    have hKs := jk_tail hK
    refine jc_i (va_runV (As := [.int (xs 1), .int 0, .int (xs 3)]) (rest := [.int r1]) ⟨hx, hb, hml, hown, hts⟩ (tX13_index l dC dI _ am cm (xs 1) 0 (xs 3)) (cwV 3 hts (jgoodVL m_1012 m_1013 m_1014 m_96 m_1015) rfl rfl rfl (by decide +kernel) ⟨(Nat.le_of_ble_eq_true rfl), (Nat.le_of_ble_eq_true rfl)⟩) ⟨jw_blind, va_recv hKs hPs (ci := 13) (q0 := 0) rfl rfl, fun U hU hW => ⟨rfl, jw_of hU hW hPs hKs hDs⟩⟩ rfl rfl hl.1 rfl (lv_room (Nat.le_of_ble_eq_true rfl)) dL_law_1671 ⟨(Nat.le_of_ble_eq_true rfl), (Nat.le_of_ble_eq_true rfl)⟩) hPm hS hA (fun r2 H locs hr2 hPm hS => ?_)
    have hr2 : r2 = (-1) := hr2
    refine lv_icmp_eq (tgt := 1804) hx hb dL_law_1674 (by decide) (fun _ => ?_) (fun z => absurd (hr1.trans hr2.symm) z)
    exact lc_end C0 hS hl (Nat.le_of_ble_eq_true rfl) (Nat.le_of_ble_eq_true rfl)
  · refine lv_aload_n hx hb dL_law_1636 rfl (lv_at hl 2 rfl) ?_
    refine lv_aload_n hx hb dL_law_1637 rfl (lv_at hl 3 rfl) ?_
    refine lv_iload_n hx hb dL_law_1638 rfl (lv_at hl 0 rfl) ?_
    refine lv_iconst (v := 1) hx hb dL_law_1639 (by decide) ?_
    refine lv_iadd hx hb dL_law_1640 ?_
    refine jt_i 1 (by decide) ?_
    refine va_sld hx hb hX hbl hbA hS (vp_in_nI (n := 1) (by decide) (by decide)) dL_law_1641 ?_
    refine jt_i (xs 1) rfl ?_
    refine lv_aload_n hx hb dL_law_1642 rfl (lv_at hl 3 rfl) ?_
    refine lv_iload_n hx hb dL_law_1643 rfl (lv_at hl 0 rfl) ?_
    refine lv_iconst (v := 2) hx hb dL_law_1644 (by decide) ?_
    refine lv_iadd hx hb dL_law_1645 ?_
    refine jt_i 2 (by decide) ?_
    refine va_sld hx hb hX hbl hbA hS (vp_in_nI (n := 2) (by decide) (by decide)) dL_law_1646 ?_
    refine jt_i (xs 2) rfl ?_
    refine jt_i 1 h ?_
    refine lv_aload_n hx hb dL_law_1647 rfl (lv_at hl 3 rfl) ?_
    refine lv_iload_n hx hb dL_law_1648 rfl (lv_at hl 0 rfl) ?_
    refine lv_iconst (v := 3) hx hb dL_law_1649 (by decide) ?_
    refine lv_iadd hx hb dL_law_1650 ?_
    refine jt_i 3 (by decide) ?_
    refine va_sld hx hb hX hbl hbA hS (vp_in_nI (n := 3) (by decide) (by decide)) dL_law_1651 ?_
    refine jt_i (xs 3) rfl ?_
    have hPs := jp_init hP
    have hDs := jd_init hD
    have hKs := jk_init hK
    refine jc_i (va_runV (As := [.int (xs 1), .int 1, .int (xs 3)]) (rest := []) ⟨hx, hb, hml, hown, hts⟩ (tX12_index_v1 l dC dI _ ax ca (xs 1) (xs 3)) (cwV 3 hts (jgoodVL m_1008 m_1009 m_1010 m_210 m_1011) rfl rfl rfl (by decide +kernel) ⟨(Nat.le_of_ble_eq_true rfl), (Nat.le_of_ble_eq_true rfl)⟩) ⟨jw_blind, va_recv hKs hPs (ci := 12) (q0 := 0) rfl rfl, fun U hU hW => ⟨rfl, jw_of hU hW hPs hKs hDs⟩⟩ rfl rfl hl.1 rfl (lv_room (Nat.le_of_ble_eq_true rfl)) dL_law_1652 ⟨(Nat.le_of_ble_eq_true rfl), (Nat.le_of_ble_eq_true rfl)⟩) hP hS hA (fun r1 H locs hr1 hP hS => ?_)
    have hPm := jp_tail hP
    have hr1 : r1 = (-1) := hr1
    refine lv_aload_n hx hb dL_law_1655 rfl (lv_at hl 1 rfl) ?_
    refine lv_aload_n hx hb dL_law_1656 rfl (lv_at hl 3 rfl) ?_
    refine lv_iload_n hx hb dL_law_1657 rfl (lv_at hl 0 rfl) ?_
    refine lv_iconst (v := 1) hx hb dL_law_1658 (by decide) ?_
    refine lv_iadd hx hb dL_law_1659 ?_
    refine jt_i 1 (by decide) ?_
    refine va_sld hx hb hX hbl hbA hS (vp_in_nI (n := 1) (by decide) (by decide)) dL_law_1660 ?_
    refine jt_i (xs 1) rfl ?_
    refine lv_aload_n hx hb dL_law_1661 rfl (lv_at hl 3 rfl) ?_
    refine lv_iload_n hx hb dL_law_1662 rfl (lv_at hl 0 rfl) ?_
    refine lv_iconst (v := 2) hx hb dL_law_1663 (by decide) ?_
    refine lv_iadd hx hb dL_law_1664 ?_
    refine jt_i 2 (by decide) ?_
    refine va_sld hx hb hX hbl hbA hS (vp_in_nI (n := 2) (by decide) (by decide)) dL_law_1665 ?_
    refine jt_i (xs 2) rfl ?_
    refine jt_i 1 h ?_
    refine lv_aload_n hx hb dL_law_1666 rfl (lv_at hl 3 rfl) ?_
    refine lv_iload_n hx hb dL_law_1667 rfl (lv_at hl 0 rfl) ?_
    refine lv_iconst (v := 3) hx hb dL_law_1668 (by decide) ?_
    refine lv_iadd hx hb dL_law_1669 ?_
    refine jt_i 3 (by decide) ?_
    refine va_sld hx hb hX hbl hbA hS (vp_in_nI (n := 3) (by decide) (by decide)) dL_law_1670 ?_
    refine jt_i (xs 3) rfl ?_
    have hPs := hPm
    have hDs := jd_tail hD
    have hKs := jk_tail hK
    refine jc_i (va_runV (As := [.int (xs 1), .int 1, .int (xs 3)]) (rest := [.int r1]) ⟨hx, hb, hml, hown, hts⟩ (tX13_index l dC dI _ am cm (xs 1) 1 (xs 3)) (cwV 3 hts (jgoodVL m_1012 m_1013 m_1014 m_96 m_1015) rfl rfl rfl (by decide +kernel) ⟨(Nat.le_of_ble_eq_true rfl), (Nat.le_of_ble_eq_true rfl)⟩) ⟨jw_blind, va_recv hKs hPs (ci := 13) (q0 := 0) rfl rfl, fun U hU hW => ⟨rfl, jw_of hU hW hPs hKs hDs⟩⟩ rfl rfl hl.1 rfl (lv_room (Nat.le_of_ble_eq_true rfl)) dL_law_1671 ⟨(Nat.le_of_ble_eq_true rfl), (Nat.le_of_ble_eq_true rfl)⟩) hPm hS hA (fun r2 H locs hr2 hPm hS => ?_)
    have hr2 : r2 = (-1) := hr2
    refine lv_icmp_eq (tgt := 1804) hx hb dL_law_1674 (by decide) (fun _ => ?_) (fun z => absurd (hr1.trans hr2.symm) z)
    exact lc_end C0 hS hl (Nat.le_of_ble_eq_true rfl) (Nat.le_of_ble_eq_true rfl)
  · refine lv_aload_n hx hb dL_law_1636 rfl (lv_at hl 2 rfl) ?_
    refine lv_aload_n hx hb dL_law_1637 rfl (lv_at hl 3 rfl) ?_
    refine lv_iload_n hx hb dL_law_1638 rfl (lv_at hl 0 rfl) ?_
    refine lv_iconst (v := 1) hx hb dL_law_1639 (by decide) ?_
    refine lv_iadd hx hb dL_law_1640 ?_
    refine jt_i 1 (by decide) ?_
    refine va_sld hx hb hX hbl hbA hS (vp_in_nI (n := 1) (by decide) (by decide)) dL_law_1641 ?_
    refine jt_i (xs 1) rfl ?_
    refine lv_aload_n hx hb dL_law_1642 rfl (lv_at hl 3 rfl) ?_
    refine lv_iload_n hx hb dL_law_1643 rfl (lv_at hl 0 rfl) ?_
    refine lv_iconst (v := 2) hx hb dL_law_1644 (by decide) ?_
    refine lv_iadd hx hb dL_law_1645 ?_
    refine jt_i 2 (by decide) ?_
    refine va_sld hx hb hX hbl hbA hS (vp_in_nI (n := 2) (by decide) (by decide)) dL_law_1646 ?_
    refine jt_i (xs 2) rfl ?_
    refine jt_i 2 h ?_
    refine lv_aload_n hx hb dL_law_1647 rfl (lv_at hl 3 rfl) ?_
    refine lv_iload_n hx hb dL_law_1648 rfl (lv_at hl 0 rfl) ?_
    refine lv_iconst (v := 3) hx hb dL_law_1649 (by decide) ?_
    refine lv_iadd hx hb dL_law_1650 ?_
    refine jt_i 3 (by decide) ?_
    refine va_sld hx hb hX hbl hbA hS (vp_in_nI (n := 3) (by decide) (by decide)) dL_law_1651 ?_
    refine jt_i (xs 3) rfl ?_
    have hPs := jp_init hP
    have hDs := jd_init hD
    have hKs := jk_init hK
    refine jc_i (va_runV (As := [.int (xs 1), .int 2, .int (xs 3)]) (rest := []) ⟨hx, hb, hml, hown, hts⟩ (tX12_index_v2 l dC dI _ ax ca (xs 1) (xs 3)) (cwV 3 hts (jgoodVL m_1008 m_1009 m_1010 m_210 m_1011) rfl rfl rfl (by decide +kernel) ⟨(Nat.le_of_ble_eq_true rfl), (Nat.le_of_ble_eq_true rfl)⟩) ⟨jw_blind, va_recv hKs hPs (ci := 12) (q0 := 0) rfl rfl, fun U hU hW => ⟨rfl, jw_of hU hW hPs hKs hDs⟩⟩ rfl rfl hl.1 rfl (lv_room (Nat.le_of_ble_eq_true rfl)) dL_law_1652 ⟨(Nat.le_of_ble_eq_true rfl), (Nat.le_of_ble_eq_true rfl)⟩) hP hS hA (fun r1 H locs hr1 hP hS => ?_)
    have hPm := jp_tail hP
    have hr1 : r1 = (-1) := hr1
    refine lv_aload_n hx hb dL_law_1655 rfl (lv_at hl 1 rfl) ?_
    refine lv_aload_n hx hb dL_law_1656 rfl (lv_at hl 3 rfl) ?_
    refine lv_iload_n hx hb dL_law_1657 rfl (lv_at hl 0 rfl) ?_
    refine lv_iconst (v := 1) hx hb dL_law_1658 (by decide) ?_
    refine lv_iadd hx hb dL_law_1659 ?_
    refine jt_i 1 (by decide) ?_
    refine va_sld hx hb hX hbl hbA hS (vp_in_nI (n := 1) (by decide) (by decide)) dL_law_1660 ?_
    refine jt_i (xs 1) rfl ?_
    refine lv_aload_n hx hb dL_law_1661 rfl (lv_at hl 3 rfl) ?_
    refine lv_iload_n hx hb dL_law_1662 rfl (lv_at hl 0 rfl) ?_
    refine lv_iconst (v := 2) hx hb dL_law_1663 (by decide) ?_
    refine lv_iadd hx hb dL_law_1664 ?_
    refine jt_i 2 (by decide) ?_
    refine va_sld hx hb hX hbl hbA hS (vp_in_nI (n := 2) (by decide) (by decide)) dL_law_1665 ?_
    refine jt_i (xs 2) rfl ?_
    refine jt_i 2 h ?_
    refine lv_aload_n hx hb dL_law_1666 rfl (lv_at hl 3 rfl) ?_
    refine lv_iload_n hx hb dL_law_1667 rfl (lv_at hl 0 rfl) ?_
    refine lv_iconst (v := 3) hx hb dL_law_1668 (by decide) ?_
    refine lv_iadd hx hb dL_law_1669 ?_
    refine jt_i 3 (by decide) ?_
    refine va_sld hx hb hX hbl hbA hS (vp_in_nI (n := 3) (by decide) (by decide)) dL_law_1670 ?_
    refine jt_i (xs 3) rfl ?_
    have hPs := hPm
    have hDs := jd_tail hD
    have hKs := jk_tail hK
    refine jc_i (va_runV (As := [.int (xs 1), .int 2, .int (xs 3)]) (rest := [.int r1]) ⟨hx, hb, hml, hown, hts⟩ (tX13_index l dC dI _ am cm (xs 1) 2 (xs 3)) (cwV 3 hts (jgoodVL m_1012 m_1013 m_1014 m_96 m_1015) rfl rfl rfl (by decide +kernel) ⟨(Nat.le_of_ble_eq_true rfl), (Nat.le_of_ble_eq_true rfl)⟩) ⟨jw_blind, va_recv hKs hPs (ci := 13) (q0 := 0) rfl rfl, fun U hU hW => ⟨rfl, jw_of hU hW hPs hKs hDs⟩⟩ rfl rfl hl.1 rfl (lv_room (Nat.le_of_ble_eq_true rfl)) dL_law_1671 ⟨(Nat.le_of_ble_eq_true rfl), (Nat.le_of_ble_eq_true rfl)⟩) hPm hS hA (fun r2 H locs hr2 hPm hS => ?_)
    have hr2 : r2 = (-1) := hr2
    refine lv_icmp_eq (tgt := 1804) hx hb dL_law_1674 (by decide) (fun _ => ?_) (fun z => absurd (hr1.trans hr2.symm) z)
    exact lc_end C0 hS hl (Nat.le_of_ble_eq_true rfl) (Nat.le_of_ble_eq_true rfl)
  · refine lv_aload_n hx hb dL_law_1636 rfl (lv_at hl 2 rfl) ?_
    refine lv_aload_n hx hb dL_law_1637 rfl (lv_at hl 3 rfl) ?_
    refine lv_iload_n hx hb dL_law_1638 rfl (lv_at hl 0 rfl) ?_
    refine lv_iconst (v := 1) hx hb dL_law_1639 (by decide) ?_
    refine lv_iadd hx hb dL_law_1640 ?_
    refine jt_i 1 (by decide) ?_
    refine va_sld hx hb hX hbl hbA hS (vp_in_nI (n := 1) (by decide) (by decide)) dL_law_1641 ?_
    refine jt_i (xs 1) rfl ?_
    refine lv_aload_n hx hb dL_law_1642 rfl (lv_at hl 3 rfl) ?_
    refine lv_iload_n hx hb dL_law_1643 rfl (lv_at hl 0 rfl) ?_
    refine lv_iconst (v := 2) hx hb dL_law_1644 (by decide) ?_
    refine lv_iadd hx hb dL_law_1645 ?_
    refine jt_i 2 (by decide) ?_
    refine va_sld hx hb hX hbl hbA hS (vp_in_nI (n := 2) (by decide) (by decide)) dL_law_1646 ?_
    refine jt_i (xs 2) rfl ?_
    refine jt_i 3 h ?_
    refine lv_aload_n hx hb dL_law_1647 rfl (lv_at hl 3 rfl) ?_
    refine lv_iload_n hx hb dL_law_1648 rfl (lv_at hl 0 rfl) ?_
    refine lv_iconst (v := 3) hx hb dL_law_1649 (by decide) ?_
    refine lv_iadd hx hb dL_law_1650 ?_
    refine jt_i 3 (by decide) ?_
    refine va_sld hx hb hX hbl hbA hS (vp_in_nI (n := 3) (by decide) (by decide)) dL_law_1651 ?_
    refine jt_i (xs 3) rfl ?_
    have hPs := jp_init hP
    have hDs := jd_init hD
    have hKs := jk_init hK
    refine jc_i (va_runV (As := [.int (xs 1), .int 3, .int (xs 3)]) (rest := []) ⟨hx, hb, hml, hown, hts⟩ (tX12_index_v3 l dC dI _ ax ca (xs 1) (xs 3)) (cwV 3 hts (jgoodVL m_1008 m_1009 m_1010 m_210 m_1011) rfl rfl rfl (by decide +kernel) ⟨(Nat.le_of_ble_eq_true rfl), (Nat.le_of_ble_eq_true rfl)⟩) ⟨jw_blind, va_recv hKs hPs (ci := 12) (q0 := 0) rfl rfl, fun U hU hW => ⟨rfl, jw_of hU hW hPs hKs hDs⟩⟩ rfl rfl hl.1 rfl (lv_room (Nat.le_of_ble_eq_true rfl)) dL_law_1652 ⟨(Nat.le_of_ble_eq_true rfl), (Nat.le_of_ble_eq_true rfl)⟩) hP hS hA (fun r1 H locs hr1 hP hS => ?_)
    have hPm := jp_tail hP
    have hr1 : r1 = (-1) := hr1
    refine lv_aload_n hx hb dL_law_1655 rfl (lv_at hl 1 rfl) ?_
    refine lv_aload_n hx hb dL_law_1656 rfl (lv_at hl 3 rfl) ?_
    refine lv_iload_n hx hb dL_law_1657 rfl (lv_at hl 0 rfl) ?_
    refine lv_iconst (v := 1) hx hb dL_law_1658 (by decide) ?_
    refine lv_iadd hx hb dL_law_1659 ?_
    refine jt_i 1 (by decide) ?_
    refine va_sld hx hb hX hbl hbA hS (vp_in_nI (n := 1) (by decide) (by decide)) dL_law_1660 ?_
    refine jt_i (xs 1) rfl ?_
    refine lv_aload_n hx hb dL_law_1661 rfl (lv_at hl 3 rfl) ?_
    refine lv_iload_n hx hb dL_law_1662 rfl (lv_at hl 0 rfl) ?_
    refine lv_iconst (v := 2) hx hb dL_law_1663 (by decide) ?_
    refine lv_iadd hx hb dL_law_1664 ?_
    refine jt_i 2 (by decide) ?_
    refine va_sld hx hb hX hbl hbA hS (vp_in_nI (n := 2) (by decide) (by decide)) dL_law_1665 ?_
    refine jt_i (xs 2) rfl ?_
    refine jt_i 3 h ?_
    refine lv_aload_n hx hb dL_law_1666 rfl (lv_at hl 3 rfl) ?_
    refine lv_iload_n hx hb dL_law_1667 rfl (lv_at hl 0 rfl) ?_
    refine lv_iconst (v := 3) hx hb dL_law_1668 (by decide) ?_
    refine lv_iadd hx hb dL_law_1669 ?_
    refine jt_i 3 (by decide) ?_
    refine va_sld hx hb hX hbl hbA hS (vp_in_nI (n := 3) (by decide) (by decide)) dL_law_1670 ?_
    refine jt_i (xs 3) rfl ?_
    have hPs := hPm
    have hDs := jd_tail hD
    have hKs := jk_tail hK
    refine jc_i (va_runV (As := [.int (xs 1), .int 3, .int (xs 3)]) (rest := [.int r1]) ⟨hx, hb, hml, hown, hts⟩ (tX13_index l dC dI _ am cm (xs 1) 3 (xs 3)) (cwV 3 hts (jgoodVL m_1012 m_1013 m_1014 m_96 m_1015) rfl rfl rfl (by decide +kernel) ⟨(Nat.le_of_ble_eq_true rfl), (Nat.le_of_ble_eq_true rfl)⟩) ⟨jw_blind, va_recv hKs hPs (ci := 13) (q0 := 0) rfl rfl, fun U hU hW => ⟨rfl, jw_of hU hW hPs hKs hDs⟩⟩ rfl rfl hl.1 rfl (lv_room (Nat.le_of_ble_eq_true rfl)) dL_law_1671 ⟨(Nat.le_of_ble_eq_true rfl), (Nat.le_of_ble_eq_true rfl)⟩) hPm hS hA (fun r2 H locs hr2 hPm hS => ?_)
    have hr2 : r2 = (-1) := hr2
    refine lv_icmp_eq (tgt := 1804) hx hb dL_law_1674 (by decide) (fun _ => ?_) (fun z => absurd (hr1.trans hr2.symm) z)
    exact lc_end C0 hS hl (Nat.le_of_ble_eq_true rfl) (Nat.le_of_ble_eq_true rfl)
  · refine lv_aload_n hx hb dL_law_1636 rfl (lv_at hl 2 rfl) ?_
    refine lv_aload_n hx hb dL_law_1637 rfl (lv_at hl 3 rfl) ?_
    refine lv_iload_n hx hb dL_law_1638 rfl (lv_at hl 0 rfl) ?_
    refine lv_iconst (v := 1) hx hb dL_law_1639 (by decide) ?_
    refine lv_iadd hx hb dL_law_1640 ?_
    refine jt_i 1 (by decide) ?_
    refine va_sld hx hb hX hbl hbA hS (vp_in_nI (n := 1) (by decide) (by decide)) dL_law_1641 ?_
    refine jt_i (xs 1) rfl ?_
    refine lv_aload_n hx hb dL_law_1642 rfl (lv_at hl 3 rfl) ?_
    refine lv_iload_n hx hb dL_law_1643 rfl (lv_at hl 0 rfl) ?_
    refine lv_iconst (v := 2) hx hb dL_law_1644 (by decide) ?_
    refine lv_iadd hx hb dL_law_1645 ?_
    refine jt_i 2 (by decide) ?_
    refine va_sld hx hb hX hbl hbA hS (vp_in_nI (n := 2) (by decide) (by decide)) dL_law_1646 ?_
    refine jt_i (xs 2) rfl ?_
    refine jt_i 4 h ?_
    refine lv_aload_n hx hb dL_law_1647 rfl (lv_at hl 3 rfl) ?_
    refine lv_iload_n hx hb dL_law_1648 rfl (lv_at hl 0 rfl) ?_
    refine lv_iconst (v := 3) hx hb dL_law_1649 (by decide) ?_
    refine lv_iadd hx hb dL_law_1650 ?_
    refine jt_i 3 (by decide) ?_
    refine va_sld hx hb hX hbl hbA hS (vp_in_nI (n := 3) (by decide) (by decide)) dL_law_1651 ?_
    refine jt_i (xs 3) rfl ?_
    have hPs := jp_init hP
    have hDs := jd_init hD
    have hKs := jk_init hK
    refine jc_i (va_runV (As := [.int (xs 1), .int 4, .int (xs 3)]) (rest := []) ⟨hx, hb, hml, hown, hts⟩ (tX12_index_v4 l dC dI _ ax ca (xs 1) (xs 3)) (cwV 3 hts (jgoodVL m_1008 m_1009 m_1010 m_210 m_1011) rfl rfl rfl (by decide +kernel) ⟨(Nat.le_of_ble_eq_true rfl), (Nat.le_of_ble_eq_true rfl)⟩) ⟨jw_blind, va_recv hKs hPs (ci := 12) (q0 := 0) rfl rfl, fun U hU hW => ⟨rfl, jw_of hU hW hPs hKs hDs⟩⟩ rfl rfl hl.1 rfl (lv_room (Nat.le_of_ble_eq_true rfl)) dL_law_1652 ⟨(Nat.le_of_ble_eq_true rfl), (Nat.le_of_ble_eq_true rfl)⟩) hP hS hA (fun r1 H locs hr1 hP hS => ?_)
    have hPm := jp_tail hP
    have hr1 : r1 = (-1) := hr1
    refine lv_aload_n hx hb dL_law_1655 rfl (lv_at hl 1 rfl) ?_
    refine lv_aload_n hx hb dL_law_1656 rfl (lv_at hl 3 rfl) ?_
    refine lv_iload_n hx hb dL_law_1657 rfl (lv_at hl 0 rfl) ?_
    refine lv_iconst (v := 1) hx hb dL_law_1658 (by decide) ?_
    refine lv_iadd hx hb dL_law_1659 ?_
    refine jt_i 1 (by decide) ?_
    refine va_sld hx hb hX hbl hbA hS (vp_in_nI (n := 1) (by decide) (by decide)) dL_law_1660 ?_
    refine jt_i (xs 1) rfl ?_
    refine lv_aload_n hx hb dL_law_1661 rfl (lv_at hl 3 rfl) ?_
    refine lv_iload_n hx hb dL_law_1662 rfl (lv_at hl 0 rfl) ?_
    refine lv_iconst (v := 2) hx hb dL_law_1663 (by decide) ?_
    refine lv_iadd hx hb dL_law_1664 ?_
    refine jt_i 2 (by decide) ?_
    refine va_sld hx hb hX hbl hbA hS (vp_in_nI (n := 2) (by decide) (by decide)) dL_law_1665 ?_
    refine jt_i (xs 2) rfl ?_
    refine jt_i 4 h ?_
    refine lv_aload_n hx hb dL_law_1666 rfl (lv_at hl 3 rfl) ?_
    refine lv_iload_n hx hb dL_law_1667 rfl (lv_at hl 0 rfl) ?_
    refine lv_iconst (v := 3) hx hb dL_law_1668 (by decide) ?_
    refine lv_iadd hx hb dL_law_1669 ?_
    refine jt_i 3 (by decide) ?_
    refine va_sld hx hb hX hbl hbA hS (vp_in_nI (n := 3) (by decide) (by decide)) dL_law_1670 ?_
    refine jt_i (xs 3) rfl ?_
    have hPs := hPm
    have hDs := jd_tail hD
    have hKs := jk_tail hK
    refine jc_i (va_runV (As := [.int (xs 1), .int 4, .int (xs 3)]) (rest := [.int r1]) ⟨hx, hb, hml, hown, hts⟩ (tX13_index l dC dI _ am cm (xs 1) 4 (xs 3)) (cwV 3 hts (jgoodVL m_1012 m_1013 m_1014 m_96 m_1015) rfl rfl rfl (by decide +kernel) ⟨(Nat.le_of_ble_eq_true rfl), (Nat.le_of_ble_eq_true rfl)⟩) ⟨jw_blind, va_recv hKs hPs (ci := 13) (q0 := 0) rfl rfl, fun U hU hW => ⟨rfl, jw_of hU hW hPs hKs hDs⟩⟩ rfl rfl hl.1 rfl (lv_room (Nat.le_of_ble_eq_true rfl)) dL_law_1671 ⟨(Nat.le_of_ble_eq_true rfl), (Nat.le_of_ble_eq_true rfl)⟩) hPm hS hA (fun r2 H locs hr2 hPm hS => ?_)
    have hr2 : r2 = (-1) := hr2
    refine lv_icmp_eq (tgt := 1804) hx hb dL_law_1674 (by decide) (fun _ => ?_) (fun z => absurd (hr1.trans hr2.symm) z)
    exact lc_end C0 hS hl (Nat.le_of_ble_eq_true rfl) (Nat.le_of_ble_eq_true rfl)
  · refine lv_aload_n hx hb dL_law_1636 rfl (lv_at hl 2 rfl) ?_
    refine lv_aload_n hx hb dL_law_1637 rfl (lv_at hl 3 rfl) ?_
    refine lv_iload_n hx hb dL_law_1638 rfl (lv_at hl 0 rfl) ?_
    refine lv_iconst (v := 1) hx hb dL_law_1639 (by decide) ?_
    refine lv_iadd hx hb dL_law_1640 ?_
    refine jt_i 1 (by decide) ?_
    refine va_sld hx hb hX hbl hbA hS (vp_in_nI (n := 1) (by decide) (by decide)) dL_law_1641 ?_
    refine jt_i (xs 1) rfl ?_
    refine lv_aload_n hx hb dL_law_1642 rfl (lv_at hl 3 rfl) ?_
    refine lv_iload_n hx hb dL_law_1643 rfl (lv_at hl 0 rfl) ?_
    refine lv_iconst (v := 2) hx hb dL_law_1644 (by decide) ?_
    refine lv_iadd hx hb dL_law_1645 ?_
    refine jt_i 2 (by decide) ?_
    refine va_sld hx hb hX hbl hbA hS (vp_in_nI (n := 2) (by decide) (by decide)) dL_law_1646 ?_
    refine jt_i (xs 2) rfl ?_
    refine jt_i 5 h ?_
    refine lv_aload_n hx hb dL_law_1647 rfl (lv_at hl 3 rfl) ?_
    refine lv_iload_n hx hb dL_law_1648 rfl (lv_at hl 0 rfl) ?_
    refine lv_iconst (v := 3) hx hb dL_law_1649 (by decide) ?_
    refine lv_iadd hx hb dL_law_1650 ?_
    refine jt_i 3 (by decide) ?_
    refine va_sld hx hb hX hbl hbA hS (vp_in_nI (n := 3) (by decide) (by decide)) dL_law_1651 ?_
    refine jt_i (xs 3) rfl ?_
    have hPs := jp_init hP
    have hDs := jd_init hD
    have hKs := jk_init hK
    refine jc_i (va_runV (As := [.int (xs 1), .int 5, .int (xs 3)]) (rest := []) ⟨hx, hb, hml, hown, hts⟩ (tX12_index_v5 l dC dI _ ax ca (xs 1) (xs 3)) (cwV 3 hts (jgoodVL m_1008 m_1009 m_1010 m_210 m_1011) rfl rfl rfl (by decide +kernel) ⟨(Nat.le_of_ble_eq_true rfl), (Nat.le_of_ble_eq_true rfl)⟩) ⟨jw_blind, va_recv hKs hPs (ci := 12) (q0 := 0) rfl rfl, fun U hU hW => ⟨rfl, jw_of hU hW hPs hKs hDs⟩⟩ rfl rfl hl.1 rfl (lv_room (Nat.le_of_ble_eq_true rfl)) dL_law_1652 ⟨(Nat.le_of_ble_eq_true rfl), (Nat.le_of_ble_eq_true rfl)⟩) hP hS hA (fun r1 H locs hr1 hP hS => ?_)
    have hPm := jp_tail hP
    have hr1 : r1 = (-1) := hr1
    refine lv_aload_n hx hb dL_law_1655 rfl (lv_at hl 1 rfl) ?_
    refine lv_aload_n hx hb dL_law_1656 rfl (lv_at hl 3 rfl) ?_
    refine lv_iload_n hx hb dL_law_1657 rfl (lv_at hl 0 rfl) ?_
    refine lv_iconst (v := 1) hx hb dL_law_1658 (by decide) ?_
    refine lv_iadd hx hb dL_law_1659 ?_
    refine jt_i 1 (by decide) ?_
    refine va_sld hx hb hX hbl hbA hS (vp_in_nI (n := 1) (by decide) (by decide)) dL_law_1660 ?_
    refine jt_i (xs 1) rfl ?_
    refine lv_aload_n hx hb dL_law_1661 rfl (lv_at hl 3 rfl) ?_
    refine lv_iload_n hx hb dL_law_1662 rfl (lv_at hl 0 rfl) ?_
    refine lv_iconst (v := 2) hx hb dL_law_1663 (by decide) ?_
    refine lv_iadd hx hb dL_law_1664 ?_
    refine jt_i 2 (by decide) ?_
    refine va_sld hx hb hX hbl hbA hS (vp_in_nI (n := 2) (by decide) (by decide)) dL_law_1665 ?_
    refine jt_i (xs 2) rfl ?_
    refine jt_i 5 h ?_
    refine lv_aload_n hx hb dL_law_1666 rfl (lv_at hl 3 rfl) ?_
    refine lv_iload_n hx hb dL_law_1667 rfl (lv_at hl 0 rfl) ?_
    refine lv_iconst (v := 3) hx hb dL_law_1668 (by decide) ?_
    refine lv_iadd hx hb dL_law_1669 ?_
    refine jt_i 3 (by decide) ?_
    refine va_sld hx hb hX hbl hbA hS (vp_in_nI (n := 3) (by decide) (by decide)) dL_law_1670 ?_
    refine jt_i (xs 3) rfl ?_
    have hPs := hPm
    have hDs := jd_tail hD
    have hKs := jk_tail hK
    refine jc_i (va_runV (As := [.int (xs 1), .int 5, .int (xs 3)]) (rest := [.int r1]) ⟨hx, hb, hml, hown, hts⟩ (tX13_index l dC dI _ am cm (xs 1) 5 (xs 3)) (cwV 3 hts (jgoodVL m_1012 m_1013 m_1014 m_96 m_1015) rfl rfl rfl (by decide +kernel) ⟨(Nat.le_of_ble_eq_true rfl), (Nat.le_of_ble_eq_true rfl)⟩) ⟨jw_blind, va_recv hKs hPs (ci := 13) (q0 := 0) rfl rfl, fun U hU hW => ⟨rfl, jw_of hU hW hPs hKs hDs⟩⟩ rfl rfl hl.1 rfl (lv_room (Nat.le_of_ble_eq_true rfl)) dL_law_1671 ⟨(Nat.le_of_ble_eq_true rfl), (Nat.le_of_ble_eq_true rfl)⟩) hPm hS hA (fun r2 H locs hr2 hPm hS => ?_)
    have hr2 : r2 = (-1) := hr2
    refine lv_icmp_eq (tgt := 1804) hx hb dL_law_1674 (by decide) (fun _ => ?_) (fun z => absurd (hr1.trans hr2.symm) z)
    exact lc_end C0 hS hl (Nat.le_of_ble_eq_true rfl) (Nat.le_of_ble_eq_true rfl)
set_option maxHeartbeats 4000000 in
set_option maxRecDepth 100000 in
theorem lc_43 {p : Program} {l : Launch} {e : Env} {s : State} {m : MethodId} {below : List Frame} {meth : Method} {c : Code} {b : Nat} {xs : Nat → Int32} (C0 : lw_At p s m meth c b 6 xs) {dC : Nat → ClassId} {dI : Nat → Nat → Nat} {ax am : Nat → Nat} {ca cm : Nat → ClassId} {tW : Nat} (hE : jE s) (hZ : va_Z "BookOfAll$Rules" "WITHOUT" "[I" (.ref tW) (fun q : Nat => s.heap.size ≤ q) s s.heap) (hT : va_T .int tW 14 (fun k => .int (jz_f k)) (fun q : Nat => s.heap.size ≤ q) s s.heap) (hK : va_K (dC, dI) vwCl (xT ca ++ mT cm) s) {H : Heap} {locs : List Loc} {ls : Array Slot} (hP : va_P (dC, dI) vwCl (xW ax ca ++ mW am cm) H) (hD : va_D (fun q : Nat => s.heap.size ≤ q) (xW ax ca ++ mW am cm)) (hS : va_S (fun q : Nat => s.heap.size ≤ q) s.heap H locs) (hl : lv_has ls 4 [(3, .int 0), (2, .ref (am 0)), (1, .ref (ax 0)), (0, .ref b)]) : W p l e room_1 s m #[Value.ref b] below meth c H locs 152 53404 (lw_Z below #[Value.ref b] s) (F0 m 1679 ls []) := by
  have C0 := C0
  obtain ⟨hx, hb, hr, hml, hown, hts, hX, hbl, hlocks, hgv⟩ := id C0
  have hA : ∀ q : Nat, s.heap.size ≤ q → (fun q : Nat => s.heap.size ≤ q) q := fun _ h => h
  have hbA : ¬ (fun q : Nat => s.heap.size ≤ q) b := Nat.not_le.mpr hbl
  refine lv_aload_n hx hb dL_law_1679 rfl (lv_at hl 2 rfl) ?_
  refine lv_aload_n hx hb dL_law_1680 rfl (lv_at hl 3 rfl) ?_
  refine lv_iload_n hx hb dL_law_1681 rfl (lv_at hl 0 rfl) ?_
  refine lv_iconst (v := 1) hx hb dL_law_1682 (by decide) ?_
  refine lv_iadd hx hb dL_law_1683 ?_
  refine jt_i 1 (by decide) ?_
  refine va_sld hx hb hX hbl hbA hS (vp_in_nI (n := 1) (by decide) (by decide)) dL_law_1684 ?_
  refine jt_i (xs 1) rfl ?_
  have hPs := jp_init hP
  have hDs := jd_init hD
  have hKs := jk_init hK
  refine jcx_i (va_runV (As := [.int (xs 1)]) (rest := []) ⟨hx, hb, hml, hown, hts⟩ (tX12_steal l dC dI _ ax ca (xs 1)) (cwV 1 hts (jgoodVL m_1016 m_1017 m_1018 m_210 m_1019) rfl rfl rfl (by decide +kernel) ⟨(Nat.le_of_ble_eq_true rfl), (Nat.le_of_ble_eq_true rfl)⟩) ⟨jw_blind, va_recv hKs hPs (ci := 12) (q0 := 0) rfl rfl, fun U hU hW => ⟨rfl, jw_of hU hW hPs hKs hDs⟩⟩ rfl rfl hl.1 rfl (lv_room (Nat.le_of_ble_eq_true rfl)) dL_law_1685 ⟨(Nat.le_of_ble_eq_true rfl), (Nat.le_of_ble_eq_true rfl)⟩) hP hD hS hA (fun r1 H locs hr1 hPm hS => ?_)
  have hr1 : r1 = sp_steal (xs 1) := hr1
  refine lv_aload_n hx hb dL_law_1688 rfl (lv_at hl 1 rfl) ?_
  refine lv_aload_n hx hb dL_law_1689 rfl (lv_at hl 3 rfl) ?_
  refine lv_iload_n hx hb dL_law_1690 rfl (lv_at hl 0 rfl) ?_
  refine lv_iconst (v := 1) hx hb dL_law_1691 (by decide) ?_
  refine lv_iadd hx hb dL_law_1692 ?_
  refine jt_i 1 (by decide) ?_
  refine va_sld hx hb hX hbl hbA hS (vp_in_nI (n := 1) (by decide) (by decide)) dL_law_1693 ?_
  refine jt_i (xs 1) rfl ?_
  have hPs := hPm
  have hDs := jd_tail hD
  have hKs := jk_tail hK
  refine jcy_i (va_runV (As := [.int (xs 1)]) (rest := [.int r1]) ⟨hx, hb, hml, hown, hts⟩ (tX13_steal l dC dI _ am cm (xs 1)) (cwV 1 hts (jgoodVL m_1020 m_1021 m_1022 m_96 m_1023) rfl rfl rfl (by decide +kernel) ⟨(Nat.le_of_ble_eq_true rfl), (Nat.le_of_ble_eq_true rfl)⟩) ⟨jw_blind, va_recv hKs hPs (ci := 13) (q0 := 0) rfl rfl, fun U hU hW => ⟨rfl, jw_of hU hW hPs hKs hDs⟩⟩ rfl rfl hl.1 rfl (lv_room (Nat.le_of_ble_eq_true rfl)) dL_law_1694 ⟨(Nat.le_of_ble_eq_true rfl), (Nat.le_of_ble_eq_true rfl)⟩) hDs hS hA (fun r2 H locs hr2 hS => ?_)
  have hr2 : r2 = sp_steal (xs 1) := hr2
  refine lv_icmp_eq (tgt := 1804) hx hb dL_law_1697 (by decide) (fun _ => ?_) (fun z => absurd (hr1.trans hr2.symm) z)
  exact lc_end C0 hS hl (Nat.le_of_ble_eq_true rfl) (Nat.le_of_ble_eq_true rfl)
set_option maxHeartbeats 4000000 in
set_option maxRecDepth 100000 in
theorem lc_44 {p : Program} {l : Launch} {e : Env} {s : State} {m : MethodId} {below : List Frame} {meth : Method} {c : Code} {b : Nat} {xs : Nat → Int32} (C0 : lw_At p s m meth c b 6 xs) {dC : Nat → ClassId} {dI : Nat → Nat → Nat} {ax am : Nat → Nat} {ca cm : Nat → ClassId} {tW : Nat} (hE : jE s) (hZ : va_Z "BookOfAll$Rules" "WITHOUT" "[I" (.ref tW) (fun q : Nat => s.heap.size ≤ q) s s.heap) (hT : va_T .int tW 14 (fun k => .int (jz_f k)) (fun q : Nat => s.heap.size ≤ q) s s.heap) (hK : va_K (dC, dI) vwCl (xT ca ++ mT cm) s) {H : Heap} {locs : List Loc} {ls : Array Slot} (hP : va_P (dC, dI) vwCl (xW ax ca ++ mW am cm) H) (hD : va_D (fun q : Nat => s.heap.size ≤ q) (xW ax ca ++ mW am cm)) (hS : va_S (fun q : Nat => s.heap.size ≤ q) s.heap H locs) (hl : lv_has ls 4 [(3, .int 0), (2, .ref (am 0)), (1, .ref (ax 0)), (0, .ref b)]) : W p l e room_1 s m #[Value.ref b] below meth c H locs 152 53404 (lw_Z below #[Value.ref b] s) (F0 m 1702 ls []) := by
  have C0 := C0
  obtain ⟨hx, hb, hr, hml, hown, hts, hX, hbl, hlocks, hgv⟩ := id C0
  have hA : ∀ q : Nat, s.heap.size ≤ q → (fun q : Nat => s.heap.size ≤ q) q := fun _ h => h
  have hbA : ¬ (fun q : Nat => s.heap.size ≤ q) b := Nat.not_le.mpr hbl
  refine lv_aload_n hx hb dL_law_1702 rfl (lv_at hl 2 rfl) ?_
  have hPs := jp_init hP
  have hDs := jd_init hD
  have hKs := jk_init hK
  refine jcx_i (va_runV (As := []) (rest := []) ⟨hx, hb, hml, hown, hts⟩ (tX12_forget l dC dI _ ax ca) (cwV 0 hts (jgoodVL m_1024 m_1025 m_1026 m_210 m_1027) rfl rfl rfl (by decide +kernel) ⟨(Nat.le_of_ble_eq_true rfl), (Nat.le_of_ble_eq_true rfl)⟩) ⟨jw_blind, va_recv hKs hPs (ci := 12) (q0 := 0) rfl rfl, fun U hU hW => ⟨rfl, jw_of hU hW hPs hKs hDs⟩⟩ rfl rfl hl.1 rfl (lv_room (Nat.le_of_ble_eq_true rfl)) dL_law_1703 ⟨(Nat.le_of_ble_eq_true rfl), (Nat.le_of_ble_eq_true rfl)⟩) hP hD hS hA (fun r1 H locs hr1 hPm hS => ?_)
  have hr1 : r1 = 0 := hr1
  refine lv_aload_n hx hb dL_law_1706 rfl (lv_at hl 1 rfl) ?_
  have hPs := hPm
  have hDs := jd_tail hD
  have hKs := jk_tail hK
  refine jcy_i (va_runV (As := []) (rest := [.int r1]) ⟨hx, hb, hml, hown, hts⟩ (tX13_forget l dC dI _ am cm) (cwV 0 hts (jgoodVL m_1028 m_1029 m_1030 m_96 m_1031) rfl rfl rfl (by decide +kernel) ⟨(Nat.le_of_ble_eq_true rfl), (Nat.le_of_ble_eq_true rfl)⟩) ⟨jw_blind, va_recv hKs hPs (ci := 13) (q0 := 0) rfl rfl, fun U hU hW => ⟨rfl, jw_of hU hW hPs hKs hDs⟩⟩ rfl rfl hl.1 rfl (lv_room (Nat.le_of_ble_eq_true rfl)) dL_law_1707 ⟨(Nat.le_of_ble_eq_true rfl), (Nat.le_of_ble_eq_true rfl)⟩) hDs hS hA (fun r2 H locs hr2 hS => ?_)
  have hr2 : r2 = 0 := hr2
  refine lv_icmp_eq (tgt := 1804) hx hb dL_law_1710 (by decide) (fun _ => ?_) (fun z => absurd (hr1.trans hr2.symm) z)
  exact lc_end C0 hS hl (Nat.le_of_ble_eq_true rfl) (Nat.le_of_ble_eq_true rfl)
set_option maxHeartbeats 4000000 in
set_option maxRecDepth 100000 in
theorem lc_45 {p : Program} {l : Launch} {e : Env} {s : State} {m : MethodId} {below : List Frame} {meth : Method} {c : Code} {b : Nat} {xs : Nat → Int32} (C0 : lw_At p s m meth c b 6 xs) {dC : Nat → ClassId} {dI : Nat → Nat → Nat} {ax am : Nat → Nat} {ca cm : Nat → ClassId} {tW : Nat} (hE : jE s) (hZ : va_Z "BookOfAll$Rules" "WITHOUT" "[I" (.ref tW) (fun q : Nat => s.heap.size ≤ q) s s.heap) (hT : va_T .int tW 14 (fun k => .int (jz_f k)) (fun q : Nat => s.heap.size ≤ q) s s.heap) (hK : va_K (dC, dI) vwCl (xT ca ++ mT cm) s) {H : Heap} {locs : List Loc} {ls : Array Slot} (hP : va_P (dC, dI) vwCl (xW ax ca ++ mW am cm) H) (hD : va_D (fun q : Nat => s.heap.size ≤ q) (xW ax ca ++ mW am cm)) (hS : va_S (fun q : Nat => s.heap.size ≤ q) s.heap H locs) (hl : lv_has ls 4 [(3, .int 0), (2, .ref (am 0)), (1, .ref (ax 0)), (0, .ref b)]) : W p l e room_1 s m #[Value.ref b] below meth c H locs 152 53404 (lw_Z below #[Value.ref b] s) (F0 m 1715 ls []) := by
  have C0 := C0
  obtain ⟨hx, hb, hr, hml, hown, hts, hX, hbl, hlocks, hgv⟩ := id C0
  have hA : ∀ q : Nat, s.heap.size ≤ q → (fun q : Nat => s.heap.size ≤ q) q := fun _ h => h
  have hbA : ¬ (fun q : Nat => s.heap.size ≤ q) b := Nat.not_le.mpr hbl
  rcases jv6 (xs 1) with h | h | h | h | h | h | h | h
  · refine lv_aload_n hx hb dL_law_1715 rfl (lv_at hl 2 rfl) ?_
    refine lv_aload_n hx hb dL_law_1716 rfl (lv_at hl 3 rfl) ?_
    refine lv_iload_n hx hb dL_law_1717 rfl (lv_at hl 0 rfl) ?_
    refine lv_iconst (v := 1) hx hb dL_law_1718 (by decide) ?_
    refine lv_iadd hx hb dL_law_1719 ?_
    refine jt_i 1 (by decide) ?_
    refine va_sld hx hb hX hbl hbA hS (vp_in_nI (n := 1) (by decide) (by decide)) dL_law_1720 ?_
    refine jt_i (xs 1) rfl ?_
    refine lv_aload_n hx hb dL_law_1721 rfl (lv_at hl 3 rfl) ?_
    refine lv_iload_n hx hb dL_law_1722 rfl (lv_at hl 0 rfl) ?_
    refine lv_iconst (v := 2) hx hb dL_law_1723 (by decide) ?_
    refine lv_iadd hx hb dL_law_1724 ?_
    refine jt_i 2 (by decide) ?_
    refine va_sld hx hb hX hbl hbA hS (vp_in_nI (n := 2) (by decide) (by decide)) dL_law_1725 ?_
    refine jt_i (xs 2) rfl ?_
    have hPs := jp_init hP
    have hDs := jd_init hD
    have hKs := jk_init hK
    refine jc_i (va_runV (As := [.int (xs 1), .int (xs 2)]) (rest := []) ⟨hx, hb, hml, hown, hts⟩ (tX12_thief_lo l dC dI _ ax ca (xs 1) (xs 2) h) (cwV 2 hts (jgoodVL m_1032 m_1033 m_1034 m_210 m_1035) rfl rfl rfl (by decide +kernel) ⟨(Nat.le_of_ble_eq_true rfl), (Nat.le_of_ble_eq_true rfl)⟩) ⟨jw_blind, va_recv hKs hPs (ci := 12) (q0 := 0) rfl rfl, fun U hU hW => ⟨rfl, jw_of hU hW hPs hKs hDs⟩⟩ rfl rfl hl.1 rfl (lv_room (Nat.le_of_ble_eq_true rfl)) dL_law_1726 ⟨(Nat.le_of_ble_eq_true rfl), (Nat.le_of_ble_eq_true rfl)⟩) hP hS hA (fun r1 H locs hr1 hP hS => ?_)
    have hPm := jp_tail hP
    have hr1 : r1 = (-1) := hr1
    refine lv_aload_n hx hb dL_law_1729 rfl (lv_at hl 1 rfl) ?_
    refine lv_aload_n hx hb dL_law_1730 rfl (lv_at hl 3 rfl) ?_
    refine lv_iload_n hx hb dL_law_1731 rfl (lv_at hl 0 rfl) ?_
    refine lv_iconst (v := 1) hx hb dL_law_1732 (by decide) ?_
    refine lv_iadd hx hb dL_law_1733 ?_
    refine jt_i 1 (by decide) ?_
    refine va_sld hx hb hX hbl hbA hS (vp_in_nI (n := 1) (by decide) (by decide)) dL_law_1734 ?_
    refine jt_i (xs 1) rfl ?_
    refine lv_aload_n hx hb dL_law_1735 rfl (lv_at hl 3 rfl) ?_
    refine lv_iload_n hx hb dL_law_1736 rfl (lv_at hl 0 rfl) ?_
    refine lv_iconst (v := 2) hx hb dL_law_1737 (by decide) ?_
    refine lv_iadd hx hb dL_law_1738 ?_
    refine jt_i 2 (by decide) ?_
    refine va_sld hx hb hX hbl hbA hS (vp_in_nI (n := 2) (by decide) (by decide)) dL_law_1739 ?_
    refine jt_i (xs 2) rfl ?_
    have hPs := hPm
    have hDs := jd_tail hD
    have hKs := jk_tail hK
    refine jc_i (va_runV (As := [.int (xs 1), .int (xs 2)]) (rest := [.int r1]) ⟨hx, hb, hml, hown, hts⟩ (tX13_thief l dC dI _ am cm (xs 1) (xs 2)) (cwV 2 hts (jgoodVL m_1036 m_1037 m_1038 m_96 m_1039) rfl rfl rfl (by decide +kernel) ⟨(Nat.le_of_ble_eq_true rfl), (Nat.le_of_ble_eq_true rfl)⟩) ⟨jw_blind, va_recv hKs hPs (ci := 13) (q0 := 0) rfl rfl, fun U hU hW => ⟨rfl, jw_of hU hW hPs hKs hDs⟩⟩ rfl rfl hl.1 rfl (lv_room (Nat.le_of_ble_eq_true rfl)) dL_law_1740 ⟨(Nat.le_of_ble_eq_true rfl), (Nat.le_of_ble_eq_true rfl)⟩) hPm hS hA (fun r2 H locs hr2 hPm hS => ?_)
    have hr2 : r2 = (-1) := hr2
    refine lv_icmp_eq (tgt := 1804) hx hb dL_law_1743 (by decide) (fun _ => ?_) (fun z => absurd (hr1.trans hr2.symm) z)
    exact lc_end C0 hS hl (Nat.le_of_ble_eq_true rfl) (Nat.le_of_ble_eq_true rfl)
  · refine lv_aload_n hx hb dL_law_1715 rfl (lv_at hl 2 rfl) ?_
    refine lv_aload_n hx hb dL_law_1716 rfl (lv_at hl 3 rfl) ?_
    refine lv_iload_n hx hb dL_law_1717 rfl (lv_at hl 0 rfl) ?_
    refine lv_iconst (v := 1) hx hb dL_law_1718 (by decide) ?_
    refine lv_iadd hx hb dL_law_1719 ?_
    refine jt_i 1 (by decide) ?_
    refine va_sld hx hb hX hbl hbA hS (vp_in_nI (n := 1) (by decide) (by decide)) dL_law_1720 ?_
    refine jt_i (xs 1) rfl ?_
    refine lv_aload_n hx hb dL_law_1721 rfl (lv_at hl 3 rfl) ?_
    refine lv_iload_n hx hb dL_law_1722 rfl (lv_at hl 0 rfl) ?_
    refine lv_iconst (v := 2) hx hb dL_law_1723 (by decide) ?_
    refine lv_iadd hx hb dL_law_1724 ?_
    refine jt_i 2 (by decide) ?_
    refine va_sld hx hb hX hbl hbA hS (vp_in_nI (n := 2) (by decide) (by decide)) dL_law_1725 ?_
    refine jt_i (xs 2) rfl ?_
    have hPs := jp_init hP
    have hDs := jd_init hD
    have hKs := jk_init hK
    refine jc_i (va_runV (As := [.int (xs 1), .int (xs 2)]) (rest := []) ⟨hx, hb, hml, hown, hts⟩ (tX12_thief_hi l dC dI _ ax ca (xs 1) (xs 2) h) (cwV 2 hts (jgoodVL m_1032 m_1033 m_1034 m_210 m_1035) rfl rfl rfl (by decide +kernel) ⟨(Nat.le_of_ble_eq_true rfl), (Nat.le_of_ble_eq_true rfl)⟩) ⟨jw_blind, va_recv hKs hPs (ci := 12) (q0 := 0) rfl rfl, fun U hU hW => ⟨rfl, jw_of hU hW hPs hKs hDs⟩⟩ rfl rfl hl.1 rfl (lv_room (Nat.le_of_ble_eq_true rfl)) dL_law_1726 ⟨(Nat.le_of_ble_eq_true rfl), (Nat.le_of_ble_eq_true rfl)⟩) hP hS hA (fun r1 H locs hr1 hP hS => ?_)
    have hPm := jp_tail hP
    have hr1 : r1 = (-1) := hr1
    refine lv_aload_n hx hb dL_law_1729 rfl (lv_at hl 1 rfl) ?_
    refine lv_aload_n hx hb dL_law_1730 rfl (lv_at hl 3 rfl) ?_
    refine lv_iload_n hx hb dL_law_1731 rfl (lv_at hl 0 rfl) ?_
    refine lv_iconst (v := 1) hx hb dL_law_1732 (by decide) ?_
    refine lv_iadd hx hb dL_law_1733 ?_
    refine jt_i 1 (by decide) ?_
    refine va_sld hx hb hX hbl hbA hS (vp_in_nI (n := 1) (by decide) (by decide)) dL_law_1734 ?_
    refine jt_i (xs 1) rfl ?_
    refine lv_aload_n hx hb dL_law_1735 rfl (lv_at hl 3 rfl) ?_
    refine lv_iload_n hx hb dL_law_1736 rfl (lv_at hl 0 rfl) ?_
    refine lv_iconst (v := 2) hx hb dL_law_1737 (by decide) ?_
    refine lv_iadd hx hb dL_law_1738 ?_
    refine jt_i 2 (by decide) ?_
    refine va_sld hx hb hX hbl hbA hS (vp_in_nI (n := 2) (by decide) (by decide)) dL_law_1739 ?_
    refine jt_i (xs 2) rfl ?_
    have hPs := hPm
    have hDs := jd_tail hD
    have hKs := jk_tail hK
    refine jc_i (va_runV (As := [.int (xs 1), .int (xs 2)]) (rest := [.int r1]) ⟨hx, hb, hml, hown, hts⟩ (tX13_thief l dC dI _ am cm (xs 1) (xs 2)) (cwV 2 hts (jgoodVL m_1036 m_1037 m_1038 m_96 m_1039) rfl rfl rfl (by decide +kernel) ⟨(Nat.le_of_ble_eq_true rfl), (Nat.le_of_ble_eq_true rfl)⟩) ⟨jw_blind, va_recv hKs hPs (ci := 13) (q0 := 0) rfl rfl, fun U hU hW => ⟨rfl, jw_of hU hW hPs hKs hDs⟩⟩ rfl rfl hl.1 rfl (lv_room (Nat.le_of_ble_eq_true rfl)) dL_law_1740 ⟨(Nat.le_of_ble_eq_true rfl), (Nat.le_of_ble_eq_true rfl)⟩) hPm hS hA (fun r2 H locs hr2 hPm hS => ?_)
    have hr2 : r2 = (-1) := hr2
    refine lv_icmp_eq (tgt := 1804) hx hb dL_law_1743 (by decide) (fun _ => ?_) (fun z => absurd (hr1.trans hr2.symm) z)
    exact lc_end C0 hS hl (Nat.le_of_ble_eq_true rfl) (Nat.le_of_ble_eq_true rfl)
  · refine lv_aload_n hx hb dL_law_1715 rfl (lv_at hl 2 rfl) ?_
    refine lv_aload_n hx hb dL_law_1716 rfl (lv_at hl 3 rfl) ?_
    refine lv_iload_n hx hb dL_law_1717 rfl (lv_at hl 0 rfl) ?_
    refine lv_iconst (v := 1) hx hb dL_law_1718 (by decide) ?_
    refine lv_iadd hx hb dL_law_1719 ?_
    refine jt_i 1 (by decide) ?_
    refine va_sld hx hb hX hbl hbA hS (vp_in_nI (n := 1) (by decide) (by decide)) dL_law_1720 ?_
    refine jt_i (xs 1) rfl ?_
    refine jt_i 0 h ?_
    refine lv_aload_n hx hb dL_law_1721 rfl (lv_at hl 3 rfl) ?_
    refine lv_iload_n hx hb dL_law_1722 rfl (lv_at hl 0 rfl) ?_
    refine lv_iconst (v := 2) hx hb dL_law_1723 (by decide) ?_
    refine lv_iadd hx hb dL_law_1724 ?_
    refine jt_i 2 (by decide) ?_
    refine va_sld hx hb hX hbl hbA hS (vp_in_nI (n := 2) (by decide) (by decide)) dL_law_1725 ?_
    refine jt_i (xs 2) rfl ?_
    have hPs := jp_init hP
    have hDs := jd_init hD
    have hKs := jk_init hK
    refine jc_i (va_runV (As := [.int 0, .int (xs 2)]) (rest := []) ⟨hx, hb, hml, hown, hts⟩ (tX12_thief_v0 l dC dI _ ax ca (xs 2)) (cwV 2 hts (jgoodVL m_1032 m_1033 m_1034 m_210 m_1035) rfl rfl rfl (by decide +kernel) ⟨(Nat.le_of_ble_eq_true rfl), (Nat.le_of_ble_eq_true rfl)⟩) ⟨jw_blind, va_recv hKs hPs (ci := 12) (q0 := 0) rfl rfl, fun U hU hW => ⟨rfl, jw_of hU hW hPs hKs hDs⟩⟩ rfl rfl hl.1 rfl (lv_room (Nat.le_of_ble_eq_true rfl)) dL_law_1726 ⟨(Nat.le_of_ble_eq_true rfl), (Nat.le_of_ble_eq_true rfl)⟩) hP hS hA (fun r1 H locs hr1 hP hS => ?_)
    have hPm := jp_tail hP
    have hr1 : r1 = (-1) := hr1
    refine lv_aload_n hx hb dL_law_1729 rfl (lv_at hl 1 rfl) ?_
    refine lv_aload_n hx hb dL_law_1730 rfl (lv_at hl 3 rfl) ?_
    refine lv_iload_n hx hb dL_law_1731 rfl (lv_at hl 0 rfl) ?_
    refine lv_iconst (v := 1) hx hb dL_law_1732 (by decide) ?_
    refine lv_iadd hx hb dL_law_1733 ?_
    refine jt_i 1 (by decide) ?_
    refine va_sld hx hb hX hbl hbA hS (vp_in_nI (n := 1) (by decide) (by decide)) dL_law_1734 ?_
    refine jt_i (xs 1) rfl ?_
    refine jt_i 0 h ?_
    refine lv_aload_n hx hb dL_law_1735 rfl (lv_at hl 3 rfl) ?_
    refine lv_iload_n hx hb dL_law_1736 rfl (lv_at hl 0 rfl) ?_
    refine lv_iconst (v := 2) hx hb dL_law_1737 (by decide) ?_
    refine lv_iadd hx hb dL_law_1738 ?_
    refine jt_i 2 (by decide) ?_
    refine va_sld hx hb hX hbl hbA hS (vp_in_nI (n := 2) (by decide) (by decide)) dL_law_1739 ?_
    refine jt_i (xs 2) rfl ?_
    have hPs := hPm
    have hDs := jd_tail hD
    have hKs := jk_tail hK
    refine jc_i (va_runV (As := [.int 0, .int (xs 2)]) (rest := [.int r1]) ⟨hx, hb, hml, hown, hts⟩ (tX13_thief l dC dI _ am cm 0 (xs 2)) (cwV 2 hts (jgoodVL m_1036 m_1037 m_1038 m_96 m_1039) rfl rfl rfl (by decide +kernel) ⟨(Nat.le_of_ble_eq_true rfl), (Nat.le_of_ble_eq_true rfl)⟩) ⟨jw_blind, va_recv hKs hPs (ci := 13) (q0 := 0) rfl rfl, fun U hU hW => ⟨rfl, jw_of hU hW hPs hKs hDs⟩⟩ rfl rfl hl.1 rfl (lv_room (Nat.le_of_ble_eq_true rfl)) dL_law_1740 ⟨(Nat.le_of_ble_eq_true rfl), (Nat.le_of_ble_eq_true rfl)⟩) hPm hS hA (fun r2 H locs hr2 hPm hS => ?_)
    have hr2 : r2 = (-1) := hr2
    refine lv_icmp_eq (tgt := 1804) hx hb dL_law_1743 (by decide) (fun _ => ?_) (fun z => absurd (hr1.trans hr2.symm) z)
    exact lc_end C0 hS hl (Nat.le_of_ble_eq_true rfl) (Nat.le_of_ble_eq_true rfl)
  · refine lv_aload_n hx hb dL_law_1715 rfl (lv_at hl 2 rfl) ?_
    refine lv_aload_n hx hb dL_law_1716 rfl (lv_at hl 3 rfl) ?_
    refine lv_iload_n hx hb dL_law_1717 rfl (lv_at hl 0 rfl) ?_
    refine lv_iconst (v := 1) hx hb dL_law_1718 (by decide) ?_
    refine lv_iadd hx hb dL_law_1719 ?_
    refine jt_i 1 (by decide) ?_
    refine va_sld hx hb hX hbl hbA hS (vp_in_nI (n := 1) (by decide) (by decide)) dL_law_1720 ?_
    refine jt_i (xs 1) rfl ?_
    refine jt_i 1 h ?_
    refine lv_aload_n hx hb dL_law_1721 rfl (lv_at hl 3 rfl) ?_
    refine lv_iload_n hx hb dL_law_1722 rfl (lv_at hl 0 rfl) ?_
    refine lv_iconst (v := 2) hx hb dL_law_1723 (by decide) ?_
    refine lv_iadd hx hb dL_law_1724 ?_
    refine jt_i 2 (by decide) ?_
    refine va_sld hx hb hX hbl hbA hS (vp_in_nI (n := 2) (by decide) (by decide)) dL_law_1725 ?_
    refine jt_i (xs 2) rfl ?_
    have hPs := jp_init hP
    have hDs := jd_init hD
    have hKs := jk_init hK
    refine jc_i (va_runV (As := [.int 1, .int (xs 2)]) (rest := []) ⟨hx, hb, hml, hown, hts⟩ (tX12_thief_v1 l dC dI _ ax ca (xs 2)) (cwV 2 hts (jgoodVL m_1032 m_1033 m_1034 m_210 m_1035) rfl rfl rfl (by decide +kernel) ⟨(Nat.le_of_ble_eq_true rfl), (Nat.le_of_ble_eq_true rfl)⟩) ⟨jw_blind, va_recv hKs hPs (ci := 12) (q0 := 0) rfl rfl, fun U hU hW => ⟨rfl, jw_of hU hW hPs hKs hDs⟩⟩ rfl rfl hl.1 rfl (lv_room (Nat.le_of_ble_eq_true rfl)) dL_law_1726 ⟨(Nat.le_of_ble_eq_true rfl), (Nat.le_of_ble_eq_true rfl)⟩) hP hS hA (fun r1 H locs hr1 hP hS => ?_)
    have hPm := jp_tail hP
    have hr1 : r1 = (-1) := hr1
    refine lv_aload_n hx hb dL_law_1729 rfl (lv_at hl 1 rfl) ?_
    refine lv_aload_n hx hb dL_law_1730 rfl (lv_at hl 3 rfl) ?_
    refine lv_iload_n hx hb dL_law_1731 rfl (lv_at hl 0 rfl) ?_
    refine lv_iconst (v := 1) hx hb dL_law_1732 (by decide) ?_
    refine lv_iadd hx hb dL_law_1733 ?_
    refine jt_i 1 (by decide) ?_
    refine va_sld hx hb hX hbl hbA hS (vp_in_nI (n := 1) (by decide) (by decide)) dL_law_1734 ?_
    refine jt_i (xs 1) rfl ?_
    refine jt_i 1 h ?_
    refine lv_aload_n hx hb dL_law_1735 rfl (lv_at hl 3 rfl) ?_
    refine lv_iload_n hx hb dL_law_1736 rfl (lv_at hl 0 rfl) ?_
    refine lv_iconst (v := 2) hx hb dL_law_1737 (by decide) ?_
    refine lv_iadd hx hb dL_law_1738 ?_
    refine jt_i 2 (by decide) ?_
    refine va_sld hx hb hX hbl hbA hS (vp_in_nI (n := 2) (by decide) (by decide)) dL_law_1739 ?_
    refine jt_i (xs 2) rfl ?_
    have hPs := hPm
    have hDs := jd_tail hD
    have hKs := jk_tail hK
    refine jc_i (va_runV (As := [.int 1, .int (xs 2)]) (rest := [.int r1]) ⟨hx, hb, hml, hown, hts⟩ (tX13_thief l dC dI _ am cm 1 (xs 2)) (cwV 2 hts (jgoodVL m_1036 m_1037 m_1038 m_96 m_1039) rfl rfl rfl (by decide +kernel) ⟨(Nat.le_of_ble_eq_true rfl), (Nat.le_of_ble_eq_true rfl)⟩) ⟨jw_blind, va_recv hKs hPs (ci := 13) (q0 := 0) rfl rfl, fun U hU hW => ⟨rfl, jw_of hU hW hPs hKs hDs⟩⟩ rfl rfl hl.1 rfl (lv_room (Nat.le_of_ble_eq_true rfl)) dL_law_1740 ⟨(Nat.le_of_ble_eq_true rfl), (Nat.le_of_ble_eq_true rfl)⟩) hPm hS hA (fun r2 H locs hr2 hPm hS => ?_)
    have hr2 : r2 = (-1) := hr2
    refine lv_icmp_eq (tgt := 1804) hx hb dL_law_1743 (by decide) (fun _ => ?_) (fun z => absurd (hr1.trans hr2.symm) z)
    exact lc_end C0 hS hl (Nat.le_of_ble_eq_true rfl) (Nat.le_of_ble_eq_true rfl)
  · refine lv_aload_n hx hb dL_law_1715 rfl (lv_at hl 2 rfl) ?_
    refine lv_aload_n hx hb dL_law_1716 rfl (lv_at hl 3 rfl) ?_
    refine lv_iload_n hx hb dL_law_1717 rfl (lv_at hl 0 rfl) ?_
    refine lv_iconst (v := 1) hx hb dL_law_1718 (by decide) ?_
    refine lv_iadd hx hb dL_law_1719 ?_
    refine jt_i 1 (by decide) ?_
    refine va_sld hx hb hX hbl hbA hS (vp_in_nI (n := 1) (by decide) (by decide)) dL_law_1720 ?_
    refine jt_i (xs 1) rfl ?_
    refine jt_i 2 h ?_
    refine lv_aload_n hx hb dL_law_1721 rfl (lv_at hl 3 rfl) ?_
    refine lv_iload_n hx hb dL_law_1722 rfl (lv_at hl 0 rfl) ?_
    refine lv_iconst (v := 2) hx hb dL_law_1723 (by decide) ?_
    refine lv_iadd hx hb dL_law_1724 ?_
    refine jt_i 2 (by decide) ?_
    refine va_sld hx hb hX hbl hbA hS (vp_in_nI (n := 2) (by decide) (by decide)) dL_law_1725 ?_
    refine jt_i (xs 2) rfl ?_
    have hPs := jp_init hP
    have hDs := jd_init hD
    have hKs := jk_init hK
    refine jc_i (va_runV (As := [.int 2, .int (xs 2)]) (rest := []) ⟨hx, hb, hml, hown, hts⟩ (tX12_thief_v2 l dC dI _ ax ca (xs 2)) (cwV 2 hts (jgoodVL m_1032 m_1033 m_1034 m_210 m_1035) rfl rfl rfl (by decide +kernel) ⟨(Nat.le_of_ble_eq_true rfl), (Nat.le_of_ble_eq_true rfl)⟩) ⟨jw_blind, va_recv hKs hPs (ci := 12) (q0 := 0) rfl rfl, fun U hU hW => ⟨rfl, jw_of hU hW hPs hKs hDs⟩⟩ rfl rfl hl.1 rfl (lv_room (Nat.le_of_ble_eq_true rfl)) dL_law_1726 ⟨(Nat.le_of_ble_eq_true rfl), (Nat.le_of_ble_eq_true rfl)⟩) hP hS hA (fun r1 H locs hr1 hP hS => ?_)
    have hPm := jp_tail hP
    have hr1 : r1 = (-1) := hr1
    refine lv_aload_n hx hb dL_law_1729 rfl (lv_at hl 1 rfl) ?_
    refine lv_aload_n hx hb dL_law_1730 rfl (lv_at hl 3 rfl) ?_
    refine lv_iload_n hx hb dL_law_1731 rfl (lv_at hl 0 rfl) ?_
    refine lv_iconst (v := 1) hx hb dL_law_1732 (by decide) ?_
    refine lv_iadd hx hb dL_law_1733 ?_
    refine jt_i 1 (by decide) ?_
    refine va_sld hx hb hX hbl hbA hS (vp_in_nI (n := 1) (by decide) (by decide)) dL_law_1734 ?_
    refine jt_i (xs 1) rfl ?_
    refine jt_i 2 h ?_
    refine lv_aload_n hx hb dL_law_1735 rfl (lv_at hl 3 rfl) ?_
    refine lv_iload_n hx hb dL_law_1736 rfl (lv_at hl 0 rfl) ?_
    refine lv_iconst (v := 2) hx hb dL_law_1737 (by decide) ?_
    refine lv_iadd hx hb dL_law_1738 ?_
    refine jt_i 2 (by decide) ?_
    refine va_sld hx hb hX hbl hbA hS (vp_in_nI (n := 2) (by decide) (by decide)) dL_law_1739 ?_
    refine jt_i (xs 2) rfl ?_
    have hPs := hPm
    have hDs := jd_tail hD
    have hKs := jk_tail hK
    refine jc_i (va_runV (As := [.int 2, .int (xs 2)]) (rest := [.int r1]) ⟨hx, hb, hml, hown, hts⟩ (tX13_thief l dC dI _ am cm 2 (xs 2)) (cwV 2 hts (jgoodVL m_1036 m_1037 m_1038 m_96 m_1039) rfl rfl rfl (by decide +kernel) ⟨(Nat.le_of_ble_eq_true rfl), (Nat.le_of_ble_eq_true rfl)⟩) ⟨jw_blind, va_recv hKs hPs (ci := 13) (q0 := 0) rfl rfl, fun U hU hW => ⟨rfl, jw_of hU hW hPs hKs hDs⟩⟩ rfl rfl hl.1 rfl (lv_room (Nat.le_of_ble_eq_true rfl)) dL_law_1740 ⟨(Nat.le_of_ble_eq_true rfl), (Nat.le_of_ble_eq_true rfl)⟩) hPm hS hA (fun r2 H locs hr2 hPm hS => ?_)
    have hr2 : r2 = (-1) := hr2
    refine lv_icmp_eq (tgt := 1804) hx hb dL_law_1743 (by decide) (fun _ => ?_) (fun z => absurd (hr1.trans hr2.symm) z)
    exact lc_end C0 hS hl (Nat.le_of_ble_eq_true rfl) (Nat.le_of_ble_eq_true rfl)
  · refine lv_aload_n hx hb dL_law_1715 rfl (lv_at hl 2 rfl) ?_
    refine lv_aload_n hx hb dL_law_1716 rfl (lv_at hl 3 rfl) ?_
    refine lv_iload_n hx hb dL_law_1717 rfl (lv_at hl 0 rfl) ?_
    refine lv_iconst (v := 1) hx hb dL_law_1718 (by decide) ?_
    refine lv_iadd hx hb dL_law_1719 ?_
    refine jt_i 1 (by decide) ?_
    refine va_sld hx hb hX hbl hbA hS (vp_in_nI (n := 1) (by decide) (by decide)) dL_law_1720 ?_
    refine jt_i (xs 1) rfl ?_
    refine jt_i 3 h ?_
    refine lv_aload_n hx hb dL_law_1721 rfl (lv_at hl 3 rfl) ?_
    refine lv_iload_n hx hb dL_law_1722 rfl (lv_at hl 0 rfl) ?_
    refine lv_iconst (v := 2) hx hb dL_law_1723 (by decide) ?_
    refine lv_iadd hx hb dL_law_1724 ?_
    refine jt_i 2 (by decide) ?_
    refine va_sld hx hb hX hbl hbA hS (vp_in_nI (n := 2) (by decide) (by decide)) dL_law_1725 ?_
    refine jt_i (xs 2) rfl ?_
    have hPs := jp_init hP
    have hDs := jd_init hD
    have hKs := jk_init hK
    refine jc_i (va_runV (As := [.int 3, .int (xs 2)]) (rest := []) ⟨hx, hb, hml, hown, hts⟩ (tX12_thief_v3 l dC dI _ ax ca (xs 2)) (cwV 2 hts (jgoodVL m_1032 m_1033 m_1034 m_210 m_1035) rfl rfl rfl (by decide +kernel) ⟨(Nat.le_of_ble_eq_true rfl), (Nat.le_of_ble_eq_true rfl)⟩) ⟨jw_blind, va_recv hKs hPs (ci := 12) (q0 := 0) rfl rfl, fun U hU hW => ⟨rfl, jw_of hU hW hPs hKs hDs⟩⟩ rfl rfl hl.1 rfl (lv_room (Nat.le_of_ble_eq_true rfl)) dL_law_1726 ⟨(Nat.le_of_ble_eq_true rfl), (Nat.le_of_ble_eq_true rfl)⟩) hP hS hA (fun r1 H locs hr1 hP hS => ?_)
    have hPm := jp_tail hP
    have hr1 : r1 = (-1) := hr1
    refine lv_aload_n hx hb dL_law_1729 rfl (lv_at hl 1 rfl) ?_
    refine lv_aload_n hx hb dL_law_1730 rfl (lv_at hl 3 rfl) ?_
    refine lv_iload_n hx hb dL_law_1731 rfl (lv_at hl 0 rfl) ?_
    refine lv_iconst (v := 1) hx hb dL_law_1732 (by decide) ?_
    refine lv_iadd hx hb dL_law_1733 ?_
    refine jt_i 1 (by decide) ?_
    refine va_sld hx hb hX hbl hbA hS (vp_in_nI (n := 1) (by decide) (by decide)) dL_law_1734 ?_
    refine jt_i (xs 1) rfl ?_
    refine jt_i 3 h ?_
    refine lv_aload_n hx hb dL_law_1735 rfl (lv_at hl 3 rfl) ?_
    refine lv_iload_n hx hb dL_law_1736 rfl (lv_at hl 0 rfl) ?_
    refine lv_iconst (v := 2) hx hb dL_law_1737 (by decide) ?_
    refine lv_iadd hx hb dL_law_1738 ?_
    refine jt_i 2 (by decide) ?_
    refine va_sld hx hb hX hbl hbA hS (vp_in_nI (n := 2) (by decide) (by decide)) dL_law_1739 ?_
    refine jt_i (xs 2) rfl ?_
    have hPs := hPm
    have hDs := jd_tail hD
    have hKs := jk_tail hK
    refine jc_i (va_runV (As := [.int 3, .int (xs 2)]) (rest := [.int r1]) ⟨hx, hb, hml, hown, hts⟩ (tX13_thief l dC dI _ am cm 3 (xs 2)) (cwV 2 hts (jgoodVL m_1036 m_1037 m_1038 m_96 m_1039) rfl rfl rfl (by decide +kernel) ⟨(Nat.le_of_ble_eq_true rfl), (Nat.le_of_ble_eq_true rfl)⟩) ⟨jw_blind, va_recv hKs hPs (ci := 13) (q0 := 0) rfl rfl, fun U hU hW => ⟨rfl, jw_of hU hW hPs hKs hDs⟩⟩ rfl rfl hl.1 rfl (lv_room (Nat.le_of_ble_eq_true rfl)) dL_law_1740 ⟨(Nat.le_of_ble_eq_true rfl), (Nat.le_of_ble_eq_true rfl)⟩) hPm hS hA (fun r2 H locs hr2 hPm hS => ?_)
    have hr2 : r2 = (-1) := hr2
    refine lv_icmp_eq (tgt := 1804) hx hb dL_law_1743 (by decide) (fun _ => ?_) (fun z => absurd (hr1.trans hr2.symm) z)
    exact lc_end C0 hS hl (Nat.le_of_ble_eq_true rfl) (Nat.le_of_ble_eq_true rfl)
  · refine lv_aload_n hx hb dL_law_1715 rfl (lv_at hl 2 rfl) ?_
    refine lv_aload_n hx hb dL_law_1716 rfl (lv_at hl 3 rfl) ?_
    refine lv_iload_n hx hb dL_law_1717 rfl (lv_at hl 0 rfl) ?_
    refine lv_iconst (v := 1) hx hb dL_law_1718 (by decide) ?_
    refine lv_iadd hx hb dL_law_1719 ?_
    refine jt_i 1 (by decide) ?_
    refine va_sld hx hb hX hbl hbA hS (vp_in_nI (n := 1) (by decide) (by decide)) dL_law_1720 ?_
    refine jt_i (xs 1) rfl ?_
    refine jt_i 4 h ?_
    refine lv_aload_n hx hb dL_law_1721 rfl (lv_at hl 3 rfl) ?_
    refine lv_iload_n hx hb dL_law_1722 rfl (lv_at hl 0 rfl) ?_
    refine lv_iconst (v := 2) hx hb dL_law_1723 (by decide) ?_
    refine lv_iadd hx hb dL_law_1724 ?_
    refine jt_i 2 (by decide) ?_
    refine va_sld hx hb hX hbl hbA hS (vp_in_nI (n := 2) (by decide) (by decide)) dL_law_1725 ?_
    refine jt_i (xs 2) rfl ?_
    have hPs := jp_init hP
    have hDs := jd_init hD
    have hKs := jk_init hK
    refine jc_i (va_runV (As := [.int 4, .int (xs 2)]) (rest := []) ⟨hx, hb, hml, hown, hts⟩ (tX12_thief_v4 l dC dI _ ax ca (xs 2)) (cwV 2 hts (jgoodVL m_1032 m_1033 m_1034 m_210 m_1035) rfl rfl rfl (by decide +kernel) ⟨(Nat.le_of_ble_eq_true rfl), (Nat.le_of_ble_eq_true rfl)⟩) ⟨jw_blind, va_recv hKs hPs (ci := 12) (q0 := 0) rfl rfl, fun U hU hW => ⟨rfl, jw_of hU hW hPs hKs hDs⟩⟩ rfl rfl hl.1 rfl (lv_room (Nat.le_of_ble_eq_true rfl)) dL_law_1726 ⟨(Nat.le_of_ble_eq_true rfl), (Nat.le_of_ble_eq_true rfl)⟩) hP hS hA (fun r1 H locs hr1 hP hS => ?_)
    have hPm := jp_tail hP
    have hr1 : r1 = (-1) := hr1
    refine lv_aload_n hx hb dL_law_1729 rfl (lv_at hl 1 rfl) ?_
    refine lv_aload_n hx hb dL_law_1730 rfl (lv_at hl 3 rfl) ?_
    refine lv_iload_n hx hb dL_law_1731 rfl (lv_at hl 0 rfl) ?_
    refine lv_iconst (v := 1) hx hb dL_law_1732 (by decide) ?_
    refine lv_iadd hx hb dL_law_1733 ?_
    refine jt_i 1 (by decide) ?_
    refine va_sld hx hb hX hbl hbA hS (vp_in_nI (n := 1) (by decide) (by decide)) dL_law_1734 ?_
    refine jt_i (xs 1) rfl ?_
    refine jt_i 4 h ?_
    refine lv_aload_n hx hb dL_law_1735 rfl (lv_at hl 3 rfl) ?_
    refine lv_iload_n hx hb dL_law_1736 rfl (lv_at hl 0 rfl) ?_
    refine lv_iconst (v := 2) hx hb dL_law_1737 (by decide) ?_
    refine lv_iadd hx hb dL_law_1738 ?_
    refine jt_i 2 (by decide) ?_
    refine va_sld hx hb hX hbl hbA hS (vp_in_nI (n := 2) (by decide) (by decide)) dL_law_1739 ?_
    refine jt_i (xs 2) rfl ?_
    have hPs := hPm
    have hDs := jd_tail hD
    have hKs := jk_tail hK
    refine jc_i (va_runV (As := [.int 4, .int (xs 2)]) (rest := [.int r1]) ⟨hx, hb, hml, hown, hts⟩ (tX13_thief l dC dI _ am cm 4 (xs 2)) (cwV 2 hts (jgoodVL m_1036 m_1037 m_1038 m_96 m_1039) rfl rfl rfl (by decide +kernel) ⟨(Nat.le_of_ble_eq_true rfl), (Nat.le_of_ble_eq_true rfl)⟩) ⟨jw_blind, va_recv hKs hPs (ci := 13) (q0 := 0) rfl rfl, fun U hU hW => ⟨rfl, jw_of hU hW hPs hKs hDs⟩⟩ rfl rfl hl.1 rfl (lv_room (Nat.le_of_ble_eq_true rfl)) dL_law_1740 ⟨(Nat.le_of_ble_eq_true rfl), (Nat.le_of_ble_eq_true rfl)⟩) hPm hS hA (fun r2 H locs hr2 hPm hS => ?_)
    have hr2 : r2 = (-1) := hr2
    refine lv_icmp_eq (tgt := 1804) hx hb dL_law_1743 (by decide) (fun _ => ?_) (fun z => absurd (hr1.trans hr2.symm) z)
    exact lc_end C0 hS hl (Nat.le_of_ble_eq_true rfl) (Nat.le_of_ble_eq_true rfl)
  · refine lv_aload_n hx hb dL_law_1715 rfl (lv_at hl 2 rfl) ?_
    refine lv_aload_n hx hb dL_law_1716 rfl (lv_at hl 3 rfl) ?_
    refine lv_iload_n hx hb dL_law_1717 rfl (lv_at hl 0 rfl) ?_
    refine lv_iconst (v := 1) hx hb dL_law_1718 (by decide) ?_
    refine lv_iadd hx hb dL_law_1719 ?_
    refine jt_i 1 (by decide) ?_
    refine va_sld hx hb hX hbl hbA hS (vp_in_nI (n := 1) (by decide) (by decide)) dL_law_1720 ?_
    refine jt_i (xs 1) rfl ?_
    refine jt_i 5 h ?_
    refine lv_aload_n hx hb dL_law_1721 rfl (lv_at hl 3 rfl) ?_
    refine lv_iload_n hx hb dL_law_1722 rfl (lv_at hl 0 rfl) ?_
    refine lv_iconst (v := 2) hx hb dL_law_1723 (by decide) ?_
    refine lv_iadd hx hb dL_law_1724 ?_
    refine jt_i 2 (by decide) ?_
    refine va_sld hx hb hX hbl hbA hS (vp_in_nI (n := 2) (by decide) (by decide)) dL_law_1725 ?_
    refine jt_i (xs 2) rfl ?_
    have hPs := jp_init hP
    have hDs := jd_init hD
    have hKs := jk_init hK
    refine jc_i (va_runV (As := [.int 5, .int (xs 2)]) (rest := []) ⟨hx, hb, hml, hown, hts⟩ (tX12_thief_v5 l dC dI _ ax ca (xs 2)) (cwV 2 hts (jgoodVL m_1032 m_1033 m_1034 m_210 m_1035) rfl rfl rfl (by decide +kernel) ⟨(Nat.le_of_ble_eq_true rfl), (Nat.le_of_ble_eq_true rfl)⟩) ⟨jw_blind, va_recv hKs hPs (ci := 12) (q0 := 0) rfl rfl, fun U hU hW => ⟨rfl, jw_of hU hW hPs hKs hDs⟩⟩ rfl rfl hl.1 rfl (lv_room (Nat.le_of_ble_eq_true rfl)) dL_law_1726 ⟨(Nat.le_of_ble_eq_true rfl), (Nat.le_of_ble_eq_true rfl)⟩) hP hS hA (fun r1 H locs hr1 hP hS => ?_)
    have hPm := jp_tail hP
    have hr1 : r1 = (-1) := hr1
    refine lv_aload_n hx hb dL_law_1729 rfl (lv_at hl 1 rfl) ?_
    refine lv_aload_n hx hb dL_law_1730 rfl (lv_at hl 3 rfl) ?_
    refine lv_iload_n hx hb dL_law_1731 rfl (lv_at hl 0 rfl) ?_
    refine lv_iconst (v := 1) hx hb dL_law_1732 (by decide) ?_
    refine lv_iadd hx hb dL_law_1733 ?_
    refine jt_i 1 (by decide) ?_
    refine va_sld hx hb hX hbl hbA hS (vp_in_nI (n := 1) (by decide) (by decide)) dL_law_1734 ?_
    refine jt_i (xs 1) rfl ?_
    refine jt_i 5 h ?_
    refine lv_aload_n hx hb dL_law_1735 rfl (lv_at hl 3 rfl) ?_
    refine lv_iload_n hx hb dL_law_1736 rfl (lv_at hl 0 rfl) ?_
    refine lv_iconst (v := 2) hx hb dL_law_1737 (by decide) ?_
    refine lv_iadd hx hb dL_law_1738 ?_
    refine jt_i 2 (by decide) ?_
    refine va_sld hx hb hX hbl hbA hS (vp_in_nI (n := 2) (by decide) (by decide)) dL_law_1739 ?_
    refine jt_i (xs 2) rfl ?_
    have hPs := hPm
    have hDs := jd_tail hD
    have hKs := jk_tail hK
    refine jc_i (va_runV (As := [.int 5, .int (xs 2)]) (rest := [.int r1]) ⟨hx, hb, hml, hown, hts⟩ (tX13_thief l dC dI _ am cm 5 (xs 2)) (cwV 2 hts (jgoodVL m_1036 m_1037 m_1038 m_96 m_1039) rfl rfl rfl (by decide +kernel) ⟨(Nat.le_of_ble_eq_true rfl), (Nat.le_of_ble_eq_true rfl)⟩) ⟨jw_blind, va_recv hKs hPs (ci := 13) (q0 := 0) rfl rfl, fun U hU hW => ⟨rfl, jw_of hU hW hPs hKs hDs⟩⟩ rfl rfl hl.1 rfl (lv_room (Nat.le_of_ble_eq_true rfl)) dL_law_1740 ⟨(Nat.le_of_ble_eq_true rfl), (Nat.le_of_ble_eq_true rfl)⟩) hPm hS hA (fun r2 H locs hr2 hPm hS => ?_)
    have hr2 : r2 = (-1) := hr2
    refine lv_icmp_eq (tgt := 1804) hx hb dL_law_1743 (by decide) (fun _ => ?_) (fun z => absurd (hr1.trans hr2.symm) z)
    exact lc_end C0 hS hl (Nat.le_of_ble_eq_true rfl) (Nat.le_of_ble_eq_true rfl)
set_option maxHeartbeats 4000000 in
set_option maxRecDepth 100000 in
theorem lc_46 {p : Program} {l : Launch} {e : Env} {s : State} {m : MethodId} {below : List Frame} {meth : Method} {c : Code} {b : Nat} {xs : Nat → Int32} (C0 : lw_At p s m meth c b 6 xs) {dC : Nat → ClassId} {dI : Nat → Nat → Nat} {ax am : Nat → Nat} {ca cm : Nat → ClassId} {tW : Nat} (hE : jE s) (hZ : va_Z "BookOfAll$Rules" "WITHOUT" "[I" (.ref tW) (fun q : Nat => s.heap.size ≤ q) s s.heap) (hT : va_T .int tW 14 (fun k => .int (jz_f k)) (fun q : Nat => s.heap.size ≤ q) s s.heap) (hK : va_K (dC, dI) vwCl (xT ca ++ mT cm) s) {H : Heap} {locs : List Loc} {ls : Array Slot} (hP : va_P (dC, dI) vwCl (xW ax ca ++ mW am cm) H) (hD : va_D (fun q : Nat => s.heap.size ≤ q) (xW ax ca ++ mW am cm)) (hS : va_S (fun q : Nat => s.heap.size ≤ q) s.heap H locs) (hl : lv_has ls 4 [(3, .int 0), (2, .ref (am 0)), (1, .ref (ax 0)), (0, .ref b)]) : W p l e room_1 s m #[Value.ref b] below meth c H locs 152 53404 (lw_Z below #[Value.ref b] s) (F0 m 1748 ls []) := by
  have C0 := C0
  obtain ⟨hx, hb, hr, hml, hown, hts, hX, hbl, hlocks, hgv⟩ := id C0
  have hA : ∀ q : Nat, s.heap.size ≤ q → (fun q : Nat => s.heap.size ≤ q) q := fun _ h => h
  have hbA : ¬ (fun q : Nat => s.heap.size ≤ q) b := Nat.not_le.mpr hbl
  refine lv_aload_n hx hb dL_law_1748 rfl (lv_at hl 2 rfl) ?_
  refine lv_aload_n hx hb dL_law_1749 rfl (lv_at hl 3 rfl) ?_
  refine lv_iload_n hx hb dL_law_1750 rfl (lv_at hl 0 rfl) ?_
  refine lv_iconst (v := 1) hx hb dL_law_1751 (by decide) ?_
  refine lv_iadd hx hb dL_law_1752 ?_
  refine jt_i 1 (by decide) ?_
  refine va_sld hx hb hX hbl hbA hS (vp_in_nI (n := 1) (by decide) (by decide)) dL_law_1753 ?_
  refine jt_i (xs 1) rfl ?_
  refine lv_aload_n hx hb dL_law_1754 rfl (lv_at hl 3 rfl) ?_
  refine lv_iload_n hx hb dL_law_1755 rfl (lv_at hl 0 rfl) ?_
  refine lv_iconst (v := 2) hx hb dL_law_1756 (by decide) ?_
  refine lv_iadd hx hb dL_law_1757 ?_
  refine jt_i 2 (by decide) ?_
  refine va_sld hx hb hX hbl hbA hS (vp_in_nI (n := 2) (by decide) (by decide)) dL_law_1758 ?_
  refine jt_i (xs 2) rfl ?_
  have hPs := jp_init hP
  have hDs := jd_init hD
  have hKs := jk_init hK
  refine jc_i (va_runV (As := [.int (xs 1), .int (xs 2)]) (rest := []) ⟨hx, hb, hml, hown, hts⟩ (tX12_is l dC dI _ ax ca (xs 1) (xs 2)) (cwV 2 hts (jgoodVL m_1040 m_1041 m_1042 m_210 m_1043) rfl rfl rfl (by decide +kernel) ⟨(Nat.le_of_ble_eq_true rfl), (Nat.le_of_ble_eq_true rfl)⟩) ⟨jw_blind, va_recv hKs hPs (ci := 12) (q0 := 0) rfl rfl, fun U hU hW => ⟨rfl, jw_of hU hW hPs hKs hDs⟩⟩ rfl rfl hl.1 rfl (lv_room (Nat.le_of_ble_eq_true rfl)) dL_law_1759 ⟨(Nat.le_of_ble_eq_true rfl), (Nat.le_of_ble_eq_true rfl)⟩) hP hS hA (fun r1 H locs hr1 hP hS => ?_)
  have hPm := jp_tail hP
  have hr1 : r1 = (-1) := hr1
  refine lv_aload_n hx hb dL_law_1762 rfl (lv_at hl 1 rfl) ?_
  refine lv_aload_n hx hb dL_law_1763 rfl (lv_at hl 3 rfl) ?_
  refine lv_iload_n hx hb dL_law_1764 rfl (lv_at hl 0 rfl) ?_
  refine lv_iconst (v := 1) hx hb dL_law_1765 (by decide) ?_
  refine lv_iadd hx hb dL_law_1766 ?_
  refine jt_i 1 (by decide) ?_
  refine va_sld hx hb hX hbl hbA hS (vp_in_nI (n := 1) (by decide) (by decide)) dL_law_1767 ?_
  refine jt_i (xs 1) rfl ?_
  refine lv_aload_n hx hb dL_law_1768 rfl (lv_at hl 3 rfl) ?_
  refine lv_iload_n hx hb dL_law_1769 rfl (lv_at hl 0 rfl) ?_
  refine lv_iconst (v := 2) hx hb dL_law_1770 (by decide) ?_
  refine lv_iadd hx hb dL_law_1771 ?_
  refine jt_i 2 (by decide) ?_
  refine va_sld hx hb hX hbl hbA hS (vp_in_nI (n := 2) (by decide) (by decide)) dL_law_1772 ?_
  refine jt_i (xs 2) rfl ?_
  have hPs := hPm
  have hDs := jd_tail hD
  have hKs := jk_tail hK
  refine jc_i (va_runV (As := [.int (xs 1), .int (xs 2)]) (rest := [.int r1]) ⟨hx, hb, hml, hown, hts⟩ (tX13_is l dC dI _ am cm (xs 1) (xs 2)) (cwV 2 hts (jgoodVL m_1044 m_1045 m_1046 m_96 m_1047) rfl rfl rfl (by decide +kernel) ⟨(Nat.le_of_ble_eq_true rfl), (Nat.le_of_ble_eq_true rfl)⟩) ⟨jw_blind, va_recv hKs hPs (ci := 13) (q0 := 0) rfl rfl, fun U hU hW => ⟨rfl, jw_of hU hW hPs hKs hDs⟩⟩ rfl rfl hl.1 rfl (lv_room (Nat.le_of_ble_eq_true rfl)) dL_law_1773 ⟨(Nat.le_of_ble_eq_true rfl), (Nat.le_of_ble_eq_true rfl)⟩) hPm hS hA (fun r2 H locs hr2 hPm hS => ?_)
  have hr2 : r2 = (-1) := hr2
  refine lv_icmp_eq (tgt := 1804) hx hb dL_law_1776 (by decide) (fun _ => ?_) (fun z => absurd (hr1.trans hr2.symm) z)
  exact lc_end C0 hS hl (Nat.le_of_ble_eq_true rfl) (Nat.le_of_ble_eq_true rfl)
set_option maxHeartbeats 4000000 in
set_option maxRecDepth 100000 in
theorem lc_47 {p : Program} {l : Launch} {e : Env} {s : State} {m : MethodId} {below : List Frame} {meth : Method} {c : Code} {b : Nat} {xs : Nat → Int32} (C0 : lw_At p s m meth c b 6 xs) {dC : Nat → ClassId} {dI : Nat → Nat → Nat} {ax am : Nat → Nat} {ca cm : Nat → ClassId} {tW : Nat} (hE : jE s) (hZ : va_Z "BookOfAll$Rules" "WITHOUT" "[I" (.ref tW) (fun q : Nat => s.heap.size ≤ q) s s.heap) (hT : va_T .int tW 14 (fun k => .int (jz_f k)) (fun q : Nat => s.heap.size ≤ q) s s.heap) (hK : va_K (dC, dI) vwCl (xT ca ++ mT cm) s) {H : Heap} {locs : List Loc} {ls : Array Slot} (hP : va_P (dC, dI) vwCl (xW ax ca ++ mW am cm) H) (hD : va_D (fun q : Nat => s.heap.size ≤ q) (xW ax ca ++ mW am cm)) (hS : va_S (fun q : Nat => s.heap.size ≤ q) s.heap H locs) (hl : lv_has ls 4 [(3, .int 0), (2, .ref (am 0)), (1, .ref (ax 0)), (0, .ref b)]) : W p l e room_1 s m #[Value.ref b] below meth c H locs 152 53404 (lw_Z below #[Value.ref b] s) (F0 m 1781 ls []) := by
  have C0 := C0
  obtain ⟨hx, hb, hr, hml, hown, hts, hX, hbl, hlocks, hgv⟩ := id C0
  have hA : ∀ q : Nat, s.heap.size ≤ q → (fun q : Nat => s.heap.size ≤ q) q := fun _ h => h
  have hbA : ¬ (fun q : Nat => s.heap.size ≤ q) b := Nat.not_le.mpr hbl
  refine lv_aload_n hx hb dL_law_1781 rfl (lv_at hl 2 rfl) ?_
  refine lv_aload_n hx hb dL_law_1782 rfl (lv_at hl 3 rfl) ?_
  refine lv_iload_n hx hb dL_law_1783 rfl (lv_at hl 0 rfl) ?_
  refine lv_iconst (v := 1) hx hb dL_law_1784 (by decide) ?_
  refine lv_iadd hx hb dL_law_1785 ?_
  refine jt_i 1 (by decide) ?_
  refine va_sld hx hb hX hbl hbA hS (vp_in_nI (n := 1) (by decide) (by decide)) dL_law_1786 ?_
  refine jt_i (xs 1) rfl ?_
  have hPs := jp_init hP
  have hDs := jd_init hD
  have hKs := jk_init hK
  refine jc_i (va_runV (As := [.int (xs 1)]) (rest := []) ⟨hx, hb, hml, hown, hts⟩ (tX12_count l dC dI _ ax ca (xs 1)) (cwV 1 hts (jgoodVL m_1048 m_1049 m_1050 m_210 m_1051) rfl rfl rfl (by decide +kernel) ⟨(Nat.le_of_ble_eq_true rfl), (Nat.le_of_ble_eq_true rfl)⟩) ⟨jw_blind, va_recv hKs hPs (ci := 12) (q0 := 0) rfl rfl, fun U hU hW => ⟨rfl, jw_of hU hW hPs hKs hDs⟩⟩ rfl rfl hl.1 rfl (lv_room (Nat.le_of_ble_eq_true rfl)) dL_law_1787 ⟨(Nat.le_of_ble_eq_true rfl), (Nat.le_of_ble_eq_true rfl)⟩) hP hS hA (fun r1 H locs hr1 hP hS => ?_)
  have hPm := jp_tail hP
  have hr1 : r1 = sp_count (xs 1) := hr1
  refine lv_aload_n hx hb dL_law_1790 rfl (lv_at hl 1 rfl) ?_
  refine lv_aload_n hx hb dL_law_1791 rfl (lv_at hl 3 rfl) ?_
  refine lv_iload_n hx hb dL_law_1792 rfl (lv_at hl 0 rfl) ?_
  refine lv_iconst (v := 1) hx hb dL_law_1793 (by decide) ?_
  refine lv_iadd hx hb dL_law_1794 ?_
  refine jt_i 1 (by decide) ?_
  refine va_sld hx hb hX hbl hbA hS (vp_in_nI (n := 1) (by decide) (by decide)) dL_law_1795 ?_
  refine jt_i (xs 1) rfl ?_
  have hPs := hPm
  have hDs := jd_tail hD
  have hKs := jk_tail hK
  refine jc_i (va_runV (As := [.int (xs 1)]) (rest := [.int r1]) ⟨hx, hb, hml, hown, hts⟩ (tX13_count l dC dI _ am cm (xs 1)) (cwV 1 hts (jgoodVL m_1052 m_1053 m_1054 m_96 m_1055) rfl rfl rfl (by decide +kernel) ⟨(Nat.le_of_ble_eq_true rfl), (Nat.le_of_ble_eq_true rfl)⟩) ⟨jw_blind, va_recv hKs hPs (ci := 13) (q0 := 0) rfl rfl, fun U hU hW => ⟨rfl, jw_of hU hW hPs hKs hDs⟩⟩ rfl rfl hl.1 rfl (lv_room (Nat.le_of_ble_eq_true rfl)) dL_law_1796 ⟨(Nat.le_of_ble_eq_true rfl), (Nat.le_of_ble_eq_true rfl)⟩) hPm hS hA (fun r2 H locs hr2 hPm hS => ?_)
  have hr2 : r2 = sp_count (xs 1) := hr2
  refine lv_icmp_eq (tgt := 1804) hx hb dL_law_1799 (by decide) (fun _ => ?_) (fun z => absurd (hr1.trans hr2.symm) z)
  exact lc_end C0 hS hl (Nat.le_of_ble_eq_true rfl) (Nat.le_of_ble_eq_true rfl)
