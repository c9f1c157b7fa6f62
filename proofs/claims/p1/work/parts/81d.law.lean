set_option maxHeartbeats 4000000 in
set_option maxRecDepth 100000 in
theorem lc_24 {p : Program} {l : Launch} {e : Env} {s : State} {m : MethodId} {below : List Frame} {meth : Method} {c : Code} {b : Nat} {xs : Nat → Int32} (C0 : lw_At p s m meth c b 6 xs) {dC : Nat → ClassId} {dI : Nat → Nat → Nat} {ax am : Nat → Nat} {ca cm : Nat → ClassId} {tW : Nat} (hE : jE s) (hZ : va_Z "BookOfAll$Rules" "WITHOUT" "[I" (.ref tW) (fun q : Nat => s.heap.size ≤ q) s s.heap) (hT : va_T .int tW 14 (fun k => .int (jz_f k)) (fun q : Nat => s.heap.size ≤ q) s s.heap) (hK : va_K (dC, dI) vwCl (xT ca ++ mT cm) s) {H : Heap} {locs : List Loc} {ls : Array Slot} (hP : va_P (dC, dI) vwCl (xW ax ca ++ mW am cm) H) (hD : va_D (fun q : Nat => s.heap.size ≤ q) (xW ax ca ++ mW am cm)) (hS : va_S (fun q : Nat => s.heap.size ≤ q) s.heap H locs) (hl : lv_has ls 4 [(3, .int 0), (2, .ref (am 0)), (1, .ref (ax 0)), (0, .ref b)]) : W p l e room_1 s m #[Value.ref b] below meth c H locs 152 53404 (lw_Z below #[Value.ref b] s) (F0 m 1062 ls []) := by
  have C0 := C0
  obtain ⟨hx, hb, hr, hml, hown, hts, hX, hbl, hlocks, hgv⟩ := id C0
  have hA : ∀ q : Nat, s.heap.size ≤ q → (fun q : Nat => s.heap.size ≤ q) q := fun _ h => h
  have hbA : ¬ (fun q : Nat => s.heap.size ≤ q) b := Nat.not_le.mpr hbl
  refine lv_aload_n hx hb dL_law_1062 rfl (lv_at hl 2 rfl) ?_
  refine lv_aload_n hx hb dL_law_1063 rfl (lv_at hl 3 rfl) ?_
  refine lv_iload_n hx hb dL_law_1064 rfl (lv_at hl 0 rfl) ?_
  refine lv_iconst (v := 1) hx hb dL_law_1065 (by decide) ?_
  refine lv_iadd hx hb dL_law_1066 ?_
  refine jt_i 1 (by decide) ?_
  refine va_sld hx hb hX hbl hbA hS (vp_in_nI (n := 1) (by decide) (by decide)) dL_law_1067 ?_
  refine jt_i (xs 1) rfl ?_
  refine lv_aload_n hx hb dL_law_1068 rfl (lv_at hl 3 rfl) ?_
  refine lv_iload_n hx hb dL_law_1069 rfl (lv_at hl 0 rfl) ?_
  refine lv_iconst (v := 2) hx hb dL_law_1070 (by decide) ?_
  refine lv_iadd hx hb dL_law_1071 ?_
  refine jt_i 2 (by decide) ?_
  refine va_sld hx hb hX hbl hbA hS (vp_in_nI (n := 2) (by decide) (by decide)) dL_law_1072 ?_
  refine jt_i (xs 2) rfl ?_
  refine lv_aload_n hx hb dL_law_1073 rfl (lv_at hl 3 rfl) ?_
  refine lv_iload_n hx hb dL_law_1074 rfl (lv_at hl 0 rfl) ?_
  refine lv_iconst (v := 3) hx hb dL_law_1075 (by decide) ?_
  refine lv_iadd hx hb dL_law_1076 ?_
  refine jt_i 3 (by decide) ?_
  refine va_sld hx hb hX hbl hbA hS (vp_in_nI (n := 3) (by decide) (by decide)) dL_law_1077 ?_
  refine jt_i (xs 3) rfl ?_
  have hPs := jp_init hP
  have hDs := jd_init hD
  have hKs := jk_init hK
  refine jc_i (va_runV (As := [.int (xs 1), .int (xs 2), .int (xs 3)]) (rest := []) ⟨hx, hb, hml, hown, hts⟩ (tX12_known l dC dI _ ax ca (xs 1) (xs 2) (xs 3)) (cwV 3 hts (jgoodVL m_864 m_865 m_866 m_210 m_867) rfl rfl rfl (by decide +kernel) ⟨(Nat.le_of_ble_eq_true rfl), (Nat.le_of_ble_eq_true rfl)⟩) ⟨jw_blind, va_recv hKs hPs (ci := 12) (q0 := 0) rfl rfl, fun U hU hW => ⟨rfl, jw_of hU hW hPs hKs hDs⟩⟩ rfl rfl hl.1 rfl (lv_room (Nat.le_of_ble_eq_true rfl)) dL_law_1078 ⟨(Nat.le_of_ble_eq_true rfl), (Nat.le_of_ble_eq_true rfl)⟩) hP hS hA (fun r1 H locs hr1 hP hS => ?_)
  have hPm := jp_tail hP
  have hr1 : r1 = (-1) := hr1
  refine lv_aload_n hx hb dL_law_1081 rfl (lv_at hl 1 rfl) ?_
  refine lv_aload_n hx hb dL_law_1082 rfl (lv_at hl 3 rfl) ?_
  refine lv_iload_n hx hb dL_law_1083 rfl (lv_at hl 0 rfl) ?_
  refine lv_iconst (v := 1) hx hb dL_law_1084 (by decide) ?_
  refine lv_iadd hx hb dL_law_1085 ?_
  refine jt_i 1 (by decide) ?_
  refine va_sld hx hb hX hbl hbA hS (vp_in_nI (n := 1) (by decide) (by decide)) dL_law_1086 ?_
  refine jt_i (xs 1) rfl ?_
  refine lv_aload_n hx hb dL_law_1087 rfl (lv_at hl 3 rfl) ?_
  refine lv_iload_n hx hb dL_law_1088 rfl (lv_at hl 0 rfl) ?_
  refine lv_iconst (v := 2) hx hb dL_law_1089 (by decide) ?_
  refine lv_iadd hx hb dL_law_1090 ?_
  refine jt_i 2 (by decide) ?_
  refine va_sld hx hb hX hbl hbA hS (vp_in_nI (n := 2) (by decide) (by decide)) dL_law_1091 ?_
  refine jt_i (xs 2) rfl ?_
  refine lv_aload_n hx hb dL_law_1092 rfl (lv_at hl 3 rfl) ?_
  refine lv_iload_n hx hb dL_law_1093 rfl (lv_at hl 0 rfl) ?_
  refine lv_iconst (v := 3) hx hb dL_law_1094 (by decide) ?_
  refine lv_iadd hx hb dL_law_1095 ?_
  refine jt_i 3 (by decide) ?_
  refine va_sld hx hb hX hbl hbA hS (vp_in_nI (n := 3) (by decide) (by decide)) dL_law_1096 ?_
  refine jt_i (xs 3) rfl ?_
  have hPs := hPm
  have hDs := jd_tail hD
  have hKs := jk_tail hK
  refine jc_i (va_runV (As := [.int (xs 1), .int (xs 2), .int (xs 3)]) (rest := [.int r1]) ⟨hx, hb, hml, hown, hts⟩ (tX13_known l dC dI _ am cm (xs 1) (xs 2) (xs 3)) (cwV 3 hts (jgoodVL m_868 m_869 m_870 m_96 m_871) rfl rfl rfl (by decide +kernel) ⟨(Nat.le_of_ble_eq_true rfl), (Nat.le_of_ble_eq_true rfl)⟩) ⟨jw_blind, va_recv hKs hPs (ci := 13) (q0 := 0) rfl rfl, fun U hU hW => ⟨rfl, jw_of hU hW hPs hKs hDs⟩⟩ rfl rfl hl.1 rfl (lv_room (Nat.le_of_ble_eq_true rfl)) dL_law_1097 ⟨(Nat.le_of_ble_eq_true rfl), (Nat.le_of_ble_eq_true rfl)⟩) hPm hS hA (fun r2 H locs hr2 hPm hS => ?_)
  have hr2 : r2 = (-1) := hr2
  refine lv_icmp_eq (tgt := 1804) hx hb dL_law_1100 (by decide) (fun _ => ?_) (fun z => absurd (hr1.trans hr2.symm) z)
  exact lc_end C0 hS hl (Nat.le_of_ble_eq_true rfl) (Nat.le_of_ble_eq_true rfl)
set_option maxHeartbeats 4000000 in
set_option maxRecDepth 100000 in
theorem lc_25 {p : Program} {l : Launch} {e : Env} {s : State} {m : MethodId} {below : List Frame} {meth : Method} {c : Code} {b : Nat} {xs : Nat → Int32} (C0 : lw_At p s m meth c b 6 xs) {dC : Nat → ClassId} {dI : Nat → Nat → Nat} {ax am : Nat → Nat} {ca cm : Nat → ClassId} {tW : Nat} (hE : jE s) (hZ : va_Z "BookOfAll$Rules" "WITHOUT" "[I" (.ref tW) (fun q : Nat => s.heap.size ≤ q) s s.heap) (hT : va_T .int tW 14 (fun k => .int (jz_f k)) (fun q : Nat => s.heap.size ≤ q) s s.heap) (hK : va_K (dC, dI) vwCl (xT ca ++ mT cm) s) {H : Heap} {locs : List Loc} {ls : Array Slot} (hP : va_P (dC, dI) vwCl (xW ax ca ++ mW am cm) H) (hD : va_D (fun q : Nat => s.heap.size ≤ q) (xW ax ca ++ mW am cm)) (hS : va_S (fun q : Nat => s.heap.size ≤ q) s.heap H locs) (hl : lv_has ls 4 [(3, .int 0), (2, .ref (am 0)), (1, .ref (ax 0)), (0, .ref b)]) : W p l e room_1 s m #[Value.ref b] below meth c H locs 152 53404 (lw_Z below #[Value.ref b] s) (F0 m 1105 ls []) := by
  have C0 := C0
  obtain ⟨hx, hb, hr, hml, hown, hts, hX, hbl, hlocks, hgv⟩ := id C0
  have hA : ∀ q : Nat, s.heap.size ≤ q → (fun q : Nat => s.heap.size ≤ q) q := fun _ h => h
  have hbA : ¬ (fun q : Nat => s.heap.size ≤ q) b := Nat.not_le.mpr hbl
  refine lv_aload_n hx hb dL_law_1105 rfl (lv_at hl 2 rfl) ?_
  refine lv_aload_n hx hb dL_law_1106 rfl (lv_at hl 3 rfl) ?_
  refine lv_iload_n hx hb dL_law_1107 rfl (lv_at hl 0 rfl) ?_
  refine lv_iconst (v := 1) hx hb dL_law_1108 (by decide) ?_
  refine lv_iadd hx hb dL_law_1109 ?_
  refine jt_i 1 (by decide) ?_
  refine va_sld hx hb hX hbl hbA hS (vp_in_nI (n := 1) (by decide) (by decide)) dL_law_1110 ?_
  refine jt_i (xs 1) rfl ?_
  refine lv_aload_n hx hb dL_law_1111 rfl (lv_at hl 3 rfl) ?_
  refine lv_iload_n hx hb dL_law_1112 rfl (lv_at hl 0 rfl) ?_
  refine lv_iconst (v := 2) hx hb dL_law_1113 (by decide) ?_
  refine lv_iadd hx hb dL_law_1114 ?_
  refine jt_i 2 (by decide) ?_
  refine va_sld hx hb hX hbl hbA hS (vp_in_nI (n := 2) (by decide) (by decide)) dL_law_1115 ?_
  refine jt_i (xs 2) rfl ?_
  have hPs := jp_init hP
  have hDs := jd_init hD
  have hKs := jk_init hK
  refine jc_i (va_runV (As := [.int (xs 1), .int (xs 2)]) (rest := []) ⟨hx, hb, hml, hown, hts⟩ (tX12_stale l dC dI _ ax ca (xs 1) (xs 2)) (cwV 2 hts (jgoodVL m_872 m_873 m_874 m_210 m_875) rfl rfl rfl (by decide +kernel) ⟨(Nat.le_of_ble_eq_true rfl), (Nat.le_of_ble_eq_true rfl)⟩) ⟨jw_blind, va_recv hKs hPs (ci := 12) (q0 := 0) rfl rfl, fun U hU hW => ⟨rfl, jw_of hU hW hPs hKs hDs⟩⟩ rfl rfl hl.1 rfl (lv_room (Nat.le_of_ble_eq_true rfl)) dL_law_1116 ⟨(Nat.le_of_ble_eq_true rfl), (Nat.le_of_ble_eq_true rfl)⟩) hP hS hA (fun r1 H locs hr1 hP hS => ?_)
  have hPm := jp_tail hP
  have hr1 : r1 = 0 := hr1
  refine lv_aload_n hx hb dL_law_1119 rfl (lv_at hl 1 rfl) ?_
  refine lv_aload_n hx hb dL_law_1120 rfl (lv_at hl 3 rfl) ?_
  refine lv_iload_n hx hb dL_law_1121 rfl (lv_at hl 0 rfl) ?_
  refine lv_iconst (v := 1) hx hb dL_law_1122 (by decide) ?_
  refine lv_iadd hx hb dL_law_1123 ?_
  refine jt_i 1 (by decide) ?_
  refine va_sld hx hb hX hbl hbA hS (vp_in_nI (n := 1) (by decide) (by decide)) dL_law_1124 ?_
  refine jt_i (xs 1) rfl ?_
  refine lv_aload_n hx hb dL_law_1125 rfl (lv_at hl 3 rfl) ?_
  refine lv_iload_n hx hb dL_law_1126 rfl (lv_at hl 0 rfl) ?_
  refine lv_iconst (v := 2) hx hb dL_law_1127 (by decide) ?_
  refine lv_iadd hx hb dL_law_1128 ?_
  refine jt_i 2 (by decide) ?_
  refine va_sld hx hb hX hbl hbA hS (vp_in_nI (n := 2) (by decide) (by decide)) dL_law_1129 ?_
  refine jt_i (xs 2) rfl ?_
  have hPs := hPm
  have hDs := jd_tail hD
  have hKs := jk_tail hK
  refine jc_i (va_runV (As := [.int (xs 1), .int (xs 2)]) (rest := [.int r1]) ⟨hx, hb, hml, hown, hts⟩ (tX13_stale l dC dI _ am cm (xs 1) (xs 2)) (cwV 2 hts (jgoodVL m_876 m_877 m_878 m_96 m_879) rfl rfl rfl (by decide +kernel) ⟨(Nat.le_of_ble_eq_true rfl), (Nat.le_of_ble_eq_true rfl)⟩) ⟨jw_blind, va_recv hKs hPs (ci := 13) (q0 := 0) rfl rfl, fun U hU hW => ⟨rfl, jw_of hU hW hPs hKs hDs⟩⟩ rfl rfl hl.1 rfl (lv_room (Nat.le_of_ble_eq_true rfl)) dL_law_1130 ⟨(Nat.le_of_ble_eq_true rfl), (Nat.le_of_ble_eq_true rfl)⟩) hPm hS hA (fun r2 H locs hr2 hPm hS => ?_)
  have hr2 : r2 = 0 := hr2
  refine lv_icmp_eq (tgt := 1804) hx hb dL_law_1133 (by decide) (fun _ => ?_) (fun z => absurd (hr1.trans hr2.symm) z)
  exact lc_end C0 hS hl (Nat.le_of_ble_eq_true rfl) (Nat.le_of_ble_eq_true rfl)
set_option maxHeartbeats 4000000 in
set_option maxRecDepth 100000 in
theorem lc_26 {p : Program} {l : Launch} {e : Env} {s : State} {m : MethodId} {below : List Frame} {meth : Method} {c : Code} {b : Nat} {xs : Nat → Int32} (C0 : lw_At p s m meth c b 6 xs) {dC : Nat → ClassId} {dI : Nat → Nat → Nat} {ax am : Nat → Nat} {ca cm : Nat → ClassId} {tW : Nat} (hE : jE s) (hZ : va_Z "BookOfAll$Rules" "WITHOUT" "[I" (.ref tW) (fun q : Nat => s.heap.size ≤ q) s s.heap) (hT : va_T .int tW 14 (fun k => .int (jz_f k)) (fun q : Nat => s.heap.size ≤ q) s s.heap) (hK : va_K (dC, dI) vwCl (xT ca ++ mT cm) s) {H : Heap} {locs : List Loc} {ls : Array Slot} (hP : va_P (dC, dI) vwCl (xW ax ca ++ mW am cm) H) (hD : va_D (fun q : Nat => s.heap.size ≤ q) (xW ax ca ++ mW am cm)) (hS : va_S (fun q : Nat => s.heap.size ≤ q) s.heap H locs) (hl : lv_has ls 4 [(3, .int 0), (2, .ref (am 0)), (1, .ref (ax 0)), (0, .ref b)]) : W p l e room_1 s m #[Value.ref b] below meth c H locs 152 53404 (lw_Z below #[Value.ref b] s) (F0 m 1138 ls []) := by
  have C0 := C0
  obtain ⟨hx, hb, hr, hml, hown, hts, hX, hbl, hlocks, hgv⟩ := id C0
  have hA : ∀ q : Nat, s.heap.size ≤ q → (fun q : Nat => s.heap.size ≤ q) q := fun _ h => h
  have hbA : ¬ (fun q : Nat => s.heap.size ≤ q) b := Nat.not_le.mpr hbl
  refine lv_aload_n hx hb dL_law_1138 rfl (lv_at hl 2 rfl) ?_
  refine lv_aload_n hx hb dL_law_1139 rfl (lv_at hl 3 rfl) ?_
  refine lv_iload_n hx hb dL_law_1140 rfl (lv_at hl 0 rfl) ?_
  refine lv_iconst (v := 1) hx hb dL_law_1141 (by decide) ?_
  refine lv_iadd hx hb dL_law_1142 ?_
  refine jt_i 1 (by decide) ?_
  refine va_sld hx hb hX hbl hbA hS (vp_in_nI (n := 1) (by decide) (by decide)) dL_law_1143 ?_
  refine jt_i (xs 1) rfl ?_
  have hPs := jp_init hP
  have hDs := jd_init hD
  have hKs := jk_init hK
  refine jc_i (va_runV (As := [.int (xs 1)]) (rest := []) ⟨hx, hb, hml, hown, hts⟩ (tX12_stales l dC dI _ ax ca (xs 1)) (cwV 1 hts (jgoodVL m_880 m_881 m_882 m_210 m_883) rfl rfl rfl (by decide +kernel) ⟨(Nat.le_of_ble_eq_true rfl), (Nat.le_of_ble_eq_true rfl)⟩) ⟨jw_blind, va_recv hKs hPs (ci := 12) (q0 := 0) rfl rfl, fun U hU hW => ⟨rfl, jw_of hU hW hPs hKs hDs⟩⟩ rfl rfl hl.1 rfl (lv_room (Nat.le_of_ble_eq_true rfl)) dL_law_1144 ⟨(Nat.le_of_ble_eq_true rfl), (Nat.le_of_ble_eq_true rfl)⟩) hP hS hA (fun r1 H locs hr1 hP hS => ?_)
  have hPm := jp_tail hP
  have hr1 : r1 = (-1) := hr1
  refine lv_aload_n hx hb dL_law_1147 rfl (lv_at hl 1 rfl) ?_
  refine lv_aload_n hx hb dL_law_1148 rfl (lv_at hl 3 rfl) ?_
  refine lv_iload_n hx hb dL_law_1149 rfl (lv_at hl 0 rfl) ?_
  refine lv_iconst (v := 1) hx hb dL_law_1150 (by decide) ?_
  refine lv_iadd hx hb dL_law_1151 ?_
  refine jt_i 1 (by decide) ?_
  refine va_sld hx hb hX hbl hbA hS (vp_in_nI (n := 1) (by decide) (by decide)) dL_law_1152 ?_
  refine jt_i (xs 1) rfl ?_
  have hPs := hPm
  have hDs := jd_tail hD
  have hKs := jk_tail hK
  refine jc_i (va_runV (As := [.int (xs 1)]) (rest := [.int r1]) ⟨hx, hb, hml, hown, hts⟩ (tX13_stales l dC dI _ am cm (xs 1)) (cwV 1 hts (jgoodVL m_884 m_885 m_886 m_96 m_887) rfl rfl rfl (by decide +kernel) ⟨(Nat.le_of_ble_eq_true rfl), (Nat.le_of_ble_eq_true rfl)⟩) ⟨jw_blind, va_recv hKs hPs (ci := 13) (q0 := 0) rfl rfl, fun U hU hW => ⟨rfl, jw_of hU hW hPs hKs hDs⟩⟩ rfl rfl hl.1 rfl (lv_room (Nat.le_of_ble_eq_true rfl)) dL_law_1153 ⟨(Nat.le_of_ble_eq_true rfl), (Nat.le_of_ble_eq_true rfl)⟩) hPm hS hA (fun r2 H locs hr2 hPm hS => ?_)
  have hr2 : r2 = (-1) := hr2
  refine lv_icmp_eq (tgt := 1804) hx hb dL_law_1156 (by decide) (fun _ => ?_) (fun z => absurd (hr1.trans hr2.symm) z)
  exact lc_end C0 hS hl (Nat.le_of_ble_eq_true rfl) (Nat.le_of_ble_eq_true rfl)
set_option maxHeartbeats 4000000 in
set_option maxRecDepth 100000 in
theorem lc_27 {p : Program} {l : Launch} {e : Env} {s : State} {m : MethodId} {below : List Frame} {meth : Method} {c : Code} {b : Nat} {xs : Nat → Int32} (C0 : lw_At p s m meth c b 6 xs) {dC : Nat → ClassId} {dI : Nat → Nat → Nat} {ax am : Nat → Nat} {ca cm : Nat → ClassId} {tW : Nat} (hE : jE s) (hZ : va_Z "BookOfAll$Rules" "WITHOUT" "[I" (.ref tW) (fun q : Nat => s.heap.size ≤ q) s s.heap) (hT : va_T .int tW 14 (fun k => .int (jz_f k)) (fun q : Nat => s.heap.size ≤ q) s s.heap) (hK : va_K (dC, dI) vwCl (xT ca ++ mT cm) s) {H : Heap} {locs : List Loc} {ls : Array Slot} (hP : va_P (dC, dI) vwCl (xW ax ca ++ mW am cm) H) (hD : va_D (fun q : Nat => s.heap.size ≤ q) (xW ax ca ++ mW am cm)) (hS : va_S (fun q : Nat => s.heap.size ≤ q) s.heap H locs) (hl : lv_has ls 4 [(3, .int 0), (2, .ref (am 0)), (1, .ref (ax 0)), (0, .ref b)]) : W p l e room_1 s m #[Value.ref b] below meth c H locs 152 53404 (lw_Z below #[Value.ref b] s) (F0 m 1161 ls []) := by
  have C0 := C0
  obtain ⟨hx, hb, hr, hml, hown, hts, hX, hbl, hlocks, hgv⟩ := id C0
  have hA : ∀ q : Nat, s.heap.size ≤ q → (fun q : Nat => s.heap.size ≤ q) q := fun _ h => h
  have hbA : ¬ (fun q : Nat => s.heap.size ≤ q) b := Nat.not_le.mpr hbl
  refine lv_aload_n hx hb dL_law_1161 rfl (lv_at hl 2 rfl) ?_
  refine lv_aload_n hx hb dL_law_1162 rfl (lv_at hl 3 rfl) ?_
  refine lv_iload_n hx hb dL_law_1163 rfl (lv_at hl 0 rfl) ?_
  refine lv_iconst (v := 1) hx hb dL_law_1164 (by decide) ?_
  refine lv_iadd hx hb dL_law_1165 ?_
  refine jt_i 1 (by decide) ?_
  refine va_sld hx hb hX hbl hbA hS (vp_in_nI (n := 1) (by decide) (by decide)) dL_law_1166 ?_
  refine jt_i (xs 1) rfl ?_
  have hPs := jp_init hP
  have hDs := jd_init hD
  have hKs := jk_init hK
  refine jc_i (va_runV (As := [.int (xs 1)]) (rest := []) ⟨hx, hb, hml, hown, hts⟩ (tX12_mend l dC dI _ ax ca (xs 1)) (cwV 1 hts (jgoodVL m_888 m_889 m_890 m_210 m_891) rfl rfl rfl (by decide +kernel) ⟨(Nat.le_of_ble_eq_true rfl), (Nat.le_of_ble_eq_true rfl)⟩) ⟨jw_blind, va_recv hKs hPs (ci := 12) (q0 := 0) rfl rfl, fun U hU hW => ⟨rfl, jw_of hU hW hPs hKs hDs⟩⟩ rfl rfl hl.1 rfl (lv_room (Nat.le_of_ble_eq_true rfl)) dL_law_1167 ⟨(Nat.le_of_ble_eq_true rfl), (Nat.le_of_ble_eq_true rfl)⟩) hP hS hA (fun r1 H locs hr1 hP hS => ?_)
  have hPm := jp_tail hP
  have hr1 : r1 = (-1) := hr1
  refine lv_aload_n hx hb dL_law_1170 rfl (lv_at hl 1 rfl) ?_
  refine lv_aload_n hx hb dL_law_1171 rfl (lv_at hl 3 rfl) ?_
  refine lv_iload_n hx hb dL_law_1172 rfl (lv_at hl 0 rfl) ?_
  refine lv_iconst (v := 1) hx hb dL_law_1173 (by decide) ?_
  refine lv_iadd hx hb dL_law_1174 ?_
  refine jt_i 1 (by decide) ?_
  refine va_sld hx hb hX hbl hbA hS (vp_in_nI (n := 1) (by decide) (by decide)) dL_law_1175 ?_
  refine jt_i (xs 1) rfl ?_
  have hPs := hPm
  have hDs := jd_tail hD
  have hKs := jk_tail hK
  refine jc_i (va_runV (As := [.int (xs 1)]) (rest := [.int r1]) ⟨hx, hb, hml, hown, hts⟩ (tX13_mend l dC dI _ am cm (xs 1)) (cwV 1 hts (jgoodVL m_892 m_893 m_894 m_96 m_895) rfl rfl rfl (by decide +kernel) ⟨(Nat.le_of_ble_eq_true rfl), (Nat.le_of_ble_eq_true rfl)⟩) ⟨jw_blind, va_recv hKs hPs (ci := 13) (q0 := 0) rfl rfl, fun U hU hW => ⟨rfl, jw_of hU hW hPs hKs hDs⟩⟩ rfl rfl hl.1 rfl (lv_room (Nat.le_of_ble_eq_true rfl)) dL_law_1176 ⟨(Nat.le_of_ble_eq_true rfl), (Nat.le_of_ble_eq_true rfl)⟩) hPm hS hA (fun r2 H locs hr2 hPm hS => ?_)
  have hr2 : r2 = (-1) := hr2
  refine lv_icmp_eq (tgt := 1804) hx hb dL_law_1179 (by decide) (fun _ => ?_) (fun z => absurd (hr1.trans hr2.symm) z)
  exact lc_end C0 hS hl (Nat.le_of_ble_eq_true rfl) (Nat.le_of_ble_eq_true rfl)
set_option maxHeartbeats 4000000 in
set_option maxRecDepth 100000 in
theorem lc_28 {p : Program} {l : Launch} {e : Env} {s : State} {m : MethodId} {below : List Frame} {meth : Method} {c : Code} {b : Nat} {xs : Nat → Int32} (C0 : lw_At p s m meth c b 6 xs) {dC : Nat → ClassId} {dI : Nat → Nat → Nat} {ax am : Nat → Nat} {ca cm : Nat → ClassId} {tW : Nat} (hE : jE s) (hZ : va_Z "BookOfAll$Rules" "WITHOUT" "[I" (.ref tW) (fun q : Nat => s.heap.size ≤ q) s s.heap) (hT : va_T .int tW 14 (fun k => .int (jz_f k)) (fun q : Nat => s.heap.size ≤ q) s s.heap) (hK : va_K (dC, dI) vwCl (xT ca ++ mT cm) s) {H : Heap} {locs : List Loc} {ls : Array Slot} (hP : va_P (dC, dI) vwCl (xW ax ca ++ mW am cm) H) (hD : va_D (fun q : Nat => s.heap.size ≤ q) (xW ax ca ++ mW am cm)) (hS : va_S (fun q : Nat => s.heap.size ≤ q) s.heap H locs) (hl : lv_has ls 4 [(3, .int 0), (2, .ref (am 0)), (1, .ref (ax 0)), (0, .ref b)]) : W p l e room_1 s m #[Value.ref b] below meth c H locs 152 53404 (lw_Z below #[Value.ref b] s) (F0 m 1184 ls []) := by
  have C0 := C0
  obtain ⟨hx, hb, hr, hml, hown, hts, hX, hbl, hlocks, hgv⟩ := id C0
  have hA : ∀ q : Nat, s.heap.size ≤ q → (fun q : Nat => s.heap.size ≤ q) q := fun _ h => h
  have hbA : ¬ (fun q : Nat => s.heap.size ≤ q) b := Nat.not_le.mpr hbl
  refine lv_aload_n hx hb dL_law_1184 rfl (lv_at hl 2 rfl) ?_
  refine lv_aload_n hx hb dL_law_1185 rfl (lv_at hl 3 rfl) ?_
  refine lv_iload_n hx hb dL_law_1186 rfl (lv_at hl 0 rfl) ?_
  refine lv_iconst (v := 1) hx hb dL_law_1187 (by decide) ?_
  refine lv_iadd hx hb dL_law_1188 ?_
  refine jt_i 1 (by decide) ?_
  refine va_sld hx hb hX hbl hbA hS (vp_in_nI (n := 1) (by decide) (by decide)) dL_law_1189 ?_
  refine jt_i (xs 1) rfl ?_
  refine lv_aload_n hx hb dL_law_1190 rfl (lv_at hl 3 rfl) ?_
  refine lv_iload_n hx hb dL_law_1191 rfl (lv_at hl 0 rfl) ?_
  refine lv_iconst (v := 2) hx hb dL_law_1192 (by decide) ?_
  refine lv_iadd hx hb dL_law_1193 ?_
  refine jt_i 2 (by decide) ?_
  refine va_sld hx hb hX hbl hbA hS (vp_in_nI (n := 2) (by decide) (by decide)) dL_law_1194 ?_
  refine jt_i (xs 2) rfl ?_
  refine lv_aload_n hx hb dL_law_1195 rfl (lv_at hl 3 rfl) ?_
  refine lv_iload_n hx hb dL_law_1196 rfl (lv_at hl 0 rfl) ?_
  refine lv_iconst (v := 3) hx hb dL_law_1197 (by decide) ?_
  refine lv_iadd hx hb dL_law_1198 ?_
  refine jt_i 3 (by decide) ?_
  refine va_sld hx hb hX hbl hbA hS (vp_in_nI (n := 3) (by decide) (by decide)) dL_law_1199 ?_
  refine jt_i (xs 3) rfl ?_
  have hPs := jp_init hP
  have hDs := jd_init hD
  have hKs := jk_init hK
  refine jc_i (va_runV (As := [.int (xs 1), .int (xs 2), .int (xs 3)]) (rest := []) ⟨hx, hb, hml, hown, hts⟩ (tX12_erratum l dC dI _ ax ca (xs 1) (xs 2) (xs 3)) (cwV 3 hts (jgoodVL m_896 m_897 m_898 m_210 m_899) rfl rfl rfl (by decide +kernel) ⟨(Nat.le_of_ble_eq_true rfl), (Nat.le_of_ble_eq_true rfl)⟩) ⟨jw_blind, va_recv hKs hPs (ci := 12) (q0 := 0) rfl rfl, fun U hU hW => ⟨rfl, jw_of hU hW hPs hKs hDs⟩⟩ rfl rfl hl.1 rfl (lv_room (Nat.le_of_ble_eq_true rfl)) dL_law_1200 ⟨(Nat.le_of_ble_eq_true rfl), (Nat.le_of_ble_eq_true rfl)⟩) hP hS hA (fun r1 H locs hr1 hP hS => ?_)
  have hPm := jp_tail hP
  have hr1 : r1 = (-1) := hr1
  refine lv_aload_n hx hb dL_law_1203 rfl (lv_at hl 1 rfl) ?_
  refine lv_aload_n hx hb dL_law_1204 rfl (lv_at hl 3 rfl) ?_
  refine lv_iload_n hx hb dL_law_1205 rfl (lv_at hl 0 rfl) ?_
  refine lv_iconst (v := 1) hx hb dL_law_1206 (by decide) ?_
  refine lv_iadd hx hb dL_law_1207 ?_
  refine jt_i 1 (by decide) ?_
  refine va_sld hx hb hX hbl hbA hS (vp_in_nI (n := 1) (by decide) (by decide)) dL_law_1208 ?_
  refine jt_i (xs 1) rfl ?_
  refine lv_aload_n hx hb dL_law_1209 rfl (lv_at hl 3 rfl) ?_
  refine lv_iload_n hx hb dL_law_1210 rfl (lv_at hl 0 rfl) ?_
  refine lv_iconst (v := 2) hx hb dL_law_1211 (by decide) ?_
  refine lv_iadd hx hb dL_law_1212 ?_
  refine jt_i 2 (by decide) ?_
  refine va_sld hx hb hX hbl hbA hS (vp_in_nI (n := 2) (by decide) (by decide)) dL_law_1213 ?_
  refine jt_i (xs 2) rfl ?_
  refine lv_aload_n hx hb dL_law_1214 rfl (lv_at hl 3 rfl) ?_
  refine lv_iload_n hx hb dL_law_1215 rfl (lv_at hl 0 rfl) ?_
  refine lv_iconst (v := 3) hx hb dL_law_1216 (by decide) ?_
  refine lv_iadd hx hb dL_law_1217 ?_
  refine jt_i 3 (by decide) ?_
  refine va_sld hx hb hX hbl hbA hS (vp_in_nI (n := 3) (by decide) (by decide)) dL_law_1218 ?_
  refine jt_i (xs 3) rfl ?_
  have hPs := hPm
  have hDs := jd_tail hD
  have hKs := jk_tail hK
  refine jc_i (va_runV (As := [.int (xs 1), .int (xs 2), .int (xs 3)]) (rest := [.int r1]) ⟨hx, hb, hml, hown, hts⟩ (tX13_erratum l dC dI _ am cm (xs 1) (xs 2) (xs 3)) (cwV 3 hts (jgoodVL m_900 m_901 m_902 m_96 m_903) rfl rfl rfl (by decide +kernel) ⟨(Nat.le_of_ble_eq_true rfl), (Nat.le_of_ble_eq_true rfl)⟩) ⟨jw_blind, va_recv hKs hPs (ci := 13) (q0 := 0) rfl rfl, fun U hU hW => ⟨rfl, jw_of hU hW hPs hKs hDs⟩⟩ rfl rfl hl.1 rfl (lv_room (Nat.le_of_ble_eq_true rfl)) dL_law_1219 ⟨(Nat.le_of_ble_eq_true rfl), (Nat.le_of_ble_eq_true rfl)⟩) hPm hS hA (fun r2 H locs hr2 hPm hS => ?_)
  have hr2 : r2 = (-1) := hr2
  refine lv_icmp_eq (tgt := 1804) hx hb dL_law_1222 (by decide) (fun _ => ?_) (fun z => absurd (hr1.trans hr2.symm) z)
  exact lc_end C0 hS hl (Nat.le_of_ble_eq_true rfl) (Nat.le_of_ble_eq_true rfl)
set_option maxHeartbeats 4000000 in
set_option maxRecDepth 100000 in
theorem lc_29 {p : Program} {l : Launch} {e : Env} {s : State} {m : MethodId} {below : List Frame} {meth : Method} {c : Code} {b : Nat} {xs : Nat → Int32} (C0 : lw_At p s m meth c b 6 xs) {dC : Nat → ClassId} {dI : Nat → Nat → Nat} {ax am : Nat → Nat} {ca cm : Nat → ClassId} {tW : Nat} (hE : jE s) (hZ : va_Z "BookOfAll$Rules" "WITHOUT" "[I" (.ref tW) (fun q : Nat => s.heap.size ≤ q) s s.heap) (hT : va_T .int tW 14 (fun k => .int (jz_f k)) (fun q : Nat => s.heap.size ≤ q) s s.heap) (hK : va_K (dC, dI) vwCl (xT ca ++ mT cm) s) {H : Heap} {locs : List Loc} {ls : Array Slot} (hP : va_P (dC, dI) vwCl (xW ax ca ++ mW am cm) H) (hD : va_D (fun q : Nat => s.heap.size ≤ q) (xW ax ca ++ mW am cm)) (hS : va_S (fun q : Nat => s.heap.size ≤ q) s.heap H locs) (hl : lv_has ls 4 [(3, .int 0), (2, .ref (am 0)), (1, .ref (ax 0)), (0, .ref b)]) : W p l e room_1 s m #[Value.ref b] below meth c H locs 152 53404 (lw_Z below #[Value.ref b] s) (F0 m 1227 ls []) := by
  have C0 := C0
  obtain ⟨hx, hb, hr, hml, hown, hts, hX, hbl, hlocks, hgv⟩ := id C0
  have hA : ∀ q : Nat, s.heap.size ≤ q → (fun q : Nat => s.heap.size ≤ q) q := fun _ h => h
  have hbA : ¬ (fun q : Nat => s.heap.size ≤ q) b := Nat.not_le.mpr hbl
  refine lv_aload_n hx hb dL_law_1227 rfl (lv_at hl 2 rfl) ?_
  refine lv_aload_n hx hb dL_law_1228 rfl (lv_at hl 3 rfl) ?_
  refine lv_iload_n hx hb dL_law_1229 rfl (lv_at hl 0 rfl) ?_
  refine lv_iconst (v := 1) hx hb dL_law_1230 (by decide) ?_
  refine lv_iadd hx hb dL_law_1231 ?_
  refine jt_i 1 (by decide) ?_
  refine va_sld hx hb hX hbl hbA hS (vp_in_nI (n := 1) (by decide) (by decide)) dL_law_1232 ?_
  refine jt_i (xs 1) rfl ?_
  have hPs := jp_init hP
  have hDs := jd_init hD
  have hKs := jk_init hK
  refine jc_i (va_runV (As := [.int (xs 1)]) (rest := []) ⟨hx, hb, hml, hown, hts⟩ (tX12_misses l dC dI _ ax ca (xs 1)) (cwV 1 hts (jgoodVL m_904 m_905 m_906 m_210 m_907) rfl rfl rfl (by decide +kernel) ⟨(Nat.le_of_ble_eq_true rfl), (Nat.le_of_ble_eq_true rfl)⟩) ⟨jw_blind, va_recv hKs hPs (ci := 12) (q0 := 0) rfl rfl, fun U hU hW => ⟨rfl, jw_of hU hW hPs hKs hDs⟩⟩ rfl rfl hl.1 rfl (lv_room (Nat.le_of_ble_eq_true rfl)) dL_law_1233 ⟨(Nat.le_of_ble_eq_true rfl), (Nat.le_of_ble_eq_true rfl)⟩) hP hS hA (fun r1 H locs hr1 hP hS => ?_)
  have hPm := jp_tail hP
  have hr1 : r1 = (-1) := hr1
  refine lv_aload_n hx hb dL_law_1236 rfl (lv_at hl 1 rfl) ?_
  refine lv_aload_n hx hb dL_law_1237 rfl (lv_at hl 3 rfl) ?_
  refine lv_iload_n hx hb dL_law_1238 rfl (lv_at hl 0 rfl) ?_
  refine lv_iconst (v := 1) hx hb dL_law_1239 (by decide) ?_
  refine lv_iadd hx hb dL_law_1240 ?_
  refine jt_i 1 (by decide) ?_
  refine va_sld hx hb hX hbl hbA hS (vp_in_nI (n := 1) (by decide) (by decide)) dL_law_1241 ?_
  refine jt_i (xs 1) rfl ?_
  have hPs := hPm
  have hDs := jd_tail hD
  have hKs := jk_tail hK
  refine jc_i (va_runV (As := [.int (xs 1)]) (rest := [.int r1]) ⟨hx, hb, hml, hown, hts⟩ (tX13_misses l dC dI _ am cm (xs 1)) (cwV 1 hts (jgoodVL m_908 m_909 m_910 m_96 m_911) rfl rfl rfl (by decide +kernel) ⟨(Nat.le_of_ble_eq_true rfl), (Nat.le_of_ble_eq_true rfl)⟩) ⟨jw_blind, va_recv hKs hPs (ci := 13) (q0 := 0) rfl rfl, fun U hU hW => ⟨rfl, jw_of hU hW hPs hKs hDs⟩⟩ rfl rfl hl.1 rfl (lv_room (Nat.le_of_ble_eq_true rfl)) dL_law_1242 ⟨(Nat.le_of_ble_eq_true rfl), (Nat.le_of_ble_eq_true rfl)⟩) hPm hS hA (fun r2 H locs hr2 hPm hS => ?_)
  have hr2 : r2 = (-1) := hr2
  refine lv_icmp_eq (tgt := 1804) hx hb dL_law_1245 (by decide) (fun _ => ?_) (fun z => absurd (hr1.trans hr2.symm) z)
  exact lc_end C0 hS hl (Nat.le_of_ble_eq_true rfl) (Nat.le_of_ble_eq_true rfl)
set_option maxHeartbeats 4000000 in
set_option maxRecDepth 100000 in
theorem lc_30 {p : Program} {l : Launch} {e : Env} {s : State} {m : MethodId} {below : List Frame} {meth : Method} {c : Code} {b : Nat} {xs : Nat → Int32} (C0 : lw_At p s m meth c b 6 xs) {dC : Nat → ClassId} {dI : Nat → Nat → Nat} {ax am : Nat → Nat} {ca cm : Nat → ClassId} {tW : Nat} (hE : jE s) (hZ : va_Z "BookOfAll$Rules" "WITHOUT" "[I" (.ref tW) (fun q : Nat => s.heap.size ≤ q) s s.heap) (hT : va_T .int tW 14 (fun k => .int (jz_f k)) (fun q : Nat => s.heap.size ≤ q) s s.heap) (hK : va_K (dC, dI) vwCl (xT ca ++ mT cm) s) {H : Heap} {locs : List Loc} {ls : Array Slot} (hP : va_P (dC, dI) vwCl (xW ax ca ++ mW am cm) H) (hD : va_D (fun q : Nat => s.heap.size ≤ q) (xW ax ca ++ mW am cm)) (hS : va_S (fun q : Nat => s.heap.size ≤ q) s.heap H locs) (hl : lv_has ls 4 [(3, .int 0), (2, .ref (am 0)), (1, .ref (ax 0)), (0, .ref b)]) : W p l e room_1 s m #[Value.ref b] below meth c H locs 152 53404 (lw_Z below #[Value.ref b] s) (F0 m 1250 ls []) := by
  have C0 := C0
  obtain ⟨hx, hb, hr, hml, hown, hts, hX, hbl, hlocks, hgv⟩ := id C0
  have hA : ∀ q : Nat, s.heap.size ≤ q → (fun q : Nat => s.heap.size ≤ q) q := fun _ h => h
  have hbA : ¬ (fun q : Nat => s.heap.size ≤ q) b := Nat.not_le.mpr hbl
  refine lv_aload_n hx hb dL_law_1250 rfl (lv_at hl 2 rfl) ?_
  refine lv_aload_n hx hb dL_law_1251 rfl (lv_at hl 3 rfl) ?_
  refine lv_iload_n hx hb dL_law_1252 rfl (lv_at hl 0 rfl) ?_
  refine lv_iconst (v := 1) hx hb dL_law_1253 (by decide) ?_
  refine lv_iadd hx hb dL_law_1254 ?_
  refine jt_i 1 (by decide) ?_
  refine va_sld hx hb hX hbl hbA hS (vp_in_nI (n := 1) (by decide) (by decide)) dL_law_1255 ?_
  refine jt_i (xs 1) rfl ?_
  refine lv_aload_n hx hb dL_law_1256 rfl (lv_at hl 3 rfl) ?_
  refine lv_iload_n hx hb dL_law_1257 rfl (lv_at hl 0 rfl) ?_
  refine lv_iconst (v := 2) hx hb dL_law_1258 (by decide) ?_
  refine lv_iadd hx hb dL_law_1259 ?_
  refine jt_i 2 (by decide) ?_
  refine va_sld hx hb hX hbl hbA hS (vp_in_nI (n := 2) (by decide) (by decide)) dL_law_1260 ?_
  refine jt_i (xs 2) rfl ?_
  have hPs := jp_init hP
  have hDs := jd_init hD
  have hKs := jk_init hK
  refine jc_i (va_runV (As := [.int (xs 1), .int (xs 2)]) (rest := []) ⟨hx, hb, hml, hown, hts⟩ (tX12_told l dC dI _ ax ca (xs 1) (xs 2)) (cwV 2 hts (jgoodVL m_912 m_913 m_914 m_210 m_915) rfl rfl rfl (by decide +kernel) ⟨(Nat.le_of_ble_eq_true rfl), (Nat.le_of_ble_eq_true rfl)⟩) ⟨jw_blind, va_recv hKs hPs (ci := 12) (q0 := 0) rfl rfl, fun U hU hW => ⟨rfl, jw_of hU hW hPs hKs hDs⟩⟩ rfl rfl hl.1 rfl (lv_room (Nat.le_of_ble_eq_true rfl)) dL_law_1261 ⟨(Nat.le_of_ble_eq_true rfl), (Nat.le_of_ble_eq_true rfl)⟩) hP hS hA (fun r1 H locs hr1 hP hS => ?_)
  have hPm := jp_tail hP
  have hr1 : r1 = (-1) := hr1
  refine lv_aload_n hx hb dL_law_1264 rfl (lv_at hl 1 rfl) ?_
  refine lv_aload_n hx hb dL_law_1265 rfl (lv_at hl 3 rfl) ?_
  refine lv_iload_n hx hb dL_law_1266 rfl (lv_at hl 0 rfl) ?_
  refine lv_iconst (v := 1) hx hb dL_law_1267 (by decide) ?_
  refine lv_iadd hx hb dL_law_1268 ?_
  refine jt_i 1 (by decide) ?_
  refine va_sld hx hb hX hbl hbA hS (vp_in_nI (n := 1) (by decide) (by decide)) dL_law_1269 ?_
  refine jt_i (xs 1) rfl ?_
  refine lv_aload_n hx hb dL_law_1270 rfl (lv_at hl 3 rfl) ?_
  refine lv_iload_n hx hb dL_law_1271 rfl (lv_at hl 0 rfl) ?_
  refine lv_iconst (v := 2) hx hb dL_law_1272 (by decide) ?_
  refine lv_iadd hx hb dL_law_1273 ?_
  refine jt_i 2 (by decide) ?_
  refine va_sld hx hb hX hbl hbA hS (vp_in_nI (n := 2) (by decide) (by decide)) dL_law_1274 ?_
  refine jt_i (xs 2) rfl ?_
  have hPs := hPm
  have hDs := jd_tail hD
  have hKs := jk_tail hK
  refine jc_i (va_runV (As := [.int (xs 1), .int (xs 2)]) (rest := [.int r1]) ⟨hx, hb, hml, hown, hts⟩ (tX13_told l dC dI _ am cm (xs 1) (xs 2)) (cwV 2 hts (jgoodVL m_916 m_917 m_918 m_96 m_919) rfl rfl rfl (by decide +kernel) ⟨(Nat.le_of_ble_eq_true rfl), (Nat.le_of_ble_eq_true rfl)⟩) ⟨jw_blind, va_recv hKs hPs (ci := 13) (q0 := 0) rfl rfl, fun U hU hW => ⟨rfl, jw_of hU hW hPs hKs hDs⟩⟩ rfl rfl hl.1 rfl (lv_room (Nat.le_of_ble_eq_true rfl)) dL_law_1275 ⟨(Nat.le_of_ble_eq_true rfl), (Nat.le_of_ble_eq_true rfl)⟩) hPm hS hA (fun r2 H locs hr2 hPm hS => ?_)
  have hr2 : r2 = (-1) := hr2
  refine lv_icmp_eq (tgt := 1804) hx hb dL_law_1278 (by decide) (fun _ => ?_) (fun z => absurd (hr1.trans hr2.symm) z)
  exact lc_end C0 hS hl (Nat.le_of_ble_eq_true rfl) (Nat.le_of_ble_eq_true rfl)
set_option maxHeartbeats 4000000 in
set_option maxRecDepth 100000 in
theorem lc_31 {p : Program} {l : Launch} {e : Env} {s : State} {m : MethodId} {below : List Frame} {meth : Method} {c : Code} {b : Nat} {xs : Nat → Int32} (C0 : lw_At p s m meth c b 6 xs) {dC : Nat → ClassId} {dI : Nat → Nat → Nat} {ax am : Nat → Nat} {ca cm : Nat → ClassId} {tW : Nat} (hE : jE s) (hZ : va_Z "BookOfAll$Rules" "WITHOUT" "[I" (.ref tW) (fun q : Nat => s.heap.size ≤ q) s s.heap) (hT : va_T .int tW 14 (fun k => .int (jz_f k)) (fun q : Nat => s.heap.size ≤ q) s s.heap) (hK : va_K (dC, dI) vwCl (xT ca ++ mT cm) s) {H : Heap} {locs : List Loc} {ls : Array Slot} (hP : va_P (dC, dI) vwCl (xW ax ca ++ mW am cm) H) (hD : va_D (fun q : Nat => s.heap.size ≤ q) (xW ax ca ++ mW am cm)) (hS : va_S (fun q : Nat => s.heap.size ≤ q) s.heap H locs) (hl : lv_has ls 4 [(3, .int 0), (2, .ref (am 0)), (1, .ref (ax 0)), (0, .ref b)]) : W p l e room_1 s m #[Value.ref b] below meth c H locs 152 53404 (lw_Z below #[Value.ref b] s) (F0 m 1283 ls []) := by
  have C0 := C0
  obtain ⟨hx, hb, hr, hml, hown, hts, hX, hbl, hlocks, hgv⟩ := id C0
  have hA : ∀ q : Nat, s.heap.size ≤ q → (fun q : Nat => s.heap.size ≤ q) q := fun _ h => h
  have hbA : ¬ (fun q : Nat => s.heap.size ≤ q) b := Nat.not_le.mpr hbl
  rcases jv6 (xs 1) with h | h | h | h | h | h | h | h
  · refine lv_aload_n hx hb dL_law_1283 rfl (lv_at hl 2 rfl) ?_
    refine lv_aload_n hx hb dL_law_1284 rfl (lv_at hl 3 rfl) ?_
    refine lv_iload_n hx hb dL_law_1285 rfl (lv_at hl 0 rfl) ?_
    refine lv_iconst (v := 1) hx hb dL_law_1286 (by decide) ?_
    refine lv_iadd hx hb dL_law_1287 ?_
    refine jt_i 1 (by decide) ?_
    refine va_sld hx hb hX hbl hbA hS (vp_in_nI (n := 1) (by decide) (by decide)) dL_law_1288 ?_
    refine jt_i (xs 1) rfl ?_
    have hPs := jp_init hP
    have hDs := jd_init hD
    have hKs := jk_init hK
    refine jc_i (va_runV (As := [.int (xs 1)]) (rest := []) ⟨hx, hb, hml, hown, hts⟩ (tX12_set_lo l dC dI _ ax ca (xs 1) h) (cwV 1 hts (jgoodVL m_920 m_921 m_922 m_210 m_923) rfl rfl rfl (by decide +kernel) ⟨(Nat.le_of_ble_eq_true rfl), (Nat.le_of_ble_eq_true rfl)⟩) ⟨jw_blind, va_recv hKs hPs (ci := 12) (q0 := 0) rfl rfl, fun U hU hW => ⟨rfl, jw_of hU hW hPs hKs hDs⟩⟩ rfl rfl hl.1 rfl (lv_room (Nat.le_of_ble_eq_true rfl)) dL_law_1289 ⟨(Nat.le_of_ble_eq_true rfl), (Nat.le_of_ble_eq_true rfl)⟩) hP hS hA (fun r1 H locs hr1 hP hS => ?_)
    have hPm := jp_tail hP
    have hr1 : r1 = sp_set (xs 1) := hr1
    refine lv_aload_n hx hb dL_law_1292 rfl (lv_at hl 1 rfl) ?_
    refine lv_aload_n hx hb dL_law_1293 rfl (lv_at hl 3 rfl) ?_
    refine lv_iload_n hx hb dL_law_1294 rfl (lv_at hl 0 rfl) ?_
    refine lv_iconst (v := 1) hx hb dL_law_1295 (by decide) ?_
    refine lv_iadd hx hb dL_law_1296 ?_
    refine jt_i 1 (by decide) ?_
    refine va_sld hx hb hX hbl hbA hS (vp_in_nI (n := 1) (by decide) (by decide)) dL_law_1297 ?_
    refine jt_i (xs 1) rfl ?_
    have hPs := hPm
    have hDs := jd_tail hD
    have hKs := jk_tail hK
    refine jcy_i (va_runV (As := [.int (xs 1)]) (rest := [.int r1]) ⟨hx, hb, hml, hown, hts⟩ (tX13_set l dC dI _ am cm (xs 1)) (cwV 1 hts (jgoodVL m_924 m_925 m_926 m_96 m_927) rfl rfl rfl (by decide +kernel) ⟨(Nat.le_of_ble_eq_true rfl), (Nat.le_of_ble_eq_true rfl)⟩) ⟨jw_blind, va_recv hKs hPs (ci := 13) (q0 := 0) rfl rfl, fun U hU hW => ⟨rfl, jw_of hU hW hPs hKs hDs⟩⟩ rfl rfl hl.1 rfl (lv_room (Nat.le_of_ble_eq_true rfl)) dL_law_1298 ⟨(Nat.le_of_ble_eq_true rfl), (Nat.le_of_ble_eq_true rfl)⟩) hDs hS hA (fun r2 H locs hr2 hS => ?_)
    have hr2 : r2 = sp_set (xs 1) := hr2
    refine lv_icmp_eq (tgt := 1804) hx hb dL_law_1301 (by decide) (fun _ => ?_) (fun z => absurd (hr1.trans hr2.symm) z)
    exact lc_end C0 hS hl (Nat.le_of_ble_eq_true rfl) (Nat.le_of_ble_eq_true rfl)
  · refine lv_aload_n hx hb dL_law_1283 rfl (lv_at hl 2 rfl) ?_
    refine lv_aload_n hx hb dL_law_1284 rfl (lv_at hl 3 rfl) ?_
    refine lv_iload_n hx hb dL_law_1285 rfl (lv_at hl 0 rfl) ?_
    refine lv_iconst (v := 1) hx hb dL_law_1286 (by decide) ?_
    refine lv_iadd hx hb dL_law_1287 ?_
    refine jt_i 1 (by decide) ?_
    refine va_sld hx hb hX hbl hbA hS (vp_in_nI (n := 1) (by decide) (by decide)) dL_law_1288 ?_
    refine jt_i (xs 1) rfl ?_
    have hPs := jp_init hP
    have hDs := jd_init hD
    have hKs := jk_init hK
    refine jc_i (va_runV (As := [.int (xs 1)]) (rest := []) ⟨hx, hb, hml, hown, hts⟩ (tX12_set_hi l dC dI _ ax ca (xs 1) h) (cwV 1 hts (jgoodVL m_920 m_921 m_922 m_210 m_923) rfl rfl rfl (by decide +kernel) ⟨(Nat.le_of_ble_eq_true rfl), (Nat.le_of_ble_eq_true rfl)⟩) ⟨jw_blind, va_recv hKs hPs (ci := 12) (q0 := 0) rfl rfl, fun U hU hW => ⟨rfl, jw_of hU hW hPs hKs hDs⟩⟩ rfl rfl hl.1 rfl (lv_room (Nat.le_of_ble_eq_true rfl)) dL_law_1289 ⟨(Nat.le_of_ble_eq_true rfl), (Nat.le_of_ble_eq_true rfl)⟩) hP hS hA (fun r1 H locs hr1 hP hS => ?_)
    have hPm := jp_tail hP
    have hr1 : r1 = sp_set (xs 1) := hr1
    refine lv_aload_n hx hb dL_law_1292 rfl (lv_at hl 1 rfl) ?_
    refine lv_aload_n hx hb dL_law_1293 rfl (lv_at hl 3 rfl) ?_
    refine lv_iload_n hx hb dL_law_1294 rfl (lv_at hl 0 rfl) ?_
    refine lv_iconst (v := 1) hx hb dL_law_1295 (by decide) ?_
    refine lv_iadd hx hb dL_law_1296 ?_
    refine jt_i 1 (by decide) ?_
    refine va_sld hx hb hX hbl hbA hS (vp_in_nI (n := 1) (by decide) (by decide)) dL_law_1297 ?_
    refine jt_i (xs 1) rfl ?_
    have hPs := hPm
    have hDs := jd_tail hD
    have hKs := jk_tail hK
    refine jcy_i (va_runV (As := [.int (xs 1)]) (rest := [.int r1]) ⟨hx, hb, hml, hown, hts⟩ (tX13_set l dC dI _ am cm (xs 1)) (cwV 1 hts (jgoodVL m_924 m_925 m_926 m_96 m_927) rfl rfl rfl (by decide +kernel) ⟨(Nat.le_of_ble_eq_true rfl), (Nat.le_of_ble_eq_true rfl)⟩) ⟨jw_blind, va_recv hKs hPs (ci := 13) (q0 := 0) rfl rfl, fun U hU hW => ⟨rfl, jw_of hU hW hPs hKs hDs⟩⟩ rfl rfl hl.1 rfl (lv_room (Nat.le_of_ble_eq_true rfl)) dL_law_1298 ⟨(Nat.le_of_ble_eq_true rfl), (Nat.le_of_ble_eq_true rfl)⟩) hDs hS hA (fun r2 H locs hr2 hS => ?_)
    have hr2 : r2 = sp_set (xs 1) := hr2
    refine lv_icmp_eq (tgt := 1804) hx hb dL_law_1301 (by decide) (fun _ => ?_) (fun z => absurd (hr1.trans hr2.symm) z)
    exact lc_end C0 hS hl (Nat.le_of_ble_eq_true rfl) (Nat.le_of_ble_eq_true rfl)
  · refine lv_aload_n hx hb dL_law_1283 rfl (lv_at hl 2 rfl) ?_
    refine lv_aload_n hx hb dL_law_1284 rfl (lv_at hl 3 rfl) ?_
    refine lv_iload_n hx hb dL_law_1285 rfl (lv_at hl 0 rfl) ?_
    refine lv_iconst (v := 1) hx hb dL_law_1286 (by decide) ?_
    refine lv_iadd hx hb dL_law_1287 ?_
    refine jt_i 1 (by decide) ?_
    refine va_sld hx hb hX hbl hbA hS (vp_in_nI (n := 1) (by decide) (by decide)) dL_law_1288 ?_
    refine jt_i (xs 1) rfl ?_
    refine jt_i 0 h ?_
    have hPs := jp_init hP
    have hDs := jd_init hD
    have hKs := jk_init hK
    refine jcx_i (va_runV (As := [.int 0]) (rest := []) ⟨hx, hb, hml, hown, hts⟩ (tX12_set_v0 l dC dI _ ax ca tW) (cwV 1 hts (jgoodVL m_920 m_921 m_922 m_210 m_923) rfl rfl rfl (by decide +kernel) ⟨(Nat.le_of_ble_eq_true rfl), (Nat.le_of_ble_eq_true rfl)⟩) ⟨jw_blindZ, va_recv hKs hPs (ci := 12) (q0 := 0) rfl rfl, fun U hU hW => ⟨rfl, jw_of hU hW hPs hKs hDs, jz_of hU hW hDs hS hA hZ hT⟩⟩ rfl rfl hl.1 rfl (lv_room (Nat.le_of_ble_eq_true rfl)) dL_law_1289 ⟨(Nat.le_of_ble_eq_true rfl), (Nat.le_of_ble_eq_true rfl)⟩) hP hD hS hA (fun r1 H locs hr1 hPm hS => ?_)
    have hr1 : r1 = sp_set 0 := hr1
    refine lv_aload_n hx hb dL_law_1292 rfl (lv_at hl 1 rfl) ?_
    refine lv_aload_n hx hb dL_law_1293 rfl (lv_at hl 3 rfl) ?_
    refine lv_iload_n hx hb dL_law_1294 rfl (lv_at hl 0 rfl) ?_
    refine lv_iconst (v := 1) hx hb dL_law_1295 (by decide) ?_
    refine lv_iadd hx hb dL_law_1296 ?_
    refine jt_i 1 (by decide) ?_
    refine va_sld hx hb hX hbl hbA hS (vp_in_nI (n := 1) (by decide) (by decide)) dL_law_1297 ?_
    refine jt_i (xs 1) rfl ?_
    refine jt_i 0 h ?_
    have hPs := hPm
    have hDs := jd_tail hD
    have hKs := jk_tail hK
    refine jcy_i (va_runV (As := [.int 0]) (rest := [.int r1]) ⟨hx, hb, hml, hown, hts⟩ (tX13_set l dC dI _ am cm 0) (cwV 1 hts (jgoodVL m_924 m_925 m_926 m_96 m_927) rfl rfl rfl (by decide +kernel) ⟨(Nat.le_of_ble_eq_true rfl), (Nat.le_of_ble_eq_true rfl)⟩) ⟨jw_blind, va_recv hKs hPs (ci := 13) (q0 := 0) rfl rfl, fun U hU hW => ⟨rfl, jw_of hU hW hPs hKs hDs⟩⟩ rfl rfl hl.1 rfl (lv_room (Nat.le_of_ble_eq_true rfl)) dL_law_1298 ⟨(Nat.le_of_ble_eq_true rfl), (Nat.le_of_ble_eq_true rfl)⟩) hDs hS hA (fun r2 H locs hr2 hS => ?_)
    have hr2 : r2 = sp_set 0 := hr2
    refine lv_icmp_eq (tgt := 1804) hx hb dL_law_1301 (by decide) (fun _ => ?_) (fun z => absurd (hr1.trans hr2.symm) z)
    exact lc_end C0 hS hl (Nat.le_of_ble_eq_true rfl) (Nat.le_of_ble_eq_true rfl)
  · refine lv_aload_n hx hb dL_law_1283 rfl (lv_at hl 2 rfl) ?_
    refine lv_aload_n hx hb dL_law_1284 rfl (lv_at hl 3 rfl) ?_
    refine lv_iload_n hx hb dL_law_1285 rfl (lv_at hl 0 rfl) ?_
    refine lv_iconst (v := 1) hx hb dL_law_1286 (by decide) ?_
    refine lv_iadd hx hb dL_law_1287 ?_
    refine jt_i 1 (by decide) ?_
    refine va_sld hx hb hX hbl hbA hS (vp_in_nI (n := 1) (by decide) (by decide)) dL_law_1288 ?_
    refine jt_i (xs 1) rfl ?_
    refine jt_i 1 h ?_
    have hPs := jp_init hP
    have hDs := jd_init hD
    have hKs := jk_init hK
    refine jcx_i (va_runV (As := [.int 1]) (rest := []) ⟨hx, hb, hml, hown, hts⟩ (tX12_set_v1 l dC dI _ ax ca tW) (cwV 1 hts (jgoodVL m_920 m_921 m_922 m_210 m_923) rfl rfl rfl (by decide +kernel) ⟨(Nat.le_of_ble_eq_true rfl), (Nat.le_of_ble_eq_true rfl)⟩) ⟨jw_blindZ, va_recv hKs hPs (ci := 12) (q0 := 0) rfl rfl, fun U hU hW => ⟨rfl, jw_of hU hW hPs hKs hDs, jz_of hU hW hDs hS hA hZ hT⟩⟩ rfl rfl hl.1 rfl (lv_room (Nat.le_of_ble_eq_true rfl)) dL_law_1289 ⟨(Nat.le_of_ble_eq_true rfl), (Nat.le_of_ble_eq_true rfl)⟩) hP hD hS hA (fun r1 H locs hr1 hPm hS => ?_)
    have hr1 : r1 = sp_set 1 := hr1
    refine lv_aload_n hx hb dL_law_1292 rfl (lv_at hl 1 rfl) ?_
    refine lv_aload_n hx hb dL_law_1293 rfl (lv_at hl 3 rfl) ?_
    refine lv_iload_n hx hb dL_law_1294 rfl (lv_at hl 0 rfl) ?_
    refine lv_iconst (v := 1) hx hb dL_law_1295 (by decide) ?_
    refine lv_iadd hx hb dL_law_1296 ?_
    refine jt_i 1 (by decide) ?_
    refine va_sld hx hb hX hbl hbA hS (vp_in_nI (n := 1) (by decide) (by decide)) dL_law_1297 ?_
    refine jt_i (xs 1) rfl ?_
    refine jt_i 1 h ?_
    have hPs := hPm
    have hDs := jd_tail hD
    have hKs := jk_tail hK
    refine jcy_i (va_runV (As := [.int 1]) (rest := [.int r1]) ⟨hx, hb, hml, hown, hts⟩ (tX13_set l dC dI _ am cm 1) (cwV 1 hts (jgoodVL m_924 m_925 m_926 m_96 m_927) rfl rfl rfl (by decide +kernel) ⟨(Nat.le_of_ble_eq_true rfl), (Nat.le_of_ble_eq_true rfl)⟩) ⟨jw_blind, va_recv hKs hPs (ci := 13) (q0 := 0) rfl rfl, fun U hU hW => ⟨rfl, jw_of hU hW hPs hKs hDs⟩⟩ rfl rfl hl.1 rfl (lv_room (Nat.le_of_ble_eq_true rfl)) dL_law_1298 ⟨(Nat.le_of_ble_eq_true rfl), (Nat.le_of_ble_eq_true rfl)⟩) hDs hS hA (fun r2 H locs hr2 hS => ?_)
    have hr2 : r2 = sp_set 1 := hr2
    refine lv_icmp_eq (tgt := 1804) hx hb dL_law_1301 (by decide) (fun _ => ?_) (fun z => absurd (hr1.trans hr2.symm) z)
    exact lc_end C0 hS hl (Nat.le_of_ble_eq_true rfl) (Nat.le_of_ble_eq_true rfl)
  · refine lv_aload_n hx hb dL_law_1283 rfl (lv_at hl 2 rfl) ?_
    refine lv_aload_n hx hb dL_law_1284 rfl (lv_at hl 3 rfl) ?_
    refine lv_iload_n hx hb dL_law_1285 rfl (lv_at hl 0 rfl) ?_
    refine lv_iconst (v := 1) hx hb dL_law_1286 (by decide) ?_
    refine lv_iadd hx hb dL_law_1287 ?_
    refine jt_i 1 (by decide) ?_
    refine va_sld hx hb hX hbl hbA hS (vp_in_nI (n := 1) (by decide) (by decide)) dL_law_1288 ?_
    refine jt_i (xs 1) rfl ?_
    refine jt_i 2 h ?_
    have hPs := jp_init hP
    have hDs := jd_init hD
    have hKs := jk_init hK
    refine jcx_i (va_runV (As := [.int 2]) (rest := []) ⟨hx, hb, hml, hown, hts⟩ (tX12_set_v2 l dC dI _ ax ca tW) (cwV 1 hts (jgoodVL m_920 m_921 m_922 m_210 m_923) rfl rfl rfl (by decide +kernel) ⟨(Nat.le_of_ble_eq_true rfl), (Nat.le_of_ble_eq_true rfl)⟩) ⟨jw_blindZ, va_recv hKs hPs (ci := 12) (q0 := 0) rfl rfl, fun U hU hW => ⟨rfl, jw_of hU hW hPs hKs hDs, jz_of hU hW hDs hS hA hZ hT⟩⟩ rfl rfl hl.1 rfl (lv_room (Nat.le_of_ble_eq_true rfl)) dL_law_1289 ⟨(Nat.le_of_ble_eq_true rfl), (Nat.le_of_ble_eq_true rfl)⟩) hP hD hS hA (fun r1 H locs hr1 hPm hS => ?_)
    have hr1 : r1 = sp_set 2 := hr1
    refine lv_aload_n hx hb dL_law_1292 rfl (lv_at hl 1 rfl) ?_
    refine lv_aload_n hx hb dL_law_1293 rfl (lv_at hl 3 rfl) ?_
    refine lv_iload_n hx hb dL_law_1294 rfl (lv_at hl 0 rfl) ?_
    refine lv_iconst (v := 1) hx hb dL_law_1295 (by decide) ?_
    refine lv_iadd hx hb dL_law_1296 ?_
    refine jt_i 1 (by decide) ?_
    refine va_sld hx hb hX hbl hbA hS (vp_in_nI (n := 1) (by decide) (by decide)) dL_law_1297 ?_
    refine jt_i (xs 1) rfl ?_
    refine jt_i 2 h ?_
    have hPs := hPm
    have hDs := jd_tail hD
    have hKs := jk_tail hK
    refine jcy_i (va_runV (As := [.int 2]) (rest := [.int r1]) ⟨hx, hb, hml, hown, hts⟩ (tX13_set l dC dI _ am cm 2) (cwV 1 hts (jgoodVL m_924 m_925 m_926 m_96 m_927) rfl rfl rfl (by decide +kernel) ⟨(Nat.le_of_ble_eq_true rfl), (Nat.le_of_ble_eq_true rfl)⟩) ⟨jw_blind, va_recv hKs hPs (ci := 13) (q0 := 0) rfl rfl, fun U hU hW => ⟨rfl, jw_of hU hW hPs hKs hDs⟩⟩ rfl rfl hl.1 rfl (lv_room (Nat.le_of_ble_eq_true rfl)) dL_law_1298 ⟨(Nat.le_of_ble_eq_true rfl), (Nat.le_of_ble_eq_true rfl)⟩) hDs hS hA (fun r2 H locs hr2 hS => ?_)
    have hr2 : r2 = sp_set 2 := hr2
    refine lv_icmp_eq (tgt := 1804) hx hb dL_law_1301 (by decide) (fun _ => ?_) (fun z => absurd (hr1.trans hr2.symm) z)
    exact lc_end C0 hS hl (Nat.le_of_ble_eq_true rfl) (Nat.le_of_ble_eq_true rfl)
  · refine lv_aload_n hx hb dL_law_1283 rfl (lv_at hl 2 rfl) ?_
    refine lv_aload_n hx hb dL_law_1284 rfl (lv_at hl 3 rfl) ?_
    refine lv_iload_n hx hb dL_law_1285 rfl (lv_at hl 0 rfl) ?_
    refine lv_iconst (v := 1) hx hb dL_law_1286 (by decide) ?_
    refine lv_iadd hx hb dL_law_1287 ?_
    refine jt_i 1 (by decide) ?_
    refine va_sld hx hb hX hbl hbA hS (vp_in_nI (n := 1) (by decide) (by decide)) dL_law_1288 ?_
    refine jt_i (xs 1) rfl ?_
    refine jt_i 3 h ?_
    have hPs := jp_init hP
    have hDs := jd_init hD
    have hKs := jk_init hK
    refine jcx_i (va_runV (As := [.int 3]) (rest := []) ⟨hx, hb, hml, hown, hts⟩ (tX12_set_v3 l dC dI _ ax ca tW) (cwV 1 hts (jgoodVL m_920 m_921 m_922 m_210 m_923) rfl rfl rfl (by decide +kernel) ⟨(Nat.le_of_ble_eq_true rfl), (Nat.le_of_ble_eq_true rfl)⟩) ⟨jw_blindZ, va_recv hKs hPs (ci := 12) (q0 := 0) rfl rfl, fun U hU hW => ⟨rfl, jw_of hU hW hPs hKs hDs, jz_of hU hW hDs hS hA hZ hT⟩⟩ rfl rfl hl.1 rfl (lv_room (Nat.le_of_ble_eq_true rfl)) dL_law_1289 ⟨(Nat.le_of_ble_eq_true rfl), (Nat.le_of_ble_eq_true rfl)⟩) hP hD hS hA (fun r1 H locs hr1 hPm hS => ?_)
    have hr1 : r1 = sp_set 3 := hr1
    refine lv_aload_n hx hb dL_law_1292 rfl (lv_at hl 1 rfl) ?_
    refine lv_aload_n hx hb dL_law_1293 rfl (lv_at hl 3 rfl) ?_
    refine lv_iload_n hx hb dL_law_1294 rfl (lv_at hl 0 rfl) ?_
    refine lv_iconst (v := 1) hx hb dL_law_1295 (by decide) ?_
    refine lv_iadd hx hb dL_law_1296 ?_
    refine jt_i 1 (by decide) ?_
    refine va_sld hx hb hX hbl hbA hS (vp_in_nI (n := 1) (by decide) (by decide)) dL_law_1297 ?_
    refine jt_i (xs 1) rfl ?_
    refine jt_i 3 h ?_
    have hPs := hPm
    have hDs := jd_tail hD
    have hKs := jk_tail hK
    refine jcy_i (va_runV (As := [.int 3]) (rest := [.int r1]) ⟨hx, hb, hml, hown, hts⟩ (tX13_set l dC dI _ am cm 3) (cwV 1 hts (jgoodVL m_924 m_925 m_926 m_96 m_927) rfl rfl rfl (by decide +kernel) ⟨(Nat.le_of_ble_eq_true rfl), (Nat.le_of_ble_eq_true rfl)⟩) ⟨jw_blind, va_recv hKs hPs (ci := 13) (q0 := 0) rfl rfl, fun U hU hW => ⟨rfl, jw_of hU hW hPs hKs hDs⟩⟩ rfl rfl hl.1 rfl (lv_room (Nat.le_of_ble_eq_true rfl)) dL_law_1298 ⟨(Nat.le_of_ble_eq_true rfl), (Nat.le_of_ble_eq_true rfl)⟩) hDs hS hA (fun r2 H locs hr2 hS => ?_)
    have hr2 : r2 = sp_set 3 := hr2
    refine lv_icmp_eq (tgt := 1804) hx hb dL_law_1301 (by decide) (fun _ => ?_) (fun z => absurd (hr1.trans hr2.symm) z)
    exact lc_end C0 hS hl (Nat.le_of_ble_eq_true rfl) (Nat.le_of_ble_eq_true rfl)
  · refine lv_aload_n hx hb dL_law_1283 rfl (lv_at hl 2 rfl) ?_
    refine lv_aload_n hx hb dL_law_1284 rfl (lv_at hl 3 rfl) ?_
    refine lv_iload_n hx hb dL_law_1285 rfl (lv_at hl 0 rfl) ?_
    refine lv_iconst (v := 1) hx hb dL_law_1286 (by decide) ?_
    refine lv_iadd hx hb dL_law_1287 ?_
    refine jt_i 1 (by decide) ?_
    refine va_sld hx hb hX hbl hbA hS (vp_in_nI (n := 1) (by decide) (by decide)) dL_law_1288 ?_
    refine jt_i (xs 1) rfl ?_
    refine jt_i 4 h ?_
    have hPs := jp_init hP
    have hDs := jd_init hD
    have hKs := jk_init hK
    refine jcx_i (va_runV (As := [.int 4]) (rest := []) ⟨hx, hb, hml, hown, hts⟩ (tX12_set_v4 l dC dI _ ax ca tW) (cwV 1 hts (jgoodVL m_920 m_921 m_922 m_210 m_923) rfl rfl rfl (by decide +kernel) ⟨(Nat.le_of_ble_eq_true rfl), (Nat.le_of_ble_eq_true rfl)⟩) ⟨jw_blindZ, va_recv hKs hPs (ci := 12) (q0 := 0) rfl rfl, fun U hU hW => ⟨rfl, jw_of hU hW hPs hKs hDs, jz_of hU hW hDs hS hA hZ hT⟩⟩ rfl rfl hl.1 rfl (lv_room (Nat.le_of_ble_eq_true rfl)) dL_law_1289 ⟨(Nat.le_of_ble_eq_true rfl), (Nat.le_of_ble_eq_true rfl)⟩) hP hD hS hA (fun r1 H locs hr1 hPm hS => ?_)
    have hr1 : r1 = sp_set 4 := hr1
    refine lv_aload_n hx hb dL_law_1292 rfl (lv_at hl 1 rfl) ?_
    refine lv_aload_n hx hb dL_law_1293 rfl (lv_at hl 3 rfl) ?_
    refine lv_iload_n hx hb dL_law_1294 rfl (lv_at hl 0 rfl) ?_
    refine lv_iconst (v := 1) hx hb dL_law_1295 (by decide) ?_
    refine lv_iadd hx hb dL_law_1296 ?_
    refine jt_i 1 (by decide) ?_
    refine va_sld hx hb hX hbl hbA hS (vp_in_nI (n := 1) (by decide) (by decide)) dL_law_1297 ?_
    refine jt_i (xs 1) rfl ?_
    refine jt_i 4 h ?_
    have hPs := hPm
    have hDs := jd_tail hD
    have hKs := jk_tail hK
    refine jcy_i (va_runV (As := [.int 4]) (rest := [.int r1]) ⟨hx, hb, hml, hown, hts⟩ (tX13_set l dC dI _ am cm 4) (cwV 1 hts (jgoodVL m_924 m_925 m_926 m_96 m_927) rfl rfl rfl (by decide +kernel) ⟨(Nat.le_of_ble_eq_true rfl), (Nat.le_of_ble_eq_true rfl)⟩) ⟨jw_blind, va_recv hKs hPs (ci := 13) (q0 := 0) rfl rfl, fun U hU hW => ⟨rfl, jw_of hU hW hPs hKs hDs⟩⟩ rfl rfl hl.1 rfl (lv_room (Nat.le_of_ble_eq_true rfl)) dL_law_1298 ⟨(Nat.le_of_ble_eq_true rfl), (Nat.le_of_ble_eq_true rfl)⟩) hDs hS hA (fun r2 H locs hr2 hS => ?_)
    have hr2 : r2 = sp_set 4 := hr2
    refine lv_icmp_eq (tgt := 1804) hx hb dL_law_1301 (by decide) (fun _ => ?_) (fun z => absurd (hr1.trans hr2.symm) z)
    exact lc_end C0 hS hl (Nat.le_of_ble_eq_true rfl) (Nat.le_of_ble_eq_true rfl)
  · refine lv_aload_n hx hb dL_law_1283 rfl (lv_at hl 2 rfl) ?_
    refine lv_aload_n hx hb dL_law_1284 rfl (lv_at hl 3 rfl) ?_
    refine lv_iload_n hx hb dL_law_1285 rfl (lv_at hl 0 rfl) ?_
    refine lv_iconst (v := 1) hx hb dL_law_1286 (by decide) ?_
    refine lv_iadd hx hb dL_law_1287 ?_
    refine jt_i 1 (by decide) ?_
    refine va_sld hx hb hX hbl hbA hS (vp_in_nI (n := 1) (by decide) (by decide)) dL_law_1288 ?_
    refine jt_i (xs 1) rfl ?_
    refine jt_i 5 h ?_
    have hPs := jp_init hP
    have hDs := jd_init hD
    have hKs := jk_init hK
    refine jcx_i (va_runV (As := [.int 5]) (rest := []) ⟨hx, hb, hml, hown, hts⟩ (tX12_set_v5 l dC dI _ ax ca tW) (cwV 1 hts (jgoodVL m_920 m_921 m_922 m_210 m_923) rfl rfl rfl (by decide +kernel) ⟨(Nat.le_of_ble_eq_true rfl), (Nat.le_of_ble_eq_true rfl)⟩) ⟨jw_blindZ, va_recv hKs hPs (ci := 12) (q0 := 0) rfl rfl, fun U hU hW => ⟨rfl, jw_of hU hW hPs hKs hDs, jz_of hU hW hDs hS hA hZ hT⟩⟩ rfl rfl hl.1 rfl (lv_room (Nat.le_of_ble_eq_true rfl)) dL_law_1289 ⟨(Nat.le_of_ble_eq_true rfl), (Nat.le_of_ble_eq_true rfl)⟩) hP hD hS hA (fun r1 H locs hr1 hPm hS => ?_)
    have hr1 : r1 = sp_set 5 := hr1
    refine lv_aload_n hx hb dL_law_1292 rfl (lv_at hl 1 rfl) ?_
    refine lv_aload_n hx hb dL_law_1293 rfl (lv_at hl 3 rfl) ?_
    refine lv_iload_n hx hb dL_law_1294 rfl (lv_at hl 0 rfl) ?_
    refine lv_iconst (v := 1) hx hb dL_law_1295 (by decide) ?_
    refine lv_iadd hx hb dL_law_1296 ?_
    refine jt_i 1 (by decide) ?_
    refine va_sld hx hb hX hbl hbA hS (vp_in_nI (n := 1) (by decide) (by decide)) dL_law_1297 ?_
    refine jt_i (xs 1) rfl ?_
    refine jt_i 5 h ?_
    have hPs := hPm
    have hDs := jd_tail hD
    have hKs := jk_tail hK
    refine jcy_i (va_runV (As := [.int 5]) (rest := [.int r1]) ⟨hx, hb, hml, hown, hts⟩ (tX13_set l dC dI _ am cm 5) (cwV 1 hts (jgoodVL m_924 m_925 m_926 m_96 m_927) rfl rfl rfl (by decide +kernel) ⟨(Nat.le_of_ble_eq_true rfl), (Nat.le_of_ble_eq_true rfl)⟩) ⟨jw_blind, va_recv hKs hPs (ci := 13) (q0 := 0) rfl rfl, fun U hU hW => ⟨rfl, jw_of hU hW hPs hKs hDs⟩⟩ rfl rfl hl.1 rfl (lv_room (Nat.le_of_ble_eq_true rfl)) dL_law_1298 ⟨(Nat.le_of_ble_eq_true rfl), (Nat.le_of_ble_eq_true rfl)⟩) hDs hS hA (fun r2 H locs hr2 hS => ?_)
    have hr2 : r2 = sp_set 5 := hr2
    refine lv_icmp_eq (tgt := 1804) hx hb dL_law_1301 (by decide) (fun _ => ?_) (fun z => absurd (hr1.trans hr2.symm) z)
    exact lc_end C0 hS hl (Nat.le_of_ble_eq_true rfl) (Nat.le_of_ble_eq_true rfl)
