set_option maxHeartbeats 2000000 in
set_option maxRecDepth 100000 in
theorem sX12_count (l : Launch) (dC : Nat → ClassId) (dI : Nat → Nat → Nat) (sz : Nat) (L : List Nat) (cid : Nat → ClassId) (K : Int → Nat) (N : Int → Int) (tW : Nat) (sK sV : Nat → Nat) (v : Int → Int → Int) (p0 : Int) (p1 : Int) (hI : xI L K N v) (q0 : ok L K p0 12) (q1 : rg p1) : Met l yX12_count (jk yX12_count cX12_count 2 (some .int)) ({ frames := 2, cells := 0, slots := 0, locals := 45 }) (va_Pc [.ref p0.toNat, .int (iI p1)] (xP (dC, dI) (xG L cid K N v) (xT cid) tW sK sV sz)) (va_Qi (fun (r : Int32) (_ : Unit) => ∃ z : Int, r = iI z ∧ (rg z)) (fun _ _ => True) (va_A [] sz)) 0 0 (va_A [] sz) := by
  refine Met.ofW (cc := cX12_count) (maxL := 2) (ret := (some .int)) (by decide) rfl ?_
  intro p e s m args below meth c s₁ B hml hv
  obtain ⟨rfl, ⟨hsz, hP, hK, hD0⟩, hX⟩ := hv
  have hx := B.exec
  have hb := B.bytes
  have hr := B.returns
  have hts := atoms_spec (ws := (jk yX12_count cX12_count 2 (some .int))) B.pre
  have hj : ∀ w ∈ jw, w.before ([.ref p0.toNat, .int (iI p1)] : List Value).toArray s = true := fun w h => hts w (jm h)
  have hown : s.vm.findClass RX12 = some m.cls := findClass_of_methodNamed B.named
  subst hsz
  have hDw := hD0.self (sz := s.heap.size)
  have hAA : ∀ q : Nat, s.heap.size ≤ q → va_A (xG L cid K N v) s.heap.size q := fun q h => Or.inr h
  have hAw : ∀ q, va_A [] s.heap.size q → va_A (xG L cid K N v) s.heap.size q := ja_nil va_S.rf hAA
  generalize hAe : (va_A [] s.heap.size) = A at hAw ⊢
  have hA : ∀ q : Nat, s.heap.size ≤ q → A q := fun q h => by rw [← hAe]; exact Or.inr h
  have hS : va_S A s.heap s.heap [] := va_S.rf
  have hXa := hX.nar hAw
  have hP : va_P (dC, dI) vwCl (xG L cid K N v) s.heap := hP
  have hl := lv_entry ([.ref p0.toNat, .int (iI p1)]) (n := 2) (Nat.le_of_ble_eq_true rfl)
  rw [lg_entry_eq]
  generalize (lg_sl ([.ref p0.toNat, .int (iI p1)]) ++ List.replicate (2 - (lg_sl ([.ref p0.toNat, .int (iI p1)])).length) Slot.unset).toArray = ls at hl ⊢
  have hl : lv_has ls 2 [(0, .ref p0.toNat), (1, .int (iI p1))] := hl
  generalize hQ : MQ below (va_Qi (fun (r : Int32) (_ : Unit) => ∃ z : Int, r = iI z ∧ (rg z)) (fun _ _ => True) A) ([.ref p0.toNat, .int (iI p1)] : List Value).toArray s 0 0 A = Q
  suffices ST : ∀ (H : Heap) (locs : List Loc), va_P (dC, dI) vwCl (xG L cid K N v) H → va_S A s.heap H locs → W p l e ({ frames := 2, cells := 0, slots := 0, locals := 45 }) s m ([.ref p0.toNat, .int (iI p1)] : List Value).toArray below meth c H locs 0 0 Q (F0 m 0 ls []) from ST _ _ hP hS
  clear hP hS
  intro H locs hP hS
  refine lv_iload_n hx hb dX12_count_0 rfl (lv_at hl 1 rfl) ?_
  rcases (show (p1 < 0 ∨ 8 < p1) ∨ p1 = 0 ∨ p1 = 1 ∨ p1 = 2 ∨ p1 = 3 ∨ p1 = 4 ∨ p1 = 5 ∨ p1 = 6 ∨ p1 = 7 ∨ p1 = 8 by omega) with h_1 | h_1 | h_1 | h_1 | h_1 | h_1 | h_1 | h_1 | h_1 | h_1
  · refine lv_tableOut (tgt := 106) hx hb dX12_count_1 (by rw [iI_toInt (by omega)]; omega) (by decide) ?_
    refine lv_aload_n hx hb dX12_count_106 rfl (lv_at hl 0 rfl) ?_
    refine lv_iload_n hx hb dX12_count_107 rfl (lv_at hl 1 rfl) ?_
    refine jc_i (va_runV (As := [.int (iI p1)]) (rest := []) ⟨hx, hb, hml, hown, hts⟩ (sX12_countOfHand l dC dI _ L cid K N tW sK sV v p0 p1 hI q0 (by omega)) (cwV 1 hts (jgoodV m_1283 m_1284 m_1285 m_873 m_1286) rfl rfl rfl (by decide +kernel) ⟨(Nat.le_of_ble_eq_true rfl), (Nat.le_of_ble_eq_true rfl)⟩) ⟨xP_blind, xrecv hK hP q0 rfl rfl, fun U hU hW => ⟨rfl, xP_of hU hW hP hK hDw hX hS hAw hAA⟩⟩ rfl rfl hl.1 rfl (lv_room (Nat.le_of_ble_eq_true rfl)) dX12_count_108 ⟨(Nat.le_of_ble_eq_true rfl), (Nat.le_of_ble_eq_true rfl)⟩) hP hS hA (fun r_2 H locs w_3 hP hS => ?_)
    obtain ⟨z_4, rfl, h_5⟩ := w_3
    rw [← hQ]
    exact W.iret (v := iI z_4) hx hb hr (fun t ht hW => ⟨⟨iI z_4, (), rfl, ⟨z_4, rfl, by omega⟩, trivial⟩, hS.F ht⟩) hS.2.2 dX12_count_111
  · refine jtab_in (v := iI 0) (off := 51) (tgt := 52) hx hb dX12_count_1 (by rw [h_1]) (by decide) (by decide) (by decide) (by decide) ?_
    refine lv_aload_n hx hb dX12_count_52 rfl (lv_at hl 0 rfl) ?_
    have h_6 : 0 ≤ v p0 0 ∧ v p0 0 ≤ 2000 := xf_12_0 hI q0
    refine gx_RX12_133 (y := v p0 0) hx hb hj hown hK hP q0 rfl dX12_count_53 ?_
    rw [← hQ]
    exact W.iret (v := iI (v p0 0)) hx hb hr (fun t ht hW => ⟨⟨iI (v p0 0), (), rfl, ⟨v p0 0, rfl, by omega⟩, trivial⟩, hS.F ht⟩) hS.2.2 dX12_count_56
  · refine jtab_in (v := iI 1) (off := 56) (tgt := 57) hx hb dX12_count_1 (by rw [h_1]) (by decide) (by decide) (by decide) (by decide) ?_
    refine lv_aload_n hx hb dX12_count_57 rfl (lv_at hl 0 rfl) ?_
    have h_7 : 0 ≤ v p0 7 ∧ v p0 7 ≤ 60 := xf_12_7 hI q0
    refine gx_RX12_203 (y := v p0 7) hx hb hj hown hK hP q0 rfl dX12_count_58 ?_
    rw [← hQ]
    exact W.iret (v := iI (v p0 7)) hx hb hr (fun t ht hW => ⟨⟨iI (v p0 7), (), rfl, ⟨v p0 7, rfl, by omega⟩, trivial⟩, hS.F ht⟩) hS.2.2 dX12_count_61
  · refine jtab_in (v := iI 2) (off := 61) (tgt := 62) hx hb dX12_count_1 (by rw [h_1]) (by decide) (by decide) (by decide) (by decide) ?_
    refine lv_aload_n hx hb dX12_count_62 rfl (lv_at hl 0 rfl) ?_
    have h_8 : 0 ≤ v p0 11 ∧ v p0 11 ≤ 12 := xf_12_11 hI q0
    refine gx_RX12_292 (y := v p0 11) hx hb hj hown hK hP q0 rfl dX12_count_63 ?_
    rw [← hQ]
    exact W.iret (v := iI (v p0 11)) hx hb hr (fun t ht hW => ⟨⟨iI (v p0 11), (), rfl, ⟨v p0 11, rfl, by omega⟩, trivial⟩, hS.F ht⟩) hS.2.2 dX12_count_66
  · refine jtab_in (v := iI 3) (off := 66) (tgt := 67) hx hb dX12_count_1 (by rw [h_1]) (by decide) (by decide) (by decide) (by decide) ?_
    refine lv_aload_n hx hb dX12_count_67 rfl (lv_at hl 0 rfl) ?_
    have h_9 : 0 ≤ v p0 13 ∧ v p0 13 ≤ 300 := xf_12_13 hI q0
    refine gx_RX12_370 (y := v p0 13) hx hb hj hown hK hP q0 rfl dX12_count_68 ?_
    rw [← hQ]
    exact W.iret (v := iI (v p0 13)) hx hb hr (fun t ht hW => ⟨⟨iI (v p0 13), (), rfl, ⟨v p0 13, rfl, by omega⟩, trivial⟩, hS.F ht⟩) hS.2.2 dX12_count_71
  · refine jtab_in (v := iI 4) (off := 71) (tgt := 72) hx hb dX12_count_1 (by rw [h_1]) (by decide) (by decide) (by decide) (by decide) ?_
    refine lv_aload_n hx hb dX12_count_72 rfl (lv_at hl 0 rfl) ?_
    have h_10 : ok L K (v p0 3) 8 := xf_12_3 hI q0
    refine gx_RX12_19 (y := v p0 3) hx hb hj hown hK hP q0 ((xf_12_3 hI q0).1) rfl dX12_count_73 ?_
    have h_11 : 0 ≤ v (v p0 3) 1 ∧ v (v p0 3) 1 ≤ 12 := xf_8_1 hI h_10
    refine gx_RX12_590 (y := v (v p0 3) 1) hx hb hj hown hK hP h_10 rfl dX12_count_76 ?_
    rw [← hQ]
    exact W.iret (v := iI (v (v p0 3) 1)) hx hb hr (fun t ht hW => ⟨⟨iI (v (v p0 3) 1), (), rfl, ⟨v (v p0 3) 1, rfl, by omega⟩, trivial⟩, hS.F ht⟩) hS.2.2 dX12_count_79
  · refine jtab_in (v := iI 5) (off := 79) (tgt := 80) hx hb dX12_count_1 (by rw [h_1]) (by decide) (by decide) (by decide) (by decide) ?_
    refine lv_aload_n hx hb dX12_count_80 rfl (lv_at hl 0 rfl) ?_
    have h_12 : ok L K (v p0 14) 5 := xf_12_14 hI q0
    refine gx_RX12_66 (y := v p0 14) hx hb hj hown hK hP q0 ((xf_12_14 hI q0).1) rfl dX12_count_81 ?_
    have h_13 : (-2147483648) ≤ v (v p0 14) 11 ∧ v (v p0 14) 11 ≤ 2147483647 := xf_5_11 hI h_12
    refine gx_RX12_593 (y := v (v p0 14) 11) hx hb hj hown hK hP h_12 rfl dX12_count_84 ?_
    rw [← hQ]
    exact W.iret (v := iI (v (v p0 14) 11)) hx hb hr (fun t ht hW => ⟨⟨iI (v (v p0 14) 11), (), rfl, ⟨v (v p0 14) 11, rfl, by omega⟩, trivial⟩, hS.F ht⟩) hS.2.2 dX12_count_87
  · refine jtab_in (v := iI 6) (off := 87) (tgt := 88) hx hb dX12_count_1 (by rw [h_1]) (by decide) (by decide) (by decide) (by decide) ?_
    refine lv_aload_n hx hb dX12_count_88 rfl (lv_at hl 0 rfl) ?_
    have h_14 : (-2147483648) ≤ v p0 1 ∧ v p0 1 ≤ 2147483647 := xf_12_1 hI q0
    refine gx_RX12_158 (y := v p0 1) hx hb hj hown hK hP q0 rfl dX12_count_89 ?_
    rw [← hQ]
    exact W.iret (v := iI (v p0 1)) hx hb hr (fun t ht hW => ⟨⟨iI (v p0 1), (), rfl, ⟨v p0 1, rfl, by omega⟩, trivial⟩, hS.F ht⟩) hS.2.2 dX12_count_92
  · refine jtab_in (v := iI 7) (off := 92) (tgt := 93) hx hb dX12_count_1 (by rw [h_1]) (by decide) (by decide) (by decide) (by decide) ?_
    refine lv_aload_n hx hb dX12_count_93 rfl (lv_at hl 0 rfl) ?_
    have h_15 : ok L K (v p0 2) 7 := xf_12_2 hI q0
    refine gx_RX12_10 (y := v p0 2) hx hb hj hown hK hP q0 ((xf_12_2 hI q0).1) rfl dX12_count_94 ?_
    have h_16 : 0 ≤ v (v p0 2) 1 ∧ v (v p0 2) 1 ≤ 600 := xf_7_1 hI h_15
    refine gx_RX12_103 (y := v (v p0 2) 1) hx hb hj hown hK hP h_15 rfl dX12_count_97 ?_
    rw [← hQ]
    exact W.iret (v := iI (v (v p0 2) 1)) hx hb hr (fun t ht hW => ⟨⟨iI (v (v p0 2) 1), (), rfl, ⟨v (v p0 2) 1, rfl, by omega⟩, trivial⟩, hS.F ht⟩) hS.2.2 dX12_count_100
  · refine jtab_in (v := iI 8) (off := 100) (tgt := 101) hx hb dX12_count_1 (by rw [h_1]) (by decide) (by decide) (by decide) (by decide) ?_
    refine lv_aload_n hx hb dX12_count_101 rfl (lv_at hl 0 rfl) ?_
    refine jc_i (va_runV (As := []) (rest := []) ⟨hx, hb, hml, hown, hts⟩ (sX12_payOfAll l dC dI _ L cid K N tW sK sV v p0 hI q0) (cwV 0 hts (jgoodV m_1287 m_1288 m_1289 m_873 m_1290) rfl rfl rfl (by decide +kernel) ⟨(Nat.le_of_ble_eq_true rfl), (Nat.le_of_ble_eq_true rfl)⟩) ⟨xP_blind, xrecv hK hP q0 rfl rfl, fun U hU hW => ⟨rfl, xP_of hU hW hP hK hDw hX hS hAw hAA⟩⟩ rfl rfl hl.1 rfl (lv_room (Nat.le_of_ble_eq_true rfl)) dX12_count_102 ⟨(Nat.le_of_ble_eq_true rfl), (Nat.le_of_ble_eq_true rfl)⟩) hP hS hA (fun r_17 H locs w_18 hP hS => ?_)
    obtain ⟨z_19, rfl, h_20⟩ := w_18
    rw [← hQ]
    exact W.iret (v := iI z_19) hx hb hr (fun t ht hW => ⟨⟨iI z_19, (), rfl, ⟨z_19, rfl, by omega⟩, trivial⟩, hS.F ht⟩) hS.2.2 dX12_count_105
set_option maxHeartbeats 2000000 in
set_option maxRecDepth 100000 in
theorem sJ7_copyOf_59c91_25_66 (l : Launch) (dC : Nat → ClassId) (dI : Nat → Nat → Nat) (sz : Nat) (L : List Nat) (cid : Nat → ClassId) (K : Int → Nat) (N : Int → Int) (tW : Nat) (sK sV : Nat → Nat) (v : Int → Int → Int) (p1 : Int) (p2 : Int) (hI : xI L K N v) (q1 : ok L K p1 25) (q2 : rg p2) (k1 : 0 ≤ p2 ∧ p2 ≤ 600) : Met l yJ7_copyOf_59c91 (jk yJ7_copyOf_59c91 cJ7_copyOf_59c91 3 (some (.array .int))) ({ frames := 1, cells := 1, slots := 600, locals := 80 }) (va_Pc [.ref p1.toNat, .int (iI p2)] (xP (dC, dI) (xG L cid K N v) (xT cid) tW sK sV sz)) (va_Qq (fun (r : Option Nat) (u : (List Nat × (Int → Nat) × (Int → Int) × (Int → Int → Int))) => ∃ z : Int, r = opt z ∧ (xI u.1 u.2.1 u.2.2.1 u.2.2.2) ∧ (xE L K N u.1 u.2.1 u.2.2.1) ∧ (frE L K [(66, (-1)), (99, 0)] u.2.2.2 v) ∧ (ok u.1 u.2.1 z 66)) (fun u t => va_P (dC, dI) vwCl (xG u.1 cid u.2.1 u.2.2.1 u.2.2.2) t.heap ∧ va_K (dC, dI) vwCl (xT cid) t ∧ va_D (va_A (xG L cid K N v) sz) (xG u.1 cid u.2.1 u.2.2.1 u.2.2.2)) (va_A (xG L cid K N v) sz)) 1 600 (va_A (xG L cid K N v) sz) := by
  refine Met.ofW (cc := cJ7_copyOf_59c91) (maxL := 3) (ret := (some (.array .int))) (by decide) rfl ?_
  intro p e s m args below meth c s₁ B hml hv
  obtain ⟨rfl, ⟨hsz, hP, hK, hD0⟩, hX⟩ := hv
  have hx := B.exec
  have hb := B.bytes
  have hr := B.returns
  have hts := atoms_spec (ws := (jk yJ7_copyOf_59c91 cJ7_copyOf_59c91 3 (some (.array .int)))) B.pre
  have hj : ∀ w ∈ jw, w.before ([.ref p1.toNat, .int (iI p2)] : List Value).toArray s = true := fun w h => hts w (jm h)
  have hown : s.vm.findClass RJ7 = some m.cls := findClass_of_methodNamed B.named
  subst hsz
  have hD := hD0.self (sz := s.heap.size)
  generalize hAe : (va_A (xG L cid K N v) s.heap.size) = A at hD hX ⊢
  have hA : ∀ q : Nat, s.heap.size ≤ q → A q := fun q h => by rw [← hAe]; exact Or.inr h
  have hS : va_S A s.heap s.heap [] := va_S.rf
  have hE0 : xE L K N L K N := xE_rf
  have hF0 : frE L K [(66, (-1)), (99, 0)] v v := frE_rf
  have hXa := hX
  have hP : va_P (dC, dI) vwCl (xG L cid K N v) s.heap := hP
  have hl := lv_entry ([.ref p1.toNat, .int (iI p2)]) (n := 3) (Nat.le_of_ble_eq_true rfl)
  rw [lg_entry_eq]
  generalize (lg_sl ([.ref p1.toNat, .int (iI p2)]) ++ List.replicate (3 - (lg_sl ([.ref p1.toNat, .int (iI p2)])).length) Slot.unset).toArray = ls at hl ⊢
  have hl : lv_has ls 3 [(0, .ref p1.toNat), (1, .int (iI p2))] := hl
  generalize hQ : MQ below (va_Qq (fun (r : Option Nat) (u : (List Nat × (Int → Nat) × (Int → Int) × (Int → Int → Int))) => ∃ z : Int, r = opt z ∧ (xI u.1 u.2.1 u.2.2.1 u.2.2.2) ∧ (xE L K N u.1 u.2.1 u.2.2.1) ∧ (frE L K [(66, (-1)), (99, 0)] u.2.2.2 v) ∧ (ok u.1 u.2.1 z 66)) (fun u t => va_P (dC, dI) vwCl (xG u.1 cid u.2.1 u.2.2.1 u.2.2.2) t.heap ∧ va_K (dC, dI) vwCl (xT cid) t ∧ va_D A (xG u.1 cid u.2.1 u.2.2.1 u.2.2.2)) A) ([.ref p1.toNat, .int (iI p2)] : List Value).toArray s 1 600 A = Q
  suffices ST : ∀ (H : Heap) (locs : List Loc), va_P (dC, dI) vwCl (xG L cid K N v) H → va_S A s.heap H locs → W p l e ({ frames := 1, cells := 1, slots := 600, locals := 80 }) s m ([.ref p1.toNat, .int (iI p2)] : List Value).toArray below meth c H locs 0 0 Q (F0 m 0 ls []) from ST _ _ hP hS
  clear hP hS
  intro H locs hP hS
  have h_1 : N p1 = 600 := xn_25 hI q1
  refine lv_iload_n hx hb dJ7_copyOf_59c91_0 rfl (lv_at hl 1 rfl) ?_
  refine lv_aload_n hx hb dJ7_copyOf_59c91_1 rfl (lv_at hl 0 rfl) ?_
  refine lx_25 (y := 600) hx hb hK hP q1 (by omega) (by omega) dJ7_copyOf_59c91_2 ?_
  refine xr_icmp_ne (tgt := 14) hx hb dJ7_copyOf_59c91_3 (by decide) (by omega) (by omega) (fun h_2 => ?_) (fun h_2 => ?_)
  · refine lv_iload_n hx hb dJ7_copyOf_59c91_14 rfl (lv_at hl 1 rfl) ?_
    refine va_newa (atype := .int) (n := iI p2) (N' := Int.toNat p2) (a0 := (Int.toNat p2, .inl (fun _ => 0))) (ty := .int) hx hb (hts (.arrayClass .int) (jm m_2)) rfl hK hP hD hS hA (fun _ => rfl) (xn_nn (by omega) (by omega)) (iI_clamp (by omega) (by omega)) (show Int.toNat p2 * 4 ≤ 536870912 by omega) (Nat.le_of_ble_eq_true rfl) (show 0 + Int.toNat p2 ≤ 600 by omega) dJ7_copyOf_59c91_15 (fun q_3 c_4 H hK2 hP hD hS => ?_)
    refine W.widen (k := 1) (n := 600) (Nat.le_of_ble_eq_true rfl) (by omega) ?_
    obtain ⟨z_5, L_6, K_7, N_8, v_9, hz9, E_10, h_11, q_12, h_13, h_14, f_15, I_16, hP9, hD9⟩ := xzero_66 hK2 hI hP hD (by omega)
    subst hz9
    have hP := hP9
    have hD := hD9
    have F_18 := frE_frE (W := [(66, (-1)), (99, 0)]) hE0 (f_15 []) rfl hF0
    have E_17 := xE_tr hE0 E_10
    have h_19 := xE_ok E_10 q1
    have h_20 : N_8 p1 = 600 := xn_25 I_16 h_19
    have h_21 : 0 ≤ N_8 z_5 ∧ N_8 z_5 ≤ 600 := xn_66 I_16 h_11
    refine lv_astore_n (i := 2) (lv' := [(2, .ref z_5.toNat), (0, .ref p1.toNat), (1, .int (iI p2))]) hx hb dJ7_copyOf_59c91_17 rfl hl (by decide) rfl (fun ls hl => ?_)
    refine lv_aload_n hx hb dJ7_copyOf_59c91_18 rfl (lv_at hl 1 rfl) ?_
    refine lv_iconst (v := iI 0) hx hb dJ7_copyOf_59c91_19 rfl ?_
    refine lv_aload_n hx hb dJ7_copyOf_59c91_20 rfl (lv_at hl 0 rfl) ?_
    refine lv_iconst (v := iI 0) hx hb dJ7_copyOf_59c91_21 rfl ?_
    refine lv_aload_n hx hb dJ7_copyOf_59c91_22 rfl (lv_at hl 1 rfl) ?_
    refine lx_25 (y := 600) hx hb hK hP h_19 (by omega) (by omega) dJ7_copyOf_59c91_23 ?_
    refine lv_iload_n hx hb dJ7_copyOf_59c91_24 rfl (lv_at hl 2 rfl) ?_
    refine va_mmin hx hb (by rw [hml]; exact hl.1.symm) hown (hj _ m_1291) (hj _ m_765) (hj _ m_762) (hj _ m_766) (Nat.le_of_ble_eq_true rfl) (Nat.le_of_ble_eq_true rfl) (Nat.le_of_ble_eq_true rfl) (Nat.le_of_ble_eq_true rfl) dJ7_copyOf_59c91_25 ?_
    refine xm_min (by omega) (by omega) (fun z_22 h_23 => ?_)
    refine xc2_25_66 hx hb (by rw [hml]; exact hl.1.symm) hown (hj _ m_1292) (hj _ m_867) (hj _ m_868) (hj _ m_869) hK hP hD hS I_16 h_19 h_11 (by omega) (by omega) (by omega) (by omega) (by omega) (by omega) (by omega) (Nat.le_of_ble_eq_true rfl) (Nat.le_of_ble_eq_true rfl) dJ7_copyOf_59c91_28 (fun v_24 H locs f_25 I_26 hP hD hS => ?_)
    refine lv_aload_n hx hb dJ7_copyOf_59c91_31 rfl (lv_at hl 0 rfl) ?_
    have F_27 := frE_fr (W := [(66, (-1)), (99, 0)]) (W1 := [(66, (-1)), (99, 0)]) E_17 (fr_tr f_25 rfl fr_rf) rfl F_18
    rw [← hQ]
    refine jt_q (rv z_5) (rv_ref (h_11).1).symm ?_
    exact W.aret (v := rv z_5) hx hb hr (Or.inr ⟨_, rfl⟩) (rv_or z_5) (fun t ht hW => ⟨⟨opt z_5, (L_6, K_7, N_8, v_24), rfl, ⟨z_5, rfl, I_26, E_17, F_27, h_11⟩, by rw [ht]; exact hP, va_K.moved hW.alike hK, hD⟩, hS.F ht⟩) hS.2.2 dJ7_copyOf_59c91_32
  · refine lv_aload_n hx hb dJ7_copyOf_59c91_6 rfl (lv_at hl 0 rfl) ?_
    obtain ⟨q_29, h_30⟩ := xg_arr (cid := cid) (N := N) (v := v) q1 rfl
    refine va_clone (ad := "[I") (x := (Int.toNat (N p1), .inl (ar (v p1)))) hx hb (by rw [hml]; exact hl.1.symm) hown (hts (.methodLink RJ7 316 ⟨"[I", "clone", "()Ljava/lang/Object;"⟩) (jm m_1293)) (hts (.sameMethod "[I" "java/lang/Object" "clone" "()Ljava/lang/Object;") (jm m_1294)) (hts (.native ⟨"java/lang/Object", "clone", "()Ljava/lang/Object;"⟩) (jm m_1295)) (hts (.instanceMethod ⟨"java/lang/Object", "clone", "()Ljava/lang/Object;"⟩) (jm m_1296)) (hts (.selects "[I" ⟨"[I", "clone", "()Ljava/lang/Object;"⟩ ⟨"java/lang/Object", "clone", "()Ljava/lang/Object;"⟩) (jm m_1297)) hX.1.1.2.2 hK hP hD hS hA q_29 0 h_30 rfl (hK.2 0 _ rfl).2 (jfits_int _ _ _) (Nat.le_of_ble_eq_true rfl) (Nat.le_of_ble_eq_true rfl) (Nat.le_of_ble_eq_true rfl) (show 0 + Int.toNat (N p1) ≤ 600 by omega) dJ7_copyOf_59c91_7 (fun q_28 H hK2 hP hD hS => ?_)
    refine W.widen (k := 1) (n := 600) (Nat.le_of_ble_eq_true rfl) (show 0 + Int.toNat (N p1) ≤ 600 by omega) ?_
    obtain ⟨z_31, L_32, K_33, N_34, v_35, hz9, E_36, h_37, q_38, h_39, h_40, f_41, I_42, hP9, hD9⟩ := xcpy_25_66 q1 hI hP hD (by omega)
    subst hz9
    have hP := hP9
    have hD := hD9
    have F_44 := frE_frE (W := [(66, (-1)), (99, 0)]) hE0 (f_41 []) rfl hF0
    have E_43 := xE_tr hE0 E_36
    have h_45 := xE_ok E_36 q1
    have h_46 : N_34 p1 = 600 := xn_25 I_42 h_45
    have h_47 : 0 ≤ N_34 z_31 ∧ N_34 z_31 ≤ 600 := xn_66 I_42 h_37
    obtain ⟨q_48, h_49⟩ := xg_arr (cid := cid) (N := N_34) (v := v_35) h_37 rfl
    refine va_castA (nm := "[I") hx hb hown (hts (.classLink RJ7 317 "[I") (jm m_1298)) hP q_48 h_49 (hK.2 0 _ rfl).2 dJ7_copyOf_59c91_10 ?_
    rw [← hQ]
    refine jt_q (rv z_31) (rv_ref (h_37).1).symm ?_
    exact W.aret (v := rv z_31) hx hb hr (Or.inr ⟨_, rfl⟩) (rv_or z_31) (fun t ht hW => ⟨⟨opt z_31, (L_32, K_33, N_34, v_35), rfl, ⟨z_31, rfl, I_42, E_43, F_44, h_37⟩, by rw [ht]; exact hP, va_K.moved hW.alike hK, hD⟩, hS.F ht⟩) hS.2.2 dJ7_copyOf_59c91_13
set_option maxHeartbeats 2000000 in
set_option maxRecDepth 100000 in
theorem sJ7_copyOf_59c91_37_63 (l : Launch) (dC : Nat → ClassId) (dI : Nat → Nat → Nat) (sz : Nat) (L : List Nat) (cid : Nat → ClassId) (K : Int → Nat) (N : Int → Int) (tW : Nat) (sK sV : Nat → Nat) (v : Int → Int → Int) (p1 : Int) (p2 : Int) (hI : xI L K N v) (q1 : ok L K p1 37) (q2 : rg p2) (k1 : 0 ≤ p2 ∧ p2 ≤ 60) : Met l yJ7_copyOf_59c91 (jk yJ7_copyOf_59c91 cJ7_copyOf_59c91 3 (some (.array .int))) ({ frames := 1, cells := 1, slots := 60, locals := 80 }) (va_Pc [.ref p1.toNat, .int (iI p2)] (xP (dC, dI) (xG L cid K N v) (xT cid) tW sK sV sz)) (va_Qq (fun (r : Option Nat) (u : (List Nat × (Int → Nat) × (Int → Int) × (Int → Int → Int))) => ∃ z : Int, r = opt z ∧ (xI u.1 u.2.1 u.2.2.1 u.2.2.2) ∧ (xE L K N u.1 u.2.1 u.2.2.1) ∧ (frE L K [(63, (-1)), (99, 0)] u.2.2.2 v) ∧ (ok u.1 u.2.1 z 63)) (fun u t => va_P (dC, dI) vwCl (xG u.1 cid u.2.1 u.2.2.1 u.2.2.2) t.heap ∧ va_K (dC, dI) vwCl (xT cid) t ∧ va_D (va_A (xG L cid K N v) sz) (xG u.1 cid u.2.1 u.2.2.1 u.2.2.2)) (va_A (xG L cid K N v) sz)) 1 60 (va_A (xG L cid K N v) sz) := by
  refine Met.ofW (cc := cJ7_copyOf_59c91) (maxL := 3) (ret := (some (.array .int))) (by decide) rfl ?_
  intro p e s m args below meth c s₁ B hml hv
  obtain ⟨rfl, ⟨hsz, hP, hK, hD0⟩, hX⟩ := hv
  have hx := B.exec
  have hb := B.bytes
  have hr := B.returns
  have hts := atoms_spec (ws := (jk yJ7_copyOf_59c91 cJ7_copyOf_59c91 3 (some (.array .int)))) B.pre
  have hj : ∀ w ∈ jw, w.before ([.ref p1.toNat, .int (iI p2)] : List Value).toArray s = true := fun w h => hts w (jm h)
  have hown : s.vm.findClass RJ7 = some m.cls := findClass_of_methodNamed B.named
  subst hsz
  have hD := hD0.self (sz := s.heap.size)
  generalize hAe : (va_A (xG L cid K N v) s.heap.size) = A at hD hX ⊢
  have hA : ∀ q : Nat, s.heap.size ≤ q → A q := fun q h => by rw [← hAe]; exact Or.inr h
  have hS : va_S A s.heap s.heap [] := va_S.rf
  have hE0 : xE L K N L K N := xE_rf
  have hF0 : frE L K [(63, (-1)), (99, 0)] v v := frE_rf
  have hXa := hX
  have hP : va_P (dC, dI) vwCl (xG L cid K N v) s.heap := hP
  have hl := lv_entry ([.ref p1.toNat, .int (iI p2)]) (n := 3) (Nat.le_of_ble_eq_true rfl)
  rw [lg_entry_eq]
  generalize (lg_sl ([.ref p1.toNat, .int (iI p2)]) ++ List.replicate (3 - (lg_sl ([.ref p1.toNat, .int (iI p2)])).length) Slot.unset).toArray = ls at hl ⊢
  have hl : lv_has ls 3 [(0, .ref p1.toNat), (1, .int (iI p2))] := hl
  generalize hQ : MQ below (va_Qq (fun (r : Option Nat) (u : (List Nat × (Int → Nat) × (Int → Int) × (Int → Int → Int))) => ∃ z : Int, r = opt z ∧ (xI u.1 u.2.1 u.2.2.1 u.2.2.2) ∧ (xE L K N u.1 u.2.1 u.2.2.1) ∧ (frE L K [(63, (-1)), (99, 0)] u.2.2.2 v) ∧ (ok u.1 u.2.1 z 63)) (fun u t => va_P (dC, dI) vwCl (xG u.1 cid u.2.1 u.2.2.1 u.2.2.2) t.heap ∧ va_K (dC, dI) vwCl (xT cid) t ∧ va_D A (xG u.1 cid u.2.1 u.2.2.1 u.2.2.2)) A) ([.ref p1.toNat, .int (iI p2)] : List Value).toArray s 1 60 A = Q
  suffices ST : ∀ (H : Heap) (locs : List Loc), va_P (dC, dI) vwCl (xG L cid K N v) H → va_S A s.heap H locs → W p l e ({ frames := 1, cells := 1, slots := 60, locals := 80 }) s m ([.ref p1.toNat, .int (iI p2)] : List Value).toArray below meth c H locs 0 0 Q (F0 m 0 ls []) from ST _ _ hP hS
  clear hP hS
  intro H locs hP hS
  have h_1 : N p1 = 60 := xn_37 hI q1
  refine lv_iload_n hx hb dJ7_copyOf_59c91_0 rfl (lv_at hl 1 rfl) ?_
  refine lv_aload_n hx hb dJ7_copyOf_59c91_1 rfl (lv_at hl 0 rfl) ?_
  refine lx_37 (y := 60) hx hb hK hP q1 (by omega) (by omega) dJ7_copyOf_59c91_2 ?_
  refine xr_icmp_ne (tgt := 14) hx hb dJ7_copyOf_59c91_3 (by decide) (by omega) (by omega) (fun h_2 => ?_) (fun h_2 => ?_)
  · refine lv_iload_n hx hb dJ7_copyOf_59c91_14 rfl (lv_at hl 1 rfl) ?_
    refine va_newa (atype := .int) (n := iI p2) (N' := Int.toNat p2) (a0 := (Int.toNat p2, .inl (fun _ => 0))) (ty := .int) hx hb (hts (.arrayClass .int) (jm m_2)) rfl hK hP hD hS hA (fun _ => rfl) (xn_nn (by omega) (by omega)) (iI_clamp (by omega) (by omega)) (show Int.toNat p2 * 4 ≤ 536870912 by omega) (Nat.le_of_ble_eq_true rfl) (show 0 + Int.toNat p2 ≤ 60 by omega) dJ7_copyOf_59c91_15 (fun q_3 c_4 H hK2 hP hD hS => ?_)
    refine W.widen (k := 1) (n := 60) (Nat.le_of_ble_eq_true rfl) (by omega) ?_
    obtain ⟨z_5, L_6, K_7, N_8, v_9, hz9, E_10, h_11, q_12, h_13, h_14, f_15, I_16, hP9, hD9⟩ := xzero_63 hK2 hI hP hD (by omega)
    subst hz9
    have hP := hP9
    have hD := hD9
    have F_18 := frE_frE (W := [(63, (-1)), (99, 0)]) hE0 (f_15 []) rfl hF0
    have E_17 := xE_tr hE0 E_10
    have h_19 := xE_ok E_10 q1
    have h_20 : N_8 p1 = 60 := xn_37 I_16 h_19
    have h_21 : 0 ≤ N_8 z_5 ∧ N_8 z_5 ≤ 60 := xn_63 I_16 h_11
    refine lv_astore_n (i := 2) (lv' := [(2, .ref z_5.toNat), (0, .ref p1.toNat), (1, .int (iI p2))]) hx hb dJ7_copyOf_59c91_17 rfl hl (by decide) rfl (fun ls hl => ?_)
    refine lv_aload_n hx hb dJ7_copyOf_59c91_18 rfl (lv_at hl 1 rfl) ?_
    refine lv_iconst (v := iI 0) hx hb dJ7_copyOf_59c91_19 rfl ?_
    refine lv_aload_n hx hb dJ7_copyOf_59c91_20 rfl (lv_at hl 0 rfl) ?_
    refine lv_iconst (v := iI 0) hx hb dJ7_copyOf_59c91_21 rfl ?_
    refine lv_aload_n hx hb dJ7_copyOf_59c91_22 rfl (lv_at hl 1 rfl) ?_
    refine lx_37 (y := 60) hx hb hK hP h_19 (by omega) (by omega) dJ7_copyOf_59c91_23 ?_
    refine lv_iload_n hx hb dJ7_copyOf_59c91_24 rfl (lv_at hl 2 rfl) ?_
    refine va_mmin hx hb (by rw [hml]; exact hl.1.symm) hown (hj _ m_1291) (hj _ m_765) (hj _ m_762) (hj _ m_766) (Nat.le_of_ble_eq_true rfl) (Nat.le_of_ble_eq_true rfl) (Nat.le_of_ble_eq_true rfl) (Nat.le_of_ble_eq_true rfl) dJ7_copyOf_59c91_25 ?_
    refine xm_min (by omega) (by omega) (fun z_22 h_23 => ?_)
    refine xc2_37_63 hx hb (by rw [hml]; exact hl.1.symm) hown (hj _ m_1292) (hj _ m_867) (hj _ m_868) (hj _ m_869) hK hP hD hS I_16 h_19 h_11 (by omega) (by omega) (by omega) (by omega) (by omega) (by omega) (by omega) (Nat.le_of_ble_eq_true rfl) (Nat.le_of_ble_eq_true rfl) dJ7_copyOf_59c91_28 (fun v_24 H locs f_25 I_26 hP hD hS => ?_)
    refine lv_aload_n hx hb dJ7_copyOf_59c91_31 rfl (lv_at hl 0 rfl) ?_
    have F_27 := frE_fr (W := [(63, (-1)), (99, 0)]) (W1 := [(63, (-1)), (99, 0)]) E_17 (fr_tr f_25 rfl fr_rf) rfl F_18
    rw [← hQ]
    refine jt_q (rv z_5) (rv_ref (h_11).1).symm ?_
    exact W.aret (v := rv z_5) hx hb hr (Or.inr ⟨_, rfl⟩) (rv_or z_5) (fun t ht hW => ⟨⟨opt z_5, (L_6, K_7, N_8, v_24), rfl, ⟨z_5, rfl, I_26, E_17, F_27, h_11⟩, by rw [ht]; exact hP, va_K.moved hW.alike hK, hD⟩, hS.F ht⟩) hS.2.2 dJ7_copyOf_59c91_32
  · refine lv_aload_n hx hb dJ7_copyOf_59c91_6 rfl (lv_at hl 0 rfl) ?_
    obtain ⟨q_29, h_30⟩ := xg_arr (cid := cid) (N := N) (v := v) q1 rfl
    refine va_clone (ad := "[I") (x := (Int.toNat (N p1), .inl (ar (v p1)))) hx hb (by rw [hml]; exact hl.1.symm) hown (hts (.methodLink RJ7 316 ⟨"[I", "clone", "()Ljava/lang/Object;"⟩) (jm m_1293)) (hts (.sameMethod "[I" "java/lang/Object" "clone" "()Ljava/lang/Object;") (jm m_1294)) (hts (.native ⟨"java/lang/Object", "clone", "()Ljava/lang/Object;"⟩) (jm m_1295)) (hts (.instanceMethod ⟨"java/lang/Object", "clone", "()Ljava/lang/Object;"⟩) (jm m_1296)) (hts (.selects "[I" ⟨"[I", "clone", "()Ljava/lang/Object;"⟩ ⟨"java/lang/Object", "clone", "()Ljava/lang/Object;"⟩) (jm m_1297)) hX.1.1.2.2 hK hP hD hS hA q_29 0 h_30 rfl (hK.2 0 _ rfl).2 (jfits_int _ _ _) (Nat.le_of_ble_eq_true rfl) (Nat.le_of_ble_eq_true rfl) (Nat.le_of_ble_eq_true rfl) (show 0 + Int.toNat (N p1) ≤ 60 by omega) dJ7_copyOf_59c91_7 (fun q_28 H hK2 hP hD hS => ?_)
    refine W.widen (k := 1) (n := 60) (Nat.le_of_ble_eq_true rfl) (show 0 + Int.toNat (N p1) ≤ 60 by omega) ?_
    obtain ⟨z_31, L_32, K_33, N_34, v_35, hz9, E_36, h_37, q_38, h_39, h_40, f_41, I_42, hP9, hD9⟩ := xcpy_37_63 q1 hI hP hD (by omega)
    subst hz9
    have hP := hP9
    have hD := hD9
    have F_44 := frE_frE (W := [(63, (-1)), (99, 0)]) hE0 (f_41 []) rfl hF0
    have E_43 := xE_tr hE0 E_36
    have h_45 := xE_ok E_36 q1
    have h_46 : N_34 p1 = 60 := xn_37 I_42 h_45
    have h_47 : 0 ≤ N_34 z_31 ∧ N_34 z_31 ≤ 60 := xn_63 I_42 h_37
    obtain ⟨q_48, h_49⟩ := xg_arr (cid := cid) (N := N_34) (v := v_35) h_37 rfl
    refine va_castA (nm := "[I") hx hb hown (hts (.classLink RJ7 317 "[I") (jm m_1298)) hP q_48 h_49 (hK.2 0 _ rfl).2 dJ7_copyOf_59c91_10 ?_
    rw [← hQ]
    refine jt_q (rv z_31) (rv_ref (h_37).1).symm ?_
    exact W.aret (v := rv z_31) hx hb hr (Or.inr ⟨_, rfl⟩) (rv_or z_31) (fun t ht hW => ⟨⟨opt z_31, (L_32, K_33, N_34, v_35), rfl, ⟨z_31, rfl, I_42, E_43, F_44, h_37⟩, by rw [ht]; exact hP, va_K.moved hW.alike hK, hD⟩, hS.F ht⟩) hS.2.2 dJ7_copyOf_59c91_13
set_option maxHeartbeats 2000000 in
set_option maxRecDepth 100000 in
theorem sJ7_copyOf_c38d5_28_69 (l : Launch) (dC : Nat → ClassId) (dI : Nat → Nat → Nat) (sz : Nat) (L : List Nat) (cid : Nat → ClassId) (K : Int → Nat) (N : Int → Int) (tW : Nat) (sK sV : Nat → Nat) (v : Int → Int → Int) (p1 : Int) (p2 : Int) (hI : xI L K N v) (q1 : ok L K p1 28) (q2 : rg p2) (k1 : 0 ≤ p2 ∧ p2 ≤ 4) : Met l yJ7_copyOf_c38d5 (jk yJ7_copyOf_c38d5 cJ7_copyOf_c38d5 3 (some (.array .long))) ({ frames := 1, cells := 1, slots := 4, locals := 80 }) (va_Pc [.ref p1.toNat, .int (iI p2)] (xP (dC, dI) (xG L cid K N v) (xT cid) tW sK sV sz)) (va_Qq (fun (r : Option Nat) (u : (List Nat × (Int → Nat) × (Int → Int) × (Int → Int → Int))) => ∃ z : Int, r = opt z ∧ (xI u.1 u.2.1 u.2.2.1 u.2.2.2) ∧ (xE L K N u.1 u.2.1 u.2.2.1) ∧ (frE L K [(69, (-1)), (99, 0)] u.2.2.2 v) ∧ (ok u.1 u.2.1 z 69)) (fun u t => va_P (dC, dI) vwCl (xG u.1 cid u.2.1 u.2.2.1 u.2.2.2) t.heap ∧ va_K (dC, dI) vwCl (xT cid) t ∧ va_D (va_A (xG L cid K N v) sz) (xG u.1 cid u.2.1 u.2.2.1 u.2.2.2)) (va_A (xG L cid K N v) sz)) 1 4 (va_A (xG L cid K N v) sz) := by
  refine Met.ofW (cc := cJ7_copyOf_c38d5) (maxL := 3) (ret := (some (.array .long))) (by decide) rfl ?_
  intro p e s m args below meth c s₁ B hml hv
  obtain ⟨rfl, ⟨hsz, hP, hK, hD0⟩, hX⟩ := hv
  have hx := B.exec
  have hb := B.bytes
  have hr := B.returns
  have hts := atoms_spec (ws := (jk yJ7_copyOf_c38d5 cJ7_copyOf_c38d5 3 (some (.array .long)))) B.pre
  have hj : ∀ w ∈ jw, w.before ([.ref p1.toNat, .int (iI p2)] : List Value).toArray s = true := fun w h => hts w (jm h)
  have hown : s.vm.findClass RJ7 = some m.cls := findClass_of_methodNamed B.named
  subst hsz
  have hD := hD0.self (sz := s.heap.size)
  generalize hAe : (va_A (xG L cid K N v) s.heap.size) = A at hD hX ⊢
  have hA : ∀ q : Nat, s.heap.size ≤ q → A q := fun q h => by rw [← hAe]; exact Or.inr h
  have hS : va_S A s.heap s.heap [] := va_S.rf
  have hE0 : xE L K N L K N := xE_rf
  have hF0 : frE L K [(69, (-1)), (99, 0)] v v := frE_rf
  have hXa := hX
  have hP : va_P (dC, dI) vwCl (xG L cid K N v) s.heap := hP
  have hl := lv_entry ([.ref p1.toNat, .int (iI p2)]) (n := 3) (Nat.le_of_ble_eq_true rfl)
  rw [lg_entry_eq]
  generalize (lg_sl ([.ref p1.toNat, .int (iI p2)]) ++ List.replicate (3 - (lg_sl ([.ref p1.toNat, .int (iI p2)])).length) Slot.unset).toArray = ls at hl ⊢
  have hl : lv_has ls 3 [(0, .ref p1.toNat), (1, .int (iI p2))] := hl
  generalize hQ : MQ below (va_Qq (fun (r : Option Nat) (u : (List Nat × (Int → Nat) × (Int → Int) × (Int → Int → Int))) => ∃ z : Int, r = opt z ∧ (xI u.1 u.2.1 u.2.2.1 u.2.2.2) ∧ (xE L K N u.1 u.2.1 u.2.2.1) ∧ (frE L K [(69, (-1)), (99, 0)] u.2.2.2 v) ∧ (ok u.1 u.2.1 z 69)) (fun u t => va_P (dC, dI) vwCl (xG u.1 cid u.2.1 u.2.2.1 u.2.2.2) t.heap ∧ va_K (dC, dI) vwCl (xT cid) t ∧ va_D A (xG u.1 cid u.2.1 u.2.2.1 u.2.2.2)) A) ([.ref p1.toNat, .int (iI p2)] : List Value).toArray s 1 4 A = Q
  suffices ST : ∀ (H : Heap) (locs : List Loc), va_P (dC, dI) vwCl (xG L cid K N v) H → va_S A s.heap H locs → W p l e ({ frames := 1, cells := 1, slots := 4, locals := 80 }) s m ([.ref p1.toNat, .int (iI p2)] : List Value).toArray below meth c H locs 0 0 Q (F0 m 0 ls []) from ST _ _ hP hS
  clear hP hS
  intro H locs hP hS
  have h_1 : N p1 = 4 := xn_28 hI q1
  refine lv_iload_n hx hb dJ7_copyOf_c38d5_0 rfl (lv_at hl 1 rfl) ?_
  refine lv_aload_n hx hb dJ7_copyOf_c38d5_1 rfl (lv_at hl 0 rfl) ?_
  refine lx_28 (y := 4) hx hb hK hP q1 (by omega) (by omega) dJ7_copyOf_c38d5_2 ?_
  refine xr_icmp_ne (tgt := 14) hx hb dJ7_copyOf_c38d5_3 (by decide) (by omega) (by omega) (fun h_2 => ?_) (fun h_2 => ?_)
  · refine lv_iload_n hx hb dJ7_copyOf_c38d5_14 rfl (lv_at hl 1 rfl) ?_
    refine va_newa (atype := .long) (n := iI p2) (N' := Int.toNat p2) (a0 := (Int.toNat p2, .inr (.inl (fun _ => 0)))) (ty := .long) hx hb (hts (.arrayClass .long) (jm m_1299)) rfl hK hP hD hS hA (fun _ => rfl) (xn_nn (by omega) (by omega)) (iI_clamp (by omega) (by omega)) (show Int.toNat p2 * 8 ≤ 536870912 by omega) (Nat.le_of_ble_eq_true rfl) (show 0 + Int.toNat p2 ≤ 4 by omega) dJ7_copyOf_c38d5_15 (fun q_3 c_4 H hK2 hP hD hS => ?_)
    refine W.widen (k := 1) (n := 4) (Nat.le_of_ble_eq_true rfl) (by omega) ?_
    obtain ⟨z_5, L_6, K_7, N_8, v_9, hz9, E_10, h_11, q_12, h_13, h_14, f_15, I_16, hP9, hD9⟩ := xzero_69 hK2 hI hP hD (by omega)
    subst hz9
    have hP := hP9
    have hD := hD9
    have F_18 := frE_frE (W := [(69, (-1)), (99, 0)]) hE0 (f_15 []) rfl hF0
    have E_17 := xE_tr hE0 E_10
    have h_19 := xE_ok E_10 q1
    have h_20 : N_8 p1 = 4 := xn_28 I_16 h_19
    have h_21 : 0 ≤ N_8 z_5 ∧ N_8 z_5 ≤ 4 := xn_69 I_16 h_11
    refine lv_astore_n (i := 2) (lv' := [(2, .ref z_5.toNat), (0, .ref p1.toNat), (1, .int (iI p2))]) hx hb dJ7_copyOf_c38d5_17 rfl hl (by decide) rfl (fun ls hl => ?_)
    refine lv_aload_n hx hb dJ7_copyOf_c38d5_18 rfl (lv_at hl 1 rfl) ?_
    refine lv_iconst (v := iI 0) hx hb dJ7_copyOf_c38d5_19 rfl ?_
    refine lv_aload_n hx hb dJ7_copyOf_c38d5_20 rfl (lv_at hl 0 rfl) ?_
    refine lv_iconst (v := iI 0) hx hb dJ7_copyOf_c38d5_21 rfl ?_
    refine lv_aload_n hx hb dJ7_copyOf_c38d5_22 rfl (lv_at hl 1 rfl) ?_
    refine lx_28 (y := 4) hx hb hK hP h_19 (by omega) (by omega) dJ7_copyOf_c38d5_23 ?_
    refine lv_iload_n hx hb dJ7_copyOf_c38d5_24 rfl (lv_at hl 2 rfl) ?_
    refine va_mmin hx hb (by rw [hml]; exact hl.1.symm) hown (hj _ m_1291) (hj _ m_765) (hj _ m_762) (hj _ m_766) (Nat.le_of_ble_eq_true rfl) (Nat.le_of_ble_eq_true rfl) (Nat.le_of_ble_eq_true rfl) (Nat.le_of_ble_eq_true rfl) dJ7_copyOf_c38d5_25 ?_
    refine xm_min (by omega) (by omega) (fun z_22 h_23 => ?_)
    refine xc2_28_69 hx hb (by rw [hml]; exact hl.1.symm) hown (hj _ m_1292) (hj _ m_867) (hj _ m_868) (hj _ m_869) hK hP hD hS I_16 h_19 h_11 (by omega) (by omega) (by omega) (by omega) (by omega) (by omega) (by omega) (Nat.le_of_ble_eq_true rfl) (Nat.le_of_ble_eq_true rfl) dJ7_copyOf_c38d5_28 (fun v_24 H locs f_25 I_26 hP hD hS => ?_)
    refine lv_aload_n hx hb dJ7_copyOf_c38d5_31 rfl (lv_at hl 0 rfl) ?_
    have F_27 := frE_fr (W := [(69, (-1)), (99, 0)]) (W1 := [(69, (-1)), (99, 0)]) E_17 (fr_tr f_25 rfl fr_rf) rfl F_18
    rw [← hQ]
    refine jt_q (rv z_5) (rv_ref (h_11).1).symm ?_
    exact W.aret (v := rv z_5) hx hb hr (Or.inr ⟨_, rfl⟩) (rv_or z_5) (fun t ht hW => ⟨⟨opt z_5, (L_6, K_7, N_8, v_24), rfl, ⟨z_5, rfl, I_26, E_17, F_27, h_11⟩, by rw [ht]; exact hP, va_K.moved hW.alike hK, hD⟩, hS.F ht⟩) hS.2.2 dJ7_copyOf_c38d5_32
  · refine lv_aload_n hx hb dJ7_copyOf_c38d5_6 rfl (lv_at hl 0 rfl) ?_
    obtain ⟨q_29, h_30⟩ := xg_arr (cid := cid) (N := N) (v := v) q1 rfl
    refine va_clone (ad := "[J") (x := (Int.toNat (N p1), .inr (.inl (al (v p1))))) hx hb (by rw [hml]; exact hl.1.symm) hown (hts (.methodLink RJ7 319 ⟨"[J", "clone", "()Ljava/lang/Object;"⟩) (jm m_1300)) (hts (.sameMethod "[J" "java/lang/Object" "clone" "()Ljava/lang/Object;") (jm m_1301)) (hts (.native ⟨"java/lang/Object", "clone", "()Ljava/lang/Object;"⟩) (jm m_1295)) (hts (.instanceMethod ⟨"java/lang/Object", "clone", "()Ljava/lang/Object;"⟩) (jm m_1296)) (hts (.selects "[J" ⟨"[J", "clone", "()Ljava/lang/Object;"⟩ ⟨"java/lang/Object", "clone", "()Ljava/lang/Object;"⟩) (jm m_1302)) hX.1.2 hK hP hD hS hA q_29 3 h_30 rfl (hK.2 3 _ rfl).2 (jfits_lon _ _ _) (Nat.le_of_ble_eq_true rfl) (Nat.le_of_ble_eq_true rfl) (Nat.le_of_ble_eq_true rfl) (show 0 + Int.toNat (N p1) ≤ 4 by omega) dJ7_copyOf_c38d5_7 (fun q_28 H hK2 hP hD hS => ?_)
    refine W.widen (k := 1) (n := 4) (Nat.le_of_ble_eq_true rfl) (show 0 + Int.toNat (N p1) ≤ 4 by omega) ?_
    obtain ⟨z_31, L_32, K_33, N_34, v_35, hz9, E_36, h_37, q_38, h_39, h_40, f_41, I_42, hP9, hD9⟩ := xcpy_28_69 q1 hI hP hD (by omega)
    subst hz9
    have hP := hP9
    have hD := hD9
    have F_44 := frE_frE (W := [(69, (-1)), (99, 0)]) hE0 (f_41 []) rfl hF0
    have E_43 := xE_tr hE0 E_36
    have h_45 := xE_ok E_36 q1
    have h_46 : N_34 p1 = 4 := xn_28 I_42 h_45
    have h_47 : 0 ≤ N_34 z_31 ∧ N_34 z_31 ≤ 4 := xn_69 I_42 h_37
    obtain ⟨q_48, h_49⟩ := xg_arr (cid := cid) (N := N_34) (v := v_35) h_37 rfl
    refine va_castA (nm := "[J") hx hb hown (hts (.classLink RJ7 320 "[J") (jm m_1303)) hP q_48 h_49 (hK.2 3 _ rfl).2 dJ7_copyOf_c38d5_10 ?_
    rw [← hQ]
    refine jt_q (rv z_31) (rv_ref (h_37).1).symm ?_
    exact W.aret (v := rv z_31) hx hb hr (Or.inr ⟨_, rfl⟩) (rv_or z_31) (fun t ht hW => ⟨⟨opt z_31, (L_32, K_33, N_34, v_35), rfl, ⟨z_31, rfl, I_42, E_43, F_44, h_37⟩, by rw [ht]; exact hP, va_K.moved hW.alike hK, hD⟩, hS.F ht⟩) hS.2.2 dJ7_copyOf_c38d5_13
set_option maxHeartbeats 2000000 in
set_option maxRecDepth 100000 in
theorem sX7_compiled (l : Launch) (dC : Nat → ClassId) (dI : Nat → Nat → Nat) (sz : Nat) (L : List Nat) (cid : Nat → ClassId) (K : Int → Nat) (N : Int → Int) (tW : Nat) (sK sV : Nat → Nat) (v : Int → Int → Int) (p0 : Int) (hI : xI L K N v) (q0 : ok L K p0 7) : Met l yX7_compiled (jk yX7_compiled cX7_compiled 2 (some (.object "BookOfAll$Sheet"))) ({ frames := 2, cells := 5, slots := 636, locals := 102 }) (va_Pc [.ref p0.toNat] (xP (dC, dI) (xG L cid K N v) (xT cid) tW sK sV sz)) (va_Qq (fun (r : Option Nat) (u : (List Nat × (Int → Nat) × (Int → Int) × (Int → Int → Int))) => ∃ z : Int, r = opt z ∧ (xI u.1 u.2.1 u.2.2.1 u.2.2.2) ∧ (xE L K N u.1 u.2.1 u.2.2.1) ∧ (frE L K [(13, 0), (13, 1), (13, 2), (13, 3), (66, (-1)), (69, (-1)), (99, 0)] u.2.2.2 v) ∧ (ok u.1 u.2.1 z 9)) (fun u t => va_P (dC, dI) vwCl (xG u.1 cid u.2.1 u.2.2.1 u.2.2.2) t.heap ∧ va_K (dC, dI) vwCl (xT cid) t ∧ va_D (va_A (xG L cid K N v) sz) (xG u.1 cid u.2.1 u.2.2.1 u.2.2.2)) (va_A (xG L cid K N v) sz)) 5 636 (va_A (xG L cid K N v) sz) := by
  refine Met.ofW (cc := cX7_compiled) (maxL := 2) (ret := (some (.object "BookOfAll$Sheet"))) (by decide) rfl ?_
  intro p e s m args below meth c s₁ B hml hv
  obtain ⟨rfl, ⟨hsz, hP, hK, hD0⟩, hX⟩ := hv
  have hx := B.exec
  have hb := B.bytes
  have hr := B.returns
  have hts := atoms_spec (ws := (jk yX7_compiled cX7_compiled 2 (some (.object "BookOfAll$Sheet")))) B.pre
  have hj : ∀ w ∈ jw, w.before ([.ref p0.toNat] : List Value).toArray s = true := fun w h => hts w (jm h)
  have hown : s.vm.findClass RX7 = some m.cls := findClass_of_methodNamed B.named
  subst hsz
  have hD := hD0.self (sz := s.heap.size)
  generalize hAe : (va_A (xG L cid K N v) s.heap.size) = A at hD hX ⊢
  have hA : ∀ q : Nat, s.heap.size ≤ q → A q := fun q h => by rw [← hAe]; exact Or.inr h
  have hS : va_S A s.heap s.heap [] := va_S.rf
  have hE0 : xE L K N L K N := xE_rf
  have hF0 : frE L K [(13, 0), (13, 1), (13, 2), (13, 3), (66, (-1)), (69, (-1)), (99, 0)] v v := frE_rf
  have hXa := hX
  have hP : va_P (dC, dI) vwCl (xG L cid K N v) s.heap := hP
  have hl := lv_entry ([.ref p0.toNat]) (n := 2) (Nat.le_of_ble_eq_true rfl)
  rw [lg_entry_eq]
  generalize (lg_sl ([.ref p0.toNat]) ++ List.replicate (2 - (lg_sl ([.ref p0.toNat])).length) Slot.unset).toArray = ls at hl ⊢
  have hl : lv_has ls 2 [(0, .ref p0.toNat)] := hl
  generalize hQ : MQ below (va_Qq (fun (r : Option Nat) (u : (List Nat × (Int → Nat) × (Int → Int) × (Int → Int → Int))) => ∃ z : Int, r = opt z ∧ (xI u.1 u.2.1 u.2.2.1 u.2.2.2) ∧ (xE L K N u.1 u.2.1 u.2.2.1) ∧ (frE L K [(13, 0), (13, 1), (13, 2), (13, 3), (66, (-1)), (69, (-1)), (99, 0)] u.2.2.2 v) ∧ (ok u.1 u.2.1 z 9)) (fun u t => va_P (dC, dI) vwCl (xG u.1 cid u.2.1 u.2.2.1 u.2.2.2) t.heap ∧ va_K (dC, dI) vwCl (xT cid) t ∧ va_D A (xG u.1 cid u.2.1 u.2.2.1 u.2.2.2)) A) ([.ref p0.toNat] : List Value).toArray s 5 636 A = Q
  suffices ST : ∀ (H : Heap) (locs : List Loc), va_P (dC, dI) vwCl (xG L cid K N v) H → va_S A s.heap H locs → W p l e ({ frames := 2, cells := 5, slots := 636, locals := 102 }) s m ([.ref p0.toNat] : List Value).toArray below meth c H locs 0 0 Q (F0 m 0 ls []) from ST _ _ hP hS
  clear hP hS
  intro H locs hP hS
  refine va_new (ci := 9) (fs := [.null, .null, .null, .null]) (C := RX9) (T := TX9) (N := 4) hx hb hts (jh hin_RX9) tyX9 tyX9_ok hown (hts (.classLink RX7 31 RX9) (jm m_1304)) (hts (.instantiable RX9 4) (jm m_1305)) (hts (.initialized RX9) (jm m_933)) hK hP hD hS hA rfl jd_RX9 (Nat.le_of_ble_eq_true rfl) (Nat.le_of_ble_eq_true rfl) dX7_compiled_0 (fun q_1 H hPn hDn hS => ?_)
  refine W.widen (k := 1) (n := 4) (Nat.le_of_ble_eq_true rfl) (Nat.le_of_ble_eq_true rfl) ?_
  have hP := jp_init hPn
  have hD := jd_init hDn
  refine lv_dup hx hb dX7_compiled_3 rfl ?_
  refine jci_v (va_runIN (As := []) (rest := [.ref q_1]) ⟨hx, hb, hml, hown, hts⟩ (iX9_init_1 l dC dI _ q_1 ) ⟨va_cnB (host := RX12) 0 hts (jgoodI m_1309) rfl rfl rfl (hX.1.1.2.1 (RX7, 75, yX9_init) (by decide +kernel)) (hts (.initialized RX9) (jm m_933)) (by decide +kernel) ⟨(Nat.le_of_ble_eq_true rfl), (Nat.le_of_ble_eq_true rfl)⟩, rfl, (hts (.instanceMethod yX9_init) (jm m_1310))⟩ ⟨jw_blind, fun U hU hW => ⟨rfl, jw_of hU hW (jp_last hPn) (hK.sub [] rfl) (jd_last hDn)⟩⟩ rfl rfl hl.1 rfl (lv_room (Nat.le_of_ble_eq_true rfl)) dX7_compiled_4 ⟨(Nat.le_of_ble_eq_true rfl), (Nat.le_of_ble_eq_true rfl)⟩) hPn hDn hS hA (fun u_2 H locs hPn hK2 hDn hS => ?_)
  refine W.widen (k := 1) (n := 4) (Nat.le_of_ble_eq_true rfl) (Nat.le_of_ble_eq_true rfl) ?_
  obtain ⟨z_3, L_4, K_5, N_6, v_7, hz9, E_8, h_9, q_10, h_11, h_12, f_13, I_14, hP9, hD9⟩ := xnew_13 hI hPn hDn
  subst hz9
  have hP := hP9
  have hD := hD9
  have F_16 := frE_frE (W := [(13, 0), (13, 1), (13, 2), (13, 3), (66, (-1)), (69, (-1)), (99, 0)]) hE0 (f_13 []) rfl hF0
  have E_15 := xE_tr hE0 E_8
  have h_17 := xE_ok E_8 q0
  refine lv_astore_n (i := 1) (lv' := [(1, .ref z_3.toNat), (0, .ref p0.toNat)]) hx hb dX7_compiled_7 rfl hl (by decide) rfl (fun ls hl => ?_)
  refine lv_aload_n hx hb dX7_compiled_8 rfl (lv_at hl 0 rfl) ?_
  refine lv_aload_n hx hb dX7_compiled_9 rfl (lv_at hl 1 rfl) ?_
  have h_18 : ok L_4 K_5 (v p0 9) 25 := (by have h9 := xf_7_9 I_14 h_17; rw [(frE_use q0 (f_13 []) rfl)] at h9; exact h9)
  have h_19 : N_6 (v p0 9) = 600 := xn_25 I_14 h_18
  refine gx_RX7_28 (y := v p0 9) hx hb hj hown hK hP h_17 ((xf_7_9 I_14 h_17).1) (frE_use q0 (f_13 []) rfl) dX7_compiled_10 ?_
  refine lv_iconst (v := iI 0) hx hb dX7_compiled_13 rfl ?_
  refine lv_aload_n hx hb dX7_compiled_14 rfl (lv_at hl 1 rfl) ?_
  have h_20 : 0 ≤ v p0 10 ∧ v p0 10 ≤ 600 := xf_7_10 hI q0
  refine gx_RX7_56 (y := v p0 10) hx hb hj hown hK hP h_17 (frE_use q0 (f_13 []) rfl) dX7_compiled_15 ?_
  refine va_mmax hx hb (by rw [hml]; exact hl.1.symm) hown (hj _ m_1311) (hj _ m_761) (hj _ m_762) (hj _ m_763) (Nat.le_of_ble_eq_true rfl) (Nat.le_of_ble_eq_true rfl) (Nat.le_of_ble_eq_true rfl) (Nat.le_of_ble_eq_true rfl) dX7_compiled_18 ?_
  refine xm_max (by omega) (by omega) (fun z_21 h_22 => ?_)
  refine jcg_q (va_runS (As := [.ref (v p0 9).toNat, .int (iI z_21)]) (rest := [.ref z_3.toNat]) ⟨hx, hb, hml, hown, hts⟩ (sJ7_copyOf_59c91_25_66 l dC dI _ L_4 cid K_5 N_6 tW sK sV v_7 (v p0 9) z_21 I_14 h_18 (by omega) (by omega)) (va_cwS 2 hts (jgoodS m_1312 m_1313 m_842 m_1314) rfl rfl rfl (by decide +kernel) ⟨(Nat.le_of_ble_eq_true rfl), (Nat.le_of_ble_eq_true rfl)⟩) ⟨xP_blind, fun U hU hW => ⟨rfl, xP_of hU hW hP hK hD hX hS (fun _ h => h) hA⟩⟩ rfl rfl hl.1 rfl (lv_room (Nat.le_of_ble_eq_true rfl)) dX7_compiled_21 ⟨(Nat.le_of_ble_eq_true rfl), (Nat.le_of_ble_eq_true rfl)⟩) hD hS hA (fun r_23 u_27 H locs w_24 hP hK hD hS => ?_)
  refine W.widen (k := 2) (n := 604) (Nat.le_of_ble_eq_true rfl) (Nat.le_of_ble_eq_true rfl) ?_
  obtain ⟨L_28, K_29, N_30, v_31⟩ := u_27
  obtain ⟨z_25, rfl, I_33, E_34, f_32, h_26⟩ := w_24
  have hP : va_P (dC, dI) vwCl (xG L_28 cid K_29 N_30 v_31) H := hP
  have hD : va_D A (xG L_28 cid K_29 N_30 v_31) := hD
  have I_33 : xI L_28 K_29 N_30 v_31 := I_33
  have E_34 : xE L_4 K_5 N_6 L_28 K_29 N_30 := E_34
  have f_32 : frE L_4 K_5 [(66, (-1)), (99, 0)] v_31 v_7 := f_32
  have F_36 := frE_frE (W := [(13, 0), (13, 1), (13, 2), (13, 3), (66, (-1)), (69, (-1)), (99, 0)]) E_15 f_32 rfl F_16
  have E_35 := xE_tr E_15 E_34
  have h_37 := xE_ok E_34 h_17
  have h_38 := xE_ok E_34 h_9
  have h_39 := xE_ok E_34 h_18
  have h_40 : N_30 (v p0 9) = 600 := xn_25 I_33 h_39
  refine jt_q (.ref z_25.toNat) (rv_ref h_26.1) ?_
  refine px_RX7_86 (y := z_25) hx hb hj hown hK hP hD hS I_33 h_38 (h_26).1 dX7_compiled_24 (fun v_41 H locs f_42 e_43 o_44 I_45 hP hD hS => ?_)
  refine lv_aload_n hx hb dX7_compiled_27 rfl (lv_at hl 0 rfl) ?_
  refine lv_aload_n hx hb dX7_compiled_28 rfl (lv_at hl 1 rfl) ?_
  have h_46 : ok L_28 K_29 (v p0 11) 26 := (by have h9 := xf_7_11 I_45 h_37; rw [(((fr_use h_37 f_42 rfl)).trans (((frE_use h_17 f_32 rfl)).trans (frE_use q0 (f_13 []) rfl)))] at h9; exact h9)
  have h_47 : N_30 (v p0 11) = 14 := xn_26 I_45 h_46
  refine gx_RX7_33 (y := v p0 11) hx hb hj hown hK hP h_37 ((xf_7_11 I_45 h_37).1) (((fr_use h_37 f_42 rfl)).trans (((frE_use h_17 f_32 rfl)).trans (frE_use q0 (f_13 []) rfl))) dX7_compiled_29 ?_
  obtain ⟨q_49, h_50⟩ := xg_arr (cid := cid) (N := N_30) (v := v_41) h_46 rfl
  refine va_clone (ad := "[I") (x := (Int.toNat (N_30 (v p0 11)), .inl (ar (v_41 (v p0 11))))) hx hb (by rw [hml]; exact hl.1.symm) hown (hts (.methodLink RX7 87 ⟨"[I", "clone", "()Ljava/lang/Object;"⟩) (jm m_1315)) (hts (.sameMethod "[I" "java/lang/Object" "clone" "()Ljava/lang/Object;") (jm m_1294)) (hts (.native ⟨"java/lang/Object", "clone", "()Ljava/lang/Object;"⟩) (jm m_1295)) (hts (.instanceMethod ⟨"java/lang/Object", "clone", "()Ljava/lang/Object;"⟩) (jm m_1296)) (hts (.selects "[I" ⟨"[I", "clone", "()Ljava/lang/Object;"⟩ ⟨"java/lang/Object", "clone", "()Ljava/lang/Object;"⟩) (jm m_1297)) hX.1.1.2.2 hK hP hD hS hA q_49 0 h_50 rfl (hK.2 0 _ rfl).2 (jfits_int _ _ _) (Nat.le_of_ble_eq_true rfl) (Nat.le_of_ble_eq_true rfl) (Nat.le_of_ble_eq_true rfl) (show 604 + Int.toNat (N_30 (v p0 11)) ≤ 636 by omega) dX7_compiled_32 (fun q_48 H hK2 hP hD hS => ?_)
  refine W.widen (k := 3) (n := 618) (Nat.le_of_ble_eq_true rfl) (show 604 + Int.toNat (N_30 (v p0 11)) ≤ 618 by omega) ?_
  obtain ⟨z_51, L_52, K_53, N_54, v_55, hz9, E_56, h_57, q_58, h_59, h_60, f_61, I_62, hP9, hD9⟩ := xcpy_26_67 h_46 I_45 hP hD (by omega)
  subst hz9
  have hP := hP9
  have hD := hD9
  have F_63 := frE_fr (W := [(13, 0), (13, 1), (13, 2), (13, 3), (66, (-1)), (69, (-1)), (99, 0)]) (W1 := [(13, 0), (13, 1), (13, 2), (13, 3), (66, (-1)), (69, (-1)), (99, 0)]) E_35 (fr_tr f_42 rfl fr_rf) rfl F_36
  have F_65 := frE_frE (W := [(13, 0), (13, 1), (13, 2), (13, 3), (66, (-1)), (69, (-1)), (99, 0)]) E_35 (f_61 []) rfl F_63
  have E_64 := xE_tr E_35 E_56
  have h_66 := xE_ok E_56 h_37
  have h_67 := xE_ok E_56 h_38
  have h_68 := xE_ok E_56 h_39
  have h_69 := xE_ok E_56 h_26
  have h_70 := xE_ok E_56 h_46
  have h_71 : N_54 (v p0 9) = 600 := xn_25 I_62 h_68
  have h_72 : 0 ≤ N_54 z_25 ∧ N_54 z_25 ≤ 600 := xn_66 I_62 h_69
  have h_73 : N_54 (v p0 11) = 14 := xn_26 I_62 h_70
  have h_74 : N_54 z_51 = 14 := xn_67 I_62 h_57
  obtain ⟨q_75, h_76⟩ := xg_arr (cid := cid) (N := N_54) (v := v_55) h_57 rfl
  refine va_castA (nm := "[I") hx hb hown (hts (.classLink RX7 88 "[I") (jm m_1316)) hP q_75 h_76 (hK.2 0 _ rfl).2 dX7_compiled_35 ?_
  refine px_RX7_92 (y := z_51) hx hb hj hown hK hP hD hS I_62 h_67 (h_57).1 dX7_compiled_38 (fun v_77 H locs f_78 e_79 o_80 I_81 hP hD hS => ?_)
  refine lv_aload_n hx hb dX7_compiled_41 rfl (lv_at hl 0 rfl) ?_
  refine lv_aload_n hx hb dX7_compiled_42 rfl (lv_at hl 1 rfl) ?_
  have h_82 : ok L_52 K_53 (v p0 12) 27 := (by have h9 := xf_7_12 I_81 h_66; rw [(((fr_use h_66 f_78 rfl)).trans (((frE_use h_37 (f_61 []) rfl)).trans (((fr_use h_37 f_42 rfl)).trans (((frE_use h_17 f_32 rfl)).trans (frE_use q0 (f_13 []) rfl)))))] at h9; exact h9)
  have h_83 : N_54 (v p0 12) = 14 := xn_27 I_81 h_82
  refine gx_RX7_36 (y := v p0 12) hx hb hj hown hK hP h_66 ((xf_7_12 I_81 h_66).1) (((fr_use h_66 f_78 rfl)).trans (((frE_use h_37 (f_61 []) rfl)).trans (((fr_use h_37 f_42 rfl)).trans (((frE_use h_17 f_32 rfl)).trans (frE_use q0 (f_13 []) rfl))))) dX7_compiled_43 ?_
  obtain ⟨q_85, h_86⟩ := xg_arr (cid := cid) (N := N_54) (v := v_77) h_82 rfl
  refine va_clone (ad := "[I") (x := (Int.toNat (N_54 (v p0 12)), .inl (ar (v_77 (v p0 12))))) hx hb (by rw [hml]; exact hl.1.symm) hown (hts (.methodLink RX7 87 ⟨"[I", "clone", "()Ljava/lang/Object;"⟩) (jm m_1315)) (hts (.sameMethod "[I" "java/lang/Object" "clone" "()Ljava/lang/Object;") (jm m_1294)) (hts (.native ⟨"java/lang/Object", "clone", "()Ljava/lang/Object;"⟩) (jm m_1295)) (hts (.instanceMethod ⟨"java/lang/Object", "clone", "()Ljava/lang/Object;"⟩) (jm m_1296)) (hts (.selects "[I" ⟨"[I", "clone", "()Ljava/lang/Object;"⟩ ⟨"java/lang/Object", "clone", "()Ljava/lang/Object;"⟩) (jm m_1297)) hX.1.1.2.2 hK hP hD hS hA q_85 0 h_86 rfl (hK.2 0 _ rfl).2 (jfits_int _ _ _) (Nat.le_of_ble_eq_true rfl) (Nat.le_of_ble_eq_true rfl) (Nat.le_of_ble_eq_true rfl) (show 618 + Int.toNat (N_54 (v p0 12)) ≤ 636 by omega) dX7_compiled_46 (fun q_84 H hK2 hP hD hS => ?_)
  refine W.widen (k := 4) (n := 632) (Nat.le_of_ble_eq_true rfl) (show 618 + Int.toNat (N_54 (v p0 12)) ≤ 632 by omega) ?_
  obtain ⟨z_87, L_88, K_89, N_90, v_91, hz9, E_92, h_93, q_94, h_95, h_96, f_97, I_98, hP9, hD9⟩ := xcpy_27_68 h_82 I_81 hP hD (by omega)
  subst hz9
  have hP := hP9
  have hD := hD9
  have F_99 := frE_fr (W := [(13, 0), (13, 1), (13, 2), (13, 3), (66, (-1)), (69, (-1)), (99, 0)]) (W1 := [(13, 0), (13, 1), (13, 2), (13, 3), (66, (-1)), (69, (-1)), (99, 0)]) E_64 (fr_tr f_78 rfl fr_rf) rfl F_65
  have F_101 := frE_frE (W := [(13, 0), (13, 1), (13, 2), (13, 3), (66, (-1)), (69, (-1)), (99, 0)]) E_64 (f_97 []) rfl F_99
  have E_100 := xE_tr E_64 E_92
  have h_102 := xE_ok E_92 h_66
  have h_103 := xE_ok E_92 h_67
  have h_104 := xE_ok E_92 h_68
  have h_105 := xE_ok E_92 h_69
  have h_106 := xE_ok E_92 h_70
  have h_107 := xE_ok E_92 h_57
  have h_108 := xE_ok E_92 h_82
  have h_109 : N_90 (v p0 9) = 600 := xn_25 I_98 h_104
  have h_110 : 0 ≤ N_90 z_25 ∧ N_90 z_25 ≤ 600 := xn_66 I_98 h_105
  have h_111 : N_90 (v p0 11) = 14 := xn_26 I_98 h_106
  have h_112 : N_90 z_51 = 14 := xn_67 I_98 h_107
  have h_113 : N_90 (v p0 12) = 14 := xn_27 I_98 h_108
  have h_114 : N_90 z_87 = 14 := xn_68 I_98 h_93
  obtain ⟨q_115, h_116⟩ := xg_arr (cid := cid) (N := N_90) (v := v_91) h_93 rfl
  refine va_castA (nm := "[I") hx hb hown (hts (.classLink RX7 88 "[I") (jm m_1316)) hP q_115 h_116 (hK.2 0 _ rfl).2 dX7_compiled_49 ?_
  refine px_RX7_93 (y := z_87) hx hb hj hown hK hP hD hS I_98 h_103 (h_93).1 dX7_compiled_52 (fun v_117 H locs f_118 e_119 o_120 I_121 hP hD hS => ?_)
  refine lv_aload_n hx hb dX7_compiled_55 rfl (lv_at hl 0 rfl) ?_
  refine lv_aload_n hx hb dX7_compiled_56 rfl (lv_at hl 1 rfl) ?_
  have h_122 : ok L_88 K_89 (v p0 13) 28 := (by have h9 := xf_7_13 I_121 h_102; rw [(((fr_use h_102 f_118 rfl)).trans (((frE_use h_66 (f_97 []) rfl)).trans (((fr_use h_66 f_78 rfl)).trans (((frE_use h_37 (f_61 []) rfl)).trans (((fr_use h_37 f_42 rfl)).trans (((frE_use h_17 f_32 rfl)).trans (frE_use q0 (f_13 []) rfl)))))))] at h9; exact h9)
  have h_123 : N_90 (v p0 13) = 4 := xn_28 I_121 h_122
  refine gx_RX7_39 (y := v p0 13) hx hb hj hown hK hP h_102 ((xf_7_13 I_121 h_102).1) (((fr_use h_102 f_118 rfl)).trans (((frE_use h_66 (f_97 []) rfl)).trans (((fr_use h_66 f_78 rfl)).trans (((frE_use h_37 (f_61 []) rfl)).trans (((fr_use h_37 f_42 rfl)).trans (((frE_use h_17 f_32 rfl)).trans (frE_use q0 (f_13 []) rfl))))))) dX7_compiled_57 ?_
  refine lv_iconst (v := iI 0) hx hb dX7_compiled_60 rfl ?_
  refine lv_aload_n hx hb dX7_compiled_61 rfl (lv_at hl 1 rfl) ?_
  have h_124 : 0 ≤ v p0 14 ∧ v p0 14 ≤ 4 := xf_7_14 hI q0
  refine gx_RX7_59 (y := v p0 14) hx hb hj hown hK hP h_102 (((fr_use h_102 f_118 rfl)).trans (((frE_use h_66 (f_97 []) rfl)).trans (((fr_use h_66 f_78 rfl)).trans (((frE_use h_37 (f_61 []) rfl)).trans (((fr_use h_37 f_42 rfl)).trans (((frE_use h_17 f_32 rfl)).trans (frE_use q0 (f_13 []) rfl))))))) dX7_compiled_62 ?_
  refine va_mmax hx hb (by rw [hml]; exact hl.1.symm) hown (hj _ m_1311) (hj _ m_761) (hj _ m_762) (hj _ m_763) (Nat.le_of_ble_eq_true rfl) (Nat.le_of_ble_eq_true rfl) (Nat.le_of_ble_eq_true rfl) (Nat.le_of_ble_eq_true rfl) dX7_compiled_65 ?_
  refine xm_max (by omega) (by omega) (fun z_125 h_126 => ?_)
  refine jcg_q (va_runS (As := [.ref (v p0 13).toNat, .int (iI z_125)]) (rest := [.ref z_3.toNat]) ⟨hx, hb, hml, hown, hts⟩ (sJ7_copyOf_c38d5_28_69 l dC dI _ L_88 cid K_89 N_90 tW sK sV v_117 (v p0 13) z_125 I_121 h_122 (by omega) (by omega)) (va_cwS 2 hts (jgoodS m_1317 m_1318 m_842 m_1319) rfl rfl rfl (by decide +kernel) ⟨(Nat.le_of_ble_eq_true rfl), (Nat.le_of_ble_eq_true rfl)⟩) ⟨xP_blind, fun U hU hW => ⟨rfl, xP_of hU hW hP hK hD hX hS (fun _ h => h) hA⟩⟩ rfl rfl hl.1 rfl (lv_room (Nat.le_of_ble_eq_true rfl)) dX7_compiled_68 ⟨(Nat.le_of_ble_eq_true rfl), (Nat.le_of_ble_eq_true rfl)⟩) hD hS hA (fun r_127 u_131 H locs w_128 hP hK hD hS => ?_)
  refine W.widen (k := 5) (n := 636) (Nat.le_of_ble_eq_true rfl) (Nat.le_of_ble_eq_true rfl) ?_
  obtain ⟨L_132, K_133, N_134, v_135⟩ := u_131
  obtain ⟨z_129, rfl, I_137, E_138, f_136, h_130⟩ := w_128
  have hP : va_P (dC, dI) vwCl (xG L_132 cid K_133 N_134 v_135) H := hP
  have hD : va_D A (xG L_132 cid K_133 N_134 v_135) := hD
  have I_137 : xI L_132 K_133 N_134 v_135 := I_137
  have E_138 : xE L_88 K_89 N_90 L_132 K_133 N_134 := E_138
  have f_136 : frE L_88 K_89 [(69, (-1)), (99, 0)] v_135 v_117 := f_136
  have F_139 := frE_fr (W := [(13, 0), (13, 1), (13, 2), (13, 3), (66, (-1)), (69, (-1)), (99, 0)]) (W1 := [(13, 0), (13, 1), (13, 2), (13, 3), (66, (-1)), (69, (-1)), (99, 0)]) E_100 (fr_tr f_118 rfl fr_rf) rfl F_101
  have F_141 := frE_frE (W := [(13, 0), (13, 1), (13, 2), (13, 3), (66, (-1)), (69, (-1)), (99, 0)]) E_100 f_136 rfl F_139
  have E_140 := xE_tr E_100 E_138
  have h_142 := xE_ok E_138 h_102
  have h_143 := xE_ok E_138 h_103
  have h_144 := xE_ok E_138 h_104
  have h_145 := xE_ok E_138 h_105
  have h_146 := xE_ok E_138 h_106
  have h_147 := xE_ok E_138 h_107
  have h_148 := xE_ok E_138 h_108
  have h_149 := xE_ok E_138 h_93
  have h_150 := xE_ok E_138 h_122
  have h_151 : N_134 (v p0 9) = 600 := xn_25 I_137 h_144
  have h_152 : 0 ≤ N_134 z_25 ∧ N_134 z_25 ≤ 600 := xn_66 I_137 h_145
  have h_153 : N_134 (v p0 11) = 14 := xn_26 I_137 h_146
  have h_154 : N_134 z_51 = 14 := xn_67 I_137 h_147
  have h_155 : N_134 (v p0 12) = 14 := xn_27 I_137 h_148
  have h_156 : N_134 z_87 = 14 := xn_68 I_137 h_149
  have h_157 : N_134 (v p0 13) = 4 := xn_28 I_137 h_150
  refine jt_q (.ref z_129.toNat) (rv_ref h_130.1) ?_
  refine px_RX7_97 (y := z_129) hx hb hj hown hK hP hD hS I_137 h_143 (h_130).1 dX7_compiled_71 (fun v_158 H locs f_159 e_160 o_161 I_162 hP hD hS => ?_)
  refine lv_aload_n hx hb dX7_compiled_74 rfl (lv_at hl 0 rfl) ?_
  have F_163 := frE_fr (W := [(13, 0), (13, 1), (13, 2), (13, 3), (66, (-1)), (69, (-1)), (99, 0)]) (W1 := [(13, 0), (13, 1), (13, 2), (13, 3), (66, (-1)), (69, (-1)), (99, 0)]) E_140 (fr_tr f_159 rfl fr_rf) rfl F_141
  obtain ⟨K_164, E_165, h_166, _, I_167, hP, hD⟩ := xretype E_140 q_10 I_162 h_143 ⟨(by rw [(((fr_use h_143 f_159 rfl)).trans (((frE_use h_103 f_136 rfl)).trans (((fr_use h_103 f_118 rfl)).trans (((frE_use h_67 (f_97 []) rfl)).trans (((fr_use h_67 f_78 rfl)).trans (((frE_use h_38 (f_61 []) rfl)).trans e_43))))))]; exact h_145), (by rw [(((fr_use h_143 f_159 rfl)).trans (((frE_use h_103 f_136 rfl)).trans (((fr_use h_103 f_118 rfl)).trans (((frE_use h_67 (f_97 []) rfl)).trans e_79))))]; exact h_147), (by rw [(((fr_use h_143 f_159 rfl)).trans (((frE_use h_103 f_136 rfl)).trans e_119))]; exact h_149), (by rw [e_160]; exact h_130)⟩ hP hD
  rw [← hQ]
  refine jt_q (rv z_3) (rv_ref (h_143).1).symm ?_
  exact W.aret (v := rv z_3) hx hb hr (Or.inl ⟨_, rfl⟩) (rv_or z_3) (fun t ht hW => ⟨⟨opt z_3, (L_132, K_164, N_134, v_158), rfl, ⟨z_3, rfl, I_167, E_165, F_163, h_166⟩, by rw [ht]; exact hP, va_K.moved hW.alike hK, hD⟩, hS.F ht⟩) hS.2.2 dX7_compiled_75
