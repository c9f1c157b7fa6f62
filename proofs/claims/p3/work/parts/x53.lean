set_option maxHeartbeats 2000000 in
set_option maxRecDepth 100000 in
theorem sX12_ask (l : Launch) (dC : Nat → ClassId) (dI : Nat → Nat → Nat) (sz : Nat) (L : List Nat) (cid : Nat → ClassId) (K : Int → Nat) (N : Int → Int) (tW : Nat) (sK sV : Nat → Nat) (v : Int → Int → Int) (p0 : Int) (p1 : Int) (p2 : Int) (p3 : Int) (hI : xI L K N v) (q0 : ok L K p0 12) (q1 : ok L K p1 0) (q2 : rg p2) (q3 : rg p3) : Met l yX12_ask (jk yX12_ask cX12_ask 5 none) ({ frames := 2, cells := 0, slots := 0, locals := 45 }) (va_Pc [.ref p0.toNat, .ref p1.toNat, .int (iI p2), .int (iI p3)] (xP (dC, dI) (xG L cid K N v) (xT cid) tW sK sV sz)) (va_Qv (fun (u : (Int → Int → Int)) => (xI L K N u) ∧ (fr K [(33, (-1))] u v)) (fun u t => va_P (dC, dI) vwCl (xG L cid K N u) t.heap ∧ va_K (dC, dI) vwCl (xT cid) t ∧ va_D (va_A (xG L cid K N v) sz) (xG L cid K N u)) (va_A (xG L cid K N v) sz)) 0 0 (va_A (xG L cid K N v) sz) := by
  refine Met.ofW (cc := cX12_ask) (maxL := 5) (ret := none) (by decide) rfl ?_
  intro p e s m args below meth c s₁ B hml hv
  obtain ⟨rfl, ⟨hsz, hP, hK, hD0⟩, hX⟩ := hv
  have hx := B.exec
  have hb := B.bytes
  have hr := B.returns
  have hts := atoms_spec (ws := (jk yX12_ask cX12_ask 5 none)) B.pre
  have hj : ∀ w ∈ jw, w.before ([.ref p0.toNat, .ref p1.toNat, .int (iI p2), .int (iI p3)] : List Value).toArray s = true := fun w h => hts w (jm h)
  have hown : s.vm.findClass RX12 = some m.cls := findClass_of_methodNamed B.named
  subst hsz
  have hD := hD0.self (sz := s.heap.size)
  generalize hAe : (va_A (xG L cid K N v) s.heap.size) = A at hD hX ⊢
  have hA : ∀ q : Nat, s.heap.size ≤ q → A q := fun q h => by rw [← hAe]; exact Or.inr h
  have hS : va_S A s.heap s.heap [] := va_S.rf
  have hXa := hX
  have hP : va_P (dC, dI) vwCl (xG L cid K N v) s.heap := hP
  have hl := lv_entry ([.ref p0.toNat, .ref p1.toNat, .int (iI p2), .int (iI p3)]) (n := 5) (Nat.le_of_ble_eq_true rfl)
  rw [lg_entry_eq]
  generalize (lg_sl ([.ref p0.toNat, .ref p1.toNat, .int (iI p2), .int (iI p3)]) ++ List.replicate (5 - (lg_sl ([.ref p0.toNat, .ref p1.toNat, .int (iI p2), .int (iI p3)])).length) Slot.unset).toArray = ls at hl ⊢
  have hl : lv_has ls 5 [(0, .ref p0.toNat), (1, .ref p1.toNat), (2, .int (iI p2)), (3, .int (iI p3))] := hl
  generalize hQ : MQ below (va_Qv (fun (u : (Int → Int → Int)) => (xI L K N u) ∧ (fr K [(33, (-1))] u v)) (fun u t => va_P (dC, dI) vwCl (xG L cid K N u) t.heap ∧ va_K (dC, dI) vwCl (xT cid) t ∧ va_D A (xG L cid K N u)) A) ([.ref p0.toNat, .ref p1.toNat, .int (iI p2), .int (iI p3)] : List Value).toArray s 0 0 A = Q
  suffices ST : ∀ (H : Heap) (locs : List Loc), va_P (dC, dI) vwCl (xG L cid K N v) H → va_S A s.heap H locs → W p l e ({ frames := 2, cells := 0, slots := 0, locals := 45 }) s m ([.ref p0.toNat, .ref p1.toNat, .int (iI p2), .int (iI p3)] : List Value).toArray below meth c H locs 0 0 Q (F0 m 0 ls []) from ST _ _ hP hS
  clear hP hS
  intro H locs hP hS
  refine lv_aload_n hx hb dX12_ask_0 rfl (lv_at hl 0 rfl) ?_
  refine lv_iload_n hx hb dX12_ask_1 rfl (lv_at hl 3 rfl) ?_
  refine jc_q (va_runV (As := [.int (iI p3)]) (rest := []) ⟨hx, hb, hml, hown, hts⟩ (sX12_handAt l dC dI _ L cid K N tW sK sV v p0 p3 hI q0 (by omega)) (cwV 1 hts (jgoodV m_1056 m_1057 m_1058 m_873 m_1059) rfl rfl rfl (by decide +kernel) ⟨(Nat.le_of_ble_eq_true rfl), (Nat.le_of_ble_eq_true rfl)⟩) ⟨xP_blind, xrecv hK hP q0 rfl rfl, fun U hU hW => ⟨rfl, xP_of hU hW hP hK hD hX hS (fun _ h => h) hA⟩⟩ rfl rfl hl.1 rfl (lv_room (Nat.le_of_ble_eq_true rfl)) dX12_ask_2 ⟨(Nat.le_of_ble_eq_true rfl), (Nat.le_of_ble_eq_true rfl)⟩) hP hS hA (fun r_1 H locs w_2 hP hS => ?_)
  obtain ⟨z_3, rfl, h_4, h_5⟩ := w_2
  have h_6 : 0 ≤ v p0 11 ∧ v p0 11 ≤ 12 := xf_12_11 hI q0
  have h_7 : ok L K (v p0 10) 38 := xf_12_10 hI q0
  have h_8 : N (v p0 10) = 12 := xn_38 hI h_7
  refine jt_q (rv z_3) rfl ?_
  refine xq_astore (i := 4) (lv' := [(4, rv z_3), (0, .ref p0.toNat), (1, .ref p1.toNat), (2, .int (iI p2)), (3, .int (iI p3))]) hx hb dX12_ask_5 hl (by decide) rfl (fun ls hl => ?_)
  refine lv_aload_n hx hb dX12_ask_7 rfl (lv_at hl 1 rfl) ?_
  have h_9 : ok L K (v p0 3) 8 := xf_12_3 hI q0
  refine gx_RX12_19 (y := v p0 3) hx hb hj hown hK hP q0 ((xf_12_3 hI q0).1) rfl dX12_ask_8 ?_
  refine lv_iconst (v := iI 0) hx hb dX12_ask_11 rfl ?_
  refine lv_aload_n hx hb dX12_ask_12 rfl (lv_at hl 2 rfl) ?_
  have h_10 : 0 ≤ v p1 9 ∧ v p1 9 ≤ 200 := xf_0_9 hI q1
  refine gx_RX12_183 (y := v p1 9) hx hb hj hown hK hP q1 rfl dX12_ask_13 ?_
  refine jcg_v (va_runV (As := [.int (iI 0), .int (iI (v p1 9))]) (rest := []) ⟨hx, hb, hml, hown, hts⟩ (sX8_name l dC dI _ L cid K N tW sK sV v (v p0 3) 0 (v p1 9) hI h_9 (by omega) (by omega)) (cwV 2 hts (jgoodV m_1068 m_1069 m_1070 m_928 m_1071) rfl rfl rfl (by decide +kernel) ⟨(Nat.le_of_ble_eq_true rfl), (Nat.le_of_ble_eq_true rfl)⟩) ⟨xP_blind, xrecv hK hP h_9 rfl rfl, fun U hU hW => ⟨rfl, xP_of hU hW hP hK hD hX hS (fun _ h => h) hA⟩⟩ rfl rfl hl.1 rfl (lv_room (Nat.le_of_ble_eq_true rfl)) dX12_ask_16 ⟨(Nat.le_of_ble_eq_true rfl), (Nat.le_of_ble_eq_true rfl)⟩) hD hS hA (fun v_14 H locs w_12 hP hK hD hS => ?_)
  obtain ⟨I_16, f_15⟩ := w_12
  have hP : va_P (dC, dI) vwCl (xG L cid K N v_14) H := hP
  have hD : va_D A (xG L cid K N v_14) := hD
  refine lv_aload_n hx hb dX12_ask_19 rfl (lv_at hl 1 rfl) ?_
  refine gx_RX12_19 (y := v p0 3) hx hb hj hown hK hP q0 ((xf_12_3 I_16 q0).1) (fr_use q0 f_15 rfl) dX12_ask_20 ?_
  refine lv_iconst (v := iI 1) hx hb dX12_ask_23 rfl ?_
  refine lv_aload_n hx hb dX12_ask_24 rfl (lv_at hl 2 rfl) ?_
  have h_17 : 0 ≤ v p1 15 ∧ v p1 15 ≤ 200 := xf_0_15 hI q1
  refine gx_RX12_342 (y := v p1 15) hx hb hj hown hK hP q1 (fr_use q1 f_15 rfl) dX12_ask_25 ?_
  refine jcg_v (va_runV (As := [.int (iI 1), .int (iI (v p1 15))]) (rest := []) ⟨hx, hb, hml, hown, hts⟩ (sX8_name l dC dI _ L cid K N tW sK sV v_14 (v p0 3) 1 (v p1 15) I_16 h_9 (by omega) (by omega)) (cwV 2 hts (jgoodV m_1068 m_1069 m_1070 m_928 m_1071) rfl rfl rfl (by decide +kernel) ⟨(Nat.le_of_ble_eq_true rfl), (Nat.le_of_ble_eq_true rfl)⟩) ⟨xP_blind, xrecv hK hP h_9 rfl rfl, fun U hU hW => ⟨rfl, xP_of hU hW hP hK hD hX hS (fun _ h => h) hA⟩⟩ rfl rfl hl.1 rfl (lv_room (Nat.le_of_ble_eq_true rfl)) dX12_ask_28 ⟨(Nat.le_of_ble_eq_true rfl), (Nat.le_of_ble_eq_true rfl)⟩) hD hS hA (fun v_21 H locs w_19 hP hK hD hS => ?_)
  obtain ⟨I_23, f_22⟩ := w_19
  have hP : va_P (dC, dI) vwCl (xG L cid K N v_21) H := hP
  have hD : va_D A (xG L cid K N v_21) := hD
  refine lv_aload_n hx hb dX12_ask_31 rfl (lv_at hl 1 rfl) ?_
  refine gx_RX12_19 (y := v p0 3) hx hb hj hown hK hP q0 ((xf_12_3 I_23 q0).1) (((fr_use q0 f_22 rfl)).trans (fr_use q0 f_15 rfl)) dX12_ask_32 ?_
  refine lv_iconst (v := iI 2) hx hb dX12_ask_35 rfl ?_
  refine lv_aload_n hx hb dX12_ask_36 rfl (lv_at hl 2 rfl) ?_
  refine gx_RX12_345 (y := v_21 p1 16) hx hb hj hown hK hP q1 rfl dX12_ask_37 ?_
  refine jc_i (va_runS (As := [.long (lL (v_21 p1 16))]) (rest := [.int (iI 2), .ref (v p0 3).toNat]) ⟨hx, hb, hml, hown, hts⟩ (sJ13_bitCount_95d88 l dC dI _ (v_21 p1 16) ) (va_cwS 1 hts (jgoodS m_1072 m_1073 m_1074 m_1075) rfl rfl rfl (by decide +kernel) ⟨(Nat.le_of_ble_eq_true rfl), (Nat.le_of_ble_eq_true rfl)⟩) ⟨jw_blind0, fun U hU hW => ⟨rfl, congrArg Array.size hU⟩⟩ rfl rfl hl.1 rfl (lv_room (Nat.le_of_ble_eq_true rfl)) dX12_ask_40 ⟨(Nat.le_of_ble_eq_true rfl), (Nat.le_of_ble_eq_true rfl)⟩) hP hS hA (fun r_24 H locs w_25 hP hS => ?_)
  obtain ⟨z_26, rfl, h_27⟩ := w_25
  refine jcg_v (va_runV (As := [.int (iI 2), .int (iI z_26)]) (rest := []) ⟨hx, hb, hml, hown, hts⟩ (sX8_name l dC dI _ L cid K N tW sK sV v_21 (v p0 3) 2 z_26 I_23 h_9 (by omega) (by omega)) (cwV 2 hts (jgoodV m_1068 m_1069 m_1070 m_928 m_1071) rfl rfl rfl (by decide +kernel) ⟨(Nat.le_of_ble_eq_true rfl), (Nat.le_of_ble_eq_true rfl)⟩) ⟨xP_blind, xrecv hK hP h_9 rfl rfl, fun U hU hW => ⟨rfl, xP_of hU hW hP hK hD hX hS (fun _ h => h) hA⟩⟩ rfl rfl hl.1 rfl (lv_room (Nat.le_of_ble_eq_true rfl)) dX12_ask_43 ⟨(Nat.le_of_ble_eq_true rfl), (Nat.le_of_ble_eq_true rfl)⟩) hD hS hA (fun v_31 H locs w_29 hP hK hD hS => ?_)
  obtain ⟨I_33, f_32⟩ := w_29
  have hP : va_P (dC, dI) vwCl (xG L cid K N v_31) H := hP
  have hD : va_D A (xG L cid K N v_31) := hD
  refine lv_aload_n hx hb dX12_ask_46 rfl (lv_at hl 1 rfl) ?_
  refine gx_RX12_19 (y := v p0 3) hx hb hj hown hK hP q0 ((xf_12_3 I_33 q0).1) (((fr_use q0 f_32 rfl)).trans (((fr_use q0 f_22 rfl)).trans (fr_use q0 f_15 rfl))) dX12_ask_47 ?_
  refine lv_iconst (v := iI 3) hx hb dX12_ask_50 rfl ?_
  refine lv_aload_n hx hb dX12_ask_51 rfl (lv_at hl 1 rfl) ?_
  refine lv_aload_n hx hb dX12_ask_52 rfl (lv_at hl 2 rfl) ?_
  have h_34 : (-2147483648) ≤ v p1 0 ∧ v p1 0 ≤ 2147483647 := xf_0_0 hI q1
  refine gx_RX12_186 (y := v p1 0) hx hb hj hown hK hP q1 (((fr_use q1 f_32 rfl)).trans (((fr_use q1 f_22 rfl)).trans (fr_use q1 f_15 rfl))) dX12_ask_53 ?_
  refine jc_i (va_runV (As := [.int (iI (v p1 0))]) (rest := [.int (iI 3), .ref (v p0 3).toNat]) ⟨hx, hb, hml, hown, hts⟩ (sX12_pointersTo l dC dI _ L cid K N tW sK sV v_31 p0 (v p1 0) I_33 q0 (by omega)) (cwV 1 hts (jgoodV m_1076 m_1077 m_1078 m_873 m_1079) rfl rfl rfl (by decide +kernel) ⟨(Nat.le_of_ble_eq_true rfl), (Nat.le_of_ble_eq_true rfl)⟩) ⟨xP_blind, xrecv hK hP q0 rfl rfl, fun U hU hW => ⟨rfl, xP_of hU hW hP hK hD hX hS (fun _ h => h) hA⟩⟩ rfl rfl hl.1 rfl (lv_room (Nat.le_of_ble_eq_true rfl)) dX12_ask_56 ⟨(Nat.le_of_ble_eq_true rfl), (Nat.le_of_ble_eq_true rfl)⟩) hP hS hA (fun r_35 H locs w_36 hP hS => ?_)
  obtain ⟨z_37, rfl, h_38⟩ := w_36
  refine jcg_v (va_runV (As := [.int (iI 3), .int (iI z_37)]) (rest := []) ⟨hx, hb, hml, hown, hts⟩ (sX8_name l dC dI _ L cid K N tW sK sV v_31 (v p0 3) 3 z_37 I_33 h_9 (by omega) (by omega)) (cwV 2 hts (jgoodV m_1068 m_1069 m_1070 m_928 m_1071) rfl rfl rfl (by decide +kernel) ⟨(Nat.le_of_ble_eq_true rfl), (Nat.le_of_ble_eq_true rfl)⟩) ⟨xP_blind, xrecv hK hP h_9 rfl rfl, fun U hU hW => ⟨rfl, xP_of hU hW hP hK hD hX hS (fun _ h => h) hA⟩⟩ rfl rfl hl.1 rfl (lv_room (Nat.le_of_ble_eq_true rfl)) dX12_ask_59 ⟨(Nat.le_of_ble_eq_true rfl), (Nat.le_of_ble_eq_true rfl)⟩) hD hS hA (fun v_42 H locs w_40 hP hK hD hS => ?_)
  obtain ⟨I_44, f_43⟩ := w_40
  have hP : va_P (dC, dI) vwCl (xG L cid K N v_42) H := hP
  have hD : va_D A (xG L cid K N v_42) := hD
  refine lv_aload_n hx hb dX12_ask_62 rfl (lv_at hl 1 rfl) ?_
  refine gx_RX12_19 (y := v p0 3) hx hb hj hown hK hP q0 ((xf_12_3 I_44 q0).1) (((fr_use q0 f_43 rfl)).trans (((fr_use q0 f_32 rfl)).trans (((fr_use q0 f_22 rfl)).trans (fr_use q0 f_15 rfl)))) dX12_ask_63 ?_
  refine lv_iconst (v := iI 4) hx hb dX12_ask_66 rfl ?_
  refine lv_aload_n hx hb dX12_ask_67 rfl (lv_at hl 2 rfl) ?_
  have h_45 : (-2147483648) ≤ v p1 8 ∧ v p1 8 ≤ 2147483647 := xf_0_8 hI q1
  refine gx_RX12_180 (y := v p1 8) hx hb hj hown hK hP q1 (((fr_use q1 f_43 rfl)).trans (((fr_use q1 f_32 rfl)).trans (((fr_use q1 f_22 rfl)).trans (fr_use q1 f_15 rfl)))) dX12_ask_68 ?_
  refine jcg_v (va_runV (As := [.int (iI 4), .int (iI (v p1 8))]) (rest := []) ⟨hx, hb, hml, hown, hts⟩ (sX8_name l dC dI _ L cid K N tW sK sV v_42 (v p0 3) 4 (v p1 8) I_44 h_9 (by omega) (by omega)) (cwV 2 hts (jgoodV m_1068 m_1069 m_1070 m_928 m_1071) rfl rfl rfl (by decide +kernel) ⟨(Nat.le_of_ble_eq_true rfl), (Nat.le_of_ble_eq_true rfl)⟩) ⟨xP_blind, xrecv hK hP h_9 rfl rfl, fun U hU hW => ⟨rfl, xP_of hU hW hP hK hD hX hS (fun _ h => h) hA⟩⟩ rfl rfl hl.1 rfl (lv_room (Nat.le_of_ble_eq_true rfl)) dX12_ask_71 ⟨(Nat.le_of_ble_eq_true rfl), (Nat.le_of_ble_eq_true rfl)⟩) hD hS hA (fun v_49 H locs w_47 hP hK hD hS => ?_)
  obtain ⟨I_51, f_50⟩ := w_47
  have hP : va_P (dC, dI) vwCl (xG L cid K N v_49) H := hP
  have hD : va_D A (xG L cid K N v_49) := hD
  refine lv_aload_n hx hb dX12_ask_74 rfl (lv_at hl 1 rfl) ?_
  refine gx_RX12_19 (y := v p0 3) hx hb hj hown hK hP q0 ((xf_12_3 I_51 q0).1) (((fr_use q0 f_50 rfl)).trans (((fr_use q0 f_43 rfl)).trans (((fr_use q0 f_32 rfl)).trans (((fr_use q0 f_22 rfl)).trans (fr_use q0 f_15 rfl))))) dX12_ask_75 ?_
  refine lv_iconst (v := iI 5) hx hb dX12_ask_78 rfl ?_
  refine xq_aload hx hb dX12_ask_79 (lv_at hl 0 rfl) ?_
  have J93 : ∀ (s0_93 : Int) (H : Heap) (locs : List Loc) (ls : Array Slot), ((-2147483648) ≤ s0_93 ∧ s0_93 ≤ 2147483647) → va_P (dC, dI) vwCl (xG L cid K N v_49) H → va_D A (xG L cid K N v_49) → va_S A s.heap H locs → lv_has ls 5 [(4, rv z_3), (0, .ref p0.toNat), (1, .ref p1.toNat), (2, .int (iI p2)), (3, .int (iI p3))] → W p l e ({ frames := 2, cells := 0, slots := 0, locals := 45 }) s m ([.ref p0.toNat, .ref p1.toNat, .int (iI p2), .int (iI p3)] : List Value).toArray below meth c H locs 0 0 Q (F0 m 93 ls [.int (iI s0_93), .int (iI 5), .ref (v p0 3).toNat]) := by
    intro s0_93 H locs ls h_52 hP hD hS hl
    refine jcg_v (va_runV (As := [.int (iI 5), .int (iI s0_93)]) (rest := []) ⟨hx, hb, hml, hown, hts⟩ (sX8_name l dC dI _ L cid K N tW sK sV v_49 (v p0 3) 5 s0_93 I_51 h_9 (by omega) (by omega)) (cwV 2 hts (jgoodV m_1068 m_1069 m_1070 m_928 m_1071) rfl rfl rfl (by decide +kernel) ⟨(Nat.le_of_ble_eq_true rfl), (Nat.le_of_ble_eq_true rfl)⟩) ⟨xP_blind, xrecv hK hP h_9 rfl rfl, fun U hU hW => ⟨rfl, xP_of hU hW hP hK hD hX hS (fun _ h => h) hA⟩⟩ rfl rfl hl.1 rfl (lv_room (Nat.le_of_ble_eq_true rfl)) dX12_ask_93 ⟨(Nat.le_of_ble_eq_true rfl), (Nat.le_of_ble_eq_true rfl)⟩) hD hS hA (fun v_56 H locs w_54 hP hK hD hS => ?_)
    obtain ⟨I_58, f_57⟩ := w_54
    have hP : va_P (dC, dI) vwCl (xG L cid K N v_56) H := hP
    have hD : va_D A (xG L cid K N v_56) := hD
    refine lv_aload_n hx hb dX12_ask_96 rfl (lv_at hl 1 rfl) ?_
    refine gx_RX12_19 (y := v p0 3) hx hb hj hown hK hP q0 ((xf_12_3 I_58 q0).1) (((fr_use q0 f_57 rfl)).trans (((fr_use q0 f_50 rfl)).trans (((fr_use q0 f_43 rfl)).trans (((fr_use q0 f_32 rfl)).trans (((fr_use q0 f_22 rfl)).trans (fr_use q0 f_15 rfl)))))) dX12_ask_97 ?_
    refine lv_bipush (v := iI 6) hx hb dX12_ask_100 rfl ?_
    refine xq_aload hx hb dX12_ask_102 (lv_at hl 0 rfl) ?_
    have J125 : ∀ (s0_125 : Int) (H : Heap) (locs : List Loc) (ls : Array Slot), ((-2147483648) ≤ s0_125 ∧ s0_125 ≤ 2147483647) → va_P (dC, dI) vwCl (xG L cid K N v_56) H → va_D A (xG L cid K N v_56) → va_S A s.heap H locs → lv_has ls 5 [(4, rv z_3), (0, .ref p0.toNat), (1, .ref p1.toNat), (2, .int (iI p2)), (3, .int (iI p3))] → W p l e ({ frames := 2, cells := 0, slots := 0, locals := 45 }) s m ([.ref p0.toNat, .ref p1.toNat, .int (iI p2), .int (iI p3)] : List Value).toArray below meth c H locs 0 0 Q (F0 m 125 ls [.int (iI s0_125), .int (iI 6), .ref (v p0 3).toNat]) := by
      intro s0_125 H locs ls h_59 hP hD hS hl
      refine jcg_v (va_runV (As := [.int (iI 6), .int (iI s0_125)]) (rest := []) ⟨hx, hb, hml, hown, hts⟩ (sX8_name l dC dI _ L cid K N tW sK sV v_56 (v p0 3) 6 s0_125 I_58 h_9 (by omega) (by omega)) (cwV 2 hts (jgoodV m_1068 m_1069 m_1070 m_928 m_1071) rfl rfl rfl (by decide +kernel) ⟨(Nat.le_of_ble_eq_true rfl), (Nat.le_of_ble_eq_true rfl)⟩) ⟨xP_blind, xrecv hK hP h_9 rfl rfl, fun U hU hW => ⟨rfl, xP_of hU hW hP hK hD hX hS (fun _ h => h) hA⟩⟩ rfl rfl hl.1 rfl (lv_room (Nat.le_of_ble_eq_true rfl)) dX12_ask_125 ⟨(Nat.le_of_ble_eq_true rfl), (Nat.le_of_ble_eq_true rfl)⟩) hD hS hA (fun v_63 H locs w_61 hP hK hD hS => ?_)
      obtain ⟨I_65, f_64⟩ := w_61
      have hP : va_P (dC, dI) vwCl (xG L cid K N v_63) H := hP
      have hD : va_D A (xG L cid K N v_63) := hD
      refine lv_aload_n hx hb dX12_ask_128 rfl (lv_at hl 1 rfl) ?_
      refine gx_RX12_19 (y := v p0 3) hx hb hj hown hK hP q0 ((xf_12_3 I_65 q0).1) (((fr_use q0 f_64 rfl)).trans (((fr_use q0 f_57 rfl)).trans (((fr_use q0 f_50 rfl)).trans (((fr_use q0 f_43 rfl)).trans (((fr_use q0 f_32 rfl)).trans (((fr_use q0 f_22 rfl)).trans (fr_use q0 f_15 rfl))))))) dX12_ask_129 ?_
      refine lv_bipush (v := iI 7) hx hb dX12_ask_132 rfl ?_
      refine lv_iload_n hx hb dX12_ask_134 rfl (lv_at hl 3 rfl) ?_
      refine jcg_v (va_runV (As := [.int (iI 7), .int (iI p2)]) (rest := []) ⟨hx, hb, hml, hown, hts⟩ (sX8_name l dC dI _ L cid K N tW sK sV v_63 (v p0 3) 7 p2 I_65 h_9 (by omega) (by omega)) (cwV 2 hts (jgoodV m_1068 m_1069 m_1070 m_928 m_1071) rfl rfl rfl (by decide +kernel) ⟨(Nat.le_of_ble_eq_true rfl), (Nat.le_of_ble_eq_true rfl)⟩) ⟨xP_blind, xrecv hK hP h_9 rfl rfl, fun U hU hW => ⟨rfl, xP_of hU hW hP hK hD hX hS (fun _ h => h) hA⟩⟩ rfl rfl hl.1 rfl (lv_room (Nat.le_of_ble_eq_true rfl)) dX12_ask_135 ⟨(Nat.le_of_ble_eq_true rfl), (Nat.le_of_ble_eq_true rfl)⟩) hD hS hA (fun v_69 H locs w_67 hP hK hD hS => ?_)
      obtain ⟨I_71, f_70⟩ := w_67
      have hP : va_P (dC, dI) vwCl (xG L cid K N v_69) H := hP
      have hD : va_D A (xG L cid K N v_69) := hD
      refine lv_aload_n hx hb dX12_ask_138 rfl (lv_at hl 1 rfl) ?_
      refine gx_RX12_19 (y := v p0 3) hx hb hj hown hK hP q0 ((xf_12_3 I_71 q0).1) (((fr_use q0 f_70 rfl)).trans (((fr_use q0 f_64 rfl)).trans (((fr_use q0 f_57 rfl)).trans (((fr_use q0 f_50 rfl)).trans (((fr_use q0 f_43 rfl)).trans (((fr_use q0 f_32 rfl)).trans (((fr_use q0 f_22 rfl)).trans (fr_use q0 f_15 rfl)))))))) dX12_ask_139 ?_
      refine lv_bipush (v := iI 8) hx hb dX12_ask_142 rfl ?_
      refine xq_aload hx hb dX12_ask_144 (lv_at hl 0 rfl) ?_
      have J158 : ∀ (s0_158 : Int) (H : Heap) (locs : List Loc) (ls : Array Slot), ((-2147483648) ≤ s0_158 ∧ s0_158 ≤ 2147483647) → va_P (dC, dI) vwCl (xG L cid K N v_69) H → va_D A (xG L cid K N v_69) → va_S A s.heap H locs → lv_has ls 5 [(4, rv z_3), (0, .ref p0.toNat), (1, .ref p1.toNat), (2, .int (iI p2)), (3, .int (iI p3))] → W p l e ({ frames := 2, cells := 0, slots := 0, locals := 45 }) s m ([.ref p0.toNat, .ref p1.toNat, .int (iI p2), .int (iI p3)] : List Value).toArray below meth c H locs 0 0 Q (F0 m 158 ls [.int (iI s0_158), .int (iI 8), .ref (v p0 3).toNat]) := by
        intro s0_158 H locs ls h_72 hP hD hS hl
        refine jcg_v (va_runV (As := [.int (iI 8), .int (iI s0_158)]) (rest := []) ⟨hx, hb, hml, hown, hts⟩ (sX8_name l dC dI _ L cid K N tW sK sV v_69 (v p0 3) 8 s0_158 I_71 h_9 (by omega) (by omega)) (cwV 2 hts (jgoodV m_1068 m_1069 m_1070 m_928 m_1071) rfl rfl rfl (by decide +kernel) ⟨(Nat.le_of_ble_eq_true rfl), (Nat.le_of_ble_eq_true rfl)⟩) ⟨xP_blind, xrecv hK hP h_9 rfl rfl, fun U hU hW => ⟨rfl, xP_of hU hW hP hK hD hX hS (fun _ h => h) hA⟩⟩ rfl rfl hl.1 rfl (lv_room (Nat.le_of_ble_eq_true rfl)) dX12_ask_158 ⟨(Nat.le_of_ble_eq_true rfl), (Nat.le_of_ble_eq_true rfl)⟩) hD hS hA (fun v_76 H locs w_74 hP hK hD hS => ?_)
        obtain ⟨I_78, f_77⟩ := w_74
        have hP : va_P (dC, dI) vwCl (xG L cid K N v_76) H := hP
        have hD : va_D A (xG L cid K N v_76) := hD
        rw [← hQ]
        exact W.vret hx hb hr (fun t ht hW => ⟨⟨v_76, rfl, ⟨I_78, (fr_tr f_77 rfl (fr_tr f_70 rfl (fr_tr f_64 rfl (fr_tr f_57 rfl (fr_tr f_50 rfl (fr_tr f_43 rfl (fr_tr f_32 rfl (fr_tr f_22 rfl (fr_tr f_15 rfl fr_rf)))))))))⟩, by rw [ht]; exact hP, va_K.moved hW.alike hK, hD⟩, hS.F ht⟩) hS.2.2 dX12_ask_161
      refine xq_ifnonnull (tgt := 153) hx hb dX12_ask_146 (by decide) (fun h_79 => ?_) (fun h_79 => ?_)
      · have h_80 : ok L K z_3 2 := h_4.resolve_left (by omega)
        refine lv_aload_n hx hb dX12_ask_153 rfl (lv_at hl 1 rfl) ?_
        refine lv_iload_n hx hb dX12_ask_154 rfl (lv_at hl 4 rfl) ?_
        refine jc_i (va_runV (As := [.int (iI p3)]) (rest := [.int (iI 8), .ref (v p0 3).toNat]) ⟨hx, hb, hml, hown, hts⟩ (sX12_unfinished l dC dI _ L cid K N tW sK sV v_69 p0 p3 I_71 q0 (by omega)) (cwV 1 hts (jgoodV m_1080 m_1081 m_1082 m_873 m_1083) rfl rfl rfl (by decide +kernel) ⟨(Nat.le_of_ble_eq_true rfl), (Nat.le_of_ble_eq_true rfl)⟩) ⟨xP_blind, xrecv hK hP q0 rfl rfl, fun U hU hW => ⟨rfl, xP_of hU hW hP hK hD hX hS (fun _ h => h) hA⟩⟩ rfl rfl hl.1 rfl (lv_room (Nat.le_of_ble_eq_true rfl)) dX12_ask_155 ⟨(Nat.le_of_ble_eq_true rfl), (Nat.le_of_ble_eq_true rfl)⟩) hP hS hA (fun r_81 H locs w_82 hP hS => ?_)
        obtain ⟨z_83, rfl, h_84⟩ := w_82
        exact J158 z_83 H locs ls (by omega) hP hD hS hl
      · refine lv_iconst (v := iI 0) hx hb dX12_ask_149 rfl ?_
        refine lv_goto (tgt := 158) hx hb dX12_ask_150 (by decide) ?_
        exact J158 0 H locs ls (by omega) hP hD hS hl
    refine xq_ifnonnull (tgt := 111) hx hb dX12_ask_104 (by decide) (fun h_85 => ?_) (fun h_85 => ?_)
    · have h_86 : ok L K z_3 2 := h_4.resolve_left (by omega)
      refine lv_aload_n hx hb dX12_ask_111 rfl (lv_at hl 1 rfl) ?_
      have h_87 : 0 ≤ v p0 0 ∧ v p0 0 ≤ 2000 := xf_12_0 hI q0
      refine gx_RX12_133 (y := v p0 0) hx hb hj hown hK hP q0 (((fr_use q0 f_57 rfl)).trans (((fr_use q0 f_50 rfl)).trans (((fr_use q0 f_43 rfl)).trans (((fr_use q0 f_32 rfl)).trans (((fr_use q0 f_22 rfl)).trans (fr_use q0 f_15 rfl)))))) dX12_ask_112 ?_
      refine xq_aload hx hb dX12_ask_115 (lv_at hl 0 rfl) ?_
      refine jt_q (.ref z_3.toNat) (rv_ref (h_86).1) ?_
      have h_88 : (-2147483648) ≤ v z_3 2 ∧ v z_3 2 ≤ 2147483647 := xf_2_2 hI h_86
      refine gx_RX12_361 (y := v z_3 2) hx hb hj hown hK hP h_86 (((fr_use h_86 f_57 rfl)).trans (((fr_use h_86 f_50 rfl)).trans (((fr_use h_86 f_43 rfl)).trans (((fr_use h_86 f_32 rfl)).trans (((fr_use h_86 f_22 rfl)).trans (fr_use h_86 f_15 rfl)))))) dX12_ask_117 ?_
      refine xr_sub hx hb dX12_ask_120 ?_
      refine xr_kept (fun z_89 h_90 h_91 => ?_)
      refine lv_sipush (v := iI 365) hx hb dX12_ask_121 rfl ?_
      refine xr_divA hx hb dX12_ask_124 (by omega) (by omega) (fun z_92 h_93 => ?_)
      exact J125 z_92 H locs ls (by omega) hP hD hS hl
    · refine lv_iconst (v := iI 0) hx hb dX12_ask_107 rfl ?_
      refine lv_goto (tgt := 125) hx hb dX12_ask_108 (by decide) ?_
      exact J125 0 H locs ls (by omega) hP hD hS hl
  refine xq_ifnonnull (tgt := 88) hx hb dX12_ask_81 (by decide) (fun h_94 => ?_) (fun h_94 => ?_)
  · have h_95 : ok L K z_3 2 := h_4.resolve_left (by omega)
    refine xq_aload hx hb dX12_ask_88 (lv_at hl 0 rfl) ?_
    refine jt_q (.ref z_3.toNat) (rv_ref (h_95).1) ?_
    have h_96 : (-2147483648) ≤ v z_3 1 ∧ v z_3 1 ≤ 2147483647 := xf_2_1 hI h_95
    refine gx_RX12_358 (y := v z_3 1) hx hb hj hown hK hP h_95 (((fr_use h_95 f_50 rfl)).trans (((fr_use h_95 f_43 rfl)).trans (((fr_use h_95 f_32 rfl)).trans (((fr_use h_95 f_22 rfl)).trans (fr_use h_95 f_15 rfl))))) dX12_ask_90 ?_
    exact J93 (v z_3 1) H locs ls (by omega) hP hD hS hl
  · refine lv_iconst (v := iI 0) hx hb dX12_ask_84 rfl ?_
    refine lv_goto (tgt := 93) hx hb dX12_ask_85 (by decide) ?_
    exact J93 0 H locs ls (by omega) hP hD hS hl
set_option maxHeartbeats 2000000 in
set_option maxRecDepth 100000 in
theorem sX12_valueFor (l : Launch) (dC : Nat → ClassId) (dI : Nat → Nat → Nat) (sz : Nat) (L : List Nat) (cid : Nat → ClassId) (K : Int → Nat) (N : Int → Int) (tW : Nat) (sK sV : Nat → Nat) (v : Int → Int → Int) (p0 : Int) (p1 : Int) (p2 : Int) (p3 : Int) (hI : xI L K N v) (q0 : ok L K p0 12) (q1 : rg p1) (q2 : ok L K p2 0) (q3 : rg p3) : Met l yX12_valueFor (jk yX12_valueFor cX12_valueFor 5 (some .int)) ({ frames := 4, cells := 0, slots := 0, locals := 115 }) (va_Pc [.ref p0.toNat, .int (iI p1), .ref p2.toNat, .int (iI p3)] (xP (dC, dI) (xG L cid K N v) (xT cid) tW sK sV sz)) (va_Qi (fun (r : Int32) (u : (Int → Int → Int)) => ∃ z : Int, r = iI z ∧ (xI L K N u) ∧ (fr K [(33, (-1)), (34, (-1))] u v) ∧ (rg z)) (fun u t => va_P (dC, dI) vwCl (xG L cid K N u) t.heap ∧ va_K (dC, dI) vwCl (xT cid) t ∧ va_D (va_A (xG L cid K N v) sz) (xG L cid K N u)) (va_A (xG L cid K N v) sz)) 0 0 (va_A (xG L cid K N v) sz) := by
  refine Met.ofW (cc := cX12_valueFor) (maxL := 5) (ret := (some .int)) (by decide) rfl ?_
  intro p e s m args below meth c s₁ B hml hv
  obtain ⟨rfl, ⟨hsz, hP, hK, hD0⟩, hX⟩ := hv
  have hx := B.exec
  have hb := B.bytes
  have hr := B.returns
  have hts := atoms_spec (ws := (jk yX12_valueFor cX12_valueFor 5 (some .int))) B.pre
  have hj : ∀ w ∈ jw, w.before ([.ref p0.toNat, .int (iI p1), .ref p2.toNat, .int (iI p3)] : List Value).toArray s = true := fun w h => hts w (jm h)
  have hown : s.vm.findClass RX12 = some m.cls := findClass_of_methodNamed B.named
  subst hsz
  have hD := hD0.self (sz := s.heap.size)
  generalize hAe : (va_A (xG L cid K N v) s.heap.size) = A at hD hX ⊢
  have hA : ∀ q : Nat, s.heap.size ≤ q → A q := fun q h => by rw [← hAe]; exact Or.inr h
  have hS : va_S A s.heap s.heap [] := va_S.rf
  have hXa := hX
  have hP : va_P (dC, dI) vwCl (xG L cid K N v) s.heap := hP
  have hl := lv_entry ([.ref p0.toNat, .int (iI p1), .ref p2.toNat, .int (iI p3)]) (n := 5) (Nat.le_of_ble_eq_true rfl)
  rw [lg_entry_eq]
  generalize (lg_sl ([.ref p0.toNat, .int (iI p1), .ref p2.toNat, .int (iI p3)]) ++ List.replicate (5 - (lg_sl ([.ref p0.toNat, .int (iI p1), .ref p2.toNat, .int (iI p3)])).length) Slot.unset).toArray = ls at hl ⊢
  have hl : lv_has ls 5 [(0, .ref p0.toNat), (1, .int (iI p1)), (2, .ref p2.toNat), (3, .int (iI p3))] := hl
  generalize hQ : MQ below (va_Qi (fun (r : Int32) (u : (Int → Int → Int)) => ∃ z : Int, r = iI z ∧ (xI L K N u) ∧ (fr K [(33, (-1)), (34, (-1))] u v) ∧ (rg z)) (fun u t => va_P (dC, dI) vwCl (xG L cid K N u) t.heap ∧ va_K (dC, dI) vwCl (xT cid) t ∧ va_D A (xG L cid K N u)) A) ([.ref p0.toNat, .int (iI p1), .ref p2.toNat, .int (iI p3)] : List Value).toArray s 0 0 A = Q
  suffices ST : ∀ (H : Heap) (locs : List Loc), va_P (dC, dI) vwCl (xG L cid K N v) H → va_S A s.heap H locs → W p l e ({ frames := 4, cells := 0, slots := 0, locals := 115 }) s m ([.ref p0.toNat, .int (iI p1), .ref p2.toNat, .int (iI p3)] : List Value).toArray below meth c H locs 0 0 Q (F0 m 0 ls []) from ST _ _ hP hS
  clear hP hS
  intro H locs hP hS
  refine lv_aload_n hx hb dX12_valueFor_0 rfl (lv_at hl 0 rfl) ?_
  refine lv_aload_n hx hb dX12_valueFor_1 rfl (lv_at hl 2 rfl) ?_
  refine jc_i (va_runV (As := [.ref p2.toNat]) (rest := []) ⟨hx, hb, hml, hown, hts⟩ (sX12_standing l dC dI _ L cid K N tW sK sV v p0 p2 hI q0 q2) (cwV 1 hts (jgoodV m_1039 m_1040 m_1041 m_873 m_1042) rfl rfl rfl (by decide +kernel) ⟨(Nat.le_of_ble_eq_true rfl), (Nat.le_of_ble_eq_true rfl)⟩) ⟨xP_blind, xrecv hK hP q0 rfl rfl, fun U hU hW => ⟨rfl, xP_of hU hW hP hK hD hX hS (fun _ h => h) hA⟩⟩ rfl rfl hl.1 rfl (lv_room (Nat.le_of_ble_eq_true rfl)) dX12_valueFor_2 ⟨(Nat.le_of_ble_eq_true rfl), (Nat.le_of_ble_eq_true rfl)⟩) hP hS hA (fun r_1 H locs w_2 hP hS => ?_)
  obtain ⟨z_3, rfl, h_4⟩ := w_2
  refine lv_istore (i := 4) (lv' := [(4, .int (iI z_3)), (0, .ref p0.toNat), (1, .int (iI p1)), (2, .ref p2.toNat), (3, .int (iI p3))]) hx hb dX12_valueFor_5 hl (by decide) rfl (fun ls hl => ?_)
  refine lv_aload_n hx hb dX12_valueFor_7 rfl (lv_at hl 1 rfl) ?_
  refine lv_aload_n hx hb dX12_valueFor_8 rfl (lv_at hl 3 rfl) ?_
  refine lv_iload hx hb dX12_valueFor_9 (lv_at hl 0 rfl) ?_
  refine lv_iload_n hx hb dX12_valueFor_11 rfl (lv_at hl 4 rfl) ?_
  refine jcg_v (va_runV (As := [.ref p2.toNat, .int (iI z_3), .int (iI p3)]) (rest := []) ⟨hx, hb, hml, hown, hts⟩ (sX12_ask l dC dI _ L cid K N tW sK sV v p0 p2 z_3 p3 hI q0 q2 (by omega) (by omega)) (cwV 3 hts (jgoodV m_1084 m_1085 m_1086 m_873 m_1087) rfl rfl rfl (by decide +kernel) ⟨(Nat.le_of_ble_eq_true rfl), (Nat.le_of_ble_eq_true rfl)⟩) ⟨xP_blind, xrecv hK hP q0 rfl rfl, fun U hU hW => ⟨rfl, xP_of hU hW hP hK hD hX hS (fun _ h => h) hA⟩⟩ rfl rfl hl.1 rfl (lv_room (Nat.le_of_ble_eq_true rfl)) dX12_valueFor_12 ⟨(Nat.le_of_ble_eq_true rfl), (Nat.le_of_ble_eq_true rfl)⟩) hD hS hA (fun v_8 H locs w_6 hP hK hD hS => ?_)
  obtain ⟨I_10, f_9⟩ := w_6
  have hP : va_P (dC, dI) vwCl (xG L cid K N v_8) H := hP
  have hD : va_D A (xG L cid K N v_8) := hD
  refine lv_aload_n hx hb dX12_valueFor_15 rfl (lv_at hl 1 rfl) ?_
  have h_11 : ok L K (v p0 3) 8 := xf_12_3 hI q0
  refine gx_RX12_19 (y := v p0 3) hx hb hj hown hK hP q0 ((xf_12_3 I_10 q0).1) (fr_use q0 f_9 rfl) dX12_valueFor_16 ?_
  refine lv_iload_n hx hb dX12_valueFor_19 rfl (lv_at hl 2 rfl) ?_
  refine lv_iload hx hb dX12_valueFor_20 (lv_at hl 0 rfl) ?_
  refine lv_bipush (v := iI 6) hx hb dX12_valueFor_22 rfl ?_
  have J33 : ∀ (s0_33 : Int) (H : Heap) (locs : List Loc) (ls : Array Slot), ((-2147483648) ≤ s0_33 ∧ s0_33 ≤ 2147483647) → va_P (dC, dI) vwCl (xG L cid K N v_8) H → va_D A (xG L cid K N v_8) → va_S A s.heap H locs → lv_has ls 5 [(4, .int (iI z_3)), (0, .ref p0.toNat), (1, .int (iI p1)), (2, .ref p2.toNat), (3, .int (iI p3))] → W p l e ({ frames := 4, cells := 0, slots := 0, locals := 115 }) s m ([.ref p0.toNat, .int (iI p1), .ref p2.toNat, .int (iI p3)] : List Value).toArray below meth c H locs 0 0 Q (F0 m 33 ls [.int (iI s0_33), .int (iI p1), .ref (v p0 3).toNat]) := by
    intro s0_33 H locs ls h_12 hP hD hS hl
    refine lv_aload_n hx hb dX12_valueFor_33 rfl (lv_at hl 1 rfl) ?_
    have h_13 : 0 ≤ v p0 0 ∧ v p0 0 ≤ 2000 := xf_12_0 hI q0
    refine gx_RX12_133 (y := v p0 0) hx hb hj hown hK hP q0 (fr_use q0 f_9 rfl) dX12_valueFor_34 ?_
    refine jcg_i (va_runV (As := [.int (iI p1), .int (iI s0_33), .int (iI (v p0 0))]) (rest := []) ⟨hx, hb, hml, hown, hts⟩ (sX8_valueOf l dC dI _ L cid K N tW sK sV v_8 (v p0 3) p1 s0_33 (v p0 0) I_10 h_11 (by omega) (by omega) (by omega)) (cwV 3 hts (jgoodV m_1088 m_956 m_957 m_928 m_958) rfl rfl rfl (by decide +kernel) ⟨(Nat.le_of_ble_eq_true rfl), (Nat.le_of_ble_eq_true rfl)⟩) ⟨xP_blind, xrecv hK hP h_11 rfl rfl, fun U hU hW => ⟨rfl, xP_of hU hW hP hK hD hX hS (fun _ h => h) hA⟩⟩ rfl rfl hl.1 rfl (lv_room (Nat.le_of_ble_eq_true rfl)) dX12_valueFor_37 ⟨(Nat.le_of_ble_eq_true rfl), (Nat.le_of_ble_eq_true rfl)⟩) hD hS hA (fun r_14 v_18 H locs w_15 hP hK hD hS => ?_)
    obtain ⟨z_16, rfl, I_20, f_19, h_17⟩ := w_15
    have hP : va_P (dC, dI) vwCl (xG L cid K N v_18) H := hP
    have hD : va_D A (xG L cid K N v_18) := hD
    rw [← hQ]
    exact W.iret (v := iI z_16) hx hb hr (fun t ht hW => ⟨⟨iI z_16, v_18, rfl, ⟨z_16, rfl, I_20, (fr_tr f_19 rfl (fr_tr f_9 rfl fr_rf)), by omega⟩, by rw [ht]; exact hP, va_K.moved hW.alike hK, hD⟩, hS.F ht⟩) hS.2.2 dX12_valueFor_40
  refine xr_icmp_ne (tgt := 31) hx hb dX12_valueFor_24 (by decide) (by omega) (by omega) (fun h_21 => ?_) (fun h_21 => ?_)
  · refine lv_iload hx hb dX12_valueFor_31 (lv_at hl 0 rfl) ?_
    exact J33 z_3 H locs ls (by omega) hP hD hS hl
  · refine lv_iconst (v := iI (-1)) hx hb dX12_valueFor_27 rfl ?_
    refine lv_goto (tgt := 33) hx hb dX12_valueFor_28 (by decide) ?_
    exact J33 (-1) H locs ls (by omega) hP hD hS hl
set_option maxHeartbeats 2000000 in
set_option maxRecDepth 100000 in
theorem sX12_mayTake (l : Launch) (dC : Nat → ClassId) (dI : Nat → Nat → Nat) (sz : Nat) (L : List Nat) (cid : Nat → ClassId) (K : Int → Nat) (N : Int → Int) (tW : Nat) (sK sV : Nat → Nat) (v : Int → Int → Int) (p0 : Int) (p1 : Int) (p2 : Int) (hI : xI L K N v) (q0 : ok L K p0 12) (q1 : ok L K p1 0) (q2 : rg p2) : Met l yX12_mayTake (jk yX12_mayTake cX12_mayTake 4 (some .boolean)) ({ frames := 5, cells := 0, slots := 0, locals := 139 }) (va_Pc [.ref p0.toNat, .ref p1.toNat, .int (iI p2)] (xP (dC, dI) (xG L cid K N v) (xT cid) tW sK sV sz)) (va_Qi (fun (r : Int32) (u : (Int → Int → Int)) => ∃ z : Int, r = iI z ∧ (xI L K N u) ∧ (fr K [(33, (-1)), (34, (-1))] u v) ∧ (0 ≤ z ∧ z ≤ 1)) (fun u t => va_P (dC, dI) vwCl (xG L cid K N u) t.heap ∧ va_K (dC, dI) vwCl (xT cid) t ∧ va_D (va_A (xG L cid K N v) sz) (xG L cid K N u)) (va_A (xG L cid K N v) sz)) 0 0 (va_A (xG L cid K N v) sz) := by
  refine Met.ofW (cc := cX12_mayTake) (maxL := 4) (ret := (some .boolean)) (by decide) rfl ?_
  intro p e s m args below meth c s₁ B hml hv
  obtain ⟨rfl, ⟨hsz, hP, hK, hD0⟩, hX⟩ := hv
  have hx := B.exec
  have hb := B.bytes
  have hr := B.returns
  have hts := atoms_spec (ws := (jk yX12_mayTake cX12_mayTake 4 (some .boolean))) B.pre
  have hj : ∀ w ∈ jw, w.before ([.ref p0.toNat, .ref p1.toNat, .int (iI p2)] : List Value).toArray s = true := fun w h => hts w (jm h)
  have hown : s.vm.findClass RX12 = some m.cls := findClass_of_methodNamed B.named
  subst hsz
  have hD := hD0.self (sz := s.heap.size)
  generalize hAe : (va_A (xG L cid K N v) s.heap.size) = A at hD hX ⊢
  have hA : ∀ q : Nat, s.heap.size ≤ q → A q := fun q h => by rw [← hAe]; exact Or.inr h
  have hS : va_S A s.heap s.heap [] := va_S.rf
  have hXa := hX
  have hP : va_P (dC, dI) vwCl (xG L cid K N v) s.heap := hP
  have hl := lv_entry ([.ref p0.toNat, .ref p1.toNat, .int (iI p2)]) (n := 4) (Nat.le_of_ble_eq_true rfl)
  rw [lg_entry_eq]
  generalize (lg_sl ([.ref p0.toNat, .ref p1.toNat, .int (iI p2)]) ++ List.replicate (4 - (lg_sl ([.ref p0.toNat, .ref p1.toNat, .int (iI p2)])).length) Slot.unset).toArray = ls at hl ⊢
  have hl : lv_has ls 4 [(0, .ref p0.toNat), (1, .ref p1.toNat), (2, .int (iI p2))] := hl
  generalize hQ : MQ below (va_Qi (fun (r : Int32) (u : (Int → Int → Int)) => ∃ z : Int, r = iI z ∧ (xI L K N u) ∧ (fr K [(33, (-1)), (34, (-1))] u v) ∧ (0 ≤ z ∧ z ≤ 1)) (fun u t => va_P (dC, dI) vwCl (xG L cid K N u) t.heap ∧ va_K (dC, dI) vwCl (xT cid) t ∧ va_D A (xG L cid K N u)) A) ([.ref p0.toNat, .ref p1.toNat, .int (iI p2)] : List Value).toArray s 0 0 A = Q
  suffices ST : ∀ (H : Heap) (locs : List Loc), va_P (dC, dI) vwCl (xG L cid K N v) H → va_S A s.heap H locs → W p l e ({ frames := 5, cells := 0, slots := 0, locals := 139 }) s m ([.ref p0.toNat, .ref p1.toNat, .int (iI p2)] : List Value).toArray below meth c H locs 0 0 Q (F0 m 0 ls []) from ST _ _ hP hS
  clear hP hS
  intro H locs hP hS
  refine lv_aload_n hx hb dX12_mayTake_0 rfl (lv_at hl 0 rfl) ?_
  refine lv_iload_n hx hb dX12_mayTake_1 rfl (lv_at hl 2 rfl) ?_
  refine jc_q (va_runV (As := [.int (iI p2)]) (rest := []) ⟨hx, hb, hml, hown, hts⟩ (sX12_livingHandAt l dC dI _ L cid K N tW sK sV v p0 p2 hI q0 (by omega)) (cwV 1 hts (jgoodV m_1089 m_1090 m_1091 m_873 m_1092) rfl rfl rfl (by decide +kernel) ⟨(Nat.le_of_ble_eq_true rfl), (Nat.le_of_ble_eq_true rfl)⟩) ⟨xP_blind, xrecv hK hP q0 rfl rfl, fun U hU hW => ⟨rfl, xP_of hU hW hP hK hD hX hS (fun _ h => h) hA⟩⟩ rfl rfl hl.1 rfl (lv_room (Nat.le_of_ble_eq_true rfl)) dX12_mayTake_2 ⟨(Nat.le_of_ble_eq_true rfl), (Nat.le_of_ble_eq_true rfl)⟩) hP hS hA (fun r_1 H locs w_2 hP hS => ?_)
  obtain ⟨z_3, rfl, h_4⟩ := w_2
  refine jt_q (rv z_3) rfl ?_
  refine xq_astore_n (i := 3) (lv' := [(3, rv z_3), (0, .ref p0.toNat), (1, .ref p1.toNat), (2, .int (iI p2))]) hx hb dX12_mayTake_5 rfl hl (by decide) rfl (fun ls hl => ?_)
  refine xq_aload_n hx hb dX12_mayTake_6 rfl (lv_at hl 0 rfl) ?_
  refine xq_ifnull (tgt := 26) hx hb dX12_mayTake_7 (by decide) (fun h_5 => ?_) (fun h_5 => ?_)
  · refine lv_iconst (v := iI 0) hx hb dX12_mayTake_26 rfl ?_
    rw [← hQ]
    exact W.zret (v := iI 0) (ty := .boolean) hx hb hr (nb_bool (by omega) (by omega)) (fun t ht hW => ⟨⟨iI 0, v, rfl, ⟨0, rfl, hI, fr_rf, by omega⟩, by rw [ht]; exact hP, va_K.moved hW.alike hK, hD⟩, hS.F ht⟩) hS.2.2 dX12_mayTake_27
  · have h_6 : ok L K z_3 2 := h_4.resolve_left (by omega)
    refine lv_aload_n hx hb dX12_mayTake_10 rfl (lv_at hl 1 rfl) ?_
    refine lv_aload_n hx hb dX12_mayTake_11 rfl (lv_at hl 2 rfl) ?_
    refine jc_i (va_runV (As := [.ref p1.toNat]) (rest := []) ⟨hx, hb, hml, hown, hts⟩ (sX12_isStruck l dC dI _ L cid K N tW sK sV v p0 p1 hI q0 q1) (cwV 1 hts (jgoodV m_1060 m_1061 m_1062 m_873 m_1063) rfl rfl rfl (by decide +kernel) ⟨(Nat.le_of_ble_eq_true rfl), (Nat.le_of_ble_eq_true rfl)⟩) ⟨xP_blind, xrecv hK hP q0 rfl rfl, fun U hU hW => ⟨rfl, xP_of hU hW hP hK hD hX hS (fun _ h => h) hA⟩⟩ rfl rfl hl.1 rfl (lv_room (Nat.le_of_ble_eq_true rfl)) dX12_mayTake_12 ⟨(Nat.le_of_ble_eq_true rfl), (Nat.le_of_ble_eq_true rfl)⟩) hP hS hA (fun r_7 H locs w_8 hP hS => ?_)
    obtain ⟨z_9, rfl, h_10⟩ := w_8
    refine xr_if_ne (tgt := 26) hx hb dX12_mayTake_15 (by decide) (by omega) (fun h_11 => ?_) (fun h_11 => ?_)
    · refine lv_iconst (v := iI 0) hx hb dX12_mayTake_26 rfl ?_
      rw [← hQ]
      exact W.zret (v := iI 0) (ty := .boolean) hx hb hr (nb_bool (by omega) (by omega)) (fun t ht hW => ⟨⟨iI 0, v, rfl, ⟨0, rfl, hI, fr_rf, by omega⟩, by rw [ht]; exact hP, va_K.moved hW.alike hK, hD⟩, hS.F ht⟩) hS.2.2 dX12_mayTake_27
    · refine lv_aload_n hx hb dX12_mayTake_18 rfl (lv_at hl 2 rfl) ?_
      have h_12 : (-2147483648) ≤ v p1 12 ∧ v p1 12 ≤ 2147483647 := xf_0_12 hI q1
      refine gx_RX12_247 (y := v p1 12) hx hb hj hown hK hP q1 rfl dX12_mayTake_19 ?_
      refine lv_iconst (v := iI (-1)) hx hb dX12_mayTake_22 rfl ?_
      refine xr_icmp_eq (tgt := 28) hx hb dX12_mayTake_23 (by decide) (by omega) (by omega) (fun h_13 => ?_) (fun h_13 => ?_)
      · refine xq_aload_n hx hb dX12_mayTake_28 rfl (lv_at hl 0 rfl) ?_
        refine jt_q (.ref z_3.toNat) (rv_ref (h_6).1) ?_
        have h_14 : (-2147483648) ≤ v z_3 0 ∧ v z_3 0 ≤ 2147483647 := xf_2_0 hI h_6
        refine gx_RX12_322 (y := v z_3 0) hx hb hj hown hK hP h_6 rfl dX12_mayTake_29 ?_
        refine lv_aload_n hx hb dX12_mayTake_32 rfl (lv_at hl 2 rfl) ?_
        have h_15 : (-2147483648) ≤ v p1 8 ∧ v p1 8 ≤ 2147483647 := xf_0_8 hI q1
        refine gx_RX12_180 (y := v p1 8) hx hb hj hown hK hP q1 rfl dX12_mayTake_33 ?_
        refine lv_ishr hx hb dX12_mayTake_36 ?_
        refine xr_any (fun z_16 h_17 => ?_)
        refine lv_iconst (v := iI 1) hx hb dX12_mayTake_37 rfl ?_
        refine xr_andR hx hb (by omega) (by omega) dX12_mayTake_38 (fun z_18 h_19 => ?_)
        refine xr_if_eq (tgt := 54) hx hb dX12_mayTake_39 (by decide) (by omega) (fun h_20 => ?_) (fun h_20 => ?_)
        · refine lv_iconst (v := iI 0) hx hb dX12_mayTake_54 rfl ?_
          rw [← hQ]
          exact W.zret (v := iI 0) (ty := .boolean) hx hb hr (nb_bool (by omega) (by omega)) (fun t ht hW => ⟨⟨iI 0, v, rfl, ⟨0, rfl, hI, fr_rf, by omega⟩, by rw [ht]; exact hP, va_K.moved hW.alike hK, hD⟩, hS.F ht⟩) hS.2.2 dX12_mayTake_55
        · refine xq_aload_n hx hb dX12_mayTake_42 rfl (lv_at hl 0 rfl) ?_
          refine jt_q (.ref z_3.toNat) (rv_ref (h_6).1) ?_
          have h_21 : (-2147483648) ≤ v z_3 4 ∧ v z_3 4 ≤ 2147483647 := xf_2_4 hI h_6
          refine gx_RX12_303 (y := v z_3 4) hx hb hj hown hK hP h_6 rfl dX12_mayTake_43 ?_
          refine lv_aload_n hx hb dX12_mayTake_46 rfl (lv_at hl 2 rfl) ?_
          have h_22 : (-2147483648) ≤ v p1 17 ∧ v p1 17 ≤ 2147483647 := xf_0_17 hI q1
          refine gx_RX12_325 (y := v p1 17) hx hb hj hown hK hP q1 rfl dX12_mayTake_47 ?_
          refine lv_iand hx hb dX12_mayTake_50 ?_
          refine xr_any (fun z_23 h_24 => ?_)
          refine xr_if_eq (tgt := 56) hx hb dX12_mayTake_51 (by decide) (by omega) (fun h_25 => ?_) (fun h_25 => ?_)
          · refine lv_aload_n hx hb dX12_mayTake_56 rfl (lv_at hl 1 rfl) ?_
            refine lv_iconst (v := iI 2) hx hb dX12_mayTake_57 rfl ?_
            refine lv_aload_n hx hb dX12_mayTake_58 rfl (lv_at hl 2 rfl) ?_
            refine lv_iload_n hx hb dX12_mayTake_59 rfl (lv_at hl 3 rfl) ?_
            refine jcg_i (va_runV (As := [.int (iI 2), .ref p1.toNat, .int (iI p2)]) (rest := []) ⟨hx, hb, hml, hown, hts⟩ (sX12_valueFor l dC dI _ L cid K N tW sK sV v p0 2 p1 p2 hI q0 (by omega) q1 (by omega)) (cwV 3 hts (jgoodV m_1093 m_1094 m_1095 m_873 m_1096) rfl rfl rfl (by decide +kernel) ⟨(Nat.le_of_ble_eq_true rfl), (Nat.le_of_ble_eq_true rfl)⟩) ⟨xP_blind, xrecv hK hP q0 rfl rfl, fun U hU hW => ⟨rfl, xP_of hU hW hP hK hD hX hS (fun _ h => h) hA⟩⟩ rfl rfl hl.1 rfl (lv_room (Nat.le_of_ble_eq_true rfl)) dX12_mayTake_60 ⟨(Nat.le_of_ble_eq_true rfl), (Nat.le_of_ble_eq_true rfl)⟩) hD hS hA (fun r_26 v_30 H locs w_27 hP hK hD hS => ?_)
            obtain ⟨z_28, rfl, I_32, f_31, h_29⟩ := w_27
            have hP : va_P (dC, dI) vwCl (xG L cid K N v_30) H := hP
            have hD : va_D A (xG L cid K N v_30) := hD
            refine xr_if_eq (tgt := 70) hx hb dX12_mayTake_63 (by decide) (by omega) (fun h_33 => ?_) (fun h_33 => ?_)
            · refine lv_iconst (v := iI 0) hx hb dX12_mayTake_70 rfl ?_
              rw [← hQ]
              exact W.zret (v := iI 0) (ty := .boolean) hx hb hr (nb_bool (by omega) (by omega)) (fun t ht hW => ⟨⟨iI 0, v_30, rfl, ⟨0, rfl, I_32, (fr_tr f_31 rfl fr_rf), by omega⟩, by rw [ht]; exact hP, va_K.moved hW.alike hK, hD⟩, hS.F ht⟩) hS.2.2 dX12_mayTake_71
            · refine lv_iconst (v := iI 1) hx hb dX12_mayTake_66 rfl ?_
              refine lv_goto (tgt := 71) hx hb dX12_mayTake_67 (by decide) ?_
              rw [← hQ]
              exact W.zret (v := iI 1) (ty := .boolean) hx hb hr (nb_bool (by omega) (by omega)) (fun t ht hW => ⟨⟨iI 1, v_30, rfl, ⟨1, rfl, I_32, (fr_tr f_31 rfl fr_rf), by omega⟩, by rw [ht]; exact hP, va_K.moved hW.alike hK, hD⟩, hS.F ht⟩) hS.2.2 dX12_mayTake_71
          · refine lv_iconst (v := iI 0) hx hb dX12_mayTake_54 rfl ?_
            rw [← hQ]
            exact W.zret (v := iI 0) (ty := .boolean) hx hb hr (nb_bool (by omega) (by omega)) (fun t ht hW => ⟨⟨iI 0, v, rfl, ⟨0, rfl, hI, fr_rf, by omega⟩, by rw [ht]; exact hP, va_K.moved hW.alike hK, hD⟩, hS.F ht⟩) hS.2.2 dX12_mayTake_55
      · refine lv_iconst (v := iI 0) hx hb dX12_mayTake_26 rfl ?_
        rw [← hQ]
        exact W.zret (v := iI 0) (ty := .boolean) hx hb hr (nb_bool (by omega) (by omega)) (fun t ht hW => ⟨⟨iI 0, v, rfl, ⟨0, rfl, hI, fr_rf, by omega⟩, by rw [ht]; exact hP, va_K.moved hW.alike hK, hD⟩, hS.F ht⟩) hS.2.2 dX12_mayTake_27
set_option maxHeartbeats 2000000 in
set_option maxRecDepth 100000 in
theorem sX12_give (l : Launch) (dC : Nat → ClassId) (dI : Nat → Nat → Nat) (sz : Nat) (L : List Nat) (cid : Nat → ClassId) (K : Int → Nat) (N : Int → Int) (tW : Nat) (sK sV : Nat → Nat) (v : Int → Int → Int) (p0 : Int) (p1 : Int) (p2 : Int) (hI : xI L K N v) (q0 : ok L K p0 12) (q1 : rg p1) (q2 : rg p2) : Met l yX12_give (jk yX12_give cX12_give 4 (some .boolean)) ({ frames := 6, cells := 0, slots := 0, locals := 162 }) (va_Pc [.ref p0.toNat, .int (iI p1), .int (iI p2)] (xP (dC, dI) (xG L cid K N v) (xT cid) tW sK sV sz)) (va_Qi (fun (r : Int32) (u : (Int → Int → Int)) => ∃ z : Int, r = iI z ∧ (xI L K N u) ∧ (fr K [(0, 14), (33, (-1)), (34, (-1))] u v) ∧ (0 ≤ z ∧ z ≤ 1)) (fun u t => va_P (dC, dI) vwCl (xG L cid K N u) t.heap ∧ va_K (dC, dI) vwCl (xT cid) t ∧ va_D (va_A (xG L cid K N v) sz) (xG L cid K N u)) (va_A (xG L cid K N v) sz)) 0 0 (va_A (xG L cid K N v) sz) := by
  refine Met.ofW (cc := cX12_give) (maxL := 4) (ret := (some .boolean)) (by decide) rfl ?_
  intro p e s m args below meth c s₁ B hml hv
  obtain ⟨rfl, ⟨hsz, hP, hK, hD0⟩, hX⟩ := hv
  have hx := B.exec
  have hb := B.bytes
  have hr := B.returns
  have hts := atoms_spec (ws := (jk yX12_give cX12_give 4 (some .boolean))) B.pre
  have hj : ∀ w ∈ jw, w.before ([.ref p0.toNat, .int (iI p1), .int (iI p2)] : List Value).toArray s = true := fun w h => hts w (jm h)
  have hown : s.vm.findClass RX12 = some m.cls := findClass_of_methodNamed B.named
  subst hsz
  have hD := hD0.self (sz := s.heap.size)
  generalize hAe : (va_A (xG L cid K N v) s.heap.size) = A at hD hX ⊢
  have hA : ∀ q : Nat, s.heap.size ≤ q → A q := fun q h => by rw [← hAe]; exact Or.inr h
  have hS : va_S A s.heap s.heap [] := va_S.rf
  have hXa := hX
  have hP : va_P (dC, dI) vwCl (xG L cid K N v) s.heap := hP
  have hl := lv_entry ([.ref p0.toNat, .int (iI p1), .int (iI p2)]) (n := 4) (Nat.le_of_ble_eq_true rfl)
  rw [lg_entry_eq]
  generalize (lg_sl ([.ref p0.toNat, .int (iI p1), .int (iI p2)]) ++ List.replicate (4 - (lg_sl ([.ref p0.toNat, .int (iI p1), .int (iI p2)])).length) Slot.unset).toArray = ls at hl ⊢
  have hl : lv_has ls 4 [(0, .ref p0.toNat), (1, .int (iI p1)), (2, .int (iI p2))] := hl
  generalize hQ : MQ below (va_Qi (fun (r : Int32) (u : (Int → Int → Int)) => ∃ z : Int, r = iI z ∧ (xI L K N u) ∧ (fr K [(0, 14), (33, (-1)), (34, (-1))] u v) ∧ (0 ≤ z ∧ z ≤ 1)) (fun u t => va_P (dC, dI) vwCl (xG L cid K N u) t.heap ∧ va_K (dC, dI) vwCl (xT cid) t ∧ va_D A (xG L cid K N u)) A) ([.ref p0.toNat, .int (iI p1), .int (iI p2)] : List Value).toArray s 0 0 A = Q
  suffices ST : ∀ (H : Heap) (locs : List Loc), va_P (dC, dI) vwCl (xG L cid K N v) H → va_S A s.heap H locs → W p l e ({ frames := 6, cells := 0, slots := 0, locals := 162 }) s m ([.ref p0.toNat, .int (iI p1), .int (iI p2)] : List Value).toArray below meth c H locs 0 0 Q (F0 m 0 ls []) from ST _ _ hP hS
  clear hP hS
  intro H locs hP hS
  refine lv_aload_n hx hb dX12_give_0 rfl (lv_at hl 0 rfl) ?_
  refine lv_iload_n hx hb dX12_give_1 rfl (lv_at hl 1 rfl) ?_
  refine lv_iconst (v := iI 0) hx hb dX12_give_2 rfl ?_
  refine jc_q (va_runV (As := [.int (iI p1), .int (iI 0)]) (rest := []) ⟨hx, hb, hml, hown, hts⟩ (sX12_entryOfKind l dC dI _ L cid K N tW sK sV v p0 p1 0 hI q0 (by omega) (by omega)) (cwV 2 hts (jgoodV m_1027 m_1028 m_1029 m_873 m_1030) rfl rfl rfl (by decide +kernel) ⟨(Nat.le_of_ble_eq_true rfl), (Nat.le_of_ble_eq_true rfl)⟩) ⟨xP_blind, xrecv hK hP q0 rfl rfl, fun U hU hW => ⟨rfl, xP_of hU hW hP hK hD hX hS (fun _ h => h) hA⟩⟩ rfl rfl hl.1 rfl (lv_room (Nat.le_of_ble_eq_true rfl)) dX12_give_3 ⟨(Nat.le_of_ble_eq_true rfl), (Nat.le_of_ble_eq_true rfl)⟩) hP hS hA (fun r_1 H locs w_2 hP hS => ?_)
  obtain ⟨z_3, rfl, h_4⟩ := w_2
  refine jt_q (rv z_3) rfl ?_
  refine xq_astore_n (i := 3) (lv' := [(3, rv z_3), (0, .ref p0.toNat), (1, .int (iI p1)), (2, .int (iI p2))]) hx hb dX12_give_6 rfl hl (by decide) rfl (fun ls hl => ?_)
  refine xq_aload_n hx hb dX12_give_7 rfl (lv_at hl 0 rfl) ?_
  refine xq_ifnull (tgt := 27) hx hb dX12_give_8 (by decide) (fun h_5 => ?_) (fun h_5 => ?_)
  · refine lv_iconst (v := iI 0) hx hb dX12_give_27 rfl ?_
    rw [← hQ]
    exact W.zret (v := iI 0) (ty := .boolean) hx hb hr (nb_bool (by omega) (by omega)) (fun t ht hW => ⟨⟨iI 0, v, rfl, ⟨0, rfl, hI, fr_rf, by omega⟩, by rw [ht]; exact hP, va_K.moved hW.alike hK, hD⟩, hS.F ht⟩) hS.2.2 dX12_give_28
  · have h_6 : ok L K z_3 0 := h_4.resolve_left (by omega)
    refine xq_aload_n hx hb dX12_give_11 rfl (lv_at hl 0 rfl) ?_
    refine jt_q (.ref z_3.toNat) (rv_ref (h_6).1) ?_
    refine jc_i (va_runV (As := []) (rest := []) ⟨hx, hb, hml, hown, hts⟩ (sX0_isDone l dC dI _ L cid K N tW sK sV v z_3 hI h_6) (cwV 0 hts (jgoodV m_1097 m_1098 m_1099 m_666 m_1100) rfl rfl rfl (by decide +kernel) ⟨(Nat.le_of_ble_eq_true rfl), (Nat.le_of_ble_eq_true rfl)⟩) ⟨xP_blind, xrecv hK hP h_6 rfl rfl, fun U hU hW => ⟨rfl, xP_of hU hW hP hK hD hX hS (fun _ h => h) hA⟩⟩ rfl rfl hl.1 rfl (lv_room (Nat.le_of_ble_eq_true rfl)) dX12_give_12 ⟨(Nat.le_of_ble_eq_true rfl), (Nat.le_of_ble_eq_true rfl)⟩) hP hS hA (fun r_7 H locs w_8 hP hS => ?_)
    obtain ⟨z_9, rfl, h_10, h_11⟩ := w_8
    have h_12 : 0 ≤ v z_3 15 ∧ v z_3 15 ≤ 200 := xf_0_15 hI h_6
    have h_13 : 0 ≤ v z_3 9 ∧ v z_3 9 ≤ 200 := xf_0_9 hI h_6
    refine xr_if_ne (tgt := 27) hx hb dX12_give_15 (by decide) (by omega) (fun h_14 => ?_) (fun h_14 => ?_)
    · refine lv_iconst (v := iI 0) hx hb dX12_give_27 rfl ?_
      rw [← hQ]
      exact W.zret (v := iI 0) (ty := .boolean) hx hb hr (nb_bool (by omega) (by omega)) (fun t ht hW => ⟨⟨iI 0, v, rfl, ⟨0, rfl, hI, fr_rf, by omega⟩, by rw [ht]; exact hP, va_K.moved hW.alike hK, hD⟩, hS.F ht⟩) hS.2.2 dX12_give_28
    · refine lv_aload_n hx hb dX12_give_18 rfl (lv_at hl 1 rfl) ?_
      refine xq_aload_n hx hb dX12_give_19 rfl (lv_at hl 0 rfl) ?_
      refine jt_q (.ref z_3.toNat) (rv_ref (h_6).1) ?_
      refine lv_iload_n hx hb dX12_give_20 rfl (lv_at hl 3 rfl) ?_
      refine jcg_i (va_runV (As := [.ref z_3.toNat, .int (iI p2)]) (rest := []) ⟨hx, hb, hml, hown, hts⟩ (sX12_mayTake l dC dI _ L cid K N tW sK sV v p0 z_3 p2 hI q0 h_6 (by omega)) (cwV 2 hts (jgoodV m_1101 m_1102 m_1103 m_873 m_1104) rfl rfl rfl (by decide +kernel) ⟨(Nat.le_of_ble_eq_true rfl), (Nat.le_of_ble_eq_true rfl)⟩) ⟨xP_blind, xrecv hK hP q0 rfl rfl, fun U hU hW => ⟨rfl, xP_of hU hW hP hK hD hX hS (fun _ h => h) hA⟩⟩ rfl rfl hl.1 rfl (lv_room (Nat.le_of_ble_eq_true rfl)) dX12_give_21 ⟨(Nat.le_of_ble_eq_true rfl), (Nat.le_of_ble_eq_true rfl)⟩) hD hS hA (fun r_15 v_19 H locs w_16 hP hK hD hS => ?_)
      obtain ⟨z_17, rfl, I_21, f_20, h_18⟩ := w_16
      have hP : va_P (dC, dI) vwCl (xG L cid K N v_19) H := hP
      have hD : va_D A (xG L cid K N v_19) := hD
      refine xr_if_ne (tgt := 29) hx hb dX12_give_24 (by decide) (by omega) (fun h_22 => ?_) (fun h_22 => ?_)
      · refine xq_aload_n hx hb dX12_give_29 rfl (lv_at hl 0 rfl) ?_
        refine jt_q (.ref z_3.toNat) (rv_ref (h_6).1) ?_
        refine lv_iload_n hx hb dX12_give_30 rfl (lv_at hl 3 rfl) ?_
        refine px_RX12_313 (y := p2) hx hb hj hown hK hP hD hS I_21 h_6 ⟨by omega, by omega⟩ dX12_give_31 (fun v_23 H locs f_24 e_25 o_26 I_27 hP hD hS => ?_)
        refine lv_iconst (v := iI 1) hx hb dX12_give_34 rfl ?_
        rw [← hQ]
        exact W.zret (v := iI 1) (ty := .boolean) hx hb hr (nb_bool (by omega) (by omega)) (fun t ht hW => ⟨⟨iI 1, v_23, rfl, ⟨1, rfl, I_27, (fr_tr f_24 rfl (fr_tr f_20 rfl fr_rf)), by omega⟩, by rw [ht]; exact hP, va_K.moved hW.alike hK, hD⟩, hS.F ht⟩) hS.2.2 dX12_give_35
      · refine lv_iconst (v := iI 0) hx hb dX12_give_27 rfl ?_
        rw [← hQ]
        exact W.zret (v := iI 0) (ty := .boolean) hx hb hr (nb_bool (by omega) (by omega)) (fun t ht hW => ⟨⟨iI 0, v_19, rfl, ⟨0, rfl, I_21, (fr_tr f_20 rfl fr_rf), by omega⟩, by rw [ht]; exact hP, va_K.moved hW.alike hK, hD⟩, hS.F ht⟩) hS.2.2 dX12_give_28
