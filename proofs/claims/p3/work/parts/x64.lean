set_option maxHeartbeats 2000000 in
set_option maxRecDepth 100000 in
theorem sJ7_copyOf_c38d5_28_69 (l : Launch) (dC : Nat → ClassId) (dI : Nat → Nat → Nat) (sz : Nat) (L : List Nat) (cid : Nat → ClassId) (K : Int → Nat) (N : Int → Int) (tW : Nat) (sK sV : Nat → Nat) (v : Int → Int → Int) (p1 : Int) (p2 : Int) (hI : xI L K N v) (q1 : ok L K p1 28) (q2 : rg p2) (k1 : 0 ≤ p2 ∧ p2 ≤ 4) : Met l yJ7_copyOf_c38d5 (jk yJ7_copyOf_c38d5 cJ7_copyOf_c38d5 3 (some (.array .long))) ({ frames := 1, cells := 1, slots := 4, locals := 80 }) (va_Pc [.ref p1.toNat, .int (iI p2)] (xP (dC, dI) (xG L cid K N v) (xT cid) tW sK sV sz)) (va_Qq (fun (r : Option Nat) (u : (List Nat × (Int → Nat) × (Int → Int) × (Int → Int → Int))) => ∃ z : Int, r = opt z ∧ (xI u.1 u.2.1 u.2.2.1 u.2.2.2) ∧ (xE L K N u.1 u.2.1 u.2.2.1) ∧ (frE L K [(69, (-1)), (99, 0)] u.2.2.2 v) ∧ (ok u.1 u.2.1 z 69)) (fun u t => va_P (dC, dI) vwCl (xG u.1 cid u.2.1 u.2.2.1 u.2.2.2) t.heap ∧ va_K (dC, dI) vwCl (xT cid) t ∧ va_D (va_A (xG L cid K N v) sz) (xG u.1 cid u.2.1 u.2.2.1 u.2.2.2)) (va_A (xG L cid K N v) sz)) 1 4 (va_A (xG L cid K N v) sz) := by
  refine Met.ofW (cc := cJ7_copyOf_c38d5) (maxL := 3) (ret := (some (.array .long))) (by decide) rfl ?_
  intro p e s m args below meth c s₁ B hml hv
  obtain ⟨rfl, ⟨hsz, hP, hK, hD0⟩, hX⟩ := hv
  have hx := B.exec
  have hb := B.bytes
  have hr := B.returns
  have hts := atoms_spec (ws := (jk yJ7_copyOf_c38d5 cJ7_copyOf_c38d5 3 (some (.array .long)))) B.pre
  have hj : ∀ w ∈ jw, w.before ([.ref p1.toNat, .int (iI p2)] : List Value).toArray s = true := fun w h => hts w (jm h)
  have hown : s.vm.findClass RJ7 = some m.cls := findClass_of_methodNamed B.named
  subst hsz
  have hD := hD0.self (sz := s.heap.size)
  generalize hAe : (va_A (xG L cid K N v) s.heap.size) = A at hD hX ⊢
  have hA : ∀ q : Nat, s.heap.size ≤ q → A q := fun q h => by rw [← hAe]; exact Or.inr h
  have hS : va_S A s.heap s.heap [] := va_S.rf
  have hE0 : xE L K N L K N := xE_rf
  have hF0 : frE L K [(69, (-1)), (99, 0)] v v := frE_rf
  have hXa := hX
  have hP : va_P (dC, dI) vwCl (xG L cid K N v) s.heap := hP
  have hl := lv_entry ([.ref p1.toNat, .int (iI p2)]) (n := 3) (Nat.le_of_ble_eq_true rfl)
  rw [lg_entry_eq]
  generalize (lg_sl ([.ref p1.toNat, .int (iI p2)]) ++ List.replicate (3 - (lg_sl ([.ref p1.toNat, .int (iI p2)])).length) Slot.unset).toArray = ls at hl ⊢
  have hl : lv_has ls 3 [(0, .ref p1.toNat), (1, .int (iI p2))] := hl
  generalize hQ : MQ below (va_Qq (fun (r : Option Nat) (u : (List Nat × (Int → Nat) × (Int → Int) × (Int → Int → Int))) => ∃ z : Int, r = opt z ∧ (xI u.1 u.2.1 u.2.2.1 u.2.2.2) ∧ (xE L K N u.1 u.2.1 u.2.2.1) ∧ (frE L K [(69, (-1)), (99, 0)] u.2.2.2 v) ∧ (ok u.1 u.2.1 z 69)) (fun u t => va_P (dC, dI) vwCl (xG u.1 cid u.2.1 u.2.2.1 u.2.2.2) t.heap ∧ va_K (dC, dI) vwCl (xT cid) t ∧ va_D A (xG u.1 cid u.2.1 u.2.2.1 u.2.2.2)) A) ([.ref p1.toNat, .int (iI p2)] : List Value).toArray s 1 4 A = Q
  suffices ST : ∀ (H : Heap) (locs : List Loc), va_P (dC, dI) vwCl (xG L cid K N v) H → va_S A s.heap H locs → W p l e ({ frames := 1, cells := 1, slots := 4, locals := 80 }) s m ([.ref p1.toNat, .int (iI p2)] : List Value).toArray below meth c H locs 0 0 Q (F0 m 0 ls []) from ST _ _ hP hS
  clear hP hS
  intro H locs hP hS
  have h_1 : N p1 = 4 := xn_28 hI q1
  refine lv_iload_n hx hb dJ7_copyOf_c38d5_0 rfl (lv_at hl 1 rfl) ?_
  refine lv_aload_n hx hb dJ7_copyOf_c38d5_1 rfl (lv_at hl 0 rfl) ?_
  refine lx_28 (y := 4) hx hb hK hP q1 (by omega) (by omega) dJ7_copyOf_c38d5_2 ?_
  refine xr_icmp_ne (tgt := 14) hx hb dJ7_copyOf_c38d5_3 (by decide) (by omega) (by omega) (fun h_2 => ?_) (fun h_2 => ?_)
  · refine lv_iload_n hx hb dJ7_copyOf_c38d5_14 rfl (lv_at hl 1 rfl) ?_
    refine va_newa (atype := .long) (n := iI p2) (N' := Int.toNat p2) (a0 := (Int.toNat p2, .inr (.inl (fun _ => 0)))) (ty := .long) hx hb (hts (.arrayClass .long) (jm m_1299)) rfl hK hP hD hS hA (fun _ => rfl) (xn_nn (by omega) (by omega)) (iI_clamp (by omega) (by omega)) (show Int.toNat p2 * 8 ≤ 536870912 by omega) (Nat.le_of_ble_eq_true rfl) (show 0 + Int.toNat p2 ≤ 4 by omega) dJ7_copyOf_c38d5_15 (fun q_3 c_4 H hK2 hP hD hS => ?_)
    refine W.widen (k := 1) (n := 4) (Nat.le_of_ble_eq_true rfl) (by omega) ?_
    obtain ⟨z_5, L_6, K_7, N_8, v_9, hz9, E_10, h_11, q_12, h_13, h_14, f_15, I_16, hP9, hD9⟩ := xzero_69 hK2 hI hP hD (by omega)
    subst hz9
    have hP := hP9
    have hD := hD9
    have F_18 := frE_frE (W := [(69, (-1)), (99, 0)]) hE0 (f_15 []) rfl hF0
    have E_17 := xE_tr hE0 E_10
    have h_19 := xE_ok E_10 q1
    have h_20 : N_8 p1 = 4 := xn_28 I_16 h_19
    have h_21 : 0 ≤ N_8 z_5 ∧ N_8 z_5 ≤ 4 := xn_69 I_16 h_11
    refine lv_astore_n (i := 2) (lv' := [(2, .ref z_5.toNat), (0, .ref p1.toNat), (1, .int (iI p2))]) hx hb dJ7_copyOf_c38d5_17 rfl hl (by decide) rfl (fun ls hl => ?_)
    refine lv_aload_n hx hb dJ7_copyOf_c38d5_18 rfl (lv_at hl 1 rfl) ?_
    refine lv_iconst (v := iI 0) hx hb dJ7_copyOf_c38d5_19 rfl ?_
    refine lv_aload_n hx hb dJ7_copyOf_c38d5_20 rfl (lv_at hl 0 rfl) ?_
    refine lv_iconst (v := iI 0) hx hb dJ7_copyOf_c38d5_21 rfl ?_
    refine lv_aload_n hx hb dJ7_copyOf_c38d5_22 rfl (lv_at hl 1 rfl) ?_
    refine lx_28 (y := 4) hx hb hK hP h_19 (by omega) (by omega) dJ7_copyOf_c38d5_23 ?_
    refine lv_iload_n hx hb dJ7_copyOf_c38d5_24 rfl (lv_at hl 2 rfl) ?_
    refine va_mmin hx hb (by rw [hml]; exact hl.1.symm) hown (hj _ m_1291) (hj _ m_765) (hj _ m_762) (hj _ m_766) (Nat.le_of_ble_eq_true rfl) (Nat.le_of_ble_eq_true rfl) (Nat.le_of_ble_eq_true rfl) (Nat.le_of_ble_eq_true rfl) dJ7_copyOf_c38d5_25 ?_
    refine xm_min (by omega) (by omega) (fun z_22 h_23 => ?_)
    refine xc2_28_69 hx hb (by rw [hml]; exact hl.1.symm) hown (hj _ m_1292) (hj _ m_867) (hj _ m_868) (hj _ m_869) hK hP hD hS I_16 h_19 h_11 (by omega) (by omega) (by omega) (by omega) (by omega) (by omega) (by omega) (Nat.le_of_ble_eq_true rfl) (Nat.le_of_ble_eq_true rfl) dJ7_copyOf_c38d5_28 (fun v_24 H locs f_25 I_26 hP hD hS => ?_)
    refine lv_aload_n hx hb dJ7_copyOf_c38d5_31 rfl (lv_at hl 0 rfl) ?_
    have F_27 := frE_fr (W := [(69, (-1)), (99, 0)]) (W1 := [(69, (-1)), (99, 0)]) E_17 (fr_tr f_25 rfl fr_rf) rfl F_18
    rw [← hQ]
    refine jt_q (rv z_5) (rv_ref (h_11).1).symm ?_
    exact W.aret (v := rv z_5) hx hb hr (Or.inr ⟨_, rfl⟩) (rv_or z_5) (fun t ht hW => ⟨⟨opt z_5, (L_6, K_7, N_8, v_24), rfl, ⟨z_5, rfl, I_26, E_17, F_27, h_11⟩, by rw [ht]; exact hP, va_K.moved hW.alike hK, hD⟩, hS.F ht⟩) hS.2.2 dJ7_copyOf_c38d5_32
  · refine lv_aload_n hx hb dJ7_copyOf_c38d5_6 rfl (lv_at hl 0 rfl) ?_
    obtain ⟨q_29, h_30⟩ := xg_arr (cid := cid) (N := N) (v := v) q1 rfl
    refine va_clone (ad := "[J") (x := (Int.toNat (N p1), .inr (.inl (al (v p1))))) hx hb (by rw [hml]; exact hl.1.symm) hown (hts (.methodLink RJ7 319 ⟨"[J", "clone", "()Ljava/lang/Object;"⟩) (jm m_1300)) (hts (.sameMethod "[J" "java/lang/Object" "clone" "()Ljava/lang/Object;") (jm m_1301)) (hts (.native ⟨"java/lang/Object", "clone", "()Ljava/lang/Object;"⟩) (jm m_1295)) (hts (.instanceMethod ⟨"java/lang/Object", "clone", "()Ljava/lang/Object;"⟩) (jm m_1296)) (hts (.selects "[J" ⟨"[J", "clone", "()Ljava/lang/Object;"⟩ ⟨"java/lang/Object", "clone", "()Ljava/lang/Object;"⟩) (jm m_1302)) hX.1.2 hK hP hD hS hA q_29 3 h_30 rfl (hK.2 3 _ rfl).2 (jfits_lon _ _ _) (Nat.le_of_ble_eq_true rfl) (Nat.le_of_ble_eq_true rfl) (Nat.le_of_ble_eq_true rfl) (show 0 + Int.toNat (N p1) ≤ 4 by omega) dJ7_copyOf_c38d5_7 (fun q_28 H hK2 hP hD hS => ?_)
    refine W.widen (k := 1) (n := 4) (Nat.le_of_ble_eq_true rfl) (show 0 + Int.toNat (N p1) ≤ 4 by omega) ?_
    obtain ⟨z_31, L_32, K_33, N_34, v_35, hz9, E_36, h_37, q_38, h_39, h_40, f_41, I_42, hP9, hD9⟩ := xcpy_28_69 q1 hI hP hD (by omega)
    subst hz9
    have hP := hP9
    have hD := hD9
    have F_44 := frE_frE (W := [(69, (-1)), (99, 0)]) hE0 (f_41 []) rfl hF0
    have E_43 := xE_tr hE0 E_36
    have h_45 := xE_ok E_36 q1
    have h_46 : N_34 p1 = 4 := xn_28 I_42 h_45
    have h_47 : 0 ≤ N_34 z_31 ∧ N_34 z_31 ≤ 4 := xn_69 I_42 h_37
    obtain ⟨q_48, h_49⟩ := xg_arr (cid := cid) (N := N_34) (v := v_35) h_37 rfl
    refine va_castA (nm := "[J") hx hb hown (hts (.classLink RJ7 320 "[J") (jm m_1303)) hP q_48 h_49 (hK.2 3 _ rfl).2 dJ7_copyOf_c38d5_10 ?_
    rw [← hQ]
    refine jt_q (rv z_31) (rv_ref (h_37).1).symm ?_
    exact W.aret (v := rv z_31) hx hb hr (Or.inr ⟨_, rfl⟩) (rv_or z_31) (fun t ht hW => ⟨⟨opt z_31, (L_32, K_33, N_34, v_35), rfl, ⟨z_31, rfl, I_42, E_43, F_44, h_37⟩, by rw [ht]; exact hP, va_K.moved hW.alike hK, hD⟩, hS.F ht⟩) hS.2.2 dJ7_copyOf_c38d5_13
set_option maxHeartbeats 2000000 in
set_option maxRecDepth 100000 in
theorem sX7_compiled (l : Launch) (dC : Nat → ClassId) (dI : Nat → Nat → Nat) (sz : Nat) (L : List Nat) (cid : Nat → ClassId) (K : Int → Nat) (N : Int → Int) (tW : Nat) (sK sV : Nat → Nat) (v : Int → Int → Int) (p0 : Int) (hI : xI L K N v) (q0 : ok L K p0 7) : Met l yX7_compiled (jk yX7_compiled cX7_compiled 2 (some (.object "BookOfAll$Sheet"))) ({ frames := 2, cells := 5, slots := 636, locals := 102 }) (va_Pc [.ref p0.toNat] (xP (dC, dI) (xG L cid K N v) (xT cid) tW sK sV sz)) (va_Qq (fun (r : Option Nat) (u : (List Nat × (Int → Nat) × (Int → Int) × (Int → Int → Int))) => ∃ z : Int, r = opt z ∧ (xI u.1 u.2.1 u.2.2.1 u.2.2.2) ∧ (xE L K N u.1 u.2.1 u.2.2.1) ∧ (frE L K [(13, 0), (13, 1), (13, 2), (13, 3), (66, (-1)), (69, (-1)), (99, 0)] u.2.2.2 v) ∧ (ok u.1 u.2.1 z 9)) (fun u t => va_P (dC, dI) vwCl (xG u.1 cid u.2.1 u.2.2.1 u.2.2.2) t.heap ∧ va_K (dC, dI) vwCl (xT cid) t ∧ va_D (va_A (xG L cid K N v) sz) (xG u.1 cid u.2.1 u.2.2.1 u.2.2.2)) (va_A (xG L cid K N v) sz)) 5 636 (va_A (xG L cid K N v) sz) := by
  refine Met.ofW (cc := cX7_compiled) (maxL := 2) (ret := (some (.object "BookOfAll$Sheet"))) (by decide) rfl ?_
  intro p e s m args below meth c s₁ B hml hv
  obtain ⟨rfl, ⟨hsz, hP, hK, hD0⟩, hX⟩ := hv
  have hx := B.exec
  have hb := B.bytes
  have hr := B.returns
  have hts := atoms_spec (ws := (jk yX7_compiled cX7_compiled 2 (some (.object "BookOfAll$Sheet")))) B.pre
  have hj : ∀ w ∈ jw, w.before ([.ref p0.toNat] : List Value).toArray s = true := fun w h => hts w (jm h)
  have hown : s.vm.findClass RX7 = some m.cls := findClass_of_methodNamed B.named
  subst hsz
  have hD := hD0.self (sz := s.heap.size)
  generalize hAe : (va_A (xG L cid K N v) s.heap.size) = A at hD hX ⊢
  have hA : ∀ q : Nat, s.heap.size ≤ q → A q := fun q h => by rw [← hAe]; exact Or.inr h
  have hS : va_S A s.heap s.heap [] := va_S.rf
  have hE0 : xE L K N L K N := xE_rf
  have hF0 : frE L K [(13, 0), (13, 1), (13, 2), (13, 3), (66, (-1)), (69, (-1)), (99, 0)] v v := frE_rf
  have hXa := hX
  have hP : va_P (dC, dI) vwCl (xG L cid K N v) s.heap := hP
  have hl := lv_entry ([.ref p0.toNat]) (n := 2) (Nat.le_of_ble_eq_true rfl)
  rw [lg_entry_eq]
  generalize (lg_sl ([.ref p0.toNat]) ++ List.replicate (2 - (lg_sl ([.ref p0.toNat])).length) Slot.unset).toArray = ls at hl ⊢
  have hl : lv_has ls 2 [(0, .ref p0.toNat)] := hl
  generalize hQ : MQ below (va_Qq (fun (r : Option Nat) (u : (List Nat × (Int → Nat) × (Int → Int) × (Int → Int → Int))) => ∃ z : Int, r = opt z ∧ (xI u.1 u.2.1 u.2.2.1 u.2.2.2) ∧ (xE L K N u.1 u.2.1 u.2.2.1) ∧ (frE L K [(13, 0), (13, 1), (13, 2), (13, 3), (66, (-1)), (69, (-1)), (99, 0)] u.2.2.2 v) ∧ (ok u.1 u.2.1 z 9)) (fun u t => va_P (dC, dI) vwCl (xG u.1 cid u.2.1 u.2.2.1 u.2.2.2) t.heap ∧ va_K (dC, dI) vwCl (xT cid) t ∧ va_D A (xG u.1 cid u.2.1 u.2.2.1 u.2.2.2)) A) ([.ref p0.toNat] : List Value).toArray s 5 636 A = Q
  suffices ST : ∀ (H : Heap) (locs : List Loc), va_P (dC, dI) vwCl (xG L cid K N v) H → va_S A s.heap H locs → W p l e ({ frames := 2, cells := 5, slots := 636, locals := 102 }) s m ([.ref p0.toNat] : List Value).toArray below meth c H locs 0 0 Q (F0 m 0 ls []) from ST _ _ hP hS
  clear hP hS
  intro H locs hP hS
  refine va_new (ci := 9) (fs := [.null, .null, .null, .null]) (C := RX9) (T := TX9) (N := 4) hx hb hts (jh hin_RX9) tyX9 tyX9_ok hown (hts (.classLink RX7 31 RX9) (jm m_1304)) (hts (.instantiable RX9 4) (jm m_1305)) (hts (.initialized RX9) (jm m_933)) hK hP hD hS hA rfl jd_RX9 (Nat.le_of_ble_eq_true rfl) (Nat.le_of_ble_eq_true rfl) dX7_compiled_0 (fun q_1 H hPn hDn hS => ?_)
  refine W.widen (k := 1) (n := 4) (Nat.le_of_ble_eq_true rfl) (Nat.le_of_ble_eq_true rfl) ?_
  have hP := jp_init hPn
  have hD := jd_init hDn
  refine lv_dup hx hb dX7_compiled_3 rfl ?_
  refine jci_v (va_runIN (As := []) (rest := [.ref q_1]) ⟨hx, hb, hml, hown, hts⟩ (iX9_init_1 l dC dI _ q_1 ) ⟨va_cnB (host := RX12) 0 hts (jgoodI m_1309) rfl rfl rfl (hX.1.1.2.1 (RX7, 75, yX9_init) (by decide +kernel)) (hts (.initialized RX9) (jm m_933)) (by decide +kernel) ⟨(Nat.le_of_ble_eq_true rfl), (Nat.le_of_ble_eq_true rfl)⟩, rfl, (hts (.instanceMethod yX9_init) (jm m_1310))⟩ ⟨jw_blind, fun U hU hW => ⟨rfl, jw_of hU hW (jp_last hPn) (hK.sub [] rfl) (jd_last hDn)⟩⟩ rfl rfl hl.1 rfl (lv_room (Nat.le_of_ble_eq_true rfl)) dX7_compiled_4 ⟨(Nat.le_of_ble_eq_true rfl), (Nat.le_of_ble_eq_true rfl)⟩) hPn hDn hS hA (fun u_2 H locs hPn hK2 hDn hS => ?_)
  refine W.widen (k := 1) (n := 4) (Nat.le_of_ble_eq_true rfl) (Nat.le_of_ble_eq_true rfl) ?_
  obtain ⟨z_3, L_4, K_5, N_6, v_7, hz9, E_8, h_9, q_10, h_11, h_12, f_13, I_14, hP9, hD9⟩ := xnew_13 hI hPn hDn
  subst hz9
  have hP := hP9
  have hD := hD9
  have F_16 := frE_frE (W := [(13, 0), (13, 1), (13, 2), (13, 3), (66, (-1)), (69, (-1)), (99, 0)]) hE0 (f_13 []) rfl hF0
  have E_15 := xE_tr hE0 E_8
  have h_17 := xE_ok E_8 q0
  refine lv_astore_n (i := 1) (lv' := [(1, .ref z_3.toNat), (0, .ref p0.toNat)]) hx hb dX7_compiled_7 rfl hl (by decide) rfl (fun ls hl => ?_)
  refine lv_aload_n hx hb dX7_compiled_8 rfl (lv_at hl 0 rfl) ?_
  refine lv_aload_n hx hb dX7_compiled_9 rfl (lv_at hl 1 rfl) ?_
  have h_18 : ok L_4 K_5 (v p0 9) 25 := (by have h9 := xf_7_9 I_14 h_17; rw [(frE_use q0 (f_13 []) rfl)] at h9; exact h9)
  have h_19 : N_6 (v p0 9) = 600 := xn_25 I_14 h_18
  refine gx_RX7_28 (y := v p0 9) hx hb hj hown hK hP h_17 ((xf_7_9 I_14 h_17).1) (frE_use q0 (f_13 []) rfl) dX7_compiled_10 ?_
  refine lv_iconst (v := iI 0) hx hb dX7_compiled_13 rfl ?_
  refine lv_aload_n hx hb dX7_compiled_14 rfl (lv_at hl 1 rfl) ?_
  have h_20 : 0 ≤ v p0 10 ∧ v p0 10 ≤ 600 := xf_7_10 hI q0
  refine gx_RX7_56 (y := v p0 10) hx hb hj hown hK hP h_17 (frE_use q0 (f_13 []) rfl) dX7_compiled_15 ?_
  refine va_mmax hx hb (by rw [hml]; exact hl.1.symm) hown (hj _ m_1311) (hj _ m_761) (hj _ m_762) (hj _ m_763) (Nat.le_of_ble_eq_true rfl) (Nat.le_of_ble_eq_true rfl) (Nat.le_of_ble_eq_true rfl) (Nat.le_of_ble_eq_true rfl) dX7_compiled_18 ?_
  refine xm_max (by omega) (by omega) (fun z_21 h_22 => ?_)
  refine jcg_q (va_runS (As := [.ref (v p0 9).toNat, .int (iI z_21)]) (rest := [.ref z_3.toNat]) ⟨hx, hb, hml, hown, hts⟩ (sJ7_copyOf_59c91_25_66 l dC dI _ L_4 cid K_5 N_6 tW sK sV v_7 (v p0 9) z_21 I_14 h_18 (by omega) (by omega)) (va_cwS 2 hts (jgoodS m_1312 m_1313 m_842 m_1314) rfl rfl rfl (by decide +kernel) ⟨(Nat.le_of_ble_eq_true rfl), (Nat.le_of_ble_eq_true rfl)⟩) ⟨xP_blind, fun U hU hW => ⟨rfl, xP_of hU hW hP hK hD hX hS (fun _ h => h) hA⟩⟩ rfl rfl hl.1 rfl (lv_room (Nat.le_of_ble_eq_true rfl)) dX7_compiled_21 ⟨(Nat.le_of_ble_eq_true rfl), (Nat.le_of_ble_eq_true rfl)⟩) hD hS hA (fun r_23 u_27 H locs w_24 hP hK hD hS => ?_)
  refine W.widen (k := 2) (n := 604) (Nat.le_of_ble_eq_true rfl) (Nat.le_of_ble_eq_true rfl) ?_
  obtain ⟨L_28, K_29, N_30, v_31⟩ := u_27
  obtain ⟨z_25, rfl, I_33, E_34, f_32, h_26⟩ := w_24
  have hP : va_P (dC, dI) vwCl (xG L_28 cid K_29 N_30 v_31) H := hP
  have hD : va_D A (xG L_28 cid K_29 N_30 v_31) := hD
  have I_33 : xI L_28 K_29 N_30 v_31 := I_33
  have E_34 : xE L_4 K_5 N_6 L_28 K_29 N_30 := E_34
  have f_32 : frE L_4 K_5 [(66, (-1)), (99, 0)] v_31 v_7 := f_32
  have F_36 := frE_frE (W := [(13, 0), (13, 1), (13, 2), (13, 3), (66, (-1)), (69, (-1)), (99, 0)]) E_15 f_32 rfl F_16
  have E_35 := xE_tr E_15 E_34
  have h_37 := xE_ok E_34 h_17
  have h_38 := xE_ok E_34 h_9
  have h_39 := xE_ok E_34 h_18
  have h_40 : N_30 (v p0 9) = 600 := xn_25 I_33 h_39
  refine jt_q (.ref z_25.toNat) (rv_ref h_26.1) ?_
  refine px_RX7_86 (y := z_25) hx hb hj hown hK hP hD hS I_33 h_38 (h_26).1 dX7_compiled_24 (fun v_41 H locs f_42 e_43 o_44 I_45 hP hD hS => ?_)
  refine lv_aload_n hx hb dX7_compiled_27 rfl (lv_at hl 0 rfl) ?_
  refine lv_aload_n hx hb dX7_compiled_28 rfl (lv_at hl 1 rfl) ?_
  have h_46 : ok L_28 K_29 (v p0 11) 26 := (by have h9 := xf_7_11 I_45 h_37; rw [(((fr_use h_37 f_42 rfl)).trans (((frE_use h_17 f_32 rfl)).trans (frE_use q0 (f_13 []) rfl)))] at h9; exact h9)
  have h_47 : N_30 (v p0 11) = 14 := xn_26 I_45 h_46
  refine gx_RX7_33 (y := v p0 11) hx hb hj hown hK hP h_37 ((xf_7_11 I_45 h_37).1) (((fr_use h_37 f_42 rfl)).trans (((frE_use h_17 f_32 rfl)).trans (frE_use q0 (f_13 []) rfl))) dX7_compiled_29 ?_
  obtain ⟨q_49, h_50⟩ := xg_arr (cid := cid) (N := N_30) (v := v_41) h_46 rfl
  refine va_clone (ad := "[I") (x := (Int.toNat (N_30 (v p0 11)), .inl (ar (v_41 (v p0 11))))) hx hb (by rw [hml]; exact hl.1.symm) hown (hts (.methodLink RX7 87 ⟨"[I", "clone", "()Ljava/lang/Object;"⟩) (jm m_1315)) (hts (.sameMethod "[I" "java/lang/Object" "clone" "()Ljava/lang/Object;") (jm m_1294)) (hts (.native ⟨"java/lang/Object", "clone", "()Ljava/lang/Object;"⟩) (jm m_1295)) (hts (.instanceMethod ⟨"java/lang/Object", "clone", "()Ljava/lang/Object;"⟩) (jm m_1296)) (hts (.selects "[I" ⟨"[I", "clone", "()Ljava/lang/Object;"⟩ ⟨"java/lang/Object", "clone", "()Ljava/lang/Object;"⟩) (jm m_1297)) hX.1.1.2.2 hK hP hD hS hA q_49 0 h_50 rfl (hK.2 0 _ rfl).2 (jfits_int _ _ _) (Nat.le_of_ble_eq_true rfl) (Nat.le_of_ble_eq_true rfl) (Nat.le_of_ble_eq_true rfl) (show 604 + Int.toNat (N_30 (v p0 11)) ≤ 636 by omega) dX7_compiled_32 (fun q_48 H hK2 hP hD hS => ?_)
  refine W.widen (k := 3) (n := 618) (Nat.le_of_ble_eq_true rfl) (show 604 + Int.toNat (N_30 (v p0 11)) ≤ 618 by omega) ?_
  obtain ⟨z_51, L_52, K_53, N_54, v_55, hz9, E_56, h_57, q_58, h_59, h_60, f_61, I_62, hP9, hD9⟩ := xcpy_26_67 h_46 I_45 hP hD (by omega)
  subst hz9
  have hP := hP9
  have hD := hD9
  have F_63 := frE_fr (W := [(13, 0), (13, 1), (13, 2), (13, 3), (66, (-1)), (69, (-1)), (99, 0)]) (W1 := [(13, 0), (13, 1), (13, 2), (13, 3), (66, (-1)), (69, (-1)), (99, 0)]) E_35 (fr_tr f_42 rfl fr_rf) rfl F_36
  have F_65 := frE_frE (W := [(13, 0), (13, 1), (13, 2), (13, 3), (66, (-1)), (69, (-1)), (99, 0)]) E_35 (f_61 []) rfl F_63
  have E_64 := xE_tr E_35 E_56
  have h_66 := xE_ok E_56 h_37
  have h_67 := xE_ok E_56 h_38
  have h_68 := xE_ok E_56 h_39
  have h_69 := xE_ok E_56 h_26
  have h_70 := xE_ok E_56 h_46
  have h_71 : N_54 (v p0 9) = 600 := xn_25 I_62 h_68
  have h_72 : 0 ≤ N_54 z_25 ∧ N_54 z_25 ≤ 600 := xn_66 I_62 h_69
  have h_73 : N_54 (v p0 11) = 14 := xn_26 I_62 h_70
  have h_74 : N_54 z_51 = 14 := xn_67 I_62 h_57
  obtain ⟨q_75, h_76⟩ := xg_arr (cid := cid) (N := N_54) (v := v_55) h_57 rfl
  refine va_castA (nm := "[I") hx hb hown (hts (.classLink RX7 88 "[I") (jm m_1316)) hP q_75 h_76 (hK.2 0 _ rfl).2 dX7_compiled_35 ?_
  refine px_RX7_92 (y := z_51) hx hb hj hown hK hP hD hS I_62 h_67 (h_57).1 dX7_compiled_38 (fun v_77 H locs f_78 e_79 o_80 I_81 hP hD hS => ?_)
  refine lv_aload_n hx hb dX7_compiled_41 rfl (lv_at hl 0 rfl) ?_
  refine lv_aload_n hx hb dX7_compiled_42 rfl (lv_at hl 1 rfl) ?_
  have h_82 : ok L_52 K_53 (v p0 12) 27 := (by have h9 := xf_7_12 I_81 h_66; rw [(((fr_use h_66 f_78 rfl)).trans (((frE_use h_37 (f_61 []) rfl)).trans (((fr_use h_37 f_42 rfl)).trans (((frE_use h_17 f_32 rfl)).trans (frE_use q0 (f_13 []) rfl)))))] at h9; exact h9)
  have h_83 : N_54 (v p0 12) = 14 := xn_27 I_81 h_82
  refine gx_RX7_36 (y := v p0 12) hx hb hj hown hK hP h_66 ((xf_7_12 I_81 h_66).1) (((fr_use h_66 f_78 rfl)).trans (((frE_use h_37 (f_61 []) rfl)).trans (((fr_use h_37 f_42 rfl)).trans (((frE_use h_17 f_32 rfl)).trans (frE_use q0 (f_13 []) rfl))))) dX7_compiled_43 ?_
  obtain ⟨q_85, h_86⟩ := xg_arr (cid := cid) (N := N_54) (v := v_77) h_82 rfl
  refine va_clone (ad := "[I") (x := (Int.toNat (N_54 (v p0 12)), .inl (ar (v_77 (v p0 12))))) hx hb (by rw [hml]; exact hl.1.symm) hown (hts (.methodLink RX7 87 ⟨"[I", "clone", "()Ljava/lang/Object;"⟩) (jm m_1315)) (hts (.sameMethod "[I" "java/lang/Object" "clone" "()Ljava/lang/Object;") (jm m_1294)) (hts (.native ⟨"java/lang/Object", "clone", "()Ljava/lang/Object;"⟩) (jm m_1295)) (hts (.instanceMethod ⟨"java/lang/Object", "clone", "()Ljava/lang/Object;"⟩) (jm m_1296)) (hts (.selects "[I" ⟨"[I", "clone", "()Ljava/lang/Object;"⟩ ⟨"java/lang/Object", "clone", "()Ljava/lang/Object;"⟩) (jm m_1297)) hX.1.1.2.2 hK hP hD hS hA q_85 0 h_86 rfl (hK.2 0 _ rfl).2 (jfits_int _ _ _) (Nat.le_of_ble_eq_true rfl) (Nat.le_of_ble_eq_true rfl) (Nat.le_of_ble_eq_true rfl) (show 618 + Int.toNat (N_54 (v p0 12)) ≤ 636 by omega) dX7_compiled_46 (fun q_84 H hK2 hP hD hS => ?_)
  refine W.widen (k := 4) (n := 632) (Nat.le_of_ble_eq_true rfl) (show 618 + Int.toNat (N_54 (v p0 12)) ≤ 632 by omega) ?_
  obtain ⟨z_87, L_88, K_89, N_90, v_91, hz9, E_92, h_93, q_94, h_95, h_96, f_97, I_98, hP9, hD9⟩ := xcpy_27_68 h_82 I_81 hP hD (by omega)
  subst hz9
  have hP := hP9
  have hD := hD9
  have F_99 := frE_fr (W := [(13, 0), (13, 1), (13, 2), (13, 3), (66, (-1)), (69, (-1)), (99, 0)]) (W1 := [(13, 0), (13, 1), (13, 2), (13, 3), (66, (-1)), (69, (-1)), (99, 0)]) E_64 (fr_tr f_78 rfl fr_rf) rfl F_65
  have F_101 := frE_frE (W := [(13, 0), (13, 1), (13, 2), (13, 3), (66, (-1)), (69, (-1)), (99, 0)]) E_64 (f_97 []) rfl F_99
  have E_100 := xE_tr E_64 E_92
  have h_102 := xE_ok E_92 h_66
  have h_103 := xE_ok E_92 h_67
  have h_104 := xE_ok E_92 h_68
  have h_105 := xE_ok E_92 h_69
  have h_106 := xE_ok E_92 h_70
  have h_107 := xE_ok E_92 h_57
  have h_108 := xE_ok E_92 h_82
  have h_109 : N_90 (v p0 9) = 600 := xn_25 I_98 h_104
  have h_110 : 0 ≤ N_90 z_25 ∧ N_90 z_25 ≤ 600 := xn_66 I_98 h_105
  have h_111 : N_90 (v p0 11) = 14 := xn_26 I_98 h_106
  have h_112 : N_90 z_51 = 14 := xn_67 I_98 h_107
  have h_113 : N_90 (v p0 12) = 14 := xn_27 I_98 h_108
  have h_114 : N_90 z_87 = 14 := xn_68 I_98 h_93
  obtain ⟨q_115, h_116⟩ := xg_arr (cid := cid) (N := N_90) (v := v_91) h_93 rfl
  refine va_castA (nm := "[I") hx hb hown (hts (.classLink RX7 88 "[I") (jm m_1316)) hP q_115 h_116 (hK.2 0 _ rfl).2 dX7_compiled_49 ?_
  refine px_RX7_93 (y := z_87) hx hb hj hown hK hP hD hS I_98 h_103 (h_93).1 dX7_compiled_52 (fun v_117 H locs f_118 e_119 o_120 I_121 hP hD hS => ?_)
  refine lv_aload_n hx hb dX7_compiled_55 rfl (lv_at hl 0 rfl) ?_
  refine lv_aload_n hx hb dX7_compiled_56 rfl (lv_at hl 1 rfl) ?_
  have h_122 : ok L_88 K_89 (v p0 13) 28 := (by have h9 := xf_7_13 I_121 h_102; rw [(((fr_use h_102 f_118 rfl)).trans (((frE_use h_66 (f_97 []) rfl)).trans (((fr_use h_66 f_78 rfl)).trans (((frE_use h_37 (f_61 []) rfl)).trans (((fr_use h_37 f_42 rfl)).trans (((frE_use h_17 f_32 rfl)).trans (frE_use q0 (f_13 []) rfl)))))))] at h9; exact h9)
  have h_123 : N_90 (v p0 13) = 4 := xn_28 I_121 h_122
  refine gx_RX7_39 (y := v p0 13) hx hb hj hown hK hP h_102 ((xf_7_13 I_121 h_102).1) (((fr_use h_102 f_118 rfl)).trans (((frE_use h_66 (f_97 []) rfl)).trans (((fr_use h_66 f_78 rfl)).trans (((frE_use h_37 (f_61 []) rfl)).trans (((fr_use h_37 f_42 rfl)).trans (((frE_use h_17 f_32 rfl)).trans (frE_use q0 (f_13 []) rfl))))))) dX7_compiled_57 ?_
  refine lv_iconst (v := iI 0) hx hb dX7_compiled_60 rfl ?_
  refine lv_aload_n hx hb dX7_compiled_61 rfl (lv_at hl 1 rfl) ?_
  have h_124 : 0 ≤ v p0 14 ∧ v p0 14 ≤ 4 := xf_7_14 hI q0
  refine gx_RX7_59 (y := v p0 14) hx hb hj hown hK hP h_102 (((fr_use h_102 f_118 rfl)).trans (((frE_use h_66 (f_97 []) rfl)).trans (((fr_use h_66 f_78 rfl)).trans (((frE_use h_37 (f_61 []) rfl)).trans (((fr_use h_37 f_42 rfl)).trans (((frE_use h_17 f_32 rfl)).trans (frE_use q0 (f_13 []) rfl))))))) dX7_compiled_62 ?_
  refine va_mmax hx hb (by rw [hml]; exact hl.1.symm) hown (hj _ m_1311) (hj _ m_761) (hj _ m_762) (hj _ m_763) (Nat.le_of_ble_eq_true rfl) (Nat.le_of_ble_eq_true rfl) (Nat.le_of_ble_eq_true rfl) (Nat.le_of_ble_eq_true rfl) dX7_compiled_65 ?_
  refine xm_max (by omega) (by omega) (fun z_125 h_126 => ?_)
  refine jcg_q (va_runS (As := [.ref (v p0 13).toNat, .int (iI z_125)]) (rest := [.ref z_3.toNat]) ⟨hx, hb, hml, hown, hts⟩ (sJ7_copyOf_c38d5_28_69 l dC dI _ L_88 cid K_89 N_90 tW sK sV v_117 (v p0 13) z_125 I_121 h_122 (by omega) (by omega)) (va_cwS 2 hts (jgoodS m_1317 m_1318 m_842 m_1319) rfl rfl rfl (by decide +kernel) ⟨(Nat.le_of_ble_eq_true rfl), (Nat.le_of_ble_eq_true rfl)⟩) ⟨xP_blind, fun U hU hW => ⟨rfl, xP_of hU hW hP hK hD hX hS (fun _ h => h) hA⟩⟩ rfl rfl hl.1 rfl (lv_room (Nat.le_of_ble_eq_true rfl)) dX7_compiled_68 ⟨(Nat.le_of_ble_eq_true rfl), (Nat.le_of_ble_eq_true rfl)⟩) hD hS hA (fun r_127 u_131 H locs w_128 hP hK hD hS => ?_)
  refine W.widen (k := 5) (n := 636) (Nat.le_of_ble_eq_true rfl) (Nat.le_of_ble_eq_true rfl) ?_
  obtain ⟨L_132, K_133, N_134, v_135⟩ := u_131
  obtain ⟨z_129, rfl, I_137, E_138, f_136, h_130⟩ := w_128
  have hP : va_P (dC, dI) vwCl (xG L_132 cid K_133 N_134 v_135) H := hP
  have hD : va_D A (xG L_132 cid K_133 N_134 v_135) := hD
  have I_137 : xI L_132 K_133 N_134 v_135 := I_137
  have E_138 : xE L_88 K_89 N_90 L_132 K_133 N_134 := E_138
  have f_136 : frE L_88 K_89 [(69, (-1)), (99, 0)] v_135 v_117 := f_136
  have F_139 := frE_fr (W := [(13, 0), (13, 1), (13, 2), (13, 3), (66, (-1)), (69, (-1)), (99, 0)]) (W1 := [(13, 0), (13, 1), (13, 2), (13, 3), (66, (-1)), (69, (-1)), (99, 0)]) E_100 (fr_tr f_118 rfl fr_rf) rfl F_101
  have F_141 := frE_frE (W := [(13, 0), (13, 1), (13, 2), (13, 3), (66, (-1)), (69, (-1)), (99, 0)]) E_100 f_136 rfl F_139
  have E_140 := xE_tr E_100 E_138
  have h_142 := xE_ok E_138 h_102
  have h_143 := xE_ok E_138 h_103
  have h_144 := xE_ok E_138 h_104
  have h_145 := xE_ok E_138 h_105
  have h_146 := xE_ok E_138 h_106
  have h_147 := xE_ok E_138 h_107
  have h_148 := xE_ok E_138 h_108
  have h_149 := xE_ok E_138 h_93
  have h_150 := xE_ok E_138 h_122
  have h_151 : N_134 (v p0 9) = 600 := xn_25 I_137 h_144
  have h_152 : 0 ≤ N_134 z_25 ∧ N_134 z_25 ≤ 600 := xn_66 I_137 h_145
  have h_153 : N_134 (v p0 11) = 14 := xn_26 I_137 h_146
  have h_154 : N_134 z_51 = 14 := xn_67 I_137 h_147
  have h_155 : N_134 (v p0 12) = 14 := xn_27 I_137 h_148
  have h_156 : N_134 z_87 = 14 := xn_68 I_137 h_149
  have h_157 : N_134 (v p0 13) = 4 := xn_28 I_137 h_150
  refine jt_q (.ref z_129.toNat) (rv_ref h_130.1) ?_
  refine px_RX7_97 (y := z_129) hx hb hj hown hK hP hD hS I_137 h_143 (h_130).1 dX7_compiled_71 (fun v_158 H locs f_159 e_160 o_161 I_162 hP hD hS => ?_)
  refine lv_aload_n hx hb dX7_compiled_74 rfl (lv_at hl 0 rfl) ?_
  have F_163 := frE_fr (W := [(13, 0), (13, 1), (13, 2), (13, 3), (66, (-1)), (69, (-1)), (99, 0)]) (W1 := [(13, 0), (13, 1), (13, 2), (13, 3), (66, (-1)), (69, (-1)), (99, 0)]) E_140 (fr_tr f_159 rfl fr_rf) rfl F_141
  obtain ⟨K_164, E_165, h_166, _, I_167, hP, hD⟩ := xretype E_140 q_10 I_162 h_143 ⟨(by rw [(((fr_use h_143 f_159 rfl)).trans (((frE_use h_103 f_136 rfl)).trans (((fr_use h_103 f_118 rfl)).trans (((frE_use h_67 (f_97 []) rfl)).trans (((fr_use h_67 f_78 rfl)).trans (((frE_use h_38 (f_61 []) rfl)).trans e_43))))))]; exact h_145), (by rw [(((fr_use h_143 f_159 rfl)).trans (((frE_use h_103 f_136 rfl)).trans (((fr_use h_103 f_118 rfl)).trans (((frE_use h_67 (f_97 []) rfl)).trans e_79))))]; exact h_147), (by rw [(((fr_use h_143 f_159 rfl)).trans (((frE_use h_103 f_136 rfl)).trans e_119))]; exact h_149), (by rw [e_160]; exact h_130)⟩ hP hD
  rw [← hQ]
  refine jt_q (rv z_3) (rv_ref (h_143).1).symm ?_
  exact W.aret (v := rv z_3) hx hb hr (Or.inl ⟨_, rfl⟩) (rv_or z_3) (fun t ht hW => ⟨⟨opt z_3, (L_132, K_164, N_134, v_158), rfl, ⟨z_3, rfl, I_167, E_165, F_163, h_166⟩, by rw [ht]; exact hP, va_K.moved hW.alike hK, hD⟩, hS.F ht⟩) hS.2.2 dX7_compiled_75
set_option maxHeartbeats 2000000 in
set_option maxRecDepth 100000 in
theorem sX12_sheet (l : Launch) (dC : Nat → ClassId) (dI : Nat → Nat → Nat) (sz : Nat) (L : List Nat) (cid : Nat → ClassId) (K : Int → Nat) (N : Int → Int) (tW : Nat) (sK sV : Nat → Nat) (v : Int → Int → Int) (p0 : Int) (hI : xI L K N v) (q0 : ok L K p0 12) : Met l yX12_sheet (jk yX12_sheet cX12_sheet 2 (some .int)) ({ frames := 35, cells := 5, slots := 636, locals := 791 }) (va_Pc [.ref p0.toNat] (xP (dC, dI) (xG L cid K N v) (xT cid) tW sK sV sz)) (va_Qi (fun (r : Int32) (u : (List Nat × (Int → Nat) × (Int → Int) × (Int → Int → Int))) => ∃ z : Int, r = iI z ∧ (xI u.1 u.2.1 u.2.2.1 u.2.2.2) ∧ (xE L K N u.1 u.2.1 u.2.2.1) ∧ (frE L K [(7, 1), (7, 6), (7, 7), (7, 8), (7, 10), (7, 14), (8, 1), (13, 0), (13, 1), (13, 2), (13, 3), (21, (-1)), (22, (-1)), (23, (-1)), (24, (-1)), (25, (-1)), (26, (-1)), (27, (-1)), (28, (-1)), (29, (-1)), (66, (-1)), (69, (-1)), (99, 0)] u.2.2.2 v) ∧ (rg z) ∧ ((z = -1 ∧ u.2.2.2 (u.2.2.2 p0 3) 1 = v (v p0 3) 1 ∧ u.2.2.2 (u.2.2.2 p0 2) 1 = v (v p0 2) 1) ∨ (0 ≤ z ∧ u.2.2.2 (u.2.2.2 p0 3) 1 = v (v p0 3) 1 + 1 ∧ u.2.2.2 (u.2.2.2 p0 2) 1 = 0)) ∧ (shX v p0 z)) (fun u t => va_P (dC, dI) vwCl (xG u.1 cid u.2.1 u.2.2.1 u.2.2.2) t.heap ∧ va_K (dC, dI) vwCl (xT cid) t ∧ va_D (va_A (xG L cid K N v) sz) (xG u.1 cid u.2.1 u.2.2.1 u.2.2.2)) (va_A (xG L cid K N v) sz)) 5 636 (va_A (xG L cid K N v) sz) := by
  refine Met.ofW (cc := cX12_sheet) (maxL := 2) (ret := (some .int)) (by decide) rfl ?_
  intro p e s m args below meth c s₁ B hml hv
  obtain ⟨rfl, ⟨hsz, hP, hK, hD0⟩, hX⟩ := hv
  have hx := B.exec
  have hb := B.bytes
  have hr := B.returns
  have hts := atoms_spec (ws := (jk yX12_sheet cX12_sheet 2 (some .int))) B.pre
  have hj : ∀ w ∈ jw, w.before ([.ref p0.toNat] : List Value).toArray s = true := fun w h => hts w (jm h)
  have hown : s.vm.findClass RX12 = some m.cls := findClass_of_methodNamed B.named
  subst hsz
  have hD := hD0.self (sz := s.heap.size)
  generalize hAe : (va_A (xG L cid K N v) s.heap.size) = A at hD hX ⊢
  have hA : ∀ q : Nat, s.heap.size ≤ q → A q := fun q h => by rw [← hAe]; exact Or.inr h
  have hS : va_S A s.heap s.heap [] := va_S.rf
  have hE0 : xE L K N L K N := xE_rf
  have hF0 : frE L K [(7, 1), (7, 6), (7, 7), (7, 8), (7, 10), (7, 14), (8, 1), (13, 0), (13, 1), (13, 2), (13, 3), (21, (-1)), (22, (-1)), (23, (-1)), (24, (-1)), (25, (-1)), (26, (-1)), (27, (-1)), (28, (-1)), (29, (-1)), (66, (-1)), (69, (-1)), (99, 0)] v v := frE_rf
  have hXa := hX
  have hP : va_P (dC, dI) vwCl (xG L cid K N v) s.heap := hP
  have hl := lv_entry ([.ref p0.toNat]) (n := 2) (Nat.le_of_ble_eq_true rfl)
  rw [lg_entry_eq]
  generalize (lg_sl ([.ref p0.toNat]) ++ List.replicate (2 - (lg_sl ([.ref p0.toNat])).length) Slot.unset).toArray = ls at hl ⊢
  have hl : lv_has ls 2 [(0, .ref p0.toNat)] := hl
  generalize hQ : MQ below (va_Qi (fun (r : Int32) (u : (List Nat × (Int → Nat) × (Int → Int) × (Int → Int → Int))) => ∃ z : Int, r = iI z ∧ (xI u.1 u.2.1 u.2.2.1 u.2.2.2) ∧ (xE L K N u.1 u.2.1 u.2.2.1) ∧ (frE L K [(7, 1), (7, 6), (7, 7), (7, 8), (7, 10), (7, 14), (8, 1), (13, 0), (13, 1), (13, 2), (13, 3), (21, (-1)), (22, (-1)), (23, (-1)), (24, (-1)), (25, (-1)), (26, (-1)), (27, (-1)), (28, (-1)), (29, (-1)), (66, (-1)), (69, (-1)), (99, 0)] u.2.2.2 v) ∧ (rg z) ∧ ((z = -1 ∧ u.2.2.2 (u.2.2.2 p0 3) 1 = v (v p0 3) 1 ∧ u.2.2.2 (u.2.2.2 p0 2) 1 = v (v p0 2) 1) ∨ (0 ≤ z ∧ u.2.2.2 (u.2.2.2 p0 3) 1 = v (v p0 3) 1 + 1 ∧ u.2.2.2 (u.2.2.2 p0 2) 1 = 0)) ∧ (shX v p0 z)) (fun u t => va_P (dC, dI) vwCl (xG u.1 cid u.2.1 u.2.2.1 u.2.2.2) t.heap ∧ va_K (dC, dI) vwCl (xT cid) t ∧ va_D A (xG u.1 cid u.2.1 u.2.2.1 u.2.2.2)) A) ([.ref p0.toNat] : List Value).toArray s 5 636 A = Q
  suffices ST : ∀ (H : Heap) (locs : List Loc), va_P (dC, dI) vwCl (xG L cid K N v) H → va_S A s.heap H locs → W p l e ({ frames := 35, cells := 5, slots := 636, locals := 791 }) s m ([.ref p0.toNat] : List Value).toArray below meth c H locs 0 0 Q (F0 m 0 ls []) from ST _ _ hP hS
  clear hP hS
  intro H locs hP hS
  refine lv_aload_n hx hb dX12_sheet_0 rfl (lv_at hl 0 rfl) ?_
  have h_1 : ok L K (v p0 3) 8 := xf_12_3 hI q0
  refine gx_RX12_19 (y := v p0 3) hx hb hj hown hK hP q0 ((xf_12_3 hI q0).1) rfl dX12_sheet_1 ?_
  refine jc_i (va_runV (As := []) (rest := []) ⟨hx, hb, hml, hown, hts⟩ (sX8_hasRoomForSheet l dC dI _ L cid K N tW sK sV v (v p0 3) hI h_1) (cwV 0 hts (jgoodV m_1320 m_1321 m_1322 m_928 m_1323) rfl rfl rfl (by decide +kernel) ⟨(Nat.le_of_ble_eq_true rfl), (Nat.le_of_ble_eq_true rfl)⟩) ⟨xP_blind, xrecv hK hP h_1 rfl rfl, fun U hU hW => ⟨rfl, xP_of hU hW hP hK hD hX hS (fun _ h => h) hA⟩⟩ rfl rfl hl.1 rfl (lv_room (Nat.le_of_ble_eq_true rfl)) dX12_sheet_4 ⟨(Nat.le_of_ble_eq_true rfl), (Nat.le_of_ble_eq_true rfl)⟩) hP hS hA (fun r_2 H locs w_3 hP hS => ?_)
  obtain ⟨z_4, rfl, h_5, h_6⟩ := w_3
  have h_7 : 0 ≤ v (v p0 3) 1 ∧ v (v p0 3) 1 ≤ 12 := xf_8_1 hI h_1
  refine xr_if_eq (tgt := 21) hx hb dX12_sheet_7 (by decide) (by omega) (fun h_8 => ?_) (fun h_8 => ?_)
  · refine lv_iconst (v := iI (-1)) hx hb dX12_sheet_21 rfl ?_
    refine W.widen (k := 5) (n := 636) (Nat.le_of_ble_eq_true rfl) (Nat.le_of_ble_eq_true rfl) ?_
    have h_9 : ok L K (v p0 2) 7 := xf_12_2 hI q0
    have h_10 : 0 ≤ v (v p0 2) 1 ∧ v (v p0 2) 1 ≤ 600 := xf_7_1 hI h_9
    rw [← hQ]
    exact W.iret (v := iI (-1)) hx hb hr (fun t ht hW => ⟨⟨iI (-1), (L, K, N, v), rfl, ⟨(-1), rfl, hI, hE0, hF0, by omega, by (try dsimp only); omega, by first | exact Or.inl ⟨by omega, rfl⟩ | exact shX_r _ (by omega) (by omega)⟩, by rw [ht]; exact hP, va_K.moved hW.alike hK, hD⟩, hS.F ht⟩) hS.2.2 dX12_sheet_22
  · refine lv_aload_n hx hb dX12_sheet_10 rfl (lv_at hl 0 rfl) ?_
    have h_11 : ok L K (v p0 2) 7 := xf_12_2 hI q0
    refine gx_RX12_10 (y := v p0 2) hx hb hj hown hK hP q0 ((xf_12_2 hI q0).1) rfl dX12_sheet_11 ?_
    refine jcg_i (va_runV (As := []) (rest := []) ⟨hx, hb, hml, hown, hts⟩ (sX7_parse l dC dI _ L cid K N tW sK sV v (v p0 2) hI h_11) (cwV 0 hts (jgoodV m_981 m_982 m_983 m_677 m_984) rfl rfl rfl (by decide +kernel) ⟨(Nat.le_of_ble_eq_true rfl), (Nat.le_of_ble_eq_true rfl)⟩) ⟨xP_blind, xrecv hK hP h_11 rfl rfl, fun U hU hW => ⟨rfl, xP_of hU hW hP hK hD hX hS (fun _ h => h) hA⟩⟩ rfl rfl hl.1 rfl (lv_room (Nat.le_of_ble_eq_true rfl)) dX12_sheet_14 ⟨(Nat.le_of_ble_eq_true rfl), (Nat.le_of_ble_eq_true rfl)⟩) hD hS hA (fun r_12 v_17 H locs w_13 hP hK hD hS => ?_)
    obtain ⟨z_14, rfl, I_19, f_18, h_15, h_16⟩ := w_13
    have hP : va_P (dC, dI) vwCl (xG L cid K N v_17) H := hP
    have hD : va_D A (xG L cid K N v_17) := hD
    refine lv_iconst (v := iI (-1)) hx hb dX12_sheet_17 rfl ?_
    refine xr_icmp_eq (tgt := 23) hx hb dX12_sheet_18 (by decide) (by omega) (by omega) (fun h_20 => ?_) (fun h_20 => ?_)
    · refine lv_aload_n hx hb dX12_sheet_23 rfl (lv_at hl 0 rfl) ?_
      refine gx_RX12_19 (y := v p0 3) hx hb hj hown hK hP q0 ((xf_12_3 I_19 q0).1) (fr_use q0 f_18 rfl) dX12_sheet_24 ?_
      refine lv_aload_n hx hb dX12_sheet_27 rfl (lv_at hl 0 rfl) ?_
      refine gx_RX12_10 (y := v p0 2) hx hb hj hown hK hP q0 ((xf_12_2 I_19 q0).1) (fr_use q0 f_18 rfl) dX12_sheet_28 ?_
      refine jcg_q (va_runV (As := []) (rest := [.ref (v p0 3).toNat]) ⟨hx, hb, hml, hown, hts⟩ (sX7_compiled l dC dI _ L cid K N tW sK sV v_17 (v p0 2) I_19 h_11) (cwV 0 hts (jgoodV m_1324 m_1325 m_1326 m_677 m_1327) rfl rfl rfl (by decide +kernel) ⟨(Nat.le_of_ble_eq_true rfl), (Nat.le_of_ble_eq_true rfl)⟩) ⟨xP_blind, xrecv hK hP h_11 rfl rfl, fun U hU hW => ⟨rfl, xP_of hU hW hP hK hD hX hS (fun _ h => h) hA⟩⟩ rfl rfl hl.1 rfl (lv_room (Nat.le_of_ble_eq_true rfl)) dX12_sheet_31 ⟨(Nat.le_of_ble_eq_true rfl), (Nat.le_of_ble_eq_true rfl)⟩) hD hS hA (fun r_21 u_25 H locs w_22 hP hK hD hS => ?_)
      refine W.widen (k := 5) (n := 636) (Nat.le_of_ble_eq_true rfl) (Nat.le_of_ble_eq_true rfl) ?_
      obtain ⟨L_26, K_27, N_28, v_29⟩ := u_25
      obtain ⟨z_23, rfl, I_31, E_32, f_30, h_24⟩ := w_22
      have hP : va_P (dC, dI) vwCl (xG L_26 cid K_27 N_28 v_29) H := hP
      have hD : va_D A (xG L_26 cid K_27 N_28 v_29) := hD
      have I_31 : xI L_26 K_27 N_28 v_29 := I_31
      have E_32 : xE L K N L_26 K_27 N_28 := E_32
      have f_30 : frE L K [(13, 0), (13, 1), (13, 2), (13, 3), (66, (-1)), (69, (-1)), (99, 0)] v_29 v_17 := f_30
      have F_33 := frE_fr (W := [(7, 1), (7, 6), (7, 7), (7, 8), (7, 10), (7, 14), (8, 1), (13, 0), (13, 1), (13, 2), (13, 3), (21, (-1)), (22, (-1)), (23, (-1)), (24, (-1)), (25, (-1)), (26, (-1)), (27, (-1)), (28, (-1)), (29, (-1)), (66, (-1)), (69, (-1)), (99, 0)]) (W1 := [(7, 1), (7, 6), (7, 7), (7, 8), (7, 10), (7, 14), (8, 1), (13, 0), (13, 1), (13, 2), (13, 3), (21, (-1)), (22, (-1)), (23, (-1)), (24, (-1)), (25, (-1)), (26, (-1)), (27, (-1)), (28, (-1)), (29, (-1)), (66, (-1)), (69, (-1)), (99, 0)]) hE0 (fr_tr f_18 rfl fr_rf) rfl hF0
      have F_35 := frE_frE (W := [(7, 1), (7, 6), (7, 7), (7, 8), (7, 10), (7, 14), (8, 1), (13, 0), (13, 1), (13, 2), (13, 3), (21, (-1)), (22, (-1)), (23, (-1)), (24, (-1)), (25, (-1)), (26, (-1)), (27, (-1)), (28, (-1)), (29, (-1)), (66, (-1)), (69, (-1)), (99, 0)]) hE0 f_30 rfl F_33
      have E_34 := xE_tr hE0 E_32
      have h_36 := xE_ok E_32 q0
      have h_37 := xE_ok E_32 h_1
      have h_38 := xE_ok E_32 h_11
      refine jt_q (.ref z_23.toNat) (rv_ref h_24.1) ?_
      refine jcg_i (va_runV (As := [.ref z_23.toNat]) (rest := []) ⟨hx, hb, hml, hown, hts⟩ (sX8_keep l dC dI _ L_26 cid K_27 N_28 tW sK sV v_29 (v p0 3) z_23 I_31 h_37 h_24) (cwV 1 hts (jgoodV m_1328 m_1329 m_1330 m_928 m_1331) rfl rfl rfl (by decide +kernel) ⟨(Nat.le_of_ble_eq_true rfl), (Nat.le_of_ble_eq_true rfl)⟩) ⟨xP_blind, xrecv hK hP h_37 rfl rfl, fun U hU hW => ⟨rfl, xP_of hU hW hP hK hD hX hS (fun _ h => h) hA⟩⟩ rfl rfl hl.1 rfl (lv_room (Nat.le_of_ble_eq_true rfl)) dX12_sheet_34 ⟨(Nat.le_of_ble_eq_true rfl), (Nat.le_of_ble_eq_true rfl)⟩) hD hS hA (fun r_39 v_44 H locs w_40 hP hK hD hS => ?_)
      obtain ⟨z_41, rfl, I_46, f_45, h_42, h_43⟩ := w_40
      have hP : va_P (dC, dI) vwCl (xG L_26 cid K_27 N_28 v_44) H := hP
      have hD : va_D A (xG L_26 cid K_27 N_28 v_44) := hD
      have b_47 : v_29 (v p0 3) 1 = v (v p0 3) 1 := (((frE_use h_1 f_30 rfl)).trans (fr_use h_1 f_18 rfl))
      have h_48 : 0 ≤ v_44 (v p0 3) 1 ∧ v_44 (v p0 3) 1 ≤ 12 := xf_8_1 I_46 h_37
      refine lv_istore_n (i := 1) (lv' := [(1, .int (iI z_41)), (0, .ref p0.toNat)]) hx hb dX12_sheet_37 rfl hl (by decide) rfl (fun ls hl => ?_)
      refine lv_aload_n hx hb dX12_sheet_38 rfl (lv_at hl 1 rfl) ?_
      refine gx_RX12_10 (y := v p0 2) hx hb hj hown hK hP h_36 ((xf_12_2 I_46 h_36).1) (((fr_use h_36 f_45 rfl)).trans (((frE_use q0 f_30 rfl)).trans (fr_use q0 f_18 rfl))) dX12_sheet_39 ?_
      refine lv_iconst (v := iI 0) hx hb dX12_sheet_42 rfl ?_
      refine px_RX12_103 (y := 0) hx hb hj hown hK hP hD hS I_46 h_38 ⟨by omega, by omega⟩ dX12_sheet_43 (fun v_49 H locs f_50 e_51 o_52 I_53 hP hD hS => ?_)
      refine lv_iload_n hx hb dX12_sheet_46 rfl (lv_at hl 0 rfl) ?_
      have F_54 := frE_fr (W := [(7, 1), (7, 6), (7, 7), (7, 8), (7, 10), (7, 14), (8, 1), (13, 0), (13, 1), (13, 2), (13, 3), (21, (-1)), (22, (-1)), (23, (-1)), (24, (-1)), (25, (-1)), (26, (-1)), (27, (-1)), (28, (-1)), (29, (-1)), (66, (-1)), (69, (-1)), (99, 0)]) (W1 := [(7, 1), (7, 6), (7, 7), (7, 8), (7, 10), (7, 14), (8, 1), (13, 0), (13, 1), (13, 2), (13, 3), (21, (-1)), (22, (-1)), (23, (-1)), (24, (-1)), (25, (-1)), (26, (-1)), (27, (-1)), (28, (-1)), (29, (-1)), (66, (-1)), (69, (-1)), (99, 0)]) E_34 (fr_tr f_50 rfl (fr_tr f_45 rfl fr_rf)) rfl F_35
      have b_55 : v_49 p0 3 = v p0 3 := (((fr_use h_36 f_50 rfl)).trans (((fr_use h_36 f_45 rfl)).trans (((frE_use q0 f_30 rfl)).trans (fr_use q0 f_18 rfl))))
      have b_56 : v_49 (v p0 3) 1 = v_44 (v p0 3) 1 := (fr_use h_37 f_50 rfl)
      have b_57 : v_49 (v_49 p0 3) 1 = v_44 (v p0 3) 1 := by rw [b_55, b_56]
      have b_58 : v_49 p0 2 = v p0 2 := (((fr_use h_36 f_50 rfl)).trans (((fr_use h_36 f_45 rfl)).trans (((frE_use q0 f_30 rfl)).trans (fr_use q0 f_18 rfl))))
      have b_59 : v_49 (v p0 2) 1 = 0 := e_51
      have b_60 : v_49 (v_49 p0 2) 1 = 0 := by rw [b_58, b_59]
      have h_61 : 0 ≤ v (v p0 2) 1 ∧ v (v p0 2) 1 ≤ 600 := xf_7_1 hI h_11
      rw [← hQ]
      exact W.iret (v := iI z_41) hx hb hr (fun t ht hW => ⟨⟨iI z_41, (L_26, K_27, N_28, v_49), rfl, ⟨z_41, rfl, I_53, E_34, F_54, by omega, by (try dsimp only); omega, by first | exact Or.inl ⟨by omega, rfl⟩ | exact shX_r h_16 (by omega) (by omega)⟩, by rw [ht]; exact hP, va_K.moved hW.alike hK, hD⟩, hS.F ht⟩) hS.2.2 dX12_sheet_47
    · refine lv_iconst (v := iI (-1)) hx hb dX12_sheet_21 rfl ?_
      have F_62 := frE_fr (W := [(7, 1), (7, 6), (7, 7), (7, 8), (7, 10), (7, 14), (8, 1), (13, 0), (13, 1), (13, 2), (13, 3), (21, (-1)), (22, (-1)), (23, (-1)), (24, (-1)), (25, (-1)), (26, (-1)), (27, (-1)), (28, (-1)), (29, (-1)), (66, (-1)), (69, (-1)), (99, 0)]) (W1 := [(7, 1), (7, 6), (7, 7), (7, 8), (7, 10), (7, 14), (8, 1), (13, 0), (13, 1), (13, 2), (13, 3), (21, (-1)), (22, (-1)), (23, (-1)), (24, (-1)), (25, (-1)), (26, (-1)), (27, (-1)), (28, (-1)), (29, (-1)), (66, (-1)), (69, (-1)), (99, 0)]) hE0 (fr_tr f_18 rfl fr_rf) rfl hF0
      refine W.widen (k := 5) (n := 636) (Nat.le_of_ble_eq_true rfl) (Nat.le_of_ble_eq_true rfl) ?_
      have b_63 : v_17 p0 3 = v p0 3 := (fr_use q0 f_18 rfl)
      have b_64 : v_17 (v p0 3) 1 = v (v p0 3) 1 := (fr_use h_1 f_18 rfl)
      have b_65 : v_17 (v_17 p0 3) 1 = v (v p0 3) 1 := by rw [b_63, b_64]
      have b_66 : v_17 p0 2 = v p0 2 := (fr_use q0 f_18 rfl)
      have b_67 : v_17 (v p0 2) 1 = v (v p0 2) 1 := (fr_use h_11 f_18 rfl)
      have h_68 : 0 ≤ v (v p0 2) 1 ∧ v (v p0 2) 1 ≤ 600 := xf_7_1 hI h_11
      have b_69 : v_17 (v_17 p0 2) 1 = v (v p0 2) 1 := by rw [b_66, b_67]
      rw [← hQ]
      exact W.iret (v := iI (-1)) hx hb hr (fun t ht hW => ⟨⟨iI (-1), (L, K, N, v_17), rfl, ⟨(-1), rfl, I_19, hE0, F_62, by omega, by (try dsimp only); omega, by first | exact Or.inl ⟨by omega, rfl⟩ | exact shX_r h_16 (by omega) (by omega)⟩, by rw [ht]; exact hP, va_K.moved hW.alike hK, hD⟩, hS.F ht⟩) hS.2.2 dX12_sheet_22
set_option maxHeartbeats 2000000 in
set_option maxRecDepth 100000 in
theorem sX12_newEntry (l : Launch) (dC : Nat → ClassId) (dI : Nat → Nat → Nat) (sz : Nat) (L : List Nat) (cid : Nat → ClassId) (K : Int → Nat) (N : Int → Int) (tW : Nat) (sK sV : Nat → Nat) (v : Int → Int → Int) (p0 : Int) (p1 : Int) (p2 : Int) (p3 : Int) (p4 : Int) (hI : xI L K N v) (q0 : ok L K p0 12) (q1 : rg p1) (q2 : rg p2) (q3 : rg p3) (q4 : rg p4) : Met l yX12_newEntry (jk yX12_newEntry cX12_newEntry 7 (some (.object "BookOfAll$Entry"))) ({ frames := 5, cells := 2, slots := 30, locals := 137 }) (va_Pc [.ref p0.toNat, .int (iI p1), .int (iI p2), .int (iI p3), .int (iI p4)] (xP (dC, dI) (xG L cid K N v) (xT cid) tW sK sV sz)) (va_Qq (fun (r : Option Nat) (u : (List Nat × (Int → Nat) × (Int → Int) × (Int → Int → Int))) => ∃ z : Int, r = opt z ∧ (xI u.1 u.2.1 u.2.2.1 u.2.2.2) ∧ (xE L K N u.1 u.2.1 u.2.2.1) ∧ (frE L K [(0, 3), (0, 4), (0, 5), (0, 6), (6, 1), (6, 2), (6, 3), (6, 4), (6, 5), (12, 7), (34, (-1)), (36, (-1)), (65, (-1)), (99, 0)] u.2.2.2 v) ∧ (z < 0 ∨ ok u.1 u.2.1 z 0)) (fun u t => va_P (dC, dI) vwCl (xG u.1 cid u.2.1 u.2.2.1 u.2.2.2) t.heap ∧ va_K (dC, dI) vwCl (xT cid) t ∧ va_D (va_A (xG L cid K N v) sz) (xG u.1 cid u.2.1 u.2.2.1 u.2.2.2)) (va_A (xG L cid K N v) sz)) 2 30 (va_A (xG L cid K N v) sz) := by
  refine Met.ofW (cc := cX12_newEntry) (maxL := 7) (ret := (some (.object "BookOfAll$Entry"))) (by decide) rfl ?_
  intro p e s m args below meth c s₁ B hml hv
  obtain ⟨rfl, ⟨hsz, hP, hK, hD0⟩, hX⟩ := hv
  have hx := B.exec
  have hb := B.bytes
  have hr := B.returns
  have hts := atoms_spec (ws := (jk yX12_newEntry cX12_newEntry 7 (some (.object "BookOfAll$Entry")))) B.pre
  have hj : ∀ w ∈ jw, w.before ([.ref p0.toNat, .int (iI p1), .int (iI p2), .int (iI p3), .int (iI p4)] : List Value).toArray s = true := fun w h => hts w (jm h)
  have hown : s.vm.findClass RX12 = some m.cls := findClass_of_methodNamed B.named
  subst hsz
  have hD := hD0.self (sz := s.heap.size)
  generalize hAe : (va_A (xG L cid K N v) s.heap.size) = A at hD hX ⊢
  have hA : ∀ q : Nat, s.heap.size ≤ q → A q := fun q h => by rw [← hAe]; exact Or.inr h
  have hS : va_S A s.heap s.heap [] := va_S.rf
  have hE0 : xE L K N L K N := xE_rf
  have hF0 : frE L K [(0, 3), (0, 4), (0, 5), (0, 6), (6, 1), (6, 2), (6, 3), (6, 4), (6, 5), (12, 7), (34, (-1)), (36, (-1)), (65, (-1)), (99, 0)] v v := frE_rf
  have hXa := hX
  have hP : va_P (dC, dI) vwCl (xG L cid K N v) s.heap := hP
  have hl := lv_entry ([.ref p0.toNat, .int (iI p1), .int (iI p2), .int (iI p3), .int (iI p4)]) (n := 7) (Nat.le_of_ble_eq_true rfl)
  rw [lg_entry_eq]
  generalize (lg_sl ([.ref p0.toNat, .int (iI p1), .int (iI p2), .int (iI p3), .int (iI p4)]) ++ List.replicate (7 - (lg_sl ([.ref p0.toNat, .int (iI p1), .int (iI p2), .int (iI p3), .int (iI p4)])).length) Slot.unset).toArray = ls at hl ⊢
  have hl : lv_has ls 7 [(0, .ref p0.toNat), (1, .int (iI p1)), (2, .int (iI p2)), (3, .int (iI p3)), (4, .int (iI p4))] := hl
  generalize hQ : MQ below (va_Qq (fun (r : Option Nat) (u : (List Nat × (Int → Nat) × (Int → Int) × (Int → Int → Int))) => ∃ z : Int, r = opt z ∧ (xI u.1 u.2.1 u.2.2.1 u.2.2.2) ∧ (xE L K N u.1 u.2.1 u.2.2.1) ∧ (frE L K [(0, 3), (0, 4), (0, 5), (0, 6), (6, 1), (6, 2), (6, 3), (6, 4), (6, 5), (12, 7), (34, (-1)), (36, (-1)), (65, (-1)), (99, 0)] u.2.2.2 v) ∧ (z < 0 ∨ ok u.1 u.2.1 z 0)) (fun u t => va_P (dC, dI) vwCl (xG u.1 cid u.2.1 u.2.2.1 u.2.2.2) t.heap ∧ va_K (dC, dI) vwCl (xT cid) t ∧ va_D A (xG u.1 cid u.2.1 u.2.2.1 u.2.2.2)) A) ([.ref p0.toNat, .int (iI p1), .int (iI p2), .int (iI p3), .int (iI p4)] : List Value).toArray s 2 30 A = Q
  suffices ST : ∀ (H : Heap) (locs : List Loc), va_P (dC, dI) vwCl (xG L cid K N v) H → va_S A s.heap H locs → W p l e ({ frames := 5, cells := 2, slots := 30, locals := 137 }) s m ([.ref p0.toNat, .int (iI p1), .int (iI p2), .int (iI p3), .int (iI p4)] : List Value).toArray below meth c H locs 0 0 Q (F0 m 0 ls []) from ST _ _ hP hS
  clear hP hS
  intro H locs hP hS
  refine lv_iload_n hx hb dX12_newEntry_0 rfl (lv_at hl 2 rfl) ?_
  refine lv_iload_n hx hb dX12_newEntry_1 rfl (lv_at hl 3 rfl) ?_
  refine lv_iload hx hb dX12_newEntry_2 (lv_at hl 4 rfl) ?_
  refine jc_i (va_runS (As := [.int (iI p2), .int (iI p3), .int (iI p4)]) (rest := []) ⟨hx, hb, hml, hown, hts⟩ (sX0_headingSize l dC dI _ p2 p3 p4 (by omega) (by omega) (by omega)) (va_cwS 3 hts (jgoodS m_1332 m_1333 m_666 m_1334) rfl rfl rfl (by decide +kernel) ⟨(Nat.le_of_ble_eq_true rfl), (Nat.le_of_ble_eq_true rfl)⟩) ⟨jw_blind0, fun U hU hW => ⟨rfl, congrArg Array.size hU⟩⟩ rfl rfl hl.1 rfl (lv_room (Nat.le_of_ble_eq_true rfl)) dX12_newEntry_4 ⟨(Nat.le_of_ble_eq_true rfl), (Nat.le_of_ble_eq_true rfl)⟩) hP hS hA (fun r_1 H locs w_2 hP hS => ?_)
  obtain ⟨z_3, rfl, h_4, h_5⟩ := w_2
  refine lv_istore (i := 5) (lv' := [(5, .int (iI z_3)), (0, .ref p0.toNat), (1, .int (iI p1)), (2, .int (iI p2)), (3, .int (iI p3)), (4, .int (iI p4))]) hx hb dX12_newEntry_7 hl (by decide) rfl (fun ls hl => ?_)
  refine lv_iload hx hb dX12_newEntry_9 (lv_at hl 0 rfl) ?_
  refine lv_iconst (v := iI (-1)) hx hb dX12_newEntry_11 rfl ?_
  refine xr_icmp_eq (tgt := 24) hx hb dX12_newEntry_12 (by decide) (by omega) (by omega) (fun h_6 => ?_) (fun h_6 => ?_)
  · refine lv_null hx hb dX12_newEntry_24 ?_
    refine jt_q (rv (-1)) rv_nul ?_
    refine W.widen (k := 2) (n := 30) (Nat.le_of_ble_eq_true rfl) (Nat.le_of_ble_eq_true rfl) ?_
    rw [← hQ]
    exact W.aret (v := rv (-1)) hx hb hr (Or.inl ⟨_, rfl⟩) (rv_or (-1)) (fun t ht hW => ⟨⟨opt (-1), (L, K, N, v), rfl, ⟨-1, rfl, hI, hE0, hF0, (Or.inl (by decide))⟩, by rw [ht]; exact hP, va_K.moved hW.alike hK, hD⟩, hS.F ht⟩) hS.2.2 dX12_newEntry_25
  · refine lv_aload_n hx hb dX12_newEntry_15 rfl (lv_at hl 1 rfl) ?_
    have h_7 : 0 ≤ v p0 7 ∧ v p0 7 ≤ 60 := xf_12_7 hI q0
    refine gx_RX12_203 (y := v p0 7) hx hb hj hown hK hP q0 rfl dX12_newEntry_16 ?_
    refine lv_bipush (v := iI 60) hx hb dX12_newEntry_19 rfl ?_
    refine xr_icmp_lt (tgt := 26) hx hb dX12_newEntry_21 (by decide) (by omega) (by omega) (fun h_8 => ?_) (fun h_8 => ?_)
    · refine va_new (ci := 0) (fs := [.int 0, .int 0, .null, .long 0, .int 0, .int 0, .int 0, .int 0, .int 0, .int 0, .int 0, .int 0, .int 0, .int 0, .int 0, .int 0, .long 0, .int 0]) (C := RX0) (T := TX0) (N := 18) hx hb hts (jh hin_RX0) tyX0 tyX0_ok hown (hts (.classLink RX12 41 RX0) (jm m_1335)) (hts (.instantiable RX0 18) (jm m_1336)) (hts (.initialized RX0) (jm m_666)) hK hP hD hS hA rfl jd_RX0 (Nat.le_of_ble_eq_true rfl) (Nat.le_of_ble_eq_true rfl) dX12_newEntry_26 (fun q_9 H hPn hDn hS => ?_)
      refine W.widen (k := 1) (n := 18) (Nat.le_of_ble_eq_true rfl) (Nat.le_of_ble_eq_true rfl) ?_
      have hP := jp_init hPn
      have hD := jd_init hDn
      refine lv_dup hx hb dX12_newEntry_29 rfl ?_
      refine lv_aload_n hx hb dX12_newEntry_30 rfl (lv_at hl 1 rfl) ?_
      refine gx_RX12_203 (y := v p0 7) hx hb hj hown hK hP q0 rfl dX12_newEntry_31 ?_
      refine lv_iload_n hx hb dX12_newEntry_34 rfl (lv_at hl 2 rfl) ?_
      refine lv_iload hx hb dX12_newEntry_35 (lv_at hl 0 rfl) ?_
      have e_10 := xn_nI (z := z_3) (by omega) (by omega)
      refine jt_i (nI (Int.toNat z_3)) e_10.1 ?_
      refine jci_v (va_runI (As := [.int (iI (v p0 7)), .int (iI p1), .int (nI (Int.toNat z_3))]) (rest := [.ref q_9]) ⟨hx, hb, hml, hown, hts⟩ (iX0_init_1 l dC dI _ q_9 (iI (v p0 7)) (iI p1) (Int.toNat z_3) (by omega) e_10.2) (cwI 3 hts (jgoodI m_1344) rfl rfl rfl (hts (.initialized RX0) (jm m_666)) (hts (.methodLink RX12 206 yX0_init) (jm m_1345)) (hts (.instanceMethod yX0_init) (jm m_1346)) rfl (by decide +kernel) ⟨(Nat.le_of_ble_eq_true rfl), (Nat.le_of_ble_eq_true rfl)⟩) ⟨jw_blind, fun U hU hW => ⟨rfl, jw_of hU hW (jp_last hPn) (hK.sub [] rfl) (jd_last hDn)⟩⟩ rfl rfl hl.1 rfl (lv_room (Nat.le_of_ble_eq_true rfl)) dX12_newEntry_37 ⟨(Nat.le_of_ble_eq_true rfl), (Nat.le_of_ble_eq_true rfl)⟩) hPn hDn hS hA (fun u_11 H locs hPn hK2 hDn hS => ?_)
      refine W.widen (k := 2) (n := 30) (Nat.le_of_ble_eq_true rfl) (Nat.le_of_ble_eq_true rfl) ?_
      have h_12 : u_11.2 1 = cid 1 := cidE (t := .byte) (hK2.sub [0] rfl) hK rfl (fun x h => h)
      obtain ⟨_, z_13, L_14, K_15, N_16, v_17, hz9, E_18, h_19, q_20, h_21, h_22, f_23, I_24, hP9, hD9⟩ := xnew_0 hI hPn hDn h_12 (by omega) ⟨by omega, by omega⟩ ⟨by omega, by omega⟩
      subst hz9
      have hP := hP9
      have hD := hD9
      have F_26 := frE_frE (W := [(0, 3), (0, 4), (0, 5), (0, 6), (6, 1), (6, 2), (6, 3), (6, 4), (6, 5), (12, 7), (34, (-1)), (36, (-1)), (65, (-1)), (99, 0)]) hE0 (f_23 []) rfl hF0
      have E_25 := xE_tr hE0 E_18
      have h_27 := xE_ok E_18 q0
      refine lv_astore (i := 6) (lv' := [(6, .ref z_13.toNat), (5, .int (iI z_3)), (0, .ref p0.toNat), (1, .int (iI p1)), (2, .int (iI p2)), (3, .int (iI p3)), (4, .int (iI p4))]) hx hb dX12_newEntry_40 hl (by decide) rfl (fun ls hl => ?_)
      refine lv_aload hx hb dX12_newEntry_42 (lv_at hl 0 rfl) ?_
      refine lv_iload_n hx hb dX12_newEntry_44 rfl (lv_at hl 4 rfl) ?_
      refine lv_iload_n hx hb dX12_newEntry_45 rfl (lv_at hl 5 rfl) ?_
      refine lv_iload hx hb dX12_newEntry_46 (lv_at hl 6 rfl) ?_
      refine jcg_v (va_runV (As := [.int (iI p2), .int (iI p3), .int (iI p4)]) (rest := []) ⟨hx, hb, hml, hown, hts⟩ (sX0_readHeading l dC dI _ L_14 cid K_15 N_16 tW sK sV v_17 z_13 p2 p3 p4 I_24 h_19 (by omega) (by omega) (by omega)) (cwV 3 hts (jgoodV m_1347 m_1348 m_1349 m_666 m_1350) rfl rfl rfl (by decide +kernel) ⟨(Nat.le_of_ble_eq_true rfl), (Nat.le_of_ble_eq_true rfl)⟩) ⟨xP_blind, xrecv hK hP h_19 rfl rfl, fun U hU hW => ⟨rfl, xP_of hU hW hP hK hD hX hS (fun _ h => h) hA⟩⟩ rfl rfl hl.1 rfl (lv_room (Nat.le_of_ble_eq_true rfl)) dX12_newEntry_48 ⟨(Nat.le_of_ble_eq_true rfl), (Nat.le_of_ble_eq_true rfl)⟩) hD hS hA (fun v_31 H locs w_29 hP hK hD hS => ?_)
      obtain ⟨I_33, f_32⟩ := w_29
      have hP : va_P (dC, dI) vwCl (xG L_14 cid K_15 N_16 v_31) H := hP
      have hD : va_D A (xG L_14 cid K_15 N_16 v_31) := hD
      refine lv_aload_n hx hb dX12_newEntry_51 rfl (lv_at hl 2 rfl) ?_
      have h_34 : ok L_14 K_15 (v p0 6) 36 := (by have h9 := xf_12_6 I_33 h_27; rw [(((fr_use h_27 f_32 rfl)).trans (frE_use q0 (f_23 []) rfl))] at h9; exact h9)
      have h_35 : N_16 (v p0 6) = 60 := xn_36 I_33 h_34
      refine gx_RX12_43 (y := v p0 6) hx hb hj hown hK hP h_27 ((xf_12_6 I_33 h_27).1) (((fr_use h_27 f_32 rfl)).trans (frE_use q0 (f_23 []) rfl)) dX12_newEntry_52 ?_
      refine lv_aload_n hx hb dX12_newEntry_55 rfl (lv_at hl 2 rfl) ?_
      refine gx_RX12_203 (y := v p0 7) hx hb hj hown hK hP h_27 (((fr_use h_27 f_32 rfl)).trans (frE_use q0 (f_23 []) rfl)) dX12_newEntry_56 ?_
      refine lv_aload hx hb dX12_newEntry_59 (lv_at hl 0 rfl) ?_
      refine sx_36 (y := z_13) hx hb hK hP hD hS I_33 h_34 (by omega) (by omega) (by omega) h_19 dX12_newEntry_61 (fun v_36 H locs f_37 e_38 o_39 I_40 hP hD hS => ?_)
      refine lv_aload_n hx hb dX12_newEntry_62 rfl (lv_at hl 2 rfl) ?_
      refine lv_dup hx hb dX12_newEntry_63 rfl ?_
      refine gx_RX12_203 (y := v p0 7) hx hb hj hown hK hP h_27 (((fr_use h_27 f_37 rfl)).trans (((fr_use h_27 f_32 rfl)).trans (frE_use q0 (f_23 []) rfl))) dX12_newEntry_64 ?_
      refine lv_iconst (v := iI 1) hx hb dX12_newEntry_67 rfl ?_
      refine xr_add hx hb dX12_newEntry_68 ?_
      refine px_RX12_203 (y := (v p0 7) + 1) hx hb hj hown hK hP hD hS I_40 h_27 ⟨by omega, by omega⟩ dX12_newEntry_69 (fun v_41 H locs f_42 e_43 o_44 I_45 hP hD hS => ?_)
      refine lv_aload_n hx hb dX12_newEntry_72 rfl (lv_at hl 2 rfl) ?_
      have h_46 : ok L_14 K_15 (v p0 4) 6 := (by have h9 := xf_12_4 I_45 h_27; rw [(((fr_use h_27 f_42 rfl)).trans (((fr_use h_27 f_37 rfl)).trans (((fr_use h_27 f_32 rfl)).trans (frE_use q0 (f_23 []) rfl))))] at h9; exact h9)
      refine gx_RX12_28 (y := v p0 4) hx hb hj hown hK hP h_27 ((xf_12_4 I_45 h_27).1) (((fr_use h_27 f_42 rfl)).trans (((fr_use h_27 f_37 rfl)).trans (((fr_use h_27 f_32 rfl)).trans (frE_use q0 (f_23 []) rfl)))) dX12_newEntry_73 ?_
      refine lv_iconst (v := iI (-1)) hx hb dX12_newEntry_76 rfl ?_
      refine lv_aload_n hx hb dX12_newEntry_77 rfl (lv_at hl 2 rfl) ?_
      have h_47 : 0 ≤ v p0 0 ∧ v p0 0 ≤ 2000 := xf_12_0 hI q0
      refine gx_RX12_133 (y := v p0 0) hx hb hj hown hK hP h_27 (((fr_use h_27 f_42 rfl)).trans (((fr_use h_27 f_37 rfl)).trans (((fr_use h_27 f_32 rfl)).trans (frE_use q0 (f_23 []) rfl)))) dX12_newEntry_78 ?_
      refine jcg_v (va_runV (As := [.int (iI (-1)), .int (iI (v p0 0))]) (rest := []) ⟨hx, hb, hml, hown, hts⟩ (sX6_take l dC dI _ L_14 cid K_15 N_16 tW sK sV v_41 (v p0 4) (-1) (v p0 0) I_45 h_46 (by omega) (by omega)) (cwV 2 hts (jgoodV m_1003 m_1004 m_1005 m_860 m_1006) rfl rfl rfl (by decide +kernel) ⟨(Nat.le_of_ble_eq_true rfl), (Nat.le_of_ble_eq_true rfl)⟩) ⟨xP_blind, xrecv hK hP h_46 rfl rfl, fun U hU hW => ⟨rfl, xP_of hU hW hP hK hD hX hS (fun _ h => h) hA⟩⟩ rfl rfl hl.1 rfl (lv_room (Nat.le_of_ble_eq_true rfl)) dX12_newEntry_81 ⟨(Nat.le_of_ble_eq_true rfl), (Nat.le_of_ble_eq_true rfl)⟩) hD hS hA (fun v_51 H locs w_49 hP hK hD hS => ?_)
      obtain ⟨I_53, f_52⟩ := w_49
      have hP : va_P (dC, dI) vwCl (xG L_14 cid K_15 N_16 v_51) H := hP
      have hD : va_D A (xG L_14 cid K_15 N_16 v_51) := hD
      refine lv_aload hx hb dX12_newEntry_84 (lv_at hl 0 rfl) ?_
      refine lv_aload_n hx hb dX12_newEntry_86 rfl (lv_at hl 2 rfl) ?_
      refine lv_aload hx hb dX12_newEntry_87 (lv_at hl 0 rfl) ?_
      refine jcg_i (va_runV (As := [.ref z_13.toNat]) (rest := [.ref z_13.toNat]) ⟨hx, hb, hml, hown, hts⟩ (sX12_volumeByKey l dC dI _ L_14 cid K_15 N_16 tW sK sV v_51 p0 z_13 I_53 h_27 h_19) (cwV 1 hts (jgoodV m_1007 m_1008 m_1009 m_873 m_1010) rfl rfl rfl (by decide +kernel) ⟨(Nat.le_of_ble_eq_true rfl), (Nat.le_of_ble_eq_true rfl)⟩) ⟨xP_blind, xrecv hK hP h_27 rfl rfl, fun U hU hW => ⟨rfl, xP_of hU hW hP hK hD hX hS (fun _ h => h) hA⟩⟩ rfl rfl hl.1 rfl (lv_room (Nat.le_of_ble_eq_true rfl)) dX12_newEntry_89 ⟨(Nat.le_of_ble_eq_true rfl), (Nat.le_of_ble_eq_true rfl)⟩) hD hS hA (fun r_54 v_58 H locs w_55 hP hK hD hS => ?_)
      obtain ⟨z_56, rfl, I_60, f_59, h_57⟩ := w_55
      have hP : va_P (dC, dI) vwCl (xG L_14 cid K_15 N_16 v_58) H := hP
      have hD : va_D A (xG L_14 cid K_15 N_16 v_58) := hD
      refine px_RX12_220 (y := z_56) hx hb hj hown hK hP hD hS I_60 h_19 ⟨by omega, by omega⟩ dX12_newEntry_92 (fun v_61 H locs f_62 e_63 o_64 I_65 hP hD hS => ?_)
      refine lv_aload hx hb dX12_newEntry_95 (lv_at hl 0 rfl) ?_
      have F_66 := frE_fr (W := [(0, 3), (0, 4), (0, 5), (0, 6), (6, 1), (6, 2), (6, 3), (6, 4), (6, 5), (12, 7), (34, (-1)), (36, (-1)), (65, (-1)), (99, 0)]) (W1 := [(0, 3), (0, 4), (0, 5), (0, 6), (6, 1), (6, 2), (6, 3), (6, 4), (6, 5), (12, 7), (34, (-1)), (36, (-1)), (65, (-1)), (99, 0)]) E_25 (fr_tr f_62 rfl (fr_tr f_59 rfl (fr_tr f_52 rfl (fr_tr f_42 rfl (fr_tr f_37 rfl (fr_tr f_32 rfl fr_rf)))))) rfl F_26
      rw [← hQ]
      refine jt_q (rv z_13) (rv_ref (h_19).1).symm ?_
      exact W.aret (v := rv z_13) hx hb hr (Or.inl ⟨_, rfl⟩) (rv_or z_13) (fun t ht hW => ⟨⟨opt z_13, (L_14, K_15, N_16, v_61), rfl, ⟨z_13, rfl, I_65, E_25, F_66, (Or.inr h_19)⟩, by rw [ht]; exact hP, va_K.moved hW.alike hK, hD⟩, hS.F ht⟩) hS.2.2 dX12_newEntry_97
    · refine lv_null hx hb dX12_newEntry_24 ?_
      refine jt_q (rv (-1)) rv_nul ?_
      refine W.widen (k := 2) (n := 30) (Nat.le_of_ble_eq_true rfl) (Nat.le_of_ble_eq_true rfl) ?_
      rw [← hQ]
      exact W.aret (v := rv (-1)) hx hb hr (Or.inl ⟨_, rfl⟩) (rv_or (-1)) (fun t ht hW => ⟨⟨opt (-1), (L, K, N, v), rfl, ⟨-1, rfl, hI, hE0, hF0, (Or.inl (by decide))⟩, by rw [ht]; exact hP, va_K.moved hW.alike hK, hD⟩, hS.F ht⟩) hS.2.2 dX12_newEntry_25
