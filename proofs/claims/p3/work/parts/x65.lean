set_option maxHeartbeats 2000000 in
set_option maxRecDepth 100000 in
theorem sX12_article (l : Launch) (dC : Nat → ClassId) (dI : Nat → Nat → Nat) (sz : Nat) (L : List Nat) (cid : Nat → ClassId) (K : Int → Nat) (N : Int → Int) (tW : Nat) (sK sV : Nat → Nat) (v : Int → Int → Int) (p0 : Int) (p1 : Int) (p2 : Int) (p3 : Int) (p4 : Int) (hI : xI L K N v) (q0 : ok L K p0 12) (q1 : rg p1) (q2 : rg p2) (q3 : rg p3) (q4 : rg p4) : Met l yX12_article (jk yX12_article cX12_article 9 (some .int)) ({ frames := 6, cells := 2, slots := 30, locals := 163 }) (va_Pc [.ref p0.toNat, .int (iI p1), .int (iI p2), .int (iI p3), .int (iI p4)] (xP (dC, dI) (xG L cid K N v) (xT cid) tW sK sV sz)) (va_Qi (fun (r : Int32) (u : (List Nat × (Int → Nat) × (Int → Int) × (Int → Int → Int))) => ∃ z : Int, r = iI z ∧ (xI u.1 u.2.1 u.2.2.1 u.2.2.2) ∧ (xE L K N u.1 u.2.1 u.2.2.1) ∧ (frE L K [(0, 3), (0, 4), (0, 5), (0, 6), (0, 7), (0, 8), (0, 9), (6, 1), (6, 2), (6, 3), (6, 4), (6, 5), (12, 7), (34, (-1)), (36, (-1)), (65, (-1)), (99, 0)] u.2.2.2 v) ∧ (rg z)) (fun u t => va_P (dC, dI) vwCl (xG u.1 cid u.2.1 u.2.2.1 u.2.2.2) t.heap ∧ va_K (dC, dI) vwCl (xT cid) t ∧ va_D (va_A (xG L cid K N v) sz) (xG u.1 cid u.2.1 u.2.2.1 u.2.2.2)) (va_A (xG L cid K N v) sz)) 2 30 (va_A (xG L cid K N v) sz) := by
  refine Met.ofW (cc := cX12_article) (maxL := 9) (ret := (some .int)) (by decide) rfl ?_
  intro p e s m args below meth c s₁ B hml hv
  obtain ⟨rfl, ⟨hsz, hP, hK, hD0⟩, hX⟩ := hv
  have hx := B.exec
  have hb := B.bytes
  have hr := B.returns
  have hts := atoms_spec (ws := (jk yX12_article cX12_article 9 (some .int))) B.pre
  have hj : ∀ w ∈ jw, w.before ([.ref p0.toNat, .int (iI p1), .int (iI p2), .int (iI p3), .int (iI p4)] : List Value).toArray s = true := fun w h => hts w (jm h)
  have hown : s.vm.findClass RX12 = some m.cls := findClass_of_methodNamed B.named
  subst hsz
  have hD := hD0.self (sz := s.heap.size)
  generalize hAe : (va_A (xG L cid K N v) s.heap.size) = A at hD hX ⊢
  have hA : ∀ q : Nat, s.heap.size ≤ q → A q := fun q h => by rw [← hAe]; exact Or.inr h
  have hS : va_S A s.heap s.heap [] := va_S.rf
  have hE0 : xE L K N L K N := xE_rf
  have hF0 : frE L K [(0, 3), (0, 4), (0, 5), (0, 6), (0, 7), (0, 8), (0, 9), (6, 1), (6, 2), (6, 3), (6, 4), (6, 5), (12, 7), (34, (-1)), (36, (-1)), (65, (-1)), (99, 0)] v v := frE_rf
  have hXa := hX
  have hP : va_P (dC, dI) vwCl (xG L cid K N v) s.heap := hP
  have hl := lv_entry ([.ref p0.toNat, .int (iI p1), .int (iI p2), .int (iI p3), .int (iI p4)]) (n := 9) (Nat.le_of_ble_eq_true rfl)
  rw [lg_entry_eq]
  generalize (lg_sl ([.ref p0.toNat, .int (iI p1), .int (iI p2), .int (iI p3), .int (iI p4)]) ++ List.replicate (9 - (lg_sl ([.ref p0.toNat, .int (iI p1), .int (iI p2), .int (iI p3), .int (iI p4)])).length) Slot.unset).toArray = ls at hl ⊢
  have hl : lv_has ls 9 [(0, .ref p0.toNat), (1, .int (iI p1)), (2, .int (iI p2)), (3, .int (iI p3)), (4, .int (iI p4))] := hl
  generalize hQ : MQ below (va_Qi (fun (r : Int32) (u : (List Nat × (Int → Nat) × (Int → Int) × (Int → Int → Int))) => ∃ z : Int, r = iI z ∧ (xI u.1 u.2.1 u.2.2.1 u.2.2.2) ∧ (xE L K N u.1 u.2.1 u.2.2.1) ∧ (frE L K [(0, 3), (0, 4), (0, 5), (0, 6), (0, 7), (0, 8), (0, 9), (6, 1), (6, 2), (6, 3), (6, 4), (6, 5), (12, 7), (34, (-1)), (36, (-1)), (65, (-1)), (99, 0)] u.2.2.2 v) ∧ (rg z)) (fun u t => va_P (dC, dI) vwCl (xG u.1 cid u.2.1 u.2.2.1 u.2.2.2) t.heap ∧ va_K (dC, dI) vwCl (xT cid) t ∧ va_D A (xG u.1 cid u.2.1 u.2.2.1 u.2.2.2)) A) ([.ref p0.toNat, .int (iI p1), .int (iI p2), .int (iI p3), .int (iI p4)] : List Value).toArray s 2 30 A = Q
  suffices ST : ∀ (H : Heap) (locs : List Loc), va_P (dC, dI) vwCl (xG L cid K N v) H → va_S A s.heap H locs → W p l e ({ frames := 6, cells := 2, slots := 30, locals := 163 }) s m ([.ref p0.toNat, .int (iI p1), .int (iI p2), .int (iI p3), .int (iI p4)] : List Value).toArray below meth c H locs 0 0 Q (F0 m 0 ls []) from ST _ _ hP hS
  clear hP hS
  intro H locs hP hS
  refine lv_iload hx hb dX12_article_0 (lv_at hl 4 rfl) ?_
  refine lv_sipush (v := iI 10000) hx hb dX12_article_2 rfl ?_
  refine xr_divA hx hb dX12_article_5 (by omega) (by omega) (fun z_1 h_2 => ?_)
  refine lv_istore (i := 5) (lv' := [(5, .int (iI z_1)), (0, .ref p0.toNat), (1, .int (iI p1)), (2, .int (iI p2)), (3, .int (iI p3)), (4, .int (iI p4))]) hx hb dX12_article_6 hl (by decide) rfl (fun ls hl => ?_)
  refine lv_iload hx hb dX12_article_8 (lv_at hl 5 rfl) ?_
  refine lv_sipush (v := iI 1000) hx hb dX12_article_10 rfl ?_
  refine xr_divA hx hb dX12_article_13 (by omega) (by omega) (fun z_3 h_4 => ?_)
  refine lv_bipush (v := iI 10) hx hb dX12_article_14 rfl ?_
  refine xr_remA hx hb dX12_article_16 (by omega) (by omega) (fun z_5 h_6 => ?_)
  refine lv_istore (i := 6) (lv' := [(6, .int (iI z_5)), (5, .int (iI z_1)), (0, .ref p0.toNat), (1, .int (iI p1)), (2, .int (iI p2)), (3, .int (iI p3)), (4, .int (iI p4))]) hx hb dX12_article_17 hl (by decide) rfl (fun ls hl => ?_)
  refine lv_iload hx hb dX12_article_19 (lv_at hl 6 rfl) ?_
  refine lv_sipush (v := iI 1000) hx hb dX12_article_21 rfl ?_
  refine xr_remA hx hb dX12_article_24 (by omega) (by omega) (fun z_7 h_8 => ?_)
  refine lv_istore (i := 7) (lv' := [(7, .int (iI z_7)), (6, .int (iI z_5)), (5, .int (iI z_1)), (0, .ref p0.toNat), (1, .int (iI p1)), (2, .int (iI p2)), (3, .int (iI p3)), (4, .int (iI p4))]) hx hb dX12_article_25 hl (by decide) rfl (fun ls hl => ?_)
  refine lv_iload hx hb dX12_article_27 (lv_at hl 7 rfl) ?_
  refine xr_if_lt (tgt := 59) hx hb dX12_article_29 (by decide) (by omega) (fun h_9 => ?_) (fun h_9 => ?_)
  · refine lv_iconst (v := iI (-1)) hx hb dX12_article_59 rfl ?_
    refine W.widen (k := 2) (n := 30) (Nat.le_of_ble_eq_true rfl) (Nat.le_of_ble_eq_true rfl) ?_
    rw [← hQ]
    exact W.iret (v := iI (-1)) hx hb hr (fun t ht hW => ⟨⟨iI (-1), (L, K, N, v), rfl, ⟨(-1), rfl, hI, hE0, hF0, by omega⟩, by rw [ht]; exact hP, va_K.moved hW.alike hK, hD⟩, hS.F ht⟩) hS.2.2 dX12_article_60
  · refine lv_iload hx hb dX12_article_32 (lv_at hl 2 rfl) ?_
    refine lv_iconst (v := iI 2) hx hb dX12_article_34 rfl ?_
    refine xr_icmp_gt (tgt := 59) hx hb dX12_article_35 (by decide) (by omega) (by omega) (fun h_10 => ?_) (fun h_10 => ?_)
    · refine lv_iconst (v := iI (-1)) hx hb dX12_article_59 rfl ?_
      refine W.widen (k := 2) (n := 30) (Nat.le_of_ble_eq_true rfl) (Nat.le_of_ble_eq_true rfl) ?_
      rw [← hQ]
      exact W.iret (v := iI (-1)) hx hb hr (fun t ht hW => ⟨⟨iI (-1), (L, K, N, v), rfl, ⟨(-1), rfl, hI, hE0, hF0, by omega⟩, by rw [ht]; exact hP, va_K.moved hW.alike hK, hD⟩, hS.F ht⟩) hS.2.2 dX12_article_60
    · refine lv_iload hx hb dX12_article_38 (lv_at hl 1 rfl) ?_
      refine lv_bipush (v := iI 7) hx hb dX12_article_40 rfl ?_
      refine xr_icmp_gt (tgt := 59) hx hb dX12_article_42 (by decide) (by omega) (by omega) (fun h_11 => ?_) (fun h_11 => ?_)
      · refine lv_iconst (v := iI (-1)) hx hb dX12_article_59 rfl ?_
        refine W.widen (k := 2) (n := 30) (Nat.le_of_ble_eq_true rfl) (Nat.le_of_ble_eq_true rfl) ?_
        rw [← hQ]
        exact W.iret (v := iI (-1)) hx hb hr (fun t ht hW => ⟨⟨iI (-1), (L, K, N, v), rfl, ⟨(-1), rfl, hI, hE0, hF0, by omega⟩, by rw [ht]; exact hP, va_K.moved hW.alike hK, hD⟩, hS.F ht⟩) hS.2.2 dX12_article_60
      · refine lv_iload hx hb dX12_article_45 (lv_at hl 0 rfl) ?_
        refine lv_iconst (v := iI 1) hx hb dX12_article_47 rfl ?_
        refine xr_icmp_lt (tgt := 59) hx hb dX12_article_48 (by decide) (by omega) (by omega) (fun h_12 => ?_) (fun h_12 => ?_)
        · refine lv_iconst (v := iI (-1)) hx hb dX12_article_59 rfl ?_
          refine W.widen (k := 2) (n := 30) (Nat.le_of_ble_eq_true rfl) (Nat.le_of_ble_eq_true rfl) ?_
          rw [← hQ]
          exact W.iret (v := iI (-1)) hx hb hr (fun t ht hW => ⟨⟨iI (-1), (L, K, N, v), rfl, ⟨(-1), rfl, hI, hE0, hF0, by omega⟩, by rw [ht]; exact hP, va_K.moved hW.alike hK, hD⟩, hS.F ht⟩) hS.2.2 dX12_article_60
        · refine lv_iload hx hb dX12_article_51 (lv_at hl 0 rfl) ?_
          refine lv_sipush (v := iI 200) hx hb dX12_article_53 rfl ?_
          refine xr_icmp_le (tgt := 61) hx hb dX12_article_56 (by decide) (by omega) (by omega) (fun h_13 => ?_) (fun h_13 => ?_)
          · refine lv_aload_n hx hb dX12_article_61 rfl (lv_at hl 3 rfl) ?_
            refine lv_iconst (v := iI 0) hx hb dX12_article_62 rfl ?_
            refine lv_iload_n hx hb dX12_article_63 rfl (lv_at hl 4 rfl) ?_
            refine lv_iload_n hx hb dX12_article_64 rfl (lv_at hl 5 rfl) ?_
            refine lv_iload_n hx hb dX12_article_65 rfl (lv_at hl 6 rfl) ?_
            refine jcg_q (va_runV (As := [.int (iI 0), .int (iI p1), .int (iI p2), .int (iI p3)]) (rest := []) ⟨hx, hb, hml, hown, hts⟩ (sX12_newEntry l dC dI _ L cid K N tW sK sV v p0 0 p1 p2 p3 hI q0 (by omega) (by omega) (by omega) (by omega)) (cwV 4 hts (jgoodV m_1351 m_1352 m_1353 m_873 m_1354) rfl rfl rfl (by decide +kernel) ⟨(Nat.le_of_ble_eq_true rfl), (Nat.le_of_ble_eq_true rfl)⟩) ⟨xP_blind, xrecv hK hP q0 rfl rfl, fun U hU hW => ⟨rfl, xP_of hU hW hP hK hD hX hS (fun _ h => h) hA⟩⟩ rfl rfl hl.1 rfl (lv_room (Nat.le_of_ble_eq_true rfl)) dX12_article_66 ⟨(Nat.le_of_ble_eq_true rfl), (Nat.le_of_ble_eq_true rfl)⟩) hD hS hA (fun r_14 u_18 H locs w_15 hP hK hD hS => ?_)
            refine W.widen (k := 2) (n := 30) (Nat.le_of_ble_eq_true rfl) (Nat.le_of_ble_eq_true rfl) ?_
            obtain ⟨L_19, K_20, N_21, v_22⟩ := u_18
            obtain ⟨z_16, rfl, I_24, E_25, f_23, h_17⟩ := w_15
            have hP : va_P (dC, dI) vwCl (xG L_19 cid K_20 N_21 v_22) H := hP
            have hD : va_D A (xG L_19 cid K_20 N_21 v_22) := hD
            have I_24 : xI L_19 K_20 N_21 v_22 := I_24
            have E_25 : xE L K N L_19 K_20 N_21 := E_25
            have f_23 : frE L K [(0, 3), (0, 4), (0, 5), (0, 6), (6, 1), (6, 2), (6, 3), (6, 4), (6, 5), (12, 7), (34, (-1)), (36, (-1)), (65, (-1)), (99, 0)] v_22 v := f_23
            have F_27 := frE_frE (W := [(0, 3), (0, 4), (0, 5), (0, 6), (0, 7), (0, 8), (0, 9), (6, 1), (6, 2), (6, 3), (6, 4), (6, 5), (12, 7), (34, (-1)), (36, (-1)), (65, (-1)), (99, 0)]) hE0 f_23 rfl hF0
            have E_26 := xE_tr hE0 E_25
            have h_28 := xE_ok E_25 q0
            refine jt_q (rv z_16) rfl ?_
            refine xq_astore (i := 8) (lv' := [(8, rv z_16), (7, .int (iI z_7)), (6, .int (iI z_5)), (5, .int (iI z_1)), (0, .ref p0.toNat), (1, .int (iI p1)), (2, .int (iI p2)), (3, .int (iI p3)), (4, .int (iI p4))]) hx hb dX12_article_69 hl (by decide) rfl (fun ls hl => ?_)
            refine xq_aload hx hb dX12_article_71 (lv_at hl 0 rfl) ?_
            refine xq_ifnonnull (tgt := 78) hx hb dX12_article_73 (by decide) (fun h_29 => ?_) (fun h_29 => ?_)
            · have h_30 : ok L_19 K_20 z_16 0 := h_17.resolve_left (by omega)
              refine xq_aload hx hb dX12_article_78 (lv_at hl 0 rfl) ?_
              refine jt_q (.ref z_16.toNat) (rv_ref (h_30).1) ?_
              refine lv_iload hx hb dX12_article_80 (lv_at hl 3 rfl) ?_
              refine px_RX12_177 (y := z_1) hx hb hj hown hK hP hD hS I_24 h_30 ⟨by omega, by omega⟩ dX12_article_82 (fun v_31 H locs f_32 e_33 o_34 I_35 hP hD hS => ?_)
              refine xq_aload hx hb dX12_article_85 (lv_at hl 0 rfl) ?_
              refine jt_q (.ref z_16.toNat) (rv_ref (h_30).1) ?_
              refine lv_iload hx hb dX12_article_87 (lv_at hl 2 rfl) ?_
              refine px_RX12_180 (y := z_5) hx hb hj hown hK hP hD hS I_35 h_30 ⟨by omega, by omega⟩ dX12_article_89 (fun v_36 H locs f_37 e_38 o_39 I_40 hP hD hS => ?_)
              refine xq_aload hx hb dX12_article_92 (lv_at hl 0 rfl) ?_
              refine jt_q (.ref z_16.toNat) (rv_ref (h_30).1) ?_
              refine lv_iload hx hb dX12_article_94 (lv_at hl 1 rfl) ?_
              refine px_RX12_183 (y := z_7) hx hb hj hown hK hP hD hS I_40 h_30 ⟨by omega, by omega⟩ dX12_article_96 (fun v_41 H locs f_42 e_43 o_44 I_45 hP hD hS => ?_)
              refine xq_aload hx hb dX12_article_99 (lv_at hl 0 rfl) ?_
              refine jt_q (.ref z_16.toNat) (rv_ref (h_30).1) ?_
              have h_46 : (-2147483648) ≤ v_22 z_16 0 ∧ v_22 z_16 0 ≤ 2147483647 := xf_0_0 I_24 h_30
              refine gx_RX12_186 (y := v_22 z_16 0) hx hb hj hown hK hP h_30 (((fr_use h_30 f_42 rfl)).trans (((fr_use h_30 f_37 rfl)).trans (fr_use h_30 f_32 rfl))) dX12_article_101 ?_
              have F_47 := frE_fr (W := [(0, 3), (0, 4), (0, 5), (0, 6), (0, 7), (0, 8), (0, 9), (6, 1), (6, 2), (6, 3), (6, 4), (6, 5), (12, 7), (34, (-1)), (36, (-1)), (65, (-1)), (99, 0)]) (W1 := [(0, 3), (0, 4), (0, 5), (0, 6), (0, 7), (0, 8), (0, 9), (6, 1), (6, 2), (6, 3), (6, 4), (6, 5), (12, 7), (34, (-1)), (36, (-1)), (65, (-1)), (99, 0)]) E_26 (fr_tr f_42 rfl (fr_tr f_37 rfl (fr_tr f_32 rfl fr_rf))) rfl F_27
              rw [← hQ]
              exact W.iret (v := iI (v_22 z_16 0)) hx hb hr (fun t ht hW => ⟨⟨iI (v_22 z_16 0), (L_19, K_20, N_21, v_41), rfl, ⟨v_22 z_16 0, rfl, I_45, E_26, F_47, by omega⟩, by rw [ht]; exact hP, va_K.moved hW.alike hK, hD⟩, hS.F ht⟩) hS.2.2 dX12_article_104
            · refine lv_iconst (v := iI (-1)) hx hb dX12_article_76 rfl ?_
              rw [← hQ]
              exact W.iret (v := iI (-1)) hx hb hr (fun t ht hW => ⟨⟨iI (-1), (L_19, K_20, N_21, v_22), rfl, ⟨(-1), rfl, I_24, E_26, F_27, by omega⟩, by rw [ht]; exact hP, va_K.moved hW.alike hK, hD⟩, hS.F ht⟩) hS.2.2 dX12_article_77
          · refine lv_iconst (v := iI (-1)) hx hb dX12_article_59 rfl ?_
            refine W.widen (k := 2) (n := 30) (Nat.le_of_ble_eq_true rfl) (Nat.le_of_ble_eq_true rfl) ?_
            rw [← hQ]
            exact W.iret (v := iI (-1)) hx hb hr (fun t ht hW => ⟨⟨iI (-1), (L, K, N, v), rfl, ⟨(-1), rfl, hI, hE0, hF0, by omega⟩, by rw [ht]; exact hP, va_K.moved hW.alike hK, hD⟩, hS.F ht⟩) hS.2.2 dX12_article_60
set_option maxHeartbeats 2000000 in
set_option maxRecDepth 100000 in
theorem sX12_pointer (l : Launch) (dC : Nat → ClassId) (dI : Nat → Nat → Nat) (sz : Nat) (L : List Nat) (cid : Nat → ClassId) (K : Int → Nat) (N : Int → Int) (tW : Nat) (sK sV : Nat → Nat) (v : Int → Int → Int) (p0 : Int) (p1 : Int) (p2 : Int) (p3 : Int) (p4 : Int) (hI : xI L K N v) (q0 : ok L K p0 12) (q1 : rg p1) (q2 : rg p2) (q3 : rg p3) (q4 : rg p4) : Met l yX12_pointer (jk yX12_pointer cX12_pointer 6 (some .int)) ({ frames := 6, cells := 2, slots := 30, locals := 163 }) (va_Pc [.ref p0.toNat, .int (iI p1), .int (iI p2), .int (iI p3), .int (iI p4)] (xP (dC, dI) (xG L cid K N v) (xT cid) tW sK sV sz)) (va_Qi (fun (r : Int32) (u : (List Nat × (Int → Nat) × (Int → Int) × (Int → Int → Int))) => ∃ z : Int, r = iI z ∧ (xI u.1 u.2.1 u.2.2.1 u.2.2.2) ∧ (xE L K N u.1 u.2.1 u.2.2.1) ∧ (frE L K [(0, 3), (0, 4), (0, 5), (0, 6), (0, 10), (6, 1), (6, 2), (6, 3), (6, 4), (6, 5), (12, 7), (34, (-1)), (36, (-1)), (65, (-1)), (99, 0)] u.2.2.2 v) ∧ (rg z)) (fun u t => va_P (dC, dI) vwCl (xG u.1 cid u.2.1 u.2.2.1 u.2.2.2) t.heap ∧ va_K (dC, dI) vwCl (xT cid) t ∧ va_D (va_A (xG L cid K N v) sz) (xG u.1 cid u.2.1 u.2.2.1 u.2.2.2)) (va_A (xG L cid K N v) sz)) 2 30 (va_A (xG L cid K N v) sz) := by
  refine Met.ofW (cc := cX12_pointer) (maxL := 6) (ret := (some .int)) (by decide) rfl ?_
  intro p e s m args below meth c s₁ B hml hv
  obtain ⟨rfl, ⟨hsz, hP, hK, hD0⟩, hX⟩ := hv
  have hx := B.exec
  have hb := B.bytes
  have hr := B.returns
  have hts := atoms_spec (ws := (jk yX12_pointer cX12_pointer 6 (some .int))) B.pre
  have hj : ∀ w ∈ jw, w.before ([.ref p0.toNat, .int (iI p1), .int (iI p2), .int (iI p3), .int (iI p4)] : List Value).toArray s = true := fun w h => hts w (jm h)
  have hown : s.vm.findClass RX12 = some m.cls := findClass_of_methodNamed B.named
  subst hsz
  have hD := hD0.self (sz := s.heap.size)
  generalize hAe : (va_A (xG L cid K N v) s.heap.size) = A at hD hX ⊢
  have hA : ∀ q : Nat, s.heap.size ≤ q → A q := fun q h => by rw [← hAe]; exact Or.inr h
  have hS : va_S A s.heap s.heap [] := va_S.rf
  have hE0 : xE L K N L K N := xE_rf
  have hF0 : frE L K [(0, 3), (0, 4), (0, 5), (0, 6), (0, 10), (6, 1), (6, 2), (6, 3), (6, 4), (6, 5), (12, 7), (34, (-1)), (36, (-1)), (65, (-1)), (99, 0)] v v := frE_rf
  have hXa := hX
  have hP : va_P (dC, dI) vwCl (xG L cid K N v) s.heap := hP
  have hl := lv_entry ([.ref p0.toNat, .int (iI p1), .int (iI p2), .int (iI p3), .int (iI p4)]) (n := 6) (Nat.le_of_ble_eq_true rfl)
  rw [lg_entry_eq]
  generalize (lg_sl ([.ref p0.toNat, .int (iI p1), .int (iI p2), .int (iI p3), .int (iI p4)]) ++ List.replicate (6 - (lg_sl ([.ref p0.toNat, .int (iI p1), .int (iI p2), .int (iI p3), .int (iI p4)])).length) Slot.unset).toArray = ls at hl ⊢
  have hl : lv_has ls 6 [(0, .ref p0.toNat), (1, .int (iI p1)), (2, .int (iI p2)), (3, .int (iI p3)), (4, .int (iI p4))] := hl
  generalize hQ : MQ below (va_Qi (fun (r : Int32) (u : (List Nat × (Int → Nat) × (Int → Int) × (Int → Int → Int))) => ∃ z : Int, r = iI z ∧ (xI u.1 u.2.1 u.2.2.1 u.2.2.2) ∧ (xE L K N u.1 u.2.1 u.2.2.1) ∧ (frE L K [(0, 3), (0, 4), (0, 5), (0, 6), (0, 10), (6, 1), (6, 2), (6, 3), (6, 4), (6, 5), (12, 7), (34, (-1)), (36, (-1)), (65, (-1)), (99, 0)] u.2.2.2 v) ∧ (rg z)) (fun u t => va_P (dC, dI) vwCl (xG u.1 cid u.2.1 u.2.2.1 u.2.2.2) t.heap ∧ va_K (dC, dI) vwCl (xT cid) t ∧ va_D A (xG u.1 cid u.2.1 u.2.2.1 u.2.2.2)) A) ([.ref p0.toNat, .int (iI p1), .int (iI p2), .int (iI p3), .int (iI p4)] : List Value).toArray s 2 30 A = Q
  suffices ST : ∀ (H : Heap) (locs : List Loc), va_P (dC, dI) vwCl (xG L cid K N v) H → va_S A s.heap H locs → W p l e ({ frames := 6, cells := 2, slots := 30, locals := 163 }) s m ([.ref p0.toNat, .int (iI p1), .int (iI p2), .int (iI p3), .int (iI p4)] : List Value).toArray below meth c H locs 0 0 Q (F0 m 0 ls []) from ST _ _ hP hS
  clear hP hS
  intro H locs hP hS
  refine lv_aload_n hx hb dX12_pointer_0 rfl (lv_at hl 0 rfl) ?_
  refine lv_iload hx hb dX12_pointer_1 (lv_at hl 4 rfl) ?_
  refine jc_q (va_runV (As := [.int (iI p4)]) (rest := []) ⟨hx, hb, hml, hown, hts⟩ (sX12_entryAt l dC dI _ L cid K N tW sK sV v p0 p4 hI q0 (by omega)) (cwV 1 hts (jgoodV m_870 m_871 m_872 m_873 m_874) rfl rfl rfl (by decide +kernel) ⟨(Nat.le_of_ble_eq_true rfl), (Nat.le_of_ble_eq_true rfl)⟩) ⟨xP_blind, xrecv hK hP q0 rfl rfl, fun U hU hW => ⟨rfl, xP_of hU hW hP hK hD hX hS (fun _ h => h) hA⟩⟩ rfl rfl hl.1 rfl (lv_room (Nat.le_of_ble_eq_true rfl)) dX12_pointer_3 ⟨(Nat.le_of_ble_eq_true rfl), (Nat.le_of_ble_eq_true rfl)⟩) hP hS hA (fun r_1 H locs w_2 hP hS => ?_)
  obtain ⟨z_3, rfl, h_4⟩ := w_2
  refine jt_q (rv z_3) rfl ?_
  refine xq_ifnonnull (tgt := 11) hx hb dX12_pointer_6 (by decide) (fun h_5 => ?_) (fun h_5 => ?_)
  · have h_6 : ok L K z_3 0 := h_4.resolve_left (by omega)
    refine lv_aload_n hx hb dX12_pointer_11 rfl (lv_at hl 0 rfl) ?_
    refine lv_iconst (v := iI 1) hx hb dX12_pointer_12 rfl ?_
    refine lv_iload_n hx hb dX12_pointer_13 rfl (lv_at hl 1 rfl) ?_
    refine lv_iload_n hx hb dX12_pointer_14 rfl (lv_at hl 2 rfl) ?_
    refine lv_iload_n hx hb dX12_pointer_15 rfl (lv_at hl 3 rfl) ?_
    refine jcg_q (va_runV (As := [.int (iI 1), .int (iI p1), .int (iI p2), .int (iI p3)]) (rest := []) ⟨hx, hb, hml, hown, hts⟩ (sX12_newEntry l dC dI _ L cid K N tW sK sV v p0 1 p1 p2 p3 hI q0 (by omega) (by omega) (by omega) (by omega)) (cwV 4 hts (jgoodV m_1351 m_1352 m_1353 m_873 m_1354) rfl rfl rfl (by decide +kernel) ⟨(Nat.le_of_ble_eq_true rfl), (Nat.le_of_ble_eq_true rfl)⟩) ⟨xP_blind, xrecv hK hP q0 rfl rfl, fun U hU hW => ⟨rfl, xP_of hU hW hP hK hD hX hS (fun _ h => h) hA⟩⟩ rfl rfl hl.1 rfl (lv_room (Nat.le_of_ble_eq_true rfl)) dX12_pointer_16 ⟨(Nat.le_of_ble_eq_true rfl), (Nat.le_of_ble_eq_true rfl)⟩) hD hS hA (fun r_7 u_11 H locs w_8 hP hK hD hS => ?_)
    refine W.widen (k := 2) (n := 30) (Nat.le_of_ble_eq_true rfl) (Nat.le_of_ble_eq_true rfl) ?_
    obtain ⟨L_12, K_13, N_14, v_15⟩ := u_11
    obtain ⟨z_9, rfl, I_17, E_18, f_16, h_10⟩ := w_8
    have hP : va_P (dC, dI) vwCl (xG L_12 cid K_13 N_14 v_15) H := hP
    have hD : va_D A (xG L_12 cid K_13 N_14 v_15) := hD
    have I_17 : xI L_12 K_13 N_14 v_15 := I_17
    have E_18 : xE L K N L_12 K_13 N_14 := E_18
    have f_16 : frE L K [(0, 3), (0, 4), (0, 5), (0, 6), (6, 1), (6, 2), (6, 3), (6, 4), (6, 5), (12, 7), (34, (-1)), (36, (-1)), (65, (-1)), (99, 0)] v_15 v := f_16
    have F_20 := frE_frE (W := [(0, 3), (0, 4), (0, 5), (0, 6), (0, 10), (6, 1), (6, 2), (6, 3), (6, 4), (6, 5), (12, 7), (34, (-1)), (36, (-1)), (65, (-1)), (99, 0)]) hE0 f_16 rfl hF0
    have E_19 := xE_tr hE0 E_18
    have h_21 := xE_ok E_18 q0
    have h_22 := xE_ok E_18 h_6
    refine jt_q (rv z_9) rfl ?_
    refine xq_astore (i := 5) (lv' := [(5, rv z_9), (0, .ref p0.toNat), (1, .int (iI p1)), (2, .int (iI p2)), (3, .int (iI p3)), (4, .int (iI p4))]) hx hb dX12_pointer_19 hl (by decide) rfl (fun ls hl => ?_)
    refine xq_aload hx hb dX12_pointer_21 (lv_at hl 0 rfl) ?_
    refine xq_ifnonnull (tgt := 28) hx hb dX12_pointer_23 (by decide) (fun h_23 => ?_) (fun h_23 => ?_)
    · have h_24 : ok L_12 K_13 z_9 0 := h_10.resolve_left (by omega)
      refine xq_aload hx hb dX12_pointer_28 (lv_at hl 0 rfl) ?_
      refine jt_q (.ref z_9.toNat) (rv_ref (h_24).1) ?_
      refine lv_iload hx hb dX12_pointer_30 (lv_at hl 5 rfl) ?_
      refine px_RX12_193 (y := p4) hx hb hj hown hK hP hD hS I_17 h_24 ⟨by omega, by omega⟩ dX12_pointer_32 (fun v_25 H locs f_26 e_27 o_28 I_29 hP hD hS => ?_)
      refine xq_aload hx hb dX12_pointer_35 (lv_at hl 0 rfl) ?_
      refine jt_q (.ref z_9.toNat) (rv_ref (h_24).1) ?_
      have h_30 : (-2147483648) ≤ v_15 z_9 0 ∧ v_15 z_9 0 ≤ 2147483647 := xf_0_0 I_17 h_24
      refine gx_RX12_186 (y := v_15 z_9 0) hx hb hj hown hK hP h_24 (fr_use h_24 f_26 rfl) dX12_pointer_37 ?_
      have F_31 := frE_fr (W := [(0, 3), (0, 4), (0, 5), (0, 6), (0, 10), (6, 1), (6, 2), (6, 3), (6, 4), (6, 5), (12, 7), (34, (-1)), (36, (-1)), (65, (-1)), (99, 0)]) (W1 := [(0, 3), (0, 4), (0, 5), (0, 6), (0, 10), (6, 1), (6, 2), (6, 3), (6, 4), (6, 5), (12, 7), (34, (-1)), (36, (-1)), (65, (-1)), (99, 0)]) E_19 (fr_tr f_26 rfl fr_rf) rfl F_20
      rw [← hQ]
      exact W.iret (v := iI (v_15 z_9 0)) hx hb hr (fun t ht hW => ⟨⟨iI (v_15 z_9 0), (L_12, K_13, N_14, v_25), rfl, ⟨v_15 z_9 0, rfl, I_29, E_19, F_31, by omega⟩, by rw [ht]; exact hP, va_K.moved hW.alike hK, hD⟩, hS.F ht⟩) hS.2.2 dX12_pointer_40
    · refine lv_iconst (v := iI (-1)) hx hb dX12_pointer_26 rfl ?_
      rw [← hQ]
      exact W.iret (v := iI (-1)) hx hb hr (fun t ht hW => ⟨⟨iI (-1), (L_12, K_13, N_14, v_15), rfl, ⟨(-1), rfl, I_17, E_19, F_20, by omega⟩, by rw [ht]; exact hP, va_K.moved hW.alike hK, hD⟩, hS.F ht⟩) hS.2.2 dX12_pointer_27
  · refine lv_iconst (v := iI (-1)) hx hb dX12_pointer_9 rfl ?_
    refine W.widen (k := 2) (n := 30) (Nat.le_of_ble_eq_true rfl) (Nat.le_of_ble_eq_true rfl) ?_
    rw [← hQ]
    exact W.iret (v := iI (-1)) hx hb hr (fun t ht hW => ⟨⟨iI (-1), (L, K, N, v), rfl, ⟨(-1), rfl, hI, hE0, hF0, by omega⟩, by rw [ht]; exact hP, va_K.moved hW.alike hK, hD⟩, hS.F ht⟩) hS.2.2 dX12_pointer_10
set_option maxHeartbeats 2000000 in
set_option maxRecDepth 100000 in
theorem sX12_plate (l : Launch) (dC : Nat → ClassId) (dI : Nat → Nat → Nat) (sz : Nat) (L : List Nat) (cid : Nat → ClassId) (K : Int → Nat) (N : Int → Int) (tW : Nat) (sK sV : Nat → Nat) (v : Int → Int → Int) (p0 : Int) (p1 : Int) (p2 : Int) (p3 : Int) (p4 : Int) (p5 : Int) (hI : xI L K N v) (q0 : ok L K p0 12) (q1 : rg p1) (q2 : rg p2) (q3 : rg p3) (q4 : rg p4) (q5 : rg p5) : Met l yX12_plate (jk yX12_plate cX12_plate 7 (some .int)) ({ frames := 6, cells := 2, slots := 30, locals := 163 }) (va_Pc [.ref p0.toNat, .int (iI p1), .int (iI p2), .int (iI p3), .int (iI p4), .int (iI p5)] (xP (dC, dI) (xG L cid K N v) (xT cid) tW sK sV sz)) (va_Qi (fun (r : Int32) (u : (List Nat × (Int → Nat) × (Int → Int) × (Int → Int → Int))) => ∃ z : Int, r = iI z ∧ (xI u.1 u.2.1 u.2.2.1 u.2.2.2) ∧ (xE L K N u.1 u.2.1 u.2.2.1) ∧ (frE L K [(0, 3), (0, 4), (0, 5), (0, 6), (6, 1), (6, 2), (6, 3), (6, 4), (6, 5), (12, 7), (34, (-1)), (36, (-1)), (65, (-1)), (99, 0)] u.2.2.2 v) ∧ (rg z)) (fun u t => va_P (dC, dI) vwCl (xG u.1 cid u.2.1 u.2.2.1 u.2.2.2) t.heap ∧ va_K (dC, dI) vwCl (xT cid) t ∧ va_D (va_A (xG L cid K N v) sz) (xG u.1 cid u.2.1 u.2.2.1 u.2.2.2)) (va_A (xG L cid K N v) sz)) 2 30 (va_A (xG L cid K N v) sz) := by
  refine Met.ofW (cc := cX12_plate) (maxL := 7) (ret := (some .int)) (by decide) rfl ?_
  intro p e s m args below meth c s₁ B hml hv
  obtain ⟨rfl, ⟨hsz, hP, hK, hD0⟩, hX⟩ := hv
  have hx := B.exec
  have hb := B.bytes
  have hr := B.returns
  have hts := atoms_spec (ws := (jk yX12_plate cX12_plate 7 (some .int))) B.pre
  have hj : ∀ w ∈ jw, w.before ([.ref p0.toNat, .int (iI p1), .int (iI p2), .int (iI p3), .int (iI p4), .int (iI p5)] : List Value).toArray s = true := fun w h => hts w (jm h)
  have hown : s.vm.findClass RX12 = some m.cls := findClass_of_methodNamed B.named
  subst hsz
  have hD := hD0.self (sz := s.heap.size)
  generalize hAe : (va_A (xG L cid K N v) s.heap.size) = A at hD hX ⊢
  have hA : ∀ q : Nat, s.heap.size ≤ q → A q := fun q h => by rw [← hAe]; exact Or.inr h
  have hS : va_S A s.heap s.heap [] := va_S.rf
  have hE0 : xE L K N L K N := xE_rf
  have hF0 : frE L K [(0, 3), (0, 4), (0, 5), (0, 6), (6, 1), (6, 2), (6, 3), (6, 4), (6, 5), (12, 7), (34, (-1)), (36, (-1)), (65, (-1)), (99, 0)] v v := frE_rf
  have hXa := hX
  have hP : va_P (dC, dI) vwCl (xG L cid K N v) s.heap := hP
  have hl := lv_entry ([.ref p0.toNat, .int (iI p1), .int (iI p2), .int (iI p3), .int (iI p4), .int (iI p5)]) (n := 7) (Nat.le_of_ble_eq_true rfl)
  rw [lg_entry_eq]
  generalize (lg_sl ([.ref p0.toNat, .int (iI p1), .int (iI p2), .int (iI p3), .int (iI p4), .int (iI p5)]) ++ List.replicate (7 - (lg_sl ([.ref p0.toNat, .int (iI p1), .int (iI p2), .int (iI p3), .int (iI p4), .int (iI p5)])).length) Slot.unset).toArray = ls at hl ⊢
  have hl : lv_has ls 7 [(0, .ref p0.toNat), (1, .int (iI p1)), (2, .int (iI p2)), (3, .int (iI p3)), (4, .int (iI p4)), (5, .int (iI p5))] := hl
  generalize hQ : MQ below (va_Qi (fun (r : Int32) (u : (List Nat × (Int → Nat) × (Int → Int) × (Int → Int → Int))) => ∃ z : Int, r = iI z ∧ (xI u.1 u.2.1 u.2.2.1 u.2.2.2) ∧ (xE L K N u.1 u.2.1 u.2.2.1) ∧ (frE L K [(0, 3), (0, 4), (0, 5), (0, 6), (6, 1), (6, 2), (6, 3), (6, 4), (6, 5), (12, 7), (34, (-1)), (36, (-1)), (65, (-1)), (99, 0)] u.2.2.2 v) ∧ (rg z)) (fun u t => va_P (dC, dI) vwCl (xG u.1 cid u.2.1 u.2.2.1 u.2.2.2) t.heap ∧ va_K (dC, dI) vwCl (xT cid) t ∧ va_D A (xG u.1 cid u.2.1 u.2.2.1 u.2.2.2)) A) ([.ref p0.toNat, .int (iI p1), .int (iI p2), .int (iI p3), .int (iI p4), .int (iI p5)] : List Value).toArray s 2 30 A = Q
  suffices ST : ∀ (H : Heap) (locs : List Loc), va_P (dC, dI) vwCl (xG L cid K N v) H → va_S A s.heap H locs → W p l e ({ frames := 6, cells := 2, slots := 30, locals := 163 }) s m ([.ref p0.toNat, .int (iI p1), .int (iI p2), .int (iI p3), .int (iI p4), .int (iI p5)] : List Value).toArray below meth c H locs 0 0 Q (F0 m 0 ls []) from ST _ _ hP hS
  clear hP hS
  intro H locs hP hS
  refine lv_aload_n hx hb dX12_plate_0 rfl (lv_at hl 0 rfl) ?_
  refine lv_iload hx hb dX12_plate_1 (lv_at hl 4 rfl) ?_
  refine lv_iload hx hb dX12_plate_3 (lv_at hl 5 rfl) ?_
  refine jc_i (va_runV (As := [.int (iI p4), .int (iI p5)]) (rest := []) ⟨hx, hb, hml, hown, hts⟩ (sX12_areEntries l dC dI _ L cid K N tW sK sV v p0 p4 p5 hI q0 (by omega) (by omega)) (cwV 2 hts (jgoodV m_1355 m_1356 m_1357 m_873 m_1358) rfl rfl rfl (by decide +kernel) ⟨(Nat.le_of_ble_eq_true rfl), (Nat.le_of_ble_eq_true rfl)⟩) ⟨xP_blind, xrecv hK hP q0 rfl rfl, fun U hU hW => ⟨rfl, xP_of hU hW hP hK hD hX hS (fun _ h => h) hA⟩⟩ rfl rfl hl.1 rfl (lv_room (Nat.le_of_ble_eq_true rfl)) dX12_plate_5 ⟨(Nat.le_of_ble_eq_true rfl), (Nat.le_of_ble_eq_true rfl)⟩) hP hS hA (fun r_1 H locs w_2 hP hS => ?_)
  obtain ⟨z_3, rfl, h_4⟩ := w_2
  refine xr_if_ne (tgt := 13) hx hb dX12_plate_8 (by decide) (by omega) (fun h_5 => ?_) (fun h_5 => ?_)
  · refine lv_aload_n hx hb dX12_plate_13 rfl (lv_at hl 0 rfl) ?_
    refine lv_iconst (v := iI 2) hx hb dX12_plate_14 rfl ?_
    refine lv_iload_n hx hb dX12_plate_15 rfl (lv_at hl 1 rfl) ?_
    refine lv_iload_n hx hb dX12_plate_16 rfl (lv_at hl 2 rfl) ?_
    refine lv_iload_n hx hb dX12_plate_17 rfl (lv_at hl 3 rfl) ?_
    refine jcg_q (va_runV (As := [.int (iI 2), .int (iI p1), .int (iI p2), .int (iI p3)]) (rest := []) ⟨hx, hb, hml, hown, hts⟩ (sX12_newEntry l dC dI _ L cid K N tW sK sV v p0 2 p1 p2 p3 hI q0 (by omega) (by omega) (by omega) (by omega)) (cwV 4 hts (jgoodV m_1351 m_1352 m_1353 m_873 m_1354) rfl rfl rfl (by decide +kernel) ⟨(Nat.le_of_ble_eq_true rfl), (Nat.le_of_ble_eq_true rfl)⟩) ⟨xP_blind, xrecv hK hP q0 rfl rfl, fun U hU hW => ⟨rfl, xP_of hU hW hP hK hD hX hS (fun _ h => h) hA⟩⟩ rfl rfl hl.1 rfl (lv_room (Nat.le_of_ble_eq_true rfl)) dX12_plate_18 ⟨(Nat.le_of_ble_eq_true rfl), (Nat.le_of_ble_eq_true rfl)⟩) hD hS hA (fun r_6 u_10 H locs w_7 hP hK hD hS => ?_)
    refine W.widen (k := 2) (n := 30) (Nat.le_of_ble_eq_true rfl) (Nat.le_of_ble_eq_true rfl) ?_
    obtain ⟨L_11, K_12, N_13, v_14⟩ := u_10
    obtain ⟨z_8, rfl, I_16, E_17, f_15, h_9⟩ := w_7
    have hP : va_P (dC, dI) vwCl (xG L_11 cid K_12 N_13 v_14) H := hP
    have hD : va_D A (xG L_11 cid K_12 N_13 v_14) := hD
    have I_16 : xI L_11 K_12 N_13 v_14 := I_16
    have E_17 : xE L K N L_11 K_12 N_13 := E_17
    have f_15 : frE L K [(0, 3), (0, 4), (0, 5), (0, 6), (6, 1), (6, 2), (6, 3), (6, 4), (6, 5), (12, 7), (34, (-1)), (36, (-1)), (65, (-1)), (99, 0)] v_14 v := f_15
    have F_19 := frE_frE (W := [(0, 3), (0, 4), (0, 5), (0, 6), (6, 1), (6, 2), (6, 3), (6, 4), (6, 5), (12, 7), (34, (-1)), (36, (-1)), (65, (-1)), (99, 0)]) hE0 f_15 rfl hF0
    have E_18 := xE_tr hE0 E_17
    have h_20 := xE_ok E_17 q0
    refine jt_q (rv z_8) rfl ?_
    refine xq_astore (i := 6) (lv' := [(6, rv z_8), (0, .ref p0.toNat), (1, .int (iI p1)), (2, .int (iI p2)), (3, .int (iI p3)), (4, .int (iI p4)), (5, .int (iI p5))]) hx hb dX12_plate_21 hl (by decide) rfl (fun ls hl => ?_)
    refine xq_aload hx hb dX12_plate_23 (lv_at hl 0 rfl) ?_
    refine xq_ifnonnull (tgt := 32) hx hb dX12_plate_25 (by decide) (fun h_21 => ?_) (fun h_21 => ?_)
    · have h_22 : ok L_11 K_12 z_8 0 := h_9.resolve_left (by omega)
      refine xq_aload hx hb dX12_plate_32 (lv_at hl 0 rfl) ?_
      refine jt_q (.ref z_8.toNat) (rv_ref (h_22).1) ?_
      have h_23 : (-2147483648) ≤ v_14 z_8 0 ∧ v_14 z_8 0 ≤ 2147483647 := xf_0_0 I_16 h_22
      refine gx_RX12_186 (y := v_14 z_8 0) hx hb hj hown hK hP h_22 rfl dX12_plate_34 ?_
      rw [← hQ]
      exact W.iret (v := iI (v_14 z_8 0)) hx hb hr (fun t ht hW => ⟨⟨iI (v_14 z_8 0), (L_11, K_12, N_13, v_14), rfl, ⟨v_14 z_8 0, rfl, I_16, E_18, F_19, by omega⟩, by rw [ht]; exact hP, va_K.moved hW.alike hK, hD⟩, hS.F ht⟩) hS.2.2 dX12_plate_37
    · refine lv_iconst (v := iI (-1)) hx hb dX12_plate_28 rfl ?_
      refine lv_goto (tgt := 37) hx hb dX12_plate_29 (by decide) ?_
      rw [← hQ]
      exact W.iret (v := iI (-1)) hx hb hr (fun t ht hW => ⟨⟨iI (-1), (L_11, K_12, N_13, v_14), rfl, ⟨(-1), rfl, I_16, E_18, F_19, by omega⟩, by rw [ht]; exact hP, va_K.moved hW.alike hK, hD⟩, hS.F ht⟩) hS.2.2 dX12_plate_37
  · refine lv_iconst (v := iI (-1)) hx hb dX12_plate_11 rfl ?_
    refine W.widen (k := 2) (n := 30) (Nat.le_of_ble_eq_true rfl) (Nat.le_of_ble_eq_true rfl) ?_
    rw [← hQ]
    exact W.iret (v := iI (-1)) hx hb hr (fun t ht hW => ⟨⟨iI (-1), (L, K, N, v), rfl, ⟨(-1), rfl, hI, hE0, hF0, by omega⟩, by rw [ht]; exact hP, va_K.moved hW.alike hK, hD⟩, hS.F ht⟩) hS.2.2 dX12_plate_12
set_option maxHeartbeats 2000000 in
set_option maxRecDepth 100000 in
theorem sX12_hand (l : Launch) (dC : Nat → ClassId) (dI : Nat → Nat → Nat) (sz : Nat) (L : List Nat) (cid : Nat → ClassId) (K : Int → Nat) (N : Int → Int) (tW : Nat) (sK sV : Nat → Nat) (v : Int → Int → Int) (p0 : Int) (p1 : Int) (p2 : Int) (p3 : Int) (hI : xI L K N v) (q0 : ok L K p0 12) (q1 : rg p1) (q2 : rg p2) (q3 : rg p3) : Met l yX12_hand (jk yX12_hand cX12_hand 5 (some .int)) ({ frames := 2, cells := 1, slots := 6, locals := 63 }) (va_Pc [.ref p0.toNat, .int (iI p1), .int (iI p2), .int (iI p3)] (xP (dC, dI) (xG L cid K N v) (xT cid) tW sK sV sz)) (va_Qi (fun (r : Int32) (u : (List Nat × (Int → Nat) × (Int → Int) × (Int → Int → Int))) => ∃ z : Int, r = iI z ∧ (xI u.1 u.2.1 u.2.2.1 u.2.2.2) ∧ (xE L K N u.1 u.2.1 u.2.2.1) ∧ (frE L K [(12, 11), (38, (-1)), (99, 0)] u.2.2.2 v) ∧ (rg z) ∧ ((z = -1 ∧ u.2.2.2 p0 11 = v p0 11 ∧ ((p1 < 1 ∨ 255 < p1 ∨ p2 < 1 ∨ 20 < p2 ∨ p3 < (-40000) ∨ 0 < p3) ∨ 12 ≤ v p0 11)) ∨ (z = v p0 11 ∧ u.2.2.2 p0 11 = v p0 11 + 1 ∧ 1 ≤ p1 ∧ p1 ≤ 255 ∧ 1 ≤ p2 ∧ p2 ≤ 20 ∧ (-40000) ≤ p3 ∧ p3 ≤ 0 ∧ v p0 11 < 12)) ∧ (z = -1 → ∀ i, u.2.2.2 (v p0 10) i = v (v p0 10) i) ∧ (z ≠ -1 → hNewP L K v u.2.2.2 (v p0 10) (v p0 11))) (fun u t => va_P (dC, dI) vwCl (xG u.1 cid u.2.1 u.2.2.1 u.2.2.2) t.heap ∧ va_K (dC, dI) vwCl (xT cid) t ∧ va_D (va_A (xG L cid K N v) sz) (xG u.1 cid u.2.1 u.2.2.1 u.2.2.2)) (va_A (xG L cid K N v) sz)) 1 6 (va_A (xG L cid K N v) sz) := by
  refine Met.ofW (cc := cX12_hand) (maxL := 5) (ret := (some .int)) (by decide) rfl ?_
  intro p e s m args below meth c s₁ B hml hv
  obtain ⟨rfl, ⟨hsz, hP, hK, hD0⟩, hX⟩ := hv
  have hx := B.exec
  have hb := B.bytes
  have hr := B.returns
  have hts := atoms_spec (ws := (jk yX12_hand cX12_hand 5 (some .int))) B.pre
  have hj : ∀ w ∈ jw, w.before ([.ref p0.toNat, .int (iI p1), .int (iI p2), .int (iI p3)] : List Value).toArray s = true := fun w h => hts w (jm h)
  have hown : s.vm.findClass RX12 = some m.cls := findClass_of_methodNamed B.named
  subst hsz
  have hD := hD0.self (sz := s.heap.size)
  generalize hAe : (va_A (xG L cid K N v) s.heap.size) = A at hD hX ⊢
  have hA : ∀ q : Nat, s.heap.size ≤ q → A q := fun q h => by rw [← hAe]; exact Or.inr h
  have hS : va_S A s.heap s.heap [] := va_S.rf
  have hE0 : xE L K N L K N := xE_rf
  have hF0 : frE L K [(12, 11), (38, (-1)), (99, 0)] v v := frE_rf
  have hXa := hX
  have hP : va_P (dC, dI) vwCl (xG L cid K N v) s.heap := hP
  have hl := lv_entry ([.ref p0.toNat, .int (iI p1), .int (iI p2), .int (iI p3)]) (n := 5) (Nat.le_of_ble_eq_true rfl)
  rw [lg_entry_eq]
  generalize (lg_sl ([.ref p0.toNat, .int (iI p1), .int (iI p2), .int (iI p3)]) ++ List.replicate (5 - (lg_sl ([.ref p0.toNat, .int (iI p1), .int (iI p2), .int (iI p3)])).length) Slot.unset).toArray = ls at hl ⊢
  have hl : lv_has ls 5 [(0, .ref p0.toNat), (1, .int (iI p1)), (2, .int (iI p2)), (3, .int (iI p3))] := hl
  generalize hQ : MQ below (va_Qi (fun (r : Int32) (u : (List Nat × (Int → Nat) × (Int → Int) × (Int → Int → Int))) => ∃ z : Int, r = iI z ∧ (xI u.1 u.2.1 u.2.2.1 u.2.2.2) ∧ (xE L K N u.1 u.2.1 u.2.2.1) ∧ (frE L K [(12, 11), (38, (-1)), (99, 0)] u.2.2.2 v) ∧ (rg z) ∧ ((z = -1 ∧ u.2.2.2 p0 11 = v p0 11 ∧ ((p1 < 1 ∨ 255 < p1 ∨ p2 < 1 ∨ 20 < p2 ∨ p3 < (-40000) ∨ 0 < p3) ∨ 12 ≤ v p0 11)) ∨ (z = v p0 11 ∧ u.2.2.2 p0 11 = v p0 11 + 1 ∧ 1 ≤ p1 ∧ p1 ≤ 255 ∧ 1 ≤ p2 ∧ p2 ≤ 20 ∧ (-40000) ≤ p3 ∧ p3 ≤ 0 ∧ v p0 11 < 12)) ∧ (z = -1 → ∀ i, u.2.2.2 (v p0 10) i = v (v p0 10) i) ∧ (z ≠ -1 → hNewP L K v u.2.2.2 (v p0 10) (v p0 11))) (fun u t => va_P (dC, dI) vwCl (xG u.1 cid u.2.1 u.2.2.1 u.2.2.2) t.heap ∧ va_K (dC, dI) vwCl (xT cid) t ∧ va_D A (xG u.1 cid u.2.1 u.2.2.1 u.2.2.2)) A) ([.ref p0.toNat, .int (iI p1), .int (iI p2), .int (iI p3)] : List Value).toArray s 1 6 A = Q
  suffices ST : ∀ (H : Heap) (locs : List Loc), va_P (dC, dI) vwCl (xG L cid K N v) H → va_S A s.heap H locs → W p l e ({ frames := 2, cells := 1, slots := 6, locals := 63 }) s m ([.ref p0.toNat, .int (iI p1), .int (iI p2), .int (iI p3)] : List Value).toArray below meth c H locs 0 0 Q (F0 m 0 ls []) from ST _ _ hP hS
  clear hP hS
  intro H locs hP hS
  refine lv_iload_n hx hb dX12_hand_0 rfl (lv_at hl 1 rfl) ?_
  refine lv_iconst (v := iI 1) hx hb dX12_hand_1 rfl ?_
  have J39 : ∀ (s0_39 : Int) (H : Heap) (locs : List Loc) (ls : Array Slot), (0 ≤ s0_39 ∧ s0_39 ≤ 1) → ((s0_39 = 1 ∧ 1 ≤ p1 ∧ p1 ≤ 255 ∧ 1 ≤ p2 ∧ p2 ≤ 20 ∧ (-40000) ≤ p3 ∧ p3 ≤ 0) ∨ (s0_39 = 0 ∧ (p1 < 1 ∨ 255 < p1 ∨ p2 < 1 ∨ 20 < p2 ∨ p3 < (-40000) ∨ 0 < p3))) → va_P (dC, dI) vwCl (xG L cid K N v) H → va_D A (xG L cid K N v) → va_S A s.heap H locs → lv_has ls 5 [(0, .ref p0.toNat), (1, .int (iI p1)), (2, .int (iI p2)), (3, .int (iI p3))] → W p l e ({ frames := 2, cells := 1, slots := 6, locals := 63 }) s m ([.ref p0.toNat, .int (iI p1), .int (iI p2), .int (iI p3)] : List Value).toArray below meth c H locs 0 0 Q (F0 m 39 ls [.int (iI s0_39)]) := by
    intro s0_39 H locs ls h_1 h_2 hP hD hS hl
    refine lv_istore (i := 4) (lv' := [(4, .int (iI s0_39)), (0, .ref p0.toNat), (1, .int (iI p1)), (2, .int (iI p2)), (3, .int (iI p3))]) hx hb dX12_hand_39 hl (by decide) rfl (fun ls hl => ?_)
    refine lv_iload hx hb dX12_hand_41 (lv_at hl 0 rfl) ?_
    refine xr_if_eq (tgt := 55) hx hb dX12_hand_43 (by decide) (by omega) (fun h_3 => ?_) (fun h_3 => ?_)
    · refine lv_iconst (v := iI (-1)) hx hb dX12_hand_55 rfl ?_
      refine W.widen (k := 1) (n := 6) (Nat.le_of_ble_eq_true rfl) (Nat.le_of_ble_eq_true rfl) ?_
      have h_4 : 0 ≤ v p0 11 ∧ v p0 11 ≤ 12 := xf_12_11 hI q0
      rw [← hQ]
      exact W.iret (v := iI (-1)) hx hb hr (fun t ht hW => ⟨⟨iI (-1), (L, K, N, v), rfl, ⟨(-1), rfl, hI, hE0, hF0, by omega, by (try dsimp only); omega, by intro hz9; first | (exfalso; omega) | exact fun _ => rfl, by intro hz9; first | (exfalso; omega) | (have oH9 := xf_12_10 hI q0; have nq9 : ∀ y k, ok L K y k → y ≠ _ := (fun y k hy e9 => _ (e9 ▸ hy.2.1)); unfold hNewP; exact ⟨_, (_).1, nq9, by show v _ 4 = 0; rw [vu_of _ _, vu_ne _ (fun c => nq9 _ _ q0 c.1.symm), vu_of _ _, vu_ne _ (fun c => nq9 _ _ oH9 c.1.symm), _]; (first | done | rfl), fun i => by show v (v p0 10) i = _; rw [vu_of _ _, vu_ne _ (fun c => ok_ne q0 oH9 (by decide) c.1.symm), vu_of _ _]; by_cases c : i = v p0 11; (rw [if_pos c, c, vu_self]); (rw [if_neg c, vu_ne _ (fun d => c d.2)]; exact frE_use (W := []) oH9 (_ []) rfl)⟩)⟩, by rw [ht]; exact hP, va_K.moved hW.alike hK, hD⟩, hS.F ht⟩) hS.2.2 dX12_hand_56
    · refine lv_aload_n hx hb dX12_hand_46 rfl (lv_at hl 1 rfl) ?_
      have h_5 : 0 ≤ v p0 11 ∧ v p0 11 ≤ 12 := xf_12_11 hI q0
      refine gx_RX12_292 (y := v p0 11) hx hb hj hown hK hP q0 rfl dX12_hand_47 ?_
      refine lv_bipush (v := iI 12) hx hb dX12_hand_50 rfl ?_
      refine xr_icmp_lt (tgt := 57) hx hb dX12_hand_52 (by decide) (by omega) (by omega) (fun h_6 => ?_) (fun h_6 => ?_)
      · refine lv_aload_n hx hb dX12_hand_57 rfl (lv_at hl 1 rfl) ?_
        have h_7 : ok L K (v p0 10) 38 := xf_12_10 hI q0
        have h_8 : N (v p0 10) = 12 := xn_38 hI h_7
        refine gx_RX12_53 (y := v p0 10) hx hb hj hown hK hP q0 ((xf_12_10 hI q0).1) rfl dX12_hand_58 ?_
        refine lv_aload_n hx hb dX12_hand_61 rfl (lv_at hl 1 rfl) ?_
        refine gx_RX12_292 (y := v p0 11) hx hb hj hown hK hP q0 rfl dX12_hand_62 ?_
        refine va_new (ci := 2) (fs := [.int 0, .int 0, .int 0, .int 0, .int 0, .int 0]) (C := RX2) (T := TX2) (N := 6) hx hb hts (jh hin_RX2) tyX2 tyX2_ok hown (hts (.classLink RX12 51 RX2) (jm m_1359)) (hts (.instantiable RX2 6) (jm m_1360)) (hts (.initialized RX2) (jm m_1361)) hK hP hD hS hA rfl jd_RX2 (Nat.le_of_ble_eq_true rfl) (Nat.le_of_ble_eq_true rfl) dX12_hand_65 (fun q_9 H hPn hDn hS => ?_)
        refine W.widen (k := 1) (n := 6) (Nat.le_of_ble_eq_true rfl) (Nat.le_of_ble_eq_true rfl) ?_
        have hP := jp_init hPn
        have hD := jd_init hDn
        refine lv_dup hx hb dX12_hand_68 rfl ?_
        refine lv_iload_n hx hb dX12_hand_69 rfl (lv_at hl 2 rfl) ?_
        refine lv_iload_n hx hb dX12_hand_70 rfl (lv_at hl 3 rfl) ?_
        refine lv_iload_n hx hb dX12_hand_71 rfl (lv_at hl 4 rfl) ?_
        refine jci_v (va_runI (As := [.int (iI p1), .int (iI p2), .int (iI p3)]) (rest := [.ref q_9, .int (iI (v p0 11)), .ref (v p0 10).toNat]) ⟨hx, hb, hml, hown, hts⟩ (iX2_init_1 l dC dI _ q_9 (iI p1) (iI p2) (iI p3)) (cwI 3 hts (jgoodI m_1367) rfl rfl rfl (hts (.initialized RX2) (jm m_1361)) (hts (.methodLink RX12 295 yX2_init) (jm m_1368)) (hts (.instanceMethod yX2_init) (jm m_1369)) rfl (by decide +kernel) ⟨(Nat.le_of_ble_eq_true rfl), (Nat.le_of_ble_eq_true rfl)⟩) ⟨jw_blind, fun U hU hW => ⟨rfl, jw_of hU hW (jp_last hPn) (hK.sub [] rfl) (jd_last hDn)⟩⟩ rfl rfl hl.1 rfl (lv_room (Nat.le_of_ble_eq_true rfl)) dX12_hand_72 ⟨(Nat.le_of_ble_eq_true rfl), (Nat.le_of_ble_eq_true rfl)⟩) hPn hDn hS hA (fun u_10 H locs hPn hK2 hDn hS => ?_)
        refine W.widen (k := 1) (n := 6) (Nat.le_of_ble_eq_true rfl) (Nat.le_of_ble_eq_true rfl) ?_
        obtain ⟨z_11, L_12, K_13, N_14, v_15, hz9, E_16, h_17, q_18, h_19, h_20, f_21, I_22, hP9, hD9⟩ := xnew_2 hI hPn hDn ⟨by omega, by omega⟩ ⟨by omega, by omega⟩ ⟨by omega, by omega⟩
        subst hz9
        have hP := hP9
        have hD := hD9
        have F_24 := frE_frE (W := [(12, 11), (38, (-1)), (99, 0)]) hE0 (f_21 []) rfl hF0
        have E_23 := xE_tr hE0 E_16
        have h_25 := xE_ok E_16 q0
        have h_26 := xE_ok E_16 h_7
        have h_27 : N_14 (v p0 10) = 12 := xn_38 I_22 h_26
        refine sx_38 (y := z_11) hx hb hK hP hD hS I_22 h_26 (by omega) (by omega) (by omega) h_17 dX12_hand_75 (fun v_28 H locs f_29 e_30 o_31 I_32 hP hD hS => ?_)
        refine lv_aload_n hx hb dX12_hand_76 rfl (lv_at hl 1 rfl) ?_
        refine lv_dup hx hb dX12_hand_77 rfl ?_
        refine gx_RX12_292 (y := v p0 11) hx hb hj hown hK hP h_25 (((fr_use h_25 f_29 rfl)).trans (frE_use q0 (f_21 []) rfl)) dX12_hand_78 ?_
        refine lv_iconst (v := iI 1) hx hb dX12_hand_81 rfl ?_
        refine xr_add hx hb dX12_hand_82 ?_
        refine px_RX12_292 (y := (v p0 11) + 1) hx hb hj hown hK hP hD hS I_32 h_25 ⟨by omega, by omega⟩ dX12_hand_83 (fun v_33 H locs f_34 e_35 o_36 I_37 hP hD hS => ?_)
        refine lv_aload_n hx hb dX12_hand_86 rfl (lv_at hl 1 rfl) ?_
        refine gx_RX12_292 (y := (v p0 11) + 1) hx hb hj hown hK hP h_25 e_35 dX12_hand_87 ?_
        refine lv_iconst (v := iI 1) hx hb dX12_hand_90 rfl ?_
        refine xr_sub hx hb dX12_hand_91 ?_
        have F_38 := frE_fr (W := [(12, 11), (38, (-1)), (99, 0)]) (W1 := [(12, 11), (38, (-1)), (99, 0)]) E_23 (fr_tr f_34 rfl (fr_tr f_29 rfl fr_rf)) rfl F_24
        have b_39 : v_33 p0 11 = (v p0 11) + 1 := e_35
        rw [← hQ]
        exact W.iret (v := iI (((v p0 11) + 1) - 1)) hx hb hr (fun t ht hW => ⟨⟨iI (((v p0 11) + 1) - 1), (L_12, K_13, N_14, v_33), rfl, ⟨((v p0 11) + 1) - 1, rfl, I_37, E_23, F_38, by omega, by (try dsimp only); omega, by intro hz9; first | (exfalso; omega) | exact fun _ => rfl, by intro hz9; first | (exfalso; omega) | (have oH9 := xf_12_10 hI q0; have nq9 : ∀ y k, ok L K y k → y ≠ z_11 := (fun y k hy e9 => q_18 (e9 ▸ hy.2.1)); unfold hNewP; exact ⟨z_11, (h_17).1, nq9, by show v_33 z_11 4 = 0; rw [vu_of e_35 o_36, vu_ne _ (fun c => nq9 _ _ q0 c.1.symm), vu_of e_30 o_31, vu_ne _ (fun c => nq9 _ _ oH9 c.1.symm), h_20]; (first | done | rfl), fun i => by show v_33 (v p0 10) i = _; rw [vu_of e_35 o_36, vu_ne _ (fun c => ok_ne q0 oH9 (by decide) c.1.symm), vu_of e_30 o_31]; by_cases c : i = v p0 11; (rw [if_pos c, c, vu_self]); (rw [if_neg c, vu_ne _ (fun d => c d.2)]; exact frE_use (W := []) oH9 (f_21 []) rfl)⟩)⟩, by rw [ht]; exact hP, va_K.moved hW.alike hK, hD⟩, hS.F ht⟩) hS.2.2 dX12_hand_92
      · refine lv_iconst (v := iI (-1)) hx hb dX12_hand_55 rfl ?_
        refine W.widen (k := 1) (n := 6) (Nat.le_of_ble_eq_true rfl) (Nat.le_of_ble_eq_true rfl) ?_
        rw [← hQ]
        exact W.iret (v := iI (-1)) hx hb hr (fun t ht hW => ⟨⟨iI (-1), (L, K, N, v), rfl, ⟨(-1), rfl, hI, hE0, hF0, by omega, by (try dsimp only); omega, by intro hz9; first | (exfalso; omega) | exact fun _ => rfl, by intro hz9; first | (exfalso; omega) | (have oH9 := xf_12_10 hI q0; have nq9 : ∀ y k, ok L K y k → y ≠ _ := (fun y k hy e9 => _ (e9 ▸ hy.2.1)); unfold hNewP; exact ⟨_, (_).1, nq9, by show v _ 4 = 0; rw [vu_of _ _, vu_ne _ (fun c => nq9 _ _ q0 c.1.symm), vu_of _ _, vu_ne _ (fun c => nq9 _ _ oH9 c.1.symm), _]; (first | done | rfl), fun i => by show v (v p0 10) i = _; rw [vu_of _ _, vu_ne _ (fun c => ok_ne q0 oH9 (by decide) c.1.symm), vu_of _ _]; by_cases c : i = v p0 11; (rw [if_pos c, c, vu_self]); (rw [if_neg c, vu_ne _ (fun d => c d.2)]; exact frE_use (W := []) oH9 (_ []) rfl)⟩)⟩, by rw [ht]; exact hP, va_K.moved hW.alike hK, hD⟩, hS.F ht⟩) hS.2.2 dX12_hand_56
  have J38 : ∀ (H : Heap) (locs : List Loc) (ls : Array Slot), ((p1 < 1 ∨ 255 < p1 ∨ p2 < 1 ∨ 20 < p2 ∨ p3 < (-40000) ∨ 0 < p3)) → va_P (dC, dI) vwCl (xG L cid K N v) H → va_D A (xG L cid K N v) → va_S A s.heap H locs → lv_has ls 5 [(0, .ref p0.toNat), (1, .int (iI p1)), (2, .int (iI p2)), (3, .int (iI p3))] → W p l e ({ frames := 2, cells := 1, slots := 6, locals := 63 }) s m ([.ref p0.toNat, .int (iI p1), .int (iI p2), .int (iI p3)] : List Value).toArray below meth c H locs 0 0 Q (F0 m 38 ls []) := by
    intro H locs ls h_40 hP hD hS hl
    refine lv_iconst (v := iI 0) hx hb dX12_hand_38 rfl ?_
    exact J39 0 H locs ls (by omega) (by omega) hP hD hS hl
  refine xr_icmp_lt (tgt := 38) hx hb dX12_hand_2 (by decide) (by omega) (by omega) (fun h_41 => ?_) (fun h_41 => ?_)
  · exact J38 H locs ls (by omega) hP hD hS hl
  · refine lv_iload_n hx hb dX12_hand_5 rfl (lv_at hl 1 rfl) ?_
    refine lv_sipush (v := iI 255) hx hb dX12_hand_6 rfl ?_
    refine xr_icmp_gt (tgt := 38) hx hb dX12_hand_9 (by decide) (by omega) (by omega) (fun h_42 => ?_) (fun h_42 => ?_)
    · exact J38 H locs ls (by omega) hP hD hS hl
    · refine lv_iload_n hx hb dX12_hand_12 rfl (lv_at hl 2 rfl) ?_
      refine lv_iconst (v := iI 1) hx hb dX12_hand_13 rfl ?_
      refine xr_icmp_lt (tgt := 38) hx hb dX12_hand_14 (by decide) (by omega) (by omega) (fun h_43 => ?_) (fun h_43 => ?_)
      · exact J38 H locs ls (by omega) hP hD hS hl
      · refine lv_iload_n hx hb dX12_hand_17 rfl (lv_at hl 2 rfl) ?_
        refine lv_bipush (v := iI 20) hx hb dX12_hand_18 rfl ?_
        refine xr_icmp_gt (tgt := 38) hx hb dX12_hand_20 (by decide) (by omega) (by omega) (fun h_44 => ?_) (fun h_44 => ?_)
        · exact J38 H locs ls (by omega) hP hD hS hl
        · refine lv_iload_n hx hb dX12_hand_23 rfl (lv_at hl 3 rfl) ?_
          refine lv_ldcw hx hb hown (hts (.constant RX12 291 (-40000)) (jm m_1370)) dX12_hand_24 ?_
          refine jt_i (iI (-40000)) (by decide) ?_
          refine xr_icmp_lt (tgt := 38) hx hb dX12_hand_27 (by decide) (by omega) (by omega) (fun h_45 => ?_) (fun h_45 => ?_)
          · exact J38 H locs ls (by omega) hP hD hS hl
          · refine lv_iload_n hx hb dX12_hand_30 rfl (lv_at hl 3 rfl) ?_
            refine xr_if_gt (tgt := 38) hx hb dX12_hand_31 (by decide) (by omega) (fun h_46 => ?_) (fun h_46 => ?_)
            · exact J38 H locs ls (by omega) hP hD hS hl
            · refine lv_iconst (v := iI 1) hx hb dX12_hand_34 rfl ?_
              refine lv_goto (tgt := 39) hx hb dX12_hand_35 (by decide) ?_
              exact J39 1 H locs ls (by omega) (by omega) hP hD hS hl
