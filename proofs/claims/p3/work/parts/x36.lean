set_option maxHeartbeats 2000000 in
set_option maxRecDepth 100000 in
theorem sX7_scan (l : Launch) (dC : Nat → ClassId) (dI : Nat → Nat → Nat) (sz : Nat) (L : List Nat) (cid : Nat → ClassId) (K : Int → Nat) (N : Int → Int) (tW : Nat) (sK sV : Nat → Nat) (v : Int → Int → Int) (tT : Int → Int) (tN : Int) (p0 : Int) (hI : xI L K N v) (q0 : ok L K p0 7) (k1 : txt tT tN v p0) : Met l yX7_scan (jk yX7_scan cX7_scan 5 none) ({ frames := 7, cells := 0, slots := 0, locals := 157 }) (va_Pc [.ref p0.toNat] (xP (dC, dI) (xG L cid K N v) (xT cid) tW sK sV sz)) (va_Qv (fun (u : (Int → Int → Int)) => (xI L K N u) ∧ (fr K [(7, 6), (21, (-1)), (22, (-1)), (23, (-1)), (24, (-1))] u v) ∧ (tks tT tN u p0)) (fun u t => va_P (dC, dI) vwCl (xG L cid K N u) t.heap ∧ va_K (dC, dI) vwCl (xT cid) t ∧ va_D (va_A (xG L cid K N v) sz) (xG L cid K N u)) (va_A (xG L cid K N v) sz)) 0 0 (va_A (xG L cid K N v) sz) := by
  refine Met.ofW (cc := cX7_scan) (maxL := 5) (ret := none) (by decide) rfl ?_
  intro p e s m args below meth c s₁ B hml hv
  obtain ⟨rfl, ⟨hsz, hP, hK, hD0⟩, hX⟩ := hv
  have hx := B.exec
  have hb := B.bytes
  have hr := B.returns
  have hts := atoms_spec (ws := (jk yX7_scan cX7_scan 5 none)) B.pre
  have hj : ∀ w ∈ jw, w.before ([.ref p0.toNat] : List Value).toArray s = true := fun w h => hts w (jm h)
  have hown : s.vm.findClass RX7 = some m.cls := findClass_of_methodNamed B.named
  subst hsz
  have hD := hD0.self (sz := s.heap.size)
  generalize hAe : (va_A (xG L cid K N v) s.heap.size) = A at hD hX ⊢
  have hA : ∀ q : Nat, s.heap.size ≤ q → A q := fun q h => by rw [← hAe]; exact Or.inr h
  have hS : va_S A s.heap s.heap [] := va_S.rf
  have hXa := hX
  have hP : va_P (dC, dI) vwCl (xG L cid K N v) s.heap := hP
  have hl := lv_entry ([.ref p0.toNat]) (n := 5) (Nat.le_of_ble_eq_true rfl)
  rw [lg_entry_eq]
  generalize (lg_sl ([.ref p0.toNat]) ++ List.replicate (5 - (lg_sl ([.ref p0.toNat])).length) Slot.unset).toArray = ls at hl ⊢
  have hl : lv_has ls 5 [(0, .ref p0.toNat)] := hl
  generalize hQ : MQ below (va_Qv (fun (u : (Int → Int → Int)) => (xI L K N u) ∧ (fr K [(7, 6), (21, (-1)), (22, (-1)), (23, (-1)), (24, (-1))] u v) ∧ (tks tT tN u p0)) (fun u t => va_P (dC, dI) vwCl (xG L cid K N u) t.heap ∧ va_K (dC, dI) vwCl (xT cid) t ∧ va_D A (xG L cid K N u)) A) ([.ref p0.toNat] : List Value).toArray s 0 0 A = Q
  suffices ST : ∀ (H : Heap) (locs : List Loc), va_P (dC, dI) vwCl (xG L cid K N v) H → va_S A s.heap H locs → W p l e ({ frames := 7, cells := 0, slots := 0, locals := 157 }) s m ([.ref p0.toNat] : List Value).toArray below meth c H locs 0 0 Q (F0 m 0 ls []) from ST _ _ hP hS
  clear hP hS
  intro H locs hP hS
  have t1 := xf_7_1 hI q0
  have t2 : tN = v p0 1 := k1.1
  refine lv_aload_n hx hb dX7_scan_0 rfl (lv_at hl 0 rfl) ?_
  refine lv_iconst (v := iI 0) hx hb dX7_scan_1 rfl ?_
  refine px_RX7_106 (y := 0) hx hb hj hown hK hP hD hS hI q0 ⟨by omega, by omega⟩ dX7_scan_2 (fun v_1 H locs f_2 e_3 o_4 I_5 hP hD hS => ?_)
  have ti1 : tki tT tN v_1 p0 0 0 1 := tki_0 (txt_fr hI q0 (show fr K [(7, 6)] v_1 v from (fr_tr f_2 rfl fr_rf)) rfl rfl (fun _ => rfl) k1)
  refine lv_iconst (v := iI 0) hx hb dX7_scan_5 rfl ?_
  refine lv_istore_n (i := 1) (lv' := [(1, .int (iI 0)), (0, .ref p0.toNat)]) hx hb dX7_scan_6 rfl hl (by decide) rfl (fun ls hl => ?_)
  refine lv_iconst (v := iI 1) hx hb dX7_scan_7 rfl ?_
  refine lv_istore_n (i := 2) (lv' := [(2, .int (iI 1)), (1, .int (iI 0)), (0, .ref p0.toNat)]) hx hb dX7_scan_8 rfl hl (by decide) rfl (fun ls hl => ?_)
  refine lv_iconst (v := iI 0) hx hb dX7_scan_9 rfl ?_
  refine lv_istore_n (i := 3) (lv' := [(3, .int (iI 0)), (2, .int (iI 1)), (1, .int (iI 0)), (0, .ref p0.toNat)]) hx hb dX7_scan_10 rfl hl (by decide) rfl (fun ls hl => ?_)
  have L11 : ∀ (n11 : Nat) (a3_11 a2_11 a1_11 : Int) (vc11 : Int → Int → Int) (H : Heap) (locs : List Loc) (ls : Array Slot), (0 ≤ a3_11 ∧ a3_11 ≤ 2147483647) → (0 ≤ a2_11 ∧ a2_11 ≤ 255) → (0 ≤ a1_11 ∧ a1_11 ≤ 602) → (vc11 p0 6 = a3_11) → (0 ≤ a3_11 ∧ a3_11 ≤ a1_11) → (a3_11 ≤ 601) → (a2_11 = 0 ∨ a2_11 = 3 ∨ a1_11 ≤ tN) → (a3_11 ≠ 0 ∨ a2_11 = 1) → (tki tT tN vc11 p0 (a3_11) (a1_11) (a2_11)) → (0 < (n11 : Int) ∧ (v p0 1) - a3_11 + 1 < (n11 : Int)) → fr K [(7, 6), (21, (-1)), (22, (-1)), (23, (-1)), (24, (-1))] vc11 v_1 → xI L K N vc11 → va_P (dC, dI) vwCl (xG L cid K N vc11) H → va_D A (xG L cid K N vc11) → va_S A s.heap H locs → lv_has ls 5 [(3, .int (iI a3_11)), (2, .int (iI a2_11)), (1, .int (iI a1_11)), (0, .ref p0.toNat)] → W p l e ({ frames := 7, cells := 0, slots := 0, locals := 157 }) s m ([.ref p0.toNat] : List Value).toArray below meth c H locs 0 0 Q (F0 m 11 ls []) := by
    intro n11
    induction n11 with
    | zero =>
      intro a3_11 a2_11 a1_11 vc11 H locs ls h_6 h_7 h_8 h_9 h_10 h_11 h_12 h_13 h_14 hm11 f_15 I_16 hP hD hS hl
      exfalso; omega
    | succ n11 ih11 =>
      intro a3_11 a2_11 a1_11 vc11 H locs ls h_17 h_18 h_19 h_20 h_21 h_22 h_23 h_24 h_25 hm11 f_26 I_27 hP hD hS hl
      refine lv_iload_n hx hb dX7_scan_11 rfl (lv_at hl 0 rfl) ?_
      refine lv_aload_n hx hb dX7_scan_12 rfl (lv_at hl 3 rfl) ?_
      have h_28 : 0 ≤ v p0 1 ∧ v p0 1 ≤ 600 := xf_7_1 hI q0
      refine gx_RX7_43 (y := v p0 1) hx hb hj hown hK hP q0 (((fr_use q0 f_26 rfl)).trans (fr_use q0 f_2 rfl)) dX7_scan_13 ?_
      refine xr_icmp_gt (tgt := 93) hx hb dX7_scan_16 (by decide) (by omega) (by omega) (fun h_29 => ?_) (fun h_29 => ?_)
      · rw [← hQ]
        exact W.vret hx hb hr (fun t ht hW => ⟨⟨vc11, rfl, ⟨I_27, (fr_tr f_26 rfl (fr_tr f_2 rfl fr_rf)), by exact tki_e (show tki tT tN vc11 p0 (a3_11) (a1_11) (a2_11) by assumption) (by omega) (by omega) (by omega) (by omega)⟩, by rw [ht]; exact hP, va_K.moved hW.alike hK, hD⟩, hS.F ht⟩) hS.2.2 dX7_scan_93
      · refine lv_iload_n hx hb dX7_scan_19 rfl (lv_at hl 1 rfl) ?_
        refine xr_if_eq (tgt := 93) hx hb dX7_scan_20 (by decide) (by omega) (fun h_30 => ?_) (fun h_30 => ?_)
        · rw [← hQ]
          exact W.vret hx hb hr (fun t ht hW => ⟨⟨vc11, rfl, ⟨I_27, (fr_tr f_26 rfl (fr_tr f_2 rfl fr_rf)), by exact tki_e (show tki tT tN vc11 p0 (a3_11) (a1_11) (a2_11) by assumption) (by omega) (by omega) (by omega) (by omega)⟩, by rw [ht]; exact hP, va_K.moved hW.alike hK, hD⟩, hS.F ht⟩) hS.2.2 dX7_scan_93
        · refine lv_iload_n hx hb dX7_scan_23 rfl (lv_at hl 1 rfl) ?_
          refine lv_iconst (v := iI 3) hx hb dX7_scan_24 rfl ?_
          refine xr_icmp_eq (tgt := 93) hx hb dX7_scan_25 (by decide) (by omega) (by omega) (fun h_31 => ?_) (fun h_31 => ?_)
          · rw [← hQ]
            exact W.vret hx hb hr (fun t ht hW => ⟨⟨vc11, rfl, ⟨I_27, (fr_tr f_26 rfl (fr_tr f_2 rfl fr_rf)), by exact tki_e (show tki tT tN vc11 p0 (a3_11) (a1_11) (a2_11) by assumption) (by omega) (by omega) (by omega) (by omega)⟩, by rw [ht]; exact hP, va_K.moved hW.alike hK, hD⟩, hS.F ht⟩) hS.2.2 dX7_scan_93
          · have L28 : ∀ (n28 : Nat) (a1_28 : Int) (H : Heap) (locs : List Loc) (ls : Array Slot), (0 ≤ a1_28 ∧ a1_28 ≤ 602) → (a3_11 ≤ a1_28 ∧ a1_28 ≤ tN) → (scn (bB tT) tN (a1_28) = tkx tT tN a3_11) → (0 < (n28 : Int) ∧ (v p0 1) - a1_28 < (n28 : Int)) → va_P (dC, dI) vwCl (xG L cid K N vc11) H → va_D A (xG L cid K N vc11) → va_S A s.heap H locs → lv_has ls 5 [(3, .int (iI a3_11)), (2, .int (iI a2_11)), (1, .int (iI a1_28)), (0, .ref p0.toNat)] → W p l e ({ frames := 7, cells := 0, slots := 0, locals := 157 }) s m ([.ref p0.toNat] : List Value).toArray below meth c H locs 0 0 Q (F0 m 28 ls []) := by
              intro n28
              induction n28 with
              | zero =>
                intro a1_28 H locs ls h_32 h_33 h_34 hm28 hP hD hS hl
                exfalso; omega
              | succ n28 ih28 =>
                intro a1_28 H locs ls h_35 h_36 h_37 hm28 hP hD hS hl
                refine lv_iload_n hx hb dX7_scan_28 rfl (lv_at hl 2 rfl) ?_
                refine lv_aload_n hx hb dX7_scan_29 rfl (lv_at hl 3 rfl) ?_
                refine gx_RX7_43 (y := v p0 1) hx hb hj hown hK hP q0 (((fr_use q0 f_26 rfl)).trans (fr_use q0 f_2 rfl)) dX7_scan_30 ?_
                have J62 : ∀ (H : Heap) (locs : List Loc) (ls : Array Slot), (a3_11 ≤ a1_28 ∧ a1_28 ≤ tN) → (a1_28 = tkx tT tN a3_11) → va_P (dC, dI) vwCl (xG L cid K N vc11) H → va_D A (xG L cid K N vc11) → va_S A s.heap H locs → lv_has ls 5 [(3, .int (iI a3_11)), (2, .int (iI a2_11)), (1, .int (iI a1_28)), (0, .ref p0.toNat)] → W p l e ({ frames := 7, cells := 0, slots := 0, locals := 157 }) s m ([.ref p0.toNat] : List Value).toArray below meth c H locs 0 0 Q (F0 m 62 ls []) := by
                  intro H locs ls h_38 h_39 hP hD hS hl
                  refine lv_aload_n hx hb dX7_scan_62 rfl (lv_at hl 3 rfl) ?_
                  refine lv_iload_n hx hb dX7_scan_63 rfl (lv_at hl 2 rfl) ?_
                  refine jc_i (va_runV (As := [.int (iI a1_28)]) (rest := []) ⟨hx, hb, hml, hown, hts⟩ (sX7_kindAt l dC dI _ L cid K N tW sK sV vc11 tT tN p0 a1_28 I_27 q0 (by omega) (txt_fr hI q0 (show fr K [(7, 6), (21, (-1)), (22, (-1)), (23, (-1)), (24, (-1))] vc11 v from (fr_tr f_26 rfl (fr_tr f_2 rfl fr_rf))) rfl rfl (fun _ => rfl) k1) (by omega)) (cwV 1 hts (jgoodV m_824 m_825 m_826 m_677 m_827) rfl rfl rfl (by decide +kernel) ⟨(Nat.le_of_ble_eq_true rfl), (Nat.le_of_ble_eq_true rfl)⟩) ⟨xP_blind, xrecv hK hP q0 rfl rfl, fun U hU hW => ⟨rfl, xP_of hU hW hP hK hD hX hS (fun _ h => h) hA⟩⟩ rfl rfl hl.1 rfl (lv_room (Nat.le_of_ble_eq_true rfl)) dX7_scan_64 ⟨(Nat.le_of_ble_eq_true rfl), (Nat.le_of_ble_eq_true rfl)⟩) hP hS hA (fun r_40 H locs w_41 hP hS => ?_)
                  obtain ⟨z_42, rfl, h_43, h_44⟩ := w_41
                  refine lv_istore_n (i := 2) (lv' := [(2, .int (iI z_42)), (3, .int (iI a3_11)), (1, .int (iI a1_28)), (0, .ref p0.toNat)]) hx hb dX7_scan_67 rfl hl (by decide) rfl (fun ls hl => ?_)
                  refine lv_aload_n hx hb dX7_scan_68 rfl (lv_at hl 3 rfl) ?_
                  refine lv_iload_n hx hb dX7_scan_69 rfl (lv_at hl 2 rfl) ?_
                  refine lv_iload_n hx hb dX7_scan_70 rfl (lv_at hl 0 rfl) ?_
                  refine jc_i (va_runV (As := [.int (iI a1_28), .int (iI z_42)]) (rest := []) ⟨hx, hb, hml, hown, hts⟩ (sX7_stopAt l dC dI _ L cid K N tW sK sV vc11 tT tN p0 a1_28 z_42 I_27 q0 (by omega) (by omega) (txt_fr hI q0 (show fr K [(7, 6), (21, (-1)), (22, (-1)), (23, (-1)), (24, (-1))] vc11 v from (fr_tr f_26 rfl (fr_tr f_2 rfl fr_rf))) rfl rfl (fun _ => rfl) k1) (by omega)) (cwV 2 hts (jgoodV m_828 m_829 m_830 m_677 m_831) rfl rfl rfl (by decide +kernel) ⟨(Nat.le_of_ble_eq_true rfl), (Nat.le_of_ble_eq_true rfl)⟩) ⟨xP_blind, xrecv hK hP q0 rfl rfl, fun U hU hW => ⟨rfl, xP_of hU hW hP hK hD hX hS (fun _ h => h) hA⟩⟩ rfl rfl hl.1 rfl (lv_room (Nat.le_of_ble_eq_true rfl)) dX7_scan_71 ⟨(Nat.le_of_ble_eq_true rfl), (Nat.le_of_ble_eq_true rfl)⟩) hP hS hA (fun r_45 H locs w_46 hP hS => ?_)
                  obtain ⟨z_47, rfl, h_48, h_49, h_50⟩ := w_46
                  refine lv_istore (i := 4) (lv' := [(4, .int (iI z_47)), (2, .int (iI z_42)), (3, .int (iI a3_11)), (1, .int (iI a1_28)), (0, .ref p0.toNat)]) hx hb dX7_scan_74 hl (by decide) rfl (fun ls hl => ?_)
                  have t3 := ten_d tT tN a1_28
                  have t4 := tkd_lt (T := tT) (n := tN) (s := a1_28)
                  have t5 : tkd tT tN a1_28 = 0 ∨ a1_28 < tN := by by_cases q : tkd tT tN a1_28 = 0; exact Or.inl q; exact Or.inr (t4 q)
                  clear t4
                  have t6 : tkd tT tN a1_28 ≠ 0 ∨ ten tT tN a1_28 = a1_28 + 1 := by by_cases q : tkd tT tN a1_28 = 0; exact Or.inr (ten_o (by omega)); exact Or.inl q
                  refine lv_aload_n hx hb dX7_scan_76 rfl (lv_at hl 4 rfl) ?_
                  refine lv_iload_n hx hb dX7_scan_77 rfl (lv_at hl 1 rfl) ?_
                  refine lv_iload_n hx hb dX7_scan_78 rfl (lv_at hl 3 rfl) ?_
                  refine lv_iload hx hb dX7_scan_79 (lv_at hl 0 rfl) ?_
                  have h_51 : (-2147483648) ≤ vc11 p0 6 ∧ vc11 p0 6 ≤ 2147483647 := xf_7_6 I_27 q0
                  refine jcg_v (va_runV (As := [.int (iI z_42), .int (iI a1_28), .int (iI z_47)]) (rest := []) ⟨hx, hb, hml, hown, hts⟩ (sX7_addToken l dC dI _ L cid K N tW sK sV vc11 tT tN p0 z_42 a1_28 z_47 I_27 q0 (by omega) (by omega) (by omega) (txt_fr hI q0 (show fr K [(7, 6), (21, (-1)), (22, (-1)), (23, (-1)), (24, (-1))] vc11 v from (fr_tr f_26 rfl (fr_tr f_2 rfl fr_rf))) rfl rfl (fun _ => rfl) k1) (by omega) (by omega) (by omega) (by exact fun e9 => (fun i h0 h1 => dgt_in (T := tT) (n := tN) (s := a1_28) (by omega) (tkd_2d (T := tT) (n := tN) (by omega)) i h0 (by omega)))) (cwV 3 hts (jgoodV m_832 m_833 m_834 m_677 m_835) rfl rfl rfl (by decide +kernel) ⟨(Nat.le_of_ble_eq_true rfl), (Nat.le_of_ble_eq_true rfl)⟩) ⟨xP_blind, xrecv hK hP q0 rfl rfl, fun U hU hW => ⟨rfl, xP_of hU hW hP hK hD hX hS (fun _ h => h) hA⟩⟩ rfl rfl hl.1 rfl (lv_room (Nat.le_of_ble_eq_true rfl)) dX7_scan_81 ⟨(Nat.le_of_ble_eq_true rfl), (Nat.le_of_ble_eq_true rfl)⟩) hD hS hA (fun v_60 H locs w_53 hP hK hD hS => ?_)
                  obtain ⟨I_62, f_61, h_55, h_56, h_57, h_58, h_59⟩ := w_53
                  have hP : va_P (dC, dI) vwCl (xG L cid K N v_60) H := hP
                  have hD : va_D A (xG L cid K N v_60) := hD
                  have h_63 : (-2147483648) ≤ v_60 p0 6 ∧ v_60 p0 6 ≤ 2147483647 := xf_7_6 I_62 q0
                  have b_64 : vc11 p0 2 = v p0 2 := (((fr_use q0 f_26 rfl)).trans (fr_use q0 f_2 rfl))
                  have h_65 : ok L K (v p0 2) 21 := xf_7_2 hI q0
                  have h_66 : N (v p0 2) = 601 := xn_21 hI h_65
                  have b_67 : vc11 p0 3 = v p0 3 := (((fr_use q0 f_26 rfl)).trans (fr_use q0 f_2 rfl))
                  have h_68 : ok L K (v p0 3) 22 := xf_7_3 hI q0
                  have h_69 : N (v p0 3) = 601 := xn_22 hI h_68
                  have b_70 : vc11 p0 4 = v p0 4 := (((fr_use q0 f_26 rfl)).trans (fr_use q0 f_2 rfl))
                  have h_71 : ok L K (v p0 4) 23 := xf_7_4 hI q0
                  have h_72 : N (v p0 4) = 601 := xn_23 hI h_71
                  have b_73 : vc11 p0 5 = v p0 5 := (((fr_use q0 f_26 rfl)).trans (fr_use q0 f_2 rfl))
                  have h_74 : ok L K (v p0 5) 24 := xf_7_5 hI q0
                  have h_75 : N (v p0 5) = 601 := xn_24 hI h_74
                  rw [show vc11 p0 2 = v p0 2 from (((fr_use q0 f_26 rfl)).trans (fr_use q0 f_2 rfl))] at h_56
                  rw [show vc11 p0 3 = v p0 3 from (((fr_use q0 f_26 rfl)).trans (fr_use q0 f_2 rfl))] at h_57
                  rw [show vc11 p0 4 = v p0 4 from (((fr_use q0 f_26 rfl)).trans (fr_use q0 f_2 rfl))] at h_58
                  rw [show vc11 p0 5 = v p0 5 from (((fr_use q0 f_26 rfl)).trans (fr_use q0 f_2 rfl))] at h_59
                  refine lv_iload hx hb dX7_scan_84 (lv_at hl 0 rfl) ?_
                  refine lv_istore_n (i := 1) (lv' := [(1, .int (iI z_47)), (4, .int (iI z_47)), (2, .int (iI z_42)), (3, .int (iI a3_11)), (0, .ref p0.toNat)]) hx hb dX7_scan_86 rfl hl (by decide) rfl (fun ls hl => ?_)
                  have ti2 : tki tT tN v_60 p0 (a3_11 + 1) (z_47) (z_42) := tki_u (show tki tT tN vc11 p0 a3_11 a1_11 a2_11 by assumption) (by omega) (by omega) (txt_fr hI q0 (show fr K [(7, 6), (21, (-1)), (22, (-1)), (23, (-1)), (24, (-1))] v_60 v from (fr_tr f_61 rfl (fr_tr f_26 rfl (fr_tr f_2 rfl fr_rf)))) rfl rfl (fun _ => rfl) k1) (show v_60 p0 2 = v p0 2 from (((fr_use q0 f_61 rfl)).trans (((fr_use q0 f_26 rfl)).trans (fr_use q0 f_2 rfl)))) (show vc11 p0 2 = v p0 2 from (((fr_use q0 f_26 rfl)).trans (fr_use q0 f_2 rfl))) (show v_60 p0 3 = v p0 3 from (((fr_use q0 f_61 rfl)).trans (((fr_use q0 f_26 rfl)).trans (fr_use q0 f_2 rfl)))) (show vc11 p0 3 = v p0 3 from (((fr_use q0 f_26 rfl)).trans (fr_use q0 f_2 rfl))) (show v_60 p0 4 = v p0 4 from (((fr_use q0 f_61 rfl)).trans (((fr_use q0 f_26 rfl)).trans (fr_use q0 f_2 rfl)))) (show vc11 p0 4 = v p0 4 from (((fr_use q0 f_26 rfl)).trans (fr_use q0 f_2 rfl))) (show v_60 p0 5 = v p0 5 from (((fr_use q0 f_61 rfl)).trans (((fr_use q0 f_26 rfl)).trans (fr_use q0 f_2 rfl)))) (show vc11 p0 5 = v p0 5 from (((fr_use q0 f_26 rfl)).trans (fr_use q0 f_2 rfl))) h_56 h_57 h_58 h_59 (by omega) (by assumption) (by omega) (by omega) rfl (by omega) (by omega)
                  refine lv_iinc (v := iI (a3_11 + 1)) (lv' := [(3, .int (iI (a3_11 + 1))), (1, .int (iI z_47)), (4, .int (iI z_47)), (2, .int (iI z_42)), (0, .ref p0.toNat)]) hx hb dX7_scan_87 hl (k := 3) rfl (iI_add _ _) (by decide) rfl (fun ls hl => ?_)
                  refine lv_goto (tgt := 11) hx hb dX7_scan_90 (by decide) ?_
                  exact ih11 (a3_11 + 1) z_42 z_47 v_60 H locs ls (by omega) (by omega) (by omega) (by omega) (by omega) (by omega) (by omega) (by omega) (by first | exact ti2 | exact ti1) (by omega) (fr_tr f_61 rfl (fr_tr f_26 rfl fr_rf)) I_62 hP hD hS (lv_sub hl [0, 3, 1, 4] rfl)
                refine xr_icmp_ge (tgt := 62) hx hb dX7_scan_33 (by decide) (by omega) (by omega) (fun h_76 => ?_) (fun h_76 => ?_)
                · exact J62 H locs ls (by omega) (by exact sk_2 (by assumption) (by omega)) hP hD hS hl
                · refine lv_aload_n hx hb dX7_scan_36 rfl (lv_at hl 3 rfl) ?_
                  refine lv_iload_n hx hb dX7_scan_37 rfl (lv_at hl 2 rfl) ?_
                  refine jc_i (va_runV (As := [.int (iI a1_28)]) (rest := []) ⟨hx, hb, hml, hown, hts⟩ (sX7_byteAt l dC dI _ L cid K N tW sK sV vc11 tT tN p0 a1_28 I_27 q0 (by omega) (txt_fr hI q0 (show fr K [(7, 6), (21, (-1)), (22, (-1)), (23, (-1)), (24, (-1))] vc11 v from (fr_tr f_26 rfl (fr_tr f_2 rfl fr_rf))) rfl rfl (fun _ => rfl) k1)) (cwV 1 hts (jgoodV m_728 m_729 m_730 m_677 m_731) rfl rfl rfl (by decide +kernel) ⟨(Nat.le_of_ble_eq_true rfl), (Nat.le_of_ble_eq_true rfl)⟩) ⟨xP_blind, xrecv hK hP q0 rfl rfl, fun U hU hW => ⟨rfl, xP_of hU hW hP hK hD hX hS (fun _ h => h) hA⟩⟩ rfl rfl hl.1 rfl (lv_room (Nat.le_of_ble_eq_true rfl)) dX7_scan_38 ⟨(Nat.le_of_ble_eq_true rfl), (Nat.le_of_ble_eq_true rfl)⟩) hP hS hA (fun r_77 H locs w_78 hP hS => ?_)
                  obtain ⟨z_79, rfl, h_80, h_81⟩ := w_78
                  refine lv_bipush (v := iI 32) hx hb dX7_scan_41 rfl ?_
                  have J56 : ∀ (H : Heap) (locs : List Loc) (ls : Array Slot), (tT (a1_28) = 32 ∨ tT (a1_28) = 10) → va_P (dC, dI) vwCl (xG L cid K N vc11) H → va_D A (xG L cid K N vc11) → va_S A s.heap H locs → lv_has ls 5 [(3, .int (iI a3_11)), (2, .int (iI a2_11)), (1, .int (iI a1_28)), (0, .ref p0.toNat)] → W p l e ({ frames := 7, cells := 0, slots := 0, locals := 157 }) s m ([.ref p0.toNat] : List Value).toArray below meth c H locs 0 0 Q (F0 m 56 ls []) := by
                    intro H locs ls h_82 hP hD hS hl
                    refine lv_iinc (v := iI (a1_28 + 1)) (lv' := [(1, .int (iI (a1_28 + 1))), (3, .int (iI a3_11)), (2, .int (iI a2_11)), (0, .ref p0.toNat)]) hx hb dX7_scan_56 hl (k := 2) rfl (iI_add _ _) (by decide) rfl (fun ls hl => ?_)
                    refine lv_goto (tgt := 28) hx hb dX7_scan_59 (by decide) ?_
                    exact ih28 (a1_28 + 1) H locs ls (by omega) (by omega) (by first | exact (show tki tT tN vc11 p0 a3_11 a1_11 a2_11 by assumption).2.2.2.1 | exact sk_1 (by assumption) (by omega) (by omega)) (by omega) hP hD hS (lv_sub hl [1, 2, 0, 3] rfl)
                  refine xr_icmp_eq (tgt := 56) hx hb dX7_scan_43 (by decide) (by omega) (by omega) (fun h_83 => ?_) (fun h_83 => ?_)
                  · exact J56 H locs ls (by omega) hP hD hS hl
                  · refine lv_aload_n hx hb dX7_scan_46 rfl (lv_at hl 3 rfl) ?_
                    refine lv_iload_n hx hb dX7_scan_47 rfl (lv_at hl 2 rfl) ?_
                    refine jc_i (va_runV (As := [.int (iI a1_28)]) (rest := []) ⟨hx, hb, hml, hown, hts⟩ (sX7_byteAt l dC dI _ L cid K N tW sK sV vc11 tT tN p0 a1_28 I_27 q0 (by omega) (txt_fr hI q0 (show fr K [(7, 6), (21, (-1)), (22, (-1)), (23, (-1)), (24, (-1))] vc11 v from (fr_tr f_26 rfl (fr_tr f_2 rfl fr_rf))) rfl rfl (fun _ => rfl) k1)) (cwV 1 hts (jgoodV m_728 m_729 m_730 m_677 m_731) rfl rfl rfl (by decide +kernel) ⟨(Nat.le_of_ble_eq_true rfl), (Nat.le_of_ble_eq_true rfl)⟩) ⟨xP_blind, xrecv hK hP q0 rfl rfl, fun U hU hW => ⟨rfl, xP_of hU hW hP hK hD hX hS (fun _ h => h) hA⟩⟩ rfl rfl hl.1 rfl (lv_room (Nat.le_of_ble_eq_true rfl)) dX7_scan_48 ⟨(Nat.le_of_ble_eq_true rfl), (Nat.le_of_ble_eq_true rfl)⟩) hP hS hA (fun r_84 H locs w_85 hP hS => ?_)
                    obtain ⟨z_86, rfl, h_87, h_88⟩ := w_85
                    refine lv_bipush (v := iI 10) hx hb dX7_scan_51 rfl ?_
                    refine xr_icmp_ne (tgt := 62) hx hb dX7_scan_53 (by decide) (by omega) (by omega) (fun h_89 => ?_) (fun h_89 => ?_)
                    · exact J62 H locs ls (by omega) (by exact sk_2 (by assumption) (by omega)) hP hD hS hl
                    · exact J56 H locs ls (by omega) hP hD hS hl
            exact L28 ((((v p0 1) - a1_11 : Int)).toNat + 1) a1_11 H locs ls (by omega) (by omega) (by first | exact (show tki tT tN vc11 p0 a3_11 a1_11 a2_11 by assumption).2.2.2.1 | exact sk_1 (by assumption) (by omega) (by omega)) (by omega) hP hD hS hl
  have b_90 : v_1 p0 6 = 0 := e_3
  exact L11 ((((v p0 1) - 0 + 1 : Int)).toNat + 1) 0 1 0 v_1 H locs ls (by omega) (by omega) (by omega) (by omega) (by omega) (by omega) (by omega) (by omega) (by first | exact ti2 | exact ti1) (by omega) fr_rf I_5 hP hD hS hl
set_option maxHeartbeats 2000000 in
set_option maxRecDepth 100000 in
theorem sX7_parse (l : Launch) (dC : Nat → ClassId) (dI : Nat → Nat → Nat) (sz : Nat) (L : List Nat) (cid : Nat → ClassId) (K : Int → Nat) (N : Int → Int) (tW : Nat) (sK sV : Nat → Nat) (v : Int → Int → Int) (p0 : Int) (hI : xI L K N v) (q0 : ok L K p0 7) : Met l yX7_parse (jk yX7_parse cX7_parse 2 (some .int)) ({ frames := 34, cells := 0, slots := 0, locals := 770 }) (va_Pc [.ref p0.toNat] (xP (dC, dI) (xG L cid K N v) (xT cid) tW sK sV sz)) (va_Qi (fun (r : Int32) (u : (Int → Int → Int)) => ∃ z : Int, r = iI z ∧ (xI L K N u) ∧ (fr K [(7, 6), (7, 7), (7, 8), (7, 10), (7, 14), (21, (-1)), (22, (-1)), (23, (-1)), (24, (-1)), (25, (-1)), (26, (-1)), (27, (-1)), (28, (-1))] u v) ∧ (rg z) ∧ (Runs (xTT v p0) (v p0 1) (cf0 (xTT v p0) (v p0 1)) z)) (fun u t => va_P (dC, dI) vwCl (xG L cid K N u) t.heap ∧ va_K (dC, dI) vwCl (xT cid) t ∧ va_D (va_A (xG L cid K N v) sz) (xG L cid K N u)) (va_A (xG L cid K N v) sz)) 0 0 (va_A (xG L cid K N v) sz) := by
  refine Met.ofW (cc := cX7_parse) (maxL := 2) (ret := (some .int)) (by decide) rfl ?_
  intro p e s m args below meth c s₁ B hml hv
  obtain ⟨rfl, ⟨hsz, hP, hK, hD0⟩, hX⟩ := hv
  have hx := B.exec
  have hb := B.bytes
  have hr := B.returns
  have hts := atoms_spec (ws := (jk yX7_parse cX7_parse 2 (some .int))) B.pre
  have hj : ∀ w ∈ jw, w.before ([.ref p0.toNat] : List Value).toArray s = true := fun w h => hts w (jm h)
  have hown : s.vm.findClass RX7 = some m.cls := findClass_of_methodNamed B.named
  subst hsz
  have hD := hD0.self (sz := s.heap.size)
  generalize hAe : (va_A (xG L cid K N v) s.heap.size) = A at hD hX ⊢
  have hA : ∀ q : Nat, s.heap.size ≤ q → A q := fun q h => by rw [← hAe]; exact Or.inr h
  have hS : va_S A s.heap s.heap [] := va_S.rf
  have hXa := hX
  have hP : va_P (dC, dI) vwCl (xG L cid K N v) s.heap := hP
  have hl := lv_entry ([.ref p0.toNat]) (n := 2) (Nat.le_of_ble_eq_true rfl)
  rw [lg_entry_eq]
  generalize (lg_sl ([.ref p0.toNat]) ++ List.replicate (2 - (lg_sl ([.ref p0.toNat])).length) Slot.unset).toArray = ls at hl ⊢
  have hl : lv_has ls 2 [(0, .ref p0.toNat)] := hl
  generalize hQ : MQ below (va_Qi (fun (r : Int32) (u : (Int → Int → Int)) => ∃ z : Int, r = iI z ∧ (xI L K N u) ∧ (fr K [(7, 6), (7, 7), (7, 8), (7, 10), (7, 14), (21, (-1)), (22, (-1)), (23, (-1)), (24, (-1)), (25, (-1)), (26, (-1)), (27, (-1)), (28, (-1))] u v) ∧ (rg z) ∧ (Runs (xTT v p0) (v p0 1) (cf0 (xTT v p0) (v p0 1)) z)) (fun u t => va_P (dC, dI) vwCl (xG L cid K N u) t.heap ∧ va_K (dC, dI) vwCl (xT cid) t ∧ va_D A (xG L cid K N u)) A) ([.ref p0.toNat] : List Value).toArray s 0 0 A = Q
  suffices ST : ∀ (H : Heap) (locs : List Loc), va_P (dC, dI) vwCl (xG L cid K N v) H → va_S A s.heap H locs → W p l e ({ frames := 34, cells := 0, slots := 0, locals := 770 }) s m ([.ref p0.toNat] : List Value).toArray below meth c H locs 0 0 Q (F0 m 0 ls []) from ST _ _ hP hS
  clear hP hS
  intro H locs hP hS
  have h_1 : ok L K (v p0 11) 26 := xf_7_11 hI q0
  have h_2 : N (v p0 11) = 14 := xn_26 hI h_1
  have tx0 : txt (xTT v p0) (v p0 1) v p0 := txt_0
  refine lv_aload_n hx hb dX7_parse_0 rfl (lv_at hl 0 rfl) ?_
  refine jcg_v (va_runV (As := []) (rest := []) ⟨hx, hb, hml, hown, hts⟩ (sX7_scan l dC dI _ L cid K N tW sK sV v (xTT v p0) (v p0 1) p0 hI q0 tx0) (cwV 0 hts (jgoodV m_836 m_837 m_838 m_677 m_839) rfl rfl rfl (by decide +kernel) ⟨(Nat.le_of_ble_eq_true rfl), (Nat.le_of_ble_eq_true rfl)⟩) ⟨xP_blind, xrecv hK hP q0 rfl rfl, fun U hU hW => ⟨rfl, xP_of hU hW hP hK hD hX hS (fun _ h => h) hA⟩⟩ rfl rfl hl.1 rfl (lv_room (Nat.le_of_ble_eq_true rfl)) dX7_parse_1 ⟨(Nat.le_of_ble_eq_true rfl), (Nat.le_of_ble_eq_true rfl)⟩) hD hS hA (fun v_7 H locs w_4 hP hK hD hS => ?_)
  obtain ⟨I_9, f_8, h_6⟩ := w_4
  have hP : va_P (dC, dI) vwCl (xG L cid K N v_7) H := hP
  have hD : va_D A (xG L cid K N v_7) := hD
  have hTK := tks_m h_6
  have t1 := xf_7_1 hI q0
  refine lv_aload_n hx hb dX7_parse_4 rfl (lv_at hl 0 rfl) ?_
  refine lv_iconst (v := iI (-1)) hx hb dX7_parse_5 rfl ?_
  refine px_RX7_50 (y := (-1)) hx hb hj hown hK hP hD hS I_9 q0 ⟨by omega, by omega⟩ dX7_parse_6 (fun v_10 H locs f_11 e_12 o_13 I_14 hP hD hS => ?_)
  refine lv_aload_n hx hb dX7_parse_9 rfl (lv_at hl 0 rfl) ?_
  refine lv_iconst (v := iI 0) hx hb dX7_parse_10 rfl ?_
  refine px_RX7_53 (y := 0) hx hb hj hown hK hP hD hS I_14 q0 ⟨by omega, by omega⟩ dX7_parse_11 (fun v_15 H locs f_16 e_17 o_18 I_19 hP hD hS => ?_)
  refine lv_aload_n hx hb dX7_parse_14 rfl (lv_at hl 0 rfl) ?_
  refine lv_iconst (v := iI 0) hx hb dX7_parse_15 rfl ?_
  refine px_RX7_56 (y := 0) hx hb hj hown hK hP hD hS I_19 q0 ⟨by omega, by omega⟩ dX7_parse_16 (fun v_20 H locs f_21 e_22 o_23 I_24 hP hD hS => ?_)
  refine lv_aload_n hx hb dX7_parse_19 rfl (lv_at hl 0 rfl) ?_
  refine lv_iconst (v := iI 0) hx hb dX7_parse_20 rfl ?_
  refine px_RX7_59 (y := 0) hx hb hj hown hK hP hD hS I_24 q0 ⟨by omega, by omega⟩ dX7_parse_21 (fun v_25 H locs f_26 e_27 o_28 I_29 hP hD hS => ?_)
  refine lv_aload_n hx hb dX7_parse_24 rfl (lv_at hl 0 rfl) ?_
  refine gx_RX7_33 (y := v p0 11) hx hb hj hown hK hP q0 ((xf_7_11 I_29 q0).1) (((fr_use q0 f_26 rfl)).trans (((fr_use q0 f_21 rfl)).trans (((fr_use q0 f_16 rfl)).trans (((fr_use q0 f_11 rfl)).trans (fr_use q0 f_8 rfl))))) dX7_parse_25 ?_
  refine lv_iconst (v := iI (-1)) hx hb dX7_parse_28 rfl ?_
  refine jcg_v (va_runS (As := [.ref (v p0 11).toNat, .int (iI (-1))]) (rest := []) ⟨hx, hb, hml, hown, hts⟩ (sJ7_fill_53178_from l dC dI _ L cid K N tW sK sV v_25 (v p0 11) (-1) I_29 h_1 (by omega)) (va_cwS 2 hts (jgoodS m_840 m_841 m_842 m_843) rfl rfl rfl (by decide +kernel) ⟨(Nat.le_of_ble_eq_true rfl), (Nat.le_of_ble_eq_true rfl)⟩) ⟨xP_blind, fun U hU hW => ⟨rfl, xP_of hU hW hP hK hD hX hS (fun _ h => h) hA⟩⟩ rfl rfl hl.1 rfl (lv_room (Nat.le_of_ble_eq_true rfl)) dX7_parse_29 ⟨(Nat.le_of_ble_eq_true rfl), (Nat.le_of_ble_eq_true rfl)⟩) hD hS hA (fun v_34 H locs w_31 hP hK hD hS => ?_)
  obtain ⟨I_36, f_35, h_33⟩ := w_31
  have hP : va_P (dC, dI) vwCl (xG L cid K N v_34) H := hP
  have hD : va_D A (xG L cid K N v_34) := hD
  have bg0 : bgn (v_34 (v p0 11)) = (fun _ => false) := bgn_0 h_33
  have rp2 : RP (xTT v p0) (v p0 1) [0] 0 (-1) 0 (fun _ => false) 0 (v_34 p0 8) (v_34 p0 7) (bgn (v_34 (v p0 11))) (v_34 p0 14) [0] 0 := by rw [bg0, show v_34 p0 8 = (-1) from (((fr_use q0 f_35 rfl)).trans (((fr_use q0 f_26 rfl)).trans (((fr_use q0 f_21 rfl)).trans (((fr_use q0 f_16 rfl)).trans e_12)))), show v_34 p0 7 = 0 from (((fr_use q0 f_35 rfl)).trans (((fr_use q0 f_26 rfl)).trans (((fr_use q0 f_21 rfl)).trans e_17))), show v_34 p0 14 = 0 from (((fr_use q0 f_35 rfl)).trans e_27)]; exact RP_0
  refine lv_iconst (v := iI 0) hx hb dX7_parse_32 rfl ?_
  refine lv_istore_n (i := 1) (lv' := [(1, .int (iI 0)), (0, .ref p0.toNat)]) hx hb dX7_parse_33 rfl hl (by decide) rfl (fun ls hl => ?_)
  have L34 : ∀ (n34 : Nat) (a1_34 : Int) (vc34 : Int → Int → Int) (H : Heap) (locs : List Loc) (ls : Array Slot), (0 ≤ a1_34 ∧ a1_34 ≤ 2147483647) → (0 ≤ a1_34) → (0 ≤ vc34 p0 7 ∧ vc34 p0 7 < v_7 p0 6) → (vc34 p0 8 ≠ -1 ∨ a1_34 ≤ vc34 p0 7) → (RP (xTT v p0) (v p0 1) [0] 0 (-1) 0 (fun _ => false) 0 (vc34 p0 8) (vc34 p0 7) (bgn (vc34 (v p0 11))) (vc34 p0 14) [0] 0) → (0 < (n34 : Int) ∧ (v p0 1) - a1_34 + 1 < (n34 : Int)) → fr K [(7, 7), (7, 8), (7, 10), (7, 14), (25, (-1)), (26, (-1)), (27, (-1)), (28, (-1))] vc34 v_34 → xI L K N vc34 → va_P (dC, dI) vwCl (xG L cid K N vc34) H → va_D A (xG L cid K N vc34) → va_S A s.heap H locs → lv_has ls 2 [(1, .int (iI a1_34)), (0, .ref p0.toNat)] → W p l e ({ frames := 34, cells := 0, slots := 0, locals := 770 }) s m ([.ref p0.toNat] : List Value).toArray below meth c H locs 0 0 Q (F0 m 34 ls []) := by
    intro n34
    induction n34 with
    | zero =>
      intro a1_34 vc34 H locs ls h_37 h_38 h_39 h_40 h_41 hm34 f_42 I_43 hP hD hS hl
      exfalso; omega
    | succ n34 ih34 =>
      intro a1_34 vc34 H locs ls h_44 h_45 h_46 h_47 h_48 hm34 f_49 I_50 hP hD hS hl
      refine lv_iload_n hx hb dX7_parse_34 rfl (lv_at hl 0 rfl) ?_
      refine lv_aload_n hx hb dX7_parse_35 rfl (lv_at hl 1 rfl) ?_
      have h_51 : 0 ≤ v p0 1 ∧ v p0 1 ≤ 600 := xf_7_1 hI q0
      refine gx_RX7_43 (y := v p0 1) hx hb hj hown hK hP q0 (((fr_use q0 f_49 rfl)).trans (((fr_use q0 f_35 rfl)).trans (((fr_use q0 f_26 rfl)).trans (((fr_use q0 f_21 rfl)).trans (((fr_use q0 f_16 rfl)).trans (((fr_use q0 f_11 rfl)).trans (fr_use q0 f_8 rfl))))))) dX7_parse_36 ?_
      refine xr_icmp_gt (tgt := 67) hx hb dX7_parse_39 (by decide) (by omega) (by omega) (fun h_52 => ?_) (fun h_52 => ?_)
      · have t9 := tk_lt (T := (xTT v p0)) (n := (v p0 1)) (j := vc34 p0 7) (by omega)
        refine lv_aload_n hx hb dX7_parse_67 rfl (lv_at hl 1 rfl) ?_
        have h_53 : (-2147483648) ≤ vc34 p0 8 ∧ vc34 p0 8 ≤ 2147483647 := xf_7_8 I_50 q0
        refine gx_RX7_50 (y := vc34 p0 8) hx hb hj hown hK hP q0 rfl dX7_parse_68 ?_
        rw [← hQ]
        exact W.iret (v := iI (vc34 p0 8)) hx hb hr (fun t ht hW => ⟨⟨iI (vc34 p0 8), vc34, rfl, ⟨vc34 p0 8, rfl, I_50, (fr_tr f_49 rfl (fr_tr f_35 rfl (fr_tr f_26 rfl (fr_tr f_21 rfl (fr_tr f_16 rfl (fr_tr f_11 rfl (fr_tr f_8 rfl fr_rf))))))), by omega, by exact RP_end (show RP (xTT v p0) (v p0 1) [0] 0 (-1) 0 (fun _ => false) 0 (vc34 p0 8) (vc34 p0 7) (bgn (vc34 (v p0 11))) (vc34 p0 14) [0] 0 by assumption) (by omega)⟩, by rw [ht]; exact hP, va_K.moved hW.alike hK, hD⟩, hS.F ht⟩) hS.2.2 dX7_parse_71
      · refine lv_aload_n hx hb dX7_parse_42 rfl (lv_at hl 1 rfl) ?_
        have h_54 : (-2147483648) ≤ vc34 p0 8 ∧ vc34 p0 8 ≤ 2147483647 := xf_7_8 I_50 q0
        refine gx_RX7_50 (y := vc34 p0 8) hx hb hj hown hK hP q0 rfl dX7_parse_43 ?_
        refine lv_iconst (v := iI (-1)) hx hb dX7_parse_46 rfl ?_
        refine xr_icmp_ne (tgt := 67) hx hb dX7_parse_47 (by decide) (by omega) (by omega) (fun h_55 => ?_) (fun h_55 => ?_)
        · have t9 := tk_lt (T := (xTT v p0)) (n := (v p0 1)) (j := vc34 p0 7) (by omega)
          refine lv_aload_n hx hb dX7_parse_67 rfl (lv_at hl 1 rfl) ?_
          refine gx_RX7_50 (y := vc34 p0 8) hx hb hj hown hK hP q0 rfl dX7_parse_68 ?_
          rw [← hQ]
          exact W.iret (v := iI (vc34 p0 8)) hx hb hr (fun t ht hW => ⟨⟨iI (vc34 p0 8), vc34, rfl, ⟨vc34 p0 8, rfl, I_50, (fr_tr f_49 rfl (fr_tr f_35 rfl (fr_tr f_26 rfl (fr_tr f_21 rfl (fr_tr f_16 rfl (fr_tr f_11 rfl (fr_tr f_8 rfl fr_rf))))))), by omega, by exact RP_end (show RP (xTT v p0) (v p0 1) [0] 0 (-1) 0 (fun _ => false) 0 (vc34 p0 8) (vc34 p0 7) (bgn (vc34 (v p0 11))) (vc34 p0 14) [0] 0 by assumption) (by omega)⟩, by rw [ht]; exact hP, va_K.moved hW.alike hK, hD⟩, hS.F ht⟩) hS.2.2 dX7_parse_71
        · refine lv_aload_n hx hb dX7_parse_50 rfl (lv_at hl 1 rfl) ?_
          have h_56 : (-2147483648) ≤ vc34 p0 7 ∧ vc34 p0 7 ≤ 2147483647 := xf_7_7 I_50 q0
          have b_57 : vc34 p0 6 = v_7 p0 6 := (((fr_use q0 f_49 rfl)).trans (((fr_use q0 f_35 rfl)).trans (((fr_use q0 f_26 rfl)).trans (((fr_use q0 f_21 rfl)).trans (((fr_use q0 f_16 rfl)).trans (fr_use q0 f_11 rfl))))))
          have h_58 : (-2147483648) ≤ v_7 p0 6 ∧ v_7 p0 6 ≤ 2147483647 := xf_7_6 I_9 q0
          refine jc_i (va_runV (As := []) (rest := []) ⟨hx, hb, hml, hown, hts⟩ (sX7_kind l dC dI _ L cid K N tW sK sV vc34 (xTT v p0) (v p0 1) p0 I_50 q0 (tks_fr I_9 q0 (show fr K [(7, 7), (7, 8), (7, 10), (7, 14), (25, (-1)), (26, (-1)), (27, (-1)), (28, (-1))] vc34 v_7 from (fr_tr f_49 rfl (fr_tr f_35 rfl (fr_tr f_26 rfl (fr_tr f_21 rfl (fr_tr f_16 rfl (fr_tr f_11 rfl fr_rf))))))) rfl rfl rfl rfl rfl rfl rfl (fun _ => rfl) (fun _ => rfl) (fun _ => rfl) (fun _ => rfl) (fun _ => rfl) h_6) (by omega)) (cwV 0 hts (jgoodV m_674 m_675 m_676 m_677 m_678) rfl rfl rfl (by decide +kernel) ⟨(Nat.le_of_ble_eq_true rfl), (Nat.le_of_ble_eq_true rfl)⟩) ⟨xP_blind, xrecv hK hP q0 rfl rfl, fun U hU hW => ⟨rfl, xP_of hU hW hP hK hD hX hS (fun _ h => h) hA⟩⟩ rfl rfl hl.1 rfl (lv_room (Nat.le_of_ble_eq_true rfl)) dX7_parse_51 ⟨(Nat.le_of_ble_eq_true rfl), (Nat.le_of_ble_eq_true rfl)⟩) hP hS hA (fun r_59 H locs w_60 hP hS => ?_)
          obtain ⟨z_61, rfl, h_62, h_63, h_64⟩ := w_60
          have b_65 : vc34 p0 6 = v_7 p0 6 := (((fr_use q0 f_49 rfl)).trans (((fr_use q0 f_35 rfl)).trans (((fr_use q0 f_26 rfl)).trans (((fr_use q0 f_21 rfl)).trans (((fr_use q0 f_16 rfl)).trans (fr_use q0 f_11 rfl))))))
          refine xr_if_eq (tgt := 67) hx hb dX7_parse_54 (by decide) (by omega) (fun h_66 => ?_) (fun h_66 => ?_)
          · have t9 := tk_lt (T := (xTT v p0)) (n := (v p0 1)) (j := vc34 p0 7) (by omega)
            refine lv_aload_n hx hb dX7_parse_67 rfl (lv_at hl 1 rfl) ?_
            refine gx_RX7_50 (y := vc34 p0 8) hx hb hj hown hK hP q0 rfl dX7_parse_68 ?_
            rw [← hQ]
            exact W.iret (v := iI (vc34 p0 8)) hx hb hr (fun t ht hW => ⟨⟨iI (vc34 p0 8), vc34, rfl, ⟨vc34 p0 8, rfl, I_50, (fr_tr f_49 rfl (fr_tr f_35 rfl (fr_tr f_26 rfl (fr_tr f_21 rfl (fr_tr f_16 rfl (fr_tr f_11 rfl (fr_tr f_8 rfl fr_rf))))))), by omega, by exact RP_end (show RP (xTT v p0) (v p0 1) [0] 0 (-1) 0 (fun _ => false) 0 (vc34 p0 8) (vc34 p0 7) (bgn (vc34 (v p0 11))) (vc34 p0 14) [0] 0 by assumption) (by omega)⟩, by rw [ht]; exact hP, va_K.moved hW.alike hK, hD⟩, hS.F ht⟩) hS.2.2 dX7_parse_71
          · refine lv_aload_n hx hb dX7_parse_57 rfl (lv_at hl 1 rfl) ?_
            have b_67 : vc34 p0 6 = v_7 p0 6 := (((fr_use q0 f_49 rfl)).trans (((fr_use q0 f_35 rfl)).trans (((fr_use q0 f_26 rfl)).trans (((fr_use q0 f_21 rfl)).trans (((fr_use q0 f_16 rfl)).trans (fr_use q0 f_11 rfl))))))
            refine jcg_v (va_runV (As := []) (rest := []) ⟨hx, hb, hml, hown, hts⟩ (sX7_readClause l dC dI _ L cid K N tW sK sV vc34 (xTT v p0) (v p0 1) p0 I_50 q0 (tks_fr I_9 q0 (show fr K [(7, 7), (7, 8), (7, 10), (7, 14), (25, (-1)), (26, (-1)), (27, (-1)), (28, (-1))] vc34 v_7 from (fr_tr f_49 rfl (fr_tr f_35 rfl (fr_tr f_26 rfl (fr_tr f_21 rfl (fr_tr f_16 rfl (fr_tr f_11 rfl fr_rf))))))) rfl rfl rfl rfl rfl rfl rfl (fun _ => rfl) (fun _ => rfl) (fun _ => rfl) (fun _ => rfl) (fun _ => rfl) h_6) (by omega) (by omega) (by omega)) (cwV 0 hts (jgoodV m_844 m_845 m_846 m_677 m_847) rfl rfl rfl (by decide +kernel) ⟨(Nat.le_of_ble_eq_true rfl), (Nat.le_of_ble_eq_true rfl)⟩) ⟨xP_blind, xrecv hK hP q0 rfl rfl, fun U hU hW => ⟨rfl, xP_of hU hW hP hK hD hX hS (fun _ h => h) hA⟩⟩ rfl rfl hl.1 rfl (lv_room (Nat.le_of_ble_eq_true rfl)) dX7_parse_58 ⟨(Nat.le_of_ble_eq_true rfl), (Nat.le_of_ble_eq_true rfl)⟩) hD hS hA (fun v_74 H locs w_69 hP hK hD hS => ?_)
            obtain ⟨I_76, f_75, h_71, h_72, h_73⟩ := w_69
            have hP : va_P (dC, dI) vwCl (xG L cid K N v_74) H := hP
            have hD : va_D A (xG L cid K N v_74) := hD
            have b_77 : vc34 p0 6 = v_7 p0 6 := (((fr_use q0 f_49 rfl)).trans (((fr_use q0 f_35 rfl)).trans (((fr_use q0 f_26 rfl)).trans (((fr_use q0 f_21 rfl)).trans (((fr_use q0 f_16 rfl)).trans (fr_use q0 f_11 rfl))))))
            have h_78 : (-2147483648) ≤ v_74 p0 7 ∧ v_74 p0 7 ≤ 2147483647 := xf_7_7 I_76 q0
            have h_79 : (-2147483648) ≤ v_74 p0 8 ∧ v_74 p0 8 ≤ 2147483647 := xf_7_8 I_76 q0
            have b_80 : vc34 p0 11 = v p0 11 := (((fr_use q0 f_49 rfl)).trans (((fr_use q0 f_35 rfl)).trans (((fr_use q0 f_26 rfl)).trans (((fr_use q0 f_21 rfl)).trans (((fr_use q0 f_16 rfl)).trans (((fr_use q0 f_11 rfl)).trans (fr_use q0 f_8 rfl)))))))
            have h_81 : 0 ≤ vc34 p0 14 ∧ vc34 p0 14 ≤ 4 := xf_7_14 I_50 q0
            have h_82 : 0 ≤ v_74 p0 14 ∧ v_74 p0 14 ≤ 4 := xf_7_14 I_76 q0
            rw [show vc34 p0 11 = v p0 11 from (((fr_use q0 f_49 rfl)).trans (((fr_use q0 f_35 rfl)).trans (((fr_use q0 f_26 rfl)).trans (((fr_use q0 f_21 rfl)).trans (((fr_use q0 f_16 rfl)).trans (((fr_use q0 f_11 rfl)).trans (fr_use q0 f_8 rfl)))))))] at h_73
            have rp3 : RP (xTT v p0) (v p0 1) [0] 0 (-1) 0 (fun _ => false) 0 (v_74 p0 8) (v_74 p0 7) (bgn (v_74 (v p0 11))) (v_74 p0 14) [0] 0 := RP_tr (show RP (xTT v p0) (v p0 1) [0] 0 (-1) 0 (fun _ => false) 0 (vc34 p0 8) (vc34 p0 7) (bgn (vc34 (v p0 11))) (vc34 p0 14) [0] 0 by assumption) h_73 (fun e9 => absurd (show vc34 p0 8 = -1 by omega) e9)
            refine lv_iinc (v := iI (a1_34 + 1)) (lv' := [(1, .int (iI (a1_34 + 1))), (0, .ref p0.toNat)]) hx hb dX7_parse_61 hl (k := 0) rfl (iI_add _ _) (by decide) rfl (fun ls hl => ?_)
            refine lv_goto (tgt := 34) hx hb dX7_parse_64 (by decide) ?_
            exact ih34 (a1_34 + 1) v_74 H locs ls (by omega) (by omega) (by omega) (by omega) (by first | exact rp2 | exact rp3) (by omega) (fr_tr f_75 rfl (fr_tr f_49 rfl fr_rf)) I_76 hP hD hS hl
  have b_83 : v_34 p0 8 = (-1) := (((fr_use q0 f_35 rfl)).trans (((fr_use q0 f_26 rfl)).trans (((fr_use q0 f_21 rfl)).trans (((fr_use q0 f_16 rfl)).trans e_12))))
  have b_84 : v_34 p0 7 = 0 := (((fr_use q0 f_35 rfl)).trans (((fr_use q0 f_26 rfl)).trans (((fr_use q0 f_21 rfl)).trans e_17)))
  exact L34 ((((v p0 1) - 0 + 1 : Int)).toNat + 1) 0 v_34 H locs ls (by omega) (by omega) (by omega) (by omega) (by first | exact rp2 | exact rp3) (by omega) fr_rf I_36 hP hD hS hl
set_option maxHeartbeats 2000000 in
set_option maxRecDepth 100000 in
theorem sX8_forgetNames (l : Launch) (dC : Nat → ClassId) (dI : Nat → Nat → Nat) (sz : Nat) (L : List Nat) (cid : Nat → ClassId) (K : Int → Nat) (N : Int → Int) (tW : Nat) (sK sV : Nat → Nat) (v : Int → Int → Int) (p0 : Int) (hI : xI L K N v) (q0 : ok L K p0 8) : Met l yX8_forgetNames (jk yX8_forgetNames cX8_forgetNames 1 none) ({ frames := 1, cells := 0, slots := 0, locals := 23 }) (va_Pc [.ref p0.toNat] (xP (dC, dI) (xG L cid K N v) (xT cid) tW sK sV sz)) (va_Qv (fun (u : (Int → Int → Int)) => (xI L K N u) ∧ (fr K [(33, (-1))] u v)) (fun u t => va_P (dC, dI) vwCl (xG L cid K N u) t.heap ∧ va_K (dC, dI) vwCl (xT cid) t ∧ va_D (va_A (xG L cid K N v) sz) (xG L cid K N u)) (va_A (xG L cid K N v) sz)) 0 0 (va_A (xG L cid K N v) sz) := by
  refine Met.ofW (cc := cX8_forgetNames) (maxL := 1) (ret := none) (by decide) rfl ?_
  intro p e s m args below meth c s₁ B hml hv
  obtain ⟨rfl, ⟨hsz, hP, hK, hD0⟩, hX⟩ := hv
  have hx := B.exec
  have hb := B.bytes
  have hr := B.returns
  have hts := atoms_spec (ws := (jk yX8_forgetNames cX8_forgetNames 1 none)) B.pre
  have hj : ∀ w ∈ jw, w.before ([.ref p0.toNat] : List Value).toArray s = true := fun w h => hts w (jm h)
  have hown : s.vm.findClass RX8 = some m.cls := findClass_of_methodNamed B.named
  subst hsz
  have hD := hD0.self (sz := s.heap.size)
  generalize hAe : (va_A (xG L cid K N v) s.heap.size) = A at hD hX ⊢
  have hA : ∀ q : Nat, s.heap.size ≤ q → A q := fun q h => by rw [← hAe]; exact Or.inr h
  have hS : va_S A s.heap s.heap [] := va_S.rf
  have hXa := hX
  have hP : va_P (dC, dI) vwCl (xG L cid K N v) s.heap := hP
  have hl := lv_entry ([.ref p0.toNat]) (n := 1) (Nat.le_of_ble_eq_true rfl)
  rw [lg_entry_eq]
  generalize (lg_sl ([.ref p0.toNat]) ++ List.replicate (1 - (lg_sl ([.ref p0.toNat])).length) Slot.unset).toArray = ls at hl ⊢
  have hl : lv_has ls 1 [(0, .ref p0.toNat)] := hl
  generalize hQ : MQ below (va_Qv (fun (u : (Int → Int → Int)) => (xI L K N u) ∧ (fr K [(33, (-1))] u v)) (fun u t => va_P (dC, dI) vwCl (xG L cid K N u) t.heap ∧ va_K (dC, dI) vwCl (xT cid) t ∧ va_D A (xG L cid K N u)) A) ([.ref p0.toNat] : List Value).toArray s 0 0 A = Q
  suffices ST : ∀ (H : Heap) (locs : List Loc), va_P (dC, dI) vwCl (xG L cid K N v) H → va_S A s.heap H locs → W p l e ({ frames := 1, cells := 0, slots := 0, locals := 23 }) s m ([.ref p0.toNat] : List Value).toArray below meth c H locs 0 0 Q (F0 m 0 ls []) from ST _ _ hP hS
  clear hP hS
  intro H locs hP hS
  refine lv_aload_n hx hb dX8_forgetNames_0 rfl (lv_at hl 0 rfl) ?_
  have h_1 : ok L K (v p0 6) 33 := xf_8_6 hI q0
  have h_2 : N (v p0 6) = 9 := xn_33 hI h_1
  refine gx_RX8_27 (y := v p0 6) hx hb hj hown hK hP q0 ((xf_8_6 hI q0).1) rfl dX8_forgetNames_1 ?_
  refine lv_iconst (v := iI 0) hx hb dX8_forgetNames_4 rfl ?_
  refine jcg_v (va_runS (As := [.ref (v p0 6).toNat, .int (iI 0)]) (rest := []) ⟨hx, hb, hml, hown, hts⟩ (sJ7_fill_53178_names l dC dI _ L cid K N tW sK sV v (v p0 6) 0 hI h_1 (by omega)) (va_cwS 2 hts (jgoodS m_848 m_841 m_842 m_843) rfl rfl rfl (by decide +kernel) ⟨(Nat.le_of_ble_eq_true rfl), (Nat.le_of_ble_eq_true rfl)⟩) ⟨xP_blind, fun U hU hW => ⟨rfl, xP_of hU hW hP hK hD hX hS (fun _ h => h) hA⟩⟩ rfl rfl hl.1 rfl (lv_room (Nat.le_of_ble_eq_true rfl)) dX8_forgetNames_5 ⟨(Nat.le_of_ble_eq_true rfl), (Nat.le_of_ble_eq_true rfl)⟩) hD hS hA (fun v_6 H locs w_4 hP hK hD hS => ?_)
  obtain ⟨I_8, f_7⟩ := w_4
  have hP : va_P (dC, dI) vwCl (xG L cid K N v_6) H := hP
  have hD : va_D A (xG L cid K N v_6) := hD
  rw [← hQ]
  exact W.vret hx hb hr (fun t ht hW => ⟨⟨v_6, rfl, ⟨I_8, (fr_tr f_7 rfl fr_rf)⟩, by rw [ht]; exact hP, va_K.moved hW.alike hK, hD⟩, hS.F ht⟩) hS.2.2 dX8_forgetNames_8
set_option maxHeartbeats 2000000 in
set_option maxRecDepth 100000 in
theorem sX3_shift (l : Launch) (dC : Nat → ClassId) (dI : Nat → Nat → Nat) (sz : Nat) (L : List Nat) (cid : Nat → ClassId) (K : Int → Nat) (N : Int → Int) (tW : Nat) (sK sV : Nat → Nat) (v : Int → Int → Int) (p0 : Int) (p1 : Int) (p2 : Int) (hI : xI L K N v) (q0 : ok L K p0 3) (q1 : ok L K p1 52) (q2 : rg p2) : Met l yX3_shift (jk yX3_shift cX3_shift 7 none) ({ frames := 1, cells := 0, slots := 0, locals := 40 }) (va_Pc [.ref p0.toNat, .ref p1.toNat, .int (iI p2)] (xP (dC, dI) (xG L cid K N v) (xT cid) tW sK sV sz)) (va_Qv (fun (u : (Int → Int → Int)) => (xI L K N u) ∧ (fr K [(52, (-1))] u v)) (fun u t => va_P (dC, dI) vwCl (xG L cid K N u) t.heap ∧ va_K (dC, dI) vwCl (xT cid) t ∧ va_D (va_A (xG L cid K N v) sz) (xG L cid K N u)) (va_A (xG L cid K N v) sz)) 0 0 (va_A (xG L cid K N v) sz) := by
  refine Met.ofW (cc := cX3_shift) (maxL := 7) (ret := none) (by decide) rfl ?_
  intro p e s m args below meth c s₁ B hml hv
  obtain ⟨rfl, ⟨hsz, hP, hK, hD0⟩, hX⟩ := hv
  have hx := B.exec
  have hb := B.bytes
  have hr := B.returns
  have hts := atoms_spec (ws := (jk yX3_shift cX3_shift 7 none)) B.pre
  have hj : ∀ w ∈ jw, w.before ([.ref p0.toNat, .ref p1.toNat, .int (iI p2)] : List Value).toArray s = true := fun w h => hts w (jm h)
  have hown : s.vm.findClass RX3 = some m.cls := findClass_of_methodNamed B.named
  subst hsz
  have hD := hD0.self (sz := s.heap.size)
  generalize hAe : (va_A (xG L cid K N v) s.heap.size) = A at hD hX ⊢
  have hA : ∀ q : Nat, s.heap.size ≤ q → A q := fun q h => by rw [← hAe]; exact Or.inr h
  have hS : va_S A s.heap s.heap [] := va_S.rf
  have hXa := hX
  have hP : va_P (dC, dI) vwCl (xG L cid K N v) s.heap := hP
  have hl := lv_entry ([.ref p0.toNat, .ref p1.toNat, .int (iI p2)]) (n := 7) (Nat.le_of_ble_eq_true rfl)
  rw [lg_entry_eq]
  generalize (lg_sl ([.ref p0.toNat, .ref p1.toNat, .int (iI p2)]) ++ List.replicate (7 - (lg_sl ([.ref p0.toNat, .ref p1.toNat, .int (iI p2)])).length) Slot.unset).toArray = ls at hl ⊢
  have hl : lv_has ls 7 [(0, .ref p0.toNat), (1, .ref p1.toNat), (2, .int (iI p2))] := hl
  generalize hQ : MQ below (va_Qv (fun (u : (Int → Int → Int)) => (xI L K N u) ∧ (fr K [(52, (-1))] u v)) (fun u t => va_P (dC, dI) vwCl (xG L cid K N u) t.heap ∧ va_K (dC, dI) vwCl (xT cid) t ∧ va_D A (xG L cid K N u)) A) ([.ref p0.toNat, .ref p1.toNat, .int (iI p2)] : List Value).toArray s 0 0 A = Q
  suffices ST : ∀ (H : Heap) (locs : List Loc), va_P (dC, dI) vwCl (xG L cid K N v) H → va_S A s.heap H locs → W p l e ({ frames := 1, cells := 0, slots := 0, locals := 40 }) s m ([.ref p0.toNat, .ref p1.toNat, .int (iI p2)] : List Value).toArray below meth c H locs 0 0 Q (F0 m 0 ls []) from ST _ _ hP hS
  clear hP hS
  intro H locs hP hS
  have h_1 : N p1 = 60 := xn_52 hI q1
  refine lv_iload_n hx hb dX3_shift_0 rfl (lv_at hl 2 rfl) ?_
  refine lv_istore_n (i := 3) (lv' := [(3, .int (iI p2)), (0, .ref p0.toNat), (1, .ref p1.toNat), (2, .int (iI p2))]) hx hb dX3_shift_1 rfl hl (by decide) rfl (fun ls hl => ?_)
  refine lv_iconst (v := iI 0) hx hb dX3_shift_2 rfl ?_
  refine lv_istore (i := 4) (lv' := [(4, .int (iI 0)), (3, .int (iI p2)), (0, .ref p0.toNat), (1, .ref p1.toNat), (2, .int (iI p2))]) hx hb dX3_shift_3 hl (by decide) rfl (fun ls hl => ?_)
  have L5 : ∀ (n5 : Nat) (a4_5 a3_5 : Int) (vc5 : Int → Int → Int) (H : Heap) (locs : List Loc) (ls : Array Slot), (0 ≤ a4_5 ∧ a4_5 ≤ 2147483647) → ((-2147483648) ≤ a3_5 ∧ a3_5 ≤ 2147483647) → (0 < (n5 : Int) ∧ (v p0 5) - a4_5 < (n5 : Int)) → fr K [(52, (-1))] vc5 v → xI L K N vc5 → va_P (dC, dI) vwCl (xG L cid K N vc5) H → va_D A (xG L cid K N vc5) → va_S A s.heap H locs → lv_has ls 7 [(4, .int (iI a4_5)), (3, .int (iI a3_5)), (0, .ref p0.toNat), (1, .ref p1.toNat), (2, .int (iI p2))] → W p l e ({ frames := 1, cells := 0, slots := 0, locals := 40 }) s m ([.ref p0.toNat, .ref p1.toNat, .int (iI p2)] : List Value).toArray below meth c H locs 0 0 Q (F0 m 5 ls []) := by
    intro n5
    induction n5 with
    | zero =>
      intro a4_5 a3_5 vc5 H locs ls h_2 h_3 hm5 f_4 I_5 hP hD hS hl
      exfalso; omega
    | succ n5 ih5 =>
      intro a4_5 a3_5 vc5 H locs ls h_6 h_7 hm5 f_8 I_9 hP hD hS hl
      refine lv_iload hx hb dX3_shift_5 (lv_at hl 0 rfl) ?_
      refine lv_aload_n hx hb dX3_shift_7 rfl (lv_at hl 2 rfl) ?_
      have h_10 : (-2147483648) ≤ v p0 5 ∧ v p0 5 ≤ 2147483647 := xf_3_5 hI q0
      refine gx_RX3_27 (y := v p0 5) hx hb hj hown hK hP q0 (fr_use q0 f_8 rfl) dX3_shift_8 ?_
      refine xr_icmp_ge (tgt := 87) hx hb dX3_shift_11 (by decide) (by omega) (by omega) (fun h_11 => ?_) (fun h_11 => ?_)
      · rw [← hQ]
        exact W.vret hx hb hr (fun t ht hW => ⟨⟨vc5, rfl, ⟨I_9, (fr_tr f_8 rfl fr_rf)⟩, by rw [ht]; exact hP, va_K.moved hW.alike hK, hD⟩, hS.F ht⟩) hS.2.2 dX3_shift_87
      · refine lv_iload hx hb dX3_shift_14 (lv_at hl 0 rfl) ?_
        refine lv_bipush (v := iI 60) hx hb dX3_shift_16 rfl ?_
        refine xr_icmp_ge (tgt := 87) hx hb dX3_shift_18 (by decide) (by omega) (by omega) (fun h_12 => ?_) (fun h_12 => ?_)
        · rw [← hQ]
          exact W.vret hx hb hr (fun t ht hW => ⟨⟨vc5, rfl, ⟨I_9, (fr_tr f_8 rfl fr_rf)⟩, by rw [ht]; exact hP, va_K.moved hW.alike hK, hD⟩, hS.F ht⟩) hS.2.2 dX3_shift_87
        · refine lv_iload hx hb dX3_shift_21 (lv_at hl 0 rfl) ?_
          refine lv_aload_n hx hb dX3_shift_23 rfl (lv_at hl 3 rfl) ?_
          refine lx_52 (y := 60) hx hb hK hP q1 (by omega) (by omega) dX3_shift_24 ?_
          refine xr_icmp_ge (tgt := 87) hx hb dX3_shift_25 (by decide) (by omega) (by omega) (fun h_13 => ?_) (fun h_13 => ?_)
          · exfalso; omega
          · refine lv_aload_n hx hb dX3_shift_28 rfl (lv_at hl 3 rfl) ?_
            refine lv_iload hx hb dX3_shift_29 (lv_at hl 0 rfl) ?_
            have h_14 : (-2147483648) ≤ vc5 p1 a4_5 ∧ vc5 p1 a4_5 ≤ 2147483647 := xe_52 I_9 q1 (by omega)
            refine ax_52 (y := vc5 p1 a4_5) hx hb hK hP q1 (by omega) (by omega) (by omega) rfl dX3_shift_31 ?_
            refine lv_aload_n hx hb dX3_shift_32 rfl (lv_at hl 2 rfl) ?_
            have h_15 : ok L K (v p0 4) 52 := xf_3_4 hI q0
            have h_16 : N (v p0 4) = 60 := xn_52 hI h_15
            refine gx_RX3_24 (y := v p0 4) hx hb hj hown hK hP q0 ((xf_3_4 I_9 q0).1) (fr_use q0 f_8 rfl) dX3_shift_33 ?_
            refine lv_iload hx hb dX3_shift_36 (lv_at hl 0 rfl) ?_
            have h_17 : (-2147483648) ≤ vc5 (v p0 4) a4_5 ∧ vc5 (v p0 4) a4_5 ≤ 2147483647 := xe_52 I_9 h_15 (by omega)
            refine ax_52 (y := vc5 (v p0 4) a4_5) hx hb hK hP h_15 (by omega) (by omega) (by omega) rfl dX3_shift_38 ?_
            refine xr_sub hx hb dX3_shift_39 ?_
            refine xr_kept (fun z_18 h_19 h_20 => ?_)
            refine lv_istore (i := 5) (lv' := [(5, .int (iI z_18)), (4, .int (iI a4_5)), (3, .int (iI a3_5)), (0, .ref p0.toNat), (1, .ref p1.toNat), (2, .int (iI p2))]) hx hb dX3_shift_40 hl (by decide) rfl (fun ls hl => ?_)
            refine lv_iload_n hx hb dX3_shift_42 rfl (lv_at hl 2 rfl) ?_
            refine lv_iload hx hb dX3_shift_43 (lv_at hl 0 rfl) ?_
            refine va_mabs hx hb (by rw [hml]; exact hl.1.symm) hown (hj _ m_849) (hj _ m_850) (hj _ m_762) (hj _ m_851) (Nat.le_of_ble_eq_true rfl) (Nat.le_of_ble_eq_true rfl) (Nat.le_of_ble_eq_true rfl) (Nat.le_of_ble_eq_true rfl) dX3_shift_45 ?_
            refine xr_any (fun z_21 h_22 => ?_)
            refine va_mmin hx hb (by rw [hml]; exact hl.1.symm) hown (hj _ m_852) (hj _ m_765) (hj _ m_762) (hj _ m_766) (Nat.le_of_ble_eq_true rfl) (Nat.le_of_ble_eq_true rfl) (Nat.le_of_ble_eq_true rfl) (Nat.le_of_ble_eq_true rfl) dX3_shift_48 ?_
            refine xm_min (by omega) (by omega) (fun z_23 h_24 => ?_)
            refine lv_istore (i := 6) (lv' := [(6, .int (iI z_23)), (5, .int (iI z_18)), (4, .int (iI a4_5)), (3, .int (iI a3_5)), (0, .ref p0.toNat), (1, .ref p1.toNat), (2, .int (iI p2))]) hx hb dX3_shift_51 hl (by decide) rfl (fun ls hl => ?_)
            refine lv_aload_n hx hb dX3_shift_53 rfl (lv_at hl 4 rfl) ?_
            refine gx_RX3_24 (y := v p0 4) hx hb hj hown hK hP q0 ((xf_3_4 I_9 q0).1) (fr_use q0 f_8 rfl) dX3_shift_54 ?_
            refine lv_iload hx hb dX3_shift_57 (lv_at hl 2 rfl) ?_
            refine lv_dup2_11 hx hb dX3_shift_59 rfl rfl ?_
            refine ax_52 (y := vc5 (v p0 4) a4_5) hx hb hK hP h_15 (by omega) (by omega) (by omega) rfl dX3_shift_60 ?_
            refine lv_iload hx hb dX3_shift_61 (lv_at hl 1 rfl) ?_
            have J74 : ∀ (s0_74 : Int) (H : Heap) (locs : List Loc) (ls : Array Slot), ((-2147483648) ≤ s0_74 ∧ s0_74 ≤ 2147483647) → va_P (dC, dI) vwCl (xG L cid K N vc5) H → va_D A (xG L cid K N vc5) → va_S A s.heap H locs → lv_has ls 7 [(6, .int (iI z_23)), (5, .int (iI z_18)), (4, .int (iI a4_5)), (3, .int (iI a3_5)), (0, .ref p0.toNat), (1, .ref p1.toNat), (2, .int (iI p2))] → W p l e ({ frames := 1, cells := 0, slots := 0, locals := 40 }) s m ([.ref p0.toNat, .ref p1.toNat, .int (iI p2)] : List Value).toArray below meth c H locs 0 0 Q (F0 m 74 ls [.int (iI s0_74), .int (iI (vc5 (v p0 4) a4_5)), .int (iI a4_5), .ref (v p0 4).toNat]) := by
              intro s0_74 H locs ls h_25 hP hD hS hl
              refine xr_add hx hb dX3_shift_74 ?_
              refine xr_kept (fun z_26 h_27 h_28 => ?_)
              refine sx_52 (y := z_26) hx hb hK hP hD hS I_9 h_15 (by omega) (by omega) (by omega) ⟨by omega, by omega⟩ dX3_shift_75 (fun v_29 H locs f_30 e_31 o_32 I_33 hP hD hS => ?_)
              refine lv_iload_n hx hb dX3_shift_76 rfl (lv_at hl 3 rfl) ?_
              refine lv_iload hx hb dX3_shift_77 (lv_at hl 0 rfl) ?_
              refine xr_sub hx hb dX3_shift_79 ?_
              refine xr_kept (fun z_34 h_35 h_36 => ?_)
              refine lv_istore_n (i := 3) (lv' := [(3, .int (iI z_34)), (6, .int (iI z_23)), (5, .int (iI z_18)), (4, .int (iI a4_5)), (0, .ref p0.toNat), (1, .ref p1.toNat), (2, .int (iI p2))]) hx hb dX3_shift_80 rfl hl (by decide) rfl (fun ls hl => ?_)
              refine lv_iinc (v := iI (a4_5 + 1)) (lv' := [(4, .int (iI (a4_5 + 1))), (3, .int (iI z_34)), (6, .int (iI z_23)), (5, .int (iI z_18)), (0, .ref p0.toNat), (1, .ref p1.toNat), (2, .int (iI p2))]) hx hb dX3_shift_81 hl (k := 3) rfl (iI_add _ _) (by decide) rfl (fun ls hl => ?_)
              refine lv_goto (tgt := 5) hx hb dX3_shift_84 (by decide) ?_
              exact ih5 (a4_5 + 1) z_34 v_29 H locs ls (by omega) (by omega) (by omega) (fr_tr f_30 rfl (fr_tr f_8 rfl fr_rf)) I_33 hP hD hS (lv_sub hl [0, 1, 4, 5, 6] rfl)
            refine xr_if_ge (tgt := 72) hx hb dX3_shift_63 (by decide) (by omega) (fun h_37 => ?_) (fun h_37 => ?_)
            · refine lv_iload hx hb dX3_shift_72 (lv_at hl 0 rfl) ?_
              exact J74 z_23 H locs ls (by omega) hP hD hS hl
            · refine lv_iload hx hb dX3_shift_66 (lv_at hl 0 rfl) ?_
              refine lv_ineg hx hb dX3_shift_68 ?_
              refine xr_any (fun z_38 h_39 => ?_)
              refine lv_goto (tgt := 74) hx hb dX3_shift_69 (by decide) ?_
              exact J74 z_38 H locs ls (by omega) hP hD hS hl
  exact L5 ((((v p0 5) - 0 : Int)).toNat + 1) 0 p2 v H locs ls (by omega) (by omega) (by omega) fr_rf hI hP hD hS hl
