set_option maxHeartbeats 2000000 in
set_option maxRecDepth 100000 in
theorem sX12_ofArticle (l : Launch) (dC : Nat → ClassId) (dI : Nat → Nat → Nat) (sz : Nat) (L : List Nat) (cid : Nat → ClassId) (K : Int → Nat) (N : Int → Int) (tW : Nat) (sK sV : Nat → Nat) (v : Int → Int → Int) (p0 : Int) (p1 : Int) (p2 : Int) (hI : xI L K N v) (q0 : ok L K p0 12) (q1 : ok L K p1 0) (q2 : rg p2) : Met l yX12_ofArticle (jk yX12_ofArticle cX12_ofArticle 3 (some .int)) ({ frames := 2, cells := 0, slots := 0, locals := 43 }) (va_Pc [.ref p0.toNat, .ref p1.toNat, .int (iI p2)] (xP (dC, dI) (xG L cid K N v) (xT cid) tW sK sV sz)) (va_Qi (fun (r : Int32) (_ : Unit) => ∃ z : Int, r = iI z ∧ (rg z)) (fun _ _ => True) (va_A [] sz)) 0 0 (va_A [] sz) := by
  refine Met.ofW (cc := cX12_ofArticle) (maxL := 3) (ret := (some .int)) (by decide) rfl ?_
  intro p e s m args below meth c s₁ B hml hv
  obtain ⟨rfl, ⟨hsz, hP, hK, hD0⟩, hX⟩ := hv
  have hx := B.exec
  have hb := B.bytes
  have hr := B.returns
  have hts := atoms_spec (ws := (jk yX12_ofArticle cX12_ofArticle 3 (some .int))) B.pre
  have hj : ∀ w ∈ jw, w.before ([.ref p0.toNat, .ref p1.toNat, .int (iI p2)] : List Value).toArray s = true := fun w h => hts w (jm h)
  have hown : s.vm.findClass RX12 = some m.cls := findClass_of_methodNamed B.named
  subst hsz
  have hDw := hD0.self (sz := s.heap.size)
  have hAA : ∀ q : Nat, s.heap.size ≤ q → va_A (xG L cid K N v) s.heap.size q := fun q h => Or.inr h
  have hAw : ∀ q, va_A [] s.heap.size q → va_A (xG L cid K N v) s.heap.size q := ja_nil va_S.rf hAA
  generalize hAe : (va_A [] s.heap.size) = A at hAw ⊢
  have hA : ∀ q : Nat, s.heap.size ≤ q → A q := fun q h => by rw [← hAe]; exact Or.inr h
  have hS : va_S A s.heap s.heap [] := va_S.rf
  have hXa := hX.nar hAw
  have hP : va_P (dC, dI) vwCl (xG L cid K N v) s.heap := hP
  have hl := lv_entry ([.ref p0.toNat, .ref p1.toNat, .int (iI p2)]) (n := 3) (Nat.le_of_ble_eq_true rfl)
  rw [lg_entry_eq]
  generalize (lg_sl ([.ref p0.toNat, .ref p1.toNat, .int (iI p2)]) ++ List.replicate (3 - (lg_sl ([.ref p0.toNat, .ref p1.toNat, .int (iI p2)])).length) Slot.unset).toArray = ls at hl ⊢
  have hl : lv_has ls 3 [(0, .ref p0.toNat), (1, .ref p1.toNat), (2, .int (iI p2))] := hl
  generalize hQ : MQ below (va_Qi (fun (r : Int32) (_ : Unit) => ∃ z : Int, r = iI z ∧ (rg z)) (fun _ _ => True) A) ([.ref p0.toNat, .ref p1.toNat, .int (iI p2)] : List Value).toArray s 0 0 A = Q
  suffices ST : ∀ (H : Heap) (locs : List Loc), va_P (dC, dI) vwCl (xG L cid K N v) H → va_S A s.heap H locs → W p l e ({ frames := 2, cells := 0, slots := 0, locals := 43 }) s m ([.ref p0.toNat, .ref p1.toNat, .int (iI p2)] : List Value).toArray below meth c H locs 0 0 Q (F0 m 0 ls []) from ST _ _ hP hS
  clear hP hS
  intro H locs hP hS
  refine lv_iload_n hx hb dX12_ofArticle_0 rfl (lv_at hl 2 rfl) ?_
  rcases (show (p2 < 1 ∨ 8 < p2) ∨ p2 = 1 ∨ p2 = 2 ∨ p2 = 3 ∨ p2 = 4 ∨ p2 = 5 ∨ p2 = 6 ∨ p2 = 7 ∨ p2 = 8 by omega) with h_1 | h_1 | h_1 | h_1 | h_1 | h_1 | h_1 | h_1 | h_1
  · refine lv_tableOut (tgt := 95) hx hb dX12_ofArticle_1 (by rw [iI_toInt (by omega)]; omega) (by decide) ?_
    refine lv_iconst (v := iI (-1)) hx hb dX12_ofArticle_95 rfl ?_
    rw [← hQ]
    exact W.iret (v := iI (-1)) hx hb hr (fun t ht hW => ⟨⟨iI (-1), (), rfl, ⟨(-1), rfl, by omega⟩, trivial⟩, hS.F ht⟩) hS.2.2 dX12_ofArticle_96
  · refine jtab_in (v := iI 1) (off := 47) (tgt := 48) hx hb dX12_ofArticle_1 (by rw [h_1]) (by decide) (by decide) (by decide) (by decide) ?_
    refine lv_aload_n hx hb dX12_ofArticle_48 rfl (lv_at hl 1 rfl) ?_
    have h_2 : (-2147483648) ≤ v p1 7 ∧ v p1 7 ≤ 2147483647 := xf_0_7 hI q1
    refine gx_RX12_177 (y := v p1 7) hx hb hj hown hK hP q1 rfl dX12_ofArticle_49 ?_
    rw [← hQ]
    exact W.iret (v := iI (v p1 7)) hx hb hr (fun t ht hW => ⟨⟨iI (v p1 7), (), rfl, ⟨v p1 7, rfl, by omega⟩, trivial⟩, hS.F ht⟩) hS.2.2 dX12_ofArticle_52
  · refine jtab_in (v := iI 2) (off := 52) (tgt := 53) hx hb dX12_ofArticle_1 (by rw [h_1]) (by decide) (by decide) (by decide) (by decide) ?_
    refine lv_aload_n hx hb dX12_ofArticle_53 rfl (lv_at hl 1 rfl) ?_
    have h_3 : (-2147483648) ≤ v p1 8 ∧ v p1 8 ≤ 2147483647 := xf_0_8 hI q1
    refine gx_RX12_180 (y := v p1 8) hx hb hj hown hK hP q1 rfl dX12_ofArticle_54 ?_
    rw [← hQ]
    exact W.iret (v := iI (v p1 8)) hx hb hr (fun t ht hW => ⟨⟨iI (v p1 8), (), rfl, ⟨v p1 8, rfl, by omega⟩, trivial⟩, hS.F ht⟩) hS.2.2 dX12_ofArticle_57
  · refine jtab_in (v := iI 3) (off := 57) (tgt := 58) hx hb dX12_ofArticle_1 (by rw [h_1]) (by decide) (by decide) (by decide) (by decide) ?_
    refine lv_aload_n hx hb dX12_ofArticle_58 rfl (lv_at hl 1 rfl) ?_
    have h_4 : 0 ≤ v p1 9 ∧ v p1 9 ≤ 200 := xf_0_9 hI q1
    refine gx_RX12_183 (y := v p1 9) hx hb hj hown hK hP q1 rfl dX12_ofArticle_59 ?_
    rw [← hQ]
    exact W.iret (v := iI (v p1 9)) hx hb hr (fun t ht hW => ⟨⟨iI (v p1 9), (), rfl, ⟨v p1 9, rfl, by omega⟩, trivial⟩, hS.F ht⟩) hS.2.2 dX12_ofArticle_62
  · refine jtab_in (v := iI 4) (off := 94) (tgt := 95) hx hb dX12_ofArticle_1 (by rw [h_1]) (by decide) (by decide) (by decide) (by decide) ?_
    refine lv_iconst (v := iI (-1)) hx hb dX12_ofArticle_95 rfl ?_
    rw [← hQ]
    exact W.iret (v := iI (-1)) hx hb hr (fun t ht hW => ⟨⟨iI (-1), (), rfl, ⟨(-1), rfl, by omega⟩, trivial⟩, hS.F ht⟩) hS.2.2 dX12_ofArticle_96
  · refine jtab_in (v := iI 5) (off := 62) (tgt := 63) hx hb dX12_ofArticle_1 (by rw [h_1]) (by decide) (by decide) (by decide) (by decide) ?_
    refine lv_aload_n hx hb dX12_ofArticle_63 rfl (lv_at hl 1 rfl) ?_
    have h_5 : (-2147483648) ≤ v p1 14 ∧ v p1 14 ≤ 2147483647 := xf_0_14 hI q1
    refine gx_RX12_313 (y := v p1 14) hx hb hj hown hK hP q1 rfl dX12_ofArticle_64 ?_
    rw [← hQ]
    exact W.iret (v := iI (v p1 14)) hx hb hr (fun t ht hW => ⟨⟨iI (v p1 14), (), rfl, ⟨v p1 14, rfl, by omega⟩, trivial⟩, hS.F ht⟩) hS.2.2 dX12_ofArticle_67
  · refine jtab_in (v := iI 6) (off := 67) (tgt := 68) hx hb dX12_ofArticle_1 (by rw [h_1]) (by decide) (by decide) (by decide) (by decide) ?_
    refine lv_aload_n hx hb dX12_ofArticle_68 rfl (lv_at hl 1 rfl) ?_
    refine jc_i (va_runV (As := []) (rest := []) ⟨hx, hb, hml, hown, hts⟩ (sX0_isDone l dC dI _ L cid K N tW sK sV v p1 hI q1) (cwV 0 hts (jgoodV m_1097 m_1098 m_1099 m_666 m_1100) rfl rfl rfl (by decide +kernel) ⟨(Nat.le_of_ble_eq_true rfl), (Nat.le_of_ble_eq_true rfl)⟩) ⟨xP_blind, xrecv hK hP q1 rfl rfl, fun U hU hW => ⟨rfl, xP_of hU hW hP hK hDw hX hS hAw hAA⟩⟩ rfl rfl hl.1 rfl (lv_room (Nat.le_of_ble_eq_true rfl)) dX12_ofArticle_69 ⟨(Nat.le_of_ble_eq_true rfl), (Nat.le_of_ble_eq_true rfl)⟩) hP hS hA (fun r_6 H locs w_7 hP hS => ?_)
    obtain ⟨z_8, rfl, h_9, h_10⟩ := w_7
    have h_11 : 0 ≤ v p1 15 ∧ v p1 15 ≤ 200 := xf_0_15 hI q1
    have h_12 : 0 ≤ v p1 9 ∧ v p1 9 ≤ 200 := xf_0_9 hI q1
    refine xr_if_eq (tgt := 79) hx hb dX12_ofArticle_72 (by decide) (by omega) (fun h_13 => ?_) (fun h_13 => ?_)
    · refine lv_iconst (v := iI 0) hx hb dX12_ofArticle_79 rfl ?_
      rw [← hQ]
      exact W.iret (v := iI 0) hx hb hr (fun t ht hW => ⟨⟨iI 0, (), rfl, ⟨0, rfl, by omega⟩, trivial⟩, hS.F ht⟩) hS.2.2 dX12_ofArticle_80
    · refine lv_iconst (v := iI 1) hx hb dX12_ofArticle_75 rfl ?_
      refine lv_goto (tgt := 80) hx hb dX12_ofArticle_76 (by decide) ?_
      rw [← hQ]
      exact W.iret (v := iI 1) hx hb hr (fun t ht hW => ⟨⟨iI 1, (), rfl, ⟨1, rfl, by omega⟩, trivial⟩, hS.F ht⟩) hS.2.2 dX12_ofArticle_80
  · refine jtab_in (v := iI 7) (off := 94) (tgt := 95) hx hb dX12_ofArticle_1 (by rw [h_1]) (by decide) (by decide) (by decide) (by decide) ?_
    refine lv_iconst (v := iI (-1)) hx hb dX12_ofArticle_95 rfl ?_
    rw [← hQ]
    exact W.iret (v := iI (-1)) hx hb hr (fun t ht hW => ⟨⟨iI (-1), (), rfl, ⟨(-1), rfl, by omega⟩, trivial⟩, hS.F ht⟩) hS.2.2 dX12_ofArticle_96
  · refine jtab_in (v := iI 8) (off := 80) (tgt := 81) hx hb dX12_ofArticle_1 (by rw [h_1]) (by decide) (by decide) (by decide) (by decide) ?_
    refine lv_aload_n hx hb dX12_ofArticle_81 rfl (lv_at hl 0 rfl) ?_
    refine lv_aload_n hx hb dX12_ofArticle_82 rfl (lv_at hl 1 rfl) ?_
    refine jc_i (va_runV (As := [.ref p1.toNat]) (rest := []) ⟨hx, hb, hml, hown, hts⟩ (sX12_hangs l dC dI _ L cid K N tW sK sV v p0 p1 hI q0 q1) (cwV 1 hts (jgoodV m_1113 m_1114 m_1115 m_873 m_1116) rfl rfl rfl (by decide +kernel) ⟨(Nat.le_of_ble_eq_true rfl), (Nat.le_of_ble_eq_true rfl)⟩) ⟨xP_blind, xrecv hK hP q0 rfl rfl, fun U hU hW => ⟨rfl, xP_of hU hW hP hK hDw hX hS hAw hAA⟩⟩ rfl rfl hl.1 rfl (lv_room (Nat.le_of_ble_eq_true rfl)) dX12_ofArticle_83 ⟨(Nat.le_of_ble_eq_true rfl), (Nat.le_of_ble_eq_true rfl)⟩) hP hS hA (fun r_14 H locs w_15 hP hS => ?_)
    obtain ⟨z_16, rfl, h_17⟩ := w_15
    refine xr_if_eq (tgt := 93) hx hb dX12_ofArticle_86 (by decide) (by omega) (fun h_18 => ?_) (fun h_18 => ?_)
    · refine lv_iconst (v := iI 0) hx hb dX12_ofArticle_93 rfl ?_
      rw [← hQ]
      exact W.iret (v := iI 0) hx hb hr (fun t ht hW => ⟨⟨iI 0, (), rfl, ⟨0, rfl, by omega⟩, trivial⟩, hS.F ht⟩) hS.2.2 dX12_ofArticle_94
    · refine lv_iconst (v := iI 1) hx hb dX12_ofArticle_89 rfl ?_
      refine lv_goto (tgt := 94) hx hb dX12_ofArticle_90 (by decide) ?_
      rw [← hQ]
      exact W.iret (v := iI 1) hx hb hr (fun t ht hW => ⟨⟨iI 1, (), rfl, ⟨1, rfl, by omega⟩, trivial⟩, hS.F ht⟩) hS.2.2 dX12_ofArticle_94
set_option maxHeartbeats 2000000 in
set_option maxRecDepth 100000 in
theorem sX12_is (l : Launch) (dC : Nat → ClassId) (dI : Nat → Nat → Nat) (sz : Nat) (L : List Nat) (cid : Nat → ClassId) (K : Int → Nat) (N : Int → Int) (tW : Nat) (sK sV : Nat → Nat) (v : Int → Int → Int) (p0 : Int) (p1 : Int) (p2 : Int) (hI : xI L K N v) (q0 : ok L K p0 12) (q1 : rg p1) (q2 : rg p2) : Met l yX12_is (jk yX12_is cX12_is 4 (some .int)) ({ frames := 3, cells := 0, slots := 0, locals := 65 }) (va_Pc [.ref p0.toNat, .int (iI p1), .int (iI p2)] (xP (dC, dI) (xG L cid K N v) (xT cid) tW sK sV sz)) (va_Qi (fun (r : Int32) (_ : Unit) => ∃ z : Int, r = iI z ∧ (rg z)) (fun _ _ => True) (va_A [] sz)) 0 0 (va_A [] sz) := by
  refine Met.ofW (cc := cX12_is) (maxL := 4) (ret := (some .int)) (by decide) rfl ?_
  intro p e s m args below meth c s₁ B hml hv
  obtain ⟨rfl, ⟨hsz, hP, hK, hD0⟩, hX⟩ := hv
  have hx := B.exec
  have hb := B.bytes
  have hr := B.returns
  have hts := atoms_spec (ws := (jk yX12_is cX12_is 4 (some .int))) B.pre
  have hj : ∀ w ∈ jw, w.before ([.ref p0.toNat, .int (iI p1), .int (iI p2)] : List Value).toArray s = true := fun w h => hts w (jm h)
  have hown : s.vm.findClass RX12 = some m.cls := findClass_of_methodNamed B.named
  subst hsz
  have hDw := hD0.self (sz := s.heap.size)
  have hAA : ∀ q : Nat, s.heap.size ≤ q → va_A (xG L cid K N v) s.heap.size q := fun q h => Or.inr h
  have hAw : ∀ q, va_A [] s.heap.size q → va_A (xG L cid K N v) s.heap.size q := ja_nil va_S.rf hAA
  generalize hAe : (va_A [] s.heap.size) = A at hAw ⊢
  have hA : ∀ q : Nat, s.heap.size ≤ q → A q := fun q h => by rw [← hAe]; exact Or.inr h
  have hS : va_S A s.heap s.heap [] := va_S.rf
  have hXa := hX.nar hAw
  have hP : va_P (dC, dI) vwCl (xG L cid K N v) s.heap := hP
  have hl := lv_entry ([.ref p0.toNat, .int (iI p1), .int (iI p2)]) (n := 4) (Nat.le_of_ble_eq_true rfl)
  rw [lg_entry_eq]
  generalize (lg_sl ([.ref p0.toNat, .int (iI p1), .int (iI p2)]) ++ List.replicate (4 - (lg_sl ([.ref p0.toNat, .int (iI p1), .int (iI p2)])).length) Slot.unset).toArray = ls at hl ⊢
  have hl : lv_has ls 4 [(0, .ref p0.toNat), (1, .int (iI p1)), (2, .int (iI p2))] := hl
  generalize hQ : MQ below (va_Qi (fun (r : Int32) (_ : Unit) => ∃ z : Int, r = iI z ∧ (rg z)) (fun _ _ => True) A) ([.ref p0.toNat, .int (iI p1), .int (iI p2)] : List Value).toArray s 0 0 A = Q
  suffices ST : ∀ (H : Heap) (locs : List Loc), va_P (dC, dI) vwCl (xG L cid K N v) H → va_S A s.heap H locs → W p l e ({ frames := 3, cells := 0, slots := 0, locals := 65 }) s m ([.ref p0.toNat, .int (iI p1), .int (iI p2)] : List Value).toArray below meth c H locs 0 0 Q (F0 m 0 ls []) from ST _ _ hP hS
  clear hP hS
  intro H locs hP hS
  refine lv_aload_n hx hb dX12_is_0 rfl (lv_at hl 0 rfl) ?_
  refine lv_iload_n hx hb dX12_is_1 rfl (lv_at hl 1 rfl) ?_
  refine jc_q (va_runV (As := [.int (iI p1)]) (rest := []) ⟨hx, hb, hml, hown, hts⟩ (sX12_entryAt l dC dI _ L cid K N tW sK sV v p0 p1 hI q0 (by omega)) (cwV 1 hts (jgoodV m_870 m_871 m_872 m_873 m_874) rfl rfl rfl (by decide +kernel) ⟨(Nat.le_of_ble_eq_true rfl), (Nat.le_of_ble_eq_true rfl)⟩) ⟨xP_blind, xrecv hK hP q0 rfl rfl, fun U hU hW => ⟨rfl, xP_of hU hW hP hK hDw hX hS hAw hAA⟩⟩ rfl rfl hl.1 rfl (lv_room (Nat.le_of_ble_eq_true rfl)) dX12_is_2 ⟨(Nat.le_of_ble_eq_true rfl), (Nat.le_of_ble_eq_true rfl)⟩) hP hS hA (fun r_1 H locs w_2 hP hS => ?_)
  obtain ⟨z_3, rfl, h_4⟩ := w_2
  refine jt_q (rv z_3) rfl ?_
  refine xq_astore_n (i := 3) (lv' := [(3, rv z_3), (0, .ref p0.toNat), (1, .int (iI p1)), (2, .int (iI p2))]) hx hb dX12_is_5 rfl hl (by decide) rfl (fun ls hl => ?_)
  refine xq_aload_n hx hb dX12_is_6 rfl (lv_at hl 0 rfl) ?_
  refine xq_ifnonnull (tgt := 12) hx hb dX12_is_7 (by decide) (fun h_5 => ?_) (fun h_5 => ?_)
  · have h_6 : ok L K z_3 0 := h_4.resolve_left (by omega)
    refine lv_iload_n hx hb dX12_is_12 rfl (lv_at hl 3 rfl) ?_
    rcases (show (p2 < 0 ∨ 9 < p2) ∨ p2 = 0 ∨ p2 = 1 ∨ p2 = 2 ∨ p2 = 3 ∨ p2 = 4 ∨ p2 = 5 ∨ p2 = 6 ∨ p2 = 7 ∨ p2 = 8 ∨ p2 = 9 by omega) with h_7 | h_7 | h_7 | h_7 | h_7 | h_7 | h_7 | h_7 | h_7 | h_7 | h_7
    · refine lv_tableOut (tgt := 129) hx hb dX12_is_13 (by rw [iI_toInt (by omega)]; omega) (by decide) ?_
      refine xq_aload_n hx hb dX12_is_129 rfl (lv_at hl 0 rfl) ?_
      refine jt_q (.ref z_3.toNat) (rv_ref (h_6).1) ?_
      have h_8 : (-2147483648) ≤ v z_3 1 ∧ v z_3 1 ≤ 2147483647 := xf_0_1 hI h_6
      refine gx_RX12_240 (y := v z_3 1) hx hb hj hown hK hP h_6 rfl dX12_is_130 ?_
      refine xr_if_ne (tgt := 145) hx hb dX12_is_133 (by decide) (by omega) (fun h_9 => ?_) (fun h_9 => ?_)
      · refine lv_iconst (v := iI (-1)) hx hb dX12_is_145 rfl ?_
        rw [← hQ]
        exact W.iret (v := iI (-1)) hx hb hr (fun t ht hW => ⟨⟨iI (-1), (), rfl, ⟨(-1), rfl, by omega⟩, trivial⟩, hS.F ht⟩) hS.2.2 dX12_is_146
      · refine lv_aload_n hx hb dX12_is_136 rfl (lv_at hl 1 rfl) ?_
        refine xq_aload_n hx hb dX12_is_137 rfl (lv_at hl 0 rfl) ?_
        refine jt_q (.ref z_3.toNat) (rv_ref (h_6).1) ?_
        refine lv_iload_n hx hb dX12_is_138 rfl (lv_at hl 3 rfl) ?_
        refine jc_i (va_runV (As := [.ref z_3.toNat, .int (iI p2)]) (rest := []) ⟨hx, hb, hml, hown, hts⟩ (sX12_ofArticle l dC dI _ L cid K N tW sK sV v p0 z_3 p2 hI q0 h_6 (by omega)) (cwV 2 hts (jgoodV m_1279 m_1280 m_1281 m_873 m_1282) rfl rfl rfl (by decide +kernel) ⟨(Nat.le_of_ble_eq_true rfl), (Nat.le_of_ble_eq_true rfl)⟩) ⟨xP_blind, xrecv hK hP q0 rfl rfl, fun U hU hW => ⟨rfl, xP_of hU hW hP hK hDw hX hS hAw hAA⟩⟩ rfl rfl hl.1 rfl (lv_room (Nat.le_of_ble_eq_true rfl)) dX12_is_139 ⟨(Nat.le_of_ble_eq_true rfl), (Nat.le_of_ble_eq_true rfl)⟩) hP hS hA (fun r_10 H locs w_11 hP hS => ?_)
        obtain ⟨z_12, rfl, h_13⟩ := w_11
        refine lv_goto (tgt := 146) hx hb dX12_is_142 (by decide) ?_
        rw [← hQ]
        exact W.iret (v := iI z_12) hx hb hr (fun t ht hW => ⟨⟨iI z_12, (), rfl, ⟨z_12, rfl, by omega⟩, trivial⟩, hS.F ht⟩) hS.2.2 dX12_is_146
    · refine jtab_in (v := iI 0) (off := 55) (tgt := 68) hx hb dX12_is_13 (by rw [h_7]) (by decide) (by decide) (by decide) (by decide) ?_
      refine xq_aload_n hx hb dX12_is_68 rfl (lv_at hl 0 rfl) ?_
      refine jt_q (.ref z_3.toNat) (rv_ref (h_6).1) ?_
      have h_14 : (-2147483648) ≤ v z_3 1 ∧ v z_3 1 ≤ 2147483647 := xf_0_1 hI h_6
      refine gx_RX12_240 (y := v z_3 1) hx hb hj hown hK hP h_6 rfl dX12_is_69 ?_
      rw [← hQ]
      exact W.iret (v := iI (v z_3 1)) hx hb hr (fun t ht hW => ⟨⟨iI (v z_3 1), (), rfl, ⟨v z_3 1, rfl, by omega⟩, trivial⟩, hS.F ht⟩) hS.2.2 dX12_is_72
    · refine jtab_in (v := iI 1) (off := 116) (tgt := 129) hx hb dX12_is_13 (by rw [h_7]) (by decide) (by decide) (by decide) (by decide) ?_
      refine xq_aload_n hx hb dX12_is_129 rfl (lv_at hl 0 rfl) ?_
      refine jt_q (.ref z_3.toNat) (rv_ref (h_6).1) ?_
      have h_15 : (-2147483648) ≤ v z_3 1 ∧ v z_3 1 ≤ 2147483647 := xf_0_1 hI h_6
      refine gx_RX12_240 (y := v z_3 1) hx hb hj hown hK hP h_6 rfl dX12_is_130 ?_
      refine xr_if_ne (tgt := 145) hx hb dX12_is_133 (by decide) (by omega) (fun h_16 => ?_) (fun h_16 => ?_)
      · refine lv_iconst (v := iI (-1)) hx hb dX12_is_145 rfl ?_
        rw [← hQ]
        exact W.iret (v := iI (-1)) hx hb hr (fun t ht hW => ⟨⟨iI (-1), (), rfl, ⟨(-1), rfl, by omega⟩, trivial⟩, hS.F ht⟩) hS.2.2 dX12_is_146
      · refine lv_aload_n hx hb dX12_is_136 rfl (lv_at hl 1 rfl) ?_
        refine xq_aload_n hx hb dX12_is_137 rfl (lv_at hl 0 rfl) ?_
        refine jt_q (.ref z_3.toNat) (rv_ref (h_6).1) ?_
        refine lv_iload_n hx hb dX12_is_138 rfl (lv_at hl 3 rfl) ?_
        refine jc_i (va_runV (As := [.ref z_3.toNat, .int (iI p2)]) (rest := []) ⟨hx, hb, hml, hown, hts⟩ (sX12_ofArticle l dC dI _ L cid K N tW sK sV v p0 z_3 p2 hI q0 h_6 (by omega)) (cwV 2 hts (jgoodV m_1279 m_1280 m_1281 m_873 m_1282) rfl rfl rfl (by decide +kernel) ⟨(Nat.le_of_ble_eq_true rfl), (Nat.le_of_ble_eq_true rfl)⟩) ⟨xP_blind, xrecv hK hP q0 rfl rfl, fun U hU hW => ⟨rfl, xP_of hU hW hP hK hDw hX hS hAw hAA⟩⟩ rfl rfl hl.1 rfl (lv_room (Nat.le_of_ble_eq_true rfl)) dX12_is_139 ⟨(Nat.le_of_ble_eq_true rfl), (Nat.le_of_ble_eq_true rfl)⟩) hP hS hA (fun r_17 H locs w_18 hP hS => ?_)
        obtain ⟨z_19, rfl, h_20⟩ := w_18
        refine lv_goto (tgt := 146) hx hb dX12_is_142 (by decide) ?_
        rw [← hQ]
        exact W.iret (v := iI z_19) hx hb hr (fun t ht hW => ⟨⟨iI z_19, (), rfl, ⟨z_19, rfl, by omega⟩, trivial⟩, hS.F ht⟩) hS.2.2 dX12_is_146
    · refine jtab_in (v := iI 2) (off := 116) (tgt := 129) hx hb dX12_is_13 (by rw [h_7]) (by decide) (by decide) (by decide) (by decide) ?_
      refine xq_aload_n hx hb dX12_is_129 rfl (lv_at hl 0 rfl) ?_
      refine jt_q (.ref z_3.toNat) (rv_ref (h_6).1) ?_
      have h_21 : (-2147483648) ≤ v z_3 1 ∧ v z_3 1 ≤ 2147483647 := xf_0_1 hI h_6
      refine gx_RX12_240 (y := v z_3 1) hx hb hj hown hK hP h_6 rfl dX12_is_130 ?_
      refine xr_if_ne (tgt := 145) hx hb dX12_is_133 (by decide) (by omega) (fun h_22 => ?_) (fun h_22 => ?_)
      · refine lv_iconst (v := iI (-1)) hx hb dX12_is_145 rfl ?_
        rw [← hQ]
        exact W.iret (v := iI (-1)) hx hb hr (fun t ht hW => ⟨⟨iI (-1), (), rfl, ⟨(-1), rfl, by omega⟩, trivial⟩, hS.F ht⟩) hS.2.2 dX12_is_146
      · refine lv_aload_n hx hb dX12_is_136 rfl (lv_at hl 1 rfl) ?_
        refine xq_aload_n hx hb dX12_is_137 rfl (lv_at hl 0 rfl) ?_
        refine jt_q (.ref z_3.toNat) (rv_ref (h_6).1) ?_
        refine lv_iload_n hx hb dX12_is_138 rfl (lv_at hl 3 rfl) ?_
        refine jc_i (va_runV (As := [.ref z_3.toNat, .int (iI p2)]) (rest := []) ⟨hx, hb, hml, hown, hts⟩ (sX12_ofArticle l dC dI _ L cid K N tW sK sV v p0 z_3 p2 hI q0 h_6 (by omega)) (cwV 2 hts (jgoodV m_1279 m_1280 m_1281 m_873 m_1282) rfl rfl rfl (by decide +kernel) ⟨(Nat.le_of_ble_eq_true rfl), (Nat.le_of_ble_eq_true rfl)⟩) ⟨xP_blind, xrecv hK hP q0 rfl rfl, fun U hU hW => ⟨rfl, xP_of hU hW hP hK hDw hX hS hAw hAA⟩⟩ rfl rfl hl.1 rfl (lv_room (Nat.le_of_ble_eq_true rfl)) dX12_is_139 ⟨(Nat.le_of_ble_eq_true rfl), (Nat.le_of_ble_eq_true rfl)⟩) hP hS hA (fun r_23 H locs w_24 hP hS => ?_)
        obtain ⟨z_25, rfl, h_26⟩ := w_24
        refine lv_goto (tgt := 146) hx hb dX12_is_142 (by decide) ?_
        rw [← hQ]
        exact W.iret (v := iI z_25) hx hb hr (fun t ht hW => ⟨⟨iI z_25, (), rfl, ⟨z_25, rfl, by omega⟩, trivial⟩, hS.F ht⟩) hS.2.2 dX12_is_146
    · refine jtab_in (v := iI 3) (off := 116) (tgt := 129) hx hb dX12_is_13 (by rw [h_7]) (by decide) (by decide) (by decide) (by decide) ?_
      refine xq_aload_n hx hb dX12_is_129 rfl (lv_at hl 0 rfl) ?_
      refine jt_q (.ref z_3.toNat) (rv_ref (h_6).1) ?_
      have h_27 : (-2147483648) ≤ v z_3 1 ∧ v z_3 1 ≤ 2147483647 := xf_0_1 hI h_6
      refine gx_RX12_240 (y := v z_3 1) hx hb hj hown hK hP h_6 rfl dX12_is_130 ?_
      refine xr_if_ne (tgt := 145) hx hb dX12_is_133 (by decide) (by omega) (fun h_28 => ?_) (fun h_28 => ?_)
      · refine lv_iconst (v := iI (-1)) hx hb dX12_is_145 rfl ?_
        rw [← hQ]
        exact W.iret (v := iI (-1)) hx hb hr (fun t ht hW => ⟨⟨iI (-1), (), rfl, ⟨(-1), rfl, by omega⟩, trivial⟩, hS.F ht⟩) hS.2.2 dX12_is_146
      · refine lv_aload_n hx hb dX12_is_136 rfl (lv_at hl 1 rfl) ?_
        refine xq_aload_n hx hb dX12_is_137 rfl (lv_at hl 0 rfl) ?_
        refine jt_q (.ref z_3.toNat) (rv_ref (h_6).1) ?_
        refine lv_iload_n hx hb dX12_is_138 rfl (lv_at hl 3 rfl) ?_
        refine jc_i (va_runV (As := [.ref z_3.toNat, .int (iI p2)]) (rest := []) ⟨hx, hb, hml, hown, hts⟩ (sX12_ofArticle l dC dI _ L cid K N tW sK sV v p0 z_3 p2 hI q0 h_6 (by omega)) (cwV 2 hts (jgoodV m_1279 m_1280 m_1281 m_873 m_1282) rfl rfl rfl (by decide +kernel) ⟨(Nat.le_of_ble_eq_true rfl), (Nat.le_of_ble_eq_true rfl)⟩) ⟨xP_blind, xrecv hK hP q0 rfl rfl, fun U hU hW => ⟨rfl, xP_of hU hW hP hK hDw hX hS hAw hAA⟩⟩ rfl rfl hl.1 rfl (lv_room (Nat.le_of_ble_eq_true rfl)) dX12_is_139 ⟨(Nat.le_of_ble_eq_true rfl), (Nat.le_of_ble_eq_true rfl)⟩) hP hS hA (fun r_29 H locs w_30 hP hS => ?_)
        obtain ⟨z_31, rfl, h_32⟩ := w_30
        refine lv_goto (tgt := 146) hx hb dX12_is_142 (by decide) ?_
        rw [← hQ]
        exact W.iret (v := iI z_31) hx hb hr (fun t ht hW => ⟨⟨iI z_31, (), rfl, ⟨z_31, rfl, by omega⟩, trivial⟩, hS.F ht⟩) hS.2.2 dX12_is_146
    · refine jtab_in (v := iI 4) (off := 60) (tgt := 73) hx hb dX12_is_13 (by rw [h_7]) (by decide) (by decide) (by decide) (by decide) ?_
      refine xq_aload_n hx hb dX12_is_73 rfl (lv_at hl 0 rfl) ?_
      refine jt_q (.ref z_3.toNat) (rv_ref (h_6).1) ?_
      have h_33 : 0 ≤ v z_3 15 ∧ v z_3 15 ≤ 200 := xf_0_15 hI h_6
      refine gx_RX12_342 (y := v z_3 15) hx hb hj hown hK hP h_6 rfl dX12_is_74 ?_
      rw [← hQ]
      exact W.iret (v := iI (v z_3 15)) hx hb hr (fun t ht hW => ⟨⟨iI (v z_3 15), (), rfl, ⟨v z_3 15, rfl, by omega⟩, trivial⟩, hS.F ht⟩) hS.2.2 dX12_is_77
    · refine jtab_in (v := iI 5) (off := 116) (tgt := 129) hx hb dX12_is_13 (by rw [h_7]) (by decide) (by decide) (by decide) (by decide) ?_
      refine xq_aload_n hx hb dX12_is_129 rfl (lv_at hl 0 rfl) ?_
      refine jt_q (.ref z_3.toNat) (rv_ref (h_6).1) ?_
      have h_34 : (-2147483648) ≤ v z_3 1 ∧ v z_3 1 ≤ 2147483647 := xf_0_1 hI h_6
      refine gx_RX12_240 (y := v z_3 1) hx hb hj hown hK hP h_6 rfl dX12_is_130 ?_
      refine xr_if_ne (tgt := 145) hx hb dX12_is_133 (by decide) (by omega) (fun h_35 => ?_) (fun h_35 => ?_)
      · refine lv_iconst (v := iI (-1)) hx hb dX12_is_145 rfl ?_
        rw [← hQ]
        exact W.iret (v := iI (-1)) hx hb hr (fun t ht hW => ⟨⟨iI (-1), (), rfl, ⟨(-1), rfl, by omega⟩, trivial⟩, hS.F ht⟩) hS.2.2 dX12_is_146
      · refine lv_aload_n hx hb dX12_is_136 rfl (lv_at hl 1 rfl) ?_
        refine xq_aload_n hx hb dX12_is_137 rfl (lv_at hl 0 rfl) ?_
        refine jt_q (.ref z_3.toNat) (rv_ref (h_6).1) ?_
        refine lv_iload_n hx hb dX12_is_138 rfl (lv_at hl 3 rfl) ?_
        refine jc_i (va_runV (As := [.ref z_3.toNat, .int (iI p2)]) (rest := []) ⟨hx, hb, hml, hown, hts⟩ (sX12_ofArticle l dC dI _ L cid K N tW sK sV v p0 z_3 p2 hI q0 h_6 (by omega)) (cwV 2 hts (jgoodV m_1279 m_1280 m_1281 m_873 m_1282) rfl rfl rfl (by decide +kernel) ⟨(Nat.le_of_ble_eq_true rfl), (Nat.le_of_ble_eq_true rfl)⟩) ⟨xP_blind, xrecv hK hP q0 rfl rfl, fun U hU hW => ⟨rfl, xP_of hU hW hP hK hDw hX hS hAw hAA⟩⟩ rfl rfl hl.1 rfl (lv_room (Nat.le_of_ble_eq_true rfl)) dX12_is_139 ⟨(Nat.le_of_ble_eq_true rfl), (Nat.le_of_ble_eq_true rfl)⟩) hP hS hA (fun r_36 H locs w_37 hP hS => ?_)
        obtain ⟨z_38, rfl, h_39⟩ := w_37
        refine lv_goto (tgt := 146) hx hb dX12_is_142 (by decide) ?_
        rw [← hQ]
        exact W.iret (v := iI z_38) hx hb hr (fun t ht hW => ⟨⟨iI z_38, (), rfl, ⟨z_38, rfl, by omega⟩, trivial⟩, hS.F ht⟩) hS.2.2 dX12_is_146
    · refine jtab_in (v := iI 6) (off := 116) (tgt := 129) hx hb dX12_is_13 (by rw [h_7]) (by decide) (by decide) (by decide) (by decide) ?_
      refine xq_aload_n hx hb dX12_is_129 rfl (lv_at hl 0 rfl) ?_
      refine jt_q (.ref z_3.toNat) (rv_ref (h_6).1) ?_
      have h_40 : (-2147483648) ≤ v z_3 1 ∧ v z_3 1 ≤ 2147483647 := xf_0_1 hI h_6
      refine gx_RX12_240 (y := v z_3 1) hx hb hj hown hK hP h_6 rfl dX12_is_130 ?_
      refine xr_if_ne (tgt := 145) hx hb dX12_is_133 (by decide) (by omega) (fun h_41 => ?_) (fun h_41 => ?_)
      · refine lv_iconst (v := iI (-1)) hx hb dX12_is_145 rfl ?_
        rw [← hQ]
        exact W.iret (v := iI (-1)) hx hb hr (fun t ht hW => ⟨⟨iI (-1), (), rfl, ⟨(-1), rfl, by omega⟩, trivial⟩, hS.F ht⟩) hS.2.2 dX12_is_146
      · refine lv_aload_n hx hb dX12_is_136 rfl (lv_at hl 1 rfl) ?_
        refine xq_aload_n hx hb dX12_is_137 rfl (lv_at hl 0 rfl) ?_
        refine jt_q (.ref z_3.toNat) (rv_ref (h_6).1) ?_
        refine lv_iload_n hx hb dX12_is_138 rfl (lv_at hl 3 rfl) ?_
        refine jc_i (va_runV (As := [.ref z_3.toNat, .int (iI p2)]) (rest := []) ⟨hx, hb, hml, hown, hts⟩ (sX12_ofArticle l dC dI _ L cid K N tW sK sV v p0 z_3 p2 hI q0 h_6 (by omega)) (cwV 2 hts (jgoodV m_1279 m_1280 m_1281 m_873 m_1282) rfl rfl rfl (by decide +kernel) ⟨(Nat.le_of_ble_eq_true rfl), (Nat.le_of_ble_eq_true rfl)⟩) ⟨xP_blind, xrecv hK hP q0 rfl rfl, fun U hU hW => ⟨rfl, xP_of hU hW hP hK hDw hX hS hAw hAA⟩⟩ rfl rfl hl.1 rfl (lv_room (Nat.le_of_ble_eq_true rfl)) dX12_is_139 ⟨(Nat.le_of_ble_eq_true rfl), (Nat.le_of_ble_eq_true rfl)⟩) hP hS hA (fun r_42 H locs w_43 hP hS => ?_)
        obtain ⟨z_44, rfl, h_45⟩ := w_43
        refine lv_goto (tgt := 146) hx hb dX12_is_142 (by decide) ?_
        rw [← hQ]
        exact W.iret (v := iI z_44) hx hb hr (fun t ht hW => ⟨⟨iI z_44, (), rfl, ⟨z_44, rfl, by omega⟩, trivial⟩, hS.F ht⟩) hS.2.2 dX12_is_146
    · refine jtab_in (v := iI 7) (off := 65) (tgt := 78) hx hb dX12_is_13 (by rw [h_7]) (by decide) (by decide) (by decide) (by decide) ?_
      refine lv_aload_n hx hb dX12_is_78 rfl (lv_at hl 1 rfl) ?_
      refine xq_aload_n hx hb dX12_is_79 rfl (lv_at hl 0 rfl) ?_
      refine jt_q (.ref z_3.toNat) (rv_ref (h_6).1) ?_
      refine jc_i (va_runV (As := [.ref z_3.toNat]) (rest := []) ⟨hx, hb, hml, hown, hts⟩ (sX12_isStruck l dC dI _ L cid K N tW sK sV v p0 z_3 hI q0 h_6) (cwV 1 hts (jgoodV m_1060 m_1061 m_1062 m_873 m_1063) rfl rfl rfl (by decide +kernel) ⟨(Nat.le_of_ble_eq_true rfl), (Nat.le_of_ble_eq_true rfl)⟩) ⟨xP_blind, xrecv hK hP q0 rfl rfl, fun U hU hW => ⟨rfl, xP_of hU hW hP hK hDw hX hS hAw hAA⟩⟩ rfl rfl hl.1 rfl (lv_room (Nat.le_of_ble_eq_true rfl)) dX12_is_80 ⟨(Nat.le_of_ble_eq_true rfl), (Nat.le_of_ble_eq_true rfl)⟩) hP hS hA (fun r_46 H locs w_47 hP hS => ?_)
      obtain ⟨z_48, rfl, h_49⟩ := w_47
      refine xr_if_eq (tgt := 90) hx hb dX12_is_83 (by decide) (by omega) (fun h_50 => ?_) (fun h_50 => ?_)
      · refine lv_aload_n hx hb dX12_is_90 rfl (lv_at hl 1 rfl) ?_
        refine xq_aload_n hx hb dX12_is_91 rfl (lv_at hl 0 rfl) ?_
        refine jt_q (.ref z_3.toNat) (rv_ref (h_6).1) ?_
        refine jc_i (va_runV (As := [.ref z_3.toNat]) (rest := []) ⟨hx, hb, hml, hown, hts⟩ (sX12_isLater l dC dI _ L cid K N tW sK sV v p0 z_3 hI q0 h_6) (cwV 1 hts (jgoodV m_1031 m_1032 m_1033 m_873 m_1034) rfl rfl rfl (by decide +kernel) ⟨(Nat.le_of_ble_eq_true rfl), (Nat.le_of_ble_eq_true rfl)⟩) ⟨xP_blind, xrecv hK hP q0 rfl rfl, fun U hU hW => ⟨rfl, xP_of hU hW hP hK hDw hX hS hAw hAA⟩⟩ rfl rfl hl.1 rfl (lv_room (Nat.le_of_ble_eq_true rfl)) dX12_is_92 ⟨(Nat.le_of_ble_eq_true rfl), (Nat.le_of_ble_eq_true rfl)⟩) hP hS hA (fun r_51 H locs w_52 hP hS => ?_)
        obtain ⟨z_53, rfl, h_54⟩ := w_52
        refine xr_if_eq (tgt := 102) hx hb dX12_is_95 (by decide) (by omega) (fun h_55 => ?_) (fun h_55 => ?_)
        · refine lv_iconst (v := iI 0) hx hb dX12_is_102 rfl ?_
          rw [← hQ]
          exact W.iret (v := iI 0) hx hb hr (fun t ht hW => ⟨⟨iI 0, (), rfl, ⟨0, rfl, by omega⟩, trivial⟩, hS.F ht⟩) hS.2.2 dX12_is_103
        · refine lv_iconst (v := iI 2) hx hb dX12_is_98 rfl ?_
          refine lv_goto (tgt := 103) hx hb dX12_is_99 (by decide) ?_
          rw [← hQ]
          exact W.iret (v := iI 2) hx hb hr (fun t ht hW => ⟨⟨iI 2, (), rfl, ⟨2, rfl, by omega⟩, trivial⟩, hS.F ht⟩) hS.2.2 dX12_is_103
      · refine lv_iconst (v := iI 1) hx hb dX12_is_86 rfl ?_
        refine lv_goto (tgt := 103) hx hb dX12_is_87 (by decide) ?_
        rw [← hQ]
        exact W.iret (v := iI 1) hx hb hr (fun t ht hW => ⟨⟨iI 1, (), rfl, ⟨1, rfl, by omega⟩, trivial⟩, hS.F ht⟩) hS.2.2 dX12_is_103
    · refine jtab_in (v := iI 8) (off := 116) (tgt := 129) hx hb dX12_is_13 (by rw [h_7]) (by decide) (by decide) (by decide) (by decide) ?_
      refine xq_aload_n hx hb dX12_is_129 rfl (lv_at hl 0 rfl) ?_
      refine jt_q (.ref z_3.toNat) (rv_ref (h_6).1) ?_
      have h_56 : (-2147483648) ≤ v z_3 1 ∧ v z_3 1 ≤ 2147483647 := xf_0_1 hI h_6
      refine gx_RX12_240 (y := v z_3 1) hx hb hj hown hK hP h_6 rfl dX12_is_130 ?_
      refine xr_if_ne (tgt := 145) hx hb dX12_is_133 (by decide) (by omega) (fun h_57 => ?_) (fun h_57 => ?_)
      · refine lv_iconst (v := iI (-1)) hx hb dX12_is_145 rfl ?_
        rw [← hQ]
        exact W.iret (v := iI (-1)) hx hb hr (fun t ht hW => ⟨⟨iI (-1), (), rfl, ⟨(-1), rfl, by omega⟩, trivial⟩, hS.F ht⟩) hS.2.2 dX12_is_146
      · refine lv_aload_n hx hb dX12_is_136 rfl (lv_at hl 1 rfl) ?_
        refine xq_aload_n hx hb dX12_is_137 rfl (lv_at hl 0 rfl) ?_
        refine jt_q (.ref z_3.toNat) (rv_ref (h_6).1) ?_
        refine lv_iload_n hx hb dX12_is_138 rfl (lv_at hl 3 rfl) ?_
        refine jc_i (va_runV (As := [.ref z_3.toNat, .int (iI p2)]) (rest := []) ⟨hx, hb, hml, hown, hts⟩ (sX12_ofArticle l dC dI _ L cid K N tW sK sV v p0 z_3 p2 hI q0 h_6 (by omega)) (cwV 2 hts (jgoodV m_1279 m_1280 m_1281 m_873 m_1282) rfl rfl rfl (by decide +kernel) ⟨(Nat.le_of_ble_eq_true rfl), (Nat.le_of_ble_eq_true rfl)⟩) ⟨xP_blind, xrecv hK hP q0 rfl rfl, fun U hU hW => ⟨rfl, xP_of hU hW hP hK hDw hX hS hAw hAA⟩⟩ rfl rfl hl.1 rfl (lv_room (Nat.le_of_ble_eq_true rfl)) dX12_is_139 ⟨(Nat.le_of_ble_eq_true rfl), (Nat.le_of_ble_eq_true rfl)⟩) hP hS hA (fun r_58 H locs w_59 hP hS => ?_)
        obtain ⟨z_60, rfl, h_61⟩ := w_59
        refine lv_goto (tgt := 146) hx hb dX12_is_142 (by decide) ?_
        rw [← hQ]
        exact W.iret (v := iI z_60) hx hb hr (fun t ht hW => ⟨⟨iI z_60, (), rfl, ⟨z_60, rfl, by omega⟩, trivial⟩, hS.F ht⟩) hS.2.2 dX12_is_146
    · refine jtab_in (v := iI 9) (off := 91) (tgt := 104) hx hb dX12_is_13 (by rw [h_7]) (by decide) (by decide) (by decide) (by decide) ?_
      refine xq_aload_n hx hb dX12_is_104 rfl (lv_at hl 0 rfl) ?_
      refine jt_q (.ref z_3.toNat) (rv_ref (h_6).1) ?_
      have h_62 : (-2147483648) ≤ v z_3 12 ∧ v z_3 12 ≤ 2147483647 := xf_0_12 hI h_6
      refine gx_RX12_247 (y := v z_3 12) hx hb hj hown hK hP h_6 rfl dX12_is_105 ?_
      refine lv_iconst (v := iI (-1)) hx hb dX12_is_108 rfl ?_
      refine xr_icmp_ne (tgt := 123) hx hb dX12_is_109 (by decide) (by omega) (by omega) (fun h_63 => ?_) (fun h_63 => ?_)
      · refine lv_iconst (v := iI 1) hx hb dX12_is_123 rfl ?_
        refine lv_goto (tgt := 128) hx hb dX12_is_124 (by decide) ?_
        rw [← hQ]
        exact W.iret (v := iI 1) hx hb hr (fun t ht hW => ⟨⟨iI 1, (), rfl, ⟨1, rfl, by omega⟩, trivial⟩, hS.F ht⟩) hS.2.2 dX12_is_128
      · refine lv_aload_n hx hb dX12_is_112 rfl (lv_at hl 1 rfl) ?_
        refine xq_aload_n hx hb dX12_is_113 rfl (lv_at hl 0 rfl) ?_
        refine jt_q (.ref z_3.toNat) (rv_ref (h_6).1) ?_
        have h_64 : (-2147483648) ≤ v z_3 6 ∧ v z_3 6 ≤ 2147483647 := xf_0_6 hI h_6
        refine gx_RX12_220 (y := v z_3 6) hx hb hj hown hK hP h_6 rfl dX12_is_114 ?_
        refine jc_i (va_runV (As := [.int (iI (v z_3 6))]) (rest := []) ⟨hx, hb, hml, hown, hts⟩ (sX12_isSet l dC dI _ L cid K N tW sK sV v p0 (v z_3 6) hI q0 (by omega)) (cwV 1 hts (jgoodV m_1019 m_1020 m_1021 m_873 m_1022) rfl rfl rfl (by decide +kernel) ⟨(Nat.le_of_ble_eq_true rfl), (Nat.le_of_ble_eq_true rfl)⟩) ⟨xP_blind, xrecv hK hP q0 rfl rfl, fun U hU hW => ⟨rfl, xP_of hU hW hP hK hDw hX hS hAw hAA⟩⟩ rfl rfl hl.1 rfl (lv_room (Nat.le_of_ble_eq_true rfl)) dX12_is_117 ⟨(Nat.le_of_ble_eq_true rfl), (Nat.le_of_ble_eq_true rfl)⟩) hP hS hA (fun r_65 H locs w_66 hP hS => ?_)
        obtain ⟨z_67, rfl, h_68⟩ := w_66
        refine xr_if_eq (tgt := 127) hx hb dX12_is_120 (by decide) (by omega) (fun h_69 => ?_) (fun h_69 => ?_)
        · refine lv_iconst (v := iI 0) hx hb dX12_is_127 rfl ?_
          rw [← hQ]
          exact W.iret (v := iI 0) hx hb hr (fun t ht hW => ⟨⟨iI 0, (), rfl, ⟨0, rfl, by omega⟩, trivial⟩, hS.F ht⟩) hS.2.2 dX12_is_128
        · refine lv_iconst (v := iI 1) hx hb dX12_is_123 rfl ?_
          refine lv_goto (tgt := 128) hx hb dX12_is_124 (by decide) ?_
          rw [← hQ]
          exact W.iret (v := iI 1) hx hb hr (fun t ht hW => ⟨⟨iI 1, (), rfl, ⟨1, rfl, by omega⟩, trivial⟩, hS.F ht⟩) hS.2.2 dX12_is_128
  · refine lv_iconst (v := iI (-1)) hx hb dX12_is_10 rfl ?_
    rw [← hQ]
    exact W.iret (v := iI (-1)) hx hb hr (fun t ht hW => ⟨⟨iI (-1), (), rfl, ⟨(-1), rfl, by omega⟩, trivial⟩, hS.F ht⟩) hS.2.2 dX12_is_11
set_option maxHeartbeats 2000000 in
set_option maxRecDepth 100000 in
theorem sX12_payOfAll (l : Launch) (dC : Nat → ClassId) (dI : Nat → Nat → Nat) (sz : Nat) (L : List Nat) (cid : Nat → ClassId) (K : Int → Nat) (N : Int → Int) (tW : Nat) (sK sV : Nat → Nat) (v : Int → Int → Int) (p0 : Int) (hI : xI L K N v) (q0 : ok L K p0 12) : Met l yX12_payOfAll (jk yX12_payOfAll cX12_payOfAll 4 (some .int)) ({ frames := 1, cells := 0, slots := 0, locals := 21 }) (va_Pc [.ref p0.toNat] (xP (dC, dI) (xG L cid K N v) (xT cid) tW sK sV sz)) (va_Qi (fun (r : Int32) (_ : Unit) => ∃ z : Int, r = iI z ∧ (rg z)) (fun _ _ => True) (va_A [] sz)) 0 0 (va_A [] sz) := by
  refine Met.ofW (cc := cX12_payOfAll) (maxL := 4) (ret := (some .int)) (by decide) rfl ?_
  intro p e s m args below meth c s₁ B hml hv
  obtain ⟨rfl, ⟨hsz, hP, hK, hD0⟩, hX⟩ := hv
  have hx := B.exec
  have hb := B.bytes
  have hr := B.returns
  have hts := atoms_spec (ws := (jk yX12_payOfAll cX12_payOfAll 4 (some .int))) B.pre
  have hj : ∀ w ∈ jw, w.before ([.ref p0.toNat] : List Value).toArray s = true := fun w h => hts w (jm h)
  have hown : s.vm.findClass RX12 = some m.cls := findClass_of_methodNamed B.named
  subst hsz
  have hDw := hD0.self (sz := s.heap.size)
  have hAA : ∀ q : Nat, s.heap.size ≤ q → va_A (xG L cid K N v) s.heap.size q := fun q h => Or.inr h
  have hAw : ∀ q, va_A [] s.heap.size q → va_A (xG L cid K N v) s.heap.size q := ja_nil va_S.rf hAA
  generalize hAe : (va_A [] s.heap.size) = A at hAw ⊢
  have hA : ∀ q : Nat, s.heap.size ≤ q → A q := fun q h => by rw [← hAe]; exact Or.inr h
  have hS : va_S A s.heap s.heap [] := va_S.rf
  have hXa := hX.nar hAw
  have hP : va_P (dC, dI) vwCl (xG L cid K N v) s.heap := hP
  have hl := lv_entry ([.ref p0.toNat]) (n := 4) (Nat.le_of_ble_eq_true rfl)
  rw [lg_entry_eq]
  generalize (lg_sl ([.ref p0.toNat]) ++ List.replicate (4 - (lg_sl ([.ref p0.toNat])).length) Slot.unset).toArray = ls at hl ⊢
  have hl : lv_has ls 4 [(0, .ref p0.toNat)] := hl
  generalize hQ : MQ below (va_Qi (fun (r : Int32) (_ : Unit) => ∃ z : Int, r = iI z ∧ (rg z)) (fun _ _ => True) A) ([.ref p0.toNat] : List Value).toArray s 0 0 A = Q
  suffices ST : ∀ (H : Heap) (locs : List Loc), va_P (dC, dI) vwCl (xG L cid K N v) H → va_S A s.heap H locs → W p l e ({ frames := 1, cells := 0, slots := 0, locals := 21 }) s m ([.ref p0.toNat] : List Value).toArray below meth c H locs 0 0 Q (F0 m 0 ls []) from ST _ _ hP hS
  clear hP hS
  intro H locs hP hS
  refine lv_iconst (v := iI 0) hx hb dX12_payOfAll_0 rfl ?_
  refine lv_istore_n (i := 1) (lv' := [(1, .int (iI 0)), (0, .ref p0.toNat)]) hx hb dX12_payOfAll_1 rfl hl (by decide) rfl (fun ls hl => ?_)
  refine lv_iconst (v := iI 0) hx hb dX12_payOfAll_2 rfl ?_
  refine lv_istore_n (i := 2) (lv' := [(2, .int (iI 0)), (1, .int (iI 0)), (0, .ref p0.toNat)]) hx hb dX12_payOfAll_3 rfl hl (by decide) rfl (fun ls hl => ?_)
  have L4 : ∀ (n4 : Nat) (a2_4 a1_4 : Int) (H : Heap) (locs : List Loc) (ls : Array Slot), (0 ≤ a2_4 ∧ a2_4 ≤ 2147483647) → ((-2147483648) ≤ a1_4 ∧ a1_4 ≤ 2147483647) → (0 < (n4 : Int) ∧ (v p0 11) - a2_4 < (n4 : Int)) → va_P (dC, dI) vwCl (xG L cid K N v) H → va_S A s.heap H locs → lv_has ls 4 [(2, .int (iI a2_4)), (1, .int (iI a1_4)), (0, .ref p0.toNat)] → W p l e ({ frames := 1, cells := 0, slots := 0, locals := 21 }) s m ([.ref p0.toNat] : List Value).toArray below meth c H locs 0 0 Q (F0 m 4 ls []) := by
    intro n4
    induction n4 with
    | zero =>
      intro a2_4 a1_4 H locs ls h_1 h_2 hm4 hP hS hl
      exfalso; omega
    | succ n4 ih4 =>
      intro a2_4 a1_4 H locs ls h_3 h_4 hm4 hP hS hl
      refine lv_iload_n hx hb dX12_payOfAll_4 rfl (lv_at hl 0 rfl) ?_
      refine lv_aload_n hx hb dX12_payOfAll_5 rfl (lv_at hl 2 rfl) ?_
      have h_5 : 0 ≤ v p0 11 ∧ v p0 11 ≤ 12 := xf_12_11 hI q0
      refine gx_RX12_292 (y := v p0 11) hx hb hj hown hK hP q0 rfl dX12_payOfAll_6 ?_
      refine xr_icmp_ge (tgt := 39) hx hb dX12_payOfAll_9 (by decide) (by omega) (by omega) (fun h_6 => ?_) (fun h_6 => ?_)
      · refine lv_iload_n hx hb dX12_payOfAll_39 rfl (lv_at hl 1 rfl) ?_
        rw [← hQ]
        exact W.iret (v := iI a1_4) hx hb hr (fun t ht hW => ⟨⟨iI a1_4, (), rfl, ⟨a1_4, rfl, by omega⟩, trivial⟩, hS.F ht⟩) hS.2.2 dX12_payOfAll_40
      · refine lv_aload_n hx hb dX12_payOfAll_12 rfl (lv_at hl 2 rfl) ?_
        refine lv_iload_n hx hb dX12_payOfAll_13 rfl (lv_at hl 0 rfl) ?_
        refine jc_q (va_runV (As := [.int (iI a2_4)]) (rest := []) ⟨hx, hb, hml, hown, hts⟩ (sX12_handAt l dC dI _ L cid K N tW sK sV v p0 a2_4 hI q0 (by omega)) (cwV 1 hts (jgoodV m_1056 m_1057 m_1058 m_873 m_1059) rfl rfl rfl (by decide +kernel) ⟨(Nat.le_of_ble_eq_true rfl), (Nat.le_of_ble_eq_true rfl)⟩) ⟨xP_blind, xrecv hK hP q0 rfl rfl, fun U hU hW => ⟨rfl, xP_of hU hW hP hK hDw hX hS hAw hAA⟩⟩ rfl rfl hl.1 rfl (lv_room (Nat.le_of_ble_eq_true rfl)) dX12_payOfAll_14 ⟨(Nat.le_of_ble_eq_true rfl), (Nat.le_of_ble_eq_true rfl)⟩) hP hS hA (fun r_7 H locs w_8 hP hS => ?_)
        obtain ⟨z_9, rfl, h_10, h_11⟩ := w_8
        have h_12 : ok L K (v p0 10) 38 := xf_12_10 hI q0
        have h_13 : N (v p0 10) = 12 := xn_38 hI h_12
        refine jt_q (rv z_9) rfl ?_
        refine xq_astore_n (i := 3) (lv' := [(3, rv z_9), (2, .int (iI a2_4)), (1, .int (iI a1_4)), (0, .ref p0.toNat)]) hx hb dX12_payOfAll_17 rfl hl (by decide) rfl (fun ls hl => ?_)
        refine lv_iload_n hx hb dX12_payOfAll_18 rfl (lv_at hl 2 rfl) ?_
        refine xq_aload_n hx hb dX12_payOfAll_19 rfl (lv_at hl 0 rfl) ?_
        have J31 : ∀ (s0_31 : Int) (H : Heap) (locs : List Loc) (ls : Array Slot), ((-2147483648) ≤ s0_31 ∧ s0_31 ≤ 2147483647) → va_P (dC, dI) vwCl (xG L cid K N v) H → va_S A s.heap H locs → lv_has ls 4 [(3, rv z_9), (2, .int (iI a2_4)), (1, .int (iI a1_4)), (0, .ref p0.toNat)] → W p l e ({ frames := 1, cells := 0, slots := 0, locals := 21 }) s m ([.ref p0.toNat] : List Value).toArray below meth c H locs 0 0 Q (F0 m 31 ls [.int (iI s0_31), .int (iI a1_4)]) := by
          intro s0_31 H locs ls h_14 hP hS hl
          refine xr_add hx hb dX12_payOfAll_31 ?_
          refine xr_kept (fun z_15 h_16 h_17 => ?_)
          refine lv_istore_n (i := 1) (lv' := [(1, .int (iI z_15)), (3, rv z_9), (2, .int (iI a2_4)), (0, .ref p0.toNat)]) hx hb dX12_payOfAll_32 rfl hl (by decide) rfl (fun ls hl => ?_)
          refine lv_iinc (v := iI (a2_4 + 1)) (lv' := [(2, .int (iI (a2_4 + 1))), (1, .int (iI z_15)), (3, rv z_9), (0, .ref p0.toNat)]) hx hb dX12_payOfAll_33 hl (k := 2) rfl (iI_add _ _) (by decide) rfl (fun ls hl => ?_)
          refine lv_goto (tgt := 4) hx hb dX12_payOfAll_36 (by decide) ?_
          exact ih4 (a2_4 + 1) z_15 H locs ls (by omega) (by omega) (by omega) hP hS (lv_sub hl [0, 1, 3] rfl)
        refine xq_ifnonnull (tgt := 27) hx hb dX12_payOfAll_20 (by decide) (fun h_18 => ?_) (fun h_18 => ?_)
        · have h_19 : ok L K z_9 2 := h_10.resolve_left (by omega)
          refine xq_aload_n hx hb dX12_payOfAll_27 rfl (lv_at hl 0 rfl) ?_
          refine jt_q (.ref z_9.toNat) (rv_ref (h_19).1) ?_
          have h_20 : (-2147483648) ≤ v z_9 5 ∧ v z_9 5 ≤ 2147483647 := xf_2_5 hI h_19
          refine gx_RX12_388 (y := v z_9 5) hx hb hj hown hK hP h_19 rfl dX12_payOfAll_28 ?_
          exact J31 (v z_9 5) H locs ls (by omega) hP hS hl
        · refine lv_iconst (v := iI 0) hx hb dX12_payOfAll_23 rfl ?_
          refine lv_goto (tgt := 31) hx hb dX12_payOfAll_24 (by decide) ?_
          exact J31 0 H locs ls (by omega) hP hS hl
  exact L4 ((((v p0 11) - 0 : Int)).toNat + 1) 0 0 H locs ls (by omega) (by omega) (by omega) hP hS hl
