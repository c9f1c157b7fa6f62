set_option maxHeartbeats 2000000 in
set_option maxRecDepth 100000 in
theorem sX7_isWordAt (l : Launch) (dC : Nat → ClassId) (dI : Nat → Nat → Nat) (sz : Nat) (L : List Nat) (cid : Nat → ClassId) (K : Int → Nat) (N : Int → Int) (tW : Nat) (sK sV : Nat → Nat) (v : Int → Int → Int) (tT : Int → Int) (tN : Int) (p0 : Int) (p1 : Int) (p2 : Int) (p3 : Int) (hI : xI L K N v) (q0 : ok L K p0 7) (q1 : rg p1) (q2 : rg p2) (q3 : rg p3) (k1 : txt tT tN v p0) (k2 : 0 ≤ p1 ∧ p1 ≤ 160) (k3 : 0 ≤ p2 ∧ p2 ≤ 152) (k4 : 0 ≤ p3 ∧ p3 ≤ 600) : Met l yX7_isWordAt (jk yX7_isWordAt cX7_isWordAt 5 (some .boolean)) ({ frames := 4, cells := 0, slots := 0, locals := 85 }) (va_Pc [.ref p0.toNat, .int (iI p1), .int (iI p2), .int (iI p3)] (xP (dC, dI) (xG L cid K N v) (xT cid) tW sK sV sz)) (va_Qi (fun (r : Int32) (_ : Unit) => ∃ z : Int, r = iI z ∧ (0 ≤ z ∧ z ≤ 1) ∧ (jF (z = 1) (iwd tT p1 p2 p3)) ∧ (jF (z = 0) (¬ iwd tT p1 p2 p3))) (fun _ _ => True) (va_A [] sz)) 0 0 (va_A [] sz) := by
  refine Met.ofW (cc := cX7_isWordAt) (maxL := 5) (ret := (some .boolean)) (by decide) rfl ?_
  intro p e s m args below meth c s₁ B hml hv
  obtain ⟨rfl, ⟨hsz, hP, hK, hD0⟩, hX⟩ := hv
  have hx := B.exec
  have hb := B.bytes
  have hr := B.returns
  have hts := atoms_spec (ws := (jk yX7_isWordAt cX7_isWordAt 5 (some .boolean))) B.pre
  have hj : ∀ w ∈ jw, w.before ([.ref p0.toNat, .int (iI p1), .int (iI p2), .int (iI p3)] : List Value).toArray s = true := fun w h => hts w (jm h)
  have hown : s.vm.findClass RX7 = some m.cls := findClass_of_methodNamed B.named
  subst hsz
  have hDw := hD0.self (sz := s.heap.size)
  have hAA : ∀ q : Nat, s.heap.size ≤ q → va_A (xG L cid K N v) s.heap.size q := fun q h => Or.inr h
  have hAw : ∀ q, va_A [] s.heap.size q → va_A (xG L cid K N v) s.heap.size q := ja_nil va_S.rf hAA
  generalize hAe : (va_A [] s.heap.size) = A at hAw ⊢
  have hA : ∀ q : Nat, s.heap.size ≤ q → A q := fun q h => by rw [← hAe]; exact Or.inr h
  have hS : va_S A s.heap s.heap [] := va_S.rf
  have hXa := hX.nar hAw
  have hP : va_P (dC, dI) vwCl (xG L cid K N v) s.heap := hP
  have hl := lv_entry ([.ref p0.toNat, .int (iI p1), .int (iI p2), .int (iI p3)]) (n := 5) (Nat.le_of_ble_eq_true rfl)
  rw [lg_entry_eq]
  generalize (lg_sl ([.ref p0.toNat, .int (iI p1), .int (iI p2), .int (iI p3)]) ++ List.replicate (5 - (lg_sl ([.ref p0.toNat, .int (iI p1), .int (iI p2), .int (iI p3)])).length) Slot.unset).toArray = ls at hl ⊢
  have hl : lv_has ls 5 [(0, .ref p0.toNat), (1, .int (iI p1)), (2, .int (iI p2)), (3, .int (iI p3))] := hl
  generalize hQ : MQ below (va_Qi (fun (r : Int32) (_ : Unit) => ∃ z : Int, r = iI z ∧ (0 ≤ z ∧ z ≤ 1) ∧ (jF (z = 1) (iwd tT p1 p2 p3)) ∧ (jF (z = 0) (¬ iwd tT p1 p2 p3))) (fun _ _ => True) A) ([.ref p0.toNat, .int (iI p1), .int (iI p2), .int (iI p3)] : List Value).toArray s 0 0 A = Q
  suffices ST : ∀ (H : Heap) (locs : List Loc), va_P (dC, dI) vwCl (xG L cid K N v) H → va_S A s.heap H locs → W p l e ({ frames := 4, cells := 0, slots := 0, locals := 85 }) s m ([.ref p0.toNat, .int (iI p1), .int (iI p2), .int (iI p3)] : List Value).toArray below meth c H locs 0 0 Q (F0 m 0 ls []) from ST _ _ hP hS
  clear hP hS
  intro H locs hP hS
  refine lv_iload_n hx hb dX7_isWordAt_0 rfl (lv_at hl 1 rfl) ?_
  refine lv_istore (i := 4) (lv' := [(4, .int (iI p1)), (0, .ref p0.toNat), (1, .int (iI p1)), (2, .int (iI p2)), (3, .int (iI p3))]) hx hb dX7_isWordAt_1 hl (by decide) rfl (fun ls hl => ?_)
  have L3 : ∀ (n3 : Nat) (a4_3 : Int) (H : Heap) (locs : List Loc) (ls : Array Slot), (0 ≤ a4_3 ∧ a4_3 ≤ 160) → (p1 ≤ a4_3 ∧ a4_3 ≤ 160) → (iwd tT p1 (a4_3) p3) → (0 < (n3 : Int) ∧ 153 - a4_3 < (n3 : Int)) → va_P (dC, dI) vwCl (xG L cid K N v) H → va_S A s.heap H locs → lv_has ls 5 [(4, .int (iI a4_3)), (0, .ref p0.toNat), (1, .int (iI p1)), (2, .int (iI p2)), (3, .int (iI p3))] → W p l e ({ frames := 4, cells := 0, slots := 0, locals := 85 }) s m ([.ref p0.toNat, .int (iI p1), .int (iI p2), .int (iI p3)] : List Value).toArray below meth c H locs 0 0 Q (F0 m 3 ls []) := by
    intro n3
    induction n3 with
    | zero =>
      intro a4_3 H locs ls h_1 h_2 h_3 hm3 hP hS hl
      exfalso; omega
    | succ n3 ih3 =>
      intro a4_3 H locs ls h_4 h_5 h_6 hm3 hP hS hl
      refine lv_iload hx hb dX7_isWordAt_3 (lv_at hl 0 rfl) ?_
      refine xr_if_lt (tgt := 52) hx hb dX7_isWordAt_5 (by decide) (by omega) (fun h_7 => ?_) (fun h_7 => ?_)
      · exfalso; omega
      · refine lv_iload hx hb dX7_isWordAt_8 (lv_at hl 0 rfl) ?_
        refine lv_iload_n hx hb dX7_isWordAt_10 rfl (lv_at hl 3 rfl) ?_
        refine xr_icmp_ge (tgt := 52) hx hb dX7_isWordAt_11 (by decide) (by omega) (by omega) (fun h_8 => ?_) (fun h_8 => ?_)
        · refine lv_iconst (v := iI 1) hx hb dX7_isWordAt_52 rfl ?_
          rw [← hQ]
          exact W.zret (v := iI 1) (ty := .boolean) hx hb hr (nb_bool (by omega) (by omega)) (fun t ht hW => ⟨⟨iI 1, (), rfl, ⟨1, rfl, by omega, by first | exact fun e9 => absurd e9 (by omega) | exact fun _ => iwd_e (show iwd tT p1 a4_3 p3 by assumption) (by omega), by first | exact fun e9 => absurd e9 (by omega) | exact fun _ => iwd_n (i := a4_3) (by omega) (by omega) (by omega)⟩, trivial⟩, hS.F ht⟩) hS.2.2 dX7_isWordAt_53
        · refine lv_iload hx hb dX7_isWordAt_14 (lv_at hl 0 rfl) ?_
          refine va_ldcS hx hb hown hXa.2.2.2.1.2.1 dX7_isWordAt_16 ?_
          have h_9 : sx_n 1 = 152 := rfl
          refine jc_i (va_runV (As := []) (rest := [.int (iI a4_3)]) ⟨hx, hb, hml, hown, hts⟩ (sJ0_length_8abf5 l dC dI _ sK sV 1 (by decide)) (cwV 0 hts (jgoodV m_807 m_775 m_776 m_754 m_777) rfl rfl rfl (by decide +kernel) ⟨(Nat.le_of_ble_eq_true rfl), (Nat.le_of_ble_eq_true rfl)⟩) ⟨xS_blind, vk_recv hXa.2.2.1 (by decide) hS, fun U hU hW => ⟨rfl, xS_of hU hW hXa.2.2 hS hA⟩⟩ rfl rfl hl.1 rfl (lv_room (Nat.le_of_ble_eq_true rfl)) dX7_isWordAt_18 ⟨(Nat.le_of_ble_eq_true rfl), (Nat.le_of_ble_eq_true rfl)⟩) hP hS hA (fun r_10 H locs w_11 hP hS => ?_)
          obtain ⟨z_12, rfl, h_13, h_14⟩ := w_11
          refine xr_icmp_ge (tgt := 52) hx hb dX7_isWordAt_21 (by decide) (by omega) (by omega) (fun h_15 => ?_) (fun h_15 => ?_)
          · refine lv_iconst (v := iI 1) hx hb dX7_isWordAt_52 rfl ?_
            rw [← hQ]
            exact W.zret (v := iI 1) (ty := .boolean) hx hb hr (nb_bool (by omega) (by omega)) (fun t ht hW => ⟨⟨iI 1, (), rfl, ⟨1, rfl, by omega, by first | exact fun e9 => absurd e9 (by omega) | exact fun _ => iwd_e (show iwd tT p1 a4_3 p3 by assumption) (by omega), by first | exact fun e9 => absurd e9 (by omega) | exact fun _ => iwd_n (i := a4_3) (by omega) (by omega) (by omega)⟩, trivial⟩, hS.F ht⟩) hS.2.2 dX7_isWordAt_53
          · refine va_ldcS hx hb hown hXa.2.2.2.1.2.1 dX7_isWordAt_24 ?_
            refine lv_iload hx hb dX7_isWordAt_26 (lv_at hl 0 rfl) ?_
            refine jc_i (va_runV (As := [.int (iI a4_3)]) (rest := []) ⟨hx, hb, hml, hown, hts⟩ (sJ0_charAt_5068e l dC dI _ sK sV 1 a4_3 (by decide) (by omega) (by omega) (by omega)) (cwV 1 hts (jgoodV m_808 m_809 m_810 m_754 m_811) rfl rfl rfl (by decide +kernel) ⟨(Nat.le_of_ble_eq_true rfl), (Nat.le_of_ble_eq_true rfl)⟩) ⟨xS_blind, vk_recv hXa.2.2.1 (by decide) hS, fun U hU hW => ⟨rfl, xS_of hU hW hXa.2.2 hS hA⟩⟩ rfl rfl hl.1 rfl (lv_room (Nat.le_of_ble_eq_true rfl)) dX7_isWordAt_28 ⟨(Nat.le_of_ble_eq_true rfl), (Nat.le_of_ble_eq_true rfl)⟩) hP hS hA (fun r_16 H locs w_17 hP hS => ?_)
            obtain ⟨z_18, rfl, h_19, h_20⟩ := w_17
            refine lv_aload_n hx hb dX7_isWordAt_31 rfl (lv_at hl 1 rfl) ?_
            refine lv_iload_n hx hb dX7_isWordAt_32 rfl (lv_at hl 4 rfl) ?_
            refine lv_iload hx hb dX7_isWordAt_33 (lv_at hl 0 rfl) ?_
            refine xr_add hx hb dX7_isWordAt_35 ?_
            refine lv_iload_n hx hb dX7_isWordAt_36 rfl (lv_at hl 2 rfl) ?_
            refine xr_sub hx hb dX7_isWordAt_37 ?_
            refine jc_i (va_runV (As := [.int (iI ((p3 + a4_3) - p1))]) (rest := [.int (iI z_18)]) ⟨hx, hb, hml, hown, hts⟩ (sX7_byteAt l dC dI _ L cid K N tW sK sV v tT tN p0 ((p3 + a4_3) - p1) hI q0 (by omega) k1) (cwV 1 hts (jgoodV m_728 m_729 m_730 m_677 m_731) rfl rfl rfl (by decide +kernel) ⟨(Nat.le_of_ble_eq_true rfl), (Nat.le_of_ble_eq_true rfl)⟩) ⟨xP_blind, xrecv hK hP q0 rfl rfl, fun U hU hW => ⟨rfl, xP_of hU hW hP hK hDw hX hS hAw hAA⟩⟩ rfl rfl hl.1 rfl (lv_room (Nat.le_of_ble_eq_true rfl)) dX7_isWordAt_38 ⟨(Nat.le_of_ble_eq_true rfl), (Nat.le_of_ble_eq_true rfl)⟩) hP hS hA (fun r_21 H locs w_22 hP hS => ?_)
            obtain ⟨z_23, rfl, h_24, h_25⟩ := w_22
            refine xr_icmp_eq (tgt := 46) hx hb dX7_isWordAt_41 (by decide) (by omega) (by omega) (fun h_26 => ?_) (fun h_26 => ?_)
            · refine lv_iinc (v := iI (a4_3 + 1)) (lv' := [(4, .int (iI (a4_3 + 1))), (0, .ref p0.toNat), (1, .int (iI p1)), (2, .int (iI p2)), (3, .int (iI p3))]) hx hb dX7_isWordAt_46 hl (k := 0) rfl (iI_add _ _) (by decide) rfl (fun ls hl => ?_)
              refine lv_goto (tgt := 3) hx hb dX7_isWordAt_49 (by decide) ?_
              exact ih3 (a4_3 + 1) H locs ls (by omega) (by omega) (by first | exact iwd_0 | exact iwd_s (by assumption) (by omega)) (by omega) hP hS hl
            · refine lv_iconst (v := iI 0) hx hb dX7_isWordAt_44 rfl ?_
              rw [← hQ]
              exact W.zret (v := iI 0) (ty := .boolean) hx hb hr (nb_bool (by omega) (by omega)) (fun t ht hW => ⟨⟨iI 0, (), rfl, ⟨0, rfl, by omega, by first | exact fun e9 => absurd e9 (by omega) | exact fun _ => iwd_e (show iwd tT p1 a4_3 p3 by assumption) (by omega), by first | exact fun e9 => absurd e9 (by omega) | exact fun _ => iwd_n (i := a4_3) (by omega) (by omega) (by omega)⟩, trivial⟩, hS.F ht⟩) hS.2.2 dX7_isWordAt_45
  exact L3 (((153 - p1 : Int)).toNat + 1) p1 H locs ls (by omega) (by omega) (by first | exact iwd_0 | exact iwd_s (by assumption) (by omega)) (by omega) hP hS hl
set_option maxHeartbeats 2000000 in
set_option maxRecDepth 100000 in
theorem sX7_wordAt (l : Launch) (dC : Nat → ClassId) (dI : Nat → Nat → Nat) (sz : Nat) (L : List Nat) (cid : Nat → ClassId) (K : Int → Nat) (N : Int → Int) (tW : Nat) (sK sV : Nat → Nat) (v : Int → Int → Int) (tT : Int → Int) (tN : Int) (p0 : Int) (p1 : Int) (p2 : Int) (hI : xI L K N v) (q0 : ok L K p0 7) (q1 : rg p1) (q2 : rg p2) (k1 : txt tT tN v p0) (k2 : 0 ≤ p1 ∧ p1 ≤ 600) (k3 : 0 ≤ p2 ∧ p2 ≤ 602) : Met l yX7_wordAt (jk yX7_wordAt cX7_wordAt 6 (some .int)) ({ frames := 5, cells := 0, slots := 0, locals := 109 }) (va_Pc [.ref p0.toNat, .int (iI p1), .int (iI p2)] (xP (dC, dI) (xG L cid K N v) (xT cid) tW sK sV sz)) (va_Qi (fun (r : Int32) (_ : Unit) => ∃ z : Int, r = iI z ∧ ((-1) ≤ z ∧ z ≤ 27) ∧ (z = wix tT p1 p2)) (fun _ _ => True) (va_A [] sz)) 0 0 (va_A [] sz) := by
  refine Met.ofW (cc := cX7_wordAt) (maxL := 6) (ret := (some .int)) (by decide) rfl ?_
  intro p e s m args below meth c s₁ B hml hv
  obtain ⟨rfl, ⟨hsz, hP, hK, hD0⟩, hX⟩ := hv
  have hx := B.exec
  have hb := B.bytes
  have hr := B.returns
  have hts := atoms_spec (ws := (jk yX7_wordAt cX7_wordAt 6 (some .int))) B.pre
  have hj : ∀ w ∈ jw, w.before ([.ref p0.toNat, .int (iI p1), .int (iI p2)] : List Value).toArray s = true := fun w h => hts w (jm h)
  have hown : s.vm.findClass RX7 = some m.cls := findClass_of_methodNamed B.named
  subst hsz
  have hDw := hD0.self (sz := s.heap.size)
  have hAA : ∀ q : Nat, s.heap.size ≤ q → va_A (xG L cid K N v) s.heap.size q := fun q h => Or.inr h
  have hAw : ∀ q, va_A [] s.heap.size q → va_A (xG L cid K N v) s.heap.size q := ja_nil va_S.rf hAA
  generalize hAe : (va_A [] s.heap.size) = A at hAw ⊢
  have hA : ∀ q : Nat, s.heap.size ≤ q → A q := fun q h => by rw [← hAe]; exact Or.inr h
  have hS : va_S A s.heap s.heap [] := va_S.rf
  have hXa := hX.nar hAw
  have hP : va_P (dC, dI) vwCl (xG L cid K N v) s.heap := hP
  have hl := lv_entry ([.ref p0.toNat, .int (iI p1), .int (iI p2)]) (n := 6) (Nat.le_of_ble_eq_true rfl)
  rw [lg_entry_eq]
  generalize (lg_sl ([.ref p0.toNat, .int (iI p1), .int (iI p2)]) ++ List.replicate (6 - (lg_sl ([.ref p0.toNat, .int (iI p1), .int (iI p2)])).length) Slot.unset).toArray = ls at hl ⊢
  have hl : lv_has ls 6 [(0, .ref p0.toNat), (1, .int (iI p1)), (2, .int (iI p2))] := hl
  generalize hQ : MQ below (va_Qi (fun (r : Int32) (_ : Unit) => ∃ z : Int, r = iI z ∧ ((-1) ≤ z ∧ z ≤ 27) ∧ (z = wix tT p1 p2)) (fun _ _ => True) A) ([.ref p0.toNat, .int (iI p1), .int (iI p2)] : List Value).toArray s 0 0 A = Q
  suffices ST : ∀ (H : Heap) (locs : List Loc), va_P (dC, dI) vwCl (xG L cid K N v) H → va_S A s.heap H locs → W p l e ({ frames := 5, cells := 0, slots := 0, locals := 109 }) s m ([.ref p0.toNat, .int (iI p1), .int (iI p2)] : List Value).toArray below meth c H locs 0 0 Q (F0 m 0 ls []) from ST _ _ hP hS
  clear hP hS
  intro H locs hP hS
  have w0 := wst_0
  have w00 := wst_b (k := 0) (by omega) (by omega)
  refine lv_iconst (v := iI 0) hx hb dX7_wordAt_0 rfl ?_
  refine lv_istore_n (i := 3) (lv' := [(3, .int (iI 0)), (0, .ref p0.toNat), (1, .int (iI p1)), (2, .int (iI p2))]) hx hb dX7_wordAt_1 rfl hl (by decide) rfl (fun ls hl => ?_)
  refine lv_iconst (v := iI 0) hx hb dX7_wordAt_2 rfl ?_
  refine lv_istore (i := 4) (lv' := [(4, .int (iI 0)), (3, .int (iI 0)), (0, .ref p0.toNat), (1, .int (iI p1)), (2, .int (iI p2))]) hx hb dX7_wordAt_3 hl (by decide) rfl (fun ls hl => ?_)
  refine lv_iconst (v := iI 0) hx hb dX7_wordAt_5 rfl ?_
  refine lv_istore (i := 5) (lv' := [(5, .int (iI 0)), (4, .int (iI 0)), (3, .int (iI 0)), (0, .ref p0.toNat), (1, .int (iI p1)), (2, .int (iI p2))]) hx hb dX7_wordAt_6 hl (by decide) rfl (fun ls hl => ?_)
  have L8 : ∀ (n8 : Nat) (a5_8 a4_8 a3_8 : Int) (H : Heap) (locs : List Loc) (ls : Array Slot), ((-2147483648) ≤ a5_8 ∧ a5_8 ≤ 2147483647) → ((-2147483648) ≤ a4_8 ∧ a4_8 ≤ 2147483647) → ((-2147483648) ≤ a3_8 ∧ a3_8 ≤ 2147483647) → (0 ≤ a5_8 ∧ a5_8 ≤ 153) → (0 ≤ a3_8 ∧ a3_8 ≤ 28) → (a4_8 = wst (a3_8)) → (a4_8 ≤ a5_8) → (a3_8 = 28 ∨ a5_8 ≤ a4_8 + wln (a3_8)) → (a3_8 ≠ 28 ∨ a5_8 = 153) → (wno tT p1 p2 (a3_8)) → (0 < (n8 : Int) ∧ 153 - a5_8 < (n8 : Int)) → va_P (dC, dI) vwCl (xG L cid K N v) H → va_S A s.heap H locs → lv_has ls 6 [(5, .int (iI a5_8)), (4, .int (iI a4_8)), (3, .int (iI a3_8)), (0, .ref p0.toNat), (1, .int (iI p1)), (2, .int (iI p2))] → W p l e ({ frames := 5, cells := 0, slots := 0, locals := 109 }) s m ([.ref p0.toNat, .int (iI p1), .int (iI p2)] : List Value).toArray below meth c H locs 0 0 Q (F0 m 8 ls []) := by
    intro n8
    induction n8 with
    | zero =>
      intro a5_8 a4_8 a3_8 H locs ls h_1 h_2 h_3 h_4 h_5 h_6 h_7 h_8 h_9 h_10 hm8 hP hS hl
      exfalso; omega
    | succ n8 ih8 =>
      intro a5_8 a4_8 a3_8 H locs ls h_11 h_12 h_13 h_14 h_15 h_16 h_17 h_18 h_19 h_20 hm8 hP hS hl
      refine lv_iload hx hb dX7_wordAt_8 (lv_at hl 0 rfl) ?_
      refine va_ldcS hx hb hown hXa.2.2.2.1.2.1 dX7_wordAt_10 ?_
      have h_21 : sx_n 1 = 152 := rfl
      refine jc_i (va_runV (As := []) (rest := [.int (iI a5_8)]) ⟨hx, hb, hml, hown, hts⟩ (sJ0_length_8abf5 l dC dI _ sK sV 1 (by decide)) (cwV 0 hts (jgoodV m_807 m_775 m_776 m_754 m_777) rfl rfl rfl (by decide +kernel) ⟨(Nat.le_of_ble_eq_true rfl), (Nat.le_of_ble_eq_true rfl)⟩) ⟨xS_blind, vk_recv hXa.2.2.1 (by decide) hS, fun U hU hW => ⟨rfl, xS_of hU hW hXa.2.2 hS hA⟩⟩ rfl rfl hl.1 rfl (lv_room (Nat.le_of_ble_eq_true rfl)) dX7_wordAt_12 ⟨(Nat.le_of_ble_eq_true rfl), (Nat.le_of_ble_eq_true rfl)⟩) hP hS hA (fun r_22 H locs w_23 hP hS => ?_)
      obtain ⟨z_24, rfl, h_25, h_26⟩ := w_23
      refine xr_icmp_gt (tgt := 80) hx hb dX7_wordAt_15 (by decide) (by omega) (by omega) (fun h_27 => ?_) (fun h_27 => ?_)
      · have w8 := wst_b (k := a3_8) (by omega) (by omega)
        refine lv_iconst (v := iI (-1)) hx hb dX7_wordAt_80 rfl ?_
        rw [← hQ]
        exact W.iret (v := iI (-1)) hx hb hr (fun t ht hW => ⟨⟨iI (-1), (), rfl, ⟨(-1), rfl, by omega, by first | exact (wno_e (show wno tT p1 p2 a3_8 by assumption) (by omega)).symm | exact (wix_of (by omega) (by omega) (wm_y (_ (by omega)) (by omega) (by omega) (by omega))).symm⟩, trivial⟩, hS.F ht⟩) hS.2.2 dX7_wordAt_81
      · have w9 := wst_f (k := a3_8) (by omega) (by omega)
        have w7 := w_sep (k := a3_8) (i := a5_8) (by omega) (by omega) (by omega) (by omega)
        obtain ⟨w1, w2, w3, w4, w5, w6, -⟩ := w9
        refine lv_iload hx hb dX7_wordAt_18 (lv_at hl 0 rfl) ?_
        refine va_ldcS hx hb hown hXa.2.2.2.1.2.1 dX7_wordAt_20 ?_
        refine jc_i (va_runV (As := []) (rest := [.int (iI a5_8)]) ⟨hx, hb, hml, hown, hts⟩ (sJ0_length_8abf5 l dC dI _ sK sV 1 (by decide)) (cwV 0 hts (jgoodV m_807 m_775 m_776 m_754 m_777) rfl rfl rfl (by decide +kernel) ⟨(Nat.le_of_ble_eq_true rfl), (Nat.le_of_ble_eq_true rfl)⟩) ⟨xS_blind, vk_recv hXa.2.2.1 (by decide) hS, fun U hU hW => ⟨rfl, xS_of hU hW hXa.2.2 hS hA⟩⟩ rfl rfl hl.1 rfl (lv_room (Nat.le_of_ble_eq_true rfl)) dX7_wordAt_22 ⟨(Nat.le_of_ble_eq_true rfl), (Nat.le_of_ble_eq_true rfl)⟩) hP hS hA (fun r_28 H locs w_29 hP hS => ?_)
        obtain ⟨z_30, rfl, h_31, h_32⟩ := w_29
        have J74 : ∀ (a4_74 a3_74 : Int) (H : Heap) (locs : List Loc) (ls : Array Slot), ((-2147483648) ≤ a4_74 ∧ a4_74 ≤ 2147483647) → ((-2147483648) ≤ a3_74 ∧ a3_74 ≤ 2147483647) → (0 ≤ a3_74 ∧ a3_74 ≤ 28) → (a4_74 = wst (a3_74)) → (a4_74 ≤ a5_8 + 1) → (a3_74 = 28 ∨ a5_8 + 1 ≤ a4_74 + wln (a3_74)) → (a3_74 ≠ 28 ∨ a5_8 + 1 = 153) → (wno tT p1 p2 (a3_74)) → va_P (dC, dI) vwCl (xG L cid K N v) H → va_S A s.heap H locs → lv_has ls 6 [(5, .int (iI a5_8)), (4, .int (iI a4_74)), (3, .int (iI a3_74)), (0, .ref p0.toNat), (1, .int (iI p1)), (2, .int (iI p2))] → W p l e ({ frames := 5, cells := 0, slots := 0, locals := 109 }) s m ([.ref p0.toNat, .int (iI p1), .int (iI p2)] : List Value).toArray below meth c H locs 0 0 Q (F0 m 74 ls []) := by
          intro a4_74 a3_74 H locs ls h_33 h_34 h_35 h_36 h_37 h_38 h_39 h_40 hP hS hl
          refine lv_iinc (v := iI (a5_8 + 1)) (lv' := [(5, .int (iI (a5_8 + 1))), (4, .int (iI a4_74)), (3, .int (iI a3_74)), (0, .ref p0.toNat), (1, .int (iI p1)), (2, .int (iI p2))]) hx hb dX7_wordAt_74 hl (k := 0) rfl (iI_add _ _) (by decide) rfl (fun ls hl => ?_)
          obtain ⟨z_41, h_42, h_43, e9⟩ := xr_keep (a5_8 + 1)
          rw [e9] at hl
          refine lv_goto (tgt := 8) hx hb dX7_wordAt_77 (by decide) ?_
          exact ih8 z_41 a4_74 a3_74 H locs ls (by omega) (by omega) (by omega) (by omega) (by omega) (by first | exact wst_0.symm | omega) (by omega) (by omega) (by omega) (by first | exact wno_0 | assumption | exact wno_s (by assumption) (by omega) (by assumption)) (by omega) hP hS hl
        have J40 : ∀ (H : Heap) (locs : List Loc) (ls : Array Slot), (a5_8 = a4_8 + wln (a3_8)) → va_P (dC, dI) vwCl (xG L cid K N v) H → va_S A s.heap H locs → lv_has ls 6 [(5, .int (iI a5_8)), (4, .int (iI a4_8)), (3, .int (iI a3_8)), (0, .ref p0.toNat), (1, .int (iI p1)), (2, .int (iI p2))] → W p l e ({ frames := 5, cells := 0, slots := 0, locals := 109 }) s m ([.ref p0.toNat, .int (iI p1), .int (iI p2)] : List Value).toArray below meth c H locs 0 0 Q (F0 m 40 ls []) := by
          intro H locs ls h_44 hP hS hl
          refine lv_iload hx hb dX7_wordAt_40 (lv_at hl 0 rfl) ?_
          refine lv_iload hx hb dX7_wordAt_42 (lv_at hl 1 rfl) ?_
          refine xr_sub hx hb dX7_wordAt_44 ?_
          refine xr_kept (fun z_45 h_46 h_47 => ?_)
          refine lv_iload_n hx hb dX7_wordAt_45 rfl (lv_at hl 5 rfl) ?_
          refine lv_iload_n hx hb dX7_wordAt_46 rfl (lv_at hl 4 rfl) ?_
          refine xr_sub hx hb dX7_wordAt_47 ?_
          have J65 : ∀ (H : Heap) (locs : List Loc) (ls : Array Slot), (¬ wmt tT p1 p2 (a3_8)) → va_P (dC, dI) vwCl (xG L cid K N v) H → va_S A s.heap H locs → lv_has ls 6 [(5, .int (iI a5_8)), (4, .int (iI a4_8)), (3, .int (iI a3_8)), (0, .ref p0.toNat), (1, .int (iI p1)), (2, .int (iI p2))] → W p l e ({ frames := 5, cells := 0, slots := 0, locals := 109 }) s m ([.ref p0.toNat, .int (iI p1), .int (iI p2)] : List Value).toArray below meth c H locs 0 0 Q (F0 m 65 ls []) := by
            intro H locs ls h_48 hP hS hl
            have w8 := wst_b (k := a3_8 + 1) (by omega) (by omega)
            refine lv_iinc (v := iI (a3_8 + 1)) (lv' := [(3, .int (iI (a3_8 + 1))), (5, .int (iI a5_8)), (4, .int (iI a4_8)), (0, .ref p0.toNat), (1, .int (iI p1)), (2, .int (iI p2))]) hx hb dX7_wordAt_65 hl (k := 2) rfl (iI_add _ _) (by decide) rfl (fun ls hl => ?_)
            obtain ⟨z_49, h_50, h_51, e9⟩ := xr_keep (a3_8 + 1)
            rw [e9] at hl
            refine lv_iload hx hb dX7_wordAt_68 (lv_at hl 1 rfl) ?_
            refine lv_iconst (v := iI 1) hx hb dX7_wordAt_70 rfl ?_
            refine xr_add hx hb dX7_wordAt_71 ?_
            refine xr_kept (fun z_52 h_53 h_54 => ?_)
            refine lv_istore (i := 4) (lv' := [(4, .int (iI z_52)), (3, .int (iI z_49)), (5, .int (iI a5_8)), (0, .ref p0.toNat), (1, .int (iI p1)), (2, .int (iI p2))]) hx hb dX7_wordAt_72 hl (by decide) rfl (fun ls hl => ?_)
            obtain rfl : z_49 = a3_8 + 1 := by omega
            exact J74 z_52 (a3_8 + 1) H locs ls (by omega) (by omega) (by omega) (by omega) (by omega) (by omega) (by omega) (by first | exact wno_0 | assumption | exact wno_s (by assumption) (by omega) (by assumption)) hP hS (lv_sub hl [2, 0, 1, 3, 4, 5] rfl)
          refine xr_icmp_ne (tgt := 65) hx hb dX7_wordAt_48 (by decide) (by omega) (by omega) (fun h_55 => ?_) (fun h_55 => ?_)
          · exact J65 H locs ls (by first | exact wm_n1 (by omega) | exact wm_n2 (_ (by omega)) (by omega) (by omega)) hP hS hl
          · refine lv_aload_n hx hb dX7_wordAt_51 rfl (lv_at hl 3 rfl) ?_
            refine lv_iload hx hb dX7_wordAt_52 (lv_at hl 1 rfl) ?_
            refine lv_iload hx hb dX7_wordAt_54 (lv_at hl 0 rfl) ?_
            refine lv_iload_n hx hb dX7_wordAt_56 rfl (lv_at hl 4 rfl) ?_
            refine jc_i (va_runV (As := [.int (iI a4_8), .int (iI a5_8), .int (iI p1)]) (rest := []) ⟨hx, hb, hml, hown, hts⟩ (sX7_isWordAt l dC dI _ L cid K N tW sK sV v tT tN p0 a4_8 a5_8 p1 hI q0 (by omega) (by omega) (by omega) k1 (by omega) (by omega) (by omega)) (cwV 3 hts (jgoodV m_812 m_813 m_814 m_677 m_815) rfl rfl rfl (by decide +kernel) ⟨(Nat.le_of_ble_eq_true rfl), (Nat.le_of_ble_eq_true rfl)⟩) ⟨xP_blind, xrecv hK hP q0 rfl rfl, fun U hU hW => ⟨rfl, xP_of hU hW hP hK hDw hX hS hAw hAA⟩⟩ rfl rfl hl.1 rfl (lv_room (Nat.le_of_ble_eq_true rfl)) dX7_wordAt_57 ⟨(Nat.le_of_ble_eq_true rfl), (Nat.le_of_ble_eq_true rfl)⟩) hP hS hA (fun r_56 H locs w_57 hP hS => ?_)
            obtain ⟨z_58, rfl, h_59, h_60, h_61⟩ := w_57
            refine xr_if_eq (tgt := 65) hx hb dX7_wordAt_60 (by decide) (by omega) (fun h_62 => ?_) (fun h_62 => ?_)
            · exact J65 H locs ls (by first | exact wm_n1 (by omega) | exact wm_n2 (h_61 (by omega)) (by omega) (by omega)) hP hS hl
            · refine lv_iload_n hx hb dX7_wordAt_63 rfl (lv_at hl 2 rfl) ?_
              rw [← hQ]
              exact W.iret (v := iI a3_8) hx hb hr (fun t ht hW => ⟨⟨iI a3_8, (), rfl, ⟨a3_8, rfl, by omega, by first | exact (wno_e (show wno tT p1 p2 a3_8 by assumption) (by omega)).symm | exact (wix_of (by omega) (by omega) (wm_y (h_60 (by omega)) (by omega) (by omega) (by omega))).symm⟩, trivial⟩, hS.F ht⟩) hS.2.2 dX7_wordAt_64
        refine xr_icmp_eq (tgt := 40) hx hb dX7_wordAt_25 (by decide) (by omega) (by omega) (fun h_63 => ?_) (fun h_63 => ?_)
        · exact J40 H locs ls (by omega) hP hS hl
        · refine va_ldcS hx hb hown hXa.2.2.2.1.2.1 dX7_wordAt_28 ?_
          refine lv_iload hx hb dX7_wordAt_30 (lv_at hl 0 rfl) ?_
          refine jc_i (va_runV (As := [.int (iI a5_8)]) (rest := []) ⟨hx, hb, hml, hown, hts⟩ (sJ0_charAt_5068e l dC dI _ sK sV 1 a5_8 (by decide) (by omega) (by omega) (by omega)) (cwV 1 hts (jgoodV m_808 m_809 m_810 m_754 m_811) rfl rfl rfl (by decide +kernel) ⟨(Nat.le_of_ble_eq_true rfl), (Nat.le_of_ble_eq_true rfl)⟩) ⟨xS_blind, vk_recv hXa.2.2.1 (by decide) hS, fun U hU hW => ⟨rfl, xS_of hU hW hXa.2.2 hS hA⟩⟩ rfl rfl hl.1 rfl (lv_room (Nat.le_of_ble_eq_true rfl)) dX7_wordAt_32 ⟨(Nat.le_of_ble_eq_true rfl), (Nat.le_of_ble_eq_true rfl)⟩) hP hS hA (fun r_64 H locs w_65 hP hS => ?_)
          obtain ⟨z_66, rfl, h_67, h_68⟩ := w_65
          refine lv_bipush (v := iI 32) hx hb dX7_wordAt_35 rfl ?_
          refine xr_icmp_ne (tgt := 74) hx hb dX7_wordAt_37 (by decide) (by omega) (by omega) (fun h_69 => ?_) (fun h_69 => ?_)
          · exact J74 a4_8 a3_8 H locs ls (by omega) (by omega) (by omega) (by omega) (by omega) (by omega) (by omega) (by first | exact wno_0 | assumption | exact wno_s (by assumption) (by omega) (by assumption)) hP hS hl
          · exact J40 H locs ls (by omega) hP hS hl
  exact L8 (((153 - 0 : Int)).toNat + 1) 0 0 0 H locs ls (by omega) (by omega) (by omega) (by omega) (by omega) (by first | exact wst_0.symm | omega) (by omega) (by omega) (by omega) (by first | exact wno_0 | assumption | exact wno_s (by assumption) (by omega) (by assumption)) (by omega) hP hS hl
set_option maxHeartbeats 2000000 in
set_option maxRecDepth 100000 in
theorem sX7_numberAt (l : Launch) (dC : Nat → ClassId) (dI : Nat → Nat → Nat) (sz : Nat) (L : List Nat) (cid : Nat → ClassId) (K : Int → Nat) (N : Int → Int) (tW : Nat) (sK sV : Nat → Nat) (v : Int → Int → Int) (tT : Int → Int) (tN : Int) (p0 : Int) (p1 : Int) (p2 : Int) (hI : xI L K N v) (q0 : ok L K p0 7) (q1 : rg p1) (q2 : rg p2) (k1 : txt tT tN v p0) (k2 : 0 ≤ p1 ∧ p1 ≤ 600) (k3 : 0 ≤ p2 ∧ p2 ≤ 602) (k4 : p1 ≤ p2) (k5 : ∀ i : Int, p1 ≤ i → i < p2 → 48 ≤ tT i ∧ tT i ≤ 57) : Met l yX7_numberAt (jk yX7_numberAt cX7_numberAt 5 (some .int)) ({ frames := 1, cells := 0, slots := 0, locals := 21 }) (va_Pc [.ref p0.toNat, .int (iI p1), .int (iI p2)] (xP (dC, dI) (xG L cid K N v) (xT cid) tW sK sV sz)) (va_Qi (fun (r : Int32) (_ : Unit) => ∃ z : Int, r = iI z ∧ (0 ≤ z ∧ z ≤ 999999) ∧ (z = nmk tT p1 (p2 - p1).toNat)) (fun _ _ => True) (va_A [] sz)) 0 0 (va_A [] sz) := by
  refine Met.ofW (cc := cX7_numberAt) (maxL := 5) (ret := (some .int)) (by decide) rfl ?_
  intro p e s m args below meth c s₁ B hml hv
  obtain ⟨rfl, ⟨hsz, hP, hK, hD0⟩, hX⟩ := hv
  have hx := B.exec
  have hb := B.bytes
  have hr := B.returns
  have hts := atoms_spec (ws := (jk yX7_numberAt cX7_numberAt 5 (some .int))) B.pre
  have hj : ∀ w ∈ jw, w.before ([.ref p0.toNat, .int (iI p1), .int (iI p2)] : List Value).toArray s = true := fun w h => hts w (jm h)
  have hown : s.vm.findClass RX7 = some m.cls := findClass_of_methodNamed B.named
  subst hsz
  have hDw := hD0.self (sz := s.heap.size)
  have hAA : ∀ q : Nat, s.heap.size ≤ q → va_A (xG L cid K N v) s.heap.size q := fun q h => Or.inr h
  have hAw : ∀ q, va_A [] s.heap.size q → va_A (xG L cid K N v) s.heap.size q := ja_nil va_S.rf hAA
  generalize hAe : (va_A [] s.heap.size) = A at hAw ⊢
  have hA : ∀ q : Nat, s.heap.size ≤ q → A q := fun q h => by rw [← hAe]; exact Or.inr h
  have hS : va_S A s.heap s.heap [] := va_S.rf
  have hXa := hX.nar hAw
  have hP : va_P (dC, dI) vwCl (xG L cid K N v) s.heap := hP
  have hl := lv_entry ([.ref p0.toNat, .int (iI p1), .int (iI p2)]) (n := 5) (Nat.le_of_ble_eq_true rfl)
  rw [lg_entry_eq]
  generalize (lg_sl ([.ref p0.toNat, .int (iI p1), .int (iI p2)]) ++ List.replicate (5 - (lg_sl ([.ref p0.toNat, .int (iI p1), .int (iI p2)])).length) Slot.unset).toArray = ls at hl ⊢
  have hl : lv_has ls 5 [(0, .ref p0.toNat), (1, .int (iI p1)), (2, .int (iI p2))] := hl
  generalize hQ : MQ below (va_Qi (fun (r : Int32) (_ : Unit) => ∃ z : Int, r = iI z ∧ (0 ≤ z ∧ z ≤ 999999) ∧ (z = nmk tT p1 (p2 - p1).toNat)) (fun _ _ => True) A) ([.ref p0.toNat, .int (iI p1), .int (iI p2)] : List Value).toArray s 0 0 A = Q
  suffices ST : ∀ (H : Heap) (locs : List Loc), va_P (dC, dI) vwCl (xG L cid K N v) H → va_S A s.heap H locs → W p l e ({ frames := 1, cells := 0, slots := 0, locals := 21 }) s m ([.ref p0.toNat, .int (iI p1), .int (iI p2)] : List Value).toArray below meth c H locs 0 0 Q (F0 m 0 ls []) from ST _ _ hP hS
  clear hP hS
  intro H locs hP hS
  refine lv_iconst (v := iI 0) hx hb dX7_numberAt_0 rfl ?_
  refine lv_istore_n (i := 3) (lv' := [(3, .int (iI 0)), (0, .ref p0.toNat), (1, .int (iI p1)), (2, .int (iI p2))]) hx hb dX7_numberAt_1 rfl hl (by decide) rfl (fun ls hl => ?_)
  refine lv_iload_n hx hb dX7_numberAt_2 rfl (lv_at hl 2 rfl) ?_
  refine lv_istore (i := 4) (lv' := [(4, .int (iI p1)), (3, .int (iI 0)), (0, .ref p0.toNat), (1, .int (iI p1)), (2, .int (iI p2))]) hx hb dX7_numberAt_3 hl (by decide) rfl (fun ls hl => ?_)
  have L5 : ∀ (n5 : Nat) (a4_5 a3_5 : Int) (H : Heap) (locs : List Loc) (ls : Array Slot), (0 ≤ a4_5 ∧ a4_5 ≤ 602) → ((-2147483648) ≤ a3_5 ∧ a3_5 ≤ 2147483647) → (p1 ≤ a4_5 ∧ a4_5 ≤ p2) → (0 ≤ a3_5 ∧ a3_5 ≤ 999999) → (a3_5 = nmk tT p1 (a4_5 - p1).toNat) → (0 < (n5 : Int) ∧ p2 - a4_5 < (n5 : Int)) → va_P (dC, dI) vwCl (xG L cid K N v) H → va_S A s.heap H locs → lv_has ls 5 [(4, .int (iI a4_5)), (3, .int (iI a3_5)), (0, .ref p0.toNat), (1, .int (iI p1)), (2, .int (iI p2))] → W p l e ({ frames := 1, cells := 0, slots := 0, locals := 21 }) s m ([.ref p0.toNat, .int (iI p1), .int (iI p2)] : List Value).toArray below meth c H locs 0 0 Q (F0 m 5 ls []) := by
    intro n5
    induction n5 with
    | zero =>
      intro a4_5 a3_5 H locs ls h_1 h_2 h_3 h_4 h_5 hm5 hP hS hl
      exfalso; omega
    | succ n5 ih5 =>
      intro a4_5 a3_5 H locs ls h_6 h_7 h_8 h_9 h_10 hm5 hP hS hl
      refine lv_iload hx hb dX7_numberAt_5 (lv_at hl 0 rfl) ?_
      refine lv_iload_n hx hb dX7_numberAt_7 rfl (lv_at hl 4 rfl) ?_
      refine xr_icmp_ge (tgt := 38) hx hb dX7_numberAt_8 (by decide) (by omega) (by omega) (fun h_11 => ?_) (fun h_11 => ?_)
      · refine lv_iload_n hx hb dX7_numberAt_38 rfl (lv_at hl 1 rfl) ?_
        rw [← hQ]
        exact W.iret (v := iI a3_5) hx hb hr (fun t ht hW => ⟨⟨iI a3_5, (), rfl, ⟨a3_5, rfl, by omega, by exact nmz_e (show a3_5 = nmk tT p1 (a4_5 - p1).toNat by assumption) (by omega) (by omega) (by omega)⟩, trivial⟩, hS.F ht⟩) hS.2.2 dX7_numberAt_39
      · have d9 := k5 a4_5 (by omega) (by omega)
        refine lv_iload_n hx hb dX7_numberAt_11 rfl (lv_at hl 1 rfl) ?_
        refine lv_ldc hx hb hown (hts (.constant RX7 140 99999) (jm m_687)) dX7_numberAt_12 ?_
        refine jt_i (iI 99999) (by decide) ?_
        refine xr_icmp_gt (tgt := 38) hx hb dX7_numberAt_14 (by decide) (by omega) (by omega) (fun h_12 => ?_) (fun h_12 => ?_)
        · refine lv_iload_n hx hb dX7_numberAt_38 rfl (lv_at hl 1 rfl) ?_
          rw [← hQ]
          exact W.iret (v := iI a3_5) hx hb hr (fun t ht hW => ⟨⟨iI a3_5, (), rfl, ⟨a3_5, rfl, by omega, by exact nmz_e (show a3_5 = nmk tT p1 (a4_5 - p1).toNat by assumption) (by omega) (by omega) (by omega)⟩, trivial⟩, hS.F ht⟩) hS.2.2 dX7_numberAt_39
        · refine lv_iload_n hx hb dX7_numberAt_17 rfl (lv_at hl 1 rfl) ?_
          refine lv_bipush (v := iI 10) hx hb dX7_numberAt_18 rfl ?_
          refine xr_mul hx hb dX7_numberAt_20 ?_
          refine xr_kept (fun z_13 h_14 h_15 => ?_)
          refine lv_aload_n hx hb dX7_numberAt_21 rfl (lv_at hl 2 rfl) ?_
          refine lv_iload hx hb dX7_numberAt_22 (lv_at hl 0 rfl) ?_
          refine jc_i (va_runV (As := [.int (iI a4_5)]) (rest := [.int (iI z_13)]) ⟨hx, hb, hml, hown, hts⟩ (sX7_byteAt l dC dI _ L cid K N tW sK sV v tT tN p0 a4_5 hI q0 (by omega) k1) (cwV 1 hts (jgoodV m_728 m_729 m_730 m_677 m_731) rfl rfl rfl (by decide +kernel) ⟨(Nat.le_of_ble_eq_true rfl), (Nat.le_of_ble_eq_true rfl)⟩) ⟨xP_blind, xrecv hK hP q0 rfl rfl, fun U hU hW => ⟨rfl, xP_of hU hW hP hK hDw hX hS hAw hAA⟩⟩ rfl rfl hl.1 rfl (lv_room (Nat.le_of_ble_eq_true rfl)) dX7_numberAt_24 ⟨(Nat.le_of_ble_eq_true rfl), (Nat.le_of_ble_eq_true rfl)⟩) hP hS hA (fun r_16 H locs w_17 hP hS => ?_)
          obtain ⟨z_18, rfl, h_19, h_20⟩ := w_17
          refine xr_add hx hb dX7_numberAt_27 ?_
          refine xr_kept (fun z_21 h_22 h_23 => ?_)
          refine lv_bipush (v := iI 48) hx hb dX7_numberAt_28 rfl ?_
          refine xr_sub hx hb dX7_numberAt_30 ?_
          refine xr_kept (fun z_24 h_25 h_26 => ?_)
          refine lv_istore_n (i := 3) (lv' := [(3, .int (iI z_24)), (4, .int (iI a4_5)), (0, .ref p0.toNat), (1, .int (iI p1)), (2, .int (iI p2))]) hx hb dX7_numberAt_31 rfl hl (by decide) rfl (fun ls hl => ?_)
          refine lv_iinc (v := iI (a4_5 + 1)) (lv' := [(4, .int (iI (a4_5 + 1))), (3, .int (iI z_24)), (0, .ref p0.toNat), (1, .int (iI p1)), (2, .int (iI p2))]) hx hb dX7_numberAt_32 hl (k := 1) rfl (iI_add _ _) (by decide) rfl (fun ls hl => ?_)
          refine lv_goto (tgt := 5) hx hb dX7_numberAt_35 (by decide) ?_
          exact ih5 (a4_5 + 1) z_24 H locs ls (by omega) (by omega) (by omega) (by omega) (by first | exact nm_0 | exact nm_1 (by assumption) (by omega) (by omega) (by omega) (by omega)) (by omega) hP hS hl
  exact L5 (((p2 - p1 : Int)).toNat + 1) p1 0 H locs ls (by omega) (by omega) (by omega) (by omega) (by first | exact nm_0 | exact nm_1 (by assumption) (by omega) (by omega) (by omega) (by omega)) (by omega) hP hS hl
set_option maxHeartbeats 2000000 in
set_option maxRecDepth 100000 in
theorem sX7_addToken (l : Launch) (dC : Nat → ClassId) (dI : Nat → Nat → Nat) (sz : Nat) (L : List Nat) (cid : Nat → ClassId) (K : Int → Nat) (N : Int → Int) (tW : Nat) (sK sV : Nat → Nat) (v : Int → Int → Int) (tT : Int → Int) (tN : Int) (p0 : Int) (p1 : Int) (p2 : Int) (p3 : Int) (hI : xI L K N v) (q0 : ok L K p0 7) (q1 : rg p1) (q2 : rg p2) (q3 : rg p3) (k1 : txt tT tN v p0) (k2 : 0 ≤ v p0 6 ∧ v p0 6 ≤ 600) (k3 : 0 ≤ p2 ∧ p2 ≤ 600) (k4 : p2 ≤ p3 ∧ p3 ≤ 602) (k5 : p1 = 2 → ∀ i : Int, p2 ≤ i → i < p3 → 48 ≤ tT i ∧ tT i ≤ 57) : Met l yX7_addToken (jk yX7_addToken cX7_addToken 4 none) ({ frames := 6, cells := 0, slots := 0, locals := 134 }) (va_Pc [.ref p0.toNat, .int (iI p1), .int (iI p2), .int (iI p3)] (xP (dC, dI) (xG L cid K N v) (xT cid) tW sK sV sz)) (va_Qv (fun (u : (Int → Int → Int)) => (xI L K N u) ∧ (fr K [(7, 6), (21, (-1)), (22, (-1)), (23, (-1)), (24, (-1))] u v) ∧ (u p0 6 = v p0 6 + 1) ∧ (∀ i, u (v p0 2) i = if i = v p0 6 then p1 else v (v p0 2) i) ∧ (∀ i, u (v p0 3) i = if i = v p0 6 then p2 else v (v p0 3) i) ∧ (∀ i, u (v p0 4) i = if i = v p0 6 then p3 else v (v p0 4) i) ∧ (∀ i, u (v p0 5) i = if i = v p0 6 then tvx tT p1 p2 p3 else v (v p0 5) i)) (fun u t => va_P (dC, dI) vwCl (xG L cid K N u) t.heap ∧ va_K (dC, dI) vwCl (xT cid) t ∧ va_D (va_A (xG L cid K N v) sz) (xG L cid K N u)) (va_A (xG L cid K N v) sz)) 0 0 (va_A (xG L cid K N v) sz) := by
  refine Met.ofW (cc := cX7_addToken) (maxL := 4) (ret := none) (by decide) rfl ?_
  intro p e s m args below meth c s₁ B hml hv
  obtain ⟨rfl, ⟨hsz, hP, hK, hD0⟩, hX⟩ := hv
  have hx := B.exec
  have hb := B.bytes
  have hr := B.returns
  have hts := atoms_spec (ws := (jk yX7_addToken cX7_addToken 4 none)) B.pre
  have hj : ∀ w ∈ jw, w.before ([.ref p0.toNat, .int (iI p1), .int (iI p2), .int (iI p3)] : List Value).toArray s = true := fun w h => hts w (jm h)
  have hown : s.vm.findClass RX7 = some m.cls := findClass_of_methodNamed B.named
  subst hsz
  have hD := hD0.self (sz := s.heap.size)
  generalize hAe : (va_A (xG L cid K N v) s.heap.size) = A at hD hX ⊢
  have hA : ∀ q : Nat, s.heap.size ≤ q → A q := fun q h => by rw [← hAe]; exact Or.inr h
  have hS : va_S A s.heap s.heap [] := va_S.rf
  have hXa := hX
  have hP : va_P (dC, dI) vwCl (xG L cid K N v) s.heap := hP
  have hl := lv_entry ([.ref p0.toNat, .int (iI p1), .int (iI p2), .int (iI p3)]) (n := 4) (Nat.le_of_ble_eq_true rfl)
  rw [lg_entry_eq]
  generalize (lg_sl ([.ref p0.toNat, .int (iI p1), .int (iI p2), .int (iI p3)]) ++ List.replicate (4 - (lg_sl ([.ref p0.toNat, .int (iI p1), .int (iI p2), .int (iI p3)])).length) Slot.unset).toArray = ls at hl ⊢
  have hl : lv_has ls 4 [(0, .ref p0.toNat), (1, .int (iI p1)), (2, .int (iI p2)), (3, .int (iI p3))] := hl
  generalize hQ : MQ below (va_Qv (fun (u : (Int → Int → Int)) => (xI L K N u) ∧ (fr K [(7, 6), (21, (-1)), (22, (-1)), (23, (-1)), (24, (-1))] u v) ∧ (u p0 6 = v p0 6 + 1) ∧ (∀ i, u (v p0 2) i = if i = v p0 6 then p1 else v (v p0 2) i) ∧ (∀ i, u (v p0 3) i = if i = v p0 6 then p2 else v (v p0 3) i) ∧ (∀ i, u (v p0 4) i = if i = v p0 6 then p3 else v (v p0 4) i) ∧ (∀ i, u (v p0 5) i = if i = v p0 6 then tvx tT p1 p2 p3 else v (v p0 5) i)) (fun u t => va_P (dC, dI) vwCl (xG L cid K N u) t.heap ∧ va_K (dC, dI) vwCl (xT cid) t ∧ va_D A (xG L cid K N u)) A) ([.ref p0.toNat, .int (iI p1), .int (iI p2), .int (iI p3)] : List Value).toArray s 0 0 A = Q
  suffices ST : ∀ (H : Heap) (locs : List Loc), va_P (dC, dI) vwCl (xG L cid K N v) H → va_S A s.heap H locs → W p l e ({ frames := 6, cells := 0, slots := 0, locals := 134 }) s m ([.ref p0.toNat, .int (iI p1), .int (iI p2), .int (iI p3)] : List Value).toArray below meth c H locs 0 0 Q (F0 m 0 ls []) from ST _ _ hP hS
  clear hP hS
  intro H locs hP hS
  refine lv_aload_n hx hb dX7_addToken_0 rfl (lv_at hl 0 rfl) ?_
  have h_1 : (-2147483648) ≤ v p0 6 ∧ v p0 6 ≤ 2147483647 := xf_7_6 hI q0
  refine gx_RX7_106 (y := v p0 6) hx hb hj hown hK hP q0 rfl dX7_addToken_1 ?_
  refine xr_if_lt (tgt := 97) hx hb dX7_addToken_4 (by decide) (by omega) (fun h_2 => ?_) (fun h_2 => ?_)
  · have h_3 : ok L K (v p0 2) 21 := xf_7_2 hI q0
    have h_4 : N (v p0 2) = 601 := xn_21 hI h_3
    have h_5 : ok L K (v p0 3) 22 := xf_7_3 hI q0
    have h_6 : N (v p0 3) = 601 := xn_22 hI h_5
    have h_7 : ok L K (v p0 4) 23 := xf_7_4 hI q0
    have h_8 : N (v p0 4) = 601 := xn_23 hI h_7
    have h_9 : ok L K (v p0 5) 24 := xf_7_5 hI q0
    have h_10 : N (v p0 5) = 601 := xn_24 hI h_9
    rw [← hQ]
    exact W.vret hx hb hr (fun t ht hW => ⟨⟨v, rfl, ⟨hI, fr_rf, by omega, by first | exact hA2 | (exfalso; omega), by first | exact hA3 | (exfalso; omega), by first | exact hA4 | (exfalso; omega), by first | exact hA5 | (exfalso; omega)⟩, by rw [ht]; exact hP, va_K.moved hW.alike hK, hD⟩, hS.F ht⟩) hS.2.2 dX7_addToken_97
  · refine lv_aload_n hx hb dX7_addToken_7 rfl (lv_at hl 0 rfl) ?_
    refine gx_RX7_106 (y := v p0 6) hx hb hj hown hK hP q0 rfl dX7_addToken_8 ?_
    refine lv_aload_n hx hb dX7_addToken_11 rfl (lv_at hl 0 rfl) ?_
    have h_11 : ok L K (v p0 2) 21 := xf_7_2 hI q0
    have h_12 : N (v p0 2) = 601 := xn_21 hI h_11
    refine gx_RX7_15 (y := v p0 2) hx hb hj hown hK hP q0 ((xf_7_2 hI q0).1) rfl dX7_addToken_12 ?_
    refine lx_21 (y := 601) hx hb hK hP h_11 (by omega) (by omega) dX7_addToken_15 ?_
    refine xr_icmp_ge (tgt := 97) hx hb dX7_addToken_16 (by decide) (by omega) (by omega) (fun h_13 => ?_) (fun h_13 => ?_)
    · have h_14 : ok L K (v p0 3) 22 := xf_7_3 hI q0
      have h_15 : N (v p0 3) = 601 := xn_22 hI h_14
      have h_16 : ok L K (v p0 4) 23 := xf_7_4 hI q0
      have h_17 : N (v p0 4) = 601 := xn_23 hI h_16
      have h_18 : ok L K (v p0 5) 24 := xf_7_5 hI q0
      have h_19 : N (v p0 5) = 601 := xn_24 hI h_18
      rw [← hQ]
      exact W.vret hx hb hr (fun t ht hW => ⟨⟨v, rfl, ⟨hI, fr_rf, by omega, by first | exact hA2 | (exfalso; omega), by first | exact hA3 | (exfalso; omega), by first | exact hA4 | (exfalso; omega), by first | exact hA5 | (exfalso; omega)⟩, by rw [ht]; exact hP, va_K.moved hW.alike hK, hD⟩, hS.F ht⟩) hS.2.2 dX7_addToken_97
    · refine lv_aload_n hx hb dX7_addToken_19 rfl (lv_at hl 0 rfl) ?_
      refine gx_RX7_15 (y := v p0 2) hx hb hj hown hK hP q0 ((xf_7_2 hI q0).1) rfl dX7_addToken_20 ?_
      refine lv_aload_n hx hb dX7_addToken_23 rfl (lv_at hl 0 rfl) ?_
      refine gx_RX7_106 (y := v p0 6) hx hb hj hown hK hP q0 rfl dX7_addToken_24 ?_
      refine lv_iload_n hx hb dX7_addToken_27 rfl (lv_at hl 1 rfl) ?_
      refine sx_21 (y := p1) hx hb hK hP hD hS hI h_11 (by omega) (by omega) (by omega) ⟨by omega, by omega⟩ dX7_addToken_28 (fun v_20 H locs f_21 e_22 o_23 I_24 hP hD hS => ?_)
      refine lv_aload_n hx hb dX7_addToken_29 rfl (lv_at hl 0 rfl) ?_
      have h_25 : ok L K (v p0 3) 22 := xf_7_3 hI q0
      have h_26 : N (v p0 3) = 601 := xn_22 hI h_25
      refine gx_RX7_19 (y := v p0 3) hx hb hj hown hK hP q0 ((xf_7_3 I_24 q0).1) (fr_use q0 f_21 rfl) dX7_addToken_30 ?_
      refine lv_aload_n hx hb dX7_addToken_33 rfl (lv_at hl 0 rfl) ?_
      refine gx_RX7_106 (y := v p0 6) hx hb hj hown hK hP q0 (fr_use q0 f_21 rfl) dX7_addToken_34 ?_
      refine lv_iload_n hx hb dX7_addToken_37 rfl (lv_at hl 2 rfl) ?_
      refine sx_22 (y := p2) hx hb hK hP hD hS I_24 h_25 (by omega) (by omega) (by omega) ⟨by omega, by omega⟩ dX7_addToken_38 (fun v_27 H locs f_28 e_29 o_30 I_31 hP hD hS => ?_)
      refine lv_aload_n hx hb dX7_addToken_39 rfl (lv_at hl 0 rfl) ?_
      have h_32 : ok L K (v p0 4) 23 := xf_7_4 hI q0
      have h_33 : N (v p0 4) = 601 := xn_23 hI h_32
      refine gx_RX7_22 (y := v p0 4) hx hb hj hown hK hP q0 ((xf_7_4 I_31 q0).1) (((fr_use q0 f_28 rfl)).trans (fr_use q0 f_21 rfl)) dX7_addToken_40 ?_
      refine lv_aload_n hx hb dX7_addToken_43 rfl (lv_at hl 0 rfl) ?_
      refine gx_RX7_106 (y := v p0 6) hx hb hj hown hK hP q0 (((fr_use q0 f_28 rfl)).trans (fr_use q0 f_21 rfl)) dX7_addToken_44 ?_
      refine lv_iload_n hx hb dX7_addToken_47 rfl (lv_at hl 3 rfl) ?_
      refine sx_23 (y := p3) hx hb hK hP hD hS I_31 h_32 (by omega) (by omega) (by omega) ⟨by omega, by omega⟩ dX7_addToken_48 (fun v_34 H locs f_35 e_36 o_37 I_38 hP hD hS => ?_)
      refine lv_aload_n hx hb dX7_addToken_49 rfl (lv_at hl 0 rfl) ?_
      have h_39 : ok L K (v p0 5) 24 := xf_7_5 hI q0
      have h_40 : N (v p0 5) = 601 := xn_24 hI h_39
      refine gx_RX7_25 (y := v p0 5) hx hb hj hown hK hP q0 ((xf_7_5 I_38 q0).1) (((fr_use q0 f_35 rfl)).trans (((fr_use q0 f_28 rfl)).trans (fr_use q0 f_21 rfl))) dX7_addToken_50 ?_
      refine lv_aload_n hx hb dX7_addToken_53 rfl (lv_at hl 0 rfl) ?_
      refine gx_RX7_106 (y := v p0 6) hx hb hj hown hK hP q0 (((fr_use q0 f_35 rfl)).trans (((fr_use q0 f_28 rfl)).trans (fr_use q0 f_21 rfl))) dX7_addToken_54 ?_
      refine lv_iload_n hx hb dX7_addToken_57 rfl (lv_at hl 1 rfl) ?_
      refine lv_iconst (v := iI 1) hx hb dX7_addToken_58 rfl ?_
      have J86 : ∀ (s0_86 : Int) (H : Heap) (locs : List Loc) (ls : Array Slot), ((-1) ≤ s0_86 ∧ s0_86 ≤ 999999) → (s0_86 = tvx tT p1 p2 p3) → va_P (dC, dI) vwCl (xG L cid K N v_34) H → va_D A (xG L cid K N v_34) → va_S A s.heap H locs → lv_has ls 4 [(0, .ref p0.toNat), (1, .int (iI p1)), (2, .int (iI p2)), (3, .int (iI p3))] → W p l e ({ frames := 6, cells := 0, slots := 0, locals := 134 }) s m ([.ref p0.toNat, .int (iI p1), .int (iI p2), .int (iI p3)] : List Value).toArray below meth c H locs 0 0 Q (F0 m 86 ls [.int (iI s0_86), .int (iI (v p0 6)), .ref (v p0 5).toNat]) := by
        intro s0_86 H locs ls h_41 h_42 hP hD hS hl
        refine sx_24 (y := s0_86) hx hb hK hP hD hS I_38 h_39 (by omega) (by omega) (by omega) ⟨by omega, by omega⟩ dX7_addToken_86 (fun v_43 H locs f_44 e_45 o_46 I_47 hP hD hS => ?_)
        refine lv_aload_n hx hb dX7_addToken_87 rfl (lv_at hl 0 rfl) ?_
        refine lv_dup hx hb dX7_addToken_88 rfl ?_
        refine gx_RX7_106 (y := v p0 6) hx hb hj hown hK hP q0 (((fr_use q0 f_44 rfl)).trans (((fr_use q0 f_35 rfl)).trans (((fr_use q0 f_28 rfl)).trans (fr_use q0 f_21 rfl)))) dX7_addToken_89 ?_
        refine lv_iconst (v := iI 1) hx hb dX7_addToken_92 rfl ?_
        refine xr_add hx hb dX7_addToken_93 ?_
        refine xr_kept (fun z_48 h_49 h_50 => ?_)
        refine px_RX7_106 (y := z_48) hx hb hj hown hK hP hD hS I_47 q0 ⟨by omega, by omega⟩ dX7_addToken_94 (fun v_51 H locs f_52 e_53 o_54 I_55 hP hD hS => ?_)
        have hA2 : ∀ i, v_51 (v p0 2) i = if i = v p0 6 then p1 else v (v p0 2) i := fun i => by
          rw [fr_use (j := i) h_11 f_52 rfl, fr_use (j := i) h_11 f_44 rfl, fr_use (j := i) h_11 f_35 rfl, fr_use (j := i) h_11 f_28 rfl, vu_of e_22 o_23]
          by_cases c : i = v p0 6
          · rw [if_pos c, c, vu_self]
          · rw [if_neg c, vu_ne _ (fun d => c d.2)]
        have hA3 : ∀ i, v_51 (v p0 3) i = if i = v p0 6 then p2 else v (v p0 3) i := fun i => by
          rw [fr_use (j := i) h_25 f_52 rfl, fr_use (j := i) h_25 f_44 rfl, fr_use (j := i) h_25 f_35 rfl, vu_of e_29 o_30]
          by_cases c : i = v p0 6
          · rw [if_pos c, c, vu_self]
          · rw [if_neg c, vu_ne _ (fun d => c d.2), fr_use (j := i) h_25 f_21 rfl]
        have hA4 : ∀ i, v_51 (v p0 4) i = if i = v p0 6 then p3 else v (v p0 4) i := fun i => by
          rw [fr_use (j := i) h_32 f_52 rfl, fr_use (j := i) h_32 f_44 rfl, vu_of e_36 o_37]
          by_cases c : i = v p0 6
          · rw [if_pos c, c, vu_self]
          · rw [if_neg c, vu_ne _ (fun d => c d.2), fr_use (j := i) h_32 f_28 rfl, fr_use (j := i) h_32 f_21 rfl]
        have hA5 : ∀ i, v_51 (v p0 5) i = if i = v p0 6 then tvx tT p1 p2 p3 else v (v p0 5) i := fun i => by
          rw [← show s0_86 = tvx tT p1 p2 p3 by assumption]
          rw [fr_use (j := i) h_39 f_52 rfl, vu_of e_45 o_46]
          by_cases c : i = v p0 6
          · rw [if_pos c, c, vu_self]
          · rw [if_neg c, vu_ne _ (fun d => c d.2), fr_use (j := i) h_39 f_35 rfl, fr_use (j := i) h_39 f_28 rfl, fr_use (j := i) h_39 f_21 rfl]
        have b_56 : v_51 p0 6 = z_48 := e_53
        rw [← hQ]
        exact W.vret hx hb hr (fun t ht hW => ⟨⟨v_51, rfl, ⟨I_55, (fr_tr f_52 rfl (fr_tr f_44 rfl (fr_tr f_35 rfl (fr_tr f_28 rfl (fr_tr f_21 rfl fr_rf))))), by omega, by first | exact hA2 | (exfalso; omega), by first | exact hA3 | (exfalso; omega), by first | exact hA4 | (exfalso; omega), by first | exact hA5 | (exfalso; omega)⟩, by rw [ht]; exact hP, va_K.moved hW.alike hK, hD⟩, hS.F ht⟩) hS.2.2 dX7_addToken_97
      refine xr_icmp_ne (tgt := 71) hx hb dX7_addToken_59 (by decide) (by omega) (by omega) (fun h_57 => ?_) (fun h_57 => ?_)
      · refine lv_iload_n hx hb dX7_addToken_71 rfl (lv_at hl 1 rfl) ?_
        refine lv_iconst (v := iI 2) hx hb dX7_addToken_72 rfl ?_
        refine xr_icmp_ne (tgt := 85) hx hb dX7_addToken_73 (by decide) (by omega) (by omega) (fun h_58 => ?_) (fun h_58 => ?_)
        · refine lv_iconst (v := iI (-1)) hx hb dX7_addToken_85 rfl ?_
          exact J86 (-1) H locs ls (by omega) (by first | exact (show (-1) = wix tT p2 p3 by assumption).trans (tvx_1 (by omega)).symm | exact (show (-1) = nmk tT p2 (p3 - p2).toNat by assumption).trans (tvx_2 (by omega)).symm | exact (tvx_o (by omega) (by omega)).symm) hP hD hS hl
        · refine lv_aload_n hx hb dX7_addToken_76 rfl (lv_at hl 0 rfl) ?_
          refine lv_iload_n hx hb dX7_addToken_77 rfl (lv_at hl 2 rfl) ?_
          refine lv_iload_n hx hb dX7_addToken_78 rfl (lv_at hl 3 rfl) ?_
          refine jc_i (va_runV (As := [.int (iI p2), .int (iI p3)]) (rest := [.int (iI (v p0 6)), .ref (v p0 5).toNat]) ⟨hx, hb, hml, hown, hts⟩ (sX7_numberAt l dC dI _ L cid K N tW sK sV v_34 tT tN p0 p2 p3 I_38 q0 (by omega) (by omega) (txt_fr hI q0 (show fr K [(21, (-1)), (22, (-1)), (23, (-1))] v_34 v from (fr_tr f_35 rfl (fr_tr f_28 rfl (fr_tr f_21 rfl fr_rf)))) rfl rfl (fun _ => rfl) k1) (by omega) (by omega) (by omega) (by exact k5 (by omega))) (cwV 2 hts (jgoodV m_816 m_817 m_818 m_677 m_819) rfl rfl rfl (by decide +kernel) ⟨(Nat.le_of_ble_eq_true rfl), (Nat.le_of_ble_eq_true rfl)⟩) ⟨xP_blind, xrecv hK hP q0 rfl rfl, fun U hU hW => ⟨rfl, xP_of hU hW hP hK hD hX hS (fun _ h => h) hA⟩⟩ rfl rfl hl.1 rfl (lv_room (Nat.le_of_ble_eq_true rfl)) dX7_addToken_79 ⟨(Nat.le_of_ble_eq_true rfl), (Nat.le_of_ble_eq_true rfl)⟩) hP hS hA (fun r_59 H locs w_60 hP hS => ?_)
          obtain ⟨z_61, rfl, h_62, h_63⟩ := w_60
          refine lv_goto (tgt := 86) hx hb dX7_addToken_82 (by decide) ?_
          exact J86 z_61 H locs ls (by omega) (by first | exact (show z_61 = wix tT p2 p3 by assumption).trans (tvx_1 (by omega)).symm | exact (show z_61 = nmk tT p2 (p3 - p2).toNat by assumption).trans (tvx_2 (by omega)).symm | exact (tvx_o (by omega) (by omega)).symm) hP hD hS hl
      · refine lv_aload_n hx hb dX7_addToken_62 rfl (lv_at hl 0 rfl) ?_
        refine lv_iload_n hx hb dX7_addToken_63 rfl (lv_at hl 2 rfl) ?_
        refine lv_iload_n hx hb dX7_addToken_64 rfl (lv_at hl 3 rfl) ?_
        refine jc_i (va_runV (As := [.int (iI p2), .int (iI p3)]) (rest := [.int (iI (v p0 6)), .ref (v p0 5).toNat]) ⟨hx, hb, hml, hown, hts⟩ (sX7_wordAt l dC dI _ L cid K N tW sK sV v_34 tT tN p0 p2 p3 I_38 q0 (by omega) (by omega) (txt_fr hI q0 (show fr K [(21, (-1)), (22, (-1)), (23, (-1))] v_34 v from (fr_tr f_35 rfl (fr_tr f_28 rfl (fr_tr f_21 rfl fr_rf)))) rfl rfl (fun _ => rfl) k1) (by omega) (by omega)) (cwV 2 hts (jgoodV m_820 m_821 m_822 m_677 m_823) rfl rfl rfl (by decide +kernel) ⟨(Nat.le_of_ble_eq_true rfl), (Nat.le_of_ble_eq_true rfl)⟩) ⟨xP_blind, xrecv hK hP q0 rfl rfl, fun U hU hW => ⟨rfl, xP_of hU hW hP hK hD hX hS (fun _ h => h) hA⟩⟩ rfl rfl hl.1 rfl (lv_room (Nat.le_of_ble_eq_true rfl)) dX7_addToken_65 ⟨(Nat.le_of_ble_eq_true rfl), (Nat.le_of_ble_eq_true rfl)⟩) hP hS hA (fun r_64 H locs w_65 hP hS => ?_)
        obtain ⟨z_66, rfl, h_67, h_68⟩ := w_65
        refine lv_goto (tgt := 86) hx hb dX7_addToken_68 (by decide) ?_
        exact J86 z_66 H locs ls (by omega) (by first | exact (show z_66 = wix tT p2 p3 by assumption).trans (tvx_1 (by omega)).symm | exact (show z_66 = nmk tT p2 (p3 - p2).toNat by assumption).trans (tvx_2 (by omega)).symm | exact (tvx_o (by omega) (by omega)).symm) hP hD hS hl
