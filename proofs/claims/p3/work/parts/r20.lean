set_option maxHeartbeats 2000000 in
set_option maxRecDepth 100000 in
theorem sX13_compared (l : Launch) (dC : Nat → ClassId) (dI : Nat → Nat → Nat) (sz : Nat) (ad : Nat → Nat) (ca : Nat → ClassId) (g : Nat → Int) (a : Nat → Int → Int) (p1 : Int) (p2 : Int) (p3 : Int) (p4 : Int) (hI : mI g a) (q1 : rg p1) (q2 : rg p2) (q3 : rg p3) (q4 : rg p4) (k1 : 0 ≤ p1 ∧ p1 < 60) (k2 : 0 ≤ p2 ∧ p2 < 60) (hrSh : rSh g a) : Met l yX13_compared (jk yX13_compared cX13_compared 8 (some .int)) ({ frames := 5, cells := 0, slots := 0, locals := 124 }) (va_Pc [.ref (ad 0), .int (iI p1), .int (iI p2), .int (iI p3), .int (iI p4)] (jw_P (dC, dI) (mG ad ca g a) (mT ca) sz)) (va_Qi (fun (r : Int32) (u : (Nat → Int) × (Nat → Int → Int)) => ∃ z : Int, r = iI z ∧ (u.1 = g) ∧ (mI u.1 u.2) ∧ (∀ j, j ∉ ([63, 64, 65] : List Nat) → u.2 j = a j) ∧ (rg z)) (fun u t => va_P (dC, dI) vwCl (mG ad ca u.1 u.2) t.heap ∧ va_K (dC, dI) vwCl (mT ca) t ∧ va_D (va_A (mG ad ca g a) sz) (mG ad ca u.1 u.2)) (va_A (mG ad ca g a) sz)) 0 0 (va_A (mG ad ca g a) sz) := by
  refine Met.ofW (cc := cX13_compared) (maxL := 8) (ret := (some .int)) (by decide) rfl ?_
  intro p e s m args below meth c s₁ B hml hv
  obtain ⟨rfl, hsz, hP, hK, hD0⟩ := hv
  have hx := B.exec
  have hb := B.bytes
  have hr := B.returns
  have hts := atoms_spec (ws := (jk yX13_compared cX13_compared 8 (some .int))) B.pre
  have hj : ∀ w ∈ jw, w.before ([.ref (ad 0), .int (iI p1), .int (iI p2), .int (iI p3), .int (iI p4)] : List Value).toArray s = true := fun w h => hts w (jm h)
  have hown : s.vm.findClass RX13 = some m.cls := findClass_of_methodNamed B.named
  subst hsz
  have hD := hD0.self (sz := s.heap.size)
  generalize hAe : (va_A (mG ad ca g a) s.heap.size) = A at hD ⊢
  have hA : ∀ q : Nat, s.heap.size ≤ q → A q := fun q h => by rw [← hAe]; exact Or.inr h
  have hS : va_S A s.heap s.heap [] := va_S.rf
  have hP : va_P (dC, dI) vwCl (mG ad ca g a) s.heap := hP
  have haA : ∀ j, j ∉ ([63, 64, 65] : List Nat) → a j = a j := fun _ _ => rfl
  have hl := lv_entry ([.ref (ad 0), .int (iI p1), .int (iI p2), .int (iI p3), .int (iI p4)]) (n := 8) (Nat.le_of_ble_eq_true rfl)
  rw [lg_entry_eq]
  generalize (lg_sl ([.ref (ad 0), .int (iI p1), .int (iI p2), .int (iI p3), .int (iI p4)]) ++ List.replicate (8 - (lg_sl ([.ref (ad 0), .int (iI p1), .int (iI p2), .int (iI p3), .int (iI p4)])).length) Slot.unset).toArray = ls at hl ⊢
  have hl : lv_has ls 8 [(0, .ref (ad 0)), (1, .int (iI p1)), (2, .int (iI p2)), (3, .int (iI p3)), (4, .int (iI p4))] := hl
  generalize hQ : MQ below (va_Qi (fun (r : Int32) (u : (Nat → Int) × (Nat → Int → Int)) => ∃ z : Int, r = iI z ∧ (u.1 = g) ∧ (mI u.1 u.2) ∧ (∀ j, j ∉ ([63, 64, 65] : List Nat) → u.2 j = a j) ∧ (rg z)) (fun u t => va_P (dC, dI) vwCl (mG ad ca u.1 u.2) t.heap ∧ va_K (dC, dI) vwCl (mT ca) t ∧ va_D A (mG ad ca u.1 u.2)) A) ([.ref (ad 0), .int (iI p1), .int (iI p2), .int (iI p3), .int (iI p4)] : List Value).toArray s 0 0 A = Q
  suffices ST : ∀ (H : Heap) (locs : List Loc), va_P (dC, dI) vwCl (mG ad ca g a) H → va_S A s.heap H locs → W p l e ({ frames := 5, cells := 0, slots := 0, locals := 124 }) s m ([.ref (ad 0), .int (iI p1), .int (iI p2), .int (iI p3), .int (iI p4)] : List Value).toArray below meth c H locs 0 0 Q (F0 m 0 ls []) from ST _ _ hP hS
  clear hP hS
  intro H locs hP hS
  refine lv_aload_n hx hb dX13_compared_0 rfl (lv_at hl 0 rfl) ?_
  refine lv_iload_n hx hb dX13_compared_1 rfl (lv_at hl 1 rfl) ?_
  refine lv_iload_n hx hb dX13_compared_2 rfl (lv_at hl 3 rfl) ?_
  refine lv_iload hx hb dX13_compared_3 (lv_at hl 4 rfl) ?_
  refine lv_aload_n hx hb dX13_compared_5 rfl (lv_at hl 0 rfl) ?_
  refine gf_keyOne hx hb hj hown hK hP dX13_compared_6 ?_
  refine jcg_i (va_runV (As := [.int (iI p1), .int (iI p3), .int (iI p4), .ref (ad 64)]) (rest := []) ⟨hx, hb, hml, hown, hts⟩ (sX13_key_q64 l dC dI _ ad ca g a p1 p3 p4 hI (by omega) (by omega) (by omega) (by omega) hrSh) (cwV 4 hts (jgoodV m_251 m_400 m_401 m_503 m_167) rfl rfl rfl (by decide +kernel) ⟨(Nat.le_of_ble_eq_true rfl), (Nat.le_of_ble_eq_true rfl)⟩) ⟨jw_blind, va_recv hK hP (ci := 13) (q0 := 0) rfl rfl, fun U hU hW => ⟨rfl, jw_of hU hW hP hK hD⟩⟩ rfl rfl hl.1 rfl (lv_room (Nat.le_of_ble_eq_true rfl)) dX13_compared_9 ⟨(Nat.le_of_ble_eq_true rfl), (Nat.le_of_ble_eq_true rfl)⟩) hD hS hA (fun r_1 u_7 H locs w_2 hP hK hD hS => ?_)
  obtain ⟨g_5, a_6⟩ := u_7
  obtain ⟨z_3, rfl, e_9, hI, hfr_8, h_4⟩ := w_2
  have hP : va_P (dC, dI) vwCl (mG ad ca g_5 a_6) H := hP
  have hD : va_D A (mG ad ca g_5 a_6) := hD
  have e_9 : g = g_5 := e_9.symm
  subst e_9
  have haA : ∀ j, j ∉ ([63, 64, 65] : List Nat) → a_6 j = a j := fun j h => (hfr_8 j (fun q => h (by first | exact q | (simp only [List.mem_cons, List.not_mem_nil, or_false] at q ⊢ <;> omega)))).trans (haA j h)
  refine lv_istore (lv' := [(5, .int (iI z_3)), (0, .ref (ad 0)), (1, .int (iI p1)), (2, .int (iI p2)), (3, .int (iI p3)), (4, .int (iI p4))]) hx hb dX13_compared_12 hl (by decide) rfl (fun ls hl => ?_)
  refine lv_aload_n hx hb dX13_compared_14 rfl (lv_at hl 1 rfl) ?_
  refine lv_iload_n hx hb dX13_compared_15 rfl (lv_at hl 3 rfl) ?_
  refine lv_iload_n hx hb dX13_compared_16 rfl (lv_at hl 4 rfl) ?_
  refine lv_iload hx hb dX13_compared_17 (lv_at hl 5 rfl) ?_
  refine lv_aload_n hx hb dX13_compared_19 rfl (lv_at hl 1 rfl) ?_
  refine gf_keyTwo hx hb hj hown hK hP dX13_compared_20 ?_
  refine jcg_i (va_runV (As := [.int (iI p2), .int (iI p3), .int (iI p4), .ref (ad 65)]) (rest := []) ⟨hx, hb, hml, hown, hts⟩ (sX13_key_q65 l dC dI _ ad ca g a_6 p2 p3 p4 hI (by omega) (by omega) (by omega) (by omega) (rSh_t rfl rfl (haA 9 (by decide)) (haA 10 (by decide)) (haA 11 (by decide)) (haA 12 (by decide)) (haA 16 (by decide)) hrSh)) (cwV 4 hts (jgoodV m_251 m_400 m_401 m_503 m_167) rfl rfl rfl (by decide +kernel) ⟨(Nat.le_of_ble_eq_true rfl), (Nat.le_of_ble_eq_true rfl)⟩) ⟨jw_blind, va_recv hK hP (ci := 13) (q0 := 0) rfl rfl, fun U hU hW => ⟨rfl, jw_of hU hW hP hK hD⟩⟩ rfl rfl hl.1 rfl (lv_room (Nat.le_of_ble_eq_true rfl)) dX13_compared_23 ⟨(Nat.le_of_ble_eq_true rfl), (Nat.le_of_ble_eq_true rfl)⟩) hD hS hA (fun r_10 u_16 H locs w_11 hP hK hD hS => ?_)
  obtain ⟨g_14, a_15⟩ := u_16
  obtain ⟨z_12, rfl, e_18, hI, hfr_17, h_13⟩ := w_11
  have hP : va_P (dC, dI) vwCl (mG ad ca g_14 a_15) H := hP
  have hD : va_D A (mG ad ca g_14 a_15) := hD
  have e_18 : g = g_14 := e_18.symm
  subst e_18
  have haA : ∀ j, j ∉ ([63, 64, 65] : List Nat) → a_15 j = a j := fun j h => (hfr_17 j (fun q => h (by first | exact q | (simp only [List.mem_cons, List.not_mem_nil, or_false] at q ⊢ <;> omega)))).trans (haA j h)
  refine lv_istore (lv' := [(6, .int (iI z_12)), (5, .int (iI z_3)), (0, .ref (ad 0)), (1, .int (iI p1)), (2, .int (iI p2)), (3, .int (iI p3)), (4, .int (iI p4))]) hx hb dX13_compared_26 hl (by decide) rfl (fun ls hl => ?_)
  refine lv_iconst (v := iI 0) hx hb dX13_compared_28 rfl ?_
  refine lv_istore (lv' := [(7, .int (iI 0)), (6, .int (iI z_12)), (5, .int (iI z_3)), (0, .ref (ad 0)), (1, .int (iI p1)), (2, .int (iI p2)), (3, .int (iI p3)), (4, .int (iI p4))]) hx hb dX13_compared_29 hl (by decide) rfl (fun ls hl => ?_)
  have L31 : ∀ (n31 : Nat) (v7_31 : Int) (H : Heap) (locs : List Loc) (ls : Array Slot), (0 ≤ v7_31 ∧ v7_31 ≤ 2147483647) → (0 < (n31 : Int) ∧ z_3 - v7_31 < (n31 : Int)) → va_P (dC, dI) vwCl (mG ad ca g a_15) H → va_D A (mG ad ca g a_15) → va_S A s.heap H locs → lv_has ls 8 [(7, .int (iI v7_31)), (6, .int (iI z_12)), (5, .int (iI z_3)), (0, .ref (ad 0)), (1, .int (iI p1)), (2, .int (iI p2)), (3, .int (iI p3)), (4, .int (iI p4))] → W p l e ({ frames := 5, cells := 0, slots := 0, locals := 124 }) s m ([.ref (ad 0), .int (iI p1), .int (iI p2), .int (iI p3), .int (iI p4)] : List Value).toArray below meth c H locs 0 0 Q (F0 m 31 ls []) := by
    intro n31
    induction n31 with
    | zero =>
      intro v7_31 H locs ls h_19 hm31 hP hD hS hl
      exfalso; omega
    | succ n31 ih31 =>
      intro v7_31 H locs ls h_20 hm31 hP hD hS hl
      refine lv_iload hx hb dX13_compared_31 (lv_at hl 0 rfl) ?_
      refine lv_iload hx hb dX13_compared_33 (lv_at hl 2 rfl) ?_
      refine xr_icmp_ge (tgt := 84) hx hb dX13_compared_35 (by decide) (by omega) (by omega) (fun h_21 => ?_) (fun h_21 => ?_)
      · refine lv_iload hx hb dX13_compared_84 (lv_at hl 2 rfl) ?_
        refine lv_iload hx hb dX13_compared_86 (lv_at hl 1 rfl) ?_
        refine xr_sub hx hb dX13_compared_88 ?_
        rw [← hQ]
        exact W.iret (v := iI (z_3 - z_12)) hx hb hr (fun t ht hW => ⟨⟨iI (z_3 - z_12), (g, a_15), rfl, ⟨z_3 - z_12, rfl, rfl, hI, haA, by omega⟩, by rw [ht]; exact hP, va_K.moved hW.alike hK, hD⟩, hS.F ht⟩) hS.2.2 dX13_compared_89
      · refine lv_iload hx hb dX13_compared_38 (lv_at hl 0 rfl) ?_
        refine lv_iload hx hb dX13_compared_40 (lv_at hl 1 rfl) ?_
        refine xr_icmp_ge (tgt := 84) hx hb dX13_compared_42 (by decide) (by omega) (by omega) (fun h_22 => ?_) (fun h_22 => ?_)
        · refine lv_iload hx hb dX13_compared_84 (lv_at hl 2 rfl) ?_
          refine lv_iload hx hb dX13_compared_86 (lv_at hl 1 rfl) ?_
          refine xr_sub hx hb dX13_compared_88 ?_
          rw [← hQ]
          exact W.iret (v := iI (z_3 - z_12)) hx hb hr (fun t ht hW => ⟨⟨iI (z_3 - z_12), (g, a_15), rfl, ⟨z_3 - z_12, rfl, rfl, hI, haA, by omega⟩, by rw [ht]; exact hP, va_K.moved hW.alike hK, hD⟩, hS.F ht⟩) hS.2.2 dX13_compared_89
        · refine lv_aload_n hx hb dX13_compared_45 rfl (lv_at hl 3 rfl) ?_
          refine gf_keyOne hx hb hj hown hK hP dX13_compared_46 ?_
          refine lv_iload hx hb dX13_compared_49 (lv_at hl 0 rfl) ?_
          refine ld_keyOne hx hb hK hP hI (by omega) (by omega) dX13_compared_51 (fun h_23 => ?_)
          refine lv_aload_n hx hb dX13_compared_52 rfl (lv_at hl 3 rfl) ?_
          refine gf_keyTwo hx hb hj hown hK hP dX13_compared_53 ?_
          refine lv_iload hx hb dX13_compared_56 (lv_at hl 0 rfl) ?_
          refine ld_keyTwo hx hb hK hP hI (by omega) (by omega) dX13_compared_58 (fun h_24 => ?_)
          refine xr_icmp_eq (tgt := 78) hx hb dX13_compared_59 (by decide) (by omega) (by omega) (fun h_25 => ?_) (fun h_25 => ?_)
          · refine lv_iinc (v := iI (v7_31 + 1)) (lv' := [(7, .int (iI (v7_31 + 1))), (6, .int (iI z_12)), (5, .int (iI z_3)), (0, .ref (ad 0)), (1, .int (iI p1)), (2, .int (iI p2)), (3, .int (iI p3)), (4, .int (iI p4))]) hx hb dX13_compared_78 hl (k := 0) rfl (iI_add _ _) (by decide) rfl (fun ls hl => ?_)
            refine lv_goto (tgt := 31) hx hb dX13_compared_81 (by decide) ?_
            exact ih31 (v7_31 + 1) H locs ls (by omega) (by omega) hP hD hS hl
          · refine lv_aload_n hx hb dX13_compared_62 rfl (lv_at hl 3 rfl) ?_
            refine gf_keyOne hx hb hj hown hK hP dX13_compared_63 ?_
            refine lv_iload hx hb dX13_compared_66 (lv_at hl 0 rfl) ?_
            refine ld_keyOne hx hb hK hP hI (by omega) (by omega) dX13_compared_68 (fun h_26 => ?_)
            refine lv_aload_n hx hb dX13_compared_69 rfl (lv_at hl 3 rfl) ?_
            refine gf_keyTwo hx hb hj hown hK hP dX13_compared_70 ?_
            refine lv_iload hx hb dX13_compared_73 (lv_at hl 0 rfl) ?_
            refine ld_keyTwo hx hb hK hP hI (by omega) (by omega) dX13_compared_75 (fun h_27 => ?_)
            refine xr_sub hx hb dX13_compared_76 ?_
            refine xr_kept (fun z_28 h_29 h_30 => ?_)
            rw [← hQ]
            exact W.iret (v := iI z_28) hx hb hr (fun t ht hW => ⟨⟨iI z_28, (g, a_15), rfl, ⟨z_28, rfl, rfl, hI, haA, by omega⟩, by rw [ht]; exact hP, va_K.moved hW.alike hK, hD⟩, hS.F ht⟩) hS.2.2 dX13_compared_77
  exact L31 (((z_3 - 0 : Int)).toNat + 1) 0 H locs ls (by omega) (by omega) hP hD hS hl
set_option maxHeartbeats 2000000 in
set_option maxRecDepth 100000 in
theorem sX13_isAhead (l : Launch) (dC : Nat → ClassId) (dI : Nat → Nat → Nat) (sz : Nat) (ad : Nat → Nat) (ca : Nat → ClassId) (g : Nat → Int) (a : Nat → Int → Int) (p1 : Int) (p2 : Int) (p3 : Int) (p4 : Int) (hI : mI g a) (q1 : rg p1) (q2 : rg p2) (q3 : rg p3) (q4 : rg p4) (k1 : 0 ≤ p1 ∧ p1 < 60) (k2 : 0 ≤ p2 ∧ p2 < 60) (hrSh : rSh g a) : Met l yX13_isAhead (jk yX13_isAhead cX13_isAhead 6 (some .boolean)) ({ frames := 6, cells := 0, slots := 0, locals := 151 }) (va_Pc [.ref (ad 0), .int (iI p1), .int (iI p2), .int (iI p3), .int (iI p4)] (jw_P (dC, dI) (mG ad ca g a) (mT ca) sz)) (va_Qi (fun (r : Int32) (u : (Nat → Int) × (Nat → Int → Int)) => ∃ z : Int, r = iI z ∧ (u.1 = g) ∧ (mI u.1 u.2) ∧ (∀ j, j ∉ ([63, 64, 65] : List Nat) → u.2 j = a j) ∧ (0 ≤ z ∧ z ≤ 1)) (fun u t => va_P (dC, dI) vwCl (mG ad ca u.1 u.2) t.heap ∧ va_K (dC, dI) vwCl (mT ca) t ∧ va_D (va_A (mG ad ca g a) sz) (mG ad ca u.1 u.2)) (va_A (mG ad ca g a) sz)) 0 0 (va_A (mG ad ca g a) sz) := by
  refine Met.ofW (cc := cX13_isAhead) (maxL := 6) (ret := (some .boolean)) (by decide) rfl ?_
  intro p e s m args below meth c s₁ B hml hv
  obtain ⟨rfl, hsz, hP, hK, hD0⟩ := hv
  have hx := B.exec
  have hb := B.bytes
  have hr := B.returns
  have hts := atoms_spec (ws := (jk yX13_isAhead cX13_isAhead 6 (some .boolean))) B.pre
  have hj : ∀ w ∈ jw, w.before ([.ref (ad 0), .int (iI p1), .int (iI p2), .int (iI p3), .int (iI p4)] : List Value).toArray s = true := fun w h => hts w (jm h)
  have hown : s.vm.findClass RX13 = some m.cls := findClass_of_methodNamed B.named
  subst hsz
  have hD := hD0.self (sz := s.heap.size)
  generalize hAe : (va_A (mG ad ca g a) s.heap.size) = A at hD ⊢
  have hA : ∀ q : Nat, s.heap.size ≤ q → A q := fun q h => by rw [← hAe]; exact Or.inr h
  have hS : va_S A s.heap s.heap [] := va_S.rf
  have hP : va_P (dC, dI) vwCl (mG ad ca g a) s.heap := hP
  have haA : ∀ j, j ∉ ([63, 64, 65] : List Nat) → a j = a j := fun _ _ => rfl
  have hl := lv_entry ([.ref (ad 0), .int (iI p1), .int (iI p2), .int (iI p3), .int (iI p4)]) (n := 6) (Nat.le_of_ble_eq_true rfl)
  rw [lg_entry_eq]
  generalize (lg_sl ([.ref (ad 0), .int (iI p1), .int (iI p2), .int (iI p3), .int (iI p4)]) ++ List.replicate (6 - (lg_sl ([.ref (ad 0), .int (iI p1), .int (iI p2), .int (iI p3), .int (iI p4)])).length) Slot.unset).toArray = ls at hl ⊢
  have hl : lv_has ls 6 [(0, .ref (ad 0)), (1, .int (iI p1)), (2, .int (iI p2)), (3, .int (iI p3)), (4, .int (iI p4))] := hl
  generalize hQ : MQ below (va_Qi (fun (r : Int32) (u : (Nat → Int) × (Nat → Int → Int)) => ∃ z : Int, r = iI z ∧ (u.1 = g) ∧ (mI u.1 u.2) ∧ (∀ j, j ∉ ([63, 64, 65] : List Nat) → u.2 j = a j) ∧ (0 ≤ z ∧ z ≤ 1)) (fun u t => va_P (dC, dI) vwCl (mG ad ca u.1 u.2) t.heap ∧ va_K (dC, dI) vwCl (mT ca) t ∧ va_D A (mG ad ca u.1 u.2)) A) ([.ref (ad 0), .int (iI p1), .int (iI p2), .int (iI p3), .int (iI p4)] : List Value).toArray s 0 0 A = Q
  suffices ST : ∀ (H : Heap) (locs : List Loc), va_P (dC, dI) vwCl (mG ad ca g a) H → va_S A s.heap H locs → W p l e ({ frames := 6, cells := 0, slots := 0, locals := 151 }) s m ([.ref (ad 0), .int (iI p1), .int (iI p2), .int (iI p3), .int (iI p4)] : List Value).toArray below meth c H locs 0 0 Q (F0 m 0 ls []) from ST _ _ hP hS
  clear hP hS
  intro H locs hP hS
  refine lv_aload_n hx hb dX13_isAhead_0 rfl (lv_at hl 0 rfl) ?_
  refine lv_iload_n hx hb dX13_isAhead_1 rfl (lv_at hl 1 rfl) ?_
  refine lv_iload_n hx hb dX13_isAhead_2 rfl (lv_at hl 2 rfl) ?_
  refine lv_iload_n hx hb dX13_isAhead_3 rfl (lv_at hl 3 rfl) ?_
  refine lv_iload hx hb dX13_isAhead_4 (lv_at hl 4 rfl) ?_
  refine jcg_i (va_runV (As := [.int (iI p1), .int (iI p2), .int (iI p3), .int (iI p4)]) (rest := []) ⟨hx, hb, hml, hown, hts⟩ (sX13_compared l dC dI _ ad ca g a p1 p2 p3 p4 hI (by omega) (by omega) (by omega) (by omega) (by omega) (by omega) hrSh) (cwV 4 hts (jgoodV m_252 m_312 m_313 m_503 m_121) rfl rfl rfl (by decide +kernel) ⟨(Nat.le_of_ble_eq_true rfl), (Nat.le_of_ble_eq_true rfl)⟩) ⟨jw_blind, va_recv hK hP (ci := 13) (q0 := 0) rfl rfl, fun U hU hW => ⟨rfl, jw_of hU hW hP hK hD⟩⟩ rfl rfl hl.1 rfl (lv_room (Nat.le_of_ble_eq_true rfl)) dX13_isAhead_6 ⟨(Nat.le_of_ble_eq_true rfl), (Nat.le_of_ble_eq_true rfl)⟩) hD hS hA (fun r_1 u_7 H locs w_2 hP hK hD hS => ?_)
  obtain ⟨g_5, a_6⟩ := u_7
  obtain ⟨z_3, rfl, e_9, hI, hfr_8, h_4⟩ := w_2
  have hP : va_P (dC, dI) vwCl (mG ad ca g_5 a_6) H := hP
  have hD : va_D A (mG ad ca g_5 a_6) := hD
  have e_9 : g = g_5 := e_9.symm
  subst e_9
  have haA : ∀ j, j ∉ ([63, 64, 65] : List Nat) → a_6 j = a j := fun j h => (hfr_8 j (fun q => h (by first | exact q | (simp only [List.mem_cons, List.not_mem_nil, or_false] at q ⊢ <;> omega)))).trans (haA j h)
  refine lv_istore (lv' := [(5, .int (iI z_3)), (0, .ref (ad 0)), (1, .int (iI p1)), (2, .int (iI p2)), (3, .int (iI p3)), (4, .int (iI p4))]) hx hb dX13_isAhead_9 hl (by decide) rfl (fun ls hl => ?_)
  refine lv_iload hx hb dX13_isAhead_11 (lv_at hl 0 rfl) ?_
  refine xr_if_lt (tgt := 26) hx hb dX13_isAhead_13 (by decide) (by omega) (fun h_10 => ?_) (fun h_10 => ?_)
  · refine lv_iconst (v := iI 1) hx hb dX13_isAhead_26 rfl ?_
    refine lv_goto (tgt := 31) hx hb dX13_isAhead_27 (by decide) ?_
    rw [← hQ]
    exact W.zret (v := iI 1) (ty := .boolean) hx hb hr (nb_bool (by omega) (by omega)) (fun t ht hW => ⟨⟨iI 1, (g, a_6), rfl, ⟨1, rfl, rfl, hI, haA, by omega⟩, by rw [ht]; exact hP, va_K.moved hW.alike hK, hD⟩, hS.F ht⟩) hS.2.2 dX13_isAhead_31
  · refine lv_iload hx hb dX13_isAhead_16 (lv_at hl 0 rfl) ?_
    refine xr_if_ne (tgt := 30) hx hb dX13_isAhead_18 (by decide) (by omega) (fun h_11 => ?_) (fun h_11 => ?_)
    · refine lv_iconst (v := iI 0) hx hb dX13_isAhead_30 rfl ?_
      rw [← hQ]
      exact W.zret (v := iI 0) (ty := .boolean) hx hb hr (nb_bool (by omega) (by omega)) (fun t ht hW => ⟨⟨iI 0, (g, a_6), rfl, ⟨0, rfl, rfl, hI, haA, by omega⟩, by rw [ht]; exact hP, va_K.moved hW.alike hK, hD⟩, hS.F ht⟩) hS.2.2 dX13_isAhead_31
    · refine lv_iload_n hx hb dX13_isAhead_21 rfl (lv_at hl 2 rfl) ?_
      refine lv_iload_n hx hb dX13_isAhead_22 rfl (lv_at hl 3 rfl) ?_
      refine xr_icmp_ge (tgt := 30) hx hb dX13_isAhead_23 (by decide) (by omega) (by omega) (fun h_12 => ?_) (fun h_12 => ?_)
      · refine lv_iconst (v := iI 0) hx hb dX13_isAhead_30 rfl ?_
        rw [← hQ]
        exact W.zret (v := iI 0) (ty := .boolean) hx hb hr (nb_bool (by omega) (by omega)) (fun t ht hW => ⟨⟨iI 0, (g, a_6), rfl, ⟨0, rfl, rfl, hI, haA, by omega⟩, by rw [ht]; exact hP, va_K.moved hW.alike hK, hD⟩, hS.F ht⟩) hS.2.2 dX13_isAhead_31
      · refine lv_iconst (v := iI 1) hx hb dX13_isAhead_26 rfl ?_
        refine lv_goto (tgt := 31) hx hb dX13_isAhead_27 (by decide) ?_
        rw [← hQ]
        exact W.zret (v := iI 1) (ty := .boolean) hx hb hr (nb_bool (by omega) (by omega)) (fun t ht hW => ⟨⟨iI 1, (g, a_6), rfl, ⟨1, rfl, rfl, hI, haA, by omega⟩, by rw [ht]; exact hP, va_K.moved hW.alike hK, hD⟩, hS.F ht⟩) hS.2.2 dX13_isAhead_31
set_option maxHeartbeats 2000000 in
set_option maxRecDepth 100000 in
theorem sX13_headingOf (l : Launch) (dC : Nat → ClassId) (dI : Nat → Nat → Nat) (sz : Nat) (ad : Nat → Nat) (ca : Nat → ClassId) (g : Nat → Int) (a : Nat → Int → Int) (p1 : Int) (p2 : Int) (p3 : Int) (hI : mI g a) (q1 : rg p1) (q2 : rg p2) (q3 : rg p3) : Met l yX13_headingOf (jk yX13_headingOf cX13_headingOf 9 (some .int)) ({ frames := 1, cells := 0, slots := 0, locals := 20 }) (va_Pc [.ref (ad 0), .int (iI p1), .int (iI p2), .int (iI p3)] (jw_P (dC, dI) (mG ad ca g a) (mT ca) sz)) (va_Qi (fun (r : Int32) (u : (Nat → Int) × (Nat → Int → Int)) => ∃ z : Int, r = iI z ∧ (u.1 = g) ∧ (mI u.1 u.2) ∧ (∀ j, j ∉ ([66] : List Nat) → u.2 j = a j) ∧ (0 ≤ z ∧ z ≤ 12)) (fun u t => va_P (dC, dI) vwCl (mG ad ca u.1 u.2) t.heap ∧ va_K (dC, dI) vwCl (mT ca) t ∧ va_D (va_A (mG ad ca g a) sz) (mG ad ca u.1 u.2)) (va_A (mG ad ca g a) sz)) 0 0 (va_A (mG ad ca g a) sz) := by
  refine Met.ofW (cc := cX13_headingOf) (maxL := 9) (ret := (some .int)) (by decide) rfl ?_
  intro p e s m args below meth c s₁ B hml hv
  obtain ⟨rfl, hsz, hP, hK, hD0⟩ := hv
  have hx := B.exec
  have hb := B.bytes
  have hr := B.returns
  have hts := atoms_spec (ws := (jk yX13_headingOf cX13_headingOf 9 (some .int))) B.pre
  have hj : ∀ w ∈ jw, w.before ([.ref (ad 0), .int (iI p1), .int (iI p2), .int (iI p3)] : List Value).toArray s = true := fun w h => hts w (jm h)
  have hown : s.vm.findClass RX13 = some m.cls := findClass_of_methodNamed B.named
  subst hsz
  have hD := hD0.self (sz := s.heap.size)
  generalize hAe : (va_A (mG ad ca g a) s.heap.size) = A at hD ⊢
  have hA : ∀ q : Nat, s.heap.size ≤ q → A q := fun q h => by rw [← hAe]; exact Or.inr h
  have hS : va_S A s.heap s.heap [] := va_S.rf
  have hP : va_P (dC, dI) vwCl (mG ad ca g a) s.heap := hP
  have haA : ∀ j, j ∉ ([66] : List Nat) → a j = a j := fun _ _ => rfl
  have hl := lv_entry ([.ref (ad 0), .int (iI p1), .int (iI p2), .int (iI p3)]) (n := 9) (Nat.le_of_ble_eq_true rfl)
  rw [lg_entry_eq]
  generalize (lg_sl ([.ref (ad 0), .int (iI p1), .int (iI p2), .int (iI p3)]) ++ List.replicate (9 - (lg_sl ([.ref (ad 0), .int (iI p1), .int (iI p2), .int (iI p3)])).length) Slot.unset).toArray = ls at hl ⊢
  have hl : lv_has ls 9 [(0, .ref (ad 0)), (1, .int (iI p1)), (2, .int (iI p2)), (3, .int (iI p3))] := hl
  generalize hQ : MQ below (va_Qi (fun (r : Int32) (u : (Nat → Int) × (Nat → Int → Int)) => ∃ z : Int, r = iI z ∧ (u.1 = g) ∧ (mI u.1 u.2) ∧ (∀ j, j ∉ ([66] : List Nat) → u.2 j = a j) ∧ (0 ≤ z ∧ z ≤ 12)) (fun u t => va_P (dC, dI) vwCl (mG ad ca u.1 u.2) t.heap ∧ va_K (dC, dI) vwCl (mT ca) t ∧ va_D A (mG ad ca u.1 u.2)) A) ([.ref (ad 0), .int (iI p1), .int (iI p2), .int (iI p3)] : List Value).toArray s 0 0 A = Q
  suffices ST : ∀ (H : Heap) (locs : List Loc), va_P (dC, dI) vwCl (mG ad ca g a) H → va_S A s.heap H locs → W p l e ({ frames := 1, cells := 0, slots := 0, locals := 20 }) s m ([.ref (ad 0), .int (iI p1), .int (iI p2), .int (iI p3)] : List Value).toArray below meth c H locs 0 0 Q (F0 m 0 ls []) from ST _ _ hP hS
  clear hP hS
  intro H locs hP hS
  refine lv_iconst (v := iI 0) hx hb dX13_headingOf_0 rfl ?_
  refine lv_istore (lv' := [(4, .int (iI 0)), (0, .ref (ad 0)), (1, .int (iI p1)), (2, .int (iI p2)), (3, .int (iI p3))]) hx hb dX13_headingOf_1 hl (by decide) rfl (fun ls hl => ?_)
  refine lv_iconst (v := iI 0) hx hb dX13_headingOf_3 rfl ?_
  refine lv_istore (lv' := [(5, .int (iI 0)), (4, .int (iI 0)), (0, .ref (ad 0)), (1, .int (iI p1)), (2, .int (iI p2)), (3, .int (iI p3))]) hx hb dX13_headingOf_4 hl (by decide) rfl (fun ls hl => ?_)
  refine lv_iconst (v := iI 0) hx hb dX13_headingOf_6 rfl ?_
  refine lv_istore (lv' := [(6, .int (iI 0)), (5, .int (iI 0)), (4, .int (iI 0)), (0, .ref (ad 0)), (1, .int (iI p1)), (2, .int (iI p2)), (3, .int (iI p3))]) hx hb dX13_headingOf_7 hl (by decide) rfl (fun ls hl => ?_)
  have L9 : ∀ (n9 : Nat) (v6_9 v5_9 v4_9 : Int) (a_9 : Nat → Int → Int) (H : Heap) (locs : List Loc) (ls : Array Slot), (0 ≤ v6_9 ∧ v6_9 ≤ 2147483647) → (0 ≤ v5_9 ∧ v5_9 ≤ 1) → ((-2147483648) ≤ v4_9 ∧ v4_9 ≤ 2147483647) → (0 ≤ v4_9 ∧ v4_9 ≤ v6_9) → (v6_9 ≤ 12) → (mI g a_9) → (∀ j, j ∉ ([66] : List Nat) → a_9 j = a j) → (0 < (n9 : Int) ∧ 12 - v6_9 < (n9 : Int)) → va_P (dC, dI) vwCl (mG ad ca g a_9) H → va_D A (mG ad ca g a_9) → va_S A s.heap H locs → lv_has ls 9 [(6, .int (iI v6_9)), (5, .int (iI v5_9)), (4, .int (iI v4_9)), (0, .ref (ad 0)), (1, .int (iI p1)), (2, .int (iI p2)), (3, .int (iI p3))] → W p l e ({ frames := 1, cells := 0, slots := 0, locals := 20 }) s m ([.ref (ad 0), .int (iI p1), .int (iI p2), .int (iI p3)] : List Value).toArray below meth c H locs 0 0 Q (F0 m 9 ls []) := by
    intro n9
    induction n9 with
    | zero =>
      intro v6_9 v5_9 v4_9 a_9 H locs ls h_1 h_2 h_3 h_4 h_5 hI haA hm9 hP hD hS hl
      exfalso; omega
    | succ n9 ih9 =>
      intro v6_9 v5_9 v4_9 a_9 H locs ls h_6 h_7 h_8 h_9 h_10 hI haA hm9 hP hD hS hl
      refine lv_iload hx hb dX13_headingOf_9 (lv_at hl 0 rfl) ?_
      refine lv_bipush (v := iI 12) hx hb dX13_headingOf_11 rfl ?_
      refine xr_icmp_ge (tgt := 146) hx hb dX13_headingOf_13 (by decide) (by omega) (by omega) (fun h_11 => ?_) (fun h_11 => ?_)
      · refine lv_iload hx hb dX13_headingOf_146 (lv_at hl 2 rfl) ?_
        refine xr_if_le (tgt := 169) hx hb dX13_headingOf_148 (by decide) (by omega) (fun h_12 => ?_) (fun h_12 => ?_)
        · refine lv_iload hx hb dX13_headingOf_169 (lv_at hl 2 rfl) ?_
          rw [← hQ]
          exact W.iret (v := iI v4_9) hx hb hr (fun t ht hW => ⟨⟨iI v4_9, (g, a_9), rfl, ⟨v4_9, rfl, rfl, hI, haA, by omega⟩, by rw [ht]; exact hP, va_K.moved hW.alike hK, hD⟩, hS.F ht⟩) hS.2.2 dX13_headingOf_171
        · refine lv_aload_n hx hb dX13_headingOf_151 rfl (lv_at hl 3 rfl) ?_
          refine gf_told12 hx hb hj hown hK hP dX13_headingOf_152 ?_
          refine lv_iload hx hb dX13_headingOf_155 (lv_at hl 2 rfl) ?_
          refine lv_iconst (v := iI 1) hx hb dX13_headingOf_157 rfl ?_
          refine xr_sub hx hb dX13_headingOf_158 ?_
          refine ld_told12 hx hb hK hP hI (by omega) (by omega) dX13_headingOf_159 (fun h_13 => ?_)
          refine lv_bipush (v := iI 32) hx hb dX13_headingOf_160 rfl ?_
          refine xr_icmp_ne (tgt := 169) hx hb dX13_headingOf_162 (by decide) (by omega) (by omega) (fun h_14 => ?_) (fun h_14 => ?_)
          · refine lv_iload hx hb dX13_headingOf_169 (lv_at hl 2 rfl) ?_
            rw [← hQ]
            exact W.iret (v := iI v4_9) hx hb hr (fun t ht hW => ⟨⟨iI v4_9, (g, a_9), rfl, ⟨v4_9, rfl, rfl, hI, haA, by omega⟩, by rw [ht]; exact hP, va_K.moved hW.alike hK, hD⟩, hS.F ht⟩) hS.2.2 dX13_headingOf_171
          · refine lv_iconst (v := iI 0) hx hb dX13_headingOf_165 rfl ?_
            refine lv_goto (tgt := 171) hx hb dX13_headingOf_166 (by decide) ?_
            rw [← hQ]
            exact W.iret (v := iI 0) hx hb hr (fun t ht hW => ⟨⟨iI 0, (g, a_9), rfl, ⟨0, rfl, rfl, hI, haA, by omega⟩, by rw [ht]; exact hP, va_K.moved hW.alike hK, hD⟩, hS.F ht⟩) hS.2.2 dX13_headingOf_171
      · refine lv_iload hx hb dX13_headingOf_16 (lv_at hl 0 rfl) ?_
        refine lv_iconst (v := iI 4) hx hb dX13_headingOf_18 rfl ?_
        have J38 : ∀ (s0_38 : Int) (H : Heap) (locs : List Loc) (ls : Array Slot), ((-2147483648) ≤ s0_38 ∧ s0_38 ≤ 2147483647) → va_P (dC, dI) vwCl (mG ad ca g a_9) H → va_D A (mG ad ca g a_9) → va_S A s.heap H locs → lv_has ls 9 [(6, .int (iI v6_9)), (5, .int (iI v5_9)), (4, .int (iI v4_9)), (0, .ref (ad 0)), (1, .int (iI p1)), (2, .int (iI p2)), (3, .int (iI p3))] → W p l e ({ frames := 1, cells := 0, slots := 0, locals := 20 }) s m ([.ref (ad 0), .int (iI p1), .int (iI p2), .int (iI p3)] : List Value).toArray below meth c H locs 0 0 Q (F0 m 38 ls [.int (iI s0_38)]) := by
          intro s0_38 H locs ls h_15 hP hD hS hl
          refine lv_bipush (v := iI 24) hx hb dX13_headingOf_38 rfl ?_
          refine lv_bipush (v := iI 8) hx hb dX13_headingOf_40 rfl ?_
          refine lv_iload hx hb dX13_headingOf_42 (lv_at hl 0 rfl) ?_
          refine lv_iconst (v := iI 4) hx hb dX13_headingOf_44 rfl ?_
          refine xr_rem hx hb dX13_headingOf_45 (by omega) (by omega) (by omega) (by omega) ?_
          refine xr_mul hx hb dX13_headingOf_46 ?_
          refine xr_sub hx hb dX13_headingOf_47 ?_
          refine lv_ishr hx hb dX13_headingOf_48 ?_
          refine xr_any (fun z_16 h_17 => ?_)
          refine lv_istore (lv' := [(7, .int (iI z_16)), (6, .int (iI v6_9)), (5, .int (iI v5_9)), (4, .int (iI v4_9)), (0, .ref (ad 0)), (1, .int (iI p1)), (2, .int (iI p2)), (3, .int (iI p3))]) hx hb dX13_headingOf_49 hl (by decide) rfl (fun ls hl => ?_)
          refine lv_aload_n hx hb dX13_headingOf_51 rfl (lv_at hl 4 rfl) ?_
          refine gf_told12 hx hb hj hown hK hP dX13_headingOf_52 ?_
          refine lv_iload hx hb dX13_headingOf_55 (lv_at hl 1 rfl) ?_
          refine lv_iload hx hb dX13_headingOf_57 (lv_at hl 0 rfl) ?_
          refine lv_i2b hx hb dX13_headingOf_59 rfl ?_
          refine xr_any (fun z_18 h_19 => ?_)
          refine st_told12 hx hb hK hP hD hS hI (by omega) (by omega) dX13_headingOf_60 (fun a_20 z_23 H locs h_24 e_21 e_22 hI hP hD hS => ?_)
          have haA : ∀ j, j ∉ ([66] : List Nat) → a_20 j = a j := fun j h => (e_21 j (fun q => h (q ▸ (by decide : 66 ∈ ([66] : List Nat))))).trans (haA j h)
          refine lv_aload_n hx hb dX13_headingOf_61 rfl (lv_at hl 4 rfl) ?_
          refine gf_told12 hx hb hj hown hK hP dX13_headingOf_62 ?_
          refine lv_iload hx hb dX13_headingOf_65 (lv_at hl 1 rfl) ?_
          refine ld_told12 hx hb hK hP hI (by omega) (by omega) dX13_headingOf_67 (fun h_25 => ?_)
          refine lv_istore (lv' := [(8, .int (iI (a_20 66 v6_9))), (7, .int (iI z_16)), (6, .int (iI v6_9)), (5, .int (iI v5_9)), (4, .int (iI v4_9)), (0, .ref (ad 0)), (1, .int (iI p1)), (2, .int (iI p2)), (3, .int (iI p3))]) hx hb dX13_headingOf_68 hl (by decide) rfl (fun ls hl => ?_)
          refine lv_iload hx hb dX13_headingOf_70 (lv_at hl 0 rfl) ?_
          have J140 : ∀ (v5_140 v4_140 : Int) (H : Heap) (locs : List Loc) (ls : Array Slot), (0 ≤ v5_140 ∧ v5_140 ≤ 1) → ((-2147483648) ≤ v4_140 ∧ v4_140 ≤ 2147483647) → (0 ≤ v4_140 ∧ v4_140 ≤ v6_9 + 1) → va_P (dC, dI) vwCl (mG ad ca g a_20) H → va_D A (mG ad ca g a_20) → va_S A s.heap H locs → lv_has ls 9 [(8, .int (iI (a_20 66 v6_9))), (7, .int (iI z_16)), (6, .int (iI v6_9)), (5, .int (iI v5_140)), (4, .int (iI v4_140)), (0, .ref (ad 0)), (1, .int (iI p1)), (2, .int (iI p2)), (3, .int (iI p3))] → W p l e ({ frames := 1, cells := 0, slots := 0, locals := 20 }) s m ([.ref (ad 0), .int (iI p1), .int (iI p2), .int (iI p3)] : List Value).toArray below meth c H locs 0 0 Q (F0 m 140 ls []) := by
            intro v5_140 v4_140 H locs ls h_26 h_27 h_28 hP hD hS hl
            refine lv_iinc (v := iI (v6_9 + 1)) (lv' := [(6, .int (iI (v6_9 + 1))), (8, .int (iI (a_20 66 v6_9))), (7, .int (iI z_16)), (5, .int (iI v5_140)), (4, .int (iI v4_140)), (0, .ref (ad 0)), (1, .int (iI p1)), (2, .int (iI p2)), (3, .int (iI p3))]) hx hb dX13_headingOf_140 hl (k := 2) rfl (iI_add _ _) (by decide) rfl (fun ls hl => ?_)
            refine lv_goto (tgt := 9) hx hb dX13_headingOf_143 (by decide) ?_
            exact ih9 (v6_9 + 1) v5_140 v4_140 a_20 H locs ls (by omega) (by omega) (by omega) (by omega) (by omega) hI haA (by omega) hP hD hS (lv_sub hl [0, 3, 4, 5, 6, 7, 8] rfl)
          refine xr_if_ne (tgt := 81) hx hb dX13_headingOf_72 (by decide) (by omega) (fun h_29 => ?_) (fun h_29 => ?_)
          · refine lv_iload hx hb dX13_headingOf_81 (lv_at hl 3 rfl) ?_
            refine xr_if_ne (tgt := 135) hx hb dX13_headingOf_83 (by decide) (by omega) (fun h_30 => ?_) (fun h_30 => ?_)
            · refine lv_iconst (v := iI 0) hx hb dX13_headingOf_135 rfl ?_
              rw [← hQ]
              exact W.iret (v := iI 0) hx hb hr (fun t ht hW => ⟨⟨iI 0, (g, a_20), rfl, ⟨0, rfl, rfl, hI, haA, by omega⟩, by rw [ht]; exact hP, va_K.moved hW.alike hK, hD⟩, hS.F ht⟩) hS.2.2 dX13_headingOf_136
            · refine lv_iload hx hb dX13_headingOf_86 (lv_at hl 0 rfl) ?_
              refine lv_bipush (v := iI 32) hx hb dX13_headingOf_88 rfl ?_
              have J109 : ∀ (H : Heap) (locs : List Loc) (ls : Array Slot), va_P (dC, dI) vwCl (mG ad ca g a_20) H → va_D A (mG ad ca g a_20) → va_S A s.heap H locs → lv_has ls 9 [(8, .int (iI (a_20 66 v6_9))), (7, .int (iI z_16)), (6, .int (iI v6_9)), (5, .int (iI v5_9)), (4, .int (iI v4_9)), (0, .ref (ad 0)), (1, .int (iI p1)), (2, .int (iI p2)), (3, .int (iI p3))] → W p l e ({ frames := 1, cells := 0, slots := 0, locals := 20 }) s m ([.ref (ad 0), .int (iI p1), .int (iI p2), .int (iI p3)] : List Value).toArray below meth c H locs 0 0 Q (F0 m 109 ls []) := by
                intro H locs ls hP hD hS hl
                refine lv_iload hx hb dX13_headingOf_109 (lv_at hl 0 rfl) ?_
                refine lv_bipush (v := iI 32) hx hb dX13_headingOf_111 rfl ?_
                have J137 : ∀ (H : Heap) (locs : List Loc) (ls : Array Slot), va_P (dC, dI) vwCl (mG ad ca g a_20) H → va_D A (mG ad ca g a_20) → va_S A s.heap H locs → lv_has ls 9 [(8, .int (iI (a_20 66 v6_9))), (7, .int (iI z_16)), (6, .int (iI v6_9)), (5, .int (iI v5_9)), (4, .int (iI v4_9)), (0, .ref (ad 0)), (1, .int (iI p1)), (2, .int (iI p2)), (3, .int (iI p3))] → W p l e ({ frames := 1, cells := 0, slots := 0, locals := 20 }) s m ([.ref (ad 0), .int (iI p1), .int (iI p2), .int (iI p3)] : List Value).toArray below meth c H locs 0 0 Q (F0 m 137 ls []) := by
                  intro H locs ls hP hD hS hl
                  refine lv_iinc (v := iI (v4_9 + 1)) (lv' := [(4, .int (iI (v4_9 + 1))), (8, .int (iI (a_20 66 v6_9))), (7, .int (iI z_16)), (6, .int (iI v6_9)), (5, .int (iI v5_9)), (0, .ref (ad 0)), (1, .int (iI p1)), (2, .int (iI p2)), (3, .int (iI p3))]) hx hb dX13_headingOf_137 hl (k := 4) rfl (iI_add _ _) (by decide) rfl (fun ls hl => ?_)
                  exact J140 v5_9 (v4_9 + 1) H locs ls (by omega) (by omega) (by omega) hP hD hS (lv_sub hl [1, 2, 3, 4, 0, 5, 6, 7, 8] rfl)
                refine xr_icmp_ne (tgt := 137) hx hb dX13_headingOf_113 (by decide) (by omega) (by omega) (fun h_31 => ?_) (fun h_31 => ?_)
                · exact J137 H locs ls hP hD hS hl
                · refine lv_iload hx hb dX13_headingOf_116 (lv_at hl 2 rfl) ?_
                  refine xr_if_eq (tgt := 135) hx hb dX13_headingOf_118 (by decide) (by omega) (fun h_32 => ?_) (fun h_32 => ?_)
                  · refine lv_iconst (v := iI 0) hx hb dX13_headingOf_135 rfl ?_
                    rw [← hQ]
                    exact W.iret (v := iI 0) hx hb hr (fun t ht hW => ⟨⟨iI 0, (g, a_20), rfl, ⟨0, rfl, rfl, hI, haA, by omega⟩, by rw [ht]; exact hP, va_K.moved hW.alike hK, hD⟩, hS.F ht⟩) hS.2.2 dX13_headingOf_136
                  · refine lv_aload_n hx hb dX13_headingOf_121 rfl (lv_at hl 5 rfl) ?_
                    refine gf_told12 hx hb hj hown hK hP dX13_headingOf_122 ?_
                    refine lv_iload hx hb dX13_headingOf_125 (lv_at hl 2 rfl) ?_
                    refine lv_iconst (v := iI 1) hx hb dX13_headingOf_127 rfl ?_
                    refine xr_sub hx hb dX13_headingOf_128 ?_
                    refine ld_told12 hx hb hK hP hI (by omega) (by omega) dX13_headingOf_129 (fun h_33 => ?_)
                    refine lv_bipush (v := iI 32) hx hb dX13_headingOf_130 rfl ?_
                    refine xr_icmp_ne (tgt := 137) hx hb dX13_headingOf_132 (by decide) (by omega) (by omega) (fun h_34 => ?_) (fun h_34 => ?_)
                    · exact J137 H locs ls hP hD hS hl
                    · refine lv_iconst (v := iI 0) hx hb dX13_headingOf_135 rfl ?_
                      rw [← hQ]
                      exact W.iret (v := iI 0) hx hb hr (fun t ht hW => ⟨⟨iI 0, (g, a_20), rfl, ⟨0, rfl, rfl, hI, haA, by omega⟩, by rw [ht]; exact hP, va_K.moved hW.alike hK, hD⟩, hS.F ht⟩) hS.2.2 dX13_headingOf_136
              refine xr_icmp_eq (tgt := 109) hx hb dX13_headingOf_90 (by decide) (by omega) (by omega) (fun h_35 => ?_) (fun h_35 => ?_)
              · exact J109 H locs ls hP hD hS hl
              · refine lv_iload hx hb dX13_headingOf_93 (lv_at hl 0 rfl) ?_
                refine jc_i (va_runS (As := [.int (iI (a_20 66 v6_9))]) (rest := []) ⟨hx, hb, hml, hown, hts⟩ (sX13_isLetter l dC dI _ (a_20 66 v6_9) (by omega)) (va_cwS 1 hts (jgoodS m_221 m_384 m_503 m_158) rfl rfl rfl (by decide +kernel) ⟨(Nat.le_of_ble_eq_true rfl), (Nat.le_of_ble_eq_true rfl)⟩) ⟨jw_blind0, fun U hU hW => ⟨rfl, congrArg Array.size hU⟩⟩ rfl rfl hl.1 rfl (lv_room (Nat.le_of_ble_eq_true rfl)) dX13_headingOf_95 ⟨(Nat.le_of_ble_eq_true rfl), (Nat.le_of_ble_eq_true rfl)⟩) hP hS hA (fun r_36 H locs w_37 hP hS => ?_)
                obtain ⟨z_38, rfl, h_39, h_40⟩ := w_37
                refine xr_if_ne (tgt := 109) hx hb dX13_headingOf_98 (by decide) (by omega) (fun h_41 => ?_) (fun h_41 => ?_)
                · exact J109 H locs ls hP hD hS hl
                · refine lv_iload hx hb dX13_headingOf_101 (lv_at hl 0 rfl) ?_
                  refine jc_i (va_runS (As := [.int (iI (a_20 66 v6_9))]) (rest := []) ⟨hx, hb, hml, hown, hts⟩ (sX13_isDigit l dC dI _ (a_20 66 v6_9) (by omega)) (va_cwS 1 hts (jgoodS m_223 m_375 m_503 m_153) rfl rfl rfl (by decide +kernel) ⟨(Nat.le_of_ble_eq_true rfl), (Nat.le_of_ble_eq_true rfl)⟩) ⟨jw_blind0, fun U hU hW => ⟨rfl, congrArg Array.size hU⟩⟩ rfl rfl hl.1 rfl (lv_room (Nat.le_of_ble_eq_true rfl)) dX13_headingOf_103 ⟨(Nat.le_of_ble_eq_true rfl), (Nat.le_of_ble_eq_true rfl)⟩) hP hS hA (fun r_42 H locs w_43 hP hS => ?_)
                  obtain ⟨z_44, rfl, h_45, h_46⟩ := w_43
                  refine xr_if_eq (tgt := 135) hx hb dX13_headingOf_106 (by decide) (by omega) (fun h_47 => ?_) (fun h_47 => ?_)
                  · refine lv_iconst (v := iI 0) hx hb dX13_headingOf_135 rfl ?_
                    rw [← hQ]
                    exact W.iret (v := iI 0) hx hb hr (fun t ht hW => ⟨⟨iI 0, (g, a_20), rfl, ⟨0, rfl, rfl, hI, haA, by omega⟩, by rw [ht]; exact hP, va_K.moved hW.alike hK, hD⟩, hS.F ht⟩) hS.2.2 dX13_headingOf_136
                  · exact J109 H locs ls hP hD hS hl
          · refine lv_iconst (v := iI 1) hx hb dX13_headingOf_75 rfl ?_
            refine lv_istore (lv' := [(5, .int (iI 1)), (8, .int (iI (a_20 66 v6_9))), (7, .int (iI z_16)), (6, .int (iI v6_9)), (4, .int (iI v4_9)), (0, .ref (ad 0)), (1, .int (iI p1)), (2, .int (iI p2)), (3, .int (iI p3))]) hx hb dX13_headingOf_76 hl (by decide) rfl (fun ls hl => ?_)
            refine lv_goto (tgt := 140) hx hb dX13_headingOf_78 (by decide) ?_
            exact J140 1 v4_9 H locs ls (by omega) (by omega) (by omega) hP hD hS (lv_sub hl [1, 2, 3, 0, 4, 5, 6, 7, 8] rfl)
        refine xr_icmp_ge (tgt := 26) hx hb dX13_headingOf_19 (by decide) (by omega) (by omega) (fun h_48 => ?_) (fun h_48 => ?_)
        · refine lv_iload hx hb dX13_headingOf_26 (lv_at hl 0 rfl) ?_
          refine lv_bipush (v := iI 8) hx hb dX13_headingOf_28 rfl ?_
          refine xr_icmp_ge (tgt := 37) hx hb dX13_headingOf_30 (by decide) (by omega) (by omega) (fun h_49 => ?_) (fun h_49 => ?_)
          · refine lv_iload_n hx hb dX13_headingOf_37 rfl (lv_at hl 6 rfl) ?_
            exact J38 p3 H locs ls (by omega) hP hD hS hl
          · refine lv_iload_n hx hb dX13_headingOf_33 rfl (lv_at hl 5 rfl) ?_
            refine lv_goto (tgt := 38) hx hb dX13_headingOf_34 (by decide) ?_
            exact J38 p2 H locs ls (by omega) hP hD hS hl
        · refine lv_iload_n hx hb dX13_headingOf_22 rfl (lv_at hl 4 rfl) ?_
          refine lv_goto (tgt := 38) hx hb dX13_headingOf_23 (by decide) ?_
          exact J38 p1 H locs ls (by omega) hP hD hS hl
  exact L9 (((12 - 0 : Int)).toNat + 1) 0 0 0 a H locs ls (by omega) (by omega) (by omega) (by omega) (by omega) hI haA (by omega) hP hD hS hl
set_option maxHeartbeats 2000000 in
set_option maxRecDepth 100000 in
theorem sX13_newEntry (l : Launch) (dC : Nat → ClassId) (dI : Nat → Nat → Nat) (sz : Nat) (ad : Nat → Nat) (ca : Nat → ClassId) (g : Nat → Int) (a : Nat → Int → Int) (p1 : Int) (p2 : Int) (hI : mI g a) (q1 : rg p1) (q2 : rg p2) (k1 : 0 ≤ p1 ∧ p1 ≤ 2) (k2 : 0 ≤ p2 ∧ p2 ≤ 12) : Met l yX13_newEntry (jk yX13_newEntry cX13_newEntry 4 (some .int)) ({ frames := 0, cells := 0, slots := 0, locals := 0 }) (va_Pc [.ref (ad 0), .int (iI p1), .int (iI p2)] (jw_P (dC, dI) (mG ad ca g a) (mT ca) sz)) (va_Qi (fun (r : Int32) (u : (Nat → Int) × (Nat → Int → Int)) => ∃ z : Int, r = iI z ∧ (mI u.1 u.2) ∧ (∀ j, j ∉ ([37] : List Nat) → u.1 j = g j) ∧ (∀ j, j ∉ ([25, 26, 27, 31, 32, 35, 36] : List Nat) → u.2 j = a j) ∧ ((-1) ≤ z ∧ z ≤ 59) ∧ ((z = -1 ∧ u.1 37 = g 37 ∧ u.2 27 = a 27 ∧ u.2 31 = a 31) ∨ (z = g 37 ∧ u.1 37 = g 37 + 1 ∧ u.2 27 = up (a 27) (g 37) p1 ∧ u.2 31 = up (a 31) (g 37) (-1)))) (fun u t => va_P (dC, dI) vwCl (mG ad ca u.1 u.2) t.heap ∧ va_K (dC, dI) vwCl (mT ca) t ∧ va_D (va_A (mG ad ca g a) sz) (mG ad ca u.1 u.2)) (va_A (mG ad ca g a) sz)) 0 0 (va_A (mG ad ca g a) sz) := by
  refine Met.ofW (cc := cX13_newEntry) (maxL := 4) (ret := (some .int)) (by decide) rfl ?_
  intro p e s m args below meth c s₁ B hml hv
  obtain ⟨rfl, hsz, hP, hK, hD0⟩ := hv
  have hx := B.exec
  have hb := B.bytes
  have hr := B.returns
  have hts := atoms_spec (ws := (jk yX13_newEntry cX13_newEntry 4 (some .int))) B.pre
  have hj : ∀ w ∈ jw, w.before ([.ref (ad 0), .int (iI p1), .int (iI p2)] : List Value).toArray s = true := fun w h => hts w (jm h)
  have hown : s.vm.findClass RX13 = some m.cls := findClass_of_methodNamed B.named
  subst hsz
  have hD := hD0.self (sz := s.heap.size)
  generalize hAe : (va_A (mG ad ca g a) s.heap.size) = A at hD ⊢
  have hA : ∀ q : Nat, s.heap.size ≤ q → A q := fun q h => by rw [← hAe]; exact Or.inr h
  have hS : va_S A s.heap s.heap [] := va_S.rf
  have hP : va_P (dC, dI) vwCl (mG ad ca g a) s.heap := hP
  have hfA : ∀ j, j ∉ ([37] : List Nat) → g j = g j := fun _ _ => rfl
  have haA : ∀ j, j ∉ ([25, 26, 27, 31, 32, 35, 36] : List Nat) → a j = a j := fun _ _ => rfl
  have hl := lv_entry ([.ref (ad 0), .int (iI p1), .int (iI p2)]) (n := 4) (Nat.le_of_ble_eq_true rfl)
  rw [lg_entry_eq]
  generalize (lg_sl ([.ref (ad 0), .int (iI p1), .int (iI p2)]) ++ List.replicate (4 - (lg_sl ([.ref (ad 0), .int (iI p1), .int (iI p2)])).length) Slot.unset).toArray = ls at hl ⊢
  have hl : lv_has ls 4 [(0, .ref (ad 0)), (1, .int (iI p1)), (2, .int (iI p2))] := hl
  generalize hQ : MQ below (va_Qi (fun (r : Int32) (u : (Nat → Int) × (Nat → Int → Int)) => ∃ z : Int, r = iI z ∧ (mI u.1 u.2) ∧ (∀ j, j ∉ ([37] : List Nat) → u.1 j = g j) ∧ (∀ j, j ∉ ([25, 26, 27, 31, 32, 35, 36] : List Nat) → u.2 j = a j) ∧ ((-1) ≤ z ∧ z ≤ 59) ∧ ((z = -1 ∧ u.1 37 = g 37 ∧ u.2 27 = a 27 ∧ u.2 31 = a 31) ∨ (z = g 37 ∧ u.1 37 = g 37 + 1 ∧ u.2 27 = up (a 27) (g 37) p1 ∧ u.2 31 = up (a 31) (g 37) (-1)))) (fun u t => va_P (dC, dI) vwCl (mG ad ca u.1 u.2) t.heap ∧ va_K (dC, dI) vwCl (mT ca) t ∧ va_D A (mG ad ca u.1 u.2)) A) ([.ref (ad 0), .int (iI p1), .int (iI p2)] : List Value).toArray s 0 0 A = Q
  suffices ST : ∀ (H : Heap) (locs : List Loc), va_P (dC, dI) vwCl (mG ad ca g a) H → va_S A s.heap H locs → W p l e ({ frames := 0, cells := 0, slots := 0, locals := 0 }) s m ([.ref (ad 0), .int (iI p1), .int (iI p2)] : List Value).toArray below meth c H locs 0 0 Q (F0 m 0 ls []) from ST _ _ hP hS
  clear hP hS
  intro H locs hP hS
  have b37_0 : 0 ≤ g 37 ∧ g 37 ≤ 60 := hI.1 37
  refine lv_aload_n hx hb dX13_newEntry_0 rfl (lv_at hl 0 rfl) ?_
  refine gf_entries hx hb hj hown hK hP hI dX13_newEntry_1 (fun h_1 => ?_)
  refine lv_bipush (v := iI 60) hx hb dX13_newEntry_4 rfl ?_
  refine xr_icmp_ne (tgt := 11) hx hb dX13_newEntry_6 (by decide) (by omega) (by omega) (fun h_2 => ?_) (fun h_2 => ?_)
  · refine lv_iconst (v := iI 0) hx hb dX13_newEntry_11 rfl ?_
    refine lv_istore_n (lv' := [(3, .int (iI 0)), (0, .ref (ad 0)), (1, .int (iI p1)), (2, .int (iI p2))]) hx hb dX13_newEntry_12 rfl hl (by decide) rfl (fun ls hl => ?_)
    have L13 : ∀ (n13 : Nat) (v3_13 : Int) (a_13 : Nat → Int → Int) (H : Heap) (locs : List Loc) (ls : Array Slot), (0 ≤ v3_13 ∧ v3_13 ≤ 2147483647) → (a_13 27 = a 27) → (a_13 31 = a 31) → (mI g a_13) → (∀ j, j ∉ ([25, 26, 27, 31, 32, 35, 36] : List Nat) → a_13 j = a j) → (0 < (n13 : Int) ∧ 12 - v3_13 < (n13 : Int)) → va_P (dC, dI) vwCl (mG ad ca g a_13) H → va_D A (mG ad ca g a_13) → va_S A s.heap H locs → lv_has ls 4 [(3, .int (iI v3_13)), (0, .ref (ad 0)), (1, .int (iI p1)), (2, .int (iI p2))] → W p l e ({ frames := 0, cells := 0, slots := 0, locals := 0 }) s m ([.ref (ad 0), .int (iI p1), .int (iI p2)] : List Value).toArray below meth c H locs 0 0 Q (F0 m 13 ls []) := by
      intro n13
      induction n13 with
      | zero =>
        intro v3_13 a_13 H locs ls h_3 t_4 t_5 hI haA hm13 hP hD hS hl
        exfalso; omega
      | succ n13 ih13 =>
        intro v3_13 a_13 H locs ls h_6 t_7 t_8 hI haA hm13 hP hD hS hl
        refine lv_iload_n hx hb dX13_newEntry_13 rfl (lv_at hl 0 rfl) ?_
        refine lv_bipush (v := iI 12) hx hb dX13_newEntry_14 rfl ?_
        refine xr_icmp_ge (tgt := 45) hx hb dX13_newEntry_16 (by decide) (by omega) (by omega) (fun h_9 => ?_) (fun h_9 => ?_)
        · refine lv_aload_n hx hb dX13_newEntry_45 rfl (lv_at hl 1 rfl) ?_
          refine gf_headingLong hx hb hj hown hK hP dX13_newEntry_46 ?_
          refine lv_aload_n hx hb dX13_newEntry_49 rfl (lv_at hl 1 rfl) ?_
          refine gf_entries hx hb hj hown hK hP hI dX13_newEntry_50 (fun h_10 => ?_)
          refine lv_iload_n hx hb dX13_newEntry_53 rfl (lv_at hl 3 rfl) ?_
          refine st_headingLong hx hb hK hP hD hS hI (by omega) (by omega) (by omega) (by omega) dX13_newEntry_54 (fun a_11 H locs e_12 e_13 hI hP hD hS => ?_)
          have haA : ∀ j, j ∉ ([25, 26, 27, 31, 32, 35, 36] : List Nat) → a_11 j = a j := fun j h => (e_12 j (fun q => h (q ▸ (by decide : 26 ∈ ([25, 26, 27, 31, 32, 35, 36] : List Nat))))).trans (haA j h)
          have t_14 : a_11 27 = a 27 := (e_12 27 (by decide)).trans t_7
          have t_15 : a_11 31 = a 31 := (e_12 31 (by decide)).trans t_8
          refine lv_aload_n hx hb dX13_newEntry_55 rfl (lv_at hl 1 rfl) ?_
          refine gf_kind hx hb hj hown hK hP dX13_newEntry_56 ?_
          refine lv_aload_n hx hb dX13_newEntry_59 rfl (lv_at hl 1 rfl) ?_
          refine gf_entries hx hb hj hown hK hP hI dX13_newEntry_60 (fun h_16 => ?_)
          refine lv_iload_n hx hb dX13_newEntry_63 rfl (lv_at hl 2 rfl) ?_
          refine st_kind hx hb hK hP hD hS hI (by omega) (by omega) (by omega) (by omega) dX13_newEntry_64 (fun a_17 H locs e_18 e_19 hI hP hD hS => ?_)
          have haA : ∀ j, j ∉ ([25, 26, 27, 31, 32, 35, 36] : List Nat) → a_17 j = a j := fun j h => (e_18 j (fun q => h (q ▸ (by decide : 27 ∈ ([25, 26, 27, 31, 32, 35, 36] : List Nat))))).trans (haA j h)
          have t_20 : a_17 27 = up (a 27) (g 37) p1 := e_19.trans (up_c t_14 (by omega) (by omega))
          have t_21 : a_17 31 = a 31 := (e_18 31 (by decide)).trans t_15
          refine lv_aload_n hx hb dX13_newEntry_65 rfl (lv_at hl 1 rfl) ?_
          refine gf_leads hx hb hj hown hK hP dX13_newEntry_66 ?_
          refine lv_aload_n hx hb dX13_newEntry_69 rfl (lv_at hl 1 rfl) ?_
          refine gf_entries hx hb hj hown hK hP hI dX13_newEntry_70 (fun h_22 => ?_)
          refine lv_iconst (v := iI (-1)) hx hb dX13_newEntry_73 rfl ?_
          refine st_leads hx hb hK hP hD hS hI (by omega) (by omega) (by omega) (by omega) dX13_newEntry_74 (fun a_23 H locs e_24 e_25 hI hP hD hS => ?_)
          have haA : ∀ j, j ∉ ([25, 26, 27, 31, 32, 35, 36] : List Nat) → a_23 j = a j := fun j h => (e_24 j (fun q => h (q ▸ (by decide : 31 ∈ ([25, 26, 27, 31, 32, 35, 36] : List Nat))))).trans (haA j h)
          have t_26 : a_23 27 = up (a 27) (g 37) p1 := (e_24 27 (by decide)).trans t_20
          have t_27 : a_23 31 = up (a 31) (g 37) (-1) := e_25.trans (up_c t_21 (by omega) (by omega))
          refine lv_aload_n hx hb dX13_newEntry_75 rfl (lv_at hl 1 rfl) ?_
          refine gf_givenTo hx hb hj hown hK hP dX13_newEntry_76 ?_
          refine lv_aload_n hx hb dX13_newEntry_79 rfl (lv_at hl 1 rfl) ?_
          refine gf_entries hx hb hj hown hK hP hI dX13_newEntry_80 (fun h_28 => ?_)
          refine lv_iconst (v := iI (-1)) hx hb dX13_newEntry_83 rfl ?_
          refine st_givenTo hx hb hK hP hD hS hI (by omega) (by omega) (by omega) (by omega) dX13_newEntry_84 (fun a_29 H locs e_30 e_31 hI hP hD hS => ?_)
          have haA : ∀ j, j ∉ ([25, 26, 27, 31, 32, 35, 36] : List Nat) → a_29 j = a j := fun j h => (e_30 j (fun q => h (q ▸ (by decide : 32 ∈ ([25, 26, 27, 31, 32, 35, 36] : List Nat))))).trans (haA j h)
          have t_32 : a_29 27 = up (a 27) (g 37) p1 := (e_30 27 (by decide)).trans t_26
          have t_33 : a_29 31 = up (a 31) (g 37) (-1) := (e_30 31 (by decide)).trans t_27
          refine lv_aload_n hx hb dX13_newEntry_85 rfl (lv_at hl 1 rfl) ?_
          refine gf_setWith hx hb hj hown hK hP dX13_newEntry_86 ?_
          refine lv_aload_n hx hb dX13_newEntry_89 rfl (lv_at hl 1 rfl) ?_
          refine gf_entries hx hb hj hown hK hP hI dX13_newEntry_90 (fun h_34 => ?_)
          refine lv_iconst (v := iI (-1)) hx hb dX13_newEntry_93 rfl ?_
          refine st_setWith hx hb hK hP hD hS hI (by omega) (by omega) (by omega) (by omega) dX13_newEntry_94 (fun a_35 H locs e_36 e_37 hI hP hD hS => ?_)
          have haA : ∀ j, j ∉ ([25, 26, 27, 31, 32, 35, 36] : List Nat) → a_35 j = a j := fun j h => (e_36 j (fun q => h (q ▸ (by decide : 35 ∈ ([25, 26, 27, 31, 32, 35, 36] : List Nat))))).trans (haA j h)
          have t_38 : a_35 27 = up (a 27) (g 37) p1 := (e_36 27 (by decide)).trans t_32
          have t_39 : a_35 31 = up (a 31) (g 37) (-1) := (e_36 31 (by decide)).trans t_33
          refine lv_aload_n hx hb dX13_newEntry_95 rfl (lv_at hl 1 rfl) ?_
          refine gf_pageOf hx hb hj hown hK hP dX13_newEntry_96 ?_
          refine lv_aload_n hx hb dX13_newEntry_99 rfl (lv_at hl 1 rfl) ?_
          refine gf_entries hx hb hj hown hK hP hI dX13_newEntry_100 (fun h_40 => ?_)
          refine lv_iconst (v := iI (-1)) hx hb dX13_newEntry_103 rfl ?_
          refine sa_pageOf hx hb hK hP hD hS hI (by omega) (by omega) dX13_newEntry_104 (fun a_41 z_44 H locs h_45 h_46 e_42 e_43 hI hP hD hS => ?_)
          have haA : ∀ j, j ∉ ([25, 26, 27, 31, 32, 35, 36] : List Nat) → a_41 j = a j := fun j h => (e_42 j (fun q => h (q ▸ (by decide : 36 ∈ ([25, 26, 27, 31, 32, 35, 36] : List Nat))))).trans (haA j h)
          have t_47 : a_41 27 = up (a 27) (g 37) p1 := (e_42 27 (by decide)).trans t_38
          have t_48 : a_41 31 = up (a 31) (g 37) (-1) := (e_42 31 (by decide)).trans t_39
          refine lv_aload_n hx hb dX13_newEntry_105 rfl (lv_at hl 1 rfl) ?_
          refine lv_dup hx hb dX13_newEntry_106 rfl ?_
          refine gf_entries hx hb hj hown hK hP hI dX13_newEntry_107 (fun h_49 => ?_)
          refine lv_iconst (v := iI 1) hx hb dX13_newEntry_110 rfl ?_
          refine xr_add hx hb dX13_newEntry_111 ?_
          refine pf_entries hx hb hj hown hK hP hD hS hI (by omega) (by omega) dX13_newEntry_112 (fun g_50 H locs e_51 e_52 hI hP hD hS => ?_)
          have hfA : ∀ j, j ∉ ([37] : List Nat) → g_50 j = g j := fun j h => (e_51 j (fun q => h (q ▸ (by decide : 37 ∈ ([37] : List Nat))))).trans (hfA j h)
          refine lv_aload_n hx hb dX13_newEntry_115 rfl (lv_at hl 1 rfl) ?_
          refine gf_entries hx hb hj hown hK hP hI dX13_newEntry_116 (fun h_53 => ?_)
          refine lv_iconst (v := iI 1) hx hb dX13_newEntry_119 rfl ?_
          refine xr_sub hx hb dX13_newEntry_120 ?_
          rw [← hQ]
          exact W.iret (v := iI ((g_50 37) - 1)) hx hb hr (fun t ht hW => ⟨⟨iI ((g_50 37) - 1), (g_50, a_41), rfl, ⟨(g_50 37) - 1, rfl, hI, hfA, haA, by omega, by show (((g_50 37) - 1) = -1 ∧ g_50 37 = g 37 ∧ a_41 27 = a 27 ∧ a_41 31 = a 31) ∨ (((g_50 37) - 1) = g 37 ∧ g_50 37 = g 37 + 1 ∧ a_41 27 = up (a 27) (g 37) p1 ∧ a_41 31 = up (a 31) (g 37) (-1)); first | exact Or.inl ⟨rfl, by omega, t_47, t_48⟩ | exact Or.inr ⟨by omega, by omega, t_47, t_48⟩⟩, by rw [ht]; exact hP, va_K.moved hW.alike hK, hD⟩, hS.F ht⟩) hS.2.2 dX13_newEntry_121
        · refine lv_aload_n hx hb dX13_newEntry_19 rfl (lv_at hl 1 rfl) ?_
          refine gf_heading hx hb hj hown hK hP dX13_newEntry_20 ?_
          refine lv_bipush (v := iI 12) hx hb dX13_newEntry_23 rfl ?_
          refine lv_aload_n hx hb dX13_newEntry_25 rfl (lv_at hl 1 rfl) ?_
          refine gf_entries hx hb hj hown hK hP hI dX13_newEntry_26 (fun h_54 => ?_)
          refine xr_mul hx hb dX13_newEntry_29 ?_
          refine lv_iload_n hx hb dX13_newEntry_30 rfl (lv_at hl 0 rfl) ?_
          refine xr_add hx hb dX13_newEntry_31 ?_
          refine lv_aload_n hx hb dX13_newEntry_32 rfl (lv_at hl 1 rfl) ?_
          refine gf_told12 hx hb hj hown hK hP dX13_newEntry_33 ?_
          refine lv_iload_n hx hb dX13_newEntry_36 rfl (lv_at hl 0 rfl) ?_
          refine ld_told12 hx hb hK hP hI (by omega) (by omega) dX13_newEntry_37 (fun h_55 => ?_)
          refine st_heading hx hb hK hP hD hS hI (by omega) (by omega) dX13_newEntry_38 (fun a_56 z_59 H locs h_60 e_57 e_58 hI hP hD hS => ?_)
          have haA : ∀ j, j ∉ ([25, 26, 27, 31, 32, 35, 36] : List Nat) → a_56 j = a j := fun j h => (e_57 j (fun q => h (q ▸ (by decide : 25 ∈ ([25, 26, 27, 31, 32, 35, 36] : List Nat))))).trans (haA j h)
          have t_61 : a_56 27 = a 27 := (e_57 27 (by decide)).trans t_7
          have t_62 : a_56 31 = a 31 := (e_57 31 (by decide)).trans t_8
          refine lv_iinc (v := iI (v3_13 + 1)) (lv' := [(3, .int (iI (v3_13 + 1))), (0, .ref (ad 0)), (1, .int (iI p1)), (2, .int (iI p2))]) hx hb dX13_newEntry_39 hl (k := 0) rfl (iI_add _ _) (by decide) rfl (fun ls hl => ?_)
          refine lv_goto (tgt := 13) hx hb dX13_newEntry_42 (by decide) ?_
          exact ih13 (v3_13 + 1) a_56 H locs ls (by omega) t_61 t_62 hI haA (by omega) hP hD hS hl
    exact L13 (((12 - 0 : Int)).toNat + 1) 0 a H locs ls (by omega) rfl rfl hI haA (by omega) hP hD hS hl
  · refine lv_iconst (v := iI (-1)) hx hb dX13_newEntry_9 rfl ?_
    rw [← hQ]
    exact W.iret (v := iI (-1)) hx hb hr (fun t ht hW => ⟨⟨iI (-1), (g, a), rfl, ⟨(-1), rfl, hI, hfA, haA, by omega, by show ((-1) = -1 ∧ g 37 = g 37 ∧ a 27 = a 27 ∧ a 31 = a 31) ∨ ((-1) = g 37 ∧ g 37 = g 37 + 1 ∧ a 27 = up (a 27) (g 37) p1 ∧ a 31 = up (a 31) (g 37) (-1)); first | exact Or.inl ⟨rfl, by omega, rfl, rfl⟩ | exact Or.inr ⟨by omega, by omega, rfl, rfl⟩⟩, by rw [ht]; exact hP, va_K.moved hW.alike hK, hD⟩, hS.F ht⟩) hS.2.2 dX13_newEntry_10
