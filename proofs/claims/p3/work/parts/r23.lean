set_option maxHeartbeats 2000000 in
set_option maxRecDepth 100000 in
theorem sX13_later (l : Launch) (dC : Nat → ClassId) (dI : Nat → Nat → Nat) (sz : Nat) (ad : Nat → Nat) (ca : Nat → ClassId) (g : Nat → Int) (a : Nat → Int → Int) (p1 : Int) (hI : mI g a) (q1 : rg p1) (hrSh : rSh g a) : Met l yX13_later (jk yX13_later cX13_later 2 (some .boolean)) ({ frames := 8, cells := 0, slots := 0, locals := 193 }) (va_Pc [.ref (ad 0), .int (iI p1)] (jw_P (dC, dI) (mG ad ca g a) (mT ca) sz)) (va_Qi (fun (r : Int32) (u : (Nat → Int) × (Nat → Int → Int)) => ∃ z : Int, r = iI z ∧ (u.1 = g) ∧ (mI u.1 u.2) ∧ (∀ j, j ∉ ([34, 63, 64] : List Nat) → u.2 j = a j) ∧ (0 ≤ z ∧ z ≤ 1)) (fun u t => va_P (dC, dI) vwCl (mG ad ca u.1 u.2) t.heap ∧ va_K (dC, dI) vwCl (mT ca) t ∧ va_D (va_A (mG ad ca g a) sz) (mG ad ca u.1 u.2)) (va_A (mG ad ca g a) sz)) 0 0 (va_A (mG ad ca g a) sz) := by
  refine Met.ofW (cc := cX13_later) (maxL := 2) (ret := (some .boolean)) (by decide) rfl ?_
  intro p e s m args below meth c s₁ B hml hv
  obtain ⟨rfl, hsz, hP, hK, hD0⟩ := hv
  have hx := B.exec
  have hb := B.bytes
  have hr := B.returns
  have hts := atoms_spec (ws := (jk yX13_later cX13_later 2 (some .boolean))) B.pre
  have hj : ∀ w ∈ jw, w.before ([.ref (ad 0), .int (iI p1)] : List Value).toArray s = true := fun w h => hts w (jm h)
  have hown : s.vm.findClass RX13 = some m.cls := findClass_of_methodNamed B.named
  subst hsz
  have hD := hD0.self (sz := s.heap.size)
  generalize hAe : (va_A (mG ad ca g a) s.heap.size) = A at hD ⊢
  have hA : ∀ q : Nat, s.heap.size ≤ q → A q := fun q h => by rw [← hAe]; exact Or.inr h
  have hS : va_S A s.heap s.heap [] := va_S.rf
  have hP : va_P (dC, dI) vwCl (mG ad ca g a) s.heap := hP
  have haA : ∀ j, j ∉ ([34, 63, 64] : List Nat) → a j = a j := fun _ _ => rfl
  have hl := lv_entry ([.ref (ad 0), .int (iI p1)]) (n := 2) (Nat.le_of_ble_eq_true rfl)
  rw [lg_entry_eq]
  generalize (lg_sl ([.ref (ad 0), .int (iI p1)]) ++ List.replicate (2 - (lg_sl ([.ref (ad 0), .int (iI p1)])).length) Slot.unset).toArray = ls at hl ⊢
  have hl : lv_has ls 2 [(0, .ref (ad 0)), (1, .int (iI p1))] := hl
  generalize hQ : MQ below (va_Qi (fun (r : Int32) (u : (Nat → Int) × (Nat → Int → Int)) => ∃ z : Int, r = iI z ∧ (u.1 = g) ∧ (mI u.1 u.2) ∧ (∀ j, j ∉ ([34, 63, 64] : List Nat) → u.2 j = a j) ∧ (0 ≤ z ∧ z ≤ 1)) (fun u t => va_P (dC, dI) vwCl (mG ad ca u.1 u.2) t.heap ∧ va_K (dC, dI) vwCl (mT ca) t ∧ va_D A (mG ad ca u.1 u.2)) A) ([.ref (ad 0), .int (iI p1)] : List Value).toArray s 0 0 A = Q
  suffices ST : ∀ (H : Heap) (locs : List Loc), va_P (dC, dI) vwCl (mG ad ca g a) H → va_S A s.heap H locs → W p l e ({ frames := 8, cells := 0, slots := 0, locals := 193 }) s m ([.ref (ad 0), .int (iI p1)] : List Value).toArray below meth c H locs 0 0 Q (F0 m 0 ls []) from ST _ _ hP hS
  clear hP hS
  intro H locs hP hS
  refine lv_aload_n hx hb dX13_later_0 rfl (lv_at hl 0 rfl) ?_
  refine lv_iload_n hx hb dX13_later_1 rfl (lv_at hl 1 rfl) ?_
  refine jcg_i (va_runV (As := [.int (iI p1)]) (rest := []) ⟨hx, hb, hml, hown, hts⟩ (sX13_canGo l dC dI _ ad ca g a p1 hI (by omega) hrSh) (cwV 1 hts (jgoodV m_258 m_306 m_307 m_503 m_118) rfl rfl rfl (by decide +kernel) ⟨(Nat.le_of_ble_eq_true rfl), (Nat.le_of_ble_eq_true rfl)⟩) ⟨jw_blind, va_recv hK hP (ci := 13) (q0 := 0) rfl rfl, fun U hU hW => ⟨rfl, jw_of hU hW hP hK hD⟩⟩ rfl rfl hl.1 rfl (lv_room (Nat.le_of_ble_eq_true rfl)) dX13_later_2 ⟨(Nat.le_of_ble_eq_true rfl), (Nat.le_of_ble_eq_true rfl)⟩) hD hS hA (fun r_1 u_8 H locs w_2 hP hK hD hS => ?_)
  obtain ⟨g_6, a_7⟩ := u_8
  obtain ⟨z_3, rfl, e_10, hI, hfr_9, h_4, h_5⟩ := w_2
  have hP : va_P (dC, dI) vwCl (mG ad ca g_6 a_7) H := hP
  have hD : va_D A (mG ad ca g_6 a_7) := hD
  have e_10 : g = g_6 := e_10.symm
  subst e_10
  have haA : ∀ j, j ∉ ([34, 63, 64] : List Nat) → a_7 j = a j := fun j h => (hfr_9 j (fun q => h (by first | exact q | (simp only [List.mem_cons, List.not_mem_nil, or_false] at q ⊢ <;> omega)))).trans (haA j h)
  have b_11 : 0 ≤ g 37 ∧ g 37 ≤ 60 := hI.1 37
  refine xr_if_ne (tgt := 10) hx hb dX13_later_5 (by decide) (by omega) (fun h_12 => ?_) (fun h_12 => ?_)
  · refine lv_aload_n hx hb dX13_later_10 rfl (lv_at hl 0 rfl) ?_
    refine gf_isLater hx hb hj hown hK hP dX13_later_11 ?_
    refine lv_iload_n hx hb dX13_later_14 rfl (lv_at hl 1 rfl) ?_
    refine lv_iconst (v := iI 1) hx hb dX13_later_15 rfl ?_
    refine st_isLater hx hb hK hP hD hS hI (by omega) (by omega) (by omega) (by omega) dX13_later_16 (fun a_13 H locs e_14 e_15 hI hP hD hS => ?_)
    have haA : ∀ j, j ∉ ([34, 63, 64] : List Nat) → a_13 j = a j := fun j h => (e_14 j (fun q => h (q ▸ (by decide : 34 ∈ ([34, 63, 64] : List Nat))))).trans (haA j h)
    refine lv_iconst (v := iI 1) hx hb dX13_later_17 rfl ?_
    rw [← hQ]
    exact W.zret (v := iI 1) (ty := .boolean) hx hb hr (nb_bool (by omega) (by omega)) (fun t ht hW => ⟨⟨iI 1, (g, a_13), rfl, ⟨1, rfl, rfl, hI, haA, by omega⟩, by rw [ht]; exact hP, va_K.moved hW.alike hK, hD⟩, hS.F ht⟩) hS.2.2 dX13_later_18
  · refine lv_iconst (v := iI 0) hx hb dX13_later_8 rfl ?_
    rw [← hQ]
    exact W.zret (v := iI 0) (ty := .boolean) hx hb hr (nb_bool (by omega) (by omega)) (fun t ht hW => ⟨⟨iI 0, (g, a_7), rfl, ⟨0, rfl, rfl, hI, haA, by omega⟩, by rw [ht]; exact hP, va_K.moved hW.alike hK, hD⟩, hS.F ht⟩) hS.2.2 dX13_later_9
set_option maxHeartbeats 2000000 in
set_option maxRecDepth 100000 in
theorem sX13_orders (l : Launch) (dC : Nat → ClassId) (dI : Nat → Nat → Nat) (sz : Nat) (ad : Nat → Nat) (ca : Nat → ClassId) (g : Nat → Int) (a : Nat → Int → Int) (p1 : Int) (hI : mI g a) (q1 : rg p1) (k1 : 0 ≤ p1 ∧ p1 ≤ 5) (hrSh : rSh g a) : Met l yX13_orders (jk yX13_orders cX13_orders 5 (some .int)) ({ frames := 7, cells := 0, slots := 0, locals := 176 }) (va_Pc [.ref (ad 0), .int (iI p1)] (jw_P (dC, dI) (mG ad ca g a) (mT ca) sz)) (va_Qi (fun (r : Int32) (u : (Nat → Int) × (Nat → Int → Int)) => ∃ z : Int, r = iI z ∧ (u.1 = g) ∧ (mI u.1 u.2) ∧ (∀ j, j ∉ ([63, 64, 65, 67] : List Nat) → u.2 j = a j) ∧ (0 ≤ z ∧ z ≤ 60)) (fun u t => va_P (dC, dI) vwCl (mG ad ca u.1 u.2) t.heap ∧ va_K (dC, dI) vwCl (mT ca) t ∧ va_D (va_A (mG ad ca g a) sz) (mG ad ca u.1 u.2)) (va_A (mG ad ca g a) sz)) 0 0 (va_A (mG ad ca g a) sz) := by
  refine Met.ofW (cc := cX13_orders) (maxL := 5) (ret := (some .int)) (by decide) rfl ?_
  intro p e s m args below meth c s₁ B hml hv
  obtain ⟨rfl, hsz, hP, hK, hD0⟩ := hv
  have hx := B.exec
  have hb := B.bytes
  have hr := B.returns
  have hts := atoms_spec (ws := (jk yX13_orders cX13_orders 5 (some .int))) B.pre
  have hj : ∀ w ∈ jw, w.before ([.ref (ad 0), .int (iI p1)] : List Value).toArray s = true := fun w h => hts w (jm h)
  have hown : s.vm.findClass RX13 = some m.cls := findClass_of_methodNamed B.named
  subst hsz
  have hD := hD0.self (sz := s.heap.size)
  generalize hAe : (va_A (mG ad ca g a) s.heap.size) = A at hD ⊢
  have hA : ∀ q : Nat, s.heap.size ≤ q → A q := fun q h => by rw [← hAe]; exact Or.inr h
  have hS : va_S A s.heap s.heap [] := va_S.rf
  have hP : va_P (dC, dI) vwCl (mG ad ca g a) s.heap := hP
  have haA : ∀ j, j ∉ ([63, 64, 65, 67] : List Nat) → a j = a j := fun _ _ => rfl
  have hl := lv_entry ([.ref (ad 0), .int (iI p1)]) (n := 5) (Nat.le_of_ble_eq_true rfl)
  rw [lg_entry_eq]
  generalize (lg_sl ([.ref (ad 0), .int (iI p1)]) ++ List.replicate (5 - (lg_sl ([.ref (ad 0), .int (iI p1)])).length) Slot.unset).toArray = ls at hl ⊢
  have hl : lv_has ls 5 [(0, .ref (ad 0)), (1, .int (iI p1))] := hl
  generalize hQ : MQ below (va_Qi (fun (r : Int32) (u : (Nat → Int) × (Nat → Int → Int)) => ∃ z : Int, r = iI z ∧ (u.1 = g) ∧ (mI u.1 u.2) ∧ (∀ j, j ∉ ([63, 64, 65, 67] : List Nat) → u.2 j = a j) ∧ (0 ≤ z ∧ z ≤ 60)) (fun u t => va_P (dC, dI) vwCl (mG ad ca u.1 u.2) t.heap ∧ va_K (dC, dI) vwCl (mT ca) t ∧ va_D A (mG ad ca u.1 u.2)) A) ([.ref (ad 0), .int (iI p1)] : List Value).toArray s 0 0 A = Q
  suffices ST : ∀ (H : Heap) (locs : List Loc), va_P (dC, dI) vwCl (mG ad ca g a) H → va_S A s.heap H locs → W p l e ({ frames := 7, cells := 0, slots := 0, locals := 176 }) s m ([.ref (ad 0), .int (iI p1)] : List Value).toArray below meth c H locs 0 0 Q (F0 m 0 ls []) from ST _ _ hP hS
  clear hP hS
  intro H locs hP hS
  refine lv_aload_n hx hb dX13_orders_0 rfl (lv_at hl 0 rfl) ?_
  refine gf_isSet hx hb hj hown hK hP dX13_orders_1 ?_
  refine lv_iload_n hx hb dX13_orders_4 rfl (lv_at hl 1 rfl) ?_
  refine ld_isSet hx hb hK hP hI (by omega) (by omega) dX13_orders_5 (fun h_1 => ?_)
  refine xr_if_eq (tgt := 51) hx hb dX13_orders_6 (by decide) (by omega) (fun h_2 => ?_) (fun h_2 => ?_)
  · refine lv_iconst (v := iI 0) hx hb dX13_orders_51 rfl ?_
    refine lv_istore_n (lv' := [(2, .int (iI 0)), (0, .ref (ad 0)), (1, .int (iI p1))]) hx hb dX13_orders_52 rfl hl (by decide) rfl (fun ls hl => ?_)
    refine lv_iconst (v := iI 0) hx hb dX13_orders_53 rfl ?_
    refine lv_istore_n (lv' := [(3, .int (iI 0)), (2, .int (iI 0)), (0, .ref (ad 0)), (1, .int (iI p1))]) hx hb dX13_orders_54 rfl hl (by decide) rfl (fun ls hl => ?_)
    have L55 : ∀ (n55 : Nat) (v3_55 v2_55 : Int) (a_55 : Nat → Int → Int) (H : Heap) (locs : List Loc) (ls : Array Slot), (0 ≤ v3_55 ∧ v3_55 ≤ 2147483647) → ((-2147483648) ≤ v2_55 ∧ v2_55 ≤ 2147483647) → (0 ≤ v2_55 ∧ v2_55 ≤ v3_55 ∧ v2_55 ≤ 60) → (mI g a_55) → (∀ j, j ∉ ([63, 64, 65, 67] : List Nat) → a_55 j = a j) → (0 < (n55 : Int) ∧ (g 37) - v3_55 < (n55 : Int)) → va_P (dC, dI) vwCl (mG ad ca g a_55) H → va_D A (mG ad ca g a_55) → va_S A s.heap H locs → lv_has ls 5 [(3, .int (iI v3_55)), (2, .int (iI v2_55)), (0, .ref (ad 0)), (1, .int (iI p1))] → W p l e ({ frames := 7, cells := 0, slots := 0, locals := 176 }) s m ([.ref (ad 0), .int (iI p1)] : List Value).toArray below meth c H locs 0 0 Q (F0 m 55 ls []) := by
      intro n55
      induction n55 with
      | zero =>
        intro v3_55 v2_55 a_55 H locs ls h_3 h_4 h_5 hI haA hm55 hP hD hS hl
        exfalso; omega
      | succ n55 ih55 =>
        intro v3_55 v2_55 a_55 H locs ls h_6 h_7 h_8 hI haA hm55 hP hD hS hl
        refine lv_iload_n hx hb dX13_orders_55 rfl (lv_at hl 0 rfl) ?_
        refine lv_aload_n hx hb dX13_orders_56 rfl (lv_at hl 2 rfl) ?_
        refine gf_entries hx hb hj hown hK hP hI dX13_orders_57 (fun h_9 => ?_)
        refine xr_icmp_ge (tgt := 141) hx hb dX13_orders_60 (by decide) (by omega) (by omega) (fun h_10 => ?_) (fun h_10 => ?_)
        · refine lv_iload_n hx hb dX13_orders_141 rfl (lv_at hl 1 rfl) ?_
          rw [← hQ]
          exact W.iret (v := iI v2_55) hx hb hr (fun t ht hW => ⟨⟨iI v2_55, (g, a_55), rfl, ⟨v2_55, rfl, rfl, hI, haA, by omega⟩, by rw [ht]; exact hP, va_K.moved hW.alike hK, hD⟩, hS.F ht⟩) hS.2.2 dX13_orders_142
        · refine lv_aload_n hx hb dX13_orders_63 rfl (lv_at hl 2 rfl) ?_
          refine lv_iload_n hx hb dX13_orders_64 rfl (lv_at hl 0 rfl) ?_
          refine jcg_i (va_runV (As := [.int (iI v3_55)]) (rest := []) ⟨hx, hb, hml, hown, hts⟩ (sX13_volumeOf l dC dI _ ad ca g a_55 v3_55 hI (by omega) (by omega) (rSh_t rfl rfl (haA 9 (by decide)) (haA 10 (by decide)) (haA 11 (by decide)) (haA 12 (by decide)) (haA 16 (by decide)) hrSh)) (cwV 1 hts (jgoodV m_257 m_494 m_495 m_503 m_215) rfl rfl rfl (by decide +kernel) ⟨(Nat.le_of_ble_eq_true rfl), (Nat.le_of_ble_eq_true rfl)⟩) ⟨jw_blind, va_recv hK hP (ci := 13) (q0 := 0) rfl rfl, fun U hU hW => ⟨rfl, jw_of hU hW hP hK hD⟩⟩ rfl rfl hl.1 rfl (lv_room (Nat.le_of_ble_eq_true rfl)) dX13_orders_65 ⟨(Nat.le_of_ble_eq_true rfl), (Nat.le_of_ble_eq_true rfl)⟩) hD hS hA (fun r_11 u_17 H locs w_12 hP hK hD hS => ?_)
          obtain ⟨g_15, a_16⟩ := u_17
          obtain ⟨z_13, rfl, e_19, hI, hfr_18, h_14⟩ := w_12
          have hP : va_P (dC, dI) vwCl (mG ad ca g_15 a_16) H := hP
          have hD : va_D A (mG ad ca g_15 a_16) := hD
          have e_19 : g = g_15 := e_19.symm
          subst e_19
          have haA : ∀ j, j ∉ ([63, 64, 65, 67] : List Nat) → a_16 j = a j := fun j h => (hfr_18 j (fun q => h (by first | exact q | (simp only [List.mem_cons, List.not_mem_nil, or_false] at q ⊢ <;> omega)))).trans (haA j h)
          refine lv_iload_n hx hb dX13_orders_68 rfl (lv_at hl 3 rfl) ?_
          have J135 : ∀ (v2_135 : Int) (a_135 : Nat → Int → Int) (H : Heap) (locs : List Loc) (ls : Array Slot), ((-2147483648) ≤ v2_135 ∧ v2_135 ≤ 2147483647) → (0 ≤ v2_135 ∧ v2_135 ≤ v3_55 + 1 ∧ v2_135 ≤ 60) → (mI g a_135) → (∀ j, j ∉ ([63, 64, 65, 67] : List Nat) → a_135 j = a j) → va_P (dC, dI) vwCl (mG ad ca g a_135) H → va_D A (mG ad ca g a_135) → va_S A s.heap H locs → lv_has ls 5 [(3, .int (iI v3_55)), (2, .int (iI v2_135)), (0, .ref (ad 0)), (1, .int (iI p1))] → W p l e ({ frames := 7, cells := 0, slots := 0, locals := 176 }) s m ([.ref (ad 0), .int (iI p1)] : List Value).toArray below meth c H locs 0 0 Q (F0 m 135 ls []) := by
            intro v2_135 a_135 H locs ls h_20 h_21 hI haA hP hD hS hl
            refine lv_iinc (v := iI (v3_55 + 1)) (lv' := [(3, .int (iI (v3_55 + 1))), (2, .int (iI v2_135)), (0, .ref (ad 0)), (1, .int (iI p1))]) hx hb dX13_orders_135 hl (k := 0) rfl (iI_add _ _) (by decide) rfl (fun ls hl => ?_)
            refine lv_goto (tgt := 55) hx hb dX13_orders_138 (by decide) ?_
            exact ih55 (v3_55 + 1) v2_135 a_135 H locs ls (by omega) (by omega) (by omega) hI haA (by omega) hP hD hS hl
          refine xr_icmp_eq (tgt := 75) hx hb dX13_orders_69 (by decide) (by omega) (by omega) (fun h_22 => ?_) (fun h_22 => ?_)
          · refine lv_iload_n hx hb dX13_orders_75 rfl (lv_at hl 1 rfl) ?_
            refine lv_istore (lv' := [(4, .int (iI v2_55)), (3, .int (iI v3_55)), (2, .int (iI v2_55)), (0, .ref (ad 0)), (1, .int (iI p1))]) hx hb dX13_orders_76 hl (by decide) rfl (fun ls hl => ?_)
            have L78 : ∀ (n78 : Nat) (v4_78 : Int) (a_78 : Nat → Int → Int) (H : Heap) (locs : List Loc) (ls : Array Slot), ((-2147483648) ≤ v4_78 ∧ v4_78 ≤ 2147483647) → (0 ≤ v4_78 ∧ v4_78 ≤ v2_55) → (mI g a_78) → (∀ j, j ∉ ([63, 64, 65, 67] : List Nat) → a_78 j = a j) → (0 < (n78 : Int) ∧ v4_78 < (n78 : Int)) → va_P (dC, dI) vwCl (mG ad ca g a_78) H → va_D A (mG ad ca g a_78) → va_S A s.heap H locs → lv_has ls 5 [(4, .int (iI v4_78)), (3, .int (iI v3_55)), (2, .int (iI v2_55)), (0, .ref (ad 0)), (1, .int (iI p1))] → W p l e ({ frames := 7, cells := 0, slots := 0, locals := 176 }) s m ([.ref (ad 0), .int (iI p1)] : List Value).toArray below meth c H locs 0 0 Q (F0 m 78 ls []) := by
              intro n78
              induction n78 with
              | zero =>
                intro v4_78 a_78 H locs ls h_23 h_24 hI haA hm78 hP hD hS hl
                exfalso; omega
              | succ n78 ih78 =>
                intro v4_78 a_78 H locs ls h_25 h_26 hI haA hm78 hP hD hS hl
                refine lv_iload hx hb dX13_orders_78 (lv_at hl 0 rfl) ?_
                have J124 : ∀ (a_124 : Nat → Int → Int) (H : Heap) (locs : List Loc) (ls : Array Slot), (0 ≤ v4_78 ∧ v4_78 ≤ v2_55) → (mI g a_124) → (∀ j, j ∉ ([63, 64, 65, 67] : List Nat) → a_124 j = a j) → va_P (dC, dI) vwCl (mG ad ca g a_124) H → va_D A (mG ad ca g a_124) → va_S A s.heap H locs → lv_has ls 5 [(4, .int (iI v4_78)), (3, .int (iI v3_55)), (2, .int (iI v2_55)), (0, .ref (ad 0)), (1, .int (iI p1))] → W p l e ({ frames := 7, cells := 0, slots := 0, locals := 176 }) s m ([.ref (ad 0), .int (iI p1)] : List Value).toArray below meth c H locs 0 0 Q (F0 m 124 ls []) := by
                  intro a_124 H locs ls h_27 hI haA hP hD hS hl
                  refine lv_aload_n hx hb dX13_orders_124 rfl (lv_at hl 3 rfl) ?_
                  refine gf_order hx hb hj hown hK hP dX13_orders_125 ?_
                  refine lv_iload hx hb dX13_orders_128 (lv_at hl 0 rfl) ?_
                  refine lv_iload_n hx hb dX13_orders_130 rfl (lv_at hl 1 rfl) ?_
                  refine st_order hx hb hK hP hD hS hI (by omega) (by omega) (by omega) (by omega) dX13_orders_131 (fun a_28 H locs e_29 e_30 hI hP hD hS => ?_)
                  have haA : ∀ j, j ∉ ([63, 64, 65, 67] : List Nat) → a_28 j = a j := fun j h => (e_29 j (fun q => h (q ▸ (by decide : 67 ∈ ([63, 64, 65, 67] : List Nat))))).trans (haA j h)
                  refine lv_iinc (v := iI (v2_55 + 1)) (lv' := [(2, .int (iI (v2_55 + 1))), (4, .int (iI v4_78)), (3, .int (iI v3_55)), (0, .ref (ad 0)), (1, .int (iI p1))]) hx hb dX13_orders_132 hl (k := 2) rfl (iI_add _ _) (by decide) rfl (fun ls hl => ?_)
                  exact J135 (v2_55 + 1) a_28 H locs ls (by omega) (by omega) hI haA hP hD hS (lv_sub hl [2, 0, 3, 4] rfl)
                refine xr_if_le (tgt := 124) hx hb dX13_orders_80 (by decide) (by omega) (fun h_31 => ?_) (fun h_31 => ?_)
                · exact J124 a_78 H locs ls (by omega) hI haA hP hD hS hl
                · refine lv_aload_n hx hb dX13_orders_83 rfl (lv_at hl 3 rfl) ?_
                  refine lv_iload_n hx hb dX13_orders_84 rfl (lv_at hl 1 rfl) ?_
                  refine lv_aload_n hx hb dX13_orders_85 rfl (lv_at hl 3 rfl) ?_
                  refine gf_order hx hb hj hown hK hP dX13_orders_86 ?_
                  refine lv_iload hx hb dX13_orders_89 (lv_at hl 0 rfl) ?_
                  refine lv_iconst (v := iI 1) hx hb dX13_orders_91 rfl ?_
                  refine xr_sub hx hb dX13_orders_92 ?_
                  refine ld_order hx hb hK hP hI (by omega) (by omega) dX13_orders_93 (fun h_32 => ?_)
                  refine lv_iload_n hx hb dX13_orders_94 rfl (lv_at hl 4 rfl) ?_
                  refine lv_iconst (v := iI 0) hx hb dX13_orders_95 rfl ?_
                  refine jcg_i (va_runV (As := [.int (iI v3_55), .int (iI (a_78 67 (v4_78 - 1))), .int (iI p1), .int (iI 0)]) (rest := []) ⟨hx, hb, hml, hown, hts⟩ (sX13_isAhead l dC dI _ ad ca g a_78 v3_55 (a_78 67 (v4_78 - 1)) p1 0 hI (by omega) (by omega) (by omega) (by omega) (by omega) (by omega) (rSh_t rfl rfl (haA 9 (by decide)) (haA 10 (by decide)) (haA 11 (by decide)) (haA 12 (by decide)) (haA 16 (by decide)) hrSh)) (cwV 4 hts (jgoodV m_259 m_371 m_372 m_503 m_151) rfl rfl rfl (by decide +kernel) ⟨(Nat.le_of_ble_eq_true rfl), (Nat.le_of_ble_eq_true rfl)⟩) ⟨jw_blind, va_recv hK hP (ci := 13) (q0 := 0) rfl rfl, fun U hU hW => ⟨rfl, jw_of hU hW hP hK hD⟩⟩ rfl rfl hl.1 rfl (lv_room (Nat.le_of_ble_eq_true rfl)) dX13_orders_96 ⟨(Nat.le_of_ble_eq_true rfl), (Nat.le_of_ble_eq_true rfl)⟩) hD hS hA (fun r_33 u_39 H locs w_34 hP hK hD hS => ?_)
                  obtain ⟨g_37, a_38⟩ := u_39
                  obtain ⟨z_35, rfl, e_41, hI, hfr_40, h_36⟩ := w_34
                  have hP : va_P (dC, dI) vwCl (mG ad ca g_37 a_38) H := hP
                  have hD : va_D A (mG ad ca g_37 a_38) := hD
                  have e_41 : g = g_37 := e_41.symm
                  subst e_41
                  have haA : ∀ j, j ∉ ([63, 64, 65, 67] : List Nat) → a_38 j = a j := fun j h => (hfr_40 j (fun q => h (by first | exact q | (simp only [List.mem_cons, List.not_mem_nil, or_false] at q ⊢ <;> omega)))).trans (haA j h)
                  refine xr_if_eq (tgt := 124) hx hb dX13_orders_99 (by decide) (by omega) (fun h_42 => ?_) (fun h_42 => ?_)
                  · exact J124 a_38 H locs ls (by omega) hI haA hP hD hS hl
                  · refine lv_aload_n hx hb dX13_orders_102 rfl (lv_at hl 3 rfl) ?_
                    refine gf_order hx hb hj hown hK hP dX13_orders_103 ?_
                    refine lv_iload hx hb dX13_orders_106 (lv_at hl 0 rfl) ?_
                    refine lv_aload_n hx hb dX13_orders_108 rfl (lv_at hl 3 rfl) ?_
                    refine gf_order hx hb hj hown hK hP dX13_orders_109 ?_
                    refine lv_iload hx hb dX13_orders_112 (lv_at hl 0 rfl) ?_
                    refine lv_iconst (v := iI 1) hx hb dX13_orders_114 rfl ?_
                    refine xr_sub hx hb dX13_orders_115 ?_
                    refine ld_order hx hb hK hP hI (by omega) (by omega) dX13_orders_116 (fun h_43 => ?_)
                    refine st_order hx hb hK hP hD hS hI (by omega) (by omega) (by omega) (by omega) dX13_orders_117 (fun a_44 H locs e_45 e_46 hI hP hD hS => ?_)
                    have haA : ∀ j, j ∉ ([63, 64, 65, 67] : List Nat) → a_44 j = a j := fun j h => (e_45 j (fun q => h (q ▸ (by decide : 67 ∈ ([63, 64, 65, 67] : List Nat))))).trans (haA j h)
                    refine lv_iinc (v := iI (v4_78 + (-1))) (lv' := [(4, .int (iI (v4_78 + (-1)))), (3, .int (iI v3_55)), (2, .int (iI v2_55)), (0, .ref (ad 0)), (1, .int (iI p1))]) hx hb dX13_orders_118 hl (k := 0) rfl (iI_add _ _) (by decide) rfl (fun ls hl => ?_)
                    refine lv_goto (tgt := 78) hx hb dX13_orders_121 (by decide) ?_
                    exact ih78 (v4_78 + (-1)) a_44 H locs ls (by omega) (by omega) hI haA (by omega) hP hD hS hl
            exact L78 (((v2_55 : Int)).toNat + 1) v2_55 a_16 H locs ls (by omega) (by omega) hI haA (by omega) hP hD hS hl
          · refine lv_goto (tgt := 135) hx hb dX13_orders_72 (by decide) ?_
            exact J135 v2_55 a_16 H locs ls (by omega) (by omega) hI haA hP hD hS hl
    exact L55 ((((g 37) - 0 : Int)).toNat + 1) 0 0 a H locs ls (by omega) (by omega) (by omega) hI haA (by omega) hP hD hS hl
  · refine lv_iconst (v := iI 0) hx hb dX13_orders_9 rfl ?_
    refine lv_istore_n (lv' := [(2, .int (iI 0)), (0, .ref (ad 0)), (1, .int (iI p1))]) hx hb dX13_orders_10 rfl hl (by decide) rfl (fun ls hl => ?_)
    have L11 : ∀ (n11 : Nat) (v2_11 : Int) (a_11 : Nat → Int → Int) (H : Heap) (locs : List Loc) (ls : Array Slot), (0 ≤ v2_11 ∧ v2_11 ≤ 2147483647) → (mI g a_11) → (∀ j, j ∉ ([63, 64, 65, 67] : List Nat) → a_11 j = a j) → (0 < (n11 : Int) ∧ 60 - v2_11 < (n11 : Int)) → va_P (dC, dI) vwCl (mG ad ca g a_11) H → va_D A (mG ad ca g a_11) → va_S A s.heap H locs → lv_has ls 5 [(2, .int (iI v2_11)), (0, .ref (ad 0)), (1, .int (iI p1))] → W p l e ({ frames := 7, cells := 0, slots := 0, locals := 176 }) s m ([.ref (ad 0), .int (iI p1)] : List Value).toArray below meth c H locs 0 0 Q (F0 m 11 ls []) := by
      intro n11
      induction n11 with
      | zero =>
        intro v2_11 a_11 H locs ls h_47 hI haA hm11 hP hD hS hl
        exfalso; omega
      | succ n11 ih11 =>
        intro v2_11 a_11 H locs ls h_48 hI haA hm11 hP hD hS hl
        refine lv_iload_n hx hb dX13_orders_11 rfl (lv_at hl 0 rfl) ?_
        refine lv_aload_n hx hb dX13_orders_12 rfl (lv_at hl 1 rfl) ?_
        refine gf_setMany hx hb hj hown hK hP dX13_orders_13 ?_
        refine lv_iload_n hx hb dX13_orders_16 rfl (lv_at hl 2 rfl) ?_
        refine ld_setMany hx hb hK hP hI (by omega) (by omega) dX13_orders_17 (fun h_49 => ?_)
        refine xr_icmp_ge (tgt := 44) hx hb dX13_orders_18 (by decide) (by omega) (by omega) (fun h_50 => ?_) (fun h_50 => ?_)
        · refine lv_aload_n hx hb dX13_orders_44 rfl (lv_at hl 1 rfl) ?_
          refine gf_setMany hx hb hj hown hK hP dX13_orders_45 ?_
          refine lv_iload_n hx hb dX13_orders_48 rfl (lv_at hl 2 rfl) ?_
          refine ld_setMany hx hb hK hP hI (by omega) (by omega) dX13_orders_49 (fun h_51 => ?_)
          rw [← hQ]
          exact W.iret (v := iI (a_11 22 p1)) hx hb hr (fun t ht hW => ⟨⟨iI (a_11 22 p1), (g, a_11), rfl, ⟨a_11 22 p1, rfl, rfl, hI, haA, by omega⟩, by rw [ht]; exact hP, va_K.moved hW.alike hK, hD⟩, hS.F ht⟩) hS.2.2 dX13_orders_50
        · refine lv_aload_n hx hb dX13_orders_21 rfl (lv_at hl 1 rfl) ?_
          refine gf_order hx hb hj hown hK hP dX13_orders_22 ?_
          refine lv_iload_n hx hb dX13_orders_25 rfl (lv_at hl 0 rfl) ?_
          refine lv_aload_n hx hb dX13_orders_26 rfl (lv_at hl 1 rfl) ?_
          refine gf_setOrder hx hb hj hown hK hP dX13_orders_27 ?_
          refine lv_bipush (v := iI 60) hx hb dX13_orders_30 rfl ?_
          refine lv_iload_n hx hb dX13_orders_32 rfl (lv_at hl 2 rfl) ?_
          refine xr_mul hx hb dX13_orders_33 ?_
          refine lv_iload_n hx hb dX13_orders_34 rfl (lv_at hl 0 rfl) ?_
          refine xr_add hx hb dX13_orders_35 ?_
          refine ld_setOrder hx hb hK hP hI (by omega) (by omega) dX13_orders_36 (fun h_52 => ?_)
          refine st_order hx hb hK hP hD hS hI (by omega) (by omega) (by omega) (by omega) dX13_orders_37 (fun a_53 H locs e_54 e_55 hI hP hD hS => ?_)
          have haA : ∀ j, j ∉ ([63, 64, 65, 67] : List Nat) → a_53 j = a j := fun j h => (e_54 j (fun q => h (q ▸ (by decide : 67 ∈ ([63, 64, 65, 67] : List Nat))))).trans (haA j h)
          refine lv_iinc (v := iI (v2_11 + 1)) (lv' := [(2, .int (iI (v2_11 + 1))), (0, .ref (ad 0)), (1, .int (iI p1))]) hx hb dX13_orders_38 hl (k := 0) rfl (iI_add _ _) (by decide) rfl (fun ls hl => ?_)
          refine lv_goto (tgt := 11) hx hb dX13_orders_41 (by decide) ?_
          exact ih11 (v2_11 + 1) a_53 H locs ls (by omega) hI haA (by omega) hP hD hS hl
    exact L11 (((60 - 0 : Int)).toNat + 1) 0 a H locs ls (by omega) hI haA (by omega) hP hD hS hl
set_option maxHeartbeats 2000000 in
set_option maxRecDepth 100000 in
theorem sX13_at (l : Launch) (dC : Nat → ClassId) (dI : Nat → Nat → Nat) (sz : Nat) (ad : Nat → Nat) (ca : Nat → ClassId) (g : Nat → Int) (a : Nat → Int → Int) (p1 : Int) (p2 : Int) (hI : mI g a) (q1 : rg p1) (q2 : rg p2) (hrSh : rSh g a) : Met l yX13_at (jk yX13_at cX13_at 3 (some .int)) ({ frames := 8, cells := 0, slots := 0, locals := 200 }) (va_Pc [.ref (ad 0), .int (iI p1), .int (iI p2)] (jw_P (dC, dI) (mG ad ca g a) (mT ca) sz)) (va_Qi (fun (r : Int32) (u : (Nat → Int) × (Nat → Int → Int)) => ∃ z : Int, r = iI z ∧ (u.1 = g) ∧ (mI u.1 u.2) ∧ (∀ j, j ∉ ([63, 64, 65, 67] : List Nat) → u.2 j = a j) ∧ (rg z)) (fun u t => va_P (dC, dI) vwCl (mG ad ca u.1 u.2) t.heap ∧ va_K (dC, dI) vwCl (mT ca) t ∧ va_D (va_A (mG ad ca g a) sz) (mG ad ca u.1 u.2)) (va_A (mG ad ca g a) sz)) 0 0 (va_A (mG ad ca g a) sz) := by
  refine Met.ofW (cc := cX13_at) (maxL := 3) (ret := (some .int)) (by decide) rfl ?_
  intro p e s m args below meth c s₁ B hml hv
  obtain ⟨rfl, hsz, hP, hK, hD0⟩ := hv
  have hx := B.exec
  have hb := B.bytes
  have hr := B.returns
  have hts := atoms_spec (ws := (jk yX13_at cX13_at 3 (some .int))) B.pre
  have hj : ∀ w ∈ jw, w.before ([.ref (ad 0), .int (iI p1), .int (iI p2)] : List Value).toArray s = true := fun w h => hts w (jm h)
  have hown : s.vm.findClass RX13 = some m.cls := findClass_of_methodNamed B.named
  subst hsz
  have hD := hD0.self (sz := s.heap.size)
  generalize hAe : (va_A (mG ad ca g a) s.heap.size) = A at hD ⊢
  have hA : ∀ q : Nat, s.heap.size ≤ q → A q := fun q h => by rw [← hAe]; exact Or.inr h
  have hS : va_S A s.heap s.heap [] := va_S.rf
  have hP : va_P (dC, dI) vwCl (mG ad ca g a) s.heap := hP
  have haA : ∀ j, j ∉ ([63, 64, 65, 67] : List Nat) → a j = a j := fun _ _ => rfl
  have hl := lv_entry ([.ref (ad 0), .int (iI p1), .int (iI p2)]) (n := 3) (Nat.le_of_ble_eq_true rfl)
  rw [lg_entry_eq]
  generalize (lg_sl ([.ref (ad 0), .int (iI p1), .int (iI p2)]) ++ List.replicate (3 - (lg_sl ([.ref (ad 0), .int (iI p1), .int (iI p2)])).length) Slot.unset).toArray = ls at hl ⊢
  have hl : lv_has ls 3 [(0, .ref (ad 0)), (1, .int (iI p1)), (2, .int (iI p2))] := hl
  generalize hQ : MQ below (va_Qi (fun (r : Int32) (u : (Nat → Int) × (Nat → Int → Int)) => ∃ z : Int, r = iI z ∧ (u.1 = g) ∧ (mI u.1 u.2) ∧ (∀ j, j ∉ ([63, 64, 65, 67] : List Nat) → u.2 j = a j) ∧ (rg z)) (fun u t => va_P (dC, dI) vwCl (mG ad ca u.1 u.2) t.heap ∧ va_K (dC, dI) vwCl (mT ca) t ∧ va_D A (mG ad ca u.1 u.2)) A) ([.ref (ad 0), .int (iI p1), .int (iI p2)] : List Value).toArray s 0 0 A = Q
  suffices ST : ∀ (H : Heap) (locs : List Loc), va_P (dC, dI) vwCl (mG ad ca g a) H → va_S A s.heap H locs → W p l e ({ frames := 8, cells := 0, slots := 0, locals := 200 }) s m ([.ref (ad 0), .int (iI p1), .int (iI p2)] : List Value).toArray below meth c H locs 0 0 Q (F0 m 0 ls []) from ST _ _ hP hS
  clear hP hS
  intro H locs hP hS
  refine lv_iload_n hx hb dX13_at_0 rfl (lv_at hl 1 rfl) ?_
  refine jc_i (va_runS (As := [.int (iI p1)]) (rest := []) ⟨hx, hb, hml, hown, hts⟩ (sX13_isVolume l dC dI _ p1 (by omega)) (va_cwS 1 hts (jgoodS m_243 m_395 m_503 m_164) rfl rfl rfl (by decide +kernel) ⟨(Nat.le_of_ble_eq_true rfl), (Nat.le_of_ble_eq_true rfl)⟩) ⟨jw_blind0, fun U hU hW => ⟨rfl, congrArg Array.size hU⟩⟩ rfl rfl hl.1 rfl (lv_room (Nat.le_of_ble_eq_true rfl)) dX13_at_1 ⟨(Nat.le_of_ble_eq_true rfl), (Nat.le_of_ble_eq_true rfl)⟩) hP hS hA (fun r_1 H locs w_2 hP hS => ?_)
  obtain ⟨z_3, rfl, h_4, h_5⟩ := w_2
  refine xr_if_eq (tgt := 31) hx hb dX13_at_4 (by decide) (by omega) (fun h_6 => ?_) (fun h_6 => ?_)
  · refine lv_iconst (v := iI (-1)) hx hb dX13_at_31 rfl ?_
    rw [← hQ]
    exact W.iret (v := iI (-1)) hx hb hr (fun t ht hW => ⟨⟨iI (-1), (g, a), rfl, ⟨(-1), rfl, rfl, hI, haA, by omega⟩, by rw [ht]; exact hP, va_K.moved hW.alike hK, hD⟩, hS.F ht⟩) hS.2.2 dX13_at_32
  · refine lv_iload_n hx hb dX13_at_7 rfl (lv_at hl 2 rfl) ?_
    refine lv_iconst (v := iI 0) hx hb dX13_at_8 rfl ?_
    refine lv_aload_n hx hb dX13_at_9 rfl (lv_at hl 0 rfl) ?_
    refine lv_iload_n hx hb dX13_at_10 rfl (lv_at hl 1 rfl) ?_
    refine jcg_i (va_runV (As := [.int (iI p1)]) (rest := [.int (iI 0), .int (iI p2)]) ⟨hx, hb, hml, hown, hts⟩ (sX13_orders l dC dI _ ad ca g a p1 hI (by omega) (by omega) hrSh) (cwV 1 hts (jgoodV m_260 m_436 m_437 m_503 m_186) rfl rfl rfl (by decide +kernel) ⟨(Nat.le_of_ble_eq_true rfl), (Nat.le_of_ble_eq_true rfl)⟩) ⟨jw_blind, va_recv hK hP (ci := 13) (q0 := 0) rfl rfl, fun U hU hW => ⟨rfl, jw_of hU hW hP hK hD⟩⟩ rfl rfl hl.1 rfl (lv_room (Nat.le_of_ble_eq_true rfl)) dX13_at_11 ⟨(Nat.le_of_ble_eq_true rfl), (Nat.le_of_ble_eq_true rfl)⟩) hD hS hA (fun r_7 u_13 H locs w_8 hP hK hD hS => ?_)
    obtain ⟨g_11, a_12⟩ := u_13
    obtain ⟨z_9, rfl, e_15, hI, hfr_14, h_10⟩ := w_8
    have hP : va_P (dC, dI) vwCl (mG ad ca g_11 a_12) H := hP
    have hD : va_D A (mG ad ca g_11 a_12) := hD
    have e_15 : g = g_11 := e_15.symm
    subst e_15
    have haA : ∀ j, j ∉ ([63, 64, 65, 67] : List Nat) → a_12 j = a j := fun j h => (hfr_14 j (fun q => h (by first | exact q | (simp only [List.mem_cons, List.not_mem_nil, or_false] at q ⊢ <;> omega)))).trans (haA j h)
    refine lv_iconst (v := iI 1) hx hb dX13_at_14 rfl ?_
    refine xr_sub hx hb dX13_at_15 ?_
    refine jc_i (va_runS (As := [.int (iI p2), .int (iI 0), .int (iI (z_9 - 1))]) (rest := []) ⟨hx, hb, hml, hown, hts⟩ (sX13_in l dC dI _ p2 0 (z_9 - 1) (by omega) (by omega) (by omega)) (va_cwS 3 hts (jgoodS m_220 m_364 m_503 m_147) rfl rfl rfl (by decide +kernel) ⟨(Nat.le_of_ble_eq_true rfl), (Nat.le_of_ble_eq_true rfl)⟩) ⟨jw_blind0, fun U hU hW => ⟨rfl, congrArg Array.size hU⟩⟩ rfl rfl hl.1 rfl (lv_room (Nat.le_of_ble_eq_true rfl)) dX13_at_16 ⟨(Nat.le_of_ble_eq_true rfl), (Nat.le_of_ble_eq_true rfl)⟩) hP hS hA (fun r_16 H locs w_17 hP hS => ?_)
    obtain ⟨z_18, rfl, h_19, h_20⟩ := w_17
    refine xr_if_eq (tgt := 31) hx hb dX13_at_19 (by decide) (by omega) (fun h_21 => ?_) (fun h_21 => ?_)
    · refine lv_iconst (v := iI (-1)) hx hb dX13_at_31 rfl ?_
      rw [← hQ]
      exact W.iret (v := iI (-1)) hx hb hr (fun t ht hW => ⟨⟨iI (-1), (g, a_12), rfl, ⟨(-1), rfl, rfl, hI, haA, by omega⟩, by rw [ht]; exact hP, va_K.moved hW.alike hK, hD⟩, hS.F ht⟩) hS.2.2 dX13_at_32
    · refine lv_aload_n hx hb dX13_at_22 rfl (lv_at hl 0 rfl) ?_
      refine gf_order hx hb hj hown hK hP dX13_at_23 ?_
      refine lv_iload_n hx hb dX13_at_26 rfl (lv_at hl 2 rfl) ?_
      refine ld_order hx hb hK hP hI (by omega) (by omega) dX13_at_27 (fun h_22 => ?_)
      refine lv_goto (tgt := 32) hx hb dX13_at_28 (by decide) ?_
      rw [← hQ]
      exact W.iret (v := iI (a_12 67 p2)) hx hb hr (fun t ht hW => ⟨⟨iI (a_12 67 p2), (g, a_12), rfl, ⟨a_12 67 p2, rfl, rfl, hI, haA, by omega⟩, by rw [ht]; exact hP, va_K.moved hW.alike hK, hD⟩, hS.F ht⟩) hS.2.2 dX13_at_32
set_option maxHeartbeats 2000000 in
set_option maxRecDepth 100000 in
theorem sX13_why (l : Launch) (dC : Nat → ClassId) (dI : Nat → Nat → Nat) (sz : Nat) (ad : Nat → Nat) (ca : Nat → ClassId) (g : Nat → Int) (a : Nat → Int → Int) (p1 : Int) (p2 : Int) (hI : mI g a) (q1 : rg p1) (q2 : rg p2) (hrSh : rSh g a) : Met l yX13_why (jk yX13_why cX13_why 4 (some .int)) ({ frames := 7, cells := 0, slots := 0, locals := 176 }) (va_Pc [.ref (ad 0), .int (iI p1), .int (iI p2)] (jw_P (dC, dI) (mG ad ca g a) (mT ca) sz)) (va_Qi (fun (r : Int32) (u : (Nat → Int) × (Nat → Int → Int)) => ∃ z : Int, r = iI z ∧ (u.1 = g) ∧ (mI u.1 u.2) ∧ (∀ j, j ∉ ([63, 64, 65] : List Nat) → u.2 j = a j) ∧ (rg z)) (fun u t => va_P (dC, dI) vwCl (mG ad ca u.1 u.2) t.heap ∧ va_K (dC, dI) vwCl (mT ca) t ∧ va_D (va_A (mG ad ca g a) sz) (mG ad ca u.1 u.2)) (va_A (mG ad ca g a) sz)) 0 0 (va_A (mG ad ca g a) sz) := by
  refine Met.ofW (cc := cX13_why) (maxL := 4) (ret := (some .int)) (by decide) rfl ?_
  intro p e s m args below meth c s₁ B hml hv
  obtain ⟨rfl, hsz, hP, hK, hD0⟩ := hv
  have hx := B.exec
  have hb := B.bytes
  have hr := B.returns
  have hts := atoms_spec (ws := (jk yX13_why cX13_why 4 (some .int))) B.pre
  have hj : ∀ w ∈ jw, w.before ([.ref (ad 0), .int (iI p1), .int (iI p2)] : List Value).toArray s = true := fun w h => hts w (jm h)
  have hown : s.vm.findClass RX13 = some m.cls := findClass_of_methodNamed B.named
  subst hsz
  have hD := hD0.self (sz := s.heap.size)
  generalize hAe : (va_A (mG ad ca g a) s.heap.size) = A at hD ⊢
  have hA : ∀ q : Nat, s.heap.size ≤ q → A q := fun q h => by rw [← hAe]; exact Or.inr h
  have hS : va_S A s.heap s.heap [] := va_S.rf
  have hP : va_P (dC, dI) vwCl (mG ad ca g a) s.heap := hP
  have haA : ∀ j, j ∉ ([63, 64, 65] : List Nat) → a j = a j := fun _ _ => rfl
  have hl := lv_entry ([.ref (ad 0), .int (iI p1), .int (iI p2)]) (n := 4) (Nat.le_of_ble_eq_true rfl)
  rw [lg_entry_eq]
  generalize (lg_sl ([.ref (ad 0), .int (iI p1), .int (iI p2)]) ++ List.replicate (4 - (lg_sl ([.ref (ad 0), .int (iI p1), .int (iI p2)])).length) Slot.unset).toArray = ls at hl ⊢
  have hl : lv_has ls 4 [(0, .ref (ad 0)), (1, .int (iI p1)), (2, .int (iI p2))] := hl
  generalize hQ : MQ below (va_Qi (fun (r : Int32) (u : (Nat → Int) × (Nat → Int → Int)) => ∃ z : Int, r = iI z ∧ (u.1 = g) ∧ (mI u.1 u.2) ∧ (∀ j, j ∉ ([63, 64, 65] : List Nat) → u.2 j = a j) ∧ (rg z)) (fun u t => va_P (dC, dI) vwCl (mG ad ca u.1 u.2) t.heap ∧ va_K (dC, dI) vwCl (mT ca) t ∧ va_D A (mG ad ca u.1 u.2)) A) ([.ref (ad 0), .int (iI p1), .int (iI p2)] : List Value).toArray s 0 0 A = Q
  suffices ST : ∀ (H : Heap) (locs : List Loc), va_P (dC, dI) vwCl (mG ad ca g a) H → va_S A s.heap H locs → W p l e ({ frames := 7, cells := 0, slots := 0, locals := 176 }) s m ([.ref (ad 0), .int (iI p1), .int (iI p2)] : List Value).toArray below meth c H locs 0 0 Q (F0 m 0 ls []) from ST _ _ hP hS
  clear hP hS
  intro H locs hP hS
  refine lv_aload_n hx hb dX13_why_0 rfl (lv_at hl 0 rfl) ?_
  refine lv_iload_n hx hb dX13_why_1 rfl (lv_at hl 1 rfl) ?_
  refine jc_i (va_runV (As := [.int (iI p1)]) (rest := []) ⟨hx, hb, hml, hown, hts⟩ (sX13_isEntry l dC dI _ ad ca g a p1 hI (by omega)) (cwV 1 hts (jgoodV m_253 m_378 m_379 m_503 m_155) rfl rfl rfl (by decide +kernel) ⟨(Nat.le_of_ble_eq_true rfl), (Nat.le_of_ble_eq_true rfl)⟩) ⟨jw_blind, va_recv hK hP (ci := 13) (q0 := 0) rfl rfl, fun U hU hW => ⟨rfl, jw_of hU hW hP hK hD⟩⟩ rfl rfl hl.1 rfl (lv_room (Nat.le_of_ble_eq_true rfl)) dX13_why_2 ⟨(Nat.le_of_ble_eq_true rfl), (Nat.le_of_ble_eq_true rfl)⟩) hP hS hA (fun r_1 H locs w_2 hP hS => ?_)
  obtain ⟨z_3, rfl, h_4, h_5⟩ := w_2
  have b_6 : 0 ≤ g 37 ∧ g 37 ≤ 60 := hI.1 37
  refine xr_if_eq (tgt := 21) hx hb dX13_why_5 (by decide) (by omega) (fun h_7 => ?_) (fun h_7 => ?_)
  · refine lv_iconst (v := iI (-1)) hx hb dX13_why_21 rfl ?_
    rw [← hQ]
    exact W.iret (v := iI (-1)) hx hb hr (fun t ht hW => ⟨⟨iI (-1), (g, a), rfl, ⟨(-1), rfl, rfl, hI, haA, by omega⟩, by rw [ht]; exact hP, va_K.moved hW.alike hK, hD⟩, hS.F ht⟩) hS.2.2 dX13_why_22
  · refine lv_aload_n hx hb dX13_why_8 rfl (lv_at hl 0 rfl) ?_
    refine lv_iload_n hx hb dX13_why_9 rfl (lv_at hl 2 rfl) ?_
    refine jc_i (va_runV (As := [.int (iI p2)]) (rest := []) ⟨hx, hb, hml, hown, hts⟩ (sX13_isEntry l dC dI _ ad ca g a p2 hI (by omega)) (cwV 1 hts (jgoodV m_253 m_378 m_379 m_503 m_155) rfl rfl rfl (by decide +kernel) ⟨(Nat.le_of_ble_eq_true rfl), (Nat.le_of_ble_eq_true rfl)⟩) ⟨jw_blind, va_recv hK hP (ci := 13) (q0 := 0) rfl rfl, fun U hU hW => ⟨rfl, jw_of hU hW hP hK hD⟩⟩ rfl rfl hl.1 rfl (lv_room (Nat.le_of_ble_eq_true rfl)) dX13_why_10 ⟨(Nat.le_of_ble_eq_true rfl), (Nat.le_of_ble_eq_true rfl)⟩) hP hS hA (fun r_8 H locs w_9 hP hS => ?_)
    obtain ⟨z_10, rfl, h_11, h_12⟩ := w_9
    have b_13 : 0 ≤ g 37 ∧ g 37 ≤ 60 := hI.1 37
    refine xr_if_eq (tgt := 21) hx hb dX13_why_13 (by decide) (by omega) (fun h_14 => ?_) (fun h_14 => ?_)
    · refine lv_iconst (v := iI (-1)) hx hb dX13_why_21 rfl ?_
      rw [← hQ]
      exact W.iret (v := iI (-1)) hx hb hr (fun t ht hW => ⟨⟨iI (-1), (g, a), rfl, ⟨(-1), rfl, rfl, hI, haA, by omega⟩, by rw [ht]; exact hP, va_K.moved hW.alike hK, hD⟩, hS.F ht⟩) hS.2.2 dX13_why_22
    · refine lv_iload_n hx hb dX13_why_16 rfl (lv_at hl 1 rfl) ?_
      refine lv_iload_n hx hb dX13_why_17 rfl (lv_at hl 2 rfl) ?_
      refine xr_icmp_ne (tgt := 23) hx hb dX13_why_18 (by decide) (by omega) (by omega) (fun h_15 => ?_) (fun h_15 => ?_)
      · refine lv_aload_n hx hb dX13_why_23 rfl (lv_at hl 0 rfl) ?_
        refine lv_iload_n hx hb dX13_why_24 rfl (lv_at hl 1 rfl) ?_
        refine lv_iload_n hx hb dX13_why_25 rfl (lv_at hl 2 rfl) ?_
        refine lv_bipush (v := iI 6) hx hb dX13_why_26 rfl ?_
        refine lv_iconst (v := iI 0) hx hb dX13_why_28 rfl ?_
        refine jcg_i (va_runV (As := [.int (iI p1), .int (iI p2), .int (iI 6), .int (iI 0)]) (rest := []) ⟨hx, hb, hml, hown, hts⟩ (sX13_compared l dC dI _ ad ca g a p1 p2 6 0 hI (by omega) (by omega) (by omega) (by omega) (by omega) (by omega) hrSh) (cwV 4 hts (jgoodV m_252 m_312 m_313 m_503 m_121) rfl rfl rfl (by decide +kernel) ⟨(Nat.le_of_ble_eq_true rfl), (Nat.le_of_ble_eq_true rfl)⟩) ⟨jw_blind, va_recv hK hP (ci := 13) (q0 := 0) rfl rfl, fun U hU hW => ⟨rfl, jw_of hU hW hP hK hD⟩⟩ rfl rfl hl.1 rfl (lv_room (Nat.le_of_ble_eq_true rfl)) dX13_why_29 ⟨(Nat.le_of_ble_eq_true rfl), (Nat.le_of_ble_eq_true rfl)⟩) hD hS hA (fun r_16 u_22 H locs w_17 hP hK hD hS => ?_)
        obtain ⟨g_20, a_21⟩ := u_22
        obtain ⟨z_18, rfl, e_24, hI, hfr_23, h_19⟩ := w_17
        have hP : va_P (dC, dI) vwCl (mG ad ca g_20 a_21) H := hP
        have hD : va_D A (mG ad ca g_20 a_21) := hD
        have e_24 : g = g_20 := e_24.symm
        subst e_24
        have haA : ∀ j, j ∉ ([63, 64, 65] : List Nat) → a_21 j = a j := fun j h => (hfr_23 j (fun q => h (by first | exact q | (simp only [List.mem_cons, List.not_mem_nil, or_false] at q ⊢ <;> omega)))).trans (haA j h)
        refine xr_if_ne (tgt := 37) hx hb dX13_why_32 (by decide) (by omega) (fun h_25 => ?_) (fun h_25 => ?_)
        · refine lv_iconst (v := iI 1) hx hb dX13_why_37 rfl ?_
          refine lv_istore_n (lv' := [(3, .int (iI 1)), (0, .ref (ad 0)), (1, .int (iI p1)), (2, .int (iI p2))]) hx hb dX13_why_38 rfl hl (by decide) rfl (fun ls hl => ?_)
          have L39 : ∀ (n39 : Nat) (v3_39 : Int) (a_39 : Nat → Int → Int) (H : Heap) (locs : List Loc) (ls : Array Slot), (1 ≤ v3_39 ∧ v3_39 ≤ 4) → (mI g a_39) → (∀ j, j ∉ ([63, 64, 65] : List Nat) → a_39 j = a j) → (0 < (n39 : Int) ∧ 4 - v3_39 < (n39 : Int)) → va_P (dC, dI) vwCl (mG ad ca g a_39) H → va_D A (mG ad ca g a_39) → va_S A s.heap H locs → lv_has ls 4 [(3, .int (iI v3_39)), (0, .ref (ad 0)), (1, .int (iI p1)), (2, .int (iI p2))] → W p l e ({ frames := 7, cells := 0, slots := 0, locals := 176 }) s m ([.ref (ad 0), .int (iI p1), .int (iI p2)] : List Value).toArray below meth c H locs 0 0 Q (F0 m 39 ls []) := by
            intro n39
            induction n39 with
            | zero =>
              intro v3_39 a_39 H locs ls h_26 hI haA hm39 hP hD hS hl
              exfalso; omega
            | succ n39 ih39 =>
              intro v3_39 a_39 H locs ls h_27 hI haA hm39 hP hD hS hl
              refine lv_iload_n hx hb dX13_why_39 rfl (lv_at hl 0 rfl) ?_
              refine lv_iconst (v := iI 4) hx hb dX13_why_40 rfl ?_
              refine xr_icmp_ge (tgt := 73) hx hb dX13_why_41 (by decide) (by omega) (by omega) (fun h_28 => ?_) (fun h_28 => ?_)
              · refine lv_iconst (v := iI 0) hx hb dX13_why_73 rfl ?_
                rw [← hQ]
                exact W.iret (v := iI 0) hx hb hr (fun t ht hW => ⟨⟨iI 0, (g, a_39), rfl, ⟨0, rfl, rfl, hI, haA, by omega⟩, by rw [ht]; exact hP, va_K.moved hW.alike hK, hD⟩, hS.F ht⟩) hS.2.2 dX13_why_74
              · refine lv_aload_n hx hb dX13_why_44 rfl (lv_at hl 1 rfl) ?_
                refine lv_iload_n hx hb dX13_why_45 rfl (lv_at hl 2 rfl) ?_
                refine lv_iload_n hx hb dX13_why_46 rfl (lv_at hl 3 rfl) ?_
                refine lv_bipush (v := iI 6) hx hb dX13_why_47 rfl ?_
                refine lv_iload_n hx hb dX13_why_49 rfl (lv_at hl 0 rfl) ?_
                refine jcg_i (va_runV (As := [.int (iI p1), .int (iI p2), .int (iI 6), .int (iI v3_39)]) (rest := []) ⟨hx, hb, hml, hown, hts⟩ (sX13_isAhead l dC dI _ ad ca g a_39 p1 p2 6 v3_39 hI (by omega) (by omega) (by omega) (by omega) (by omega) (by omega) (rSh_t rfl rfl (haA 9 (by decide)) (haA 10 (by decide)) (haA 11 (by decide)) (haA 12 (by decide)) (haA 16 (by decide)) hrSh)) (cwV 4 hts (jgoodV m_259 m_371 m_372 m_503 m_151) rfl rfl rfl (by decide +kernel) ⟨(Nat.le_of_ble_eq_true rfl), (Nat.le_of_ble_eq_true rfl)⟩) ⟨jw_blind, va_recv hK hP (ci := 13) (q0 := 0) rfl rfl, fun U hU hW => ⟨rfl, jw_of hU hW hP hK hD⟩⟩ rfl rfl hl.1 rfl (lv_room (Nat.le_of_ble_eq_true rfl)) dX13_why_50 ⟨(Nat.le_of_ble_eq_true rfl), (Nat.le_of_ble_eq_true rfl)⟩) hD hS hA (fun r_29 u_35 H locs w_30 hP hK hD hS => ?_)
                obtain ⟨g_33, a_34⟩ := u_35
                obtain ⟨z_31, rfl, e_37, hI, hfr_36, h_32⟩ := w_30
                have hP : va_P (dC, dI) vwCl (mG ad ca g_33 a_34) H := hP
                have hD : va_D A (mG ad ca g_33 a_34) := hD
                have e_37 : g = g_33 := e_37.symm
                subst e_37
                have haA : ∀ j, j ∉ ([63, 64, 65] : List Nat) → a_34 j = a j := fun j h => (hfr_36 j (fun q => h (by first | exact q | (simp only [List.mem_cons, List.not_mem_nil, or_false] at q ⊢ <;> omega)))).trans (haA j h)
                refine lv_aload_n hx hb dX13_why_53 rfl (lv_at hl 1 rfl) ?_
                refine lv_iload_n hx hb dX13_why_54 rfl (lv_at hl 2 rfl) ?_
                refine lv_iload_n hx hb dX13_why_55 rfl (lv_at hl 3 rfl) ?_
                refine lv_bipush (v := iI 6) hx hb dX13_why_56 rfl ?_
                refine lv_iconst (v := iI 0) hx hb dX13_why_58 rfl ?_
                refine jcg_i (va_runV (As := [.int (iI p1), .int (iI p2), .int (iI 6), .int (iI 0)]) (rest := [.int (iI z_31)]) ⟨hx, hb, hml, hown, hts⟩ (sX13_isAhead l dC dI _ ad ca g a_34 p1 p2 6 0 hI (by omega) (by omega) (by omega) (by omega) (by omega) (by omega) (rSh_t rfl rfl (haA 9 (by decide)) (haA 10 (by decide)) (haA 11 (by decide)) (haA 12 (by decide)) (haA 16 (by decide)) hrSh)) (cwV 4 hts (jgoodV m_259 m_371 m_372 m_503 m_151) rfl rfl rfl (by decide +kernel) ⟨(Nat.le_of_ble_eq_true rfl), (Nat.le_of_ble_eq_true rfl)⟩) ⟨jw_blind, va_recv hK hP (ci := 13) (q0 := 0) rfl rfl, fun U hU hW => ⟨rfl, jw_of hU hW hP hK hD⟩⟩ rfl rfl hl.1 rfl (lv_room (Nat.le_of_ble_eq_true rfl)) dX13_why_59 ⟨(Nat.le_of_ble_eq_true rfl), (Nat.le_of_ble_eq_true rfl)⟩) hD hS hA (fun r_38 u_44 H locs w_39 hP hK hD hS => ?_)
                obtain ⟨g_42, a_43⟩ := u_44
                obtain ⟨z_40, rfl, e_46, hI, hfr_45, h_41⟩ := w_39
                have hP : va_P (dC, dI) vwCl (mG ad ca g_42 a_43) H := hP
                have hD : va_D A (mG ad ca g_42 a_43) := hD
                have e_46 : g = g_42 := e_46.symm
                subst e_46
                have haA : ∀ j, j ∉ ([63, 64, 65] : List Nat) → a_43 j = a j := fun j h => (hfr_45 j (fun q => h (by first | exact q | (simp only [List.mem_cons, List.not_mem_nil, or_false] at q ⊢ <;> omega)))).trans (haA j h)
                refine xr_icmp_eq (tgt := 67) hx hb dX13_why_62 (by decide) (by omega) (by omega) (fun h_47 => ?_) (fun h_47 => ?_)
                · refine lv_iinc (v := iI (v3_39 + 1)) (lv' := [(3, .int (iI (v3_39 + 1))), (0, .ref (ad 0)), (1, .int (iI p1)), (2, .int (iI p2))]) hx hb dX13_why_67 hl (k := 0) rfl (iI_add _ _) (by decide) rfl (fun ls hl => ?_)
                  refine lv_goto (tgt := 39) hx hb dX13_why_70 (by decide) ?_
                  exact ih39 (v3_39 + 1) a_43 H locs ls (by omega) hI haA (by omega) hP hD hS hl
                · refine lv_iload_n hx hb dX13_why_65 rfl (lv_at hl 0 rfl) ?_
                  rw [← hQ]
                  exact W.iret (v := iI v3_39) hx hb hr (fun t ht hW => ⟨⟨iI v3_39, (g, a_43), rfl, ⟨v3_39, rfl, rfl, hI, haA, by omega⟩, by rw [ht]; exact hP, va_K.moved hW.alike hK, hD⟩, hS.F ht⟩) hS.2.2 dX13_why_66
          exact L39 (((4 - 1 : Int)).toNat + 1) 1 a_21 H locs ls (by omega) hI haA (by omega) hP hD hS hl
        · refine lv_iconst (v := iI 4) hx hb dX13_why_35 rfl ?_
          rw [← hQ]
          exact W.iret (v := iI 4) hx hb hr (fun t ht hW => ⟨⟨iI 4, (g, a_21), rfl, ⟨4, rfl, rfl, hI, haA, by omega⟩, by rw [ht]; exact hP, va_K.moved hW.alike hK, hD⟩, hS.F ht⟩) hS.2.2 dX13_why_36
      · refine lv_iconst (v := iI (-1)) hx hb dX13_why_21 rfl ?_
        rw [← hQ]
        exact W.iret (v := iI (-1)) hx hb hr (fun t ht hW => ⟨⟨iI (-1), (g, a), rfl, ⟨(-1), rfl, rfl, hI, haA, by omega⟩, by rw [ht]; exact hP, va_K.moved hW.alike hK, hD⟩, hS.F ht⟩) hS.2.2 dX13_why_22
