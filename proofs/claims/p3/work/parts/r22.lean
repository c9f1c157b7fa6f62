set_option maxHeartbeats 2000000 in
set_option maxRecDepth 100000 in
theorem sX13_byKey (l : Launch) (dC : Nat → ClassId) (dI : Nat → Nat → Nat) (sz : Nat) (ad : Nat → Nat) (ca : Nat → ClassId) (g : Nat → Int) (a : Nat → Int → Int) (p1 : Int) (hI : mI g a) (q1 : rg p1) (k1 : 0 ≤ p1 ∧ p1 < 60) (hrSh : rSh g a) : Met l yX13_byKey (jk yX13_byKey cX13_byKey 7 (some .int)) ({ frames := 5, cells := 0, slots := 0, locals := 124 }) (va_Pc [.ref (ad 0), .int (iI p1)] (jw_P (dC, dI) (mG ad ca g a) (mT ca) sz)) (va_Qi (fun (r : Int32) (u : (Nat → Int) × (Nat → Int → Int)) => ∃ z : Int, r = iI z ∧ (u.1 = g) ∧ (mI u.1 u.2) ∧ (∀ j, j ∉ ([63, 64] : List Nat) → u.2 j = a j) ∧ (0 ≤ z ∧ z ≤ 5)) (fun u t => va_P (dC, dI) vwCl (mG ad ca u.1 u.2) t.heap ∧ va_K (dC, dI) vwCl (mT ca) t ∧ va_D (va_A (mG ad ca g a) sz) (mG ad ca u.1 u.2)) (va_A (mG ad ca g a) sz)) 0 0 (va_A (mG ad ca g a) sz) := by
  refine Met.ofW (cc := cX13_byKey) (maxL := 7) (ret := (some .int)) (by decide) rfl ?_
  intro p e s m args below meth c s₁ B hml hv
  obtain ⟨rfl, hsz, hP, hK, hD0⟩ := hv
  have hx := B.exec
  have hb := B.bytes
  have hr := B.returns
  have hts := atoms_spec (ws := (jk yX13_byKey cX13_byKey 7 (some .int))) B.pre
  have hj : ∀ w ∈ jw, w.before ([.ref (ad 0), .int (iI p1)] : List Value).toArray s = true := fun w h => hts w (jm h)
  have hown : s.vm.findClass RX13 = some m.cls := findClass_of_methodNamed B.named
  subst hsz
  have hD := hD0.self (sz := s.heap.size)
  generalize hAe : (va_A (mG ad ca g a) s.heap.size) = A at hD ⊢
  have hA : ∀ q : Nat, s.heap.size ≤ q → A q := fun q h => by rw [← hAe]; exact Or.inr h
  have hS : va_S A s.heap s.heap [] := va_S.rf
  have hP : va_P (dC, dI) vwCl (mG ad ca g a) s.heap := hP
  have haA : ∀ j, j ∉ ([63, 64] : List Nat) → a j = a j := fun _ _ => rfl
  have hl := lv_entry ([.ref (ad 0), .int (iI p1)]) (n := 7) (Nat.le_of_ble_eq_true rfl)
  rw [lg_entry_eq]
  generalize (lg_sl ([.ref (ad 0), .int (iI p1)]) ++ List.replicate (7 - (lg_sl ([.ref (ad 0), .int (iI p1)])).length) Slot.unset).toArray = ls at hl ⊢
  have hl : lv_has ls 7 [(0, .ref (ad 0)), (1, .int (iI p1))] := hl
  generalize hQ : MQ below (va_Qi (fun (r : Int32) (u : (Nat → Int) × (Nat → Int → Int)) => ∃ z : Int, r = iI z ∧ (u.1 = g) ∧ (mI u.1 u.2) ∧ (∀ j, j ∉ ([63, 64] : List Nat) → u.2 j = a j) ∧ (0 ≤ z ∧ z ≤ 5)) (fun u t => va_P (dC, dI) vwCl (mG ad ca u.1 u.2) t.heap ∧ va_K (dC, dI) vwCl (mT ca) t ∧ va_D A (mG ad ca u.1 u.2)) A) ([.ref (ad 0), .int (iI p1)] : List Value).toArray s 0 0 A = Q
  suffices ST : ∀ (H : Heap) (locs : List Loc), va_P (dC, dI) vwCl (mG ad ca g a) H → va_S A s.heap H locs → W p l e ({ frames := 5, cells := 0, slots := 0, locals := 124 }) s m ([.ref (ad 0), .int (iI p1)] : List Value).toArray below meth c H locs 0 0 Q (F0 m 0 ls []) from ST _ _ hP hS
  clear hP hS
  intro H locs hP hS
  refine lv_aload_n hx hb dX13_byKey_0 rfl (lv_at hl 0 rfl) ?_
  refine lv_iload_n hx hb dX13_byKey_1 rfl (lv_at hl 1 rfl) ?_
  refine lv_bipush (v := iI 6) hx hb dX13_byKey_2 rfl ?_
  refine lv_iconst (v := iI 0) hx hb dX13_byKey_4 rfl ?_
  refine lv_aload_n hx hb dX13_byKey_5 rfl (lv_at hl 0 rfl) ?_
  refine gf_keyOne hx hb hj hown hK hP dX13_byKey_6 ?_
  refine jcg_i (va_runV (As := [.int (iI p1), .int (iI 6), .int (iI 0), .ref (ad 64)]) (rest := []) ⟨hx, hb, hml, hown, hts⟩ (sX13_key_q64 l dC dI _ ad ca g a p1 6 0 hI (by omega) (by omega) (by omega) (by omega) hrSh) (cwV 4 hts (jgoodV m_251 m_400 m_401 m_503 m_167) rfl rfl rfl (by decide +kernel) ⟨(Nat.le_of_ble_eq_true rfl), (Nat.le_of_ble_eq_true rfl)⟩) ⟨jw_blind, va_recv hK hP (ci := 13) (q0 := 0) rfl rfl, fun U hU hW => ⟨rfl, jw_of hU hW hP hK hD⟩⟩ rfl rfl hl.1 rfl (lv_room (Nat.le_of_ble_eq_true rfl)) dX13_byKey_9 ⟨(Nat.le_of_ble_eq_true rfl), (Nat.le_of_ble_eq_true rfl)⟩) hD hS hA (fun r_1 u_7 H locs w_2 hP hK hD hS => ?_)
  obtain ⟨g_5, a_6⟩ := u_7
  obtain ⟨z_3, rfl, e_9, hI, hfr_8, h_4⟩ := w_2
  have hP : va_P (dC, dI) vwCl (mG ad ca g_5 a_6) H := hP
  have hD : va_D A (mG ad ca g_5 a_6) := hD
  have e_9 : g = g_5 := e_9.symm
  subst e_9
  have haA : ∀ j, j ∉ ([63, 64] : List Nat) → a_6 j = a j := fun j h => (hfr_8 j (fun q => h (by first | exact q | (simp only [List.mem_cons, List.not_mem_nil, or_false] at q ⊢ <;> omega)))).trans (haA j h)
  refine lv_pop hx hb dX13_byKey_12 rfl ?_
  refine lv_aload_n hx hb dX13_byKey_13 rfl (lv_at hl 0 rfl) ?_
  refine lv_iconst (v := iI 0) hx hb dX13_byKey_14 rfl ?_
  refine lv_bipush (v := iI 6) hx hb dX13_byKey_15 rfl ?_
  refine lv_aload_n hx hb dX13_byKey_17 rfl (lv_at hl 0 rfl) ?_
  refine gf_now hx hb hj hown hK hP hI dX13_byKey_18 (fun h_10 => ?_)
  refine jcg_i (va_runV (As := [.int (iI 0), .int (iI 6), .int (iI (g 30))]) (rest := []) ⟨hx, hb, hml, hown, hts⟩ (sX13_tells l dC dI _ ad ca g a_6 0 6 (g 30) hI (by omega) (by omega) (by omega) (by omega) (rSh_t rfl rfl (haA 9 (by decide)) (haA 10 (by decide)) (haA 11 (by decide)) (haA 12 (by decide)) (haA 16 (by decide)) hrSh)) (cwV 3 hts (jgoodV m_249 m_484 m_485 m_503 m_210) rfl rfl rfl (by decide +kernel) ⟨(Nat.le_of_ble_eq_true rfl), (Nat.le_of_ble_eq_true rfl)⟩) ⟨jw_blind, va_recv hK hP (ci := 13) (q0 := 0) rfl rfl, fun U hU hW => ⟨rfl, jw_of hU hW hP hK hD⟩⟩ rfl rfl hl.1 rfl (lv_room (Nat.le_of_ble_eq_true rfl)) dX13_byKey_21 ⟨(Nat.le_of_ble_eq_true rfl), (Nat.le_of_ble_eq_true rfl)⟩) hD hS hA (fun r_11 u_17 H locs w_12 hP hK hD hS => ?_)
  obtain ⟨g_15, a_16⟩ := u_17
  obtain ⟨z_13, rfl, e_19, hI, hfr_18, h_14⟩ := w_12
  have hP : va_P (dC, dI) vwCl (mG ad ca g_15 a_16) H := hP
  have hD : va_D A (mG ad ca g_15 a_16) := hD
  have e_19 : g = g_15 := e_19.symm
  subst e_19
  have haA : ∀ j, j ∉ ([63, 64] : List Nat) → a_16 j = a j := fun j h => (hfr_18 j (fun q => h (by first | exact q | (simp only [List.mem_cons, List.not_mem_nil, or_false] at q ⊢ <;> omega)))).trans (haA j h)
  refine lv_iconst (v := iI 1) hx hb dX13_byKey_24 rfl ?_
  have J33 : ∀ (s0_33 : Int) (H : Heap) (locs : List Loc) (ls : Array Slot), (0 ≤ s0_33 ∧ s0_33 ≤ 1) → va_P (dC, dI) vwCl (mG ad ca g a_16) H → va_D A (mG ad ca g a_16) → va_S A s.heap H locs → lv_has ls 7 [(0, .ref (ad 0)), (1, .int (iI p1))] → W p l e ({ frames := 5, cells := 0, slots := 0, locals := 124 }) s m ([.ref (ad 0), .int (iI p1)] : List Value).toArray below meth c H locs 0 0 Q (F0 m 33 ls [.int (iI s0_33)]) := by
    intro s0_33 H locs ls h_20 hP hD hS hl
    refine lv_istore_n (lv' := [(2, .int (iI s0_33)), (0, .ref (ad 0)), (1, .int (iI p1))]) hx hb dX13_byKey_33 rfl hl (by decide) rfl (fun ls hl => ?_)
    refine lv_aload_n hx hb dX13_byKey_34 rfl (lv_at hl 1 rfl) ?_
    refine gf_keyOne hx hb hj hown hK hP dX13_byKey_35 ?_
    refine lv_iconst (v := iI 0) hx hb dX13_byKey_38 rfl ?_
    refine ld_keyOne hx hb hK hP hI (by omega) (by omega) dX13_byKey_39 (fun h_21 => ?_)
    refine lv_istore_n (lv' := [(3, .int (iI (a_16 64 0))), (2, .int (iI s0_33)), (0, .ref (ad 0)), (1, .int (iI p1))]) hx hb dX13_byKey_40 rfl hl (by decide) rfl (fun ls hl => ?_)
    refine lv_iload_n hx hb dX13_byKey_41 rfl (lv_at hl 1 rfl) ?_
    have J70 : ∀ (s0_70 : Int) (H : Heap) (locs : List Loc) (ls : Array Slot), (0 ≤ s0_70 ∧ s0_70 ≤ 1) → va_P (dC, dI) vwCl (mG ad ca g a_16) H → va_D A (mG ad ca g a_16) → va_S A s.heap H locs → lv_has ls 7 [(3, .int (iI (a_16 64 0))), (2, .int (iI s0_33)), (0, .ref (ad 0)), (1, .int (iI p1))] → W p l e ({ frames := 5, cells := 0, slots := 0, locals := 124 }) s m ([.ref (ad 0), .int (iI p1)] : List Value).toArray below meth c H locs 0 0 Q (F0 m 70 ls [.int (iI s0_70)]) := by
      intro s0_70 H locs ls h_22 hP hD hS hl
      refine lv_istore (lv' := [(4, .int (iI s0_70)), (3, .int (iI (a_16 64 0))), (2, .int (iI s0_33)), (0, .ref (ad 0)), (1, .int (iI p1))]) hx hb dX13_byKey_70 hl (by decide) rfl (fun ls hl => ?_)
      refine lv_iload hx hb dX13_byKey_72 (lv_at hl 0 rfl) ?_
      refine xr_if_eq (tgt := 87) hx hb dX13_byKey_74 (by decide) (by omega) (fun h_23 => ?_) (fun h_23 => ?_)
      · refine lv_iload_n hx hb dX13_byKey_87 rfl (lv_at hl 2 rfl) ?_
        have J101 : ∀ (s0_101 : Int) (H : Heap) (locs : List Loc) (ls : Array Slot), ((-2147483648) ≤ s0_101 ∧ s0_101 ≤ 2147483647) → va_P (dC, dI) vwCl (mG ad ca g a_16) H → va_D A (mG ad ca g a_16) → va_S A s.heap H locs → lv_has ls 7 [(4, .int (iI s0_70)), (3, .int (iI (a_16 64 0))), (2, .int (iI s0_33)), (0, .ref (ad 0)), (1, .int (iI p1))] → W p l e ({ frames := 5, cells := 0, slots := 0, locals := 124 }) s m ([.ref (ad 0), .int (iI p1)] : List Value).toArray below meth c H locs 0 0 Q (F0 m 101 ls [.int (iI s0_101)]) := by
          intro s0_101 H locs ls h_24 hP hD hS hl
          refine lv_istore (lv' := [(5, .int (iI s0_101)), (4, .int (iI s0_70)), (3, .int (iI (a_16 64 0))), (2, .int (iI s0_33)), (0, .ref (ad 0)), (1, .int (iI p1))]) hx hb dX13_byKey_101 hl (by decide) rfl (fun ls hl => ?_)
          refine lv_iconst (v := iI 0) hx hb dX13_byKey_103 rfl ?_
          refine lv_istore (lv' := [(6, .int (iI 0)), (5, .int (iI s0_101)), (4, .int (iI s0_70)), (3, .int (iI (a_16 64 0))), (2, .int (iI s0_33)), (0, .ref (ad 0)), (1, .int (iI p1))]) hx hb dX13_byKey_104 hl (by decide) rfl (fun ls hl => ?_)
          have L106 : ∀ (n106 : Nat) (v6_106 : Int) (H : Heap) (locs : List Loc) (ls : Array Slot), (0 ≤ v6_106 ∧ v6_106 ≤ 2147483647) → (0 < (n106 : Int) ∧ 5 - v6_106 < (n106 : Int)) → va_P (dC, dI) vwCl (mG ad ca g a_16) H → va_D A (mG ad ca g a_16) → va_S A s.heap H locs → lv_has ls 7 [(6, .int (iI v6_106)), (5, .int (iI s0_101)), (4, .int (iI s0_70)), (3, .int (iI (a_16 64 0))), (2, .int (iI s0_33)), (0, .ref (ad 0)), (1, .int (iI p1))] → W p l e ({ frames := 5, cells := 0, slots := 0, locals := 124 }) s m ([.ref (ad 0), .int (iI p1)] : List Value).toArray below meth c H locs 0 0 Q (F0 m 106 ls []) := by
            intro n106
            induction n106 with
            | zero =>
              intro v6_106 H locs ls h_25 hm106 hP hD hS hl
              exfalso; omega
            | succ n106 ih106 =>
              intro v6_106 H locs ls h_26 hm106 hP hD hS hl
              refine lv_iload hx hb dX13_byKey_106 (lv_at hl 0 rfl) ?_
              refine lv_iconst (v := iI 5) hx hb dX13_byKey_108 rfl ?_
              refine xr_icmp_ge (tgt := 133) hx hb dX13_byKey_109 (by decide) (by omega) (by omega) (fun h_27 => ?_) (fun h_27 => ?_)
              · refine lv_iconst (v := iI 5) hx hb dX13_byKey_133 rfl ?_
                rw [← hQ]
                exact W.iret (v := iI 5) hx hb hr (fun t ht hW => ⟨⟨iI 5, (g, a_16), rfl, ⟨5, rfl, rfl, hI, haA, by omega⟩, by rw [ht]; exact hP, va_K.moved hW.alike hK, hD⟩, hS.F ht⟩) hS.2.2 dX13_byKey_134
              · refine lv_iload hx hb dX13_byKey_112 (lv_at hl 1 rfl) ?_
                refine lv_aload_n hx hb dX13_byKey_114 rfl (lv_at hl 5 rfl) ?_
                refine gf_bounds hx hb hj hown hK hP dX13_byKey_115 ?_
                refine lv_iload hx hb dX13_byKey_118 (lv_at hl 0 rfl) ?_
                refine ld_bounds hx hb hK hP hI (by omega) (by omega) dX13_byKey_120 (fun h_28 => ?_)
                refine xr_icmp_gt (tgt := 127) hx hb dX13_byKey_121 (by decide) (by omega) (by omega) (fun h_29 => ?_) (fun h_29 => ?_)
                · refine lv_iinc (v := iI (v6_106 + 1)) (lv' := [(6, .int (iI (v6_106 + 1))), (5, .int (iI s0_101)), (4, .int (iI s0_70)), (3, .int (iI (a_16 64 0))), (2, .int (iI s0_33)), (0, .ref (ad 0)), (1, .int (iI p1))]) hx hb dX13_byKey_127 hl (k := 0) rfl (iI_add _ _) (by decide) rfl (fun ls hl => ?_)
                  refine lv_goto (tgt := 106) hx hb dX13_byKey_130 (by decide) ?_
                  exact ih106 (v6_106 + 1) H locs ls (by omega) (by omega) hP hD hS hl
                · refine lv_iload hx hb dX13_byKey_124 (lv_at hl 0 rfl) ?_
                  rw [← hQ]
                  exact W.iret (v := iI v6_106) hx hb hr (fun t ht hW => ⟨⟨iI v6_106, (g, a_16), rfl, ⟨v6_106, rfl, rfl, hI, haA, by omega⟩, by rw [ht]; exact hP, va_K.moved hW.alike hK, hD⟩, hS.F ht⟩) hS.2.2 dX13_byKey_126
          exact L106 (((5 - 0 : Int)).toNat + 1) 0 H locs ls (by omega) (by omega) hP hD hS hl
        refine xr_if_eq (tgt := 98) hx hb dX13_byKey_88 (by decide) (by omega) (fun h_30 => ?_) (fun h_30 => ?_)
        · refine lv_iload_n hx hb dX13_byKey_98 rfl (lv_at hl 1 rfl) ?_
          refine lv_iconst (v := iI 1) hx hb dX13_byKey_99 rfl ?_
          refine xr_sub hx hb dX13_byKey_100 ?_
          refine xr_kept (fun z_31 h_32 h_33 => ?_)
          exact J101 z_31 H locs ls (by omega) hP hD hS hl
        · refine lv_iload_n hx hb dX13_byKey_91 rfl (lv_at hl 1 rfl) ?_
          refine lv_bipush (v := iI 11) hx hb dX13_byKey_92 rfl ?_
          refine xr_sub hx hb dX13_byKey_94 ?_
          refine xr_kept (fun z_34 h_35 h_36 => ?_)
          refine lv_goto (tgt := 101) hx hb dX13_byKey_95 (by decide) ?_
          exact J101 z_34 H locs ls (by omega) hP hD hS hl
      · refine lv_iload_n hx hb dX13_byKey_77 rfl (lv_at hl 2 rfl) ?_
        refine xr_if_eq (tgt := 85) hx hb dX13_byKey_78 (by decide) (by omega) (fun h_37 => ?_) (fun h_37 => ?_)
        · refine lv_iconst (v := iI 5) hx hb dX13_byKey_85 rfl ?_
          rw [← hQ]
          exact W.iret (v := iI 5) hx hb hr (fun t ht hW => ⟨⟨iI 5, (g, a_16), rfl, ⟨5, rfl, rfl, hI, haA, by omega⟩, by rw [ht]; exact hP, va_K.moved hW.alike hK, hD⟩, hS.F ht⟩) hS.2.2 dX13_byKey_86
        · refine lv_iconst (v := iI 0) hx hb dX13_byKey_81 rfl ?_
          refine lv_goto (tgt := 86) hx hb dX13_byKey_82 (by decide) ?_
          rw [← hQ]
          exact W.iret (v := iI 0) hx hb hr (fun t ht hW => ⟨⟨iI 0, (g, a_16), rfl, ⟨0, rfl, rfl, hI, haA, by omega⟩, by rw [ht]; exact hP, va_K.moved hW.alike hK, hD⟩, hS.F ht⟩) hS.2.2 dX13_byKey_86
    refine xr_if_eq (tgt := 59) hx hb dX13_byKey_42 (by decide) (by omega) (fun h_38 => ?_) (fun h_38 => ?_)
    · refine lv_iload_n hx hb dX13_byKey_59 rfl (lv_at hl 0 rfl) ?_
      refine lv_bipush (v := iI 26) hx hb dX13_byKey_60 rfl ?_
      refine xr_icmp_le (tgt := 69) hx hb dX13_byKey_62 (by decide) (by omega) (by omega) (fun h_39 => ?_) (fun h_39 => ?_)
      · refine lv_iconst (v := iI 0) hx hb dX13_byKey_69 rfl ?_
        exact J70 0 H locs ls (by omega) hP hD hS hl
      · refine lv_iconst (v := iI 1) hx hb dX13_byKey_65 rfl ?_
        refine lv_goto (tgt := 70) hx hb dX13_byKey_66 (by decide) ?_
        exact J70 1 H locs ls (by omega) hP hD hS hl
    · refine lv_iload_n hx hb dX13_byKey_45 rfl (lv_at hl 0 rfl) ?_
      refine lv_bipush (v := iI 10) hx hb dX13_byKey_46 rfl ?_
      refine xr_icmp_gt (tgt := 55) hx hb dX13_byKey_48 (by decide) (by omega) (by omega) (fun h_40 => ?_) (fun h_40 => ?_)
      · refine lv_iconst (v := iI 0) hx hb dX13_byKey_55 rfl ?_
        refine lv_goto (tgt := 70) hx hb dX13_byKey_56 (by decide) ?_
        exact J70 0 H locs ls (by omega) hP hD hS hl
      · refine lv_iconst (v := iI 1) hx hb dX13_byKey_51 rfl ?_
        refine lv_goto (tgt := 70) hx hb dX13_byKey_52 (by decide) ?_
        exact J70 1 H locs ls (by omega) hP hD hS hl
  refine xr_icmp_ne (tgt := 32) hx hb dX13_byKey_25 (by decide) (by omega) (by omega) (fun h_41 => ?_) (fun h_41 => ?_)
  · refine lv_iconst (v := iI 0) hx hb dX13_byKey_32 rfl ?_
    exact J33 0 H locs ls (by omega) hP hD hS hl
  · refine lv_iconst (v := iI 1) hx hb dX13_byKey_28 rfl ?_
    refine lv_goto (tgt := 33) hx hb dX13_byKey_29 (by decide) ?_
    exact J33 1 H locs ls (by omega) hP hD hS hl
set_option maxHeartbeats 2000000 in
set_option maxRecDepth 100000 in
theorem sX13_volumeOf (l : Launch) (dC : Nat → ClassId) (dI : Nat → Nat → Nat) (sz : Nat) (ad : Nat → Nat) (ca : Nat → ClassId) (g : Nat → Int) (a : Nat → Int → Int) (p1 : Int) (hI : mI g a) (q1 : rg p1) (k1 : 0 ≤ p1 ∧ p1 < 60) (hrSh : rSh g a) : Met l yX13_volumeOf (jk yX13_volumeOf cX13_volumeOf 3 (some .int)) ({ frames := 6, cells := 0, slots := 0, locals := 150 }) (va_Pc [.ref (ad 0), .int (iI p1)] (jw_P (dC, dI) (mG ad ca g a) (mT ca) sz)) (va_Qi (fun (r : Int32) (u : (Nat → Int) × (Nat → Int → Int)) => ∃ z : Int, r = iI z ∧ (u.1 = g) ∧ (mI u.1 u.2) ∧ (∀ j, j ∉ ([63, 64] : List Nat) → u.2 j = a j) ∧ (0 ≤ z ∧ z ≤ 6)) (fun u t => va_P (dC, dI) vwCl (mG ad ca u.1 u.2) t.heap ∧ va_K (dC, dI) vwCl (mT ca) t ∧ va_D (va_A (mG ad ca g a) sz) (mG ad ca u.1 u.2)) (va_A (mG ad ca g a) sz)) 0 0 (va_A (mG ad ca g a) sz) := by
  refine Met.ofW (cc := cX13_volumeOf) (maxL := 3) (ret := (some .int)) (by decide) rfl ?_
  intro p e s m args below meth c s₁ B hml hv
  obtain ⟨rfl, hsz, hP, hK, hD0⟩ := hv
  have hx := B.exec
  have hb := B.bytes
  have hr := B.returns
  have hts := atoms_spec (ws := (jk yX13_volumeOf cX13_volumeOf 3 (some .int))) B.pre
  have hj : ∀ w ∈ jw, w.before ([.ref (ad 0), .int (iI p1)] : List Value).toArray s = true := fun w h => hts w (jm h)
  have hown : s.vm.findClass RX13 = some m.cls := findClass_of_methodNamed B.named
  subst hsz
  have hD := hD0.self (sz := s.heap.size)
  generalize hAe : (va_A (mG ad ca g a) s.heap.size) = A at hD ⊢
  have hA : ∀ q : Nat, s.heap.size ≤ q → A q := fun q h => by rw [← hAe]; exact Or.inr h
  have hS : va_S A s.heap s.heap [] := va_S.rf
  have hP : va_P (dC, dI) vwCl (mG ad ca g a) s.heap := hP
  have haA : ∀ j, j ∉ ([63, 64] : List Nat) → a j = a j := fun _ _ => rfl
  have hl := lv_entry ([.ref (ad 0), .int (iI p1)]) (n := 3) (Nat.le_of_ble_eq_true rfl)
  rw [lg_entry_eq]
  generalize (lg_sl ([.ref (ad 0), .int (iI p1)]) ++ List.replicate (3 - (lg_sl ([.ref (ad 0), .int (iI p1)])).length) Slot.unset).toArray = ls at hl ⊢
  have hl : lv_has ls 3 [(0, .ref (ad 0)), (1, .int (iI p1))] := hl
  generalize hQ : MQ below (va_Qi (fun (r : Int32) (u : (Nat → Int) × (Nat → Int → Int)) => ∃ z : Int, r = iI z ∧ (u.1 = g) ∧ (mI u.1 u.2) ∧ (∀ j, j ∉ ([63, 64] : List Nat) → u.2 j = a j) ∧ (0 ≤ z ∧ z ≤ 6)) (fun u t => va_P (dC, dI) vwCl (mG ad ca u.1 u.2) t.heap ∧ va_K (dC, dI) vwCl (mT ca) t ∧ va_D A (mG ad ca u.1 u.2)) A) ([.ref (ad 0), .int (iI p1)] : List Value).toArray s 0 0 A = Q
  suffices ST : ∀ (H : Heap) (locs : List Loc), va_P (dC, dI) vwCl (mG ad ca g a) H → va_S A s.heap H locs → W p l e ({ frames := 6, cells := 0, slots := 0, locals := 150 }) s m ([.ref (ad 0), .int (iI p1)] : List Value).toArray below meth c H locs 0 0 Q (F0 m 0 ls []) from ST _ _ hP hS
  clear hP hS
  intro H locs hP hS
  refine lv_aload_n hx hb dX13_volumeOf_0 rfl (lv_at hl 0 rfl) ?_
  refine gf_setWith hx hb hj hown hK hP dX13_volumeOf_1 ?_
  refine lv_iload_n hx hb dX13_volumeOf_4 rfl (lv_at hl 1 rfl) ?_
  refine ld_setWith hx hb hK hP hI (by omega) (by omega) dX13_volumeOf_5 (fun h_1 => ?_)
  refine lv_iconst (v := iI (-1)) hx hb dX13_volumeOf_6 rfl ?_
  refine xr_icmp_eq (tgt := 17) hx hb dX13_volumeOf_7 (by decide) (by omega) (by omega) (fun h_2 => ?_) (fun h_2 => ?_)
  · refine lv_aload_n hx hb dX13_volumeOf_17 rfl (lv_at hl 0 rfl) ?_
    refine gf_isLater hx hb hj hown hK hP dX13_volumeOf_18 ?_
    refine lv_iload_n hx hb dX13_volumeOf_21 rfl (lv_at hl 1 rfl) ?_
    refine ld_isLater hx hb hK hP hI (by omega) (by omega) dX13_volumeOf_22 (fun h_3 => ?_)
    refine xr_if_eq (tgt := 29) hx hb dX13_volumeOf_23 (by decide) (by omega) (fun h_4 => ?_) (fun h_4 => ?_)
    · refine lv_aload_n hx hb dX13_volumeOf_29 rfl (lv_at hl 0 rfl) ?_
      refine lv_iload_n hx hb dX13_volumeOf_30 rfl (lv_at hl 1 rfl) ?_
      refine jcg_i (va_runV (As := [.int (iI p1)]) (rest := []) ⟨hx, hb, hml, hown, hts⟩ (sX13_byKey l dC dI _ ad ca g a p1 hI (by omega) (by omega) hrSh) (cwV 1 hts (jgoodV m_256 m_302 m_303 m_503 m_116) rfl rfl rfl (by decide +kernel) ⟨(Nat.le_of_ble_eq_true rfl), (Nat.le_of_ble_eq_true rfl)⟩) ⟨jw_blind, va_recv hK hP (ci := 13) (q0 := 0) rfl rfl, fun U hU hW => ⟨rfl, jw_of hU hW hP hK hD⟩⟩ rfl rfl hl.1 rfl (lv_room (Nat.le_of_ble_eq_true rfl)) dX13_volumeOf_31 ⟨(Nat.le_of_ble_eq_true rfl), (Nat.le_of_ble_eq_true rfl)⟩) hD hS hA (fun r_5 u_11 H locs w_6 hP hK hD hS => ?_)
      obtain ⟨g_9, a_10⟩ := u_11
      obtain ⟨z_7, rfl, e_13, hI, hfr_12, h_8⟩ := w_6
      have hP : va_P (dC, dI) vwCl (mG ad ca g_9 a_10) H := hP
      have hD : va_D A (mG ad ca g_9 a_10) := hD
      have e_13 : g = g_9 := e_13.symm
      subst e_13
      have haA : ∀ j, j ∉ ([63, 64] : List Nat) → a_10 j = a j := fun j h => (hfr_12 j (fun q => h (by first | exact q | (simp only [List.mem_cons, List.not_mem_nil, or_false] at q ⊢ <;> omega)))).trans (haA j h)
      refine lv_istore_n (lv' := [(2, .int (iI z_7)), (0, .ref (ad 0)), (1, .int (iI p1))]) hx hb dX13_volumeOf_34 rfl hl (by decide) rfl (fun ls hl => ?_)
      refine lv_aload_n hx hb dX13_volumeOf_35 rfl (lv_at hl 1 rfl) ?_
      refine gf_isSet hx hb hj hown hK hP dX13_volumeOf_36 ?_
      refine lv_iload_n hx hb dX13_volumeOf_39 rfl (lv_at hl 0 rfl) ?_
      refine ld_isSet hx hb hK hP hI (by omega) (by omega) dX13_volumeOf_40 (fun h_14 => ?_)
      refine xr_if_eq (tgt := 49) hx hb dX13_volumeOf_41 (by decide) (by omega) (fun h_15 => ?_) (fun h_15 => ?_)
      · refine lv_iload_n hx hb dX13_volumeOf_49 rfl (lv_at hl 0 rfl) ?_
        rw [← hQ]
        exact W.iret (v := iI z_7) hx hb hr (fun t ht hW => ⟨⟨iI z_7, (g, a_10), rfl, ⟨z_7, rfl, rfl, hI, haA, by omega⟩, by rw [ht]; exact hP, va_K.moved hW.alike hK, hD⟩, hS.F ht⟩) hS.2.2 dX13_volumeOf_50
      · refine lv_bipush (v := iI 6) hx hb dX13_volumeOf_44 rfl ?_
        refine lv_goto (tgt := 50) hx hb dX13_volumeOf_46 (by decide) ?_
        rw [← hQ]
        exact W.iret (v := iI 6) hx hb hr (fun t ht hW => ⟨⟨iI 6, (g, a_10), rfl, ⟨6, rfl, rfl, hI, haA, by omega⟩, by rw [ht]; exact hP, va_K.moved hW.alike hK, hD⟩, hS.F ht⟩) hS.2.2 dX13_volumeOf_50
    · refine lv_bipush (v := iI 6) hx hb dX13_volumeOf_26 rfl ?_
      rw [← hQ]
      exact W.iret (v := iI 6) hx hb hr (fun t ht hW => ⟨⟨iI 6, (g, a), rfl, ⟨6, rfl, rfl, hI, haA, by omega⟩, by rw [ht]; exact hP, va_K.moved hW.alike hK, hD⟩, hS.F ht⟩) hS.2.2 dX13_volumeOf_28
  · refine lv_aload_n hx hb dX13_volumeOf_10 rfl (lv_at hl 0 rfl) ?_
    refine gf_setWith hx hb hj hown hK hP dX13_volumeOf_11 ?_
    refine lv_iload_n hx hb dX13_volumeOf_14 rfl (lv_at hl 1 rfl) ?_
    refine ld_setWith hx hb hK hP hI (by omega) (by omega) dX13_volumeOf_15 (fun h_16 => ?_)
    rw [← hQ]
    exact W.iret (v := iI (a 35 p1)) hx hb hr (fun t ht hW => ⟨⟨iI (a 35 p1), (g, a), rfl, ⟨a 35 p1, rfl, rfl, hI, haA, by omega⟩, by rw [ht]; exact hP, va_K.moved hW.alike hK, hD⟩, hS.F ht⟩) hS.2.2 dX13_volumeOf_16
set_option maxHeartbeats 2000000 in
set_option maxRecDepth 100000 in
theorem sX13_volume (l : Launch) (dC : Nat → ClassId) (dI : Nat → Nat → Nat) (sz : Nat) (ad : Nat → Nat) (ca : Nat → ClassId) (g : Nat → Int) (a : Nat → Int → Int) (p1 : Int) (hI : mI g a) (q1 : rg p1) (hrSh : rSh g a) : Met l yX13_volume (jk yX13_volume cX13_volume 2 (some .int)) ({ frames := 7, cells := 0, slots := 0, locals := 172 }) (va_Pc [.ref (ad 0), .int (iI p1)] (jw_P (dC, dI) (mG ad ca g a) (mT ca) sz)) (va_Qi (fun (r : Int32) (u : (Nat → Int) × (Nat → Int → Int)) => ∃ z : Int, r = iI z ∧ (u.1 = g) ∧ (mI u.1 u.2) ∧ (∀ j, j ∉ ([63, 64] : List Nat) → u.2 j = a j) ∧ (rg z)) (fun u t => va_P (dC, dI) vwCl (mG ad ca u.1 u.2) t.heap ∧ va_K (dC, dI) vwCl (mT ca) t ∧ va_D (va_A (mG ad ca g a) sz) (mG ad ca u.1 u.2)) (va_A (mG ad ca g a) sz)) 0 0 (va_A (mG ad ca g a) sz) := by
  refine Met.ofW (cc := cX13_volume) (maxL := 2) (ret := (some .int)) (by decide) rfl ?_
  intro p e s m args below meth c s₁ B hml hv
  obtain ⟨rfl, hsz, hP, hK, hD0⟩ := hv
  have hx := B.exec
  have hb := B.bytes
  have hr := B.returns
  have hts := atoms_spec (ws := (jk yX13_volume cX13_volume 2 (some .int))) B.pre
  have hj : ∀ w ∈ jw, w.before ([.ref (ad 0), .int (iI p1)] : List Value).toArray s = true := fun w h => hts w (jm h)
  have hown : s.vm.findClass RX13 = some m.cls := findClass_of_methodNamed B.named
  subst hsz
  have hD := hD0.self (sz := s.heap.size)
  generalize hAe : (va_A (mG ad ca g a) s.heap.size) = A at hD ⊢
  have hA : ∀ q : Nat, s.heap.size ≤ q → A q := fun q h => by rw [← hAe]; exact Or.inr h
  have hS : va_S A s.heap s.heap [] := va_S.rf
  have hP : va_P (dC, dI) vwCl (mG ad ca g a) s.heap := hP
  have haA : ∀ j, j ∉ ([63, 64] : List Nat) → a j = a j := fun _ _ => rfl
  have hl := lv_entry ([.ref (ad 0), .int (iI p1)]) (n := 2) (Nat.le_of_ble_eq_true rfl)
  rw [lg_entry_eq]
  generalize (lg_sl ([.ref (ad 0), .int (iI p1)]) ++ List.replicate (2 - (lg_sl ([.ref (ad 0), .int (iI p1)])).length) Slot.unset).toArray = ls at hl ⊢
  have hl : lv_has ls 2 [(0, .ref (ad 0)), (1, .int (iI p1))] := hl
  generalize hQ : MQ below (va_Qi (fun (r : Int32) (u : (Nat → Int) × (Nat → Int → Int)) => ∃ z : Int, r = iI z ∧ (u.1 = g) ∧ (mI u.1 u.2) ∧ (∀ j, j ∉ ([63, 64] : List Nat) → u.2 j = a j) ∧ (rg z)) (fun u t => va_P (dC, dI) vwCl (mG ad ca u.1 u.2) t.heap ∧ va_K (dC, dI) vwCl (mT ca) t ∧ va_D A (mG ad ca u.1 u.2)) A) ([.ref (ad 0), .int (iI p1)] : List Value).toArray s 0 0 A = Q
  suffices ST : ∀ (H : Heap) (locs : List Loc), va_P (dC, dI) vwCl (mG ad ca g a) H → va_S A s.heap H locs → W p l e ({ frames := 7, cells := 0, slots := 0, locals := 172 }) s m ([.ref (ad 0), .int (iI p1)] : List Value).toArray below meth c H locs 0 0 Q (F0 m 0 ls []) from ST _ _ hP hS
  clear hP hS
  intro H locs hP hS
  refine lv_aload_n hx hb dX13_volume_0 rfl (lv_at hl 0 rfl) ?_
  refine lv_iload_n hx hb dX13_volume_1 rfl (lv_at hl 1 rfl) ?_
  refine jc_i (va_runV (As := [.int (iI p1)]) (rest := []) ⟨hx, hb, hml, hown, hts⟩ (sX13_isEntry l dC dI _ ad ca g a p1 hI (by omega)) (cwV 1 hts (jgoodV m_253 m_378 m_379 m_503 m_155) rfl rfl rfl (by decide +kernel) ⟨(Nat.le_of_ble_eq_true rfl), (Nat.le_of_ble_eq_true rfl)⟩) ⟨jw_blind, va_recv hK hP (ci := 13) (q0 := 0) rfl rfl, fun U hU hW => ⟨rfl, jw_of hU hW hP hK hD⟩⟩ rfl rfl hl.1 rfl (lv_room (Nat.le_of_ble_eq_true rfl)) dX13_volume_2 ⟨(Nat.le_of_ble_eq_true rfl), (Nat.le_of_ble_eq_true rfl)⟩) hP hS hA (fun r_1 H locs w_2 hP hS => ?_)
  obtain ⟨z_3, rfl, h_4, h_5⟩ := w_2
  have b_6 : 0 ≤ g 37 ∧ g 37 ≤ 60 := hI.1 37
  refine xr_if_eq (tgt := 16) hx hb dX13_volume_5 (by decide) (by omega) (fun h_7 => ?_) (fun h_7 => ?_)
  · refine lv_iconst (v := iI (-1)) hx hb dX13_volume_16 rfl ?_
    rw [← hQ]
    exact W.iret (v := iI (-1)) hx hb hr (fun t ht hW => ⟨⟨iI (-1), (g, a), rfl, ⟨(-1), rfl, rfl, hI, haA, by omega⟩, by rw [ht]; exact hP, va_K.moved hW.alike hK, hD⟩, hS.F ht⟩) hS.2.2 dX13_volume_17
  · refine lv_aload_n hx hb dX13_volume_8 rfl (lv_at hl 0 rfl) ?_
    refine lv_iload_n hx hb dX13_volume_9 rfl (lv_at hl 1 rfl) ?_
    refine jcg_i (va_runV (As := [.int (iI p1)]) (rest := []) ⟨hx, hb, hml, hown, hts⟩ (sX13_volumeOf l dC dI _ ad ca g a p1 hI (by omega) (by omega) hrSh) (cwV 1 hts (jgoodV m_257 m_494 m_495 m_503 m_215) rfl rfl rfl (by decide +kernel) ⟨(Nat.le_of_ble_eq_true rfl), (Nat.le_of_ble_eq_true rfl)⟩) ⟨jw_blind, va_recv hK hP (ci := 13) (q0 := 0) rfl rfl, fun U hU hW => ⟨rfl, jw_of hU hW hP hK hD⟩⟩ rfl rfl hl.1 rfl (lv_room (Nat.le_of_ble_eq_true rfl)) dX13_volume_10 ⟨(Nat.le_of_ble_eq_true rfl), (Nat.le_of_ble_eq_true rfl)⟩) hD hS hA (fun r_8 u_14 H locs w_9 hP hK hD hS => ?_)
    obtain ⟨g_12, a_13⟩ := u_14
    obtain ⟨z_10, rfl, e_16, hI, hfr_15, h_11⟩ := w_9
    have hP : va_P (dC, dI) vwCl (mG ad ca g_12 a_13) H := hP
    have hD : va_D A (mG ad ca g_12 a_13) := hD
    have e_16 : g = g_12 := e_16.symm
    subst e_16
    have haA : ∀ j, j ∉ ([63, 64] : List Nat) → a_13 j = a j := fun j h => (hfr_15 j (fun q => h (by first | exact q | (simp only [List.mem_cons, List.not_mem_nil, or_false] at q ⊢ <;> omega)))).trans (haA j h)
    refine lv_goto (tgt := 17) hx hb dX13_volume_13 (by decide) ?_
    rw [← hQ]
    exact W.iret (v := iI z_10) hx hb hr (fun t ht hW => ⟨⟨iI z_10, (g, a_13), rfl, ⟨z_10, rfl, rfl, hI, haA, by omega⟩, by rw [ht]; exact hP, va_K.moved hW.alike hK, hD⟩, hS.F ht⟩) hS.2.2 dX13_volume_17
set_option maxHeartbeats 2000000 in
set_option maxRecDepth 100000 in
theorem sX13_canGo (l : Launch) (dC : Nat → ClassId) (dI : Nat → Nat → Nat) (sz : Nat) (ad : Nat → Nat) (ca : Nat → ClassId) (g : Nat → Int) (a : Nat → Int → Int) (p1 : Int) (hI : mI g a) (q1 : rg p1) (hrSh : rSh g a) : Met l yX13_canGo (jk yX13_canGo cX13_canGo 2 (some .boolean)) ({ frames := 7, cells := 0, slots := 0, locals := 172 }) (va_Pc [.ref (ad 0), .int (iI p1)] (jw_P (dC, dI) (mG ad ca g a) (mT ca) sz)) (va_Qi (fun (r : Int32) (u : (Nat → Int) × (Nat → Int → Int)) => ∃ z : Int, r = iI z ∧ (u.1 = g) ∧ (mI u.1 u.2) ∧ (∀ j, j ∉ ([63, 64] : List Nat) → u.2 j = a j) ∧ (0 ≤ z ∧ z ≤ 1) ∧ (z = 0 ∨ (0 ≤ p1 ∧ p1 < g 37))) (fun u t => va_P (dC, dI) vwCl (mG ad ca u.1 u.2) t.heap ∧ va_K (dC, dI) vwCl (mT ca) t ∧ va_D (va_A (mG ad ca g a) sz) (mG ad ca u.1 u.2)) (va_A (mG ad ca g a) sz)) 0 0 (va_A (mG ad ca g a) sz) := by
  refine Met.ofW (cc := cX13_canGo) (maxL := 2) (ret := (some .boolean)) (by decide) rfl ?_
  intro p e s m args below meth c s₁ B hml hv
  obtain ⟨rfl, hsz, hP, hK, hD0⟩ := hv
  have hx := B.exec
  have hb := B.bytes
  have hr := B.returns
  have hts := atoms_spec (ws := (jk yX13_canGo cX13_canGo 2 (some .boolean))) B.pre
  have hj : ∀ w ∈ jw, w.before ([.ref (ad 0), .int (iI p1)] : List Value).toArray s = true := fun w h => hts w (jm h)
  have hown : s.vm.findClass RX13 = some m.cls := findClass_of_methodNamed B.named
  subst hsz
  have hD := hD0.self (sz := s.heap.size)
  generalize hAe : (va_A (mG ad ca g a) s.heap.size) = A at hD ⊢
  have hA : ∀ q : Nat, s.heap.size ≤ q → A q := fun q h => by rw [← hAe]; exact Or.inr h
  have hS : va_S A s.heap s.heap [] := va_S.rf
  have hP : va_P (dC, dI) vwCl (mG ad ca g a) s.heap := hP
  have haA : ∀ j, j ∉ ([63, 64] : List Nat) → a j = a j := fun _ _ => rfl
  have hl := lv_entry ([.ref (ad 0), .int (iI p1)]) (n := 2) (Nat.le_of_ble_eq_true rfl)
  rw [lg_entry_eq]
  generalize (lg_sl ([.ref (ad 0), .int (iI p1)]) ++ List.replicate (2 - (lg_sl ([.ref (ad 0), .int (iI p1)])).length) Slot.unset).toArray = ls at hl ⊢
  have hl : lv_has ls 2 [(0, .ref (ad 0)), (1, .int (iI p1))] := hl
  generalize hQ : MQ below (va_Qi (fun (r : Int32) (u : (Nat → Int) × (Nat → Int → Int)) => ∃ z : Int, r = iI z ∧ (u.1 = g) ∧ (mI u.1 u.2) ∧ (∀ j, j ∉ ([63, 64] : List Nat) → u.2 j = a j) ∧ (0 ≤ z ∧ z ≤ 1) ∧ (z = 0 ∨ (0 ≤ p1 ∧ p1 < g 37))) (fun u t => va_P (dC, dI) vwCl (mG ad ca u.1 u.2) t.heap ∧ va_K (dC, dI) vwCl (mT ca) t ∧ va_D A (mG ad ca u.1 u.2)) A) ([.ref (ad 0), .int (iI p1)] : List Value).toArray s 0 0 A = Q
  suffices ST : ∀ (H : Heap) (locs : List Loc), va_P (dC, dI) vwCl (mG ad ca g a) H → va_S A s.heap H locs → W p l e ({ frames := 7, cells := 0, slots := 0, locals := 172 }) s m ([.ref (ad 0), .int (iI p1)] : List Value).toArray below meth c H locs 0 0 Q (F0 m 0 ls []) from ST _ _ hP hS
  clear hP hS
  intro H locs hP hS
  refine lv_aload_n hx hb dX13_canGo_0 rfl (lv_at hl 0 rfl) ?_
  refine lv_iload_n hx hb dX13_canGo_1 rfl (lv_at hl 1 rfl) ?_
  refine jc_i (va_runV (As := [.int (iI p1)]) (rest := []) ⟨hx, hb, hml, hown, hts⟩ (sX13_isEntry l dC dI _ ad ca g a p1 hI (by omega)) (cwV 1 hts (jgoodV m_253 m_378 m_379 m_503 m_155) rfl rfl rfl (by decide +kernel) ⟨(Nat.le_of_ble_eq_true rfl), (Nat.le_of_ble_eq_true rfl)⟩) ⟨jw_blind, va_recv hK hP (ci := 13) (q0 := 0) rfl rfl, fun U hU hW => ⟨rfl, jw_of hU hW hP hK hD⟩⟩ rfl rfl hl.1 rfl (lv_room (Nat.le_of_ble_eq_true rfl)) dX13_canGo_2 ⟨(Nat.le_of_ble_eq_true rfl), (Nat.le_of_ble_eq_true rfl)⟩) hP hS hA (fun r_1 H locs w_2 hP hS => ?_)
  obtain ⟨z_3, rfl, h_4, h_5⟩ := w_2
  have b_6 : 0 ≤ g 37 ∧ g 37 ≤ 60 := hI.1 37
  refine xr_if_eq (tgt := 41) hx hb dX13_canGo_5 (by decide) (by omega) (fun h_7 => ?_) (fun h_7 => ?_)
  · refine lv_iconst (v := iI 0) hx hb dX13_canGo_41 rfl ?_
    rw [← hQ]
    exact W.zret (v := iI 0) (ty := .boolean) hx hb hr (nb_bool (by omega) (by omega)) (fun t ht hW => ⟨⟨iI 0, (g, a), rfl, ⟨0, rfl, rfl, hI, haA, by omega, by omega⟩, by rw [ht]; exact hP, va_K.moved hW.alike hK, hD⟩, hS.F ht⟩) hS.2.2 dX13_canGo_42
  · refine lv_aload_n hx hb dX13_canGo_8 rfl (lv_at hl 0 rfl) ?_
    refine gf_isStruck hx hb hj hown hK hP dX13_canGo_9 ?_
    refine lv_iload_n hx hb dX13_canGo_12 rfl (lv_at hl 1 rfl) ?_
    refine ld_isStruck hx hb hK hP hI (by omega) (by omega) dX13_canGo_13 (fun h_8 => ?_)
    refine xr_if_ne (tgt := 41) hx hb dX13_canGo_14 (by decide) (by omega) (fun h_9 => ?_) (fun h_9 => ?_)
    · refine lv_iconst (v := iI 0) hx hb dX13_canGo_41 rfl ?_
      rw [← hQ]
      exact W.zret (v := iI 0) (ty := .boolean) hx hb hr (nb_bool (by omega) (by omega)) (fun t ht hW => ⟨⟨iI 0, (g, a), rfl, ⟨0, rfl, rfl, hI, haA, by omega, by omega⟩, by rw [ht]; exact hP, va_K.moved hW.alike hK, hD⟩, hS.F ht⟩) hS.2.2 dX13_canGo_42
    · refine lv_aload_n hx hb dX13_canGo_17 rfl (lv_at hl 0 rfl) ?_
      refine gf_setWith hx hb hj hown hK hP dX13_canGo_18 ?_
      refine lv_iload_n hx hb dX13_canGo_21 rfl (lv_at hl 1 rfl) ?_
      refine ld_setWith hx hb hK hP hI (by omega) (by omega) dX13_canGo_22 (fun h_10 => ?_)
      refine lv_iconst (v := iI (-1)) hx hb dX13_canGo_23 rfl ?_
      refine xr_icmp_ne (tgt := 41) hx hb dX13_canGo_24 (by decide) (by omega) (by omega) (fun h_11 => ?_) (fun h_11 => ?_)
      · refine lv_iconst (v := iI 0) hx hb dX13_canGo_41 rfl ?_
        rw [← hQ]
        exact W.zret (v := iI 0) (ty := .boolean) hx hb hr (nb_bool (by omega) (by omega)) (fun t ht hW => ⟨⟨iI 0, (g, a), rfl, ⟨0, rfl, rfl, hI, haA, by omega, by omega⟩, by rw [ht]; exact hP, va_K.moved hW.alike hK, hD⟩, hS.F ht⟩) hS.2.2 dX13_canGo_42
      · refine lv_aload_n hx hb dX13_canGo_27 rfl (lv_at hl 0 rfl) ?_
        refine lv_iload_n hx hb dX13_canGo_28 rfl (lv_at hl 1 rfl) ?_
        refine jcg_i (va_runV (As := [.int (iI p1)]) (rest := []) ⟨hx, hb, hml, hown, hts⟩ (sX13_volumeOf l dC dI _ ad ca g a p1 hI (by omega) (by omega) hrSh) (cwV 1 hts (jgoodV m_257 m_494 m_495 m_503 m_215) rfl rfl rfl (by decide +kernel) ⟨(Nat.le_of_ble_eq_true rfl), (Nat.le_of_ble_eq_true rfl)⟩) ⟨jw_blind, va_recv hK hP (ci := 13) (q0 := 0) rfl rfl, fun U hU hW => ⟨rfl, jw_of hU hW hP hK hD⟩⟩ rfl rfl hl.1 rfl (lv_room (Nat.le_of_ble_eq_true rfl)) dX13_canGo_29 ⟨(Nat.le_of_ble_eq_true rfl), (Nat.le_of_ble_eq_true rfl)⟩) hD hS hA (fun r_12 u_18 H locs w_13 hP hK hD hS => ?_)
        obtain ⟨g_16, a_17⟩ := u_18
        obtain ⟨z_14, rfl, e_20, hI, hfr_19, h_15⟩ := w_13
        have hP : va_P (dC, dI) vwCl (mG ad ca g_16 a_17) H := hP
        have hD : va_D A (mG ad ca g_16 a_17) := hD
        have e_20 : g = g_16 := e_20.symm
        subst e_20
        have haA : ∀ j, j ∉ ([63, 64] : List Nat) → a_17 j = a j := fun j h => (hfr_19 j (fun q => h (by first | exact q | (simp only [List.mem_cons, List.not_mem_nil, or_false] at q ⊢ <;> omega)))).trans (haA j h)
        refine lv_bipush (v := iI 6) hx hb dX13_canGo_32 rfl ?_
        refine xr_icmp_eq (tgt := 41) hx hb dX13_canGo_34 (by decide) (by omega) (by omega) (fun h_21 => ?_) (fun h_21 => ?_)
        · refine lv_iconst (v := iI 0) hx hb dX13_canGo_41 rfl ?_
          rw [← hQ]
          exact W.zret (v := iI 0) (ty := .boolean) hx hb hr (nb_bool (by omega) (by omega)) (fun t ht hW => ⟨⟨iI 0, (g, a_17), rfl, ⟨0, rfl, rfl, hI, haA, by omega, by omega⟩, by rw [ht]; exact hP, va_K.moved hW.alike hK, hD⟩, hS.F ht⟩) hS.2.2 dX13_canGo_42
        · refine lv_iconst (v := iI 1) hx hb dX13_canGo_37 rfl ?_
          refine lv_goto (tgt := 42) hx hb dX13_canGo_38 (by decide) ?_
          rw [← hQ]
          exact W.zret (v := iI 1) (ty := .boolean) hx hb hr (nb_bool (by omega) (by omega)) (fun t ht hW => ⟨⟨iI 1, (g, a_17), rfl, ⟨1, rfl, rfl, hI, haA, by omega, by omega⟩, by rw [ht]; exact hP, va_K.moved hW.alike hK, hD⟩, hS.F ht⟩) hS.2.2 dX13_canGo_42
set_option maxHeartbeats 2000000 in
set_option maxRecDepth 100000 in
theorem sX13_strike (l : Launch) (dC : Nat → ClassId) (dI : Nat → Nat → Nat) (sz : Nat) (ad : Nat → Nat) (ca : Nat → ClassId) (g : Nat → Int) (a : Nat → Int → Int) (p1 : Int) (hI : mI g a) (q1 : rg p1) (hrSh : rSh g a) : Met l yX13_strike (jk yX13_strike cX13_strike 2 (some .boolean)) ({ frames := 8, cells := 0, slots := 0, locals := 193 }) (va_Pc [.ref (ad 0), .int (iI p1)] (jw_P (dC, dI) (mG ad ca g a) (mT ca) sz)) (va_Qi (fun (r : Int32) (u : (Nat → Int) × (Nat → Int → Int)) => ∃ z : Int, r = iI z ∧ (u.1 = g) ∧ (mI u.1 u.2) ∧ (∀ j, j ∉ ([33, 63, 64] : List Nat) → u.2 j = a j) ∧ (0 ≤ z ∧ z ≤ 1)) (fun u t => va_P (dC, dI) vwCl (mG ad ca u.1 u.2) t.heap ∧ va_K (dC, dI) vwCl (mT ca) t ∧ va_D (va_A (mG ad ca g a) sz) (mG ad ca u.1 u.2)) (va_A (mG ad ca g a) sz)) 0 0 (va_A (mG ad ca g a) sz) := by
  refine Met.ofW (cc := cX13_strike) (maxL := 2) (ret := (some .boolean)) (by decide) rfl ?_
  intro p e s m args below meth c s₁ B hml hv
  obtain ⟨rfl, hsz, hP, hK, hD0⟩ := hv
  have hx := B.exec
  have hb := B.bytes
  have hr := B.returns
  have hts := atoms_spec (ws := (jk yX13_strike cX13_strike 2 (some .boolean))) B.pre
  have hj : ∀ w ∈ jw, w.before ([.ref (ad 0), .int (iI p1)] : List Value).toArray s = true := fun w h => hts w (jm h)
  have hown : s.vm.findClass RX13 = some m.cls := findClass_of_methodNamed B.named
  subst hsz
  have hD := hD0.self (sz := s.heap.size)
  generalize hAe : (va_A (mG ad ca g a) s.heap.size) = A at hD ⊢
  have hA : ∀ q : Nat, s.heap.size ≤ q → A q := fun q h => by rw [← hAe]; exact Or.inr h
  have hS : va_S A s.heap s.heap [] := va_S.rf
  have hP : va_P (dC, dI) vwCl (mG ad ca g a) s.heap := hP
  have haA : ∀ j, j ∉ ([33, 63, 64] : List Nat) → a j = a j := fun _ _ => rfl
  have hl := lv_entry ([.ref (ad 0), .int (iI p1)]) (n := 2) (Nat.le_of_ble_eq_true rfl)
  rw [lg_entry_eq]
  generalize (lg_sl ([.ref (ad 0), .int (iI p1)]) ++ List.replicate (2 - (lg_sl ([.ref (ad 0), .int (iI p1)])).length) Slot.unset).toArray = ls at hl ⊢
  have hl : lv_has ls 2 [(0, .ref (ad 0)), (1, .int (iI p1))] := hl
  generalize hQ : MQ below (va_Qi (fun (r : Int32) (u : (Nat → Int) × (Nat → Int → Int)) => ∃ z : Int, r = iI z ∧ (u.1 = g) ∧ (mI u.1 u.2) ∧ (∀ j, j ∉ ([33, 63, 64] : List Nat) → u.2 j = a j) ∧ (0 ≤ z ∧ z ≤ 1)) (fun u t => va_P (dC, dI) vwCl (mG ad ca u.1 u.2) t.heap ∧ va_K (dC, dI) vwCl (mT ca) t ∧ va_D A (mG ad ca u.1 u.2)) A) ([.ref (ad 0), .int (iI p1)] : List Value).toArray s 0 0 A = Q
  suffices ST : ∀ (H : Heap) (locs : List Loc), va_P (dC, dI) vwCl (mG ad ca g a) H → va_S A s.heap H locs → W p l e ({ frames := 8, cells := 0, slots := 0, locals := 193 }) s m ([.ref (ad 0), .int (iI p1)] : List Value).toArray below meth c H locs 0 0 Q (F0 m 0 ls []) from ST _ _ hP hS
  clear hP hS
  intro H locs hP hS
  refine lv_aload_n hx hb dX13_strike_0 rfl (lv_at hl 0 rfl) ?_
  refine lv_iload_n hx hb dX13_strike_1 rfl (lv_at hl 1 rfl) ?_
  refine jcg_i (va_runV (As := [.int (iI p1)]) (rest := []) ⟨hx, hb, hml, hown, hts⟩ (sX13_canGo l dC dI _ ad ca g a p1 hI (by omega) hrSh) (cwV 1 hts (jgoodV m_258 m_306 m_307 m_503 m_118) rfl rfl rfl (by decide +kernel) ⟨(Nat.le_of_ble_eq_true rfl), (Nat.le_of_ble_eq_true rfl)⟩) ⟨jw_blind, va_recv hK hP (ci := 13) (q0 := 0) rfl rfl, fun U hU hW => ⟨rfl, jw_of hU hW hP hK hD⟩⟩ rfl rfl hl.1 rfl (lv_room (Nat.le_of_ble_eq_true rfl)) dX13_strike_2 ⟨(Nat.le_of_ble_eq_true rfl), (Nat.le_of_ble_eq_true rfl)⟩) hD hS hA (fun r_1 u_8 H locs w_2 hP hK hD hS => ?_)
  obtain ⟨g_6, a_7⟩ := u_8
  obtain ⟨z_3, rfl, e_10, hI, hfr_9, h_4, h_5⟩ := w_2
  have hP : va_P (dC, dI) vwCl (mG ad ca g_6 a_7) H := hP
  have hD : va_D A (mG ad ca g_6 a_7) := hD
  have e_10 : g = g_6 := e_10.symm
  subst e_10
  have haA : ∀ j, j ∉ ([33, 63, 64] : List Nat) → a_7 j = a j := fun j h => (hfr_9 j (fun q => h (by first | exact q | (simp only [List.mem_cons, List.not_mem_nil, or_false] at q ⊢ <;> omega)))).trans (haA j h)
  have b_11 : 0 ≤ g 37 ∧ g 37 ≤ 60 := hI.1 37
  refine xr_if_ne (tgt := 10) hx hb dX13_strike_5 (by decide) (by omega) (fun h_12 => ?_) (fun h_12 => ?_)
  · refine lv_aload_n hx hb dX13_strike_10 rfl (lv_at hl 0 rfl) ?_
    refine gf_isStruck hx hb hj hown hK hP dX13_strike_11 ?_
    refine lv_iload_n hx hb dX13_strike_14 rfl (lv_at hl 1 rfl) ?_
    refine lv_iconst (v := iI 1) hx hb dX13_strike_15 rfl ?_
    refine st_isStruck hx hb hK hP hD hS hI (by omega) (by omega) (by omega) (by omega) dX13_strike_16 (fun a_13 H locs e_14 e_15 hI hP hD hS => ?_)
    have haA : ∀ j, j ∉ ([33, 63, 64] : List Nat) → a_13 j = a j := fun j h => (e_14 j (fun q => h (q ▸ (by decide : 33 ∈ ([33, 63, 64] : List Nat))))).trans (haA j h)
    refine lv_iconst (v := iI 1) hx hb dX13_strike_17 rfl ?_
    rw [← hQ]
    exact W.zret (v := iI 1) (ty := .boolean) hx hb hr (nb_bool (by omega) (by omega)) (fun t ht hW => ⟨⟨iI 1, (g, a_13), rfl, ⟨1, rfl, rfl, hI, haA, by omega⟩, by rw [ht]; exact hP, va_K.moved hW.alike hK, hD⟩, hS.F ht⟩) hS.2.2 dX13_strike_18
  · refine lv_iconst (v := iI 0) hx hb dX13_strike_8 rfl ?_
    rw [← hQ]
    exact W.zret (v := iI 0) (ty := .boolean) hx hb hr (nb_bool (by omega) (by omega)) (fun t ht hW => ⟨⟨iI 0, (g, a_7), rfl, ⟨0, rfl, rfl, hI, haA, by omega⟩, by rw [ht]; exact hP, va_K.moved hW.alike hK, hD⟩, hS.F ht⟩) hS.2.2 dX13_strike_9
