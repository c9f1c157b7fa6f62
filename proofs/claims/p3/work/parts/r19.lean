set_option maxHeartbeats 2000000 in
set_option maxRecDepth 100000 in
theorem sX13_key_q64 (l : Launch) (dC : Nat → ClassId) (dI : Nat → Nat → Nat) (sz : Nat) (ad : Nat → Nat) (ca : Nat → ClassId) (g : Nat → Int) (a : Nat → Int → Int) (p1 : Int) (p2 : Int) (p3 : Int) (hI : mI g a) (q1 : rg p1) (q2 : rg p2) (q3 : rg p3) (k1 : 0 ≤ p1 ∧ p1 < 60) (hrSh : rSh g a) : Met l yX13_key (jk yX13_key cX13_key 12 (some .int)) ({ frames := 4, cells := 0, slots := 0, locals := 93 }) (va_Pc [.ref (ad 0), .int (iI p1), .int (iI p2), .int (iI p3), .ref (ad 64)] (jw_P (dC, dI) (mG ad ca g a) (mT ca) sz)) (va_Qi (fun (r : Int32) (u : (Nat → Int) × (Nat → Int → Int)) => ∃ z : Int, r = iI z ∧ (u.1 = g) ∧ (mI u.1 u.2) ∧ (∀ j, j ∉ ([63, 64] : List Nat) → u.2 j = a j) ∧ (0 ≤ z ∧ z ≤ 12)) (fun u t => va_P (dC, dI) vwCl (mG ad ca u.1 u.2) t.heap ∧ va_K (dC, dI) vwCl (mT ca) t ∧ va_D (va_A (mG ad ca g a) sz) (mG ad ca u.1 u.2)) (va_A (mG ad ca g a) sz)) 0 0 (va_A (mG ad ca g a) sz) := by
  refine Met.ofW (cc := cX13_key) (maxL := 12) (ret := (some .int)) (by decide) rfl ?_
  intro p e s m args below meth c s₁ B hml hv
  obtain ⟨rfl, hsz, hP, hK, hD0⟩ := hv
  have hx := B.exec
  have hb := B.bytes
  have hr := B.returns
  have hts := atoms_spec (ws := (jk yX13_key cX13_key 12 (some .int))) B.pre
  have hj : ∀ w ∈ jw, w.before ([.ref (ad 0), .int (iI p1), .int (iI p2), .int (iI p3), .ref (ad 64)] : List Value).toArray s = true := fun w h => hts w (jm h)
  have hown : s.vm.findClass RX13 = some m.cls := findClass_of_methodNamed B.named
  subst hsz
  have hD := hD0.self (sz := s.heap.size)
  generalize hAe : (va_A (mG ad ca g a) s.heap.size) = A at hD ⊢
  have hA : ∀ q : Nat, s.heap.size ≤ q → A q := fun q h => by rw [← hAe]; exact Or.inr h
  have hS : va_S A s.heap s.heap [] := va_S.rf
  have hP : va_P (dC, dI) vwCl (mG ad ca g a) s.heap := hP
  have haA : ∀ j, j ∉ ([63, 64] : List Nat) → a j = a j := fun _ _ => rfl
  have hl := lv_entry ([.ref (ad 0), .int (iI p1), .int (iI p2), .int (iI p3), .ref (ad 64)]) (n := 12) (Nat.le_of_ble_eq_true rfl)
  rw [lg_entry_eq]
  generalize (lg_sl ([.ref (ad 0), .int (iI p1), .int (iI p2), .int (iI p3), .ref (ad 64)]) ++ List.replicate (12 - (lg_sl ([.ref (ad 0), .int (iI p1), .int (iI p2), .int (iI p3), .ref (ad 64)])).length) Slot.unset).toArray = ls at hl ⊢
  have hl : lv_has ls 12 [(0, .ref (ad 0)), (1, .int (iI p1)), (2, .int (iI p2)), (3, .int (iI p3)), (4, .ref (ad 64))] := hl
  generalize hQ : MQ below (va_Qi (fun (r : Int32) (u : (Nat → Int) × (Nat → Int → Int)) => ∃ z : Int, r = iI z ∧ (u.1 = g) ∧ (mI u.1 u.2) ∧ (∀ j, j ∉ ([63, 64] : List Nat) → u.2 j = a j) ∧ (0 ≤ z ∧ z ≤ 12)) (fun u t => va_P (dC, dI) vwCl (mG ad ca u.1 u.2) t.heap ∧ va_K (dC, dI) vwCl (mT ca) t ∧ va_D A (mG ad ca u.1 u.2)) A) ([.ref (ad 0), .int (iI p1), .int (iI p2), .int (iI p3), .ref (ad 64)] : List Value).toArray s 0 0 A = Q
  suffices ST : ∀ (H : Heap) (locs : List Loc), va_P (dC, dI) vwCl (mG ad ca g a) H → va_S A s.heap H locs → W p l e ({ frames := 4, cells := 0, slots := 0, locals := 93 }) s m ([.ref (ad 0), .int (iI p1), .int (iI p2), .int (iI p3), .ref (ad 64)] : List Value).toArray below meth c H locs 0 0 Q (F0 m 0 ls []) from ST _ _ hP hS
  clear hP hS
  intro H locs hP hS
  refine lv_aload_n hx hb dX13_key_0 rfl (lv_at hl 0 rfl) ?_
  refine lv_iconst (v := iI 0) hx hb dX13_key_1 rfl ?_
  refine lv_iload_n hx hb dX13_key_2 rfl (lv_at hl 2 rfl) ?_
  refine lv_aload_n hx hb dX13_key_3 rfl (lv_at hl 0 rfl) ?_
  refine gf_now hx hb hj hown hK hP hI dX13_key_4 (fun h_1 => ?_)
  refine jcg_i (va_runV (As := [.int (iI 0), .int (iI p2), .int (iI (g 30))]) (rest := []) ⟨hx, hb, hml, hown, hts⟩ (sX13_tells l dC dI _ ad ca g a 0 p2 (g 30) hI (by omega) (by omega) (by omega) (by omega) hrSh) (cwV 3 hts (jgoodV m_249 m_484 m_485 m_503 m_210) rfl rfl rfl (by decide +kernel) ⟨(Nat.le_of_ble_eq_true rfl), (Nat.le_of_ble_eq_true rfl)⟩) ⟨jw_blind, va_recv hK hP (ci := 13) (q0 := 0) rfl rfl, fun U hU hW => ⟨rfl, jw_of hU hW hP hK hD⟩⟩ rfl rfl hl.1 rfl (lv_room (Nat.le_of_ble_eq_true rfl)) dX13_key_7 ⟨(Nat.le_of_ble_eq_true rfl), (Nat.le_of_ble_eq_true rfl)⟩) hD hS hA (fun r_2 u_8 H locs w_3 hP hK hD hS => ?_)
  obtain ⟨g_6, a_7⟩ := u_8
  obtain ⟨z_4, rfl, e_10, hI, hfr_9, h_5⟩ := w_3
  have hP : va_P (dC, dI) vwCl (mG ad ca g_6 a_7) H := hP
  have hD : va_D A (mG ad ca g_6 a_7) := hD
  have e_10 : g = g_6 := e_10.symm
  subst e_10
  have haA : ∀ j, j ∉ ([63, 64] : List Nat) → a_7 j = a j := fun j h => (hfr_9 j (fun q => h (by first | exact q | (simp only [List.mem_cons, List.not_mem_nil, or_false] at q ⊢ <;> omega)))).trans (haA j h)
  refine lv_iconst (v := iI 1) hx hb dX13_key_10 rfl ?_
  have J19 : ∀ (s0_19 : Int) (H : Heap) (locs : List Loc) (ls : Array Slot), (0 ≤ s0_19 ∧ s0_19 ≤ 1) → va_P (dC, dI) vwCl (mG ad ca g a_7) H → va_D A (mG ad ca g a_7) → va_S A s.heap H locs → lv_has ls 12 [(0, .ref (ad 0)), (1, .int (iI p1)), (2, .int (iI p2)), (3, .int (iI p3)), (4, .ref (ad 64))] → W p l e ({ frames := 4, cells := 0, slots := 0, locals := 93 }) s m ([.ref (ad 0), .int (iI p1), .int (iI p2), .int (iI p3), .ref (ad 64)] : List Value).toArray below meth c H locs 0 0 Q (F0 m 19 ls [.int (iI s0_19)]) := by
    intro s0_19 H locs ls h_11 hP hD hS hl
    refine lv_iload_n hx hb dX13_key_19 rfl (lv_at hl 3 rfl) ?_
    refine lv_iconst (v := iI 3) hx hb dX13_key_20 rfl ?_
    have J29 : ∀ (s0_29 : Int) (H : Heap) (locs : List Loc) (ls : Array Slot), (0 ≤ s0_29 ∧ s0_29 ≤ 1) → va_P (dC, dI) vwCl (mG ad ca g a_7) H → va_D A (mG ad ca g a_7) → va_S A s.heap H locs → lv_has ls 12 [(0, .ref (ad 0)), (1, .int (iI p1)), (2, .int (iI p2)), (3, .int (iI p3)), (4, .ref (ad 64))] → W p l e ({ frames := 4, cells := 0, slots := 0, locals := 93 }) s m ([.ref (ad 0), .int (iI p1), .int (iI p2), .int (iI p3), .ref (ad 64)] : List Value).toArray below meth c H locs 0 0 Q (F0 m 29 ls [.int (iI s0_29), .int (iI s0_19)]) := by
      intro s0_29 H locs ls h_12 hP hD hS hl
      have J37 : ∀ (s0_37 : Int) (H : Heap) (locs : List Loc) (ls : Array Slot), (0 ≤ s0_37 ∧ s0_37 ≤ 1) → va_P (dC, dI) vwCl (mG ad ca g a_7) H → va_D A (mG ad ca g a_7) → va_S A s.heap H locs → lv_has ls 12 [(0, .ref (ad 0)), (1, .int (iI p1)), (2, .int (iI p2)), (3, .int (iI p3)), (4, .ref (ad 64))] → W p l e ({ frames := 4, cells := 0, slots := 0, locals := 93 }) s m ([.ref (ad 0), .int (iI p1), .int (iI p2), .int (iI p3), .ref (ad 64)] : List Value).toArray below meth c H locs 0 0 Q (F0 m 37 ls [.int (iI s0_37)]) := by
        intro s0_37 H locs ls h_13 hP hD hS hl
        refine lv_istore (lv' := [(5, .int (iI s0_37)), (0, .ref (ad 0)), (1, .int (iI p1)), (2, .int (iI p2)), (3, .int (iI p3)), (4, .ref (ad 64))]) hx hb dX13_key_37 hl (by decide) rfl (fun ls hl => ?_)
        refine lv_aload_n hx hb dX13_key_39 rfl (lv_at hl 1 rfl) ?_
        refine lv_iconst (v := iI 1) hx hb dX13_key_40 rfl ?_
        refine lv_iload_n hx hb dX13_key_41 rfl (lv_at hl 3 rfl) ?_
        refine lv_aload_n hx hb dX13_key_42 rfl (lv_at hl 1 rfl) ?_
        refine gf_now hx hb hj hown hK hP hI dX13_key_43 (fun h_14 => ?_)
        refine jcg_i (va_runV (As := [.int (iI 1), .int (iI p2), .int (iI (g 30))]) (rest := []) ⟨hx, hb, hml, hown, hts⟩ (sX13_tells l dC dI _ ad ca g a_7 1 p2 (g 30) hI (by omega) (by omega) (by omega) (by omega) (rSh_t rfl rfl (haA 9 (by decide)) (haA 10 (by decide)) (haA 11 (by decide)) (haA 12 (by decide)) (haA 16 (by decide)) hrSh)) (cwV 3 hts (jgoodV m_249 m_484 m_485 m_503 m_210) rfl rfl rfl (by decide +kernel) ⟨(Nat.le_of_ble_eq_true rfl), (Nat.le_of_ble_eq_true rfl)⟩) ⟨jw_blind, va_recv hK hP (ci := 13) (q0 := 0) rfl rfl, fun U hU hW => ⟨rfl, jw_of hU hW hP hK hD⟩⟩ rfl rfl hl.1 rfl (lv_room (Nat.le_of_ble_eq_true rfl)) dX13_key_46 ⟨(Nat.le_of_ble_eq_true rfl), (Nat.le_of_ble_eq_true rfl)⟩) hD hS hA (fun r_15 u_21 H locs w_16 hP hK hD hS => ?_)
        obtain ⟨g_19, a_20⟩ := u_21
        obtain ⟨z_17, rfl, e_23, hI, hfr_22, h_18⟩ := w_16
        have hP : va_P (dC, dI) vwCl (mG ad ca g_19 a_20) H := hP
        have hD : va_D A (mG ad ca g_19 a_20) := hD
        have e_23 : g = g_19 := e_23.symm
        subst e_23
        have haA : ∀ j, j ∉ ([63, 64] : List Nat) → a_20 j = a j := fun j h => (hfr_22 j (fun q => h (by first | exact q | (simp only [List.mem_cons, List.not_mem_nil, or_false] at q ⊢ <;> omega)))).trans (haA j h)
        refine lv_iconst (v := iI 1) hx hb dX13_key_49 rfl ?_
        have J58 : ∀ (s0_58 : Int) (H : Heap) (locs : List Loc) (ls : Array Slot), (0 ≤ s0_58 ∧ s0_58 ≤ 1) → va_P (dC, dI) vwCl (mG ad ca g a_20) H → va_D A (mG ad ca g a_20) → va_S A s.heap H locs → lv_has ls 12 [(5, .int (iI s0_37)), (0, .ref (ad 0)), (1, .int (iI p1)), (2, .int (iI p2)), (3, .int (iI p3)), (4, .ref (ad 64))] → W p l e ({ frames := 4, cells := 0, slots := 0, locals := 93 }) s m ([.ref (ad 0), .int (iI p1), .int (iI p2), .int (iI p3), .ref (ad 64)] : List Value).toArray below meth c H locs 0 0 Q (F0 m 58 ls [.int (iI s0_58)]) := by
          intro s0_58 H locs ls h_24 hP hD hS hl
          refine lv_iload_n hx hb dX13_key_58 rfl (lv_at hl 4 rfl) ?_
          refine lv_iconst (v := iI 2) hx hb dX13_key_59 rfl ?_
          have J68 : ∀ (s0_68 : Int) (H : Heap) (locs : List Loc) (ls : Array Slot), (0 ≤ s0_68 ∧ s0_68 ≤ 1) → va_P (dC, dI) vwCl (mG ad ca g a_20) H → va_D A (mG ad ca g a_20) → va_S A s.heap H locs → lv_has ls 12 [(5, .int (iI s0_37)), (0, .ref (ad 0)), (1, .int (iI p1)), (2, .int (iI p2)), (3, .int (iI p3)), (4, .ref (ad 64))] → W p l e ({ frames := 4, cells := 0, slots := 0, locals := 93 }) s m ([.ref (ad 0), .int (iI p1), .int (iI p2), .int (iI p3), .ref (ad 64)] : List Value).toArray below meth c H locs 0 0 Q (F0 m 68 ls [.int (iI s0_68), .int (iI s0_58)]) := by
            intro s0_68 H locs ls h_25 hP hD hS hl
            have J76 : ∀ (s0_76 : Int) (H : Heap) (locs : List Loc) (ls : Array Slot), (0 ≤ s0_76 ∧ s0_76 ≤ 1) → va_P (dC, dI) vwCl (mG ad ca g a_20) H → va_D A (mG ad ca g a_20) → va_S A s.heap H locs → lv_has ls 12 [(5, .int (iI s0_37)), (0, .ref (ad 0)), (1, .int (iI p1)), (2, .int (iI p2)), (3, .int (iI p3)), (4, .ref (ad 64))] → W p l e ({ frames := 4, cells := 0, slots := 0, locals := 93 }) s m ([.ref (ad 0), .int (iI p1), .int (iI p2), .int (iI p3), .ref (ad 64)] : List Value).toArray below meth c H locs 0 0 Q (F0 m 76 ls [.int (iI s0_76)]) := by
              intro s0_76 H locs ls h_26 hP hD hS hl
              refine lv_istore (lv' := [(6, .int (iI s0_76)), (5, .int (iI s0_37)), (0, .ref (ad 0)), (1, .int (iI p1)), (2, .int (iI p2)), (3, .int (iI p3)), (4, .ref (ad 64))]) hx hb dX13_key_76 hl (by decide) rfl (fun ls hl => ?_)
              refine lv_iconst (v := iI 0) hx hb dX13_key_78 rfl ?_
              refine lv_istore (lv' := [(7, .int (iI 0)), (6, .int (iI s0_76)), (5, .int (iI s0_37)), (0, .ref (ad 0)), (1, .int (iI p1)), (2, .int (iI p2)), (3, .int (iI p3)), (4, .ref (ad 64))]) hx hb dX13_key_79 hl (by decide) rfl (fun ls hl => ?_)
              have L81 : ∀ (n81 : Nat) (v7_81 : Int) (H : Heap) (locs : List Loc) (ls : Array Slot), (0 ≤ v7_81 ∧ v7_81 ≤ 2147483647) → (v7_81 ≤ 12) → (0 < (n81 : Int) ∧ (a_20 26 p1) - v7_81 < (n81 : Int)) → va_P (dC, dI) vwCl (mG ad ca g a_20) H → va_D A (mG ad ca g a_20) → va_S A s.heap H locs → lv_has ls 12 [(7, .int (iI v7_81)), (6, .int (iI s0_76)), (5, .int (iI s0_37)), (0, .ref (ad 0)), (1, .int (iI p1)), (2, .int (iI p2)), (3, .int (iI p3)), (4, .ref (ad 64))] → W p l e ({ frames := 4, cells := 0, slots := 0, locals := 93 }) s m ([.ref (ad 0), .int (iI p1), .int (iI p2), .int (iI p3), .ref (ad 64)] : List Value).toArray below meth c H locs 0 0 Q (F0 m 81 ls []) := by
                intro n81
                induction n81 with
                | zero =>
                  intro v7_81 H locs ls h_27 h_28 hm81 hP hD hS hl
                  exfalso; omega
                | succ n81 ih81 =>
                  intro v7_81 H locs ls h_29 h_30 hm81 hP hD hS hl
                  refine lv_iload hx hb dX13_key_81 (lv_at hl 0 rfl) ?_
                  refine lv_aload_n hx hb dX13_key_83 rfl (lv_at hl 3 rfl) ?_
                  refine gf_headingLong hx hb hj hown hK hP dX13_key_84 ?_
                  refine lv_iload_n hx hb dX13_key_87 rfl (lv_at hl 4 rfl) ?_
                  refine ld_headingLong hx hb hK hP hI (by omega) (by omega) dX13_key_88 (fun h_31 => ?_)
                  have J115 : ∀ (H : Heap) (locs : List Loc) (ls : Array Slot), va_P (dC, dI) vwCl (mG ad ca g a_20) H → va_D A (mG ad ca g a_20) → va_S A s.heap H locs → lv_has ls 12 [(7, .int (iI v7_81)), (6, .int (iI s0_76)), (5, .int (iI s0_37)), (0, .ref (ad 0)), (1, .int (iI p1)), (2, .int (iI p2)), (3, .int (iI p3)), (4, .ref (ad 64))] → W p l e ({ frames := 4, cells := 0, slots := 0, locals := 93 }) s m ([.ref (ad 0), .int (iI p1), .int (iI p2), .int (iI p3), .ref (ad 64)] : List Value).toArray below meth c H locs 0 0 Q (F0 m 115 ls []) := by
                    intro H locs ls hP hD hS hl
                    refine lv_iload_n hx hb dX13_key_115 rfl (lv_at hl 6 rfl) ?_
                    refine lv_iconst (v := iI 1) hx hb dX13_key_116 rfl ?_
                    have J147 : ∀ (s0_147 : Int) (H : Heap) (locs : List Loc) (ls : Array Slot), (0 ≤ s0_147 ∧ s0_147 ≤ 1) → va_P (dC, dI) vwCl (mG ad ca g a_20) H → va_D A (mG ad ca g a_20) → va_S A s.heap H locs → lv_has ls 12 [(7, .int (iI v7_81)), (6, .int (iI s0_76)), (5, .int (iI s0_37)), (0, .ref (ad 0)), (1, .int (iI p1)), (2, .int (iI p2)), (3, .int (iI p3)), (4, .ref (ad 64))] → W p l e ({ frames := 4, cells := 0, slots := 0, locals := 93 }) s m ([.ref (ad 0), .int (iI p1), .int (iI p2), .int (iI p3), .ref (ad 64)] : List Value).toArray below meth c H locs 0 0 Q (F0 m 147 ls [.int (iI s0_147)]) := by
                      intro s0_147 H locs ls h_32 hP hD hS hl
                      refine lv_istore (lv' := [(8, .int (iI s0_147)), (7, .int (iI v7_81)), (6, .int (iI s0_76)), (5, .int (iI s0_37)), (0, .ref (ad 0)), (1, .int (iI p1)), (2, .int (iI p2)), (3, .int (iI p3)), (4, .ref (ad 64))]) hx hb dX13_key_147 hl (by decide) rfl (fun ls hl => ?_)
                      refine lv_iload hx hb dX13_key_149 (lv_at hl 0 rfl) ?_
                      have J162 : ∀ (s0_162 : Int) (H : Heap) (locs : List Loc) (ls : Array Slot), ((-2147483648) ≤ s0_162 ∧ s0_162 ≤ 2147483647) → (0 ≤ s0_162 ∧ s0_162 ≤ 13) → va_P (dC, dI) vwCl (mG ad ca g a_20) H → va_D A (mG ad ca g a_20) → va_S A s.heap H locs → lv_has ls 12 [(8, .int (iI s0_147)), (7, .int (iI v7_81)), (6, .int (iI s0_76)), (5, .int (iI s0_37)), (0, .ref (ad 0)), (1, .int (iI p1)), (2, .int (iI p2)), (3, .int (iI p3)), (4, .ref (ad 64))] → W p l e ({ frames := 4, cells := 0, slots := 0, locals := 93 }) s m ([.ref (ad 0), .int (iI p1), .int (iI p2), .int (iI p3), .ref (ad 64)] : List Value).toArray below meth c H locs 0 0 Q (F0 m 162 ls [.int (iI s0_162)]) := by
                        intro s0_162 H locs ls h_33 h_34 hP hD hS hl
                        refine lv_istore (lv' := [(7, .int (iI s0_162)), (8, .int (iI s0_147)), (6, .int (iI s0_76)), (5, .int (iI s0_37)), (0, .ref (ad 0)), (1, .int (iI p1)), (2, .int (iI p2)), (3, .int (iI p3)), (4, .ref (ad 64))]) hx hb dX13_key_162 hl (by decide) rfl (fun ls hl => ?_)
                        refine lv_iconst (v := iI 0) hx hb dX13_key_164 rfl ?_
                        refine lv_istore (lv' := [(9, .int (iI 0)), (7, .int (iI s0_162)), (8, .int (iI s0_147)), (6, .int (iI s0_76)), (5, .int (iI s0_37)), (0, .ref (ad 0)), (1, .int (iI p1)), (2, .int (iI p2)), (3, .int (iI p3)), (4, .ref (ad 64))]) hx hb dX13_key_165 hl (by decide) rfl (fun ls hl => ?_)
                        refine lv_iload hx hb dX13_key_167 (lv_at hl 1 rfl) ?_
                        refine lv_istore (lv' := [(10, .int (iI s0_162)), (9, .int (iI 0)), (7, .int (iI s0_162)), (8, .int (iI s0_147)), (6, .int (iI s0_76)), (5, .int (iI s0_37)), (0, .ref (ad 0)), (1, .int (iI p1)), (2, .int (iI p2)), (3, .int (iI p3)), (4, .ref (ad 64))]) hx hb dX13_key_169 hl (by decide) rfl (fun ls hl => ?_)
                        have L171 : ∀ (n171 : Nat) (v10_171 v9_171 : Int) (a_171 : Nat → Int → Int) (H : Heap) (locs : List Loc) (ls : Array Slot), ((-2147483648) ≤ v10_171 ∧ v10_171 ≤ 2147483647) → ((-2147483648) ≤ v9_171 ∧ v9_171 ≤ 2147483647) → (0 ≤ v9_171 ∧ v9_171 ≤ v10_171 ∧ v9_171 ≤ 12) → (0 ≤ v10_171 ∧ v10_171 ≤ 13) → (mI g a_171) → (∀ j, j ∉ ([63, 64] : List Nat) → a_171 j = a j) → (0 < (n171 : Int) ∧ 13 - v10_171 < (n171 : Int)) → va_P (dC, dI) vwCl (mG ad ca g a_171) H → va_D A (mG ad ca g a_171) → va_S A s.heap H locs → lv_has ls 12 [(10, .int (iI v10_171)), (9, .int (iI v9_171)), (7, .int (iI s0_162)), (8, .int (iI s0_147)), (6, .int (iI s0_76)), (5, .int (iI s0_37)), (0, .ref (ad 0)), (1, .int (iI p1)), (2, .int (iI p2)), (3, .int (iI p3)), (4, .ref (ad 64))] → W p l e ({ frames := 4, cells := 0, slots := 0, locals := 93 }) s m ([.ref (ad 0), .int (iI p1), .int (iI p2), .int (iI p3), .ref (ad 64)] : List Value).toArray below meth c H locs 0 0 Q (F0 m 171 ls []) := by
                          intro n171
                          induction n171 with
                          | zero =>
                            intro v10_171 v9_171 a_171 H locs ls h_35 h_36 h_37 h_38 hI haA hm171 hP hD hS hl
                            exfalso; omega
                          | succ n171 ih171 =>
                            intro v10_171 v9_171 a_171 H locs ls h_39 h_40 h_41 h_42 hI haA hm171 hP hD hS hl
                            refine lv_iload hx hb dX13_key_171 (lv_at hl 0 rfl) ?_
                            refine lv_aload_n hx hb dX13_key_173 rfl (lv_at hl 6 rfl) ?_
                            refine gf_headingLong hx hb hj hown hK hP dX13_key_174 ?_
                            refine lv_iload_n hx hb dX13_key_177 rfl (lv_at hl 7 rfl) ?_
                            refine ld_headingLong hx hb hK hP hI (by omega) (by omega) dX13_key_178 (fun h_43 => ?_)
                            refine xr_icmp_ge (tgt := 281) hx hb dX13_key_179 (by decide) (by omega) (by omega) (fun h_44 => ?_) (fun h_44 => ?_)
                            · refine lv_iload hx hb dX13_key_281 (lv_at hl 1 rfl) ?_
                              rw [← hQ]
                              exact W.iret (v := iI v9_171) hx hb hr (fun t ht hW => ⟨⟨iI v9_171, (g, a_171), rfl, ⟨v9_171, rfl, rfl, hI, haA, by omega⟩, by rw [ht]; exact hP, va_K.moved hW.alike hK, hD⟩, hS.F ht⟩) hS.2.2 dX13_key_283
                            · refine lv_aload_n hx hb dX13_key_182 rfl (lv_at hl 6 rfl) ?_
                              refine gf_heading hx hb hj hown hK hP dX13_key_183 ?_
                              refine lv_bipush (v := iI 12) hx hb dX13_key_186 rfl ?_
                              refine lv_iload_n hx hb dX13_key_188 rfl (lv_at hl 7 rfl) ?_
                              refine xr_mul hx hb dX13_key_189 ?_
                              refine lv_iload hx hb dX13_key_190 (lv_at hl 0 rfl) ?_
                              refine xr_add hx hb dX13_key_192 ?_
                              refine ld_heading hx hb hK hP hI (by omega) (by omega) dX13_key_193 (fun h_45 => ?_)
                              refine lv_istore (lv' := [(11, .int (iI (a_171 25 ((12 * p1) + v10_171)))), (10, .int (iI v10_171)), (9, .int (iI v9_171)), (7, .int (iI s0_162)), (8, .int (iI s0_147)), (6, .int (iI s0_76)), (5, .int (iI s0_37)), (0, .ref (ad 0)), (1, .int (iI p1)), (2, .int (iI p2)), (3, .int (iI p3)), (4, .ref (ad 64))]) hx hb dX13_key_194 hl (by decide) rfl (fun ls hl => ?_)
                              refine lv_iload hx hb dX13_key_196 (lv_at hl 0 rfl) ?_
                              refine lv_bipush (v := iI 32) hx hb dX13_key_198 rfl ?_
                              have J275 : ∀ (v9_275 : Int) (a_275 : Nat → Int → Int) (H : Heap) (locs : List Loc) (ls : Array Slot), ((-2147483648) ≤ v9_275 ∧ v9_275 ≤ 2147483647) → (0 ≤ v9_275 ∧ v9_275 ≤ v10_171 + 1 ∧ v9_275 ≤ 12) → (mI g a_275) → (∀ j, j ∉ ([63, 64] : List Nat) → a_275 j = a j) → va_P (dC, dI) vwCl (mG ad ca g a_275) H → va_D A (mG ad ca g a_275) → va_S A s.heap H locs → lv_has ls 12 [(11, .int (iI (a_171 25 ((12 * p1) + v10_171)))), (10, .int (iI v10_171)), (9, .int (iI v9_275)), (7, .int (iI s0_162)), (8, .int (iI s0_147)), (6, .int (iI s0_76)), (5, .int (iI s0_37)), (0, .ref (ad 0)), (1, .int (iI p1)), (2, .int (iI p2)), (3, .int (iI p3)), (4, .ref (ad 64))] → W p l e ({ frames := 4, cells := 0, slots := 0, locals := 93 }) s m ([.ref (ad 0), .int (iI p1), .int (iI p2), .int (iI p3), .ref (ad 64)] : List Value).toArray below meth c H locs 0 0 Q (F0 m 275 ls []) := by
                                intro v9_275 a_275 H locs ls h_46 h_47 hI haA hP hD hS hl
                                refine lv_iinc (v := iI (v10_171 + 1)) (lv' := [(10, .int (iI (v10_171 + 1))), (11, .int (iI (a_171 25 ((12 * p1) + v10_171)))), (9, .int (iI v9_275)), (7, .int (iI s0_162)), (8, .int (iI s0_147)), (6, .int (iI s0_76)), (5, .int (iI s0_37)), (0, .ref (ad 0)), (1, .int (iI p1)), (2, .int (iI p2)), (3, .int (iI p3)), (4, .ref (ad 64))]) hx hb dX13_key_275 hl (k := 1) rfl (iI_add _ _) (by decide) rfl (fun ls hl => ?_)
                                refine lv_goto (tgt := 171) hx hb dX13_key_278 (by decide) ?_
                                exact ih171 (v10_171 + 1) v9_275 a_275 H locs ls (by omega) (by omega) (by omega) (by omega) hI haA (by omega) hP hD hS (lv_sub hl [0, 2, 3, 4, 5, 6, 7, 8, 9, 10, 11] rfl)
                              have J211 : ∀ (H : Heap) (locs : List Loc) (ls : Array Slot), va_P (dC, dI) vwCl (mG ad ca g a_171) H → va_D A (mG ad ca g a_171) → va_S A s.heap H locs → lv_has ls 12 [(11, .int (iI (a_171 25 ((12 * p1) + v10_171)))), (10, .int (iI v10_171)), (9, .int (iI v9_171)), (7, .int (iI s0_162)), (8, .int (iI s0_147)), (6, .int (iI s0_76)), (5, .int (iI s0_37)), (0, .ref (ad 0)), (1, .int (iI p1)), (2, .int (iI p2)), (3, .int (iI p3)), (4, .ref (ad 64))] → W p l e ({ frames := 4, cells := 0, slots := 0, locals := 93 }) s m ([.ref (ad 0), .int (iI p1), .int (iI p2), .int (iI p3), .ref (ad 64)] : List Value).toArray below meth c H locs 0 0 Q (F0 m 211 ls []) := by
                                intro H locs ls hP hD hS hl
                                refine lv_aload hx hb dX13_key_211 (lv_at hl 11 rfl) ?_
                                refine lv_iload hx hb dX13_key_213 (lv_at hl 2 rfl) ?_
                                refine lv_iload hx hb dX13_key_215 (lv_at hl 0 rfl) ?_
                                refine lv_bipush (v := iI 32) hx hb dX13_key_217 rfl ?_
                                have J271 : ∀ (s0_271 : Int) (H : Heap) (locs : List Loc) (ls : Array Slot), ((-224) ≤ s0_271 ∧ s0_271 ≤ 106) → va_P (dC, dI) vwCl (mG ad ca g a_171) H → va_D A (mG ad ca g a_171) → va_S A s.heap H locs → lv_has ls 12 [(11, .int (iI (a_171 25 ((12 * p1) + v10_171)))), (10, .int (iI v10_171)), (9, .int (iI v9_171)), (7, .int (iI s0_162)), (8, .int (iI s0_147)), (6, .int (iI s0_76)), (5, .int (iI s0_37)), (0, .ref (ad 0)), (1, .int (iI p1)), (2, .int (iI p2)), (3, .int (iI p3)), (4, .ref (ad 64))] → W p l e ({ frames := 4, cells := 0, slots := 0, locals := 93 }) s m ([.ref (ad 0), .int (iI p1), .int (iI p2), .int (iI p3), .ref (ad 64)] : List Value).toArray below meth c H locs 0 0 Q (F0 m 271 ls [.int (iI s0_271), .int (iI v9_171), .ref (ad 64)]) := by
                                  intro s0_271 H locs ls h_48 hP hD hS hl
                                  refine sa_keyOne hx hb hK hP hD hS hI (by omega) (by omega) dX13_key_271 (fun a_49 z_52 H locs h_53 h_54 e_50 e_51 hI hP hD hS => ?_)
                                  have haA : ∀ j, j ∉ ([63, 64] : List Nat) → a_49 j = a j := fun j h => (e_50 j (fun q => h (q ▸ (by decide : 64 ∈ ([63, 64] : List Nat))))).trans (haA j h)
                                  refine lv_iinc (v := iI (v9_171 + 1)) (lv' := [(9, .int (iI (v9_171 + 1))), (11, .int (iI (a_171 25 ((12 * p1) + v10_171)))), (10, .int (iI v10_171)), (7, .int (iI s0_162)), (8, .int (iI s0_147)), (6, .int (iI s0_76)), (5, .int (iI s0_37)), (0, .ref (ad 0)), (1, .int (iI p1)), (2, .int (iI p2)), (3, .int (iI p3)), (4, .ref (ad 64))]) hx hb dX13_key_272 hl (k := 2) rfl (iI_add _ _) (by decide) rfl (fun ls hl => ?_)
                                  exact J275 (v9_171 + 1) a_49 H locs ls (by omega) (by omega) hI haA hP hD hS (lv_sub hl [1, 2, 0, 3, 4, 5, 6, 7, 8, 9, 10, 11] rfl)
                                refine xr_icmp_ne (tgt := 226) hx hb dX13_key_219 (by decide) (by omega) (by omega) (fun h_55 => ?_) (fun h_55 => ?_)
                                · refine lv_iload hx hb dX13_key_226 (lv_at hl 0 rfl) ?_
                                  refine jc_i (va_runS (As := [.int (iI (a_171 25 ((12 * p1) + v10_171)))]) (rest := [.int (iI v9_171), .ref (ad 64)]) ⟨hx, hb, hml, hown, hts⟩ (sX13_isDigit l dC dI _ (a_171 25 ((12 * p1) + v10_171)) (by omega)) (va_cwS 1 hts (jgoodS m_223 m_375 m_503 m_153) rfl rfl rfl (by decide +kernel) ⟨(Nat.le_of_ble_eq_true rfl), (Nat.le_of_ble_eq_true rfl)⟩) ⟨jw_blind0, fun U hU hW => ⟨rfl, congrArg Array.size hU⟩⟩ rfl rfl hl.1 rfl (lv_room (Nat.le_of_ble_eq_true rfl)) dX13_key_228 ⟨(Nat.le_of_ble_eq_true rfl), (Nat.le_of_ble_eq_true rfl)⟩) hP hS hA (fun r_56 H locs w_57 hP hS => ?_)
                                  obtain ⟨z_58, rfl, h_59, h_60⟩ := w_57
                                  refine xr_if_eq (tgt := 254) hx hb dX13_key_231 (by decide) (by omega) (fun h_61 => ?_) (fun h_61 => ?_)
                                  · refine lv_iload hx hb dX13_key_254 (lv_at hl 0 rfl) ?_
                                    refine lv_bipush (v := iI 97) hx hb dX13_key_256 rfl ?_
                                    refine xr_sub hx hb dX13_key_258 ?_
                                    refine lv_iload hx hb dX13_key_259 (lv_at hl 6 rfl) ?_
                                    have J270 : ∀ (s0_270 : Int) (H : Heap) (locs : List Loc) (ls : Array Slot), (1 ≤ s0_270 ∧ s0_270 ≤ 11) → va_P (dC, dI) vwCl (mG ad ca g a_171) H → va_D A (mG ad ca g a_171) → va_S A s.heap H locs → lv_has ls 12 [(11, .int (iI (a_171 25 ((12 * p1) + v10_171)))), (10, .int (iI v10_171)), (9, .int (iI v9_171)), (7, .int (iI s0_162)), (8, .int (iI s0_147)), (6, .int (iI s0_76)), (5, .int (iI s0_37)), (0, .ref (ad 0)), (1, .int (iI p1)), (2, .int (iI p2)), (3, .int (iI p3)), (4, .ref (ad 64))] → W p l e ({ frames := 4, cells := 0, slots := 0, locals := 93 }) s m ([.ref (ad 0), .int (iI p1), .int (iI p2), .int (iI p3), .ref (ad 64)] : List Value).toArray below meth c H locs 0 0 Q (F0 m 270 ls [.int (iI s0_270), .int (iI ((a_171 25 ((12 * p1) + v10_171)) - 97)), .int (iI v9_171), .ref (ad 64)]) := by
                                      intro s0_270 H locs ls h_62 hP hD hS hl
                                      refine xr_add hx hb dX13_key_270 ?_
                                      exact J271 (((a_171 25 ((12 * p1) + v10_171)) - 97) + s0_270) H locs ls (by omega) hP hD hS hl
                                    refine xr_if_eq (tgt := 269) hx hb dX13_key_261 (by decide) (by omega) (fun h_63 => ?_) (fun h_63 => ?_)
                                    · refine lv_iconst (v := iI 1) hx hb dX13_key_269 rfl ?_
                                      exact J270 1 H locs ls (by omega) hP hD hS hl
                                    · refine lv_bipush (v := iI 11) hx hb dX13_key_264 rfl ?_
                                      refine lv_goto (tgt := 270) hx hb dX13_key_266 (by decide) ?_
                                      exact J270 11 H locs ls (by omega) hP hD hS hl
                                  · refine lv_iload hx hb dX13_key_234 (lv_at hl 0 rfl) ?_
                                    refine lv_bipush (v := iI 48) hx hb dX13_key_236 rfl ?_
                                    refine xr_sub hx hb dX13_key_238 ?_
                                    refine lv_iload hx hb dX13_key_239 (lv_at hl 6 rfl) ?_
                                    have J250 : ∀ (s0_250 : Int) (H : Heap) (locs : List Loc) (ls : Array Slot), (1 ≤ s0_250 ∧ s0_250 ≤ 27) → va_P (dC, dI) vwCl (mG ad ca g a_171) H → va_D A (mG ad ca g a_171) → va_S A s.heap H locs → lv_has ls 12 [(11, .int (iI (a_171 25 ((12 * p1) + v10_171)))), (10, .int (iI v10_171)), (9, .int (iI v9_171)), (7, .int (iI s0_162)), (8, .int (iI s0_147)), (6, .int (iI s0_76)), (5, .int (iI s0_37)), (0, .ref (ad 0)), (1, .int (iI p1)), (2, .int (iI p2)), (3, .int (iI p3)), (4, .ref (ad 64))] → W p l e ({ frames := 4, cells := 0, slots := 0, locals := 93 }) s m ([.ref (ad 0), .int (iI p1), .int (iI p2), .int (iI p3), .ref (ad 64)] : List Value).toArray below meth c H locs 0 0 Q (F0 m 250 ls [.int (iI s0_250), .int (iI ((a_171 25 ((12 * p1) + v10_171)) - 48)), .int (iI v9_171), .ref (ad 64)]) := by
                                      intro s0_250 H locs ls h_64 hP hD hS hl
                                      refine xr_add hx hb dX13_key_250 ?_
                                      refine lv_goto (tgt := 271) hx hb dX13_key_251 (by decide) ?_
                                      exact J271 (((a_171 25 ((12 * p1) + v10_171)) - 48) + s0_250) H locs ls (by omega) hP hD hS hl
                                    refine xr_if_eq (tgt := 248) hx hb dX13_key_241 (by decide) (by omega) (fun h_65 => ?_) (fun h_65 => ?_)
                                    · refine lv_bipush (v := iI 27) hx hb dX13_key_248 rfl ?_
                                      exact J250 27 H locs ls (by omega) hP hD hS hl
                                    · refine lv_iconst (v := iI 1) hx hb dX13_key_244 rfl ?_
                                      refine lv_goto (tgt := 250) hx hb dX13_key_245 (by decide) ?_
                                      exact J250 1 H locs ls (by omega) hP hD hS hl
                                · refine lv_iconst (v := iI 0) hx hb dX13_key_222 rfl ?_
                                  refine lv_goto (tgt := 271) hx hb dX13_key_223 (by decide) ?_
                                  exact J271 0 H locs ls (by omega) hP hD hS hl
                              refine xr_icmp_ne (tgt := 211) hx hb dX13_key_200 (by decide) (by omega) (by omega) (fun h_66 => ?_) (fun h_66 => ?_)
                              · exact J211 H locs ls hP hD hS hl
                              · refine lv_iload hx hb dX13_key_203 (lv_at hl 5 rfl) ?_
                                refine xr_if_ne (tgt := 211) hx hb dX13_key_205 (by decide) (by omega) (fun h_67 => ?_) (fun h_67 => ?_)
                                · exact J211 H locs ls hP hD hS hl
                                · refine lv_goto (tgt := 275) hx hb dX13_key_208 (by decide) ?_
                                  exact J275 v9_171 a_171 H locs ls (by omega) (by omega) hI haA hP hD hS hl
                        exact L171 (((13 - s0_162 : Int)).toNat + 1) s0_162 0 a_20 H locs ls (by omega) (by omega) (by omega) (by omega) hI haA (by omega) hP hD hS hl
                      refine xr_if_eq (tgt := 161) hx hb dX13_key_151 (by decide) (by omega) (fun h_68 => ?_) (fun h_68 => ?_)
                      · refine lv_iconst (v := iI 0) hx hb dX13_key_161 rfl ?_
                        exact J162 0 H locs ls (by omega) (by omega) hP hD hS hl
                      · refine lv_iload hx hb dX13_key_154 (lv_at hl 1 rfl) ?_
                        refine lv_iconst (v := iI 1) hx hb dX13_key_156 rfl ?_
                        refine xr_add hx hb dX13_key_157 ?_
                        refine xr_kept (fun z_69 h_70 h_71 => ?_)
                        refine lv_goto (tgt := 162) hx hb dX13_key_158 (by decide) ?_
                        exact J162 z_69 H locs ls (by omega) (by omega) hP hD hS hl
                    have J146 : ∀ (H : Heap) (locs : List Loc) (ls : Array Slot), va_P (dC, dI) vwCl (mG ad ca g a_20) H → va_D A (mG ad ca g a_20) → va_S A s.heap H locs → lv_has ls 12 [(7, .int (iI v7_81)), (6, .int (iI s0_76)), (5, .int (iI s0_37)), (0, .ref (ad 0)), (1, .int (iI p1)), (2, .int (iI p2)), (3, .int (iI p3)), (4, .ref (ad 64))] → W p l e ({ frames := 4, cells := 0, slots := 0, locals := 93 }) s m ([.ref (ad 0), .int (iI p1), .int (iI p2), .int (iI p3), .ref (ad 64)] : List Value).toArray below meth c H locs 0 0 Q (F0 m 146 ls []) := by
                      intro H locs ls hP hD hS hl
                      refine lv_iconst (v := iI 0) hx hb dX13_key_146 rfl ?_
                      exact J147 0 H locs ls (by omega) hP hD hS hl
                    refine xr_icmp_eq (tgt := 146) hx hb dX13_key_117 (by decide) (by omega) (by omega) (fun h_72 => ?_) (fun h_72 => ?_)
                    · exact J146 H locs ls hP hD hS hl
                    · refine lv_iload hx hb dX13_key_120 (lv_at hl 0 rfl) ?_
                      refine lv_aload_n hx hb dX13_key_122 rfl (lv_at hl 3 rfl) ?_
                      refine gf_headingLong hx hb hj hown hK hP dX13_key_123 ?_
                      refine lv_iload_n hx hb dX13_key_126 rfl (lv_at hl 4 rfl) ?_
                      refine ld_headingLong hx hb hK hP hI (by omega) (by omega) dX13_key_127 (fun h_73 => ?_)
                      refine xr_icmp_ge (tgt := 146) hx hb dX13_key_128 (by decide) (by omega) (by omega) (fun h_74 => ?_) (fun h_74 => ?_)
                      · exact J146 H locs ls hP hD hS hl
                      · refine lv_aload_n hx hb dX13_key_131 rfl (lv_at hl 3 rfl) ?_
                        refine lv_iload_n hx hb dX13_key_132 rfl (lv_at hl 4 rfl) ?_
                        refine lv_iload hx hb dX13_key_133 (lv_at hl 0 rfl) ?_
                        refine lv_iload_n hx hb dX13_key_135 rfl (lv_at hl 5 rfl) ?_
                        refine jc_i (va_runV (As := [.int (iI p1), .int (iI v7_81), .int (iI p2)]) (rest := []) ⟨hx, hb, hml, hown, hts⟩ (sX13_isSkipped l dC dI _ ad ca g a_20 p1 v7_81 p2 hI (by omega) (by omega) (by omega) (by omega) (by omega)) (cwV 3 hts (jgoodV m_250 m_391 m_392 m_503 m_162) rfl rfl rfl (by decide +kernel) ⟨(Nat.le_of_ble_eq_true rfl), (Nat.le_of_ble_eq_true rfl)⟩) ⟨jw_blind, va_recv hK hP (ci := 13) (q0 := 0) rfl rfl, fun U hU hW => ⟨rfl, jw_of hU hW hP hK hD⟩⟩ rfl rfl hl.1 rfl (lv_room (Nat.le_of_ble_eq_true rfl)) dX13_key_136 ⟨(Nat.le_of_ble_eq_true rfl), (Nat.le_of_ble_eq_true rfl)⟩) hP hS hA (fun r_75 H locs w_76 hP hS => ?_)
                        obtain ⟨z_77, rfl, h_78⟩ := w_76
                        refine xr_if_eq (tgt := 146) hx hb dX13_key_139 (by decide) (by omega) (fun h_79 => ?_) (fun h_79 => ?_)
                        · exact J146 H locs ls hP hD hS hl
                        · refine lv_iconst (v := iI 1) hx hb dX13_key_142 rfl ?_
                          refine lv_goto (tgt := 147) hx hb dX13_key_143 (by decide) ?_
                          exact J147 1 H locs ls (by omega) hP hD hS hl
                  refine xr_icmp_ge (tgt := 115) hx hb dX13_key_89 (by decide) (by omega) (by omega) (fun h_80 => ?_) (fun h_80 => ?_)
                  · exact J115 H locs ls hP hD hS hl
                  · refine lv_aload_n hx hb dX13_key_92 rfl (lv_at hl 3 rfl) ?_
                    refine gf_heading hx hb hj hown hK hP dX13_key_93 ?_
                    refine lv_bipush (v := iI 12) hx hb dX13_key_96 rfl ?_
                    refine lv_iload_n hx hb dX13_key_98 rfl (lv_at hl 4 rfl) ?_
                    refine xr_mul hx hb dX13_key_99 ?_
                    refine lv_iload hx hb dX13_key_100 (lv_at hl 0 rfl) ?_
                    refine xr_add hx hb dX13_key_102 ?_
                    refine ld_heading hx hb hK hP hI (by omega) (by omega) dX13_key_103 (fun h_81 => ?_)
                    refine lv_bipush (v := iI 32) hx hb dX13_key_104 rfl ?_
                    refine xr_icmp_eq (tgt := 115) hx hb dX13_key_106 (by decide) (by omega) (by omega) (fun h_82 => ?_) (fun h_82 => ?_)
                    · exact J115 H locs ls hP hD hS hl
                    · refine lv_iinc (v := iI (v7_81 + 1)) (lv' := [(7, .int (iI (v7_81 + 1))), (6, .int (iI s0_76)), (5, .int (iI s0_37)), (0, .ref (ad 0)), (1, .int (iI p1)), (2, .int (iI p2)), (3, .int (iI p3)), (4, .ref (ad 64))]) hx hb dX13_key_109 hl (k := 0) rfl (iI_add _ _) (by decide) rfl (fun ls hl => ?_)
                      refine lv_goto (tgt := 81) hx hb dX13_key_112 (by decide) ?_
                      exact ih81 (v7_81 + 1) H locs ls (by omega) (by omega) (by omega) hP hD hS hl
              exact L81 ((((a_20 26 p1) - 0 : Int)).toNat + 1) 0 H locs ls (by omega) (by omega) (by omega) hP hD hS hl
            refine xr_icmp_eq (tgt := 75) hx hb dX13_key_68 (by decide) (by omega) (by omega) (fun h_83 => ?_) (fun h_83 => ?_)
            · refine lv_iconst (v := iI 0) hx hb dX13_key_75 rfl ?_
              exact J76 0 H locs ls (by omega) hP hD hS hl
            · refine lv_iconst (v := iI 1) hx hb dX13_key_71 rfl ?_
              refine lv_goto (tgt := 76) hx hb dX13_key_72 (by decide) ?_
              exact J76 1 H locs ls (by omega) hP hD hS hl
          refine xr_icmp_ne (tgt := 67) hx hb dX13_key_60 (by decide) (by omega) (by omega) (fun h_84 => ?_) (fun h_84 => ?_)
          · refine lv_iconst (v := iI 0) hx hb dX13_key_67 rfl ?_
            exact J68 0 H locs ls (by omega) hP hD hS hl
          · refine lv_iconst (v := iI 1) hx hb dX13_key_63 rfl ?_
            refine lv_goto (tgt := 68) hx hb dX13_key_64 (by decide) ?_
            exact J68 1 H locs ls (by omega) hP hD hS hl
        refine xr_icmp_ne (tgt := 57) hx hb dX13_key_50 (by decide) (by omega) (by omega) (fun h_85 => ?_) (fun h_85 => ?_)
        · refine lv_iconst (v := iI 0) hx hb dX13_key_57 rfl ?_
          exact J58 0 H locs ls (by omega) hP hD hS hl
        · refine lv_iconst (v := iI 1) hx hb dX13_key_53 rfl ?_
          refine lv_goto (tgt := 58) hx hb dX13_key_54 (by decide) ?_
          exact J58 1 H locs ls (by omega) hP hD hS hl
      refine xr_icmp_eq (tgt := 36) hx hb dX13_key_29 (by decide) (by omega) (by omega) (fun h_86 => ?_) (fun h_86 => ?_)
      · refine lv_iconst (v := iI 0) hx hb dX13_key_36 rfl ?_
        exact J37 0 H locs ls (by omega) hP hD hS hl
      · refine lv_iconst (v := iI 1) hx hb dX13_key_32 rfl ?_
        refine lv_goto (tgt := 37) hx hb dX13_key_33 (by decide) ?_
        exact J37 1 H locs ls (by omega) hP hD hS hl
    refine xr_icmp_ne (tgt := 28) hx hb dX13_key_21 (by decide) (by omega) (by omega) (fun h_87 => ?_) (fun h_87 => ?_)
    · refine lv_iconst (v := iI 0) hx hb dX13_key_28 rfl ?_
      exact J29 0 H locs ls (by omega) hP hD hS hl
    · refine lv_iconst (v := iI 1) hx hb dX13_key_24 rfl ?_
      refine lv_goto (tgt := 29) hx hb dX13_key_25 (by decide) ?_
      exact J29 1 H locs ls (by omega) hP hD hS hl
  refine xr_icmp_ne (tgt := 18) hx hb dX13_key_11 (by decide) (by omega) (by omega) (fun h_88 => ?_) (fun h_88 => ?_)
  · refine lv_iconst (v := iI 0) hx hb dX13_key_18 rfl ?_
    exact J19 0 H locs ls (by omega) hP hD hS hl
  · refine lv_iconst (v := iI 1) hx hb dX13_key_14 rfl ?_
    refine lv_goto (tgt := 19) hx hb dX13_key_15 (by decide) ?_
    exact J19 1 H locs ls (by omega) hP hD hS hl
set_option maxHeartbeats 2000000 in
set_option maxRecDepth 100000 in
theorem sX13_key_q65 (l : Launch) (dC : Nat → ClassId) (dI : Nat → Nat → Nat) (sz : Nat) (ad : Nat → Nat) (ca : Nat → ClassId) (g : Nat → Int) (a : Nat → Int → Int) (p1 : Int) (p2 : Int) (p3 : Int) (hI : mI g a) (q1 : rg p1) (q2 : rg p2) (q3 : rg p3) (k1 : 0 ≤ p1 ∧ p1 < 60) (hrSh : rSh g a) : Met l yX13_key (jk yX13_key cX13_key 12 (some .int)) ({ frames := 4, cells := 0, slots := 0, locals := 93 }) (va_Pc [.ref (ad 0), .int (iI p1), .int (iI p2), .int (iI p3), .ref (ad 65)] (jw_P (dC, dI) (mG ad ca g a) (mT ca) sz)) (va_Qi (fun (r : Int32) (u : (Nat → Int) × (Nat → Int → Int)) => ∃ z : Int, r = iI z ∧ (u.1 = g) ∧ (mI u.1 u.2) ∧ (∀ j, j ∉ ([63, 65] : List Nat) → u.2 j = a j) ∧ (0 ≤ z ∧ z ≤ 12)) (fun u t => va_P (dC, dI) vwCl (mG ad ca u.1 u.2) t.heap ∧ va_K (dC, dI) vwCl (mT ca) t ∧ va_D (va_A (mG ad ca g a) sz) (mG ad ca u.1 u.2)) (va_A (mG ad ca g a) sz)) 0 0 (va_A (mG ad ca g a) sz) := by
  refine Met.ofW (cc := cX13_key) (maxL := 12) (ret := (some .int)) (by decide) rfl ?_
  intro p e s m args below meth c s₁ B hml hv
  obtain ⟨rfl, hsz, hP, hK, hD0⟩ := hv
  have hx := B.exec
  have hb := B.bytes
  have hr := B.returns
  have hts := atoms_spec (ws := (jk yX13_key cX13_key 12 (some .int))) B.pre
  have hj : ∀ w ∈ jw, w.before ([.ref (ad 0), .int (iI p1), .int (iI p2), .int (iI p3), .ref (ad 65)] : List Value).toArray s = true := fun w h => hts w (jm h)
  have hown : s.vm.findClass RX13 = some m.cls := findClass_of_methodNamed B.named
  subst hsz
  have hD := hD0.self (sz := s.heap.size)
  generalize hAe : (va_A (mG ad ca g a) s.heap.size) = A at hD ⊢
  have hA : ∀ q : Nat, s.heap.size ≤ q → A q := fun q h => by rw [← hAe]; exact Or.inr h
  have hS : va_S A s.heap s.heap [] := va_S.rf
  have hP : va_P (dC, dI) vwCl (mG ad ca g a) s.heap := hP
  have haA : ∀ j, j ∉ ([63, 65] : List Nat) → a j = a j := fun _ _ => rfl
  have hl := lv_entry ([.ref (ad 0), .int (iI p1), .int (iI p2), .int (iI p3), .ref (ad 65)]) (n := 12) (Nat.le_of_ble_eq_true rfl)
  rw [lg_entry_eq]
  generalize (lg_sl ([.ref (ad 0), .int (iI p1), .int (iI p2), .int (iI p3), .ref (ad 65)]) ++ List.replicate (12 - (lg_sl ([.ref (ad 0), .int (iI p1), .int (iI p2), .int (iI p3), .ref (ad 65)])).length) Slot.unset).toArray = ls at hl ⊢
  have hl : lv_has ls 12 [(0, .ref (ad 0)), (1, .int (iI p1)), (2, .int (iI p2)), (3, .int (iI p3)), (4, .ref (ad 65))] := hl
  generalize hQ : MQ below (va_Qi (fun (r : Int32) (u : (Nat → Int) × (Nat → Int → Int)) => ∃ z : Int, r = iI z ∧ (u.1 = g) ∧ (mI u.1 u.2) ∧ (∀ j, j ∉ ([63, 65] : List Nat) → u.2 j = a j) ∧ (0 ≤ z ∧ z ≤ 12)) (fun u t => va_P (dC, dI) vwCl (mG ad ca u.1 u.2) t.heap ∧ va_K (dC, dI) vwCl (mT ca) t ∧ va_D A (mG ad ca u.1 u.2)) A) ([.ref (ad 0), .int (iI p1), .int (iI p2), .int (iI p3), .ref (ad 65)] : List Value).toArray s 0 0 A = Q
  suffices ST : ∀ (H : Heap) (locs : List Loc), va_P (dC, dI) vwCl (mG ad ca g a) H → va_S A s.heap H locs → W p l e ({ frames := 4, cells := 0, slots := 0, locals := 93 }) s m ([.ref (ad 0), .int (iI p1), .int (iI p2), .int (iI p3), .ref (ad 65)] : List Value).toArray below meth c H locs 0 0 Q (F0 m 0 ls []) from ST _ _ hP hS
  clear hP hS
  intro H locs hP hS
  refine lv_aload_n hx hb dX13_key_0 rfl (lv_at hl 0 rfl) ?_
  refine lv_iconst (v := iI 0) hx hb dX13_key_1 rfl ?_
  refine lv_iload_n hx hb dX13_key_2 rfl (lv_at hl 2 rfl) ?_
  refine lv_aload_n hx hb dX13_key_3 rfl (lv_at hl 0 rfl) ?_
  refine gf_now hx hb hj hown hK hP hI dX13_key_4 (fun h_1 => ?_)
  refine jcg_i (va_runV (As := [.int (iI 0), .int (iI p2), .int (iI (g 30))]) (rest := []) ⟨hx, hb, hml, hown, hts⟩ (sX13_tells l dC dI _ ad ca g a 0 p2 (g 30) hI (by omega) (by omega) (by omega) (by omega) hrSh) (cwV 3 hts (jgoodV m_249 m_484 m_485 m_503 m_210) rfl rfl rfl (by decide +kernel) ⟨(Nat.le_of_ble_eq_true rfl), (Nat.le_of_ble_eq_true rfl)⟩) ⟨jw_blind, va_recv hK hP (ci := 13) (q0 := 0) rfl rfl, fun U hU hW => ⟨rfl, jw_of hU hW hP hK hD⟩⟩ rfl rfl hl.1 rfl (lv_room (Nat.le_of_ble_eq_true rfl)) dX13_key_7 ⟨(Nat.le_of_ble_eq_true rfl), (Nat.le_of_ble_eq_true rfl)⟩) hD hS hA (fun r_2 u_8 H locs w_3 hP hK hD hS => ?_)
  obtain ⟨g_6, a_7⟩ := u_8
  obtain ⟨z_4, rfl, e_10, hI, hfr_9, h_5⟩ := w_3
  have hP : va_P (dC, dI) vwCl (mG ad ca g_6 a_7) H := hP
  have hD : va_D A (mG ad ca g_6 a_7) := hD
  have e_10 : g = g_6 := e_10.symm
  subst e_10
  have haA : ∀ j, j ∉ ([63, 65] : List Nat) → a_7 j = a j := fun j h => (hfr_9 j (fun q => h (by first | exact q | (simp only [List.mem_cons, List.not_mem_nil, or_false] at q ⊢ <;> omega)))).trans (haA j h)
  refine lv_iconst (v := iI 1) hx hb dX13_key_10 rfl ?_
  have J19 : ∀ (s0_19 : Int) (H : Heap) (locs : List Loc) (ls : Array Slot), (0 ≤ s0_19 ∧ s0_19 ≤ 1) → va_P (dC, dI) vwCl (mG ad ca g a_7) H → va_D A (mG ad ca g a_7) → va_S A s.heap H locs → lv_has ls 12 [(0, .ref (ad 0)), (1, .int (iI p1)), (2, .int (iI p2)), (3, .int (iI p3)), (4, .ref (ad 65))] → W p l e ({ frames := 4, cells := 0, slots := 0, locals := 93 }) s m ([.ref (ad 0), .int (iI p1), .int (iI p2), .int (iI p3), .ref (ad 65)] : List Value).toArray below meth c H locs 0 0 Q (F0 m 19 ls [.int (iI s0_19)]) := by
    intro s0_19 H locs ls h_11 hP hD hS hl
    refine lv_iload_n hx hb dX13_key_19 rfl (lv_at hl 3 rfl) ?_
    refine lv_iconst (v := iI 3) hx hb dX13_key_20 rfl ?_
    have J29 : ∀ (s0_29 : Int) (H : Heap) (locs : List Loc) (ls : Array Slot), (0 ≤ s0_29 ∧ s0_29 ≤ 1) → va_P (dC, dI) vwCl (mG ad ca g a_7) H → va_D A (mG ad ca g a_7) → va_S A s.heap H locs → lv_has ls 12 [(0, .ref (ad 0)), (1, .int (iI p1)), (2, .int (iI p2)), (3, .int (iI p3)), (4, .ref (ad 65))] → W p l e ({ frames := 4, cells := 0, slots := 0, locals := 93 }) s m ([.ref (ad 0), .int (iI p1), .int (iI p2), .int (iI p3), .ref (ad 65)] : List Value).toArray below meth c H locs 0 0 Q (F0 m 29 ls [.int (iI s0_29), .int (iI s0_19)]) := by
      intro s0_29 H locs ls h_12 hP hD hS hl
      have J37 : ∀ (s0_37 : Int) (H : Heap) (locs : List Loc) (ls : Array Slot), (0 ≤ s0_37 ∧ s0_37 ≤ 1) → va_P (dC, dI) vwCl (mG ad ca g a_7) H → va_D A (mG ad ca g a_7) → va_S A s.heap H locs → lv_has ls 12 [(0, .ref (ad 0)), (1, .int (iI p1)), (2, .int (iI p2)), (3, .int (iI p3)), (4, .ref (ad 65))] → W p l e ({ frames := 4, cells := 0, slots := 0, locals := 93 }) s m ([.ref (ad 0), .int (iI p1), .int (iI p2), .int (iI p3), .ref (ad 65)] : List Value).toArray below meth c H locs 0 0 Q (F0 m 37 ls [.int (iI s0_37)]) := by
        intro s0_37 H locs ls h_13 hP hD hS hl
        refine lv_istore (lv' := [(5, .int (iI s0_37)), (0, .ref (ad 0)), (1, .int (iI p1)), (2, .int (iI p2)), (3, .int (iI p3)), (4, .ref (ad 65))]) hx hb dX13_key_37 hl (by decide) rfl (fun ls hl => ?_)
        refine lv_aload_n hx hb dX13_key_39 rfl (lv_at hl 1 rfl) ?_
        refine lv_iconst (v := iI 1) hx hb dX13_key_40 rfl ?_
        refine lv_iload_n hx hb dX13_key_41 rfl (lv_at hl 3 rfl) ?_
        refine lv_aload_n hx hb dX13_key_42 rfl (lv_at hl 1 rfl) ?_
        refine gf_now hx hb hj hown hK hP hI dX13_key_43 (fun h_14 => ?_)
        refine jcg_i (va_runV (As := [.int (iI 1), .int (iI p2), .int (iI (g 30))]) (rest := []) ⟨hx, hb, hml, hown, hts⟩ (sX13_tells l dC dI _ ad ca g a_7 1 p2 (g 30) hI (by omega) (by omega) (by omega) (by omega) (rSh_t rfl rfl (haA 9 (by decide)) (haA 10 (by decide)) (haA 11 (by decide)) (haA 12 (by decide)) (haA 16 (by decide)) hrSh)) (cwV 3 hts (jgoodV m_249 m_484 m_485 m_503 m_210) rfl rfl rfl (by decide +kernel) ⟨(Nat.le_of_ble_eq_true rfl), (Nat.le_of_ble_eq_true rfl)⟩) ⟨jw_blind, va_recv hK hP (ci := 13) (q0 := 0) rfl rfl, fun U hU hW => ⟨rfl, jw_of hU hW hP hK hD⟩⟩ rfl rfl hl.1 rfl (lv_room (Nat.le_of_ble_eq_true rfl)) dX13_key_46 ⟨(Nat.le_of_ble_eq_true rfl), (Nat.le_of_ble_eq_true rfl)⟩) hD hS hA (fun r_15 u_21 H locs w_16 hP hK hD hS => ?_)
        obtain ⟨g_19, a_20⟩ := u_21
        obtain ⟨z_17, rfl, e_23, hI, hfr_22, h_18⟩ := w_16
        have hP : va_P (dC, dI) vwCl (mG ad ca g_19 a_20) H := hP
        have hD : va_D A (mG ad ca g_19 a_20) := hD
        have e_23 : g = g_19 := e_23.symm
        subst e_23
        have haA : ∀ j, j ∉ ([63, 65] : List Nat) → a_20 j = a j := fun j h => (hfr_22 j (fun q => h (by first | exact q | (simp only [List.mem_cons, List.not_mem_nil, or_false] at q ⊢ <;> omega)))).trans (haA j h)
        refine lv_iconst (v := iI 1) hx hb dX13_key_49 rfl ?_
        have J58 : ∀ (s0_58 : Int) (H : Heap) (locs : List Loc) (ls : Array Slot), (0 ≤ s0_58 ∧ s0_58 ≤ 1) → va_P (dC, dI) vwCl (mG ad ca g a_20) H → va_D A (mG ad ca g a_20) → va_S A s.heap H locs → lv_has ls 12 [(5, .int (iI s0_37)), (0, .ref (ad 0)), (1, .int (iI p1)), (2, .int (iI p2)), (3, .int (iI p3)), (4, .ref (ad 65))] → W p l e ({ frames := 4, cells := 0, slots := 0, locals := 93 }) s m ([.ref (ad 0), .int (iI p1), .int (iI p2), .int (iI p3), .ref (ad 65)] : List Value).toArray below meth c H locs 0 0 Q (F0 m 58 ls [.int (iI s0_58)]) := by
          intro s0_58 H locs ls h_24 hP hD hS hl
          refine lv_iload_n hx hb dX13_key_58 rfl (lv_at hl 4 rfl) ?_
          refine lv_iconst (v := iI 2) hx hb dX13_key_59 rfl ?_
          have J68 : ∀ (s0_68 : Int) (H : Heap) (locs : List Loc) (ls : Array Slot), (0 ≤ s0_68 ∧ s0_68 ≤ 1) → va_P (dC, dI) vwCl (mG ad ca g a_20) H → va_D A (mG ad ca g a_20) → va_S A s.heap H locs → lv_has ls 12 [(5, .int (iI s0_37)), (0, .ref (ad 0)), (1, .int (iI p1)), (2, .int (iI p2)), (3, .int (iI p3)), (4, .ref (ad 65))] → W p l e ({ frames := 4, cells := 0, slots := 0, locals := 93 }) s m ([.ref (ad 0), .int (iI p1), .int (iI p2), .int (iI p3), .ref (ad 65)] : List Value).toArray below meth c H locs 0 0 Q (F0 m 68 ls [.int (iI s0_68), .int (iI s0_58)]) := by
            intro s0_68 H locs ls h_25 hP hD hS hl
            have J76 : ∀ (s0_76 : Int) (H : Heap) (locs : List Loc) (ls : Array Slot), (0 ≤ s0_76 ∧ s0_76 ≤ 1) → va_P (dC, dI) vwCl (mG ad ca g a_20) H → va_D A (mG ad ca g a_20) → va_S A s.heap H locs → lv_has ls 12 [(5, .int (iI s0_37)), (0, .ref (ad 0)), (1, .int (iI p1)), (2, .int (iI p2)), (3, .int (iI p3)), (4, .ref (ad 65))] → W p l e ({ frames := 4, cells := 0, slots := 0, locals := 93 }) s m ([.ref (ad 0), .int (iI p1), .int (iI p2), .int (iI p3), .ref (ad 65)] : List Value).toArray below meth c H locs 0 0 Q (F0 m 76 ls [.int (iI s0_76)]) := by
              intro s0_76 H locs ls h_26 hP hD hS hl
              refine lv_istore (lv' := [(6, .int (iI s0_76)), (5, .int (iI s0_37)), (0, .ref (ad 0)), (1, .int (iI p1)), (2, .int (iI p2)), (3, .int (iI p3)), (4, .ref (ad 65))]) hx hb dX13_key_76 hl (by decide) rfl (fun ls hl => ?_)
              refine lv_iconst (v := iI 0) hx hb dX13_key_78 rfl ?_
              refine lv_istore (lv' := [(7, .int (iI 0)), (6, .int (iI s0_76)), (5, .int (iI s0_37)), (0, .ref (ad 0)), (1, .int (iI p1)), (2, .int (iI p2)), (3, .int (iI p3)), (4, .ref (ad 65))]) hx hb dX13_key_79 hl (by decide) rfl (fun ls hl => ?_)
              have L81 : ∀ (n81 : Nat) (v7_81 : Int) (H : Heap) (locs : List Loc) (ls : Array Slot), (0 ≤ v7_81 ∧ v7_81 ≤ 2147483647) → (v7_81 ≤ 12) → (0 < (n81 : Int) ∧ (a_20 26 p1) - v7_81 < (n81 : Int)) → va_P (dC, dI) vwCl (mG ad ca g a_20) H → va_D A (mG ad ca g a_20) → va_S A s.heap H locs → lv_has ls 12 [(7, .int (iI v7_81)), (6, .int (iI s0_76)), (5, .int (iI s0_37)), (0, .ref (ad 0)), (1, .int (iI p1)), (2, .int (iI p2)), (3, .int (iI p3)), (4, .ref (ad 65))] → W p l e ({ frames := 4, cells := 0, slots := 0, locals := 93 }) s m ([.ref (ad 0), .int (iI p1), .int (iI p2), .int (iI p3), .ref (ad 65)] : List Value).toArray below meth c H locs 0 0 Q (F0 m 81 ls []) := by
                intro n81
                induction n81 with
                | zero =>
                  intro v7_81 H locs ls h_27 h_28 hm81 hP hD hS hl
                  exfalso; omega
                | succ n81 ih81 =>
                  intro v7_81 H locs ls h_29 h_30 hm81 hP hD hS hl
                  refine lv_iload hx hb dX13_key_81 (lv_at hl 0 rfl) ?_
                  refine lv_aload_n hx hb dX13_key_83 rfl (lv_at hl 3 rfl) ?_
                  refine gf_headingLong hx hb hj hown hK hP dX13_key_84 ?_
                  refine lv_iload_n hx hb dX13_key_87 rfl (lv_at hl 4 rfl) ?_
                  refine ld_headingLong hx hb hK hP hI (by omega) (by omega) dX13_key_88 (fun h_31 => ?_)
                  have J115 : ∀ (H : Heap) (locs : List Loc) (ls : Array Slot), va_P (dC, dI) vwCl (mG ad ca g a_20) H → va_D A (mG ad ca g a_20) → va_S A s.heap H locs → lv_has ls 12 [(7, .int (iI v7_81)), (6, .int (iI s0_76)), (5, .int (iI s0_37)), (0, .ref (ad 0)), (1, .int (iI p1)), (2, .int (iI p2)), (3, .int (iI p3)), (4, .ref (ad 65))] → W p l e ({ frames := 4, cells := 0, slots := 0, locals := 93 }) s m ([.ref (ad 0), .int (iI p1), .int (iI p2), .int (iI p3), .ref (ad 65)] : List Value).toArray below meth c H locs 0 0 Q (F0 m 115 ls []) := by
                    intro H locs ls hP hD hS hl
                    refine lv_iload_n hx hb dX13_key_115 rfl (lv_at hl 6 rfl) ?_
                    refine lv_iconst (v := iI 1) hx hb dX13_key_116 rfl ?_
                    have J147 : ∀ (s0_147 : Int) (H : Heap) (locs : List Loc) (ls : Array Slot), (0 ≤ s0_147 ∧ s0_147 ≤ 1) → va_P (dC, dI) vwCl (mG ad ca g a_20) H → va_D A (mG ad ca g a_20) → va_S A s.heap H locs → lv_has ls 12 [(7, .int (iI v7_81)), (6, .int (iI s0_76)), (5, .int (iI s0_37)), (0, .ref (ad 0)), (1, .int (iI p1)), (2, .int (iI p2)), (3, .int (iI p3)), (4, .ref (ad 65))] → W p l e ({ frames := 4, cells := 0, slots := 0, locals := 93 }) s m ([.ref (ad 0), .int (iI p1), .int (iI p2), .int (iI p3), .ref (ad 65)] : List Value).toArray below meth c H locs 0 0 Q (F0 m 147 ls [.int (iI s0_147)]) := by
                      intro s0_147 H locs ls h_32 hP hD hS hl
                      refine lv_istore (lv' := [(8, .int (iI s0_147)), (7, .int (iI v7_81)), (6, .int (iI s0_76)), (5, .int (iI s0_37)), (0, .ref (ad 0)), (1, .int (iI p1)), (2, .int (iI p2)), (3, .int (iI p3)), (4, .ref (ad 65))]) hx hb dX13_key_147 hl (by decide) rfl (fun ls hl => ?_)
                      refine lv_iload hx hb dX13_key_149 (lv_at hl 0 rfl) ?_
                      have J162 : ∀ (s0_162 : Int) (H : Heap) (locs : List Loc) (ls : Array Slot), ((-2147483648) ≤ s0_162 ∧ s0_162 ≤ 2147483647) → (0 ≤ s0_162 ∧ s0_162 ≤ 13) → va_P (dC, dI) vwCl (mG ad ca g a_20) H → va_D A (mG ad ca g a_20) → va_S A s.heap H locs → lv_has ls 12 [(8, .int (iI s0_147)), (7, .int (iI v7_81)), (6, .int (iI s0_76)), (5, .int (iI s0_37)), (0, .ref (ad 0)), (1, .int (iI p1)), (2, .int (iI p2)), (3, .int (iI p3)), (4, .ref (ad 65))] → W p l e ({ frames := 4, cells := 0, slots := 0, locals := 93 }) s m ([.ref (ad 0), .int (iI p1), .int (iI p2), .int (iI p3), .ref (ad 65)] : List Value).toArray below meth c H locs 0 0 Q (F0 m 162 ls [.int (iI s0_162)]) := by
                        intro s0_162 H locs ls h_33 h_34 hP hD hS hl
                        refine lv_istore (lv' := [(7, .int (iI s0_162)), (8, .int (iI s0_147)), (6, .int (iI s0_76)), (5, .int (iI s0_37)), (0, .ref (ad 0)), (1, .int (iI p1)), (2, .int (iI p2)), (3, .int (iI p3)), (4, .ref (ad 65))]) hx hb dX13_key_162 hl (by decide) rfl (fun ls hl => ?_)
                        refine lv_iconst (v := iI 0) hx hb dX13_key_164 rfl ?_
                        refine lv_istore (lv' := [(9, .int (iI 0)), (7, .int (iI s0_162)), (8, .int (iI s0_147)), (6, .int (iI s0_76)), (5, .int (iI s0_37)), (0, .ref (ad 0)), (1, .int (iI p1)), (2, .int (iI p2)), (3, .int (iI p3)), (4, .ref (ad 65))]) hx hb dX13_key_165 hl (by decide) rfl (fun ls hl => ?_)
                        refine lv_iload hx hb dX13_key_167 (lv_at hl 1 rfl) ?_
                        refine lv_istore (lv' := [(10, .int (iI s0_162)), (9, .int (iI 0)), (7, .int (iI s0_162)), (8, .int (iI s0_147)), (6, .int (iI s0_76)), (5, .int (iI s0_37)), (0, .ref (ad 0)), (1, .int (iI p1)), (2, .int (iI p2)), (3, .int (iI p3)), (4, .ref (ad 65))]) hx hb dX13_key_169 hl (by decide) rfl (fun ls hl => ?_)
                        have L171 : ∀ (n171 : Nat) (v10_171 v9_171 : Int) (a_171 : Nat → Int → Int) (H : Heap) (locs : List Loc) (ls : Array Slot), ((-2147483648) ≤ v10_171 ∧ v10_171 ≤ 2147483647) → ((-2147483648) ≤ v9_171 ∧ v9_171 ≤ 2147483647) → (0 ≤ v9_171 ∧ v9_171 ≤ v10_171 ∧ v9_171 ≤ 12) → (0 ≤ v10_171 ∧ v10_171 ≤ 13) → (mI g a_171) → (∀ j, j ∉ ([63, 65] : List Nat) → a_171 j = a j) → (0 < (n171 : Int) ∧ 13 - v10_171 < (n171 : Int)) → va_P (dC, dI) vwCl (mG ad ca g a_171) H → va_D A (mG ad ca g a_171) → va_S A s.heap H locs → lv_has ls 12 [(10, .int (iI v10_171)), (9, .int (iI v9_171)), (7, .int (iI s0_162)), (8, .int (iI s0_147)), (6, .int (iI s0_76)), (5, .int (iI s0_37)), (0, .ref (ad 0)), (1, .int (iI p1)), (2, .int (iI p2)), (3, .int (iI p3)), (4, .ref (ad 65))] → W p l e ({ frames := 4, cells := 0, slots := 0, locals := 93 }) s m ([.ref (ad 0), .int (iI p1), .int (iI p2), .int (iI p3), .ref (ad 65)] : List Value).toArray below meth c H locs 0 0 Q (F0 m 171 ls []) := by
                          intro n171
                          induction n171 with
                          | zero =>
                            intro v10_171 v9_171 a_171 H locs ls h_35 h_36 h_37 h_38 hI haA hm171 hP hD hS hl
                            exfalso; omega
                          | succ n171 ih171 =>
                            intro v10_171 v9_171 a_171 H locs ls h_39 h_40 h_41 h_42 hI haA hm171 hP hD hS hl
                            refine lv_iload hx hb dX13_key_171 (lv_at hl 0 rfl) ?_
                            refine lv_aload_n hx hb dX13_key_173 rfl (lv_at hl 6 rfl) ?_
                            refine gf_headingLong hx hb hj hown hK hP dX13_key_174 ?_
                            refine lv_iload_n hx hb dX13_key_177 rfl (lv_at hl 7 rfl) ?_
                            refine ld_headingLong hx hb hK hP hI (by omega) (by omega) dX13_key_178 (fun h_43 => ?_)
                            refine xr_icmp_ge (tgt := 281) hx hb dX13_key_179 (by decide) (by omega) (by omega) (fun h_44 => ?_) (fun h_44 => ?_)
                            · refine lv_iload hx hb dX13_key_281 (lv_at hl 1 rfl) ?_
                              rw [← hQ]
                              exact W.iret (v := iI v9_171) hx hb hr (fun t ht hW => ⟨⟨iI v9_171, (g, a_171), rfl, ⟨v9_171, rfl, rfl, hI, haA, by omega⟩, by rw [ht]; exact hP, va_K.moved hW.alike hK, hD⟩, hS.F ht⟩) hS.2.2 dX13_key_283
                            · refine lv_aload_n hx hb dX13_key_182 rfl (lv_at hl 6 rfl) ?_
                              refine gf_heading hx hb hj hown hK hP dX13_key_183 ?_
                              refine lv_bipush (v := iI 12) hx hb dX13_key_186 rfl ?_
                              refine lv_iload_n hx hb dX13_key_188 rfl (lv_at hl 7 rfl) ?_
                              refine xr_mul hx hb dX13_key_189 ?_
                              refine lv_iload hx hb dX13_key_190 (lv_at hl 0 rfl) ?_
                              refine xr_add hx hb dX13_key_192 ?_
                              refine ld_heading hx hb hK hP hI (by omega) (by omega) dX13_key_193 (fun h_45 => ?_)
                              refine lv_istore (lv' := [(11, .int (iI (a_171 25 ((12 * p1) + v10_171)))), (10, .int (iI v10_171)), (9, .int (iI v9_171)), (7, .int (iI s0_162)), (8, .int (iI s0_147)), (6, .int (iI s0_76)), (5, .int (iI s0_37)), (0, .ref (ad 0)), (1, .int (iI p1)), (2, .int (iI p2)), (3, .int (iI p3)), (4, .ref (ad 65))]) hx hb dX13_key_194 hl (by decide) rfl (fun ls hl => ?_)
                              refine lv_iload hx hb dX13_key_196 (lv_at hl 0 rfl) ?_
                              refine lv_bipush (v := iI 32) hx hb dX13_key_198 rfl ?_
                              have J275 : ∀ (v9_275 : Int) (a_275 : Nat → Int → Int) (H : Heap) (locs : List Loc) (ls : Array Slot), ((-2147483648) ≤ v9_275 ∧ v9_275 ≤ 2147483647) → (0 ≤ v9_275 ∧ v9_275 ≤ v10_171 + 1 ∧ v9_275 ≤ 12) → (mI g a_275) → (∀ j, j ∉ ([63, 65] : List Nat) → a_275 j = a j) → va_P (dC, dI) vwCl (mG ad ca g a_275) H → va_D A (mG ad ca g a_275) → va_S A s.heap H locs → lv_has ls 12 [(11, .int (iI (a_171 25 ((12 * p1) + v10_171)))), (10, .int (iI v10_171)), (9, .int (iI v9_275)), (7, .int (iI s0_162)), (8, .int (iI s0_147)), (6, .int (iI s0_76)), (5, .int (iI s0_37)), (0, .ref (ad 0)), (1, .int (iI p1)), (2, .int (iI p2)), (3, .int (iI p3)), (4, .ref (ad 65))] → W p l e ({ frames := 4, cells := 0, slots := 0, locals := 93 }) s m ([.ref (ad 0), .int (iI p1), .int (iI p2), .int (iI p3), .ref (ad 65)] : List Value).toArray below meth c H locs 0 0 Q (F0 m 275 ls []) := by
                                intro v9_275 a_275 H locs ls h_46 h_47 hI haA hP hD hS hl
                                refine lv_iinc (v := iI (v10_171 + 1)) (lv' := [(10, .int (iI (v10_171 + 1))), (11, .int (iI (a_171 25 ((12 * p1) + v10_171)))), (9, .int (iI v9_275)), (7, .int (iI s0_162)), (8, .int (iI s0_147)), (6, .int (iI s0_76)), (5, .int (iI s0_37)), (0, .ref (ad 0)), (1, .int (iI p1)), (2, .int (iI p2)), (3, .int (iI p3)), (4, .ref (ad 65))]) hx hb dX13_key_275 hl (k := 1) rfl (iI_add _ _) (by decide) rfl (fun ls hl => ?_)
                                refine lv_goto (tgt := 171) hx hb dX13_key_278 (by decide) ?_
                                exact ih171 (v10_171 + 1) v9_275 a_275 H locs ls (by omega) (by omega) (by omega) (by omega) hI haA (by omega) hP hD hS (lv_sub hl [0, 2, 3, 4, 5, 6, 7, 8, 9, 10, 11] rfl)
                              have J211 : ∀ (H : Heap) (locs : List Loc) (ls : Array Slot), va_P (dC, dI) vwCl (mG ad ca g a_171) H → va_D A (mG ad ca g a_171) → va_S A s.heap H locs → lv_has ls 12 [(11, .int (iI (a_171 25 ((12 * p1) + v10_171)))), (10, .int (iI v10_171)), (9, .int (iI v9_171)), (7, .int (iI s0_162)), (8, .int (iI s0_147)), (6, .int (iI s0_76)), (5, .int (iI s0_37)), (0, .ref (ad 0)), (1, .int (iI p1)), (2, .int (iI p2)), (3, .int (iI p3)), (4, .ref (ad 65))] → W p l e ({ frames := 4, cells := 0, slots := 0, locals := 93 }) s m ([.ref (ad 0), .int (iI p1), .int (iI p2), .int (iI p3), .ref (ad 65)] : List Value).toArray below meth c H locs 0 0 Q (F0 m 211 ls []) := by
                                intro H locs ls hP hD hS hl
                                refine lv_aload hx hb dX13_key_211 (lv_at hl 11 rfl) ?_
                                refine lv_iload hx hb dX13_key_213 (lv_at hl 2 rfl) ?_
                                refine lv_iload hx hb dX13_key_215 (lv_at hl 0 rfl) ?_
                                refine lv_bipush (v := iI 32) hx hb dX13_key_217 rfl ?_
                                have J271 : ∀ (s0_271 : Int) (H : Heap) (locs : List Loc) (ls : Array Slot), ((-224) ≤ s0_271 ∧ s0_271 ≤ 106) → va_P (dC, dI) vwCl (mG ad ca g a_171) H → va_D A (mG ad ca g a_171) → va_S A s.heap H locs → lv_has ls 12 [(11, .int (iI (a_171 25 ((12 * p1) + v10_171)))), (10, .int (iI v10_171)), (9, .int (iI v9_171)), (7, .int (iI s0_162)), (8, .int (iI s0_147)), (6, .int (iI s0_76)), (5, .int (iI s0_37)), (0, .ref (ad 0)), (1, .int (iI p1)), (2, .int (iI p2)), (3, .int (iI p3)), (4, .ref (ad 65))] → W p l e ({ frames := 4, cells := 0, slots := 0, locals := 93 }) s m ([.ref (ad 0), .int (iI p1), .int (iI p2), .int (iI p3), .ref (ad 65)] : List Value).toArray below meth c H locs 0 0 Q (F0 m 271 ls [.int (iI s0_271), .int (iI v9_171), .ref (ad 65)]) := by
                                  intro s0_271 H locs ls h_48 hP hD hS hl
                                  refine sa_keyTwo hx hb hK hP hD hS hI (by omega) (by omega) dX13_key_271 (fun a_49 z_52 H locs h_53 h_54 e_50 e_51 hI hP hD hS => ?_)
                                  have haA : ∀ j, j ∉ ([63, 65] : List Nat) → a_49 j = a j := fun j h => (e_50 j (fun q => h (q ▸ (by decide : 65 ∈ ([63, 65] : List Nat))))).trans (haA j h)
                                  refine lv_iinc (v := iI (v9_171 + 1)) (lv' := [(9, .int (iI (v9_171 + 1))), (11, .int (iI (a_171 25 ((12 * p1) + v10_171)))), (10, .int (iI v10_171)), (7, .int (iI s0_162)), (8, .int (iI s0_147)), (6, .int (iI s0_76)), (5, .int (iI s0_37)), (0, .ref (ad 0)), (1, .int (iI p1)), (2, .int (iI p2)), (3, .int (iI p3)), (4, .ref (ad 65))]) hx hb dX13_key_272 hl (k := 2) rfl (iI_add _ _) (by decide) rfl (fun ls hl => ?_)
                                  exact J275 (v9_171 + 1) a_49 H locs ls (by omega) (by omega) hI haA hP hD hS (lv_sub hl [1, 2, 0, 3, 4, 5, 6, 7, 8, 9, 10, 11] rfl)
                                refine xr_icmp_ne (tgt := 226) hx hb dX13_key_219 (by decide) (by omega) (by omega) (fun h_55 => ?_) (fun h_55 => ?_)
                                · refine lv_iload hx hb dX13_key_226 (lv_at hl 0 rfl) ?_
                                  refine jc_i (va_runS (As := [.int (iI (a_171 25 ((12 * p1) + v10_171)))]) (rest := [.int (iI v9_171), .ref (ad 65)]) ⟨hx, hb, hml, hown, hts⟩ (sX13_isDigit l dC dI _ (a_171 25 ((12 * p1) + v10_171)) (by omega)) (va_cwS 1 hts (jgoodS m_223 m_375 m_503 m_153) rfl rfl rfl (by decide +kernel) ⟨(Nat.le_of_ble_eq_true rfl), (Nat.le_of_ble_eq_true rfl)⟩) ⟨jw_blind0, fun U hU hW => ⟨rfl, congrArg Array.size hU⟩⟩ rfl rfl hl.1 rfl (lv_room (Nat.le_of_ble_eq_true rfl)) dX13_key_228 ⟨(Nat.le_of_ble_eq_true rfl), (Nat.le_of_ble_eq_true rfl)⟩) hP hS hA (fun r_56 H locs w_57 hP hS => ?_)
                                  obtain ⟨z_58, rfl, h_59, h_60⟩ := w_57
                                  refine xr_if_eq (tgt := 254) hx hb dX13_key_231 (by decide) (by omega) (fun h_61 => ?_) (fun h_61 => ?_)
                                  · refine lv_iload hx hb dX13_key_254 (lv_at hl 0 rfl) ?_
                                    refine lv_bipush (v := iI 97) hx hb dX13_key_256 rfl ?_
                                    refine xr_sub hx hb dX13_key_258 ?_
                                    refine lv_iload hx hb dX13_key_259 (lv_at hl 6 rfl) ?_
                                    have J270 : ∀ (s0_270 : Int) (H : Heap) (locs : List Loc) (ls : Array Slot), (1 ≤ s0_270 ∧ s0_270 ≤ 11) → va_P (dC, dI) vwCl (mG ad ca g a_171) H → va_D A (mG ad ca g a_171) → va_S A s.heap H locs → lv_has ls 12 [(11, .int (iI (a_171 25 ((12 * p1) + v10_171)))), (10, .int (iI v10_171)), (9, .int (iI v9_171)), (7, .int (iI s0_162)), (8, .int (iI s0_147)), (6, .int (iI s0_76)), (5, .int (iI s0_37)), (0, .ref (ad 0)), (1, .int (iI p1)), (2, .int (iI p2)), (3, .int (iI p3)), (4, .ref (ad 65))] → W p l e ({ frames := 4, cells := 0, slots := 0, locals := 93 }) s m ([.ref (ad 0), .int (iI p1), .int (iI p2), .int (iI p3), .ref (ad 65)] : List Value).toArray below meth c H locs 0 0 Q (F0 m 270 ls [.int (iI s0_270), .int (iI ((a_171 25 ((12 * p1) + v10_171)) - 97)), .int (iI v9_171), .ref (ad 65)]) := by
                                      intro s0_270 H locs ls h_62 hP hD hS hl
                                      refine xr_add hx hb dX13_key_270 ?_
                                      exact J271 (((a_171 25 ((12 * p1) + v10_171)) - 97) + s0_270) H locs ls (by omega) hP hD hS hl
                                    refine xr_if_eq (tgt := 269) hx hb dX13_key_261 (by decide) (by omega) (fun h_63 => ?_) (fun h_63 => ?_)
                                    · refine lv_iconst (v := iI 1) hx hb dX13_key_269 rfl ?_
                                      exact J270 1 H locs ls (by omega) hP hD hS hl
                                    · refine lv_bipush (v := iI 11) hx hb dX13_key_264 rfl ?_
                                      refine lv_goto (tgt := 270) hx hb dX13_key_266 (by decide) ?_
                                      exact J270 11 H locs ls (by omega) hP hD hS hl
                                  · refine lv_iload hx hb dX13_key_234 (lv_at hl 0 rfl) ?_
                                    refine lv_bipush (v := iI 48) hx hb dX13_key_236 rfl ?_
                                    refine xr_sub hx hb dX13_key_238 ?_
                                    refine lv_iload hx hb dX13_key_239 (lv_at hl 6 rfl) ?_
                                    have J250 : ∀ (s0_250 : Int) (H : Heap) (locs : List Loc) (ls : Array Slot), (1 ≤ s0_250 ∧ s0_250 ≤ 27) → va_P (dC, dI) vwCl (mG ad ca g a_171) H → va_D A (mG ad ca g a_171) → va_S A s.heap H locs → lv_has ls 12 [(11, .int (iI (a_171 25 ((12 * p1) + v10_171)))), (10, .int (iI v10_171)), (9, .int (iI v9_171)), (7, .int (iI s0_162)), (8, .int (iI s0_147)), (6, .int (iI s0_76)), (5, .int (iI s0_37)), (0, .ref (ad 0)), (1, .int (iI p1)), (2, .int (iI p2)), (3, .int (iI p3)), (4, .ref (ad 65))] → W p l e ({ frames := 4, cells := 0, slots := 0, locals := 93 }) s m ([.ref (ad 0), .int (iI p1), .int (iI p2), .int (iI p3), .ref (ad 65)] : List Value).toArray below meth c H locs 0 0 Q (F0 m 250 ls [.int (iI s0_250), .int (iI ((a_171 25 ((12 * p1) + v10_171)) - 48)), .int (iI v9_171), .ref (ad 65)]) := by
                                      intro s0_250 H locs ls h_64 hP hD hS hl
                                      refine xr_add hx hb dX13_key_250 ?_
                                      refine lv_goto (tgt := 271) hx hb dX13_key_251 (by decide) ?_
                                      exact J271 (((a_171 25 ((12 * p1) + v10_171)) - 48) + s0_250) H locs ls (by omega) hP hD hS hl
                                    refine xr_if_eq (tgt := 248) hx hb dX13_key_241 (by decide) (by omega) (fun h_65 => ?_) (fun h_65 => ?_)
                                    · refine lv_bipush (v := iI 27) hx hb dX13_key_248 rfl ?_
                                      exact J250 27 H locs ls (by omega) hP hD hS hl
                                    · refine lv_iconst (v := iI 1) hx hb dX13_key_244 rfl ?_
                                      refine lv_goto (tgt := 250) hx hb dX13_key_245 (by decide) ?_
                                      exact J250 1 H locs ls (by omega) hP hD hS hl
                                · refine lv_iconst (v := iI 0) hx hb dX13_key_222 rfl ?_
                                  refine lv_goto (tgt := 271) hx hb dX13_key_223 (by decide) ?_
                                  exact J271 0 H locs ls (by omega) hP hD hS hl
                              refine xr_icmp_ne (tgt := 211) hx hb dX13_key_200 (by decide) (by omega) (by omega) (fun h_66 => ?_) (fun h_66 => ?_)
                              · exact J211 H locs ls hP hD hS hl
                              · refine lv_iload hx hb dX13_key_203 (lv_at hl 5 rfl) ?_
                                refine xr_if_ne (tgt := 211) hx hb dX13_key_205 (by decide) (by omega) (fun h_67 => ?_) (fun h_67 => ?_)
                                · exact J211 H locs ls hP hD hS hl
                                · refine lv_goto (tgt := 275) hx hb dX13_key_208 (by decide) ?_
                                  exact J275 v9_171 a_171 H locs ls (by omega) (by omega) hI haA hP hD hS hl
                        exact L171 (((13 - s0_162 : Int)).toNat + 1) s0_162 0 a_20 H locs ls (by omega) (by omega) (by omega) (by omega) hI haA (by omega) hP hD hS hl
                      refine xr_if_eq (tgt := 161) hx hb dX13_key_151 (by decide) (by omega) (fun h_68 => ?_) (fun h_68 => ?_)
                      · refine lv_iconst (v := iI 0) hx hb dX13_key_161 rfl ?_
                        exact J162 0 H locs ls (by omega) (by omega) hP hD hS hl
                      · refine lv_iload hx hb dX13_key_154 (lv_at hl 1 rfl) ?_
                        refine lv_iconst (v := iI 1) hx hb dX13_key_156 rfl ?_
                        refine xr_add hx hb dX13_key_157 ?_
                        refine xr_kept (fun z_69 h_70 h_71 => ?_)
                        refine lv_goto (tgt := 162) hx hb dX13_key_158 (by decide) ?_
                        exact J162 z_69 H locs ls (by omega) (by omega) hP hD hS hl
                    have J146 : ∀ (H : Heap) (locs : List Loc) (ls : Array Slot), va_P (dC, dI) vwCl (mG ad ca g a_20) H → va_D A (mG ad ca g a_20) → va_S A s.heap H locs → lv_has ls 12 [(7, .int (iI v7_81)), (6, .int (iI s0_76)), (5, .int (iI s0_37)), (0, .ref (ad 0)), (1, .int (iI p1)), (2, .int (iI p2)), (3, .int (iI p3)), (4, .ref (ad 65))] → W p l e ({ frames := 4, cells := 0, slots := 0, locals := 93 }) s m ([.ref (ad 0), .int (iI p1), .int (iI p2), .int (iI p3), .ref (ad 65)] : List Value).toArray below meth c H locs 0 0 Q (F0 m 146 ls []) := by
                      intro H locs ls hP hD hS hl
                      refine lv_iconst (v := iI 0) hx hb dX13_key_146 rfl ?_
                      exact J147 0 H locs ls (by omega) hP hD hS hl
                    refine xr_icmp_eq (tgt := 146) hx hb dX13_key_117 (by decide) (by omega) (by omega) (fun h_72 => ?_) (fun h_72 => ?_)
                    · exact J146 H locs ls hP hD hS hl
                    · refine lv_iload hx hb dX13_key_120 (lv_at hl 0 rfl) ?_
                      refine lv_aload_n hx hb dX13_key_122 rfl (lv_at hl 3 rfl) ?_
                      refine gf_headingLong hx hb hj hown hK hP dX13_key_123 ?_
                      refine lv_iload_n hx hb dX13_key_126 rfl (lv_at hl 4 rfl) ?_
                      refine ld_headingLong hx hb hK hP hI (by omega) (by omega) dX13_key_127 (fun h_73 => ?_)
                      refine xr_icmp_ge (tgt := 146) hx hb dX13_key_128 (by decide) (by omega) (by omega) (fun h_74 => ?_) (fun h_74 => ?_)
                      · exact J146 H locs ls hP hD hS hl
                      · refine lv_aload_n hx hb dX13_key_131 rfl (lv_at hl 3 rfl) ?_
                        refine lv_iload_n hx hb dX13_key_132 rfl (lv_at hl 4 rfl) ?_
                        refine lv_iload hx hb dX13_key_133 (lv_at hl 0 rfl) ?_
                        refine lv_iload_n hx hb dX13_key_135 rfl (lv_at hl 5 rfl) ?_
                        refine jc_i (va_runV (As := [.int (iI p1), .int (iI v7_81), .int (iI p2)]) (rest := []) ⟨hx, hb, hml, hown, hts⟩ (sX13_isSkipped l dC dI _ ad ca g a_20 p1 v7_81 p2 hI (by omega) (by omega) (by omega) (by omega) (by omega)) (cwV 3 hts (jgoodV m_250 m_391 m_392 m_503 m_162) rfl rfl rfl (by decide +kernel) ⟨(Nat.le_of_ble_eq_true rfl), (Nat.le_of_ble_eq_true rfl)⟩) ⟨jw_blind, va_recv hK hP (ci := 13) (q0 := 0) rfl rfl, fun U hU hW => ⟨rfl, jw_of hU hW hP hK hD⟩⟩ rfl rfl hl.1 rfl (lv_room (Nat.le_of_ble_eq_true rfl)) dX13_key_136 ⟨(Nat.le_of_ble_eq_true rfl), (Nat.le_of_ble_eq_true rfl)⟩) hP hS hA (fun r_75 H locs w_76 hP hS => ?_)
                        obtain ⟨z_77, rfl, h_78⟩ := w_76
                        refine xr_if_eq (tgt := 146) hx hb dX13_key_139 (by decide) (by omega) (fun h_79 => ?_) (fun h_79 => ?_)
                        · exact J146 H locs ls hP hD hS hl
                        · refine lv_iconst (v := iI 1) hx hb dX13_key_142 rfl ?_
                          refine lv_goto (tgt := 147) hx hb dX13_key_143 (by decide) ?_
                          exact J147 1 H locs ls (by omega) hP hD hS hl
                  refine xr_icmp_ge (tgt := 115) hx hb dX13_key_89 (by decide) (by omega) (by omega) (fun h_80 => ?_) (fun h_80 => ?_)
                  · exact J115 H locs ls hP hD hS hl
                  · refine lv_aload_n hx hb dX13_key_92 rfl (lv_at hl 3 rfl) ?_
                    refine gf_heading hx hb hj hown hK hP dX13_key_93 ?_
                    refine lv_bipush (v := iI 12) hx hb dX13_key_96 rfl ?_
                    refine lv_iload_n hx hb dX13_key_98 rfl (lv_at hl 4 rfl) ?_
                    refine xr_mul hx hb dX13_key_99 ?_
                    refine lv_iload hx hb dX13_key_100 (lv_at hl 0 rfl) ?_
                    refine xr_add hx hb dX13_key_102 ?_
                    refine ld_heading hx hb hK hP hI (by omega) (by omega) dX13_key_103 (fun h_81 => ?_)
                    refine lv_bipush (v := iI 32) hx hb dX13_key_104 rfl ?_
                    refine xr_icmp_eq (tgt := 115) hx hb dX13_key_106 (by decide) (by omega) (by omega) (fun h_82 => ?_) (fun h_82 => ?_)
                    · exact J115 H locs ls hP hD hS hl
                    · refine lv_iinc (v := iI (v7_81 + 1)) (lv' := [(7, .int (iI (v7_81 + 1))), (6, .int (iI s0_76)), (5, .int (iI s0_37)), (0, .ref (ad 0)), (1, .int (iI p1)), (2, .int (iI p2)), (3, .int (iI p3)), (4, .ref (ad 65))]) hx hb dX13_key_109 hl (k := 0) rfl (iI_add _ _) (by decide) rfl (fun ls hl => ?_)
                      refine lv_goto (tgt := 81) hx hb dX13_key_112 (by decide) ?_
                      exact ih81 (v7_81 + 1) H locs ls (by omega) (by omega) (by omega) hP hD hS hl
              exact L81 ((((a_20 26 p1) - 0 : Int)).toNat + 1) 0 H locs ls (by omega) (by omega) (by omega) hP hD hS hl
            refine xr_icmp_eq (tgt := 75) hx hb dX13_key_68 (by decide) (by omega) (by omega) (fun h_83 => ?_) (fun h_83 => ?_)
            · refine lv_iconst (v := iI 0) hx hb dX13_key_75 rfl ?_
              exact J76 0 H locs ls (by omega) hP hD hS hl
            · refine lv_iconst (v := iI 1) hx hb dX13_key_71 rfl ?_
              refine lv_goto (tgt := 76) hx hb dX13_key_72 (by decide) ?_
              exact J76 1 H locs ls (by omega) hP hD hS hl
          refine xr_icmp_ne (tgt := 67) hx hb dX13_key_60 (by decide) (by omega) (by omega) (fun h_84 => ?_) (fun h_84 => ?_)
          · refine lv_iconst (v := iI 0) hx hb dX13_key_67 rfl ?_
            exact J68 0 H locs ls (by omega) hP hD hS hl
          · refine lv_iconst (v := iI 1) hx hb dX13_key_63 rfl ?_
            refine lv_goto (tgt := 68) hx hb dX13_key_64 (by decide) ?_
            exact J68 1 H locs ls (by omega) hP hD hS hl
        refine xr_icmp_ne (tgt := 57) hx hb dX13_key_50 (by decide) (by omega) (by omega) (fun h_85 => ?_) (fun h_85 => ?_)
        · refine lv_iconst (v := iI 0) hx hb dX13_key_57 rfl ?_
          exact J58 0 H locs ls (by omega) hP hD hS hl
        · refine lv_iconst (v := iI 1) hx hb dX13_key_53 rfl ?_
          refine lv_goto (tgt := 58) hx hb dX13_key_54 (by decide) ?_
          exact J58 1 H locs ls (by omega) hP hD hS hl
      refine xr_icmp_eq (tgt := 36) hx hb dX13_key_29 (by decide) (by omega) (by omega) (fun h_86 => ?_) (fun h_86 => ?_)
      · refine lv_iconst (v := iI 0) hx hb dX13_key_36 rfl ?_
        exact J37 0 H locs ls (by omega) hP hD hS hl
      · refine lv_iconst (v := iI 1) hx hb dX13_key_32 rfl ?_
        refine lv_goto (tgt := 37) hx hb dX13_key_33 (by decide) ?_
        exact J37 1 H locs ls (by omega) hP hD hS hl
    refine xr_icmp_ne (tgt := 28) hx hb dX13_key_21 (by decide) (by omega) (by omega) (fun h_87 => ?_) (fun h_87 => ?_)
    · refine lv_iconst (v := iI 0) hx hb dX13_key_28 rfl ?_
      exact J29 0 H locs ls (by omega) hP hD hS hl
    · refine lv_iconst (v := iI 1) hx hb dX13_key_24 rfl ?_
      refine lv_goto (tgt := 29) hx hb dX13_key_25 (by decide) ?_
      exact J29 1 H locs ls (by omega) hP hD hS hl
  refine xr_icmp_ne (tgt := 18) hx hb dX13_key_11 (by decide) (by omega) (by omega) (fun h_88 => ?_) (fun h_88 => ?_)
  · refine lv_iconst (v := iI 0) hx hb dX13_key_18 rfl ?_
    exact J19 0 H locs ls (by omega) hP hD hS hl
  · refine lv_iconst (v := iI 1) hx hb dX13_key_14 rfl ?_
    refine lv_goto (tgt := 19) hx hb dX13_key_15 (by decide) ?_
    exact J19 1 H locs ls (by omega) hP hD hS hl
