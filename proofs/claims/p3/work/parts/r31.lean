set_option maxHeartbeats 2000000 in
set_option maxRecDepth 100000 in
theorem sX13_gives (l : Launch) (dC : Nat → ClassId) (dI : Nat → Nat → Nat) (sz : Nat) (ad : Nat → Nat) (ca : Nat → ClassId) (g : Nat → Int) (a : Nat → Int → Int) (p1 : Int) (p2 : Int) (p3 : Int) (hI : mI g a) (q1 : rg p1) (q2 : rg p2) (q3 : rg p3) (hrSkill : rSkill g a) (hrSh : rSh g a) : Met l yX13_gives (jk yX13_gives cX13_gives 7 (some .boolean)) ({ frames := 9, cells := 0, slots := 0, locals := 218 }) (va_Pc [.ref (ad 0), .int (iI p1), .int (iI p2), .int (iI p3)] (jw_P (dC, dI) (mG ad ca g a) (mT ca) sz)) (va_Qi (fun (r : Int32) (u : (Nat → Int) × (Nat → Int → Int)) => ∃ z : Int, r = iI z ∧ (mI u.1 u.2) ∧ (∀ j, j ∉ ([96, 97, 98, 99, 100] : List Nat) → u.1 j = g j) ∧ (∀ j, j ∉ ([62, 63, 64, 71, 72, 73, 74, 75] : List Nat) → u.2 j = a j) ∧ (0 ≤ z ∧ z ≤ 1)) (fun u t => va_P (dC, dI) vwCl (mG ad ca u.1 u.2) t.heap ∧ va_K (dC, dI) vwCl (mT ca) t ∧ va_D (va_A (mG ad ca g a) sz) (mG ad ca u.1 u.2)) (va_A (mG ad ca g a) sz)) 0 0 (va_A (mG ad ca g a) sz) := by
  refine Met.ofW (cc := cX13_gives) (maxL := 7) (ret := (some .boolean)) (by decide) rfl ?_
  intro p e s m args below meth c s₁ B hml hv
  obtain ⟨rfl, hsz, hP, hK, hD0⟩ := hv
  have hx := B.exec
  have hb := B.bytes
  have hr := B.returns
  have hts := atoms_spec (ws := (jk yX13_gives cX13_gives 7 (some .boolean))) B.pre
  have hj : ∀ w ∈ jw, w.before ([.ref (ad 0), .int (iI p1), .int (iI p2), .int (iI p3)] : List Value).toArray s = true := fun w h => hts w (jm h)
  have hown : s.vm.findClass RX13 = some m.cls := findClass_of_methodNamed B.named
  subst hsz
  have hD := hD0.self (sz := s.heap.size)
  generalize hAe : (va_A (mG ad ca g a) s.heap.size) = A at hD ⊢
  have hA : ∀ q : Nat, s.heap.size ≤ q → A q := fun q h => by rw [← hAe]; exact Or.inr h
  have hS : va_S A s.heap s.heap [] := va_S.rf
  have hP : va_P (dC, dI) vwCl (mG ad ca g a) s.heap := hP
  have hfA : ∀ j, j ∉ ([96, 97, 98, 99, 100] : List Nat) → g j = g j := fun _ _ => rfl
  have haA : ∀ j, j ∉ ([62, 63, 64, 71, 72, 73, 74, 75] : List Nat) → a j = a j := fun _ _ => rfl
  have hl := lv_entry ([.ref (ad 0), .int (iI p1), .int (iI p2), .int (iI p3)]) (n := 7) (Nat.le_of_ble_eq_true rfl)
  rw [lg_entry_eq]
  generalize (lg_sl ([.ref (ad 0), .int (iI p1), .int (iI p2), .int (iI p3)]) ++ List.replicate (7 - (lg_sl ([.ref (ad 0), .int (iI p1), .int (iI p2), .int (iI p3)])).length) Slot.unset).toArray = ls at hl ⊢
  have hl : lv_has ls 7 [(0, .ref (ad 0)), (1, .int (iI p1)), (2, .int (iI p2)), (3, .int (iI p3))] := hl
  generalize hQ : MQ below (va_Qi (fun (r : Int32) (u : (Nat → Int) × (Nat → Int → Int)) => ∃ z : Int, r = iI z ∧ (mI u.1 u.2) ∧ (∀ j, j ∉ ([96, 97, 98, 99, 100] : List Nat) → u.1 j = g j) ∧ (∀ j, j ∉ ([62, 63, 64, 71, 72, 73, 74, 75] : List Nat) → u.2 j = a j) ∧ (0 ≤ z ∧ z ≤ 1)) (fun u t => va_P (dC, dI) vwCl (mG ad ca u.1 u.2) t.heap ∧ va_K (dC, dI) vwCl (mT ca) t ∧ va_D A (mG ad ca u.1 u.2)) A) ([.ref (ad 0), .int (iI p1), .int (iI p2), .int (iI p3)] : List Value).toArray s 0 0 A = Q
  suffices ST : ∀ (H : Heap) (locs : List Loc), va_P (dC, dI) vwCl (mG ad ca g a) H → va_S A s.heap H locs → W p l e ({ frames := 9, cells := 0, slots := 0, locals := 218 }) s m ([.ref (ad 0), .int (iI p1), .int (iI p2), .int (iI p3)] : List Value).toArray below meth c H locs 0 0 Q (F0 m 0 ls []) from ST _ _ hP hS
  clear hP hS
  intro H locs hP hS
  have b50_0 : 0 ≤ g 50 ∧ g 50 ≤ 12 := hI.1 50
  refine lv_iload_n hx hb dX13_gives_0 rfl (lv_at hl 1 rfl) ?_
  refine xr_if_le (tgt := 36) hx hb dX13_gives_1 (by decide) (by omega) (fun h_1 => ?_) (fun h_1 => ?_)
  · refine lv_iconst (v := iI 0) hx hb dX13_gives_36 rfl ?_
    rw [← hQ]
    exact W.zret (v := iI 0) (ty := .boolean) hx hb hr (nb_bool (by omega) (by omega)) (fun t ht hW => ⟨⟨iI 0, (g, a), rfl, ⟨0, rfl, hI, hfA, haA, by omega⟩, by rw [ht]; exact hP, va_K.moved hW.alike hK, hD⟩, hS.F ht⟩) hS.2.2 dX13_gives_37
  · refine lv_iload_n hx hb dX13_gives_4 rfl (lv_at hl 2 rfl) ?_
    refine xr_if_le (tgt := 36) hx hb dX13_gives_5 (by decide) (by omega) (fun h_2 => ?_) (fun h_2 => ?_)
    · refine lv_iconst (v := iI 0) hx hb dX13_gives_36 rfl ?_
      rw [← hQ]
      exact W.zret (v := iI 0) (ty := .boolean) hx hb hr (nb_bool (by omega) (by omega)) (fun t ht hW => ⟨⟨iI 0, (g, a), rfl, ⟨0, rfl, hI, hfA, haA, by omega⟩, by rw [ht]; exact hP, va_K.moved hW.alike hK, hD⟩, hS.F ht⟩) hS.2.2 dX13_gives_37
    · refine lv_iload_n hx hb dX13_gives_8 rfl (lv_at hl 1 rfl) ?_
      refine lv_ldcw hx hb hown (hts (.constant RX13 524 1073741824) (jm m_508)) dX13_gives_9 ?_
      refine jt_i (iI 1073741824) (by decide) ?_
      refine xr_icmp_ge (tgt := 36) hx hb dX13_gives_12 (by decide) (by omega) (by omega) (fun h_3 => ?_) (fun h_3 => ?_)
      · refine lv_iconst (v := iI 0) hx hb dX13_gives_36 rfl ?_
        rw [← hQ]
        exact W.zret (v := iI 0) (ty := .boolean) hx hb hr (nb_bool (by omega) (by omega)) (fun t ht hW => ⟨⟨iI 0, (g, a), rfl, ⟨0, rfl, hI, hfA, haA, by omega⟩, by rw [ht]; exact hP, va_K.moved hW.alike hK, hD⟩, hS.F ht⟩) hS.2.2 dX13_gives_37
      · refine lv_iload_n hx hb dX13_gives_15 rfl (lv_at hl 2 rfl) ?_
        refine lv_iconst (v := iI 1) hx hb dX13_gives_16 rfl ?_
        refine lv_aload_n hx hb dX13_gives_17 rfl (lv_at hl 0 rfl) ?_
        refine gf_hands hx hb hj hown hK hP hI dX13_gives_18 (fun h_4 => ?_)
        refine lv_ishl hx hb dX13_gives_21 ?_
        refine xr_any (fun z_5 h_6 => ?_)
        refine xr_icmp_ge (tgt := 36) hx hb dX13_gives_22 (by decide) (by omega) (by omega) (fun h_7 => ?_) (fun h_7 => ?_)
        · refine lv_iconst (v := iI 0) hx hb dX13_gives_36 rfl ?_
          rw [← hQ]
          exact W.zret (v := iI 0) (ty := .boolean) hx hb hr (nb_bool (by omega) (by omega)) (fun t ht hW => ⟨⟨iI 0, (g, a), rfl, ⟨0, rfl, hI, hfA, haA, by omega⟩, by rw [ht]; exact hP, va_K.moved hW.alike hK, hD⟩, hS.F ht⟩) hS.2.2 dX13_gives_37
        · refine lv_iload_n hx hb dX13_gives_25 rfl (lv_at hl 3 rfl) ?_
          refine lv_iconst (v := iI 1) hx hb dX13_gives_26 rfl ?_
          refine lv_sipush (v := iI 400) hx hb dX13_gives_27 rfl ?_
          refine jc_i (va_runS (As := [.int (iI p3), .int (iI 1), .int (iI 400)]) (rest := []) ⟨hx, hb, hml, hown, hts⟩ (sX13_in l dC dI _ p3 1 400 (by omega) (by omega) (by omega)) (va_cwS 3 hts (jgoodS m_220 m_364 m_503 m_147) rfl rfl rfl (by decide +kernel) ⟨(Nat.le_of_ble_eq_true rfl), (Nat.le_of_ble_eq_true rfl)⟩) ⟨jw_blind0, fun U hU hW => ⟨rfl, congrArg Array.size hU⟩⟩ rfl rfl hl.1 rfl (lv_room (Nat.le_of_ble_eq_true rfl)) dX13_gives_30 ⟨(Nat.le_of_ble_eq_true rfl), (Nat.le_of_ble_eq_true rfl)⟩) hP hS hA (fun r_8 H locs w_9 hP hS => ?_)
          obtain ⟨z_10, rfl, h_11, h_12⟩ := w_9
          refine xr_if_ne (tgt := 38) hx hb dX13_gives_33 (by decide) (by omega) (fun h_13 => ?_) (fun h_13 => ?_)
          · refine lv_aload_n hx hb dX13_gives_38 rfl (lv_at hl 0 rfl) ?_
            refine lv_iconst (v := iI 0) hx hb dX13_gives_39 rfl ?_
            refine pf_fewMany hx hb hj hown hK hP hD hS hI (by omega) (by omega) dX13_gives_40 (fun g_14 H locs e_15 e_16 hI hP hD hS => ?_)
            have hfA : ∀ j, j ∉ ([96, 97, 98, 99, 100] : List Nat) → g_14 j = g j := fun j h => (e_15 j (fun q => h (q ▸ (by decide : 96 ∈ ([96, 97, 98, 99, 100] : List Nat))))).trans (hfA j h)
            have b_17 := e_15 97 (by decide)
            have b_18 : g_14 50 = g 50 := hfA 50 (by decide)
            have b_19 := e_15 97 (by decide)
            have b_20 := e_15 50 (by decide)
            refine lv_aload_n hx hb dX13_gives_43 rfl (lv_at hl 0 rfl) ?_
            refine lv_iconst (v := iI 0) hx hb dX13_gives_44 rfl ?_
            refine pf_handMany hx hb hj hown hK hP hD hS hI (by omega) (by omega) dX13_gives_45 (fun g_21 H locs e_22 e_23 hI hP hD hS => ?_)
            have hfA : ∀ j, j ∉ ([96, 97, 98, 99, 100] : List Nat) → g_21 j = g j := fun j h => (e_22 j (fun q => h (q ▸ (by decide : 97 ∈ ([96, 97, 98, 99, 100] : List Nat))))).trans (hfA j h)
            have b_24 := e_22 96 (by decide)
            have b_25 : g_21 50 = g 50 := hfA 50 (by decide)
            have b_26 := e_22 50 (by decide)
            refine lv_iconst (v := iI 0) hx hb dX13_gives_48 rfl ?_
            refine lv_istore (lv' := [(4, .int (iI 0)), (0, .ref (ad 0)), (1, .int (iI p1)), (2, .int (iI p2)), (3, .int (iI p3))]) hx hb dX13_gives_49 hl (by decide) rfl (fun ls hl => ?_)
            have L51 : ∀ (n51 : Nat) (v4_51 : Int) (g_51 : Nat → Int) (a_51 : Nat → Int → Int) (H : Heap) (locs : List Loc) (ls : Array Slot), (0 ≤ v4_51 ∧ v4_51 ≤ 2147483647) → (g_51 97 = 0) → (a_51 72 = a 72) → (g_51 97 = 0) → (g_51 50 = g 50) → (mI g_51 a_51) → (∀ j, j ∉ ([96, 97, 98, 99, 100] : List Nat) → g_51 j = g j) → (∀ j, j ∉ ([62, 63, 64, 71, 72, 73, 74, 75] : List Nat) → a_51 j = a j) → (0 < (n51 : Int) ∧ 30 - v4_51 < (n51 : Int)) → va_P (dC, dI) vwCl (mG ad ca g_51 a_51) H → va_D A (mG ad ca g_51 a_51) → va_S A s.heap H locs → lv_has ls 7 [(4, .int (iI v4_51)), (0, .ref (ad 0)), (1, .int (iI p1)), (2, .int (iI p2)), (3, .int (iI p3))] → W p l e ({ frames := 9, cells := 0, slots := 0, locals := 218 }) s m ([.ref (ad 0), .int (iI p1), .int (iI p2), .int (iI p3)] : List Value).toArray below meth c H locs 0 0 Q (F0 m 51 ls []) := by
              intro n51
              induction n51 with
              | zero =>
                intro v4_51 g_51 a_51 H locs ls h_27 h_28 t_29 h_30 h_31 hI hfA haA hm51 hP hD hS hl
                have b_32 : g_51 50 = g 50 := hfA 50 (by decide)
                exfalso; omega
              | succ n51 ih51 =>
                intro v4_51 g_51 a_51 H locs ls h_33 h_34 t_35 h_36 h_37 hI hfA haA hm51 hP hD hS hl
                have b_38 : g_51 50 = g 50 := hfA 50 (by decide)
                refine lv_iload hx hb dX13_gives_51 (lv_at hl 0 rfl) ?_
                refine lv_bipush (v := iI 30) hx hb dX13_gives_53 rfl ?_
                refine xr_icmp_ge (tgt := 196) hx hb dX13_gives_55 (by decide) (by omega) (by omega) (fun h_39 => ?_) (fun h_39 => ?_)
                · refine lv_iconst (v := iI 0) hx hb dX13_gives_196 rfl ?_
                  refine lv_istore (lv' := [(4, .int (iI 0)), (0, .ref (ad 0)), (1, .int (iI p1)), (2, .int (iI p2)), (3, .int (iI p3))]) hx hb dX13_gives_197 hl (by decide) rfl (fun ls hl => ?_)
                  have L199 : ∀ (n199 : Nat) (v4_199 : Int) (g_199 : Nat → Int) (a_199 : Nat → Int → Int) (H : Heap) (locs : List Loc) (ls : Array Slot), (0 ≤ v4_199 ∧ v4_199 ≤ 2147483647) → (rFQ3 (g_199 97) (g_199 50) (a_199 72)) → (g_199 50 = g 50) → (mI g_199 a_199) → (∀ j, j ∉ ([96, 97, 98, 99, 100] : List Nat) → g_199 j = g j) → (∀ j, j ∉ ([62, 63, 64, 71, 72, 73, 74, 75] : List Nat) → a_199 j = a j) → (0 < (n199 : Int) ∧ (g_199 50) - v4_199 < (n199 : Int)) → va_P (dC, dI) vwCl (mG ad ca g_199 a_199) H → va_D A (mG ad ca g_199 a_199) → va_S A s.heap H locs → lv_has ls 7 [(4, .int (iI v4_199)), (0, .ref (ad 0)), (1, .int (iI p1)), (2, .int (iI p2)), (3, .int (iI p3))] → W p l e ({ frames := 9, cells := 0, slots := 0, locals := 218 }) s m ([.ref (ad 0), .int (iI p1), .int (iI p2), .int (iI p3)] : List Value).toArray below meth c H locs 0 0 Q (F0 m 199 ls []) := by
                    intro n199
                    induction n199 with
                    | zero =>
                      intro v4_199 g_199 a_199 H locs ls h_40 h_41 h_42 hI hfA haA hm199 hP hD hS hl
                      have b_43 : g_199 50 = g 50 := hfA 50 (by decide)
                      exfalso; omega
                    | succ n199 ih199 =>
                      intro v4_199 g_199 a_199 H locs ls h_44 h_45 h_46 hI hfA haA hm199 hP hD hS hl
                      have b_47 : g_199 50 = g 50 := hfA 50 (by decide)
                      refine lv_iload hx hb dX13_gives_199 (lv_at hl 0 rfl) ?_
                      refine lv_aload_n hx hb dX13_gives_201 rfl (lv_at hl 1 rfl) ?_
                      refine gf_hands hx hb hj hown hK hP hI dX13_gives_202 (fun h_48 => ?_)
                      refine xr_icmp_ge (tgt := 268) hx hb dX13_gives_205 (by decide) (by omega) (by omega) (fun h_49 => ?_) (fun h_49 => ?_)
                      · refine lv_iconst (v := iI 1) hx hb dX13_gives_268 rfl ?_
                        refine lv_istore (lv' := [(4, .int (iI 1)), (0, .ref (ad 0)), (1, .int (iI p1)), (2, .int (iI p2)), (3, .int (iI p3))]) hx hb dX13_gives_269 hl (by decide) rfl (fun ls hl => ?_)
                        refine lv_iconst (v := iI 0) hx hb dX13_gives_271 rfl ?_
                        refine lv_istore (lv' := [(5, .int (iI 0)), (4, .int (iI 1)), (0, .ref (ad 0)), (1, .int (iI p1)), (2, .int (iI p2)), (3, .int (iI p3))]) hx hb dX13_gives_272 hl (by decide) rfl (fun ls hl => ?_)
                        have L274 : ∀ (n274 : Nat) (v5_274 v4_274 : Int) (a_274 : Nat → Int → Int) (H : Heap) (locs : List Loc) (ls : Array Slot), (0 ≤ v5_274 ∧ v5_274 ≤ 2147483647) → ((-2147483648) ≤ v4_274 ∧ v4_274 ≤ 2147483647) → (a_274 72 = a_199 72) → (mI g_199 a_274) → (∀ j, j ∉ ([62, 63, 64, 71, 72, 73, 74, 75] : List Nat) → a_274 j = a j) → (0 < (n274 : Int) ∧ (g_199 96) - v5_274 < (n274 : Int)) → va_P (dC, dI) vwCl (mG ad ca g_199 a_274) H → va_D A (mG ad ca g_199 a_274) → va_S A s.heap H locs → lv_has ls 7 [(5, .int (iI v5_274)), (4, .int (iI v4_274)), (0, .ref (ad 0)), (1, .int (iI p1)), (2, .int (iI p2)), (3, .int (iI p3))] → W p l e ({ frames := 9, cells := 0, slots := 0, locals := 218 }) s m ([.ref (ad 0), .int (iI p1), .int (iI p2), .int (iI p3)] : List Value).toArray below meth c H locs 0 0 Q (F0 m 274 ls []) := by
                          intro n274
                          induction n274 with
                          | zero =>
                            intro v5_274 v4_274 a_274 H locs ls h_50 h_51 t_52 hI haA hm274 hP hD hS hl
                            exfalso; omega
                          | succ n274 ih274 =>
                            intro v5_274 v4_274 a_274 H locs ls h_53 h_54 t_55 hI haA hm274 hP hD hS hl
                            refine lv_iload hx hb dX13_gives_274 (lv_at hl 0 rfl) ?_
                            refine lv_aload_n hx hb dX13_gives_276 rfl (lv_at hl 2 rfl) ?_
                            refine gf_fewMany hx hb hj hown hK hP hI dX13_gives_277 (fun h_56 => ?_)
                            refine xr_icmp_ge (tgt := 349) hx hb dX13_gives_280 (by decide) (by omega) (by omega) (fun h_57 => ?_) (fun h_57 => ?_)
                            · refine lv_aload_n hx hb dX13_gives_349 rfl (lv_at hl 2 rfl) ?_
                              refine lv_iconst (v := iI (-1)) hx hb dX13_gives_350 rfl ?_
                              refine pa_bestMany hx hb hj hown hK hP hD hS hI dX13_gives_351 (fun g_58 z_61 H locs h_62 h_63 e_59 e_60 hI hP hD hS => ?_)
                              have hfA : ∀ j, j ∉ ([96, 97, 98, 99, 100] : List Nat) → g_58 j = g j := fun j h => (e_59 j (fun q => h (q ▸ (by decide : 99 ∈ ([96, 97, 98, 99, 100] : List Nat))))).trans (hfA j h)
                              have b_64 := e_59 96 (by decide)
                              have b_65 := e_59 97 (by decide)
                              have b_66 : g_58 50 = g 50 := hfA 50 (by decide)
                              have b_67 := e_59 97 (by decide)
                              have b_68 := e_59 50 (by decide)
                              refine lv_iconst (v := iI 0) hx hb dX13_gives_354 rfl ?_
                              refine lv_istore (lv' := [(5, .int (iI 0)), (4, .int (iI v4_274)), (0, .ref (ad 0)), (1, .int (iI p1)), (2, .int (iI p2)), (3, .int (iI p3))]) hx hb dX13_gives_355 hl (by decide) rfl (fun ls hl => ?_)
                              have L357 : ∀ (n357 : Nat) (v5_357 : Int) (g_357 : Nat → Int) (a_357 : Nat → Int → Int) (H : Heap) (locs : List Loc) (ls : Array Slot), (0 ≤ v5_357 ∧ v5_357 ≤ 2147483647) → (a_357 72 = a_199 72) → (g_357 97 = g_199 97) → (g_357 50 = g 50) → (mI g_357 a_357) → (∀ j, j ∉ ([96, 97, 98, 99, 100] : List Nat) → g_357 j = g j) → (∀ j, j ∉ ([62, 63, 64, 71, 72, 73, 74, 75] : List Nat) → a_357 j = a j) → (0 < (n357 : Int) ∧ v4_274 - v5_357 < (n357 : Int)) → va_P (dC, dI) vwCl (mG ad ca g_357 a_357) H → va_D A (mG ad ca g_357 a_357) → va_S A s.heap H locs → lv_has ls 7 [(5, .int (iI v5_357)), (4, .int (iI v4_274)), (0, .ref (ad 0)), (1, .int (iI p1)), (2, .int (iI p2)), (3, .int (iI p3))] → W p l e ({ frames := 9, cells := 0, slots := 0, locals := 218 }) s m ([.ref (ad 0), .int (iI p1), .int (iI p2), .int (iI p3)] : List Value).toArray below meth c H locs 0 0 Q (F0 m 357 ls []) := by
                                intro n357
                                induction n357 with
                                | zero =>
                                  intro v5_357 g_357 a_357 H locs ls h_69 t_70 h_71 h_72 hI hfA haA hm357 hP hD hS hl
                                  have b_73 : g_357 50 = g 50 := hfA 50 (by decide)
                                  exfalso; omega
                                | succ n357 ih357 =>
                                  intro v5_357 g_357 a_357 H locs ls h_74 t_75 h_76 h_77 hI hfA haA hm357 hP hD hS hl
                                  have b_78 : g_357 50 = g 50 := hfA 50 (by decide)
                                  refine lv_iload hx hb dX13_gives_357 (lv_at hl 0 rfl) ?_
                                  refine lv_iload hx hb dX13_gives_359 (lv_at hl 1 rfl) ?_
                                  refine xr_icmp_ge (tgt := 377) hx hb dX13_gives_361 (by decide) (by omega) (by omega) (fun h_79 => ?_) (fun h_79 => ?_)
                                  · refine lv_iconst (v := iI 1) hx hb dX13_gives_377 rfl ?_
                                    rw [← hQ]
                                    exact W.zret (v := iI 1) (ty := .boolean) hx hb hr (nb_bool (by omega) (by omega)) (fun t ht hW => ⟨⟨iI 1, (g_357, a_357), rfl, ⟨1, rfl, hI, hfA, haA, by omega⟩, by rw [ht]; exact hP, va_K.moved hW.alike hK, hD⟩, hS.F ht⟩) hS.2.2 dX13_gives_378
                                  · have hrFHc : rFH g_357 a_357 := rFH_of (show rFQ3 _ _ _ by assumption) t_75 (by omega) hrSkill (haA 38 (by decide)) (by omega)
                                    refine lv_aload_n hx hb dX13_gives_364 rfl (lv_at hl 2 rfl) ?_
                                    refine lv_iload hx hb dX13_gives_365 (lv_at hl 0 rfl) ?_
                                    refine lv_iload_n hx hb dX13_gives_367 rfl (lv_at hl 5 rfl) ?_
                                    refine jcg_v (va_runV (As := [.int (iI v5_357), .int (iI p3)]) (rest := []) ⟨hx, hb, hml, hown, hts⟩ (sX13_way l dC dI _ ad ca g_357 a_357 v5_357 p3 hI (by omega) (by omega) (by omega) hrFHc) (cwV 2 hts (jgoodV m_281 m_496 m_497 m_503 m_216) rfl rfl rfl (by decide +kernel) ⟨(Nat.le_of_ble_eq_true rfl), (Nat.le_of_ble_eq_true rfl)⟩) ⟨jw_blind, va_recv hK hP (ci := 13) (q0 := 0) rfl rfl, fun U hU hW => ⟨rfl, jw_of hU hW hP hK hD⟩⟩ rfl rfl hl.1 rfl (lv_room (Nat.le_of_ble_eq_true rfl)) dX13_gives_368 ⟨(Nat.le_of_ble_eq_true rfl), (Nat.le_of_ble_eq_true rfl)⟩) hD hS hA (fun u_85 H locs w_81 hP hK hD hS => ?_)
                                    obtain ⟨g_83, a_84⟩ := u_85
                                    obtain ⟨hI, hfr_86, hfr_87⟩ := w_81
                                    have hP : va_P (dC, dI) vwCl (mG ad ca g_83 a_84) H := hP
                                    have hD : va_D A (mG ad ca g_83 a_84) := hD
                                    have hfA : ∀ j, j ∉ ([96, 97, 98, 99, 100] : List Nat) → g_83 j = g j := fun j h => (hfr_86 j (fun q => h (by first | exact q | (simp only [List.mem_cons, List.not_mem_nil, or_false] at q ⊢ <;> omega)))).trans (hfA j h)
                                    have b_89 : g_83 50 = g 50 := hfA 50 (by decide)
                                    have b_90 := hfr_86 96 (by decide)
                                    have b_91 := hfr_86 97 (by decide)
                                    have haA : ∀ j, j ∉ ([62, 63, 64, 71, 72, 73, 74, 75] : List Nat) → a_84 j = a j := fun j h => (hfr_87 j (fun q => h (by first | exact q | (simp only [List.mem_cons, List.not_mem_nil, or_false] at q ⊢ <;> omega)))).trans (haA j h)
                                    have b_92 : g_83 97 = g_357 97 := hfr_86 97 (by decide)
                                    have b_93 : g_83 50 = g_357 50 := hfr_86 50 (by decide)
                                    have t_94 : a_84 72 = a_199 72 := (hfr_87 72 (by decide)).trans t_75
                                    refine lv_iinc (v := iI (v5_357 + 1)) (lv' := [(5, .int (iI (v5_357 + 1))), (4, .int (iI v4_274)), (0, .ref (ad 0)), (1, .int (iI p1)), (2, .int (iI p2)), (3, .int (iI p3))]) hx hb dX13_gives_371 hl (k := 0) rfl (iI_add _ _) (by decide) rfl (fun ls hl => ?_)
                                    refine lv_goto (tgt := 357) hx hb dX13_gives_374 (by decide) ?_
                                    exact ih357 (v5_357 + 1) g_83 a_84 H locs ls (by omega) t_94 (by omega) (by omega) hI hfA haA (by omega) hP hD hS hl
                              exact L357 (((v4_274 - 0 : Int)).toNat + 1) 0 g_58 a_274 H locs ls (by omega) t_55 (by omega) (by omega) hI hfA haA (by omega) hP hD hS hl
                            · refine lv_iload hx hb dX13_gives_283 (lv_at hl 1 rfl) ?_
                              refine lv_aload_n hx hb dX13_gives_285 rfl (lv_at hl 2 rfl) ?_
                              refine gf_handMany hx hb hj hown hK hP hI dX13_gives_286 (fun h_95 => ?_)
                              refine lv_iconst (v := iI 1) hx hb dX13_gives_289 rfl ?_
                              refine xr_add hx hb dX13_gives_290 ?_
                              refine xr_mul hx hb dX13_gives_291 ?_
                              refine xr_kept (fun z_96 h_97 h_98 => ?_)
                              refine lv_istore (lv' := [(4, .int (iI z_96)), (5, .int (iI v5_274)), (0, .ref (ad 0)), (1, .int (iI p1)), (2, .int (iI p2)), (3, .int (iI p3))]) hx hb dX13_gives_292 hl (by decide) rfl (fun ls hl => ?_)
                              refine lv_iconst (v := iI 0) hx hb dX13_gives_294 rfl ?_
                              refine lv_istore (lv' := [(6, .int (iI 0)), (4, .int (iI z_96)), (5, .int (iI v5_274)), (0, .ref (ad 0)), (1, .int (iI p1)), (2, .int (iI p2)), (3, .int (iI p3))]) hx hb dX13_gives_295 hl (by decide) rfl (fun ls hl => ?_)
                              have L297 : ∀ (n297 : Nat) (v6_297 : Int) (a_297 : Nat → Int → Int) (H : Heap) (locs : List Loc) (ls : Array Slot), (0 ≤ v6_297 ∧ v6_297 ≤ 2147483647) → (a_297 72 = a_199 72) → (mI g_199 a_297) → (∀ j, j ∉ ([62, 63, 64, 71, 72, 73, 74, 75] : List Nat) → a_297 j = a j) → (0 < (n297 : Int) ∧ (g_199 97) - v6_297 < (n297 : Int)) → va_P (dC, dI) vwCl (mG ad ca g_199 a_297) H → va_D A (mG ad ca g_199 a_297) → va_S A s.heap H locs → lv_has ls 7 [(6, .int (iI v6_297)), (4, .int (iI z_96)), (5, .int (iI v5_274)), (0, .ref (ad 0)), (1, .int (iI p1)), (2, .int (iI p2)), (3, .int (iI p3))] → W p l e ({ frames := 9, cells := 0, slots := 0, locals := 218 }) s m ([.ref (ad 0), .int (iI p1), .int (iI p2), .int (iI p3)] : List Value).toArray below meth c H locs 0 0 Q (F0 m 297 ls []) := by
                                intro n297
                                induction n297 with
                                | zero =>
                                  intro v6_297 a_297 H locs ls h_99 t_100 hI haA hm297 hP hD hS hl
                                  exfalso; omega
                                | succ n297 ih297 =>
                                  intro v6_297 a_297 H locs ls h_101 t_102 hI haA hm297 hP hD hS hl
                                  refine lv_iload hx hb dX13_gives_297 (lv_at hl 0 rfl) ?_
                                  refine lv_aload_n hx hb dX13_gives_299 rfl (lv_at hl 3 rfl) ?_
                                  refine gf_handMany hx hb hj hown hK hP hI dX13_gives_300 (fun h_103 => ?_)
                                  refine xr_icmp_ge (tgt := 343) hx hb dX13_gives_303 (by decide) (by omega) (by omega) (fun h_104 => ?_) (fun h_104 => ?_)
                                  · refine lv_iinc (v := iI (v5_274 + 1)) (lv' := [(5, .int (iI (v5_274 + 1))), (6, .int (iI v6_297)), (4, .int (iI z_96)), (0, .ref (ad 0)), (1, .int (iI p1)), (2, .int (iI p2)), (3, .int (iI p3))]) hx hb dX13_gives_343 hl (k := 2) rfl (iI_add _ _) (by decide) rfl (fun ls hl => ?_)
                                    refine lv_goto (tgt := 274) hx hb dX13_gives_346 (by decide) ?_
                                    exact ih274 (v5_274 + 1) z_96 a_297 H locs ls (by omega) (by omega) t_102 hI haA (by omega) hP hD hS (lv_sub hl [0, 2, 3, 4, 5, 6] rfl)
                                  · refine lv_aload_n hx hb dX13_gives_306 rfl (lv_at hl 3 rfl) ?_
                                    refine gf_can hx hb hj hown hK hP dX13_gives_307 ?_
                                    refine lv_bipush (v := iI 6) hx hb dX13_gives_310 rfl ?_
                                    refine lv_iload hx hb dX13_gives_312 (lv_at hl 2 rfl) ?_
                                    refine xr_mul hx hb dX13_gives_314 ?_
                                    refine lv_iload hx hb dX13_gives_315 (lv_at hl 0 rfl) ?_
                                    refine xr_add hx hb dX13_gives_317 ?_
                                    refine lv_aload_n hx hb dX13_gives_318 rfl (lv_at hl 3 rfl) ?_
                                    refine lv_aload_n hx hb dX13_gives_319 rfl (lv_at hl 3 rfl) ?_
                                    refine gf_few hx hb hj hown hK hP dX13_gives_320 ?_
                                    refine lv_iload hx hb dX13_gives_323 (lv_at hl 2 rfl) ?_
                                    refine ld_few hx hb hK hP hI (by omega) (by omega) dX13_gives_325 (fun h_105 => ?_)
                                    refine lv_aload_n hx hb dX13_gives_326 rfl (lv_at hl 3 rfl) ?_
                                    refine gf_fewHands hx hb hj hown hK hP dX13_gives_327 ?_
                                    refine lv_iload hx hb dX13_gives_330 (lv_at hl 0 rfl) ?_
                                    refine ld_fewHands hx hb hK hP hI (by omega) (by omega) dX13_gives_332 (fun h_106 => ?_)
                                    refine jcg_i (va_runV (As := [.int (iI (a_297 71 v5_274)), .int (iI (a_297 72 v6_297))]) (rest := [.int (iI ((6 * v5_274) + v6_297)), .ref (ad 73)]) ⟨hx, hb, hml, hown, hts⟩ (sX13_mayBeGiven l dC dI _ ad ca g_199 a_297 (a_297 71 v5_274) (a_297 72 v6_297) hI (by omega) (by omega) (rSh_t (hfA 18 (by decide)) (hfA 26 (by decide)) (haA 9 (by decide)) (haA 10 (by decide)) (haA 11 (by decide)) (haA 12 (by decide)) (haA 16 (by decide)) hrSh)) (cwV 2 hts (jgoodV m_268 m_420 m_421 m_503 m_177) rfl rfl rfl (by decide +kernel) ⟨(Nat.le_of_ble_eq_true rfl), (Nat.le_of_ble_eq_true rfl)⟩) ⟨jw_blind, va_recv hK hP (ci := 13) (q0 := 0) rfl rfl, fun U hU hW => ⟨rfl, jw_of hU hW hP hK hD⟩⟩ rfl rfl hl.1 rfl (lv_room (Nat.le_of_ble_eq_true rfl)) dX13_gives_333 ⟨(Nat.le_of_ble_eq_true rfl), (Nat.le_of_ble_eq_true rfl)⟩) hD hS hA (fun r_107 u_114 H locs w_108 hP hK hD hS => ?_)
                                    obtain ⟨g_112, a_113⟩ := u_114
                                    obtain ⟨z_109, rfl, e_116, hI, hfr_115, h_110, h_111⟩ := w_108
                                    have hP : va_P (dC, dI) vwCl (mG ad ca g_112 a_113) H := hP
                                    have hD : va_D A (mG ad ca g_112 a_113) := hD
                                    have e_116 : g_199 = g_112 := e_116.symm
                                    subst e_116
                                    have haA : ∀ j, j ∉ ([62, 63, 64, 71, 72, 73, 74, 75] : List Nat) → a_113 j = a j := fun j h => (hfr_115 j (fun q => h (by first | exact q | (simp only [List.mem_cons, List.not_mem_nil, or_false] at q ⊢ <;> omega)))).trans (haA j h)
                                    have t_117 : a_113 72 = a_199 72 := (hfr_115 72 (by decide)).trans t_102
                                    have b_118 : 0 ≤ g_199 37 ∧ g_199 37 ≤ 60 := hI.1 37
                                    have b_119 : 0 ≤ g_199 50 ∧ g_199 50 ≤ 12 := hI.1 50
                                    refine st_can hx hb hK hP hD hS hI (by omega) (by omega) (by omega) (by omega) dX13_gives_336 (fun a_120 H locs e_121 e_122 hI hP hD hS => ?_)
                                    have haA : ∀ j, j ∉ ([62, 63, 64, 71, 72, 73, 74, 75] : List Nat) → a_120 j = a j := fun j h => (e_121 j (fun q => h (q ▸ (by decide : 73 ∈ ([62, 63, 64, 71, 72, 73, 74, 75] : List Nat))))).trans (haA j h)
                                    have t_123 : a_120 72 = a_199 72 := (e_121 72 (by decide)).trans t_117
                                    refine lv_iinc (v := iI (v6_297 + 1)) (lv' := [(6, .int (iI (v6_297 + 1))), (4, .int (iI z_96)), (5, .int (iI v5_274)), (0, .ref (ad 0)), (1, .int (iI p1)), (2, .int (iI p2)), (3, .int (iI p3))]) hx hb dX13_gives_337 hl (k := 0) rfl (iI_add _ _) (by decide) rfl (fun ls hl => ?_)
                                    refine lv_goto (tgt := 297) hx hb dX13_gives_340 (by decide) ?_
                                    exact ih297 (v6_297 + 1) a_120 H locs ls (by omega) t_123 hI haA (by omega) hP hD hS hl
                              exact L297 ((((g_199 97) - 0 : Int)).toNat + 1) 0 a_274 H locs ls (by omega) t_55 hI haA (by omega) hP hD hS hl
                        exact L274 ((((g_199 96) - 0 : Int)).toNat + 1) 0 1 a_199 H locs ls (by omega) (by omega) rfl hI haA (by omega) hP hD hS hl
                      · refine lv_iload_n hx hb dX13_gives_208 rfl (lv_at hl 3 rfl) ?_
                        refine lv_iload hx hb dX13_gives_209 (lv_at hl 0 rfl) ?_
                        refine lv_ishr hx hb dX13_gives_211 ?_
                        refine xr_any (fun z_124 h_125 => ?_)
                        refine lv_iconst (v := iI 1) hx hb dX13_gives_212 rfl ?_
                        refine lv_iand hx hb dX13_gives_213 ?_
                        refine xr_any (fun z_126 h_127 => ?_)
                        have J262 : ∀ (g_262 : Nat → Int) (a_262 : Nat → Int → Int) (H : Heap) (locs : List Loc) (ls : Array Slot), (rFQ3 (g_262 97) (g_262 50) (a_262 72)) → (g_262 50 = g 50) → (mI g_262 a_262) → (∀ j, j ∉ ([96, 97, 98, 99, 100] : List Nat) → g_262 j = g j) → (∀ j, j ∉ ([62, 63, 64, 71, 72, 73, 74, 75] : List Nat) → a_262 j = a j) → va_P (dC, dI) vwCl (mG ad ca g_262 a_262) H → va_D A (mG ad ca g_262 a_262) → va_S A s.heap H locs → lv_has ls 7 [(4, .int (iI v4_199)), (0, .ref (ad 0)), (1, .int (iI p1)), (2, .int (iI p2)), (3, .int (iI p3))] → W p l e ({ frames := 9, cells := 0, slots := 0, locals := 218 }) s m ([.ref (ad 0), .int (iI p1), .int (iI p2), .int (iI p3)] : List Value).toArray below meth c H locs 0 0 Q (F0 m 262 ls []) := by
                          intro g_262 a_262 H locs ls h_128 h_129 hI hfA haA hP hD hS hl
                          have b_130 : g_262 50 = g 50 := hfA 50 (by decide)
                          refine lv_iinc (v := iI (v4_199 + 1)) (lv' := [(4, .int (iI (v4_199 + 1))), (0, .ref (ad 0)), (1, .int (iI p1)), (2, .int (iI p2)), (3, .int (iI p3))]) hx hb dX13_gives_262 hl (k := 0) rfl (iI_add _ _) (by decide) rfl (fun ls hl => ?_)
                          refine lv_goto (tgt := 199) hx hb dX13_gives_265 (by decide) ?_
                          exact ih199 (v4_199 + 1) g_262 a_262 H locs ls (by omega) (by first | assumption | exact rFQ3_0 (by omega) | exact rFQ3_s (by assumption) (by assumption) (by omega) (by omega) (by omega) (by omega)) (by omega) hI hfA haA (by omega) hP hD hS hl
                        refine xr_if_ne (tgt := 220) hx hb dX13_gives_214 (by decide) (by omega) (fun h_131 => ?_) (fun h_131 => ?_)
                        · refine lv_aload_n hx hb dX13_gives_220 rfl (lv_at hl 1 rfl) ?_
                          refine gf_isDead hx hb hj hown hK hP dX13_gives_221 ?_
                          refine lv_iload hx hb dX13_gives_224 (lv_at hl 0 rfl) ?_
                          refine ld_isDead hx hb hK hP hI (by omega) (by omega) dX13_gives_226 (fun h_132 => ?_)
                          refine xr_if_ne (tgt := 239) hx hb dX13_gives_227 (by decide) (by omega) (fun h_133 => ?_) (fun h_133 => ?_)
                          · refine lv_iconst (v := iI 0) hx hb dX13_gives_239 rfl ?_
                            rw [← hQ]
                            exact W.zret (v := iI 0) (ty := .boolean) hx hb hr (nb_bool (by omega) (by omega)) (fun t ht hW => ⟨⟨iI 0, (g_199, a_199), rfl, ⟨0, rfl, hI, hfA, haA, by omega⟩, by rw [ht]; exact hP, va_K.moved hW.alike hK, hD⟩, hS.F ht⟩) hS.2.2 dX13_gives_240
                          · refine lv_aload_n hx hb dX13_gives_230 rfl (lv_at hl 1 rfl) ?_
                            refine gf_handMany hx hb hj hown hK hP hI dX13_gives_231 (fun h_134 => ?_)
                            refine lv_bipush (v := iI 6) hx hb dX13_gives_234 rfl ?_
                            refine xr_icmp_ne (tgt := 241) hx hb dX13_gives_236 (by decide) (by omega) (by omega) (fun h_135 => ?_) (fun h_135 => ?_)
                            · refine lv_aload_n hx hb dX13_gives_241 rfl (lv_at hl 1 rfl) ?_
                              refine gf_fewHands hx hb hj hown hK hP dX13_gives_242 ?_
                              refine lv_aload_n hx hb dX13_gives_245 rfl (lv_at hl 1 rfl) ?_
                              refine gf_handMany hx hb hj hown hK hP hI dX13_gives_246 (fun h_136 => ?_)
                              refine lv_iload hx hb dX13_gives_249 (lv_at hl 0 rfl) ?_
                              refine st_fewHands hx hb hK hP hD hS hI (by omega) (by omega) (by omega) (by omega) dX13_gives_251 (fun a_137 H locs e_138 e_139 hI hP hD hS => ?_)
                              have haA : ∀ j, j ∉ ([62, 63, 64, 71, 72, 73, 74, 75] : List Nat) → a_137 j = a j := fun j h => (e_138 j (fun q => h (q ▸ (by decide : 72 ∈ ([62, 63, 64, 71, 72, 73, 74, 75] : List Nat))))).trans (haA j h)
                              have t_140 : a_137 72 = up (a_199 72) (g_199 97) v4_199 := e_139.trans (up_c rfl (by omega) (by omega))
                              refine lv_aload_n hx hb dX13_gives_252 rfl (lv_at hl 1 rfl) ?_
                              refine lv_dup hx hb dX13_gives_253 rfl ?_
                              refine gf_handMany hx hb hj hown hK hP hI dX13_gives_254 (fun h_141 => ?_)
                              refine lv_iconst (v := iI 1) hx hb dX13_gives_257 rfl ?_
                              refine xr_add hx hb dX13_gives_258 ?_
                              refine pf_handMany hx hb hj hown hK hP hD hS hI (by omega) (by omega) dX13_gives_259 (fun g_142 H locs e_143 e_144 hI hP hD hS => ?_)
                              have hfA : ∀ j, j ∉ ([96, 97, 98, 99, 100] : List Nat) → g_142 j = g j := fun j h => (e_143 j (fun q => h (q ▸ (by decide : 97 ∈ ([96, 97, 98, 99, 100] : List Nat))))).trans (hfA j h)
                              have b_145 := e_143 96 (by decide)
                              have b_146 : g_142 50 = g 50 := hfA 50 (by decide)
                              have b_147 := e_143 50 (by decide)
                              exact J262 g_142 a_137 H locs ls (by first | assumption | exact rFQ3_0 (by omega) | exact rFQ3_s (by assumption) (by assumption) (by omega) (by omega) (by omega) (by omega)) (by omega) hI hfA haA hP hD hS hl
                            · refine lv_iconst (v := iI 0) hx hb dX13_gives_239 rfl ?_
                              rw [← hQ]
                              exact W.zret (v := iI 0) (ty := .boolean) hx hb hr (nb_bool (by omega) (by omega)) (fun t ht hW => ⟨⟨iI 0, (g_199, a_199), rfl, ⟨0, rfl, hI, hfA, haA, by omega⟩, by rw [ht]; exact hP, va_K.moved hW.alike hK, hD⟩, hS.F ht⟩) hS.2.2 dX13_gives_240
                        · refine lv_goto (tgt := 262) hx hb dX13_gives_217 (by decide) ?_
                          exact J262 g_199 a_199 H locs ls (by first | assumption | exact rFQ3_0 (by omega) | exact rFQ3_s (by assumption) (by assumption) (by omega) (by omega) (by omega) (by omega)) (by omega) hI hfA haA hP hD hS hl
                  exact L199 ((((g_51 50) - 0 : Int)).toNat + 1) 0 g_51 a_51 H locs ls (by omega) (by first | assumption | exact rFQ3_0 (by omega) | exact rFQ3_s (by assumption) (by assumption) (by omega) (by omega) (by omega) (by omega)) (by omega) hI hfA haA (by omega) hP hD hS hl
                · refine lv_iload_n hx hb dX13_gives_58 rfl (lv_at hl 2 rfl) ?_
                  refine lv_iload hx hb dX13_gives_59 (lv_at hl 0 rfl) ?_
                  refine lv_ishr hx hb dX13_gives_61 ?_
                  refine xr_any (fun z_148 h_149 => ?_)
                  refine lv_iconst (v := iI 1) hx hb dX13_gives_62 rfl ?_
                  refine lv_iand hx hb dX13_gives_63 ?_
                  refine xr_any (fun z_150 h_151 => ?_)
                  have J190 : ∀ (g_190 : Nat → Int) (a_190 : Nat → Int → Int) (H : Heap) (locs : List Loc) (ls : Array Slot), (g_190 97 = 0) → (a_190 72 = a 72) → (g_190 97 = 0) → (g_190 50 = g 50) → (mI g_190 a_190) → (∀ j, j ∉ ([96, 97, 98, 99, 100] : List Nat) → g_190 j = g j) → (∀ j, j ∉ ([62, 63, 64, 71, 72, 73, 74, 75] : List Nat) → a_190 j = a j) → va_P (dC, dI) vwCl (mG ad ca g_190 a_190) H → va_D A (mG ad ca g_190 a_190) → va_S A s.heap H locs → lv_has ls 7 [(4, .int (iI v4_51)), (0, .ref (ad 0)), (1, .int (iI p1)), (2, .int (iI p2)), (3, .int (iI p3))] → W p l e ({ frames := 9, cells := 0, slots := 0, locals := 218 }) s m ([.ref (ad 0), .int (iI p1), .int (iI p2), .int (iI p3)] : List Value).toArray below meth c H locs 0 0 Q (F0 m 190 ls []) := by
                    intro g_190 a_190 H locs ls h_152 t_153 h_154 h_155 hI hfA haA hP hD hS hl
                    have b_156 : g_190 50 = g 50 := hfA 50 (by decide)
                    refine lv_iinc (v := iI (v4_51 + 1)) (lv' := [(4, .int (iI (v4_51 + 1))), (0, .ref (ad 0)), (1, .int (iI p1)), (2, .int (iI p2)), (3, .int (iI p3))]) hx hb dX13_gives_190 hl (k := 0) rfl (iI_add _ _) (by decide) rfl (fun ls hl => ?_)
                    refine lv_goto (tgt := 51) hx hb dX13_gives_193 (by decide) ?_
                    exact ih51 (v4_51 + 1) g_190 a_190 H locs ls (by omega) (by omega) t_153 (by omega) (by omega) hI hfA haA (by omega) hP hD hS hl
                  refine xr_if_ne (tgt := 70) hx hb dX13_gives_64 (by decide) (by omega) (fun h_157 => ?_) (fun h_157 => ?_)
                  · refine lv_aload_n hx hb dX13_gives_70 rfl (lv_at hl 1 rfl) ?_
                    refine lv_iload hx hb dX13_gives_71 (lv_at hl 0 rfl) ?_
                    refine jc_i (va_runV (As := [.int (iI v4_51)]) (rest := []) ⟨hx, hb, hml, hown, hts⟩ (sX13_isArticle l dC dI _ ad ca g_51 a_51 v4_51 hI (by omega)) (cwV 1 hts (jgoodV m_266 m_373 m_374 m_503 m_152) rfl rfl rfl (by decide +kernel) ⟨(Nat.le_of_ble_eq_true rfl), (Nat.le_of_ble_eq_true rfl)⟩) ⟨jw_blind, va_recv hK hP (ci := 13) (q0 := 0) rfl rfl, fun U hU hW => ⟨rfl, jw_of hU hW hP hK hD⟩⟩ rfl rfl hl.1 rfl (lv_room (Nat.le_of_ble_eq_true rfl)) dX13_gives_73 ⟨(Nat.le_of_ble_eq_true rfl), (Nat.le_of_ble_eq_true rfl)⟩) hP hS hA (fun r_158 H locs w_159 hP hS => ?_)
                    obtain ⟨z_160, rfl, h_161, h_162⟩ := w_159
                    have b_163 : 0 ≤ g_51 37 ∧ g_51 37 ≤ 60 := hI.1 37
                    refine xr_if_eq (tgt := 144) hx hb dX13_gives_76 (by decide) (by omega) (fun h_164 => ?_) (fun h_164 => ?_)
                    · refine lv_iconst (v := iI 0) hx hb dX13_gives_144 rfl ?_
                      rw [← hQ]
                      exact W.zret (v := iI 0) (ty := .boolean) hx hb hr (nb_bool (by omega) (by omega)) (fun t ht hW => ⟨⟨iI 0, (g_51, a_51), rfl, ⟨0, rfl, hI, hfA, haA, by omega⟩, by rw [ht]; exact hP, va_K.moved hW.alike hK, hD⟩, hS.F ht⟩) hS.2.2 dX13_gives_145
                    · refine lv_aload_n hx hb dX13_gives_79 rfl (lv_at hl 1 rfl) ?_
                      refine gf_isStruck hx hb hj hown hK hP dX13_gives_80 ?_
                      refine lv_iload hx hb dX13_gives_83 (lv_at hl 0 rfl) ?_
                      refine ld_isStruck hx hb hK hP hI (by omega) (by omega) dX13_gives_85 (fun h_165 => ?_)
                      refine xr_if_ne (tgt := 144) hx hb dX13_gives_86 (by decide) (by omega) (fun h_166 => ?_) (fun h_166 => ?_)
                      · refine lv_iconst (v := iI 0) hx hb dX13_gives_144 rfl ?_
                        rw [← hQ]
                        exact W.zret (v := iI 0) (ty := .boolean) hx hb hr (nb_bool (by omega) (by omega)) (fun t ht hW => ⟨⟨iI 0, (g_51, a_51), rfl, ⟨0, rfl, hI, hfA, haA, by omega⟩, by rw [ht]; exact hP, va_K.moved hW.alike hK, hD⟩, hS.F ht⟩) hS.2.2 dX13_gives_145
                      · refine lv_aload_n hx hb dX13_gives_89 rfl (lv_at hl 1 rfl) ?_
                        refine gf_setWith hx hb hj hown hK hP dX13_gives_90 ?_
                        refine lv_iload hx hb dX13_gives_93 (lv_at hl 0 rfl) ?_
                        refine ld_setWith hx hb hK hP hI (by omega) (by omega) dX13_gives_95 (fun h_167 => ?_)
                        refine lv_iconst (v := iI (-1)) hx hb dX13_gives_96 rfl ?_
                        refine xr_icmp_ne (tgt := 144) hx hb dX13_gives_97 (by decide) (by omega) (by omega) (fun h_168 => ?_) (fun h_168 => ?_)
                        · refine lv_iconst (v := iI 0) hx hb dX13_gives_144 rfl ?_
                          rw [← hQ]
                          exact W.zret (v := iI 0) (ty := .boolean) hx hb hr (nb_bool (by omega) (by omega)) (fun t ht hW => ⟨⟨iI 0, (g_51, a_51), rfl, ⟨0, rfl, hI, hfA, haA, by omega⟩, by rw [ht]; exact hP, va_K.moved hW.alike hK, hD⟩, hS.F ht⟩) hS.2.2 dX13_gives_145
                        · refine lv_aload_n hx hb dX13_gives_100 rfl (lv_at hl 1 rfl) ?_
                          refine lv_iload hx hb dX13_gives_101 (lv_at hl 0 rfl) ?_
                          refine jc_i (va_runV (As := [.int (iI v4_51)]) (rest := []) ⟨hx, hb, hml, hown, hts⟩ (sX13_isDone l dC dI _ ad ca g_51 a_51 v4_51 hI (by omega) (by omega)) (cwV 1 hts (jgoodV m_263 m_376 m_377 m_503 m_154) rfl rfl rfl (by decide +kernel) ⟨(Nat.le_of_ble_eq_true rfl), (Nat.le_of_ble_eq_true rfl)⟩) ⟨jw_blind, va_recv hK hP (ci := 13) (q0 := 0) rfl rfl, fun U hU hW => ⟨rfl, jw_of hU hW hP hK hD⟩⟩ rfl rfl hl.1 rfl (lv_room (Nat.le_of_ble_eq_true rfl)) dX13_gives_103 ⟨(Nat.le_of_ble_eq_true rfl), (Nat.le_of_ble_eq_true rfl)⟩) hP hS hA (fun r_169 H locs w_170 hP hS => ?_)
                          obtain ⟨z_171, rfl, h_172⟩ := w_170
                          refine xr_if_ne (tgt := 144) hx hb dX13_gives_106 (by decide) (by omega) (fun h_173 => ?_) (fun h_173 => ?_)
                          · refine lv_iconst (v := iI 0) hx hb dX13_gives_144 rfl ?_
                            rw [← hQ]
                            exact W.zret (v := iI 0) (ty := .boolean) hx hb hr (nb_bool (by omega) (by omega)) (fun t ht hW => ⟨⟨iI 0, (g_51, a_51), rfl, ⟨0, rfl, hI, hfA, haA, by omega⟩, by rw [ht]; exact hP, va_K.moved hW.alike hK, hD⟩, hS.F ht⟩) hS.2.2 dX13_gives_145
                          · refine lv_aload_n hx hb dX13_gives_109 rfl (lv_at hl 1 rfl) ?_
                            refine gf_givenTo hx hb hj hown hK hP dX13_gives_110 ?_
                            refine lv_iload hx hb dX13_gives_113 (lv_at hl 0 rfl) ?_
                            refine ld_givenTo hx hb hK hP hI (by omega) (by omega) dX13_gives_115 (fun h_174 => ?_)
                            refine lv_iconst (v := iI (-1)) hx hb dX13_gives_116 rfl ?_
                            have J135 : ∀ (H : Heap) (locs : List Loc) (ls : Array Slot), va_P (dC, dI) vwCl (mG ad ca g_51 a_51) H → va_D A (mG ad ca g_51 a_51) → va_S A s.heap H locs → lv_has ls 7 [(4, .int (iI v4_51)), (0, .ref (ad 0)), (1, .int (iI p1)), (2, .int (iI p2)), (3, .int (iI p3))] → W p l e ({ frames := 9, cells := 0, slots := 0, locals := 218 }) s m ([.ref (ad 0), .int (iI p1), .int (iI p2), .int (iI p3)] : List Value).toArray below meth c H locs 0 0 Q (F0 m 135 ls []) := by
                              intro H locs ls hP hD hS hl
                              refine lv_aload_n hx hb dX13_gives_135 rfl (lv_at hl 1 rfl) ?_
                              refine gf_fewMany hx hb hj hown hK hP hI dX13_gives_136 (fun h_175 => ?_)
                              refine lv_bipush (v := iI 7) hx hb dX13_gives_139 rfl ?_
                              refine xr_icmp_ne (tgt := 146) hx hb dX13_gives_141 (by decide) (by omega) (by omega) (fun h_176 => ?_) (fun h_176 => ?_)
                              · refine lv_aload_n hx hb dX13_gives_146 rfl (lv_at hl 1 rfl) ?_
                                refine gf_few hx hb hj hown hK hP dX13_gives_147 ?_
                                refine lv_aload_n hx hb dX13_gives_150 rfl (lv_at hl 1 rfl) ?_
                                refine gf_fewMany hx hb hj hown hK hP hI dX13_gives_151 (fun h_177 => ?_)
                                refine lv_iload hx hb dX13_gives_154 (lv_at hl 0 rfl) ?_
                                refine st_few hx hb hK hP hD hS hI (by omega) (by omega) (by omega) (by omega) dX13_gives_156 (fun a_178 H locs e_179 e_180 hI hP hD hS => ?_)
                                have haA : ∀ j, j ∉ ([62, 63, 64, 71, 72, 73, 74, 75] : List Nat) → a_178 j = a j := fun j h => (e_179 j (fun q => h (q ▸ (by decide : 71 ∈ ([62, 63, 64, 71, 72, 73, 74, 75] : List Nat))))).trans (haA j h)
                                have t_181 : a_178 72 = a 72 := (e_179 72 (by decide)).trans t_35
                                refine lv_aload_n hx hb dX13_gives_157 rfl (lv_at hl 1 rfl) ?_
                                refine gf_lacks hx hb hj hown hK hP dX13_gives_158 ?_
                                refine lv_aload_n hx hb dX13_gives_161 rfl (lv_at hl 1 rfl) ?_
                                refine gf_fewMany hx hb hj hown hK hP hI dX13_gives_162 (fun h_182 => ?_)
                                refine lv_aload_n hx hb dX13_gives_165 rfl (lv_at hl 1 rfl) ?_
                                refine gf_asked hx hb hj hown hK hP dX13_gives_166 ?_
                                refine lv_iload hx hb dX13_gives_169 (lv_at hl 0 rfl) ?_
                                refine ld_asked hx hb hK hP hI (by omega) (by omega) dX13_gives_171 (fun h_183 => ?_)
                                refine lv_aload_n hx hb dX13_gives_172 rfl (lv_at hl 1 rfl) ?_
                                refine lv_iload hx hb dX13_gives_173 (lv_at hl 0 rfl) ?_
                                refine jc_i (va_runV (As := [.int (iI v4_51)]) (rest := [.int (iI (a_178 30 v4_51)), .int (iI (g_51 96)), .ref (ad 75)]) ⟨hx, hb, hml, hown, hts⟩ (sX13_linesOf l dC dI _ ad ca g_51 a_178 v4_51 hI (by omega)) (cwV 1 hts (jgoodV m_262 m_418 m_419 m_503 m_176) rfl rfl rfl (by decide +kernel) ⟨(Nat.le_of_ble_eq_true rfl), (Nat.le_of_ble_eq_true rfl)⟩) ⟨jw_blind, va_recv hK hP (ci := 13) (q0 := 0) rfl rfl, fun U hU hW => ⟨rfl, jw_of hU hW hP hK hD⟩⟩ rfl rfl hl.1 rfl (lv_room (Nat.le_of_ble_eq_true rfl)) dX13_gives_175 ⟨(Nat.le_of_ble_eq_true rfl), (Nat.le_of_ble_eq_true rfl)⟩) hP hS hA (fun r_184 H locs w_185 hP hS => ?_)
                                obtain ⟨z_186, rfl, h_187⟩ := w_185
                                refine xr_sub hx hb dX13_gives_178 ?_
                                refine xr_kept (fun z_188 h_189 h_190 => ?_)
                                refine sa_lacks hx hb hK hP hD hS hI (by omega) (by omega) dX13_gives_179 (fun a_191 z_194 H locs h_195 h_196 e_192 e_193 hI hP hD hS => ?_)
                                have haA : ∀ j, j ∉ ([62, 63, 64, 71, 72, 73, 74, 75] : List Nat) → a_191 j = a j := fun j h => (e_192 j (fun q => h (q ▸ (by decide : 75 ∈ ([62, 63, 64, 71, 72, 73, 74, 75] : List Nat))))).trans (haA j h)
                                have t_197 : a_191 72 = a 72 := (e_192 72 (by decide)).trans t_181
                                refine lv_aload_n hx hb dX13_gives_180 rfl (lv_at hl 1 rfl) ?_
                                refine lv_dup hx hb dX13_gives_181 rfl ?_
                                refine gf_fewMany hx hb hj hown hK hP hI dX13_gives_182 (fun h_198 => ?_)
                                refine lv_iconst (v := iI 1) hx hb dX13_gives_185 rfl ?_
                                refine xr_add hx hb dX13_gives_186 ?_
                                refine pf_fewMany hx hb hj hown hK hP hD hS hI (by omega) (by omega) dX13_gives_187 (fun g_200 H locs e_201 e_202 hI hP hD hS => ?_)
                                have hfA : ∀ j, j ∉ ([96, 97, 98, 99, 100] : List Nat) → g_200 j = g j := fun j h => (e_201 j (fun q => h (q ▸ (by decide : 96 ∈ ([96, 97, 98, 99, 100] : List Nat))))).trans (hfA j h)
                                have b_203 := e_201 97 (by decide)
                                have b_204 : g_200 50 = g 50 := hfA 50 (by decide)
                                have b_205 := e_201 97 (by decide)
                                have b_206 := e_201 50 (by decide)
                                exact J190 g_200 a_191 H locs ls (by omega) t_197 (by omega) (by omega) hI hfA haA hP hD hS hl
                              · refine lv_iconst (v := iI 0) hx hb dX13_gives_144 rfl ?_
                                rw [← hQ]
                                exact W.zret (v := iI 0) (ty := .boolean) hx hb hr (nb_bool (by omega) (by omega)) (fun t ht hW => ⟨⟨iI 0, (g_51, a_51), rfl, ⟨0, rfl, hI, hfA, haA, by omega⟩, by rw [ht]; exact hP, va_K.moved hW.alike hK, hD⟩, hS.F ht⟩) hS.2.2 dX13_gives_145
                            refine xr_icmp_eq (tgt := 135) hx hb dX13_gives_117 (by decide) (by omega) (by omega) (fun h_207 => ?_) (fun h_207 => ?_)
                            · exact J135 H locs ls hP hD hS hl
                            · refine lv_aload_n hx hb dX13_gives_120 rfl (lv_at hl 1 rfl) ?_
                              refine gf_isDead hx hb hj hown hK hP dX13_gives_121 ?_
                              refine lv_aload_n hx hb dX13_gives_124 rfl (lv_at hl 1 rfl) ?_
                              refine gf_givenTo hx hb hj hown hK hP dX13_gives_125 ?_
                              refine lv_iload hx hb dX13_gives_128 (lv_at hl 0 rfl) ?_
                              refine ld_givenTo hx hb hK hP hI (by omega) (by omega) dX13_gives_130 (fun h_208 => ?_)
                              refine ld_isDead hx hb hK hP hI (by omega) (by omega) dX13_gives_131 (fun h_209 => ?_)
                              refine xr_if_eq (tgt := 144) hx hb dX13_gives_132 (by decide) (by omega) (fun h_210 => ?_) (fun h_210 => ?_)
                              · refine lv_iconst (v := iI 0) hx hb dX13_gives_144 rfl ?_
                                rw [← hQ]
                                exact W.zret (v := iI 0) (ty := .boolean) hx hb hr (nb_bool (by omega) (by omega)) (fun t ht hW => ⟨⟨iI 0, (g_51, a_51), rfl, ⟨0, rfl, hI, hfA, haA, by omega⟩, by rw [ht]; exact hP, va_K.moved hW.alike hK, hD⟩, hS.F ht⟩) hS.2.2 dX13_gives_145
                              · exact J135 H locs ls hP hD hS hl
                  · refine lv_goto (tgt := 190) hx hb dX13_gives_67 (by decide) ?_
                    exact J190 g_51 a_51 H locs ls (by omega) t_35 (by omega) (by omega) hI hfA haA hP hD hS hl
            exact L51 (((30 - 0 : Int)).toNat + 1) 0 g_21 a H locs ls (by omega) (by omega) rfl (by omega) (by omega) hI hfA haA (by omega) hP hD hS hl
          · refine lv_iconst (v := iI 0) hx hb dX13_gives_36 rfl ?_
            rw [← hQ]
            exact W.zret (v := iI 0) (ty := .boolean) hx hb hr (nb_bool (by omega) (by omega)) (fun t ht hW => ⟨⟨iI 0, (g, a), rfl, ⟨0, rfl, hI, hfA, haA, by omega⟩, by rw [ht]; exact hP, va_K.moved hW.alike hK, hD⟩, hS.F ht⟩) hS.2.2 dX13_gives_37
