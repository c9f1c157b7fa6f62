set_option maxHeartbeats 2000000 in
set_option maxRecDepth 100000 in
theorem sX13_wordAt (l : Launch) (dC : Nat → ClassId) (dI : Nat → Nat → Nat) (sz : Nat) (ad : Nat → Nat) (ca : Nat → ClassId) (sK sV : Nat → Nat) (g : Nat → Int) (a : Nat → Int → Int) (tT : Int → Int) (tN : Int) (p1 : Int) (p2 : Int) (hI : mI g a) (q1 : rg p1) (q2 : rg p2) (k1 : 0 ≤ p1 ∧ p1 ≤ 600) (k2 : p1 ≤ p2) (k3 : p2 ≤ 600) (k4 : p2 ≤ g 1) (hrTx : txR tT tN g a) : Met l yX13_wordAt (jk yX13_wordAt cX13_wordAt 8 (some .int)) ({ frames := 4, cells := 0, slots := 0, locals := 85 }) (va_Pc [.ref (ad 0), .int (iI p1), .int (iI p2)] (mP (dC, dI) (mG ad ca g a) (mT ca) sK sV sz)) (va_Qi (fun (r : Int32) (_ : Unit) => ∃ z : Int, r = iI z ∧ (rg z) ∧ (wpm z (wix tT p1 p2))) (fun _ _ => True) (va_A [] sz)) 0 0 (va_A [] sz) := by
  refine Met.ofW (cc := cX13_wordAt) (maxL := 8) (ret := (some .int)) (by decide) rfl ?_
  intro p e s m args below meth c s₁ B hml hv
  obtain ⟨rfl, ⟨hsz, hP, hK, hD0⟩, hX0⟩ := hv
  have hx := B.exec
  have hb := B.bytes
  have hr := B.returns
  have hts := atoms_spec (ws := (jk yX13_wordAt cX13_wordAt 8 (some .int))) B.pre
  have hj : ∀ w ∈ jw, w.before ([.ref (ad 0), .int (iI p1), .int (iI p2)] : List Value).toArray s = true := fun w h => hts w (jm h)
  have hown : s.vm.findClass RX13 = some m.cls := findClass_of_methodNamed B.named
  subst hsz
  have hD := hD0
  have hDw := hD0.self (sz := s.heap.size)
  have hAA : ∀ q : Nat, s.heap.size ≤ q → va_A (mG ad ca g a) s.heap.size q := fun q h => Or.inr h
  have hAw : ∀ q, va_A [] s.heap.size q → va_A (mG ad ca g a) s.heap.size q := ja_nil va_S.rf hAA
  have hXs := hX0.nar hAw
  generalize hAe : (va_A [] s.heap.size) = A at hXs hAw ⊢
  have hA : ∀ q : Nat, s.heap.size ≤ q → A q := fun q h => by rw [← hAe]; exact Or.inr h
  have hS : va_S A s.heap s.heap [] := va_S.rf
  have hP : va_P (dC, dI) vwCl (mG ad ca g a) s.heap := hP
  have hl := lv_entry ([.ref (ad 0), .int (iI p1), .int (iI p2)]) (n := 8) (Nat.le_of_ble_eq_true rfl)
  rw [lg_entry_eq]
  generalize (lg_sl ([.ref (ad 0), .int (iI p1), .int (iI p2)]) ++ List.replicate (8 - (lg_sl ([.ref (ad 0), .int (iI p1), .int (iI p2)])).length) Slot.unset).toArray = ls at hl ⊢
  have hl : lv_has ls 8 [(0, .ref (ad 0)), (1, .int (iI p1)), (2, .int (iI p2))] := hl
  generalize hQ : MQ below (va_Qi (fun (r : Int32) (_ : Unit) => ∃ z : Int, r = iI z ∧ (rg z) ∧ (wpm z (wix tT p1 p2))) (fun _ _ => True) A) ([.ref (ad 0), .int (iI p1), .int (iI p2)] : List Value).toArray s 0 0 A = Q
  suffices ST : ∀ (H : Heap) (locs : List Loc), va_P (dC, dI) vwCl (mG ad ca g a) H → va_S A s.heap H locs → W p l e ({ frames := 4, cells := 0, slots := 0, locals := 85 }) s m ([.ref (ad 0), .int (iI p1), .int (iI p2)] : List Value).toArray below meth c H locs 0 0 Q (F0 m 0 ls []) from ST _ _ hP hS
  clear hP hS
  intro H locs hP hS
  have t2 : tN = g 1 := hrTx.1
  refine lv_iconst (v := iI 0) hx hb dX13_wordAt_0 rfl ?_
  refine lv_istore_n (lv' := [(3, .int (iI 0)), (0, .ref (ad 0)), (1, .int (iI p1)), (2, .int (iI p2))]) hx hb dX13_wordAt_1 rfl hl (by decide) rfl (fun ls hl => ?_)
  refine lv_iconst (v := iI 1) hx hb dX13_wordAt_2 rfl ?_
  refine lv_istore (lv' := [(4, .int (iI 1)), (3, .int (iI 0)), (0, .ref (ad 0)), (1, .int (iI p1)), (2, .int (iI p2))]) hx hb dX13_wordAt_3 hl (by decide) rfl (fun ls hl => ?_)
  have L5 : ∀ (n5 : Nat) (v4_5 v3_5 : Int) (H : Heap) (locs : List Loc) (ls : Array Slot), ((-2147483648) ≤ v4_5 ∧ v4_5 ≤ 2147483647) → ((-2147483648) ≤ v3_5 ∧ v3_5 ≤ 2147483647) → (0 ≤ v3_5 ∧ v3_5 ≤ 28) → (v4_5 = rst (v3_5)) → (1 ≤ v4_5) → (rno tT p1 p2 (v3_5)) → (0 < (n5 : Int) ∧ 155 - v4_5 < (n5 : Int)) → va_P (dC, dI) vwCl (mG ad ca g a) H → va_S A s.heap H locs → lv_has ls 8 [(4, .int (iI v4_5)), (3, .int (iI v3_5)), (0, .ref (ad 0)), (1, .int (iI p1)), (2, .int (iI p2))] → W p l e ({ frames := 4, cells := 0, slots := 0, locals := 85 }) s m ([.ref (ad 0), .int (iI p1), .int (iI p2)] : List Value).toArray below meth c H locs 0 0 Q (F0 m 5 ls []) := by
    intro n5
    induction n5 with
    | zero =>
      intro v4_5 v3_5 H locs ls h_1 h_2 h_3 h_4 h_5 h_6 hm5 hP hS hl
      exfalso; omega
    | succ n5 ih5 =>
      intro v4_5 v3_5 H locs ls h_7 h_8 h_9 h_10 h_11 h_12 hm5 hP hS hl
      refine lv_iload hx hb dX13_wordAt_5 (lv_at hl 0 rfl) ?_
      refine mn_ldcwS hx hb hown hXs.2.1.2.2 dX13_wordAt_7 ?_
      have b_13 : sx_n 2 = 154 := rfl
      refine jc_i (va_runV (As := []) (rest := [.int (iI v4_5)]) ⟨hx, hb, hml, hown, hts⟩ (sJ0_length_8abf5 l dC dI _ sK sV 2  (by decide)) (cwV 0 hts (jgoodV m_1413 m_775 m_776 m_754 m_777) rfl rfl rfl (by decide +kernel) ⟨(Nat.le_of_ble_eq_true rfl), (Nat.le_of_ble_eq_true rfl)⟩) ⟨xS_blind, vk_recv hXs.1 (by decide) hS, fun U hU hW => ⟨rfl, xS_of hU hW hXs hS hA⟩⟩ rfl rfl hl.1 rfl (lv_room (Nat.le_of_ble_eq_true rfl)) dX13_wordAt_10 ⟨(Nat.le_of_ble_eq_true rfl), (Nat.le_of_ble_eq_true rfl)⟩) hP hS hA (fun r_14 H locs w_15 hP hS => ?_)
      obtain ⟨z_16, rfl, h_17, h_18⟩ := w_15
      refine xr_icmp_ge (tgt := 129) hx hb dX13_wordAt_13 (by decide) (by omega) (by omega) (fun h_19 => ?_) (fun h_19 => ?_)
      · have w0 := rst_b (k := v3_5) (by omega) (by omega)
        refine lv_iconst (v := iI (-1)) hx hb dX13_wordAt_129 rfl ?_
        rw [← hQ]
        exact W.iret (v := iI (-1)) hx hb hr (fun t ht hW => ⟨⟨iI (-1), (), rfl, ⟨(-1), rfl, by omega, by show wpm (-1) (wix tT p1 p2); first | exact rno_e (show rno tT p1 p2 v3_5 by assumption) (by omega) | exact rmt_e (by omega) (by omega) (rmI_y (show rmI tT p1 p2 v3_5 _ _ by assumption) (by omega) (by omega))⟩, trivial⟩, hS.F ht⟩) hS.2.2 dX13_wordAt_130
      · have w0 := rst_b (k := v3_5) (by omega) (by omega)
        have w9 := rst_f (k := v3_5) (by omega) (by omega)
        obtain ⟨-, -, -, w4, w5, w6, w7, w8, -, -⟩ := w9
        refine lv_iconst (v := iI 0) hx hb dX13_wordAt_16 rfl ?_
        refine lv_istore (lv' := [(5, .int (iI 0)), (4, .int (iI v4_5)), (3, .int (iI v3_5)), (0, .ref (ad 0)), (1, .int (iI p1)), (2, .int (iI p2))]) hx hb dX13_wordAt_17 hl (by decide) rfl (fun ls hl => ?_)
        have L19 : ∀ (n19 : Nat) (v5_19 : Int) (H : Heap) (locs : List Loc) (ls : Array Slot), ((-2147483648) ≤ v5_19 ∧ v5_19 ≤ 2147483647) → (0 ≤ v5_19) → (v4_5 + v5_19 ≤ rst (v3_5) + rln (v3_5)) → (0 < (n19 : Int) ∧ 154 - v5_19 < (n19 : Int)) → va_P (dC, dI) vwCl (mG ad ca g a) H → va_S A s.heap H locs → lv_has ls 8 [(5, .int (iI v5_19)), (4, .int (iI v4_5)), (3, .int (iI v3_5)), (0, .ref (ad 0)), (1, .int (iI p1)), (2, .int (iI p2))] → W p l e ({ frames := 4, cells := 0, slots := 0, locals := 85 }) s m ([.ref (ad 0), .int (iI p1), .int (iI p2)] : List Value).toArray below meth c H locs 0 0 Q (F0 m 19 ls []) := by
          intro n19
          induction n19 with
          | zero =>
            intro v5_19 H locs ls h_20 h_21 h_22 hm19 hP hS hl
            exfalso; omega
          | succ n19 ih19 =>
            intro v5_19 H locs ls h_23 h_24 h_25 hm19 hP hS hl
            refine mn_ldcwS hx hb hown hXs.2.1.2.2 dX13_wordAt_19 ?_
            refine lv_iload hx hb dX13_wordAt_22 (lv_at hl 1 rfl) ?_
            refine lv_iload hx hb dX13_wordAt_24 (lv_at hl 0 rfl) ?_
            refine xr_add hx hb dX13_wordAt_26 ?_
            refine xr_kept (fun z_26 h_27 h_28 => ?_)
            have w3 := r_sep (k := v3_5) (x := z_26) (by omega) (by omega) (by omega) (by omega)
            have b_29 : sx_n 2 = 154 := rfl
            refine jc_i (va_runV (As := [.int (iI z_26)]) (rest := []) ⟨hx, hb, hml, hown, hts⟩ (sJ0_charAt_5068e l dC dI _ sK sV 2 z_26 (by decide) (by omega) (by omega) (by omega)) (cwV 1 hts (jgoodV m_1414 m_809 m_810 m_754 m_811) rfl rfl rfl (by decide +kernel) ⟨(Nat.le_of_ble_eq_true rfl), (Nat.le_of_ble_eq_true rfl)⟩) ⟨xS_blind, vk_recv hXs.1 (by decide) hS, fun U hU hW => ⟨rfl, xS_of hU hW hXs hS hA⟩⟩ rfl rfl hl.1 rfl (lv_room (Nat.le_of_ble_eq_true rfl)) dX13_wordAt_27 ⟨(Nat.le_of_ble_eq_true rfl), (Nat.le_of_ble_eq_true rfl)⟩) hP hS hA (fun r_30 H locs w_31 hP hS => ?_)
            obtain ⟨z_32, rfl, h_33, h_34⟩ := w_31
            refine lv_bipush (v := iI 32) hx hb dX13_wordAt_30 rfl ?_
            refine xr_icmp_eq (tgt := 41) hx hb dX13_wordAt_32 (by decide) (by omega) (by omega) (fun h_35 => ?_) (fun h_35 => ?_)
            · refine lv_iload hx hb dX13_wordAt_41 (lv_at hl 0 rfl) ?_
              refine lv_iload_n hx hb dX13_wordAt_43 rfl (lv_at hl 5 rfl) ?_
              refine lv_iload_n hx hb dX13_wordAt_44 rfl (lv_at hl 4 rfl) ?_
              refine xr_sub hx hb dX13_wordAt_45 ?_
              refine xr_kept (fun z_36 h_37 h_38 => ?_)
              have J54 : ∀ (s0_54 : Int) (H : Heap) (locs : List Loc) (ls : Array Slot), (0 ≤ s0_54 ∧ s0_54 ≤ 1) → ((s0_54 = 1 ∧ v5_19 = p2 - p1) ∨ (s0_54 = 0 ∧ v5_19 ≠ p2 - p1)) → va_P (dC, dI) vwCl (mG ad ca g a) H → va_S A s.heap H locs → lv_has ls 8 [(5, .int (iI v5_19)), (4, .int (iI v4_5)), (3, .int (iI v3_5)), (0, .ref (ad 0)), (1, .int (iI p1)), (2, .int (iI p2))] → W p l e ({ frames := 4, cells := 0, slots := 0, locals := 85 }) s m ([.ref (ad 0), .int (iI p1), .int (iI p2)] : List Value).toArray below meth c H locs 0 0 Q (F0 m 54 ls [.int (iI s0_54)]) := by
                intro s0_54 H locs ls h_39 h_40 hP hS hl
                refine lv_istore (lv' := [(6, .int (iI s0_54)), (5, .int (iI v5_19)), (4, .int (iI v4_5)), (3, .int (iI v3_5)), (0, .ref (ad 0)), (1, .int (iI p1)), (2, .int (iI p2))]) hx hb dX13_wordAt_54 hl (by decide) rfl (fun ls hl => ?_)
                refine lv_iconst (v := iI 0) hx hb dX13_wordAt_56 rfl ?_
                refine lv_istore (lv' := [(7, .int (iI 0)), (6, .int (iI s0_54)), (5, .int (iI v5_19)), (4, .int (iI v4_5)), (3, .int (iI v3_5)), (0, .ref (ad 0)), (1, .int (iI p1)), (2, .int (iI p2))]) hx hb dX13_wordAt_57 hl (by decide) rfl (fun ls hl => ?_)
                have L59 : ∀ (n59 : Nat) (v7_59 v6_59 : Int) (H : Heap) (locs : List Loc) (ls : Array Slot), (0 ≤ v7_59 ∧ v7_59 ≤ 2147483647) → ((-2147483648) ≤ v6_59 ∧ v6_59 ≤ 1) → (0 ≤ v7_59) → (0 ≤ v6_59 ∧ v6_59 ≤ 1) → (v6_59 = 0 ∨ v5_19 = p2 - p1) → (rmI tT p1 p2 (v3_5) (v7_59) (v6_59)) → (0 < (n59 : Int) ∧ v5_19 - v7_59 < (n59 : Int)) → va_P (dC, dI) vwCl (mG ad ca g a) H → va_S A s.heap H locs → lv_has ls 8 [(7, .int (iI v7_59)), (6, .int (iI v6_59)), (5, .int (iI v5_19)), (4, .int (iI v4_5)), (3, .int (iI v3_5)), (0, .ref (ad 0)), (1, .int (iI p1)), (2, .int (iI p2))] → W p l e ({ frames := 4, cells := 0, slots := 0, locals := 85 }) s m ([.ref (ad 0), .int (iI p1), .int (iI p2)] : List Value).toArray below meth c H locs 0 0 Q (F0 m 59 ls []) := by
                  intro n59
                  induction n59 with
                  | zero =>
                    intro v7_59 v6_59 H locs ls h_41 h_42 h_43 h_44 h_45 h_46 hm59 hP hS hl
                    exfalso; omega
                  | succ n59 ih59 =>
                    intro v7_59 v6_59 H locs ls h_47 h_48 h_49 h_50 h_51 h_52 hm59 hP hS hl
                    refine lv_iload hx hb dX13_wordAt_59 (lv_at hl 0 rfl) ?_
                    refine lv_iload hx hb dX13_wordAt_61 (lv_at hl 2 rfl) ?_
                    have J107 : ∀ (H : Heap) (locs : List Loc) (ls : Array Slot), (v6_59 = 0 ∨ rln (v3_5) ≤ v7_59) → va_P (dC, dI) vwCl (mG ad ca g a) H → va_S A s.heap H locs → lv_has ls 8 [(7, .int (iI v7_59)), (6, .int (iI v6_59)), (5, .int (iI v5_19)), (4, .int (iI v4_5)), (3, .int (iI v3_5)), (0, .ref (ad 0)), (1, .int (iI p1)), (2, .int (iI p2))] → W p l e ({ frames := 4, cells := 0, slots := 0, locals := 85 }) s m ([.ref (ad 0), .int (iI p1), .int (iI p2)] : List Value).toArray below meth c H locs 0 0 Q (F0 m 107 ls []) := by
                      intro H locs ls h_53 hP hS hl
                      refine lv_iload hx hb dX13_wordAt_107 (lv_at hl 1 rfl) ?_
                      refine xr_if_eq (tgt := 114) hx hb dX13_wordAt_109 (by decide) (by omega) (fun h_54 => ?_) (fun h_54 => ?_)
                      · have n9 := rmI_n (show rmI tT p1 p2 v3_5 v7_59 v6_59 by assumption) (by omega)
                        refine lv_iinc (v := iI (v3_5 + 1)) (lv' := [(3, .int (iI (v3_5 + 1))), (7, .int (iI v7_59)), (6, .int (iI v6_59)), (5, .int (iI v5_19)), (4, .int (iI v4_5)), (0, .ref (ad 0)), (1, .int (iI p1)), (2, .int (iI p2))]) hx hb dX13_wordAt_114 hl (k := 4) rfl (iI_add _ _) (by decide) rfl (fun ls hl => ?_)
                        refine lv_iload hx hb dX13_wordAt_117 (lv_at hl 4 rfl) ?_
                        refine lv_iload hx hb dX13_wordAt_119 (lv_at hl 3 rfl) ?_
                        refine lv_iconst (v := iI 1) hx hb dX13_wordAt_121 rfl ?_
                        refine xr_add hx hb dX13_wordAt_122 ?_
                        refine xr_kept (fun z_55 h_56 h_57 => ?_)
                        refine xr_add hx hb dX13_wordAt_123 ?_
                        refine xr_kept (fun z_58 h_59 h_60 => ?_)
                        refine lv_istore (lv' := [(4, .int (iI z_58)), (3, .int (iI (v3_5 + 1))), (7, .int (iI v7_59)), (6, .int (iI v6_59)), (5, .int (iI v5_19)), (0, .ref (ad 0)), (1, .int (iI p1)), (2, .int (iI p2))]) hx hb dX13_wordAt_124 hl (by decide) rfl (fun ls hl => ?_)
                        refine lv_goto (tgt := 5) hx hb dX13_wordAt_126 (by decide) ?_
                        exact ih5 z_58 (v3_5 + 1) H locs ls (by omega) (by omega) (by omega) (by first | exact rst_0.symm | omega) (by omega) (by first | exact rno_0 | exact rno_s (by assumption) n9 rfl) (by omega) hP hS (lv_sub hl [0, 1, 5, 6, 7] rfl)
                      · refine lv_iload_n hx hb dX13_wordAt_112 rfl (lv_at hl 4 rfl) ?_
                        rw [← hQ]
                        exact W.iret (v := iI v3_5) hx hb hr (fun t ht hW => ⟨⟨iI v3_5, (), rfl, ⟨v3_5, rfl, by omega, by show wpm v3_5 (wix tT p1 p2); first | exact rno_e (show rno tT p1 p2 v3_5 by assumption) (by omega) | exact rmt_e (by omega) (by omega) (rmI_y (show rmI tT p1 p2 v3_5 v7_59 v6_59 by assumption) (by omega) (by omega))⟩, trivial⟩, hS.F ht⟩) hS.2.2 dX13_wordAt_113
                    refine xr_icmp_ge (tgt := 107) hx hb dX13_wordAt_63 (by decide) (by omega) (by omega) (fun h_61 => ?_) (fun h_61 => ?_)
                    · exact J107 H locs ls (by omega) hP hS hl
                    · refine lv_iload hx hb dX13_wordAt_66 (lv_at hl 1 rfl) ?_
                      refine xr_if_eq (tgt := 107) hx hb dX13_wordAt_68 (by decide) (by omega) (fun h_62 => ?_) (fun h_62 => ?_)
                      · exact J107 H locs ls (by omega) hP hS hl
                      · refine mn_ldcwS hx hb hown hXs.2.1.2.2 dX13_wordAt_71 ?_
                        refine lv_iload hx hb dX13_wordAt_74 (lv_at hl 3 rfl) ?_
                        refine lv_iload hx hb dX13_wordAt_76 (lv_at hl 0 rfl) ?_
                        refine xr_add hx hb dX13_wordAt_78 ?_
                        refine xr_kept (fun z_63 h_64 h_65 => ?_)
                        have b_66 : sx_n 2 = 154 := rfl
                        refine jc_i (va_runV (As := [.int (iI z_63)]) (rest := []) ⟨hx, hb, hml, hown, hts⟩ (sJ0_charAt_5068e l dC dI _ sK sV 2 z_63 (by decide) (by omega) (by omega) (by omega)) (cwV 1 hts (jgoodV m_1414 m_809 m_810 m_754 m_811) rfl rfl rfl (by decide +kernel) ⟨(Nat.le_of_ble_eq_true rfl), (Nat.le_of_ble_eq_true rfl)⟩) ⟨xS_blind, vk_recv hXs.1 (by decide) hS, fun U hU hW => ⟨rfl, xS_of hU hW hXs hS hA⟩⟩ rfl rfl hl.1 rfl (lv_room (Nat.le_of_ble_eq_true rfl)) dX13_wordAt_79 ⟨(Nat.le_of_ble_eq_true rfl), (Nat.le_of_ble_eq_true rfl)⟩) hP hS hA (fun r_67 H locs w_68 hP hS => ?_)
                        obtain ⟨z_69, rfl, h_70, h_71⟩ := w_68
                        refine lv_aload_n hx hb dX13_wordAt_82 rfl (lv_at hl 5 rfl) ?_
                        refine gf_text hx hb hj hown hK hP dX13_wordAt_83 ?_
                        refine lv_iload_n hx hb dX13_wordAt_86 rfl (lv_at hl 6 rfl) ?_
                        refine lv_iload hx hb dX13_wordAt_87 (lv_at hl 0 rfl) ?_
                        refine xr_add hx hb dX13_wordAt_89 ?_
                        refine xr_kept (fun z_72 h_73 h_74 => ?_)
                        have x9 := txR_at hrTx (x := z_72) (by omega) (by omega)
                        have x8 := sx_sc (i := 2) (k := z_63) (by decide) (by omega) (by omega)
                        refine ld_text hx hb hK hP hI (by omega) (by omega) dX13_wordAt_90 (fun h_75 => ?_)
                        have J99 : ∀ (s0_99 : Int) (H : Heap) (locs : List Loc) (ls : Array Slot), (0 ≤ s0_99 ∧ s0_99 ≤ 1) → ((s0_99 = 1 ∧ sx_c 2 (z_63) = tT (z_72)) ∨ (s0_99 = 0 ∧ sx_c 2 (z_63) ≠ tT (z_72))) → (s0_99 = 0 ∨ v5_19 = p2 - p1) → va_P (dC, dI) vwCl (mG ad ca g a) H → va_S A s.heap H locs → lv_has ls 8 [(7, .int (iI v7_59)), (6, .int (iI v6_59)), (5, .int (iI v5_19)), (4, .int (iI v4_5)), (3, .int (iI v3_5)), (0, .ref (ad 0)), (1, .int (iI p1)), (2, .int (iI p2))] → W p l e ({ frames := 4, cells := 0, slots := 0, locals := 85 }) s m ([.ref (ad 0), .int (iI p1), .int (iI p2)] : List Value).toArray below meth c H locs 0 0 Q (F0 m 99 ls [.int (iI s0_99)]) := by
                          intro s0_99 H locs ls h_76 h_77 h_78 hP hS hl
                          refine lv_istore (lv' := [(6, .int (iI s0_99)), (7, .int (iI v7_59)), (5, .int (iI v5_19)), (4, .int (iI v4_5)), (3, .int (iI v3_5)), (0, .ref (ad 0)), (1, .int (iI p1)), (2, .int (iI p2))]) hx hb dX13_wordAt_99 hl (by decide) rfl (fun ls hl => ?_)
                          refine lv_iinc (v := iI (v7_59 + 1)) (lv' := [(7, .int (iI (v7_59 + 1))), (6, .int (iI s0_99)), (5, .int (iI v5_19)), (4, .int (iI v4_5)), (3, .int (iI v3_5)), (0, .ref (ad 0)), (1, .int (iI p1)), (2, .int (iI p2))]) hx hb dX13_wordAt_101 hl (k := 1) rfl (iI_add _ _) (by decide) rfl (fun ls hl => ?_)
                          refine lv_goto (tgt := 59) hx hb dX13_wordAt_104 (by decide) ?_
                          exact ih59 (v7_59 + 1) s0_99 H locs ls (by omega) (by omega) (by omega) (by omega) (by omega) (by first | exact rmI_0 (l := v5_19) (by omega) (by omega) (by omega) | exact rmI_s (x := z_63) (y := z_72) (by assumption) (by omega) (by omega) (by omega) (by omega) (by omega) (by omega) (by omega)) (by omega) hP hS hl
                        refine xr_icmp_ne (tgt := 98) hx hb dX13_wordAt_91 (by decide) (by omega) (by omega) (fun h_79 => ?_) (fun h_79 => ?_)
                        · refine lv_iconst (v := iI 0) hx hb dX13_wordAt_98 rfl ?_
                          exact J99 0 H locs ls (by omega) (by omega) (by omega) hP hS hl
                        · refine lv_iconst (v := iI 1) hx hb dX13_wordAt_94 rfl ?_
                          refine lv_goto (tgt := 99) hx hb dX13_wordAt_95 (by decide) ?_
                          exact J99 1 H locs ls (by omega) (by omega) (by omega) hP hS hl
                exact L59 (((v5_19 - 0 : Int)).toNat + 1) 0 s0_54 H locs ls (by omega) (by omega) (by omega) (by omega) (by omega) (by first | exact rmI_0 (l := v5_19) (by omega) (by omega) (by omega) | exact rmI_s (x := _) (y := _) (by assumption) (by omega) (by omega) (by omega) (by omega) (by omega) (by omega) (by omega)) (by omega) hP hS hl
              refine xr_icmp_ne (tgt := 53) hx hb dX13_wordAt_46 (by decide) (by omega) (by omega) (fun h_80 => ?_) (fun h_80 => ?_)
              · refine lv_iconst (v := iI 0) hx hb dX13_wordAt_53 rfl ?_
                exact J54 0 H locs ls (by omega) (by omega) hP hS hl
              · refine lv_iconst (v := iI 1) hx hb dX13_wordAt_49 rfl ?_
                refine lv_goto (tgt := 54) hx hb dX13_wordAt_50 (by decide) ?_
                exact J54 1 H locs ls (by omega) (by omega) hP hS hl
            · refine lv_iinc (v := iI (v5_19 + 1)) (lv' := [(5, .int (iI (v5_19 + 1))), (4, .int (iI v4_5)), (3, .int (iI v3_5)), (0, .ref (ad 0)), (1, .int (iI p1)), (2, .int (iI p2))]) hx hb dX13_wordAt_35 hl (k := 0) rfl (iI_add _ _) (by decide) rfl (fun ls hl => ?_)
              refine lv_goto (tgt := 19) hx hb dX13_wordAt_38 (by decide) ?_
              exact ih19 (v5_19 + 1) H locs ls (by omega) (by omega) (by omega) (by omega) hP hS hl
        exact L19 (((154 - 0 : Int)).toNat + 1) 0 H locs ls (by omega) (by omega) (by omega) (by omega) hP hS hl
  exact L5 (((155 - 1 : Int)).toNat + 1) 1 0 H locs ls (by omega) (by omega) (by omega) (by first | exact rst_0.symm | omega) (by omega) (by first | exact rno_0 | exact rno_s (by assumption) n9 rfl) (by omega) hP hS hl
set_option maxHeartbeats 2000000 in
set_option maxRecDepth 100000 in
theorem sX13_next (l : Launch) (dC : Nat → ClassId) (dI : Nat → Nat → Nat) (sz : Nat) (ad : Nat → Nat) (ca : Nat → ClassId) (sK sV : Nat → Nat) (g : Nat → Int) (a : Nat → Int → Int) (tT : Int → Int) (tN : Int) (hI : mI g a) (k1 : g 2 ≤ g 1) (hrTx : txR tT tN g a) : Met l yX13_next (jk yX13_next cX13_next 2 none) ({ frames := 5, cells := 0, slots := 0, locals := 112 }) (va_Pc [.ref (ad 0)] (mP (dC, dI) (mG ad ca g a) (mT ca) sK sV sz)) (va_Qv (fun (u : (Nat → Int) × (Nat → Int → Int)) => (mI u.1 u.2) ∧ (∀ j, j ∉ ([2, 3, 4, 5] : List Nat) → u.1 j = g j) ∧ (∀ j, j ∉ ([] : List Nat) → u.2 j = a j) ∧ (g 2 ≤ u.1 2) ∧ (u.1 2 ≤ g 1) ∧ (u.1 3 = 0 ∨ g 2 + 1 ≤ u.1 2) ∧ (u.1 4 ≤ u.1 2) ∧ (u.1 4 = scn (bB tT) tN (g 2)) ∧ (tkR tT tN u.1 u.2)) (fun u t => va_P (dC, dI) vwCl (mG ad ca u.1 u.2) t.heap ∧ va_K (dC, dI) vwCl (mT ca) t ∧ va_D (va_A (mG ad ca g a) sz) (mG ad ca u.1 u.2)) (va_A (mG ad ca g a) sz)) 0 0 (va_A (mG ad ca g a) sz) := by
  refine Met.ofW (cc := cX13_next) (maxL := 2) (ret := none) (by decide) rfl ?_
  intro p e s m args below meth c s₁ B hml hv
  obtain ⟨rfl, ⟨hsz, hP, hK, hD0⟩, hX0⟩ := hv
  have hx := B.exec
  have hb := B.bytes
  have hr := B.returns
  have hts := atoms_spec (ws := (jk yX13_next cX13_next 2 none)) B.pre
  have hj : ∀ w ∈ jw, w.before ([.ref (ad 0)] : List Value).toArray s = true := fun w h => hts w (jm h)
  have hown : s.vm.findClass RX13 = some m.cls := findClass_of_methodNamed B.named
  subst hsz
  have hD := hD0.self (sz := s.heap.size)
  have hXs := hX0
  generalize hAe : (va_A (mG ad ca g a) s.heap.size) = A at hD hXs ⊢
  have hA : ∀ q : Nat, s.heap.size ≤ q → A q := fun q h => by rw [← hAe]; exact Or.inr h
  have hS : va_S A s.heap s.heap [] := va_S.rf
  have hP : va_P (dC, dI) vwCl (mG ad ca g a) s.heap := hP
  have hfA : ∀ j, j ∉ ([2, 3, 4, 5] : List Nat) → g j = g j := fun _ _ => rfl
  have haA : ∀ j, j ∉ ([] : List Nat) → a j = a j := fun _ _ => rfl
  have hl := lv_entry ([.ref (ad 0)]) (n := 2) (Nat.le_of_ble_eq_true rfl)
  rw [lg_entry_eq]
  generalize (lg_sl ([.ref (ad 0)]) ++ List.replicate (2 - (lg_sl ([.ref (ad 0)])).length) Slot.unset).toArray = ls at hl ⊢
  have hl : lv_has ls 2 [(0, .ref (ad 0))] := hl
  generalize hQ : MQ below (va_Qv (fun (u : (Nat → Int) × (Nat → Int → Int)) => (mI u.1 u.2) ∧ (∀ j, j ∉ ([2, 3, 4, 5] : List Nat) → u.1 j = g j) ∧ (∀ j, j ∉ ([] : List Nat) → u.2 j = a j) ∧ (g 2 ≤ u.1 2) ∧ (u.1 2 ≤ g 1) ∧ (u.1 3 = 0 ∨ g 2 + 1 ≤ u.1 2) ∧ (u.1 4 ≤ u.1 2) ∧ (u.1 4 = scn (bB tT) tN (g 2)) ∧ (tkR tT tN u.1 u.2)) (fun u t => va_P (dC, dI) vwCl (mG ad ca u.1 u.2) t.heap ∧ va_K (dC, dI) vwCl (mT ca) t ∧ va_D A (mG ad ca u.1 u.2)) A) ([.ref (ad 0)] : List Value).toArray s 0 0 A = Q
  suffices ST : ∀ (H : Heap) (locs : List Loc), va_P (dC, dI) vwCl (mG ad ca g a) H → va_S A s.heap H locs → W p l e ({ frames := 5, cells := 0, slots := 0, locals := 112 }) s m ([.ref (ad 0)] : List Value).toArray below meth c H locs 0 0 Q (F0 m 0 ls []) from ST _ _ hP hS
  clear hP hS
  intro H locs hP hS
  have L0 : ∀ (n0 : Nat) (g_0 : Nat → Int) (H : Heap) (locs : List Loc) (ls : Array Slot), (g_0 2 ≤ g 1) → (g 2 ≤ g_0 2) → (scn (bB tT) tN (g 2) = scn (bB tT) tN (g_0 2)) → (g_0 1 = g 1) → (g_0 3 = g 3) → (g_0 4 = g 4) → (mI g_0 a) → (∀ j, j ∉ ([2, 3, 4, 5] : List Nat) → g_0 j = g j) → (0 < (n0 : Int) ∧ (g_0 1) - (g_0 2) < (n0 : Int)) → va_P (dC, dI) vwCl (mG ad ca g_0 a) H → va_D A (mG ad ca g_0 a) → va_S A s.heap H locs → lv_has ls 2 [(0, .ref (ad 0))] → W p l e ({ frames := 5, cells := 0, slots := 0, locals := 112 }) s m ([.ref (ad 0)] : List Value).toArray below meth c H locs 0 0 Q (F0 m 0 ls []) := by
    intro n0
    induction n0 with
    | zero =>
      intro g_0 H locs ls h_1 h_2 h_3 h_4 h_5 h_6 hI hfA hm0 hP hD hS hl
      have b_7 : g_0 1 = g 1 := hfA 1 (by decide)
      exfalso; omega
    | succ n0 ih0 =>
      intro g_0 H locs ls h_8 h_9 h_10 h_11 h_12 h_13 hI hfA hm0 hP hD hS hl
      have b_14 : g_0 1 = g 1 := hfA 1 (by decide)
      have t2 : tN = g 1 := hrTx.1
      have b1_0 : 0 ≤ g_0 1 ∧ g_0 1 ≤ 600 := hI.1 1
      have b2_0 : 0 ≤ g_0 2 ∧ g_0 2 ≤ 600 := hI.1 2
      refine lv_aload_n hx hb dX13_next_0 rfl (lv_at hl 0 rfl) ?_
      refine gf_at hx hb hj hown hK hP hI dX13_next_1 (fun h_15 => ?_)
      refine lv_aload_n hx hb dX13_next_4 rfl (lv_at hl 0 rfl) ?_
      refine gf_size hx hb hj hown hK hP hI dX13_next_5 (fun h_16 => ?_)
      have J52 : ∀ (H : Heap) (locs : List Loc) (ls : Array Slot), (scn (bB tT) tN (g 2) = g_0 2) → va_P (dC, dI) vwCl (mG ad ca g_0 a) H → va_D A (mG ad ca g_0 a) → va_S A s.heap H locs → lv_has ls 2 [(0, .ref (ad 0))] → W p l e ({ frames := 5, cells := 0, slots := 0, locals := 112 }) s m ([.ref (ad 0)] : List Value).toArray below meth c H locs 0 0 Q (F0 m 52 ls []) := by
        intro H locs ls h_17 hP hD hS hl
        refine lv_aload_n hx hb dX13_next_52 rfl (lv_at hl 0 rfl) ?_
        refine lv_aload_n hx hb dX13_next_53 rfl (lv_at hl 0 rfl) ?_
        refine gf_at hx hb hj hown hK hP hI dX13_next_54 (fun h_18 => ?_)
        refine pf_tokenAt hx hb hj hown hK hP hD hS hI (by omega) (by omega) dX13_next_57 (fun g_19 H locs e_20 e_21 hI hP hD hS => ?_)
        have hfA : ∀ j, j ∉ ([2, 3, 4, 5] : List Nat) → g_19 j = g j := fun j h => (e_20 j (fun q => h (q ▸ (by decide : 4 ∈ ([2, 3, 4, 5] : List Nat))))).trans (hfA j h)
        have b_22 := e_20 2 (by decide)
        have b_23 := e_20 3 (by decide)
        have b_24 := e_20 5 (by decide)
        have b_25 : g_19 1 = g 1 := hfA 1 (by decide)
        have b_26 := e_20 1 (by decide)
        have b_27 := e_20 2 (by decide)
        have b_28 := e_20 3 (by decide)
        refine lv_aload_n hx hb dX13_next_60 rfl (lv_at hl 0 rfl) ?_
        refine lv_iconst (v := iI 0) hx hb dX13_next_61 rfl ?_
        refine pa_tokenValue hx hb hj hown hK hP hD hS hI dX13_next_62 (fun g_29 z_32 H locs h_33 h_34 e_30 e_31 hI hP hD hS => ?_)
        have hfA : ∀ j, j ∉ ([2, 3, 4, 5] : List Nat) → g_29 j = g j := fun j h => (e_30 j (fun q => h (q ▸ (by decide : 5 ∈ ([2, 3, 4, 5] : List Nat))))).trans (hfA j h)
        have b_35 := e_30 2 (by decide)
        have b_36 := e_30 3 (by decide)
        have b_37 := e_30 4 (by decide)
        have b_38 : g_29 1 = g 1 := hfA 1 (by decide)
        have b_39 := e_30 1 (by decide)
        have b_40 := e_30 2 (by decide)
        have b_41 := e_30 3 (by decide)
        have b_42 := e_30 4 (by decide)
        refine lv_aload_n hx hb dX13_next_65 rfl (lv_at hl 0 rfl) ?_
        refine lv_iconst (v := iI 0) hx hb dX13_next_66 rfl ?_
        refine pf_token hx hb hj hown hK hP hD hS hI (by omega) (by omega) dX13_next_67 (fun g_43 H locs e_44 e_45 hI hP hD hS => ?_)
        have hfA : ∀ j, j ∉ ([2, 3, 4, 5] : List Nat) → g_43 j = g j := fun j h => (e_44 j (fun q => h (q ▸ (by decide : 3 ∈ ([2, 3, 4, 5] : List Nat))))).trans (hfA j h)
        have b_46 := e_44 2 (by decide)
        have b_47 := e_44 4 (by decide)
        have b_48 := e_44 5 (by decide)
        have b_49 : g_43 1 = g 1 := hfA 1 (by decide)
        have b_50 := e_44 1 (by decide)
        have b_51 := e_44 2 (by decide)
        have b_52 := e_44 4 (by decide)
        refine lv_aload_n hx hb dX13_next_70 rfl (lv_at hl 0 rfl) ?_
        refine gf_at hx hb hj hown hK hP hI dX13_next_71 (fun h_53 => ?_)
        refine lv_aload_n hx hb dX13_next_74 rfl (lv_at hl 0 rfl) ?_
        refine gf_size hx hb hj hown hK hP hI dX13_next_75 (fun h_54 => ?_)
        refine xr_icmp_ne (tgt := 82) hx hb dX13_next_78 (by decide) (by omega) (by omega) (fun h_55 => ?_) (fun h_55 => ?_)
        · have x8 := txR_at hrTx (x := g_43 2) (by omega) (by omega)
          refine lv_aload_n hx hb dX13_next_82 rfl (lv_at hl 0 rfl) ?_
          refine gf_text hx hb hj hown hK hP dX13_next_83 ?_
          refine lv_aload_n hx hb dX13_next_86 rfl (lv_at hl 0 rfl) ?_
          refine gf_at hx hb hj hown hK hP hI dX13_next_87 (fun h_56 => ?_)
          refine ld_text hx hb hK hP hI (by omega) (by omega) dX13_next_90 (fun h_57 => ?_)
          refine lv_istore_n (lv' := [(1, .int (iI (a 1 (g_43 2)))), (0, .ref (ad 0))]) hx hb dX13_next_91 rfl hl (by decide) rfl (fun ls hl => ?_)
          refine lv_iload_n hx hb dX13_next_92 rfl (lv_at hl 0 rfl) ?_
          refine jc_i (va_runS (As := [.int (iI (a 1 (g_43 2)))]) (rest := []) ⟨hx, hb, hml, hown, hts⟩ (sX13_isLetter l dC dI _ (a 1 (g_43 2)) (by omega)) (va_cwS 1 hts (jgoodS m_221 m_384 m_503 m_158) rfl rfl rfl (by decide +kernel) ⟨(Nat.le_of_ble_eq_true rfl), (Nat.le_of_ble_eq_true rfl)⟩) ⟨jw_blind0, fun U hU hW => ⟨rfl, congrArg Array.size hU⟩⟩ rfl rfl hl.1 rfl (lv_room (Nat.le_of_ble_eq_true rfl)) dX13_next_93 ⟨(Nat.le_of_ble_eq_true rfl), (Nat.le_of_ble_eq_true rfl)⟩) hP hS hA (fun r_58 H locs w_59 hP hS => ?_)
          obtain ⟨z_60, rfl, h_61, h_62⟩ := w_59
          refine xr_if_eq (tgt := 162) hx hb dX13_next_96 (by decide) (by omega) (fun h_63 => ?_) (fun h_63 => ?_)
          · refine lv_iload_n hx hb dX13_next_162 rfl (lv_at hl 0 rfl) ?_
            refine jc_i (va_runS (As := [.int (iI (a 1 (g_43 2)))]) (rest := []) ⟨hx, hb, hml, hown, hts⟩ (sX13_isDigit l dC dI _ (a 1 (g_43 2)) (by omega)) (va_cwS 1 hts (jgoodS m_223 m_375 m_503 m_153) rfl rfl rfl (by decide +kernel) ⟨(Nat.le_of_ble_eq_true rfl), (Nat.le_of_ble_eq_true rfl)⟩) ⟨jw_blind0, fun U hU hW => ⟨rfl, congrArg Array.size hU⟩⟩ rfl rfl hl.1 rfl (lv_room (Nat.le_of_ble_eq_true rfl)) dX13_next_163 ⟨(Nat.le_of_ble_eq_true rfl), (Nat.le_of_ble_eq_true rfl)⟩) hP hS hA (fun r_64 H locs w_65 hP hS => ?_)
            obtain ⟨z_66, rfl, h_67, h_68⟩ := w_65
            refine xr_if_eq (tgt := 256) hx hb dX13_next_166 (by decide) (by omega) (fun h_69 => ?_) (fun h_69 => ?_)
            · refine lv_aload_n hx hb dX13_next_256 rfl (lv_at hl 1 rfl) ?_
              refine lv_iload_n hx hb dX13_next_257 rfl (lv_at hl 0 rfl) ?_
              refine lv_bipush (v := iI 43) hx hb dX13_next_258 rfl ?_
              have J340 : ∀ (s0_340 : Int) (H : Heap) (locs : List Loc) (ls : Array Slot), (3 ≤ s0_340 ∧ s0_340 ≤ 4) → (sgJ (a 1 (g_43 2)) (s0_340)) → va_P (dC, dI) vwCl (mG ad ca g_43 a) H → va_D A (mG ad ca g_43 a) → va_S A s.heap H locs → lv_has ls 2 [(1, .int (iI (a 1 (g_43 2)))), (0, .ref (ad 0))] → W p l e ({ frames := 5, cells := 0, slots := 0, locals := 112 }) s m ([.ref (ad 0)] : List Value).toArray below meth c H locs 0 0 Q (F0 m 340 ls [.int (iI s0_340), .ref (ad 0)]) := by
                intro s0_340 H locs ls h_70 h_71 hP hD hS hl
                refine pf_token hx hb hj hown hK hP hD hS hI (by omega) (by omega) dX13_next_340 (fun g_72 H locs e_73 e_74 hI hP hD hS => ?_)
                have hfA : ∀ j, j ∉ ([2, 3, 4, 5] : List Nat) → g_72 j = g j := fun j h => (e_73 j (fun q => h (q ▸ (by decide : 3 ∈ ([2, 3, 4, 5] : List Nat))))).trans (hfA j h)
                have b_75 := e_73 2 (by decide)
                have b_76 := e_73 4 (by decide)
                have b_77 := e_73 5 (by decide)
                have b_78 : g_72 1 = g 1 := hfA 1 (by decide)
                have b_79 := e_73 1 (by decide)
                have b_80 := e_73 2 (by decide)
                have b_81 := e_73 4 (by decide)
                refine lv_aload_n hx hb dX13_next_343 rfl (lv_at hl 1 rfl) ?_
                refine lv_iload_n hx hb dX13_next_344 rfl (lv_at hl 0 rfl) ?_
                refine pa_tokenValue hx hb hj hown hK hP hD hS hI dX13_next_345 (fun g_82 z_85 H locs h_86 h_87 e_83 e_84 hI hP hD hS => ?_)
                have hfA : ∀ j, j ∉ ([2, 3, 4, 5] : List Nat) → g_82 j = g j := fun j h => (e_83 j (fun q => h (q ▸ (by decide : 5 ∈ ([2, 3, 4, 5] : List Nat))))).trans (hfA j h)
                have b_88 := e_83 2 (by decide)
                have b_89 := e_83 3 (by decide)
                have b_90 := e_83 4 (by decide)
                have b_91 : g_82 1 = g 1 := hfA 1 (by decide)
                have b_92 := e_83 1 (by decide)
                have b_93 := e_83 2 (by decide)
                have b_94 := e_83 3 (by decide)
                have b_95 := e_83 4 (by decide)
                refine lv_aload_n hx hb dX13_next_348 rfl (lv_at hl 1 rfl) ?_
                refine lv_dup hx hb dX13_next_349 rfl ?_
                refine gf_at hx hb hj hown hK hP hI dX13_next_350 (fun h_96 => ?_)
                refine lv_iconst (v := iI 1) hx hb dX13_next_353 rfl ?_
                refine xr_add hx hb dX13_next_354 ?_
                refine pf_at hx hb hj hown hK hP hD hS hI (by omega) (by omega) dX13_next_355 (fun g_97 H locs e_98 e_99 hI hP hD hS => ?_)
                have hfA : ∀ j, j ∉ ([2, 3, 4, 5] : List Nat) → g_97 j = g j := fun j h => (e_98 j (fun q => h (q ▸ (by decide : 2 ∈ ([2, 3, 4, 5] : List Nat))))).trans (hfA j h)
                have b_100 := e_98 3 (by decide)
                have b_101 := e_98 4 (by decide)
                have b_102 := e_98 5 (by decide)
                have b_103 : g_97 1 = g 1 := hfA 1 (by decide)
                have b_104 := e_98 1 (by decide)
                have b_105 := e_98 3 (by decide)
                have b_106 := e_98 4 (by decide)
                rw [← hQ]
                exact W.vret hx hb hr (fun t ht hW => ⟨⟨(g_97, a), rfl, ⟨hI, hfA, haA, by show g 2 ≤ g_97 2; omega, by show g_97 2 ≤ g 1; omega, by show g_97 3 = 0 ∨ g 2 + 1 ≤ g_97 2; omega, by show g_97 4 ≤ g_97 2; omega, by show g_97 4 = scn (bB tT) tN (g 2); omega, by show tkR tT tN g_97 a; exact mk_5 (s := g_43 2) (b := (a 1 (g_43 2))) (x := s0_340) (by omega) (by omega) (by omega) (by omega) (by omega) (by omega) (by assumption) (by omega) (by omega) (by omega) (by omega)⟩, by rw [ht]; exact hP, va_K.moved hW.alike hK, hD⟩, hS.F ht⟩) hS.2.2 dX13_next_358
              have J335 : ∀ (H : Heap) (locs : List Loc) (ls : Array Slot), (sgI (a 1 (g_43 2))) → va_P (dC, dI) vwCl (mG ad ca g_43 a) H → va_D A (mG ad ca g_43 a) → va_S A s.heap H locs → lv_has ls 2 [(1, .int (iI (a 1 (g_43 2)))), (0, .ref (ad 0))] → W p l e ({ frames := 5, cells := 0, slots := 0, locals := 112 }) s m ([.ref (ad 0)] : List Value).toArray below meth c H locs 0 0 Q (F0 m 335 ls [.ref (ad 0)]) := by
                intro H locs ls h_107 hP hD hS hl
                refine lv_iconst (v := iI 3) hx hb dX13_next_335 rfl ?_
                refine lv_goto (tgt := 340) hx hb dX13_next_336 (by decide) ?_
                exact J340 3 H locs ls (by omega) (by first | exact Or.inl ⟨rfl, by assumption⟩ | exact Or.inr ⟨rfl, by unfold sgI; omega⟩) hP hD hS hl
              refine xr_icmp_eq (tgt := 335) hx hb dX13_next_260 (by decide) (by omega) (by omega) (fun h_108 => ?_) (fun h_108 => ?_)
              · exact J335 H locs ls (by unfold sgI; omega) hP hD hS hl
              · refine lv_iload_n hx hb dX13_next_263 rfl (lv_at hl 0 rfl) ?_
                refine lv_bipush (v := iI 45) hx hb dX13_next_264 rfl ?_
                refine xr_icmp_eq (tgt := 335) hx hb dX13_next_266 (by decide) (by omega) (by omega) (fun h_109 => ?_) (fun h_109 => ?_)
                · exact J335 H locs ls (by unfold sgI; omega) hP hD hS hl
                · refine lv_iload_n hx hb dX13_next_269 rfl (lv_at hl 0 rfl) ?_
                  refine lv_bipush (v := iI 42) hx hb dX13_next_270 rfl ?_
                  refine xr_icmp_eq (tgt := 335) hx hb dX13_next_272 (by decide) (by omega) (by omega) (fun h_110 => ?_) (fun h_110 => ?_)
                  · exact J335 H locs ls (by unfold sgI; omega) hP hD hS hl
                  · refine lv_iload_n hx hb dX13_next_275 rfl (lv_at hl 0 rfl) ?_
                    refine lv_bipush (v := iI 47) hx hb dX13_next_276 rfl ?_
                    refine xr_icmp_eq (tgt := 335) hx hb dX13_next_278 (by decide) (by omega) (by omega) (fun h_111 => ?_) (fun h_111 => ?_)
                    · exact J335 H locs ls (by unfold sgI; omega) hP hD hS hl
                    · refine lv_iload_n hx hb dX13_next_281 rfl (lv_at hl 0 rfl) ?_
                      refine lv_bipush (v := iI 40) hx hb dX13_next_282 rfl ?_
                      refine xr_icmp_eq (tgt := 335) hx hb dX13_next_284 (by decide) (by omega) (by omega) (fun h_112 => ?_) (fun h_112 => ?_)
                      · exact J335 H locs ls (by unfold sgI; omega) hP hD hS hl
                      · refine lv_iload_n hx hb dX13_next_287 rfl (lv_at hl 0 rfl) ?_
                        refine lv_bipush (v := iI 41) hx hb dX13_next_288 rfl ?_
                        refine xr_icmp_eq (tgt := 335) hx hb dX13_next_290 (by decide) (by omega) (by omega) (fun h_113 => ?_) (fun h_113 => ?_)
                        · exact J335 H locs ls (by unfold sgI; omega) hP hD hS hl
                        · refine lv_iload_n hx hb dX13_next_293 rfl (lv_at hl 0 rfl) ?_
                          refine lv_bipush (v := iI 91) hx hb dX13_next_294 rfl ?_
                          refine xr_icmp_eq (tgt := 335) hx hb dX13_next_296 (by decide) (by omega) (by omega) (fun h_114 => ?_) (fun h_114 => ?_)
                          · exact J335 H locs ls (by unfold sgI; omega) hP hD hS hl
                          · refine lv_iload_n hx hb dX13_next_299 rfl (lv_at hl 0 rfl) ?_
                            refine lv_bipush (v := iI 93) hx hb dX13_next_300 rfl ?_
                            refine xr_icmp_eq (tgt := 335) hx hb dX13_next_302 (by decide) (by omega) (by omega) (fun h_115 => ?_) (fun h_115 => ?_)
                            · exact J335 H locs ls (by unfold sgI; omega) hP hD hS hl
                            · refine lv_iload_n hx hb dX13_next_305 rfl (lv_at hl 0 rfl) ?_
                              refine lv_bipush (v := iI 44) hx hb dX13_next_306 rfl ?_
                              refine xr_icmp_eq (tgt := 335) hx hb dX13_next_308 (by decide) (by omega) (by omega) (fun h_116 => ?_) (fun h_116 => ?_)
                              · exact J335 H locs ls (by unfold sgI; omega) hP hD hS hl
                              · refine lv_iload_n hx hb dX13_next_311 rfl (lv_at hl 0 rfl) ?_
                                refine lv_bipush (v := iI 60) hx hb dX13_next_312 rfl ?_
                                refine xr_icmp_eq (tgt := 335) hx hb dX13_next_314 (by decide) (by omega) (by omega) (fun h_117 => ?_) (fun h_117 => ?_)
                                · exact J335 H locs ls (by unfold sgI; omega) hP hD hS hl
                                · refine lv_iload_n hx hb dX13_next_317 rfl (lv_at hl 0 rfl) ?_
                                  refine lv_bipush (v := iI 62) hx hb dX13_next_318 rfl ?_
                                  refine xr_icmp_eq (tgt := 335) hx hb dX13_next_320 (by decide) (by omega) (by omega) (fun h_118 => ?_) (fun h_118 => ?_)
                                  · exact J335 H locs ls (by unfold sgI; omega) hP hD hS hl
                                  · refine lv_iload_n hx hb dX13_next_323 rfl (lv_at hl 0 rfl) ?_
                                    refine lv_bipush (v := iI 61) hx hb dX13_next_324 rfl ?_
                                    refine xr_icmp_eq (tgt := 335) hx hb dX13_next_326 (by decide) (by omega) (by omega) (fun h_119 => ?_) (fun h_119 => ?_)
                                    · exact J335 H locs ls (by unfold sgI; omega) hP hD hS hl
                                    · refine lv_iload_n hx hb dX13_next_329 rfl (lv_at hl 0 rfl) ?_
                                      refine lv_bipush (v := iI 59) hx hb dX13_next_330 rfl ?_
                                      refine xr_icmp_ne (tgt := 339) hx hb dX13_next_332 (by decide) (by omega) (by omega) (fun h_120 => ?_) (fun h_120 => ?_)
                                      · refine lv_iconst (v := iI 4) hx hb dX13_next_339 rfl ?_
                                        exact J340 4 H locs ls (by omega) (by first | exact Or.inl ⟨rfl, by assumption⟩ | exact Or.inr ⟨rfl, by unfold sgI; omega⟩) hP hD hS hl
                                      · exact J335 H locs ls (by unfold sgI; omega) hP hD hS hl
            · have L169 : ∀ (n169 : Nat) (g_169 : Nat → Int) (H : Heap) (locs : List Loc) (ls : Array Slot), (g_169 2 ≤ g 1) → (g 2 ≤ g_169 2) → (g_169 4 ≤ g_169 2) → (g 2 + 1 ≤ g_169 2 ∨ (g_169 2 < g 1 ∧ 48 ≤ a 1 (g_169 2) ∧ a 1 (g_169 2) ≤ 57)) → (0 ≤ g_169 5 ∧ g_169 5 ≤ 10000009) → (scn (bD tT) tN (g_169 4) = scn (bD tT) tN (g_169 2)) → (nmR tT (g_169 4) (g_169 2) (g_169 5)) → (g_169 1 = g 1) → (g_169 3 = 0) → (g_169 4 = (g_0 2)) → (mI g_169 a) → (∀ j, j ∉ ([2, 3, 4, 5] : List Nat) → g_169 j = g j) → (0 < (n169 : Int) ∧ (g_169 1) - (g_169 2) < (n169 : Int)) → va_P (dC, dI) vwCl (mG ad ca g_169 a) H → va_D A (mG ad ca g_169 a) → va_S A s.heap H locs → lv_has ls 2 [(1, .int (iI (a 1 (g_43 2)))), (0, .ref (ad 0))] → W p l e ({ frames := 5, cells := 0, slots := 0, locals := 112 }) s m ([.ref (ad 0)] : List Value).toArray below meth c H locs 0 0 Q (F0 m 169 ls []) := by
                intro n169
                induction n169 with
                | zero =>
                  intro g_169 H locs ls h_121 h_122 h_123 h_124 h_125 h_126 h_127 h_128 h_129 h_130 hI hfA hm169 hP hD hS hl
                  have b_131 : g_169 1 = g 1 := hfA 1 (by decide)
                  exfalso; omega
                | succ n169 ih169 =>
                  intro g_169 H locs ls h_132 h_133 h_134 h_135 h_136 h_137 h_138 h_139 h_140 h_141 hI hfA hm169 hP hD hS hl
                  have b_142 : g_169 1 = g 1 := hfA 1 (by decide)
                  refine lv_aload_n hx hb dX13_next_169 rfl (lv_at hl 1 rfl) ?_
                  refine gf_at hx hb hj hown hK hP hI dX13_next_170 (fun h_143 => ?_)
                  refine lv_aload_n hx hb dX13_next_173 rfl (lv_at hl 1 rfl) ?_
                  refine gf_size hx hb hj hown hK hP hI dX13_next_174 (fun h_144 => ?_)
                  refine xr_icmp_ge (tgt := 248) hx hb dX13_next_177 (by decide) (by omega) (by omega) (fun h_145 => ?_) (fun h_145 => ?_)
                  · have he9 := ds_2 (T := tT) (n := tN) (s := g_169 4) (p := g_169 2) (by assumption) (by omega)
                    refine lv_aload_n hx hb dX13_next_248 rfl (lv_at hl 1 rfl) ?_
                    refine lv_iconst (v := iI 1) hx hb dX13_next_249 rfl ?_
                    refine pf_token hx hb hj hown hK hP hD hS hI (by omega) (by omega) dX13_next_250 (fun g_146 H locs e_147 e_148 hI hP hD hS => ?_)
                    have hfA : ∀ j, j ∉ ([2, 3, 4, 5] : List Nat) → g_146 j = g j := fun j h => (e_147 j (fun q => h (q ▸ (by decide : 3 ∈ ([2, 3, 4, 5] : List Nat))))).trans (hfA j h)
                    have b_149 := e_147 2 (by decide)
                    have b_150 := e_147 4 (by decide)
                    have b_151 := e_147 5 (by decide)
                    have b_152 : g_146 1 = g 1 := hfA 1 (by decide)
                    have b_153 := e_147 1 (by decide)
                    have b_154 := e_147 2 (by decide)
                    have b_155 := e_147 4 (by decide)
                    refine lv_goto (tgt := 358) hx hb dX13_next_253 (by decide) ?_
                    rw [← hQ]
                    exact W.vret hx hb hr (fun t ht hW => ⟨⟨(g_146, a), rfl, ⟨hI, hfA, haA, by show g 2 ≤ g_146 2; omega, by show g_146 2 ≤ g 1; omega, by show g_146 3 = 0 ∨ g 2 + 1 ≤ g_146 2; omega, by show g_146 4 ≤ g_146 2; omega, by show g_146 4 = scn (bB tT) tN (g 2); omega, by show tkR tT tN g_146 a; exact mk_2 (s := g_43 2) (s4 := g_169 4) (e := g_169 2) (z := g_169 5) (by omega) (by omega) (by omega) (by omega) (by omega) (by omega) he9 (by omega) (show nmR tT (g_169 4) (g_169 2) (g_169 5) by assumption).2 (by omega)⟩, by rw [ht]; exact hP, va_K.moved hW.alike hK, hD⟩, hS.F ht⟩) hS.2.2 dX13_next_358
                  · have x7 := txR_at hrTx (x := g_169 2) (by omega) (by omega)
                    refine lv_aload_n hx hb dX13_next_180 rfl (lv_at hl 1 rfl) ?_
                    refine gf_text hx hb hj hown hK hP dX13_next_181 ?_
                    refine lv_aload_n hx hb dX13_next_184 rfl (lv_at hl 1 rfl) ?_
                    refine gf_at hx hb hj hown hK hP hI dX13_next_185 (fun h_156 => ?_)
                    refine ld_text hx hb hK hP hI (by omega) (by omega) dX13_next_188 (fun h_157 => ?_)
                    refine jc_i (va_runS (As := [.int (iI (a 1 (g_169 2)))]) (rest := []) ⟨hx, hb, hml, hown, hts⟩ (sX13_isDigit l dC dI _ (a 1 (g_169 2)) (by omega)) (va_cwS 1 hts (jgoodS m_223 m_375 m_503 m_153) rfl rfl rfl (by decide +kernel) ⟨(Nat.le_of_ble_eq_true rfl), (Nat.le_of_ble_eq_true rfl)⟩) ⟨jw_blind0, fun U hU hW => ⟨rfl, congrArg Array.size hU⟩⟩ rfl rfl hl.1 rfl (lv_room (Nat.le_of_ble_eq_true rfl)) dX13_next_189 ⟨(Nat.le_of_ble_eq_true rfl), (Nat.le_of_ble_eq_true rfl)⟩) hP hS hA (fun r_158 H locs w_159 hP hS => ?_)
                    obtain ⟨z_160, rfl, h_161, h_162⟩ := w_159
                    refine xr_if_eq (tgt := 248) hx hb dX13_next_192 (by decide) (by omega) (fun h_163 => ?_) (fun h_163 => ?_)
                    · have he9 := ds_2 (T := tT) (n := tN) (s := g_169 4) (p := g_169 2) (by assumption) (by omega)
                      refine lv_aload_n hx hb dX13_next_248 rfl (lv_at hl 1 rfl) ?_
                      refine lv_iconst (v := iI 1) hx hb dX13_next_249 rfl ?_
                      refine pf_token hx hb hj hown hK hP hD hS hI (by omega) (by omega) dX13_next_250 (fun g_164 H locs e_165 e_166 hI hP hD hS => ?_)
                      have hfA : ∀ j, j ∉ ([2, 3, 4, 5] : List Nat) → g_164 j = g j := fun j h => (e_165 j (fun q => h (q ▸ (by decide : 3 ∈ ([2, 3, 4, 5] : List Nat))))).trans (hfA j h)
                      have b_167 := e_165 2 (by decide)
                      have b_168 := e_165 4 (by decide)
                      have b_169 := e_165 5 (by decide)
                      have b_170 : g_164 1 = g 1 := hfA 1 (by decide)
                      have b_171 := e_165 1 (by decide)
                      have b_172 := e_165 2 (by decide)
                      have b_173 := e_165 4 (by decide)
                      refine lv_goto (tgt := 358) hx hb dX13_next_253 (by decide) ?_
                      rw [← hQ]
                      exact W.vret hx hb hr (fun t ht hW => ⟨⟨(g_164, a), rfl, ⟨hI, hfA, haA, by show g 2 ≤ g_164 2; omega, by show g_164 2 ≤ g 1; omega, by show g_164 3 = 0 ∨ g 2 + 1 ≤ g_164 2; omega, by show g_164 4 ≤ g_164 2; omega, by show g_164 4 = scn (bB tT) tN (g 2); omega, by show tkR tT tN g_164 a; exact mk_2 (s := g_43 2) (s4 := g_169 4) (e := g_169 2) (z := g_169 5) (by omega) (by omega) (by omega) (by omega) (by omega) (by omega) he9 (by omega) (show nmR tT (g_169 4) (g_169 2) (g_169 5) by assumption).2 (by omega)⟩, by rw [ht]; exact hP, va_K.moved hW.alike hK, hD⟩, hS.F ht⟩) hS.2.2 dX13_next_358
                    · refine lv_aload_n hx hb dX13_next_195 rfl (lv_at hl 1 rfl) ?_
                      refine lv_aload_n hx hb dX13_next_196 rfl (lv_at hl 1 rfl) ?_
                      refine gf_tokenValue hx hb hj hown hK hP hI dX13_next_197 (fun h_174 => ?_)
                      refine lv_ldc hx hb hown (hts (.constant RX13 251 1000000) (jm m_505)) dX13_next_200 ?_
                      refine jt_i (iI 1000000) (by decide) ?_
                      have J232 : ∀ (s0_232 : Int) (H : Heap) (locs : List Loc) (ls : Array Slot), ((-2147483648) ≤ s0_232 ∧ s0_232 ≤ 2147483647) → ((1000000 < g_169 5 ∧ s0_232 = g_169 5) ∨ (g_169 5 ≤ 1000000 ∧ s0_232 = 10 * g_169 5 + a 1 (g_169 2) - 48)) → va_P (dC, dI) vwCl (mG ad ca g_169 a) H → va_D A (mG ad ca g_169 a) → va_S A s.heap H locs → lv_has ls 2 [(1, .int (iI (a 1 (g_43 2)))), (0, .ref (ad 0))] → W p l e ({ frames := 5, cells := 0, slots := 0, locals := 112 }) s m ([.ref (ad 0)] : List Value).toArray below meth c H locs 0 0 Q (F0 m 232 ls [.int (iI s0_232), .ref (ad 0)]) := by
                        intro s0_232 H locs ls h_175 h_176 hP hD hS hl
                        refine pa_tokenValue hx hb hj hown hK hP hD hS hI dX13_next_232 (fun g_177 z_180 H locs h_181 h_182 e_178 e_179 hI hP hD hS => ?_)
                        have hfA : ∀ j, j ∉ ([2, 3, 4, 5] : List Nat) → g_177 j = g j := fun j h => (e_178 j (fun q => h (q ▸ (by decide : 5 ∈ ([2, 3, 4, 5] : List Nat))))).trans (hfA j h)
                        have b_183 := e_178 2 (by decide)
                        have b_184 := e_178 3 (by decide)
                        have b_185 := e_178 4 (by decide)
                        have b_186 : g_177 1 = g 1 := hfA 1 (by decide)
                        have b_187 := e_178 1 (by decide)
                        have b_188 := e_178 2 (by decide)
                        have b_189 := e_178 3 (by decide)
                        have b_190 := e_178 4 (by decide)
                        refine lv_aload_n hx hb dX13_next_235 rfl (lv_at hl 1 rfl) ?_
                        refine lv_dup hx hb dX13_next_236 rfl ?_
                        refine gf_at hx hb hj hown hK hP hI dX13_next_237 (fun h_191 => ?_)
                        refine lv_iconst (v := iI 1) hx hb dX13_next_240 rfl ?_
                        refine xr_add hx hb dX13_next_241 ?_
                        refine pf_at hx hb hj hown hK hP hD hS hI (by omega) (by omega) dX13_next_242 (fun g_192 H locs e_193 e_194 hI hP hD hS => ?_)
                        have hfA : ∀ j, j ∉ ([2, 3, 4, 5] : List Nat) → g_192 j = g j := fun j h => (e_193 j (fun q => h (q ▸ (by decide : 2 ∈ ([2, 3, 4, 5] : List Nat))))).trans (hfA j h)
                        have b_195 := e_193 3 (by decide)
                        have b_196 := e_193 4 (by decide)
                        have b_197 := e_193 5 (by decide)
                        have b_198 : g_192 1 = g 1 := hfA 1 (by decide)
                        have b_199 := e_193 1 (by decide)
                        have b_200 := e_193 3 (by decide)
                        have b_201 := e_193 4 (by decide)
                        refine lv_goto (tgt := 169) hx hb dX13_next_245 (by decide) ?_
                        exact ih169 g_192 H locs ls (by omega) (by omega) (by omega) (by omega) (by omega) (by first | exact sc_0 (by omega) | exact dr_1 (by assumption) (by omega) (by omega) (by omega) (by omega)) (by first | exact nmR_0 (by omega) (by omega) | exact nmR_s (by assumption) (by omega) (by omega) (by omega) (by omega)) (by omega) (by omega) (by omega) hI hfA (by omega) hP hD hS hl
                      refine xr_icmp_le (tgt := 212) hx hb dX13_next_202 (by decide) (by omega) (by omega) (fun h_202 => ?_) (fun h_202 => ?_)
                      · refine lv_bipush (v := iI 10) hx hb dX13_next_212 rfl ?_
                        refine lv_aload_n hx hb dX13_next_214 rfl (lv_at hl 1 rfl) ?_
                        refine gf_tokenValue hx hb hj hown hK hP hI dX13_next_215 (fun h_203 => ?_)
                        refine xr_mul hx hb dX13_next_218 ?_
                        refine xr_kept (fun z_204 h_205 h_206 => ?_)
                        refine lv_aload_n hx hb dX13_next_219 rfl (lv_at hl 1 rfl) ?_
                        refine gf_text hx hb hj hown hK hP dX13_next_220 ?_
                        refine lv_aload_n hx hb dX13_next_223 rfl (lv_at hl 1 rfl) ?_
                        refine gf_at hx hb hj hown hK hP hI dX13_next_224 (fun h_207 => ?_)
                        refine ld_text hx hb hK hP hI (by omega) (by omega) dX13_next_227 (fun h_208 => ?_)
                        refine xr_add hx hb dX13_next_228 ?_
                        refine xr_kept (fun z_209 h_210 h_211 => ?_)
                        refine lv_bipush (v := iI 48) hx hb dX13_next_229 rfl ?_
                        refine xr_sub hx hb dX13_next_231 ?_
                        refine xr_kept (fun z_212 h_213 h_214 => ?_)
                        exact J232 z_212 H locs ls (by omega) (by omega) hP hD hS hl
                      · refine lv_aload_n hx hb dX13_next_205 rfl (lv_at hl 1 rfl) ?_
                        refine gf_tokenValue hx hb hj hown hK hP hI dX13_next_206 (fun h_215 => ?_)
                        refine lv_goto (tgt := 232) hx hb dX13_next_209 (by decide) ?_
                        exact J232 (g_169 5) H locs ls (by omega) (by omega) hP hD hS hl
              exact L169 ((((g_43 1) - (g_43 2) : Int)).toNat + 1) g_43 H locs ls (by omega) (by omega) (by omega) (by omega) (by omega) (by first | exact sc_0 (by omega) | exact dr_1 (by assumption) (by omega) (by omega) (by omega) (by omega)) (by first | exact nmR_0 (by omega) (by omega) | exact nmR_s (by assumption) (by omega) (by omega) (by omega) (by omega)) (by omega) (by omega) (by omega) hI hfA (by omega) hP hD hS hl
          · have L99 : ∀ (n99 : Nat) (g_99 : Nat → Int) (H : Heap) (locs : List Loc) (ls : Array Slot), (g_99 2 ≤ g 1) → (g 2 ≤ g_99 2) → (g_99 4 ≤ g_99 2) → (g 2 + 1 ≤ g_99 2 ∨ (g_99 2 < g 1 ∧ 97 ≤ a 1 (g_99 2) ∧ a 1 (g_99 2) ≤ 122)) → (scn (bL tT) tN (g_99 4) = scn (bL tT) tN (g_99 2)) → (g_99 1 = g 1) → (g_99 3 = 0) → (g_99 4 = (g_0 2)) → (mI g_99 a) → (∀ j, j ∉ ([2, 3, 4, 5] : List Nat) → g_99 j = g j) → (0 < (n99 : Int) ∧ (g_99 1) - (g_99 2) < (n99 : Int)) → va_P (dC, dI) vwCl (mG ad ca g_99 a) H → va_D A (mG ad ca g_99 a) → va_S A s.heap H locs → lv_has ls 2 [(1, .int (iI (a 1 (g_43 2)))), (0, .ref (ad 0))] → W p l e ({ frames := 5, cells := 0, slots := 0, locals := 112 }) s m ([.ref (ad 0)] : List Value).toArray below meth c H locs 0 0 Q (F0 m 99 ls []) := by
              intro n99
              induction n99 with
              | zero =>
                intro g_99 H locs ls h_216 h_217 h_218 h_219 h_220 h_221 h_222 h_223 hI hfA hm99 hP hD hS hl
                have b_224 : g_99 1 = g 1 := hfA 1 (by decide)
                exfalso; omega
              | succ n99 ih99 =>
                intro g_99 H locs ls h_225 h_226 h_227 h_228 h_229 h_230 h_231 h_232 hI hfA hm99 hP hD hS hl
                have b_233 : g_99 1 = g 1 := hfA 1 (by decide)
                refine lv_aload_n hx hb dX13_next_99 rfl (lv_at hl 1 rfl) ?_
                refine gf_at hx hb hj hown hK hP hI dX13_next_100 (fun h_234 => ?_)
                refine lv_aload_n hx hb dX13_next_103 rfl (lv_at hl 1 rfl) ?_
                refine gf_size hx hb hj hown hK hP hI dX13_next_104 (fun h_235 => ?_)
                have J138 : ∀ (H : Heap) (locs : List Loc) (ls : Array Slot), (g 2 + 1 ≤ g_99 2) → (g_99 2 = scn (bL tT) tN (g_99 4)) → va_P (dC, dI) vwCl (mG ad ca g_99 a) H → va_D A (mG ad ca g_99 a) → va_S A s.heap H locs → lv_has ls 2 [(1, .int (iI (a 1 (g_43 2)))), (0, .ref (ad 0))] → W p l e ({ frames := 5, cells := 0, slots := 0, locals := 112 }) s m ([.ref (ad 0)] : List Value).toArray below meth c H locs 0 0 Q (F0 m 138 ls []) := by
                  intro H locs ls h_236 h_237 hP hD hS hl
                  refine lv_aload_n hx hb dX13_next_138 rfl (lv_at hl 1 rfl) ?_
                  refine lv_iconst (v := iI 2) hx hb dX13_next_139 rfl ?_
                  refine pf_token hx hb hj hown hK hP hD hS hI (by omega) (by omega) dX13_next_140 (fun g_238 H locs e_239 e_240 hI hP hD hS => ?_)
                  have hfA : ∀ j, j ∉ ([2, 3, 4, 5] : List Nat) → g_238 j = g j := fun j h => (e_239 j (fun q => h (q ▸ (by decide : 3 ∈ ([2, 3, 4, 5] : List Nat))))).trans (hfA j h)
                  have b_241 := e_239 2 (by decide)
                  have b_242 := e_239 4 (by decide)
                  have b_243 := e_239 5 (by decide)
                  have b_244 : g_238 1 = g 1 := hfA 1 (by decide)
                  have b_245 := e_239 1 (by decide)
                  have b_246 := e_239 2 (by decide)
                  have b_247 := e_239 4 (by decide)
                  refine lv_aload_n hx hb dX13_next_143 rfl (lv_at hl 1 rfl) ?_
                  refine lv_aload_n hx hb dX13_next_144 rfl (lv_at hl 1 rfl) ?_
                  refine lv_aload_n hx hb dX13_next_145 rfl (lv_at hl 1 rfl) ?_
                  refine gf_tokenAt hx hb hj hown hK hP hI dX13_next_146 (fun h_248 => ?_)
                  refine lv_aload_n hx hb dX13_next_149 rfl (lv_at hl 1 rfl) ?_
                  refine gf_at hx hb hj hown hK hP hI dX13_next_150 (fun h_249 => ?_)
                  refine jc_i (va_runV (As := [.int (iI (g_238 4)), .int (iI (g_238 2))]) (rest := [.ref (ad 0)]) ⟨hx, hb, hml, hown, hts⟩ (sX13_wordAt l dC dI _ ad ca sK sV g_238 a tT tN (g_238 4) (g_238 2) hI (by omega) (by omega) (by omega) (by omega) (by omega) (by omega) (txR_t (hfA 1 (by decide)) rfl hrTx)) (cwV 2 hts (jgoodV m_222 m_501 m_502 m_503 m_219) rfl rfl rfl (by decide +kernel) ⟨(Nat.le_of_ble_eq_true rfl), (Nat.le_of_ble_eq_true rfl)⟩) ⟨mP_blind, va_recv hK hP (ci := 13) (q0 := 0) rfl rfl, fun U hU hW => ⟨rfl, mP_of hU hW hP hK hD hXs hS (fun _ h => h) hA⟩⟩ rfl rfl hl.1 rfl (lv_room (Nat.le_of_ble_eq_true rfl)) dX13_next_153 ⟨(Nat.le_of_ble_eq_true rfl), (Nat.le_of_ble_eq_true rfl)⟩) hP hS hA (fun r_250 H locs w_251 hP hS => ?_)
                  obtain ⟨z_252, rfl, h_253, h_254⟩ := w_251
                  refine pa_tokenValue hx hb hj hown hK hP hD hS hI dX13_next_156 (fun g_255 z_258 H locs h_259 h_260 e_256 e_257 hI hP hD hS => ?_)
                  have hfA : ∀ j, j ∉ ([2, 3, 4, 5] : List Nat) → g_255 j = g j := fun j h => (e_256 j (fun q => h (q ▸ (by decide : 5 ∈ ([2, 3, 4, 5] : List Nat))))).trans (hfA j h)
                  have b_261 := e_256 2 (by decide)
                  have b_262 := e_256 3 (by decide)
                  have b_263 := e_256 4 (by decide)
                  have b_264 : g_255 1 = g 1 := hfA 1 (by decide)
                  have b_265 := e_256 1 (by decide)
                  have b_266 := e_256 2 (by decide)
                  have b_267 := e_256 3 (by decide)
                  have b_268 := e_256 4 (by decide)
                  refine lv_goto (tgt := 358) hx hb dX13_next_159 (by decide) ?_
                  rw [← hQ]
                  exact W.vret hx hb hr (fun t ht hW => ⟨⟨(g_255, a), rfl, ⟨hI, hfA, haA, by show g 2 ≤ g_255 2; omega, by show g_255 2 ≤ g 1; omega, by show g_255 3 = 0 ∨ g 2 + 1 ≤ g_255 2; omega, by show g_255 4 ≤ g_255 2; omega, by show g_255 4 = scn (bB tT) tN (g 2); omega, by show tkR tT tN g_255 a; exact mk_1 (s := g_43 2) (s4 := g_99 4) (e := g_99 2) (z := z_252) (by omega) (by omega) (by omega) (by omega) (by omega) (by omega) (by assumption) (by omega) (wpm_t h_254 rfl (by omega) (by omega)) (by omega)⟩, by rw [ht]; exact hP, va_K.moved hW.alike hK, hD⟩, hS.F ht⟩) hS.2.2 dX13_next_358
                refine xr_icmp_ge (tgt := 138) hx hb dX13_next_107 (by decide) (by omega) (by omega) (fun h_269 => ?_) (fun h_269 => ?_)
                · exact J138 H locs ls (by omega) (by exact ls_2 (by assumption) (by omega)) hP hD hS hl
                · have x7 := txR_at hrTx (x := g_99 2) (by omega) (by omega)
                  refine lv_aload_n hx hb dX13_next_110 rfl (lv_at hl 1 rfl) ?_
                  refine gf_text hx hb hj hown hK hP dX13_next_111 ?_
                  refine lv_aload_n hx hb dX13_next_114 rfl (lv_at hl 1 rfl) ?_
                  refine gf_at hx hb hj hown hK hP hI dX13_next_115 (fun h_270 => ?_)
                  refine ld_text hx hb hK hP hI (by omega) (by omega) dX13_next_118 (fun h_271 => ?_)
                  refine jc_i (va_runS (As := [.int (iI (a 1 (g_99 2)))]) (rest := []) ⟨hx, hb, hml, hown, hts⟩ (sX13_isLetter l dC dI _ (a 1 (g_99 2)) (by omega)) (va_cwS 1 hts (jgoodS m_221 m_384 m_503 m_158) rfl rfl rfl (by decide +kernel) ⟨(Nat.le_of_ble_eq_true rfl), (Nat.le_of_ble_eq_true rfl)⟩) ⟨jw_blind0, fun U hU hW => ⟨rfl, congrArg Array.size hU⟩⟩ rfl rfl hl.1 rfl (lv_room (Nat.le_of_ble_eq_true rfl)) dX13_next_119 ⟨(Nat.le_of_ble_eq_true rfl), (Nat.le_of_ble_eq_true rfl)⟩) hP hS hA (fun r_272 H locs w_273 hP hS => ?_)
                  obtain ⟨z_274, rfl, h_275, h_276⟩ := w_273
                  refine xr_if_eq (tgt := 138) hx hb dX13_next_122 (by decide) (by omega) (fun h_277 => ?_) (fun h_277 => ?_)
                  · exact J138 H locs ls (by omega) (by exact ls_2 (by assumption) (by omega)) hP hD hS hl
                  · refine lv_aload_n hx hb dX13_next_125 rfl (lv_at hl 1 rfl) ?_
                    refine lv_dup hx hb dX13_next_126 rfl ?_
                    refine gf_at hx hb hj hown hK hP hI dX13_next_127 (fun h_278 => ?_)
                    refine lv_iconst (v := iI 1) hx hb dX13_next_130 rfl ?_
                    refine xr_add hx hb dX13_next_131 ?_
                    refine pf_at hx hb hj hown hK hP hD hS hI (by omega) (by omega) dX13_next_132 (fun g_279 H locs e_280 e_281 hI hP hD hS => ?_)
                    have hfA : ∀ j, j ∉ ([2, 3, 4, 5] : List Nat) → g_279 j = g j := fun j h => (e_280 j (fun q => h (q ▸ (by decide : 2 ∈ ([2, 3, 4, 5] : List Nat))))).trans (hfA j h)
                    have b_282 := e_280 3 (by decide)
                    have b_283 := e_280 4 (by decide)
                    have b_284 := e_280 5 (by decide)
                    have b_285 : g_279 1 = g 1 := hfA 1 (by decide)
                    have b_286 := e_280 1 (by decide)
                    have b_287 := e_280 3 (by decide)
                    have b_288 := e_280 4 (by decide)
                    refine lv_goto (tgt := 99) hx hb dX13_next_135 (by decide) ?_
                    exact ih99 g_279 H locs ls (by omega) (by omega) (by omega) (by omega) (by first | exact sc_0 (by omega) | exact lr_1 (by assumption) (by omega) (by omega) (by omega) (by omega)) (by omega) (by omega) (by omega) hI hfA (by omega) hP hD hS hl
            exact L99 ((((g_43 1) - (g_43 2) : Int)).toNat + 1) g_43 H locs ls (by omega) (by omega) (by omega) (by omega) (by first | exact sc_0 (by omega) | exact lr_1 (by assumption) (by omega) (by omega) (by omega) (by omega)) (by omega) (by omega) (by omega) hI hfA (by omega) hP hD hS hl
        · rw [← hQ]
          exact W.vret hx hb hr (fun t ht hW => ⟨⟨(g_43, a), rfl, ⟨hI, hfA, haA, by show g 2 ≤ g_43 2; omega, by show g_43 2 ≤ g 1; omega, by show g_43 3 = 0 ∨ g 2 + 1 ≤ g_43 2; omega, by show g_43 4 ≤ g_43 2; omega, by show g_43 4 = scn (bB tT) tN (g 2); omega, by show tkR tT tN g_43 a; exact mk_0 (s := g_43 4) rfl (by omega) (by omega) (by omega)⟩, by rw [ht]; exact hP, va_K.moved hW.alike hK, hD⟩, hS.F ht⟩) hS.2.2 dX13_next_81
      refine xr_icmp_ge (tgt := 52) hx hb dX13_next_8 (by decide) (by omega) (by omega) (fun h_289 => ?_) (fun h_289 => ?_)
      · exact J52 H locs ls (by exact bs_2 (by assumption) (by omega)) hP hD hS hl
      · have x9 := txR_at hrTx (x := g_0 2) (by omega) (by omega)
        refine lv_aload_n hx hb dX13_next_11 rfl (lv_at hl 0 rfl) ?_
        refine gf_text hx hb hj hown hK hP dX13_next_12 ?_
        refine lv_aload_n hx hb dX13_next_15 rfl (lv_at hl 0 rfl) ?_
        refine gf_at hx hb hj hown hK hP hI dX13_next_16 (fun h_290 => ?_)
        refine ld_text hx hb hK hP hI (by omega) (by omega) dX13_next_19 (fun h_291 => ?_)
        refine lv_bipush (v := iI 32) hx hb dX13_next_20 rfl ?_
        have J39 : ∀ (H : Heap) (locs : List Loc) (ls : Array Slot), (tT (g_0 2) = 32 ∨ tT (g_0 2) = 10) → va_P (dC, dI) vwCl (mG ad ca g_0 a) H → va_D A (mG ad ca g_0 a) → va_S A s.heap H locs → lv_has ls 2 [(0, .ref (ad 0))] → W p l e ({ frames := 5, cells := 0, slots := 0, locals := 112 }) s m ([.ref (ad 0)] : List Value).toArray below meth c H locs 0 0 Q (F0 m 39 ls []) := by
          intro H locs ls h_292 hP hD hS hl
          refine lv_aload_n hx hb dX13_next_39 rfl (lv_at hl 0 rfl) ?_
          refine lv_dup hx hb dX13_next_40 rfl ?_
          refine gf_at hx hb hj hown hK hP hI dX13_next_41 (fun h_293 => ?_)
          refine lv_iconst (v := iI 1) hx hb dX13_next_44 rfl ?_
          refine xr_add hx hb dX13_next_45 ?_
          refine pf_at hx hb hj hown hK hP hD hS hI (by omega) (by omega) dX13_next_46 (fun g_294 H locs e_295 e_296 hI hP hD hS => ?_)
          have hfA : ∀ j, j ∉ ([2, 3, 4, 5] : List Nat) → g_294 j = g j := fun j h => (e_295 j (fun q => h (q ▸ (by decide : 2 ∈ ([2, 3, 4, 5] : List Nat))))).trans (hfA j h)
          have b_297 := e_295 3 (by decide)
          have b_298 := e_295 4 (by decide)
          have b_299 := e_295 5 (by decide)
          have b_300 : g_294 1 = g 1 := hfA 1 (by decide)
          have b_301 := e_295 1 (by decide)
          have b_302 := e_295 3 (by decide)
          have b_303 := e_295 4 (by decide)
          refine lv_goto (tgt := 0) hx hb dX13_next_49 (by decide) ?_
          exact ih0 g_294 H locs ls (by omega) (by omega) (by first | exact rfl | exact bs_1 (by assumption) (by omega) (by omega) (by omega)) (by omega) (by omega) (by omega) hI hfA (by omega) hP hD hS hl
        refine xr_icmp_eq (tgt := 39) hx hb dX13_next_22 (by decide) (by omega) (by omega) (fun h_304 => ?_) (fun h_304 => ?_)
        · exact J39 H locs ls (by omega) hP hD hS hl
        · refine lv_aload_n hx hb dX13_next_25 rfl (lv_at hl 0 rfl) ?_
          refine gf_text hx hb hj hown hK hP dX13_next_26 ?_
          refine lv_aload_n hx hb dX13_next_29 rfl (lv_at hl 0 rfl) ?_
          refine gf_at hx hb hj hown hK hP hI dX13_next_30 (fun h_305 => ?_)
          refine ld_text hx hb hK hP hI (by omega) (by omega) dX13_next_33 (fun h_306 => ?_)
          refine lv_bipush (v := iI 10) hx hb dX13_next_34 rfl ?_
          refine xr_icmp_ne (tgt := 52) hx hb dX13_next_36 (by decide) (by omega) (by omega) (fun h_307 => ?_) (fun h_307 => ?_)
          · exact J52 H locs ls (by exact bs_2 (by assumption) (by omega)) hP hD hS hl
          · exact J39 H locs ls (by omega) hP hD hS hl
  exact L0 ((((g 1) - (g 2) : Int)).toNat + 1) g H locs ls (by omega) (by omega) (by first | exact rfl | exact bs_1 (by assumption) (by omega) (by omega) (by omega)) (by omega) (by omega) (by omega) hI hfA (by omega) hP hD hS hl
