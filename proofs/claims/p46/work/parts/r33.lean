set_option maxHeartbeats 2000000 in
set_option maxRecDepth 100000 in
theorem sX13_wordAt (l : Launch) (dC : Nat → ClassId) (dI : Nat → Nat → Nat) (sz : Nat) (ad : Nat → Nat) (ca : Nat → ClassId) (sK sV : Nat → Nat) (g : Nat → Int) (a : Nat → Int → Int) (p1 : Int) (p2 : Int) (hI : mI g a) (q1 : rg p1) (q2 : rg p2) (k1 : 0 ≤ p1 ∧ p1 ≤ 600) (k2 : p1 ≤ p2) (k3 : p2 ≤ 600) : Met l yX13_wordAt (jk yX13_wordAt cX13_wordAt 8 (some .int)) ({ frames := 4, cells := 0, slots := 0, locals := 85 }) (va_Pc [.ref (ad 0), .int (iI p1), .int (iI p2)] (mP (dC, dI) (mG ad ca g a) (mT ca) sK sV sz)) (va_Qi (fun (r : Int32) (_ : Unit) => ∃ z : Int, r = iI z ∧ (rg z)) (fun _ _ => True) (va_A [] sz)) 0 0 (va_A [] sz) := by
  refine Met.ofW (cc := cX13_wordAt) (maxL := 8) (ret := (some .int)) (by decide) rfl ?_
  intro p e s m args below meth c s₁ B hml hv
  obtain ⟨rfl, ⟨hsz, hP, hK, hD0⟩, hX0⟩ := hv
  have hx := B.exec
  have hb := B.bytes
  have hr := B.returns
  have hts := atoms_spec (ws := (jk yX13_wordAt cX13_wordAt 8 (some .int))) B.pre
  have hj : ∀ w ∈ jw, w.before ([.ref (ad 0), .int (iI p1), .int (iI p2)] : List Value).toArray s = true := fun w h => hts w (jm h)
  have hown : s.vm.findClass RX13 = some m.cls := findClass_of_methodNamed B.named
  subst hsz
  have hD := hD0
  have hDw := hD0.self (sz := s.heap.size)
  have hAA : ∀ q : Nat, s.heap.size ≤ q → va_A (mG ad ca g a) s.heap.size q := fun q h => Or.inr h
  have hAw : ∀ q, va_A [] s.heap.size q → va_A (mG ad ca g a) s.heap.size q := ja_nil va_S.rf hAA
  have hXs := hX0.nar hAw
  generalize hAe : (va_A [] s.heap.size) = A at hXs hAw ⊢
  have hA : ∀ q : Nat, s.heap.size ≤ q → A q := fun q h => by rw [← hAe]; exact Or.inr h
  have hS : va_S A s.heap s.heap [] := va_S.rf
  have hP : va_P (dC, dI) vwCl (mG ad ca g a) s.heap := hP
  have hl := lv_entry ([.ref (ad 0), .int (iI p1), .int (iI p2)]) (n := 8) (Nat.le_of_ble_eq_true rfl)
  rw [lg_entry_eq]
  generalize (lg_sl ([.ref (ad 0), .int (iI p1), .int (iI p2)]) ++ List.replicate (8 - (lg_sl ([.ref (ad 0), .int (iI p1), .int (iI p2)])).length) Slot.unset).toArray = ls at hl ⊢
  have hl : lv_has ls 8 [(0, .ref (ad 0)), (1, .int (iI p1)), (2, .int (iI p2))] := hl
  generalize hQ : MQ below (va_Qi (fun (r : Int32) (_ : Unit) => ∃ z : Int, r = iI z ∧ (rg z)) (fun _ _ => True) A) ([.ref (ad 0), .int (iI p1), .int (iI p2)] : List Value).toArray s 0 0 A = Q
  suffices ST : ∀ (H : Heap) (locs : List Loc), va_P (dC, dI) vwCl (mG ad ca g a) H → va_S A s.heap H locs → W p l e ({ frames := 4, cells := 0, slots := 0, locals := 85 }) s m ([.ref (ad 0), .int (iI p1), .int (iI p2)] : List Value).toArray below meth c H locs 0 0 Q (F0 m 0 ls []) from ST _ _ hP hS
  clear hP hS
  intro H locs hP hS
  refine lv_iconst (v := iI 0) hx hb dX13_wordAt_0 rfl ?_
  refine lv_istore_n (lv' := [(3, .int (iI 0)), (0, .ref (ad 0)), (1, .int (iI p1)), (2, .int (iI p2))]) hx hb dX13_wordAt_1 rfl hl (by decide) rfl (fun ls hl => ?_)
  refine lv_iconst (v := iI 1) hx hb dX13_wordAt_2 rfl ?_
  refine lv_istore (lv' := [(4, .int (iI 1)), (3, .int (iI 0)), (0, .ref (ad 0)), (1, .int (iI p1)), (2, .int (iI p2))]) hx hb dX13_wordAt_3 hl (by decide) rfl (fun ls hl => ?_)
  have L5 : ∀ (n5 : Nat) (v4_5 v3_5 : Int) (H : Heap) (locs : List Loc) (ls : Array Slot), ((-2147483648) ≤ v4_5 ∧ v4_5 ≤ 2147483647) → ((-2147483648) ≤ v3_5 ∧ v3_5 ≤ 2147483647) → (1 ≤ v4_5 ∧ v4_5 ≤ 154) → (0 ≤ v3_5 ∧ v3_5 ≤ v4_5) → (0 < (n5 : Int) ∧ 154 - v4_5 < (n5 : Int)) → va_P (dC, dI) vwCl (mG ad ca g a) H → va_S A s.heap H locs → lv_has ls 8 [(4, .int (iI v4_5)), (3, .int (iI v3_5)), (0, .ref (ad 0)), (1, .int (iI p1)), (2, .int (iI p2))] → W p l e ({ frames := 4, cells := 0, slots := 0, locals := 85 }) s m ([.ref (ad 0), .int (iI p1), .int (iI p2)] : List Value).toArray below meth c H locs 0 0 Q (F0 m 5 ls []) := by
    intro n5
    induction n5 with
    | zero =>
      intro v4_5 v3_5 H locs ls h_1 h_2 h_3 h_4 hm5 hP hS hl
      exfalso; omega
    | succ n5 ih5 =>
      intro v4_5 v3_5 H locs ls h_5 h_6 h_7 h_8 hm5 hP hS hl
      refine lv_iload hx hb dX13_wordAt_5 (lv_at hl 0 rfl) ?_
      refine mn_ldcwS hx hb hown hXs.2.1.2.2 dX13_wordAt_7 ?_
      have b_9 : sx_n 2 = 154 := rfl
      refine jc_i (va_runV (As := []) (rest := [.int (iI v4_5)]) ⟨hx, hb, hml, hown, hts⟩ (sJ0_length_8abf5 l dC dI _ sK sV 2  (by decide)) (cwV 0 hts (jgoodV m_1413 m_775 m_776 m_754 m_777) rfl rfl rfl (by decide +kernel) ⟨(Nat.le_of_ble_eq_true rfl), (Nat.le_of_ble_eq_true rfl)⟩) ⟨xS_blind, vk_recv hXs.1 (by decide) hS, fun U hU hW => ⟨rfl, xS_of hU hW hXs hS hA⟩⟩ rfl rfl hl.1 rfl (lv_room (Nat.le_of_ble_eq_true rfl)) dX13_wordAt_10 ⟨(Nat.le_of_ble_eq_true rfl), (Nat.le_of_ble_eq_true rfl)⟩) hP hS hA (fun r_10 H locs w_11 hP hS => ?_)
      obtain ⟨z_12, rfl, h_13, h_14⟩ := w_11
      refine xr_icmp_ge (tgt := 129) hx hb dX13_wordAt_13 (by decide) (by omega) (by omega) (fun h_15 => ?_) (fun h_15 => ?_)
      · refine lv_iconst (v := iI (-1)) hx hb dX13_wordAt_129 rfl ?_
        rw [← hQ]
        exact W.iret (v := iI (-1)) hx hb hr (fun t ht hW => ⟨⟨iI (-1), (), rfl, ⟨(-1), rfl, by omega⟩, trivial⟩, hS.F ht⟩) hS.2.2 dX13_wordAt_130
      · refine lv_iconst (v := iI 0) hx hb dX13_wordAt_16 rfl ?_
        refine lv_istore (lv' := [(5, .int (iI 0)), (4, .int (iI v4_5)), (3, .int (iI v3_5)), (0, .ref (ad 0)), (1, .int (iI p1)), (2, .int (iI p2))]) hx hb dX13_wordAt_17 hl (by decide) rfl (fun ls hl => ?_)
        have L19 : ∀ (n19 : Nat) (v5_19 : Int) (H : Heap) (locs : List Loc) (ls : Array Slot), ((-2147483648) ≤ v5_19 ∧ v5_19 ≤ 2147483647) → (0 ≤ v5_19) → (v4_5 + v5_19 ≤ 153) → (0 < (n19 : Int) ∧ 154 - v5_19 < (n19 : Int)) → va_P (dC, dI) vwCl (mG ad ca g a) H → va_S A s.heap H locs → lv_has ls 8 [(5, .int (iI v5_19)), (4, .int (iI v4_5)), (3, .int (iI v3_5)), (0, .ref (ad 0)), (1, .int (iI p1)), (2, .int (iI p2))] → W p l e ({ frames := 4, cells := 0, slots := 0, locals := 85 }) s m ([.ref (ad 0), .int (iI p1), .int (iI p2)] : List Value).toArray below meth c H locs 0 0 Q (F0 m 19 ls []) := by
          intro n19
          induction n19 with
          | zero =>
            intro v5_19 H locs ls h_16 h_17 h_18 hm19 hP hS hl
            exfalso; omega
          | succ n19 ih19 =>
            intro v5_19 H locs ls h_19 h_20 h_21 hm19 hP hS hl
            refine mn_ldcwS hx hb hown hXs.2.1.2.2 dX13_wordAt_19 ?_
            refine lv_iload hx hb dX13_wordAt_22 (lv_at hl 1 rfl) ?_
            refine lv_iload hx hb dX13_wordAt_24 (lv_at hl 0 rfl) ?_
            refine xr_add hx hb dX13_wordAt_26 ?_
            refine xr_kept (fun z_22 h_23 h_24 => ?_)
            have w1 : z_22 = 153 → sx_c 2 (z_22) = 32 := fun e => by rw [e]; decide +kernel
            have b_25 : sx_n 2 = 154 := rfl
            refine jc_i (va_runV (As := [.int (iI z_22)]) (rest := []) ⟨hx, hb, hml, hown, hts⟩ (sJ0_charAt_5068e l dC dI _ sK sV 2 z_22 (by decide) (by omega) (by omega) (by omega)) (cwV 1 hts (jgoodV m_1414 m_809 m_810 m_754 m_811) rfl rfl rfl (by decide +kernel) ⟨(Nat.le_of_ble_eq_true rfl), (Nat.le_of_ble_eq_true rfl)⟩) ⟨xS_blind, vk_recv hXs.1 (by decide) hS, fun U hU hW => ⟨rfl, xS_of hU hW hXs hS hA⟩⟩ rfl rfl hl.1 rfl (lv_room (Nat.le_of_ble_eq_true rfl)) dX13_wordAt_27 ⟨(Nat.le_of_ble_eq_true rfl), (Nat.le_of_ble_eq_true rfl)⟩) hP hS hA (fun r_26 H locs w_27 hP hS => ?_)
            obtain ⟨z_28, rfl, h_29, h_30⟩ := w_27
            refine lv_bipush (v := iI 32) hx hb dX13_wordAt_30 rfl ?_
            refine xr_icmp_eq (tgt := 41) hx hb dX13_wordAt_32 (by decide) (by omega) (by omega) (fun h_31 => ?_) (fun h_31 => ?_)
            · refine lv_iload hx hb dX13_wordAt_41 (lv_at hl 0 rfl) ?_
              refine lv_iload_n hx hb dX13_wordAt_43 rfl (lv_at hl 5 rfl) ?_
              refine lv_iload_n hx hb dX13_wordAt_44 rfl (lv_at hl 4 rfl) ?_
              refine xr_sub hx hb dX13_wordAt_45 ?_
              refine xr_kept (fun z_32 h_33 h_34 => ?_)
              have J54 : ∀ (s0_54 : Int) (H : Heap) (locs : List Loc) (ls : Array Slot), (0 ≤ s0_54 ∧ s0_54 ≤ 1) → (s0_54 = 0 ∨ v5_19 = p2 - p1) → va_P (dC, dI) vwCl (mG ad ca g a) H → va_S A s.heap H locs → lv_has ls 8 [(5, .int (iI v5_19)), (4, .int (iI v4_5)), (3, .int (iI v3_5)), (0, .ref (ad 0)), (1, .int (iI p1)), (2, .int (iI p2))] → W p l e ({ frames := 4, cells := 0, slots := 0, locals := 85 }) s m ([.ref (ad 0), .int (iI p1), .int (iI p2)] : List Value).toArray below meth c H locs 0 0 Q (F0 m 54 ls [.int (iI s0_54)]) := by
                intro s0_54 H locs ls h_35 h_36 hP hS hl
                refine lv_istore (lv' := [(6, .int (iI s0_54)), (5, .int (iI v5_19)), (4, .int (iI v4_5)), (3, .int (iI v3_5)), (0, .ref (ad 0)), (1, .int (iI p1)), (2, .int (iI p2))]) hx hb dX13_wordAt_54 hl (by decide) rfl (fun ls hl => ?_)
                refine lv_iconst (v := iI 0) hx hb dX13_wordAt_56 rfl ?_
                refine lv_istore (lv' := [(7, .int (iI 0)), (6, .int (iI s0_54)), (5, .int (iI v5_19)), (4, .int (iI v4_5)), (3, .int (iI v3_5)), (0, .ref (ad 0)), (1, .int (iI p1)), (2, .int (iI p2))]) hx hb dX13_wordAt_57 hl (by decide) rfl (fun ls hl => ?_)
                have L59 : ∀ (n59 : Nat) (v7_59 v6_59 : Int) (H : Heap) (locs : List Loc) (ls : Array Slot), (0 ≤ v7_59 ∧ v7_59 ≤ 2147483647) → ((-2147483648) ≤ v6_59 ∧ v6_59 ≤ 1) → (0 ≤ v7_59) → (v6_59 = 0 ∨ v5_19 = p2 - p1) → (0 < (n59 : Int) ∧ v5_19 - v7_59 < (n59 : Int)) → va_P (dC, dI) vwCl (mG ad ca g a) H → va_S A s.heap H locs → lv_has ls 8 [(7, .int (iI v7_59)), (6, .int (iI v6_59)), (5, .int (iI v5_19)), (4, .int (iI v4_5)), (3, .int (iI v3_5)), (0, .ref (ad 0)), (1, .int (iI p1)), (2, .int (iI p2))] → W p l e ({ frames := 4, cells := 0, slots := 0, locals := 85 }) s m ([.ref (ad 0), .int (iI p1), .int (iI p2)] : List Value).toArray below meth c H locs 0 0 Q (F0 m 59 ls []) := by
                  intro n59
                  induction n59 with
                  | zero =>
                    intro v7_59 v6_59 H locs ls h_37 h_38 h_39 h_40 hm59 hP hS hl
                    exfalso; omega
                  | succ n59 ih59 =>
                    intro v7_59 v6_59 H locs ls h_41 h_42 h_43 h_44 hm59 hP hS hl
                    refine lv_iload hx hb dX13_wordAt_59 (lv_at hl 0 rfl) ?_
                    refine lv_iload hx hb dX13_wordAt_61 (lv_at hl 2 rfl) ?_
                    have J107 : ∀ (H : Heap) (locs : List Loc) (ls : Array Slot), va_P (dC, dI) vwCl (mG ad ca g a) H → va_S A s.heap H locs → lv_has ls 8 [(7, .int (iI v7_59)), (6, .int (iI v6_59)), (5, .int (iI v5_19)), (4, .int (iI v4_5)), (3, .int (iI v3_5)), (0, .ref (ad 0)), (1, .int (iI p1)), (2, .int (iI p2))] → W p l e ({ frames := 4, cells := 0, slots := 0, locals := 85 }) s m ([.ref (ad 0), .int (iI p1), .int (iI p2)] : List Value).toArray below meth c H locs 0 0 Q (F0 m 107 ls []) := by
                      intro H locs ls hP hS hl
                      refine lv_iload hx hb dX13_wordAt_107 (lv_at hl 1 rfl) ?_
                      refine xr_if_eq (tgt := 114) hx hb dX13_wordAt_109 (by decide) (by omega) (fun h_45 => ?_) (fun h_45 => ?_)
                      · refine lv_iinc (v := iI (v3_5 + 1)) (lv' := [(3, .int (iI (v3_5 + 1))), (7, .int (iI v7_59)), (6, .int (iI v6_59)), (5, .int (iI v5_19)), (4, .int (iI v4_5)), (0, .ref (ad 0)), (1, .int (iI p1)), (2, .int (iI p2))]) hx hb dX13_wordAt_114 hl (k := 4) rfl (iI_add _ _) (by decide) rfl (fun ls hl => ?_)
                        refine lv_iload hx hb dX13_wordAt_117 (lv_at hl 4 rfl) ?_
                        refine lv_iload hx hb dX13_wordAt_119 (lv_at hl 3 rfl) ?_
                        refine lv_iconst (v := iI 1) hx hb dX13_wordAt_121 rfl ?_
                        refine xr_add hx hb dX13_wordAt_122 ?_
                        refine xr_kept (fun z_46 h_47 h_48 => ?_)
                        refine xr_add hx hb dX13_wordAt_123 ?_
                        refine xr_kept (fun z_49 h_50 h_51 => ?_)
                        refine lv_istore (lv' := [(4, .int (iI z_49)), (3, .int (iI (v3_5 + 1))), (7, .int (iI v7_59)), (6, .int (iI v6_59)), (5, .int (iI v5_19)), (0, .ref (ad 0)), (1, .int (iI p1)), (2, .int (iI p2))]) hx hb dX13_wordAt_124 hl (by decide) rfl (fun ls hl => ?_)
                        refine lv_goto (tgt := 5) hx hb dX13_wordAt_126 (by decide) ?_
                        exact ih5 z_49 (v3_5 + 1) H locs ls (by omega) (by omega) (by omega) (by omega) (by omega) hP hS (lv_sub hl [0, 1, 5, 6, 7] rfl)
                      · refine lv_iload_n hx hb dX13_wordAt_112 rfl (lv_at hl 4 rfl) ?_
                        rw [← hQ]
                        exact W.iret (v := iI v3_5) hx hb hr (fun t ht hW => ⟨⟨iI v3_5, (), rfl, ⟨v3_5, rfl, by omega⟩, trivial⟩, hS.F ht⟩) hS.2.2 dX13_wordAt_113
                    refine xr_icmp_ge (tgt := 107) hx hb dX13_wordAt_63 (by decide) (by omega) (by omega) (fun h_52 => ?_) (fun h_52 => ?_)
                    · exact J107 H locs ls hP hS hl
                    · refine lv_iload hx hb dX13_wordAt_66 (lv_at hl 1 rfl) ?_
                      refine xr_if_eq (tgt := 107) hx hb dX13_wordAt_68 (by decide) (by omega) (fun h_53 => ?_) (fun h_53 => ?_)
                      · exact J107 H locs ls hP hS hl
                      · refine mn_ldcwS hx hb hown hXs.2.1.2.2 dX13_wordAt_71 ?_
                        refine lv_iload hx hb dX13_wordAt_74 (lv_at hl 3 rfl) ?_
                        refine lv_iload hx hb dX13_wordAt_76 (lv_at hl 0 rfl) ?_
                        refine xr_add hx hb dX13_wordAt_78 ?_
                        refine xr_kept (fun z_54 h_55 h_56 => ?_)
                        have b_57 : sx_n 2 = 154 := rfl
                        refine jc_i (va_runV (As := [.int (iI z_54)]) (rest := []) ⟨hx, hb, hml, hown, hts⟩ (sJ0_charAt_5068e l dC dI _ sK sV 2 z_54 (by decide) (by omega) (by omega) (by omega)) (cwV 1 hts (jgoodV m_1414 m_809 m_810 m_754 m_811) rfl rfl rfl (by decide +kernel) ⟨(Nat.le_of_ble_eq_true rfl), (Nat.le_of_ble_eq_true rfl)⟩) ⟨xS_blind, vk_recv hXs.1 (by decide) hS, fun U hU hW => ⟨rfl, xS_of hU hW hXs hS hA⟩⟩ rfl rfl hl.1 rfl (lv_room (Nat.le_of_ble_eq_true rfl)) dX13_wordAt_79 ⟨(Nat.le_of_ble_eq_true rfl), (Nat.le_of_ble_eq_true rfl)⟩) hP hS hA (fun r_58 H locs w_59 hP hS => ?_)
                        obtain ⟨z_60, rfl, h_61, h_62⟩ := w_59
                        refine lv_aload_n hx hb dX13_wordAt_82 rfl (lv_at hl 5 rfl) ?_
                        refine gf_text hx hb hj hown hK hP dX13_wordAt_83 ?_
                        refine lv_iload_n hx hb dX13_wordAt_86 rfl (lv_at hl 6 rfl) ?_
                        refine lv_iload hx hb dX13_wordAt_87 (lv_at hl 0 rfl) ?_
                        refine xr_add hx hb dX13_wordAt_89 ?_
                        refine xr_kept (fun z_63 h_64 h_65 => ?_)
                        refine ld_text hx hb hK hP hI (by omega) (by omega) dX13_wordAt_90 (fun h_66 => ?_)
                        have J99 : ∀ (s0_99 : Int) (H : Heap) (locs : List Loc) (ls : Array Slot), (0 ≤ s0_99 ∧ s0_99 ≤ 1) → (s0_99 = 0 ∨ v5_19 = p2 - p1) → va_P (dC, dI) vwCl (mG ad ca g a) H → va_S A s.heap H locs → lv_has ls 8 [(7, .int (iI v7_59)), (6, .int (iI v6_59)), (5, .int (iI v5_19)), (4, .int (iI v4_5)), (3, .int (iI v3_5)), (0, .ref (ad 0)), (1, .int (iI p1)), (2, .int (iI p2))] → W p l e ({ frames := 4, cells := 0, slots := 0, locals := 85 }) s m ([.ref (ad 0), .int (iI p1), .int (iI p2)] : List Value).toArray below meth c H locs 0 0 Q (F0 m 99 ls [.int (iI s0_99)]) := by
                          intro s0_99 H locs ls h_67 h_68 hP hS hl
                          refine lv_istore (lv' := [(6, .int (iI s0_99)), (7, .int (iI v7_59)), (5, .int (iI v5_19)), (4, .int (iI v4_5)), (3, .int (iI v3_5)), (0, .ref (ad 0)), (1, .int (iI p1)), (2, .int (iI p2))]) hx hb dX13_wordAt_99 hl (by decide) rfl (fun ls hl => ?_)
                          refine lv_iinc (v := iI (v7_59 + 1)) (lv' := [(7, .int (iI (v7_59 + 1))), (6, .int (iI s0_99)), (5, .int (iI v5_19)), (4, .int (iI v4_5)), (3, .int (iI v3_5)), (0, .ref (ad 0)), (1, .int (iI p1)), (2, .int (iI p2))]) hx hb dX13_wordAt_101 hl (k := 1) rfl (iI_add _ _) (by decide) rfl (fun ls hl => ?_)
                          refine lv_goto (tgt := 59) hx hb dX13_wordAt_104 (by decide) ?_
                          exact ih59 (v7_59 + 1) s0_99 H locs ls (by omega) (by omega) (by omega) (by omega) (by omega) hP hS hl
                        refine xr_icmp_ne (tgt := 98) hx hb dX13_wordAt_91 (by decide) (by omega) (by omega) (fun h_69 => ?_) (fun h_69 => ?_)
                        · refine lv_iconst (v := iI 0) hx hb dX13_wordAt_98 rfl ?_
                          exact J99 0 H locs ls (by omega) (by omega) hP hS hl
                        · refine lv_iconst (v := iI 1) hx hb dX13_wordAt_94 rfl ?_
                          refine lv_goto (tgt := 99) hx hb dX13_wordAt_95 (by decide) ?_
                          exact J99 1 H locs ls (by omega) (by omega) hP hS hl
                exact L59 (((v5_19 - 0 : Int)).toNat + 1) 0 s0_54 H locs ls (by omega) (by omega) (by omega) (by omega) (by omega) hP hS hl
              refine xr_icmp_ne (tgt := 53) hx hb dX13_wordAt_46 (by decide) (by omega) (by omega) (fun h_70 => ?_) (fun h_70 => ?_)
              · refine lv_iconst (v := iI 0) hx hb dX13_wordAt_53 rfl ?_
                exact J54 0 H locs ls (by omega) (by omega) hP hS hl
              · refine lv_iconst (v := iI 1) hx hb dX13_wordAt_49 rfl ?_
                refine lv_goto (tgt := 54) hx hb dX13_wordAt_50 (by decide) ?_
                exact J54 1 H locs ls (by omega) (by omega) hP hS hl
            · refine lv_iinc (v := iI (v5_19 + 1)) (lv' := [(5, .int (iI (v5_19 + 1))), (4, .int (iI v4_5)), (3, .int (iI v3_5)), (0, .ref (ad 0)), (1, .int (iI p1)), (2, .int (iI p2))]) hx hb dX13_wordAt_35 hl (k := 0) rfl (iI_add _ _) (by decide) rfl (fun ls hl => ?_)
              refine lv_goto (tgt := 19) hx hb dX13_wordAt_38 (by decide) ?_
              exact ih19 (v5_19 + 1) H locs ls (by omega) (by omega) (by omega) (by omega) hP hS hl
        exact L19 (((154 - 0 : Int)).toNat + 1) 0 H locs ls (by omega) (by omega) (by omega) (by omega) hP hS hl
  exact L5 (((154 - 1 : Int)).toNat + 1) 1 0 H locs ls (by omega) (by omega) (by omega) (by omega) (by omega) hP hS hl
set_option maxHeartbeats 2000000 in
set_option maxRecDepth 100000 in
theorem sX13_next (l : Launch) (dC : Nat → ClassId) (dI : Nat → Nat → Nat) (sz : Nat) (ad : Nat → Nat) (ca : Nat → ClassId) (sK sV : Nat → Nat) (g : Nat → Int) (a : Nat → Int → Int) (hI : mI g a) (k1 : g 2 ≤ g 1) : Met l yX13_next (jk yX13_next cX13_next 2 none) ({ frames := 5, cells := 0, slots := 0, locals := 112 }) (va_Pc [.ref (ad 0)] (mP (dC, dI) (mG ad ca g a) (mT ca) sK sV sz)) (va_Qv (fun (u : (Nat → Int) × (Nat → Int → Int)) => (mI u.1 u.2) ∧ (∀ j, j ∉ ([2, 3, 4, 5] : List Nat) → u.1 j = g j) ∧ (∀ j, j ∉ ([] : List Nat) → u.2 j = a j) ∧ (g 2 ≤ u.1 2) ∧ (u.1 2 ≤ g 1) ∧ (u.1 3 = 0 ∨ g 2 + 1 ≤ u.1 2) ∧ (u.1 4 ≤ u.1 2)) (fun u t => va_P (dC, dI) vwCl (mG ad ca u.1 u.2) t.heap ∧ va_K (dC, dI) vwCl (mT ca) t ∧ va_D (va_A (mG ad ca g a) sz) (mG ad ca u.1 u.2)) (va_A (mG ad ca g a) sz)) 0 0 (va_A (mG ad ca g a) sz) := by
  refine Met.ofW (cc := cX13_next) (maxL := 2) (ret := none) (by decide) rfl ?_
  intro p e s m args below meth c s₁ B hml hv
  obtain ⟨rfl, ⟨hsz, hP, hK, hD0⟩, hX0⟩ := hv
  have hx := B.exec
  have hb := B.bytes
  have hr := B.returns
  have hts := atoms_spec (ws := (jk yX13_next cX13_next 2 none)) B.pre
  have hj : ∀ w ∈ jw, w.before ([.ref (ad 0)] : List Value).toArray s = true := fun w h => hts w (jm h)
  have hown : s.vm.findClass RX13 = some m.cls := findClass_of_methodNamed B.named
  subst hsz
  have hD := hD0.self (sz := s.heap.size)
  have hXs := hX0
  generalize hAe : (va_A (mG ad ca g a) s.heap.size) = A at hD hXs ⊢
  have hA : ∀ q : Nat, s.heap.size ≤ q → A q := fun q h => by rw [← hAe]; exact Or.inr h
  have hS : va_S A s.heap s.heap [] := va_S.rf
  have hP : va_P (dC, dI) vwCl (mG ad ca g a) s.heap := hP
  have hfA : ∀ j, j ∉ ([2, 3, 4, 5] : List Nat) → g j = g j := fun _ _ => rfl
  have haA : ∀ j, j ∉ ([] : List Nat) → a j = a j := fun _ _ => rfl
  have hl := lv_entry ([.ref (ad 0)]) (n := 2) (Nat.le_of_ble_eq_true rfl)
  rw [lg_entry_eq]
  generalize (lg_sl ([.ref (ad 0)]) ++ List.replicate (2 - (lg_sl ([.ref (ad 0)])).length) Slot.unset).toArray = ls at hl ⊢
  have hl : lv_has ls 2 [(0, .ref (ad 0))] := hl
  generalize hQ : MQ below (va_Qv (fun (u : (Nat → Int) × (Nat → Int → Int)) => (mI u.1 u.2) ∧ (∀ j, j ∉ ([2, 3, 4, 5] : List Nat) → u.1 j = g j) ∧ (∀ j, j ∉ ([] : List Nat) → u.2 j = a j) ∧ (g 2 ≤ u.1 2) ∧ (u.1 2 ≤ g 1) ∧ (u.1 3 = 0 ∨ g 2 + 1 ≤ u.1 2) ∧ (u.1 4 ≤ u.1 2)) (fun u t => va_P (dC, dI) vwCl (mG ad ca u.1 u.2) t.heap ∧ va_K (dC, dI) vwCl (mT ca) t ∧ va_D A (mG ad ca u.1 u.2)) A) ([.ref (ad 0)] : List Value).toArray s 0 0 A = Q
  suffices ST : ∀ (H : Heap) (locs : List Loc), va_P (dC, dI) vwCl (mG ad ca g a) H → va_S A s.heap H locs → W p l e ({ frames := 5, cells := 0, slots := 0, locals := 112 }) s m ([.ref (ad 0)] : List Value).toArray below meth c H locs 0 0 Q (F0 m 0 ls []) from ST _ _ hP hS
  clear hP hS
  intro H locs hP hS
  have L0 : ∀ (n0 : Nat) (g_0 : Nat → Int) (H : Heap) (locs : List Loc) (ls : Array Slot), (g_0 2 ≤ g 1) → (g 2 ≤ g_0 2) → (g_0 1 = g 1) → (g_0 3 = g 3) → (g_0 4 = g 4) → (mI g_0 a) → (∀ j, j ∉ ([2, 3, 4, 5] : List Nat) → g_0 j = g j) → (0 < (n0 : Int) ∧ (g_0 1) - (g_0 2) < (n0 : Int)) → va_P (dC, dI) vwCl (mG ad ca g_0 a) H → va_D A (mG ad ca g_0 a) → va_S A s.heap H locs → lv_has ls 2 [(0, .ref (ad 0))] → W p l e ({ frames := 5, cells := 0, slots := 0, locals := 112 }) s m ([.ref (ad 0)] : List Value).toArray below meth c H locs 0 0 Q (F0 m 0 ls []) := by
    intro n0
    induction n0 with
    | zero =>
      intro g_0 H locs ls h_1 h_2 h_3 h_4 h_5 hI hfA hm0 hP hD hS hl
      have b_6 : g_0 1 = g 1 := hfA 1 (by decide)
      exfalso; omega
    | succ n0 ih0 =>
      intro g_0 H locs ls h_7 h_8 h_9 h_10 h_11 hI hfA hm0 hP hD hS hl
      have b_12 : g_0 1 = g 1 := hfA 1 (by decide)
      refine lv_aload_n hx hb dX13_next_0 rfl (lv_at hl 0 rfl) ?_
      refine gf_at hx hb hj hown hK hP hI dX13_next_1 (fun h_13 => ?_)
      refine lv_aload_n hx hb dX13_next_4 rfl (lv_at hl 0 rfl) ?_
      refine gf_size hx hb hj hown hK hP hI dX13_next_5 (fun h_14 => ?_)
      have J52 : ∀ (H : Heap) (locs : List Loc) (ls : Array Slot), va_P (dC, dI) vwCl (mG ad ca g_0 a) H → va_D A (mG ad ca g_0 a) → va_S A s.heap H locs → lv_has ls 2 [(0, .ref (ad 0))] → W p l e ({ frames := 5, cells := 0, slots := 0, locals := 112 }) s m ([.ref (ad 0)] : List Value).toArray below meth c H locs 0 0 Q (F0 m 52 ls []) := by
        intro H locs ls hP hD hS hl
        refine lv_aload_n hx hb dX13_next_52 rfl (lv_at hl 0 rfl) ?_
        refine lv_aload_n hx hb dX13_next_53 rfl (lv_at hl 0 rfl) ?_
        refine gf_at hx hb hj hown hK hP hI dX13_next_54 (fun h_15 => ?_)
        refine pf_tokenAt hx hb hj hown hK hP hD hS hI (by omega) (by omega) dX13_next_57 (fun g_16 H locs e_17 e_18 hI hP hD hS => ?_)
        have hfA : ∀ j, j ∉ ([2, 3, 4, 5] : List Nat) → g_16 j = g j := fun j h => (e_17 j (fun q => h (q ▸ (by decide : 4 ∈ ([2, 3, 4, 5] : List Nat))))).trans (hfA j h)
        have b_19 := e_17 2 (by decide)
        have b_20 := e_17 3 (by decide)
        have b_21 := e_17 5 (by decide)
        have b_22 : g_16 1 = g 1 := hfA 1 (by decide)
        have b_23 := e_17 1 (by decide)
        have b_24 := e_17 2 (by decide)
        have b_25 := e_17 3 (by decide)
        refine lv_aload_n hx hb dX13_next_60 rfl (lv_at hl 0 rfl) ?_
        refine lv_iconst (v := iI 0) hx hb dX13_next_61 rfl ?_
        refine pa_tokenValue hx hb hj hown hK hP hD hS hI dX13_next_62 (fun g_26 z_29 H locs h_30 h_31 e_27 e_28 hI hP hD hS => ?_)
        have hfA : ∀ j, j ∉ ([2, 3, 4, 5] : List Nat) → g_26 j = g j := fun j h => (e_27 j (fun q => h (q ▸ (by decide : 5 ∈ ([2, 3, 4, 5] : List Nat))))).trans (hfA j h)
        have b_32 := e_27 2 (by decide)
        have b_33 := e_27 3 (by decide)
        have b_34 := e_27 4 (by decide)
        have b_35 : g_26 1 = g 1 := hfA 1 (by decide)
        have b_36 := e_27 1 (by decide)
        have b_37 := e_27 2 (by decide)
        have b_38 := e_27 3 (by decide)
        have b_39 := e_27 4 (by decide)
        refine lv_aload_n hx hb dX13_next_65 rfl (lv_at hl 0 rfl) ?_
        refine lv_iconst (v := iI 0) hx hb dX13_next_66 rfl ?_
        refine pf_token hx hb hj hown hK hP hD hS hI (by omega) (by omega) dX13_next_67 (fun g_40 H locs e_41 e_42 hI hP hD hS => ?_)
        have hfA : ∀ j, j ∉ ([2, 3, 4, 5] : List Nat) → g_40 j = g j := fun j h => (e_41 j (fun q => h (q ▸ (by decide : 3 ∈ ([2, 3, 4, 5] : List Nat))))).trans (hfA j h)
        have b_43 := e_41 2 (by decide)
        have b_44 := e_41 4 (by decide)
        have b_45 := e_41 5 (by decide)
        have b_46 : g_40 1 = g 1 := hfA 1 (by decide)
        have b_47 := e_41 1 (by decide)
        have b_48 := e_41 2 (by decide)
        have b_49 := e_41 4 (by decide)
        refine lv_aload_n hx hb dX13_next_70 rfl (lv_at hl 0 rfl) ?_
        refine gf_at hx hb hj hown hK hP hI dX13_next_71 (fun h_50 => ?_)
        refine lv_aload_n hx hb dX13_next_74 rfl (lv_at hl 0 rfl) ?_
        refine gf_size hx hb hj hown hK hP hI dX13_next_75 (fun h_51 => ?_)
        refine xr_icmp_ne (tgt := 82) hx hb dX13_next_78 (by decide) (by omega) (by omega) (fun h_52 => ?_) (fun h_52 => ?_)
        · refine lv_aload_n hx hb dX13_next_82 rfl (lv_at hl 0 rfl) ?_
          refine gf_text hx hb hj hown hK hP dX13_next_83 ?_
          refine lv_aload_n hx hb dX13_next_86 rfl (lv_at hl 0 rfl) ?_
          refine gf_at hx hb hj hown hK hP hI dX13_next_87 (fun h_53 => ?_)
          refine ld_text hx hb hK hP hI (by omega) (by omega) dX13_next_90 (fun h_54 => ?_)
          refine lv_istore_n (lv' := [(1, .int (iI (a 1 (g_40 2)))), (0, .ref (ad 0))]) hx hb dX13_next_91 rfl hl (by decide) rfl (fun ls hl => ?_)
          refine lv_iload_n hx hb dX13_next_92 rfl (lv_at hl 0 rfl) ?_
          refine jc_i (va_runS (As := [.int (iI (a 1 (g_40 2)))]) (rest := []) ⟨hx, hb, hml, hown, hts⟩ (sX13_isLetter l dC dI _ (a 1 (g_40 2)) (by omega)) (va_cwS 1 hts (jgoodS m_221 m_384 m_503 m_158) rfl rfl rfl (by decide +kernel) ⟨(Nat.le_of_ble_eq_true rfl), (Nat.le_of_ble_eq_true rfl)⟩) ⟨jw_blind0, fun U hU hW => ⟨rfl, congrArg Array.size hU⟩⟩ rfl rfl hl.1 rfl (lv_room (Nat.le_of_ble_eq_true rfl)) dX13_next_93 ⟨(Nat.le_of_ble_eq_true rfl), (Nat.le_of_ble_eq_true rfl)⟩) hP hS hA (fun r_55 H locs w_56 hP hS => ?_)
          obtain ⟨z_57, rfl, h_58, h_59⟩ := w_56
          refine xr_if_eq (tgt := 162) hx hb dX13_next_96 (by decide) (by omega) (fun h_60 => ?_) (fun h_60 => ?_)
          · refine lv_iload_n hx hb dX13_next_162 rfl (lv_at hl 0 rfl) ?_
            refine jc_i (va_runS (As := [.int (iI (a 1 (g_40 2)))]) (rest := []) ⟨hx, hb, hml, hown, hts⟩ (sX13_isDigit l dC dI _ (a 1 (g_40 2)) (by omega)) (va_cwS 1 hts (jgoodS m_223 m_375 m_503 m_153) rfl rfl rfl (by decide +kernel) ⟨(Nat.le_of_ble_eq_true rfl), (Nat.le_of_ble_eq_true rfl)⟩) ⟨jw_blind0, fun U hU hW => ⟨rfl, congrArg Array.size hU⟩⟩ rfl rfl hl.1 rfl (lv_room (Nat.le_of_ble_eq_true rfl)) dX13_next_163 ⟨(Nat.le_of_ble_eq_true rfl), (Nat.le_of_ble_eq_true rfl)⟩) hP hS hA (fun r_61 H locs w_62 hP hS => ?_)
            obtain ⟨z_63, rfl, h_64, h_65⟩ := w_62
            refine xr_if_eq (tgt := 256) hx hb dX13_next_166 (by decide) (by omega) (fun h_66 => ?_) (fun h_66 => ?_)
            · refine lv_aload_n hx hb dX13_next_256 rfl (lv_at hl 1 rfl) ?_
              refine lv_iload_n hx hb dX13_next_257 rfl (lv_at hl 0 rfl) ?_
              refine lv_bipush (v := iI 43) hx hb dX13_next_258 rfl ?_
              have J340 : ∀ (s0_340 : Int) (H : Heap) (locs : List Loc) (ls : Array Slot), (3 ≤ s0_340 ∧ s0_340 ≤ 4) → va_P (dC, dI) vwCl (mG ad ca g_40 a) H → va_D A (mG ad ca g_40 a) → va_S A s.heap H locs → lv_has ls 2 [(1, .int (iI (a 1 (g_40 2)))), (0, .ref (ad 0))] → W p l e ({ frames := 5, cells := 0, slots := 0, locals := 112 }) s m ([.ref (ad 0)] : List Value).toArray below meth c H locs 0 0 Q (F0 m 340 ls [.int (iI s0_340), .ref (ad 0)]) := by
                intro s0_340 H locs ls h_67 hP hD hS hl
                refine pf_token hx hb hj hown hK hP hD hS hI (by omega) (by omega) dX13_next_340 (fun g_68 H locs e_69 e_70 hI hP hD hS => ?_)
                have hfA : ∀ j, j ∉ ([2, 3, 4, 5] : List Nat) → g_68 j = g j := fun j h => (e_69 j (fun q => h (q ▸ (by decide : 3 ∈ ([2, 3, 4, 5] : List Nat))))).trans (hfA j h)
                have b_71 := e_69 2 (by decide)
                have b_72 := e_69 4 (by decide)
                have b_73 := e_69 5 (by decide)
                have b_74 : g_68 1 = g 1 := hfA 1 (by decide)
                have b_75 := e_69 1 (by decide)
                have b_76 := e_69 2 (by decide)
                have b_77 := e_69 4 (by decide)
                refine lv_aload_n hx hb dX13_next_343 rfl (lv_at hl 1 rfl) ?_
                refine lv_iload_n hx hb dX13_next_344 rfl (lv_at hl 0 rfl) ?_
                refine pa_tokenValue hx hb hj hown hK hP hD hS hI dX13_next_345 (fun g_78 z_81 H locs h_82 h_83 e_79 e_80 hI hP hD hS => ?_)
                have hfA : ∀ j, j ∉ ([2, 3, 4, 5] : List Nat) → g_78 j = g j := fun j h => (e_79 j (fun q => h (q ▸ (by decide : 5 ∈ ([2, 3, 4, 5] : List Nat))))).trans (hfA j h)
                have b_84 := e_79 2 (by decide)
                have b_85 := e_79 3 (by decide)
                have b_86 := e_79 4 (by decide)
                have b_87 : g_78 1 = g 1 := hfA 1 (by decide)
                have b_88 := e_79 1 (by decide)
                have b_89 := e_79 2 (by decide)
                have b_90 := e_79 3 (by decide)
                have b_91 := e_79 4 (by decide)
                refine lv_aload_n hx hb dX13_next_348 rfl (lv_at hl 1 rfl) ?_
                refine lv_dup hx hb dX13_next_349 rfl ?_
                refine gf_at hx hb hj hown hK hP hI dX13_next_350 (fun h_92 => ?_)
                refine lv_iconst (v := iI 1) hx hb dX13_next_353 rfl ?_
                refine xr_add hx hb dX13_next_354 ?_
                refine pf_at hx hb hj hown hK hP hD hS hI (by omega) (by omega) dX13_next_355 (fun g_93 H locs e_94 e_95 hI hP hD hS => ?_)
                have hfA : ∀ j, j ∉ ([2, 3, 4, 5] : List Nat) → g_93 j = g j := fun j h => (e_94 j (fun q => h (q ▸ (by decide : 2 ∈ ([2, 3, 4, 5] : List Nat))))).trans (hfA j h)
                have b_96 := e_94 3 (by decide)
                have b_97 := e_94 4 (by decide)
                have b_98 := e_94 5 (by decide)
                have b_99 : g_93 1 = g 1 := hfA 1 (by decide)
                have b_100 := e_94 1 (by decide)
                have b_101 := e_94 3 (by decide)
                have b_102 := e_94 4 (by decide)
                rw [← hQ]
                exact W.vret hx hb hr (fun t ht hW => ⟨⟨(g_93, a), rfl, ⟨hI, hfA, haA, by show g 2 ≤ g_93 2; omega, by show g_93 2 ≤ g 1; omega, by show g_93 3 = 0 ∨ g 2 + 1 ≤ g_93 2; omega, by show g_93 4 ≤ g_93 2; omega⟩, by rw [ht]; exact hP, va_K.moved hW.alike hK, hD⟩, hS.F ht⟩) hS.2.2 dX13_next_358
              have J335 : ∀ (H : Heap) (locs : List Loc) (ls : Array Slot), va_P (dC, dI) vwCl (mG ad ca g_40 a) H → va_D A (mG ad ca g_40 a) → va_S A s.heap H locs → lv_has ls 2 [(1, .int (iI (a 1 (g_40 2)))), (0, .ref (ad 0))] → W p l e ({ frames := 5, cells := 0, slots := 0, locals := 112 }) s m ([.ref (ad 0)] : List Value).toArray below meth c H locs 0 0 Q (F0 m 335 ls [.ref (ad 0)]) := by
                intro H locs ls hP hD hS hl
                refine lv_iconst (v := iI 3) hx hb dX13_next_335 rfl ?_
                refine lv_goto (tgt := 340) hx hb dX13_next_336 (by decide) ?_
                exact J340 3 H locs ls (by omega) hP hD hS hl
              refine xr_icmp_eq (tgt := 335) hx hb dX13_next_260 (by decide) (by omega) (by omega) (fun h_103 => ?_) (fun h_103 => ?_)
              · exact J335 H locs ls hP hD hS hl
              · refine lv_iload_n hx hb dX13_next_263 rfl (lv_at hl 0 rfl) ?_
                refine lv_bipush (v := iI 45) hx hb dX13_next_264 rfl ?_
                refine xr_icmp_eq (tgt := 335) hx hb dX13_next_266 (by decide) (by omega) (by omega) (fun h_104 => ?_) (fun h_104 => ?_)
                · exact J335 H locs ls hP hD hS hl
                · refine lv_iload_n hx hb dX13_next_269 rfl (lv_at hl 0 rfl) ?_
                  refine lv_bipush (v := iI 42) hx hb dX13_next_270 rfl ?_
                  refine xr_icmp_eq (tgt := 335) hx hb dX13_next_272 (by decide) (by omega) (by omega) (fun h_105 => ?_) (fun h_105 => ?_)
                  · exact J335 H locs ls hP hD hS hl
                  · refine lv_iload_n hx hb dX13_next_275 rfl (lv_at hl 0 rfl) ?_
                    refine lv_bipush (v := iI 47) hx hb dX13_next_276 rfl ?_
                    refine xr_icmp_eq (tgt := 335) hx hb dX13_next_278 (by decide) (by omega) (by omega) (fun h_106 => ?_) (fun h_106 => ?_)
                    · exact J335 H locs ls hP hD hS hl
                    · refine lv_iload_n hx hb dX13_next_281 rfl (lv_at hl 0 rfl) ?_
                      refine lv_bipush (v := iI 40) hx hb dX13_next_282 rfl ?_
                      refine xr_icmp_eq (tgt := 335) hx hb dX13_next_284 (by decide) (by omega) (by omega) (fun h_107 => ?_) (fun h_107 => ?_)
                      · exact J335 H locs ls hP hD hS hl
                      · refine lv_iload_n hx hb dX13_next_287 rfl (lv_at hl 0 rfl) ?_
                        refine lv_bipush (v := iI 41) hx hb dX13_next_288 rfl ?_
                        refine xr_icmp_eq (tgt := 335) hx hb dX13_next_290 (by decide) (by omega) (by omega) (fun h_108 => ?_) (fun h_108 => ?_)
                        · exact J335 H locs ls hP hD hS hl
                        · refine lv_iload_n hx hb dX13_next_293 rfl (lv_at hl 0 rfl) ?_
                          refine lv_bipush (v := iI 91) hx hb dX13_next_294 rfl ?_
                          refine xr_icmp_eq (tgt := 335) hx hb dX13_next_296 (by decide) (by omega) (by omega) (fun h_109 => ?_) (fun h_109 => ?_)
                          · exact J335 H locs ls hP hD hS hl
                          · refine lv_iload_n hx hb dX13_next_299 rfl (lv_at hl 0 rfl) ?_
                            refine lv_bipush (v := iI 93) hx hb dX13_next_300 rfl ?_
                            refine xr_icmp_eq (tgt := 335) hx hb dX13_next_302 (by decide) (by omega) (by omega) (fun h_110 => ?_) (fun h_110 => ?_)
                            · exact J335 H locs ls hP hD hS hl
                            · refine lv_iload_n hx hb dX13_next_305 rfl (lv_at hl 0 rfl) ?_
                              refine lv_bipush (v := iI 44) hx hb dX13_next_306 rfl ?_
                              refine xr_icmp_eq (tgt := 335) hx hb dX13_next_308 (by decide) (by omega) (by omega) (fun h_111 => ?_) (fun h_111 => ?_)
                              · exact J335 H locs ls hP hD hS hl
                              · refine lv_iload_n hx hb dX13_next_311 rfl (lv_at hl 0 rfl) ?_
                                refine lv_bipush (v := iI 60) hx hb dX13_next_312 rfl ?_
                                refine xr_icmp_eq (tgt := 335) hx hb dX13_next_314 (by decide) (by omega) (by omega) (fun h_112 => ?_) (fun h_112 => ?_)
                                · exact J335 H locs ls hP hD hS hl
                                · refine lv_iload_n hx hb dX13_next_317 rfl (lv_at hl 0 rfl) ?_
                                  refine lv_bipush (v := iI 62) hx hb dX13_next_318 rfl ?_
                                  refine xr_icmp_eq (tgt := 335) hx hb dX13_next_320 (by decide) (by omega) (by omega) (fun h_113 => ?_) (fun h_113 => ?_)
                                  · exact J335 H locs ls hP hD hS hl
                                  · refine lv_iload_n hx hb dX13_next_323 rfl (lv_at hl 0 rfl) ?_
                                    refine lv_bipush (v := iI 61) hx hb dX13_next_324 rfl ?_
                                    refine xr_icmp_eq (tgt := 335) hx hb dX13_next_326 (by decide) (by omega) (by omega) (fun h_114 => ?_) (fun h_114 => ?_)
                                    · exact J335 H locs ls hP hD hS hl
                                    · refine lv_iload_n hx hb dX13_next_329 rfl (lv_at hl 0 rfl) ?_
                                      refine lv_bipush (v := iI 59) hx hb dX13_next_330 rfl ?_
                                      refine xr_icmp_ne (tgt := 339) hx hb dX13_next_332 (by decide) (by omega) (by omega) (fun h_115 => ?_) (fun h_115 => ?_)
                                      · refine lv_iconst (v := iI 4) hx hb dX13_next_339 rfl ?_
                                        exact J340 4 H locs ls (by omega) hP hD hS hl
                                      · exact J335 H locs ls hP hD hS hl
            · have L169 : ∀ (n169 : Nat) (g_169 : Nat → Int) (H : Heap) (locs : List Loc) (ls : Array Slot), (g_169 2 ≤ g 1) → (g 2 ≤ g_169 2) → (g_169 4 ≤ g_169 2) → (g 2 + 1 ≤ g_169 2 ∨ (g_169 2 < g 1 ∧ 48 ≤ a 1 (g_169 2) ∧ a 1 (g_169 2) ≤ 57)) → (g_169 1 = g 1) → (g_169 3 = 0) → (g_169 4 = (g_0 2)) → (mI g_169 a) → (∀ j, j ∉ ([2, 3, 4, 5] : List Nat) → g_169 j = g j) → (0 < (n169 : Int) ∧ (g_169 1) - (g_169 2) < (n169 : Int)) → va_P (dC, dI) vwCl (mG ad ca g_169 a) H → va_D A (mG ad ca g_169 a) → va_S A s.heap H locs → lv_has ls 2 [(1, .int (iI (a 1 (g_40 2)))), (0, .ref (ad 0))] → W p l e ({ frames := 5, cells := 0, slots := 0, locals := 112 }) s m ([.ref (ad 0)] : List Value).toArray below meth c H locs 0 0 Q (F0 m 169 ls []) := by
                intro n169
                induction n169 with
                | zero =>
                  intro g_169 H locs ls h_116 h_117 h_118 h_119 h_120 h_121 h_122 hI hfA hm169 hP hD hS hl
                  have b_123 : g_169 1 = g 1 := hfA 1 (by decide)
                  exfalso; omega
                | succ n169 ih169 =>
                  intro g_169 H locs ls h_124 h_125 h_126 h_127 h_128 h_129 h_130 hI hfA hm169 hP hD hS hl
                  have b_131 : g_169 1 = g 1 := hfA 1 (by decide)
                  refine lv_aload_n hx hb dX13_next_169 rfl (lv_at hl 1 rfl) ?_
                  refine gf_at hx hb hj hown hK hP hI dX13_next_170 (fun h_132 => ?_)
                  refine lv_aload_n hx hb dX13_next_173 rfl (lv_at hl 1 rfl) ?_
                  refine gf_size hx hb hj hown hK hP hI dX13_next_174 (fun h_133 => ?_)
                  refine xr_icmp_ge (tgt := 248) hx hb dX13_next_177 (by decide) (by omega) (by omega) (fun h_134 => ?_) (fun h_134 => ?_)
                  · refine lv_aload_n hx hb dX13_next_248 rfl (lv_at hl 1 rfl) ?_
                    refine lv_iconst (v := iI 1) hx hb dX13_next_249 rfl ?_
                    refine pf_token hx hb hj hown hK hP hD hS hI (by omega) (by omega) dX13_next_250 (fun g_135 H locs e_136 e_137 hI hP hD hS => ?_)
                    have hfA : ∀ j, j ∉ ([2, 3, 4, 5] : List Nat) → g_135 j = g j := fun j h => (e_136 j (fun q => h (q ▸ (by decide : 3 ∈ ([2, 3, 4, 5] : List Nat))))).trans (hfA j h)
                    have b_138 := e_136 2 (by decide)
                    have b_139 := e_136 4 (by decide)
                    have b_140 := e_136 5 (by decide)
                    have b_141 : g_135 1 = g 1 := hfA 1 (by decide)
                    have b_142 := e_136 1 (by decide)
                    have b_143 := e_136 2 (by decide)
                    have b_144 := e_136 4 (by decide)
                    refine lv_goto (tgt := 358) hx hb dX13_next_253 (by decide) ?_
                    rw [← hQ]
                    exact W.vret hx hb hr (fun t ht hW => ⟨⟨(g_135, a), rfl, ⟨hI, hfA, haA, by show g 2 ≤ g_135 2; omega, by show g_135 2 ≤ g 1; omega, by show g_135 3 = 0 ∨ g 2 + 1 ≤ g_135 2; omega, by show g_135 4 ≤ g_135 2; omega⟩, by rw [ht]; exact hP, va_K.moved hW.alike hK, hD⟩, hS.F ht⟩) hS.2.2 dX13_next_358
                  · refine lv_aload_n hx hb dX13_next_180 rfl (lv_at hl 1 rfl) ?_
                    refine gf_text hx hb hj hown hK hP dX13_next_181 ?_
                    refine lv_aload_n hx hb dX13_next_184 rfl (lv_at hl 1 rfl) ?_
                    refine gf_at hx hb hj hown hK hP hI dX13_next_185 (fun h_145 => ?_)
                    refine ld_text hx hb hK hP hI (by omega) (by omega) dX13_next_188 (fun h_146 => ?_)
                    refine jc_i (va_runS (As := [.int (iI (a 1 (g_169 2)))]) (rest := []) ⟨hx, hb, hml, hown, hts⟩ (sX13_isDigit l dC dI _ (a 1 (g_169 2)) (by omega)) (va_cwS 1 hts (jgoodS m_223 m_375 m_503 m_153) rfl rfl rfl (by decide +kernel) ⟨(Nat.le_of_ble_eq_true rfl), (Nat.le_of_ble_eq_true rfl)⟩) ⟨jw_blind0, fun U hU hW => ⟨rfl, congrArg Array.size hU⟩⟩ rfl rfl hl.1 rfl (lv_room (Nat.le_of_ble_eq_true rfl)) dX13_next_189 ⟨(Nat.le_of_ble_eq_true rfl), (Nat.le_of_ble_eq_true rfl)⟩) hP hS hA (fun r_147 H locs w_148 hP hS => ?_)
                    obtain ⟨z_149, rfl, h_150, h_151⟩ := w_148
                    refine xr_if_eq (tgt := 248) hx hb dX13_next_192 (by decide) (by omega) (fun h_152 => ?_) (fun h_152 => ?_)
                    · refine lv_aload_n hx hb dX13_next_248 rfl (lv_at hl 1 rfl) ?_
                      refine lv_iconst (v := iI 1) hx hb dX13_next_249 rfl ?_
                      refine pf_token hx hb hj hown hK hP hD hS hI (by omega) (by omega) dX13_next_250 (fun g_153 H locs e_154 e_155 hI hP hD hS => ?_)
                      have hfA : ∀ j, j ∉ ([2, 3, 4, 5] : List Nat) → g_153 j = g j := fun j h => (e_154 j (fun q => h (q ▸ (by decide : 3 ∈ ([2, 3, 4, 5] : List Nat))))).trans (hfA j h)
                      have b_156 := e_154 2 (by decide)
                      have b_157 := e_154 4 (by decide)
                      have b_158 := e_154 5 (by decide)
                      have b_159 : g_153 1 = g 1 := hfA 1 (by decide)
                      have b_160 := e_154 1 (by decide)
                      have b_161 := e_154 2 (by decide)
                      have b_162 := e_154 4 (by decide)
                      refine lv_goto (tgt := 358) hx hb dX13_next_253 (by decide) ?_
                      rw [← hQ]
                      exact W.vret hx hb hr (fun t ht hW => ⟨⟨(g_153, a), rfl, ⟨hI, hfA, haA, by show g 2 ≤ g_153 2; omega, by show g_153 2 ≤ g 1; omega, by show g_153 3 = 0 ∨ g 2 + 1 ≤ g_153 2; omega, by show g_153 4 ≤ g_153 2; omega⟩, by rw [ht]; exact hP, va_K.moved hW.alike hK, hD⟩, hS.F ht⟩) hS.2.2 dX13_next_358
                    · refine lv_aload_n hx hb dX13_next_195 rfl (lv_at hl 1 rfl) ?_
                      refine lv_aload_n hx hb dX13_next_196 rfl (lv_at hl 1 rfl) ?_
                      refine gf_tokenValue hx hb hj hown hK hP hI dX13_next_197 (fun h_163 => ?_)
                      refine lv_ldc hx hb hown (hts (.constant RX13 251 1000000) (jm m_505)) dX13_next_200 ?_
                      refine jt_i (iI 1000000) (by decide) ?_
                      have J232 : ∀ (s0_232 : Int) (H : Heap) (locs : List Loc) (ls : Array Slot), ((-2147483648) ≤ s0_232 ∧ s0_232 ≤ 2147483647) → va_P (dC, dI) vwCl (mG ad ca g_169 a) H → va_D A (mG ad ca g_169 a) → va_S A s.heap H locs → lv_has ls 2 [(1, .int (iI (a 1 (g_40 2)))), (0, .ref (ad 0))] → W p l e ({ frames := 5, cells := 0, slots := 0, locals := 112 }) s m ([.ref (ad 0)] : List Value).toArray below meth c H locs 0 0 Q (F0 m 232 ls [.int (iI s0_232), .ref (ad 0)]) := by
                        intro s0_232 H locs ls h_164 hP hD hS hl
                        refine pa_tokenValue hx hb hj hown hK hP hD hS hI dX13_next_232 (fun g_165 z_168 H locs h_169 h_170 e_166 e_167 hI hP hD hS => ?_)
                        have hfA : ∀ j, j ∉ ([2, 3, 4, 5] : List Nat) → g_165 j = g j := fun j h => (e_166 j (fun q => h (q ▸ (by decide : 5 ∈ ([2, 3, 4, 5] : List Nat))))).trans (hfA j h)
                        have b_171 := e_166 2 (by decide)
                        have b_172 := e_166 3 (by decide)
                        have b_173 := e_166 4 (by decide)
                        have b_174 : g_165 1 = g 1 := hfA 1 (by decide)
                        have b_175 := e_166 1 (by decide)
                        have b_176 := e_166 2 (by decide)
                        have b_177 := e_166 3 (by decide)
                        have b_178 := e_166 4 (by decide)
                        refine lv_aload_n hx hb dX13_next_235 rfl (lv_at hl 1 rfl) ?_
                        refine lv_dup hx hb dX13_next_236 rfl ?_
                        refine gf_at hx hb hj hown hK hP hI dX13_next_237 (fun h_179 => ?_)
                        refine lv_iconst (v := iI 1) hx hb dX13_next_240 rfl ?_
                        refine xr_add hx hb dX13_next_241 ?_
                        refine pf_at hx hb hj hown hK hP hD hS hI (by omega) (by omega) dX13_next_242 (fun g_180 H locs e_181 e_182 hI hP hD hS => ?_)
                        have hfA : ∀ j, j ∉ ([2, 3, 4, 5] : List Nat) → g_180 j = g j := fun j h => (e_181 j (fun q => h (q ▸ (by decide : 2 ∈ ([2, 3, 4, 5] : List Nat))))).trans (hfA j h)
                        have b_183 := e_181 3 (by decide)
                        have b_184 := e_181 4 (by decide)
                        have b_185 := e_181 5 (by decide)
                        have b_186 : g_180 1 = g 1 := hfA 1 (by decide)
                        have b_187 := e_181 1 (by decide)
                        have b_188 := e_181 3 (by decide)
                        have b_189 := e_181 4 (by decide)
                        refine lv_goto (tgt := 169) hx hb dX13_next_245 (by decide) ?_
                        exact ih169 g_180 H locs ls (by omega) (by omega) (by omega) (by omega) (by omega) (by omega) (by omega) hI hfA (by omega) hP hD hS hl
                      refine xr_icmp_le (tgt := 212) hx hb dX13_next_202 (by decide) (by omega) (by omega) (fun h_190 => ?_) (fun h_190 => ?_)
                      · refine lv_bipush (v := iI 10) hx hb dX13_next_212 rfl ?_
                        refine lv_aload_n hx hb dX13_next_214 rfl (lv_at hl 1 rfl) ?_
                        refine gf_tokenValue hx hb hj hown hK hP hI dX13_next_215 (fun h_191 => ?_)
                        refine xr_mul hx hb dX13_next_218 ?_
                        refine xr_kept (fun z_192 h_193 h_194 => ?_)
                        refine lv_aload_n hx hb dX13_next_219 rfl (lv_at hl 1 rfl) ?_
                        refine gf_text hx hb hj hown hK hP dX13_next_220 ?_
                        refine lv_aload_n hx hb dX13_next_223 rfl (lv_at hl 1 rfl) ?_
                        refine gf_at hx hb hj hown hK hP hI dX13_next_224 (fun h_195 => ?_)
                        refine ld_text hx hb hK hP hI (by omega) (by omega) dX13_next_227 (fun h_196 => ?_)
                        refine xr_add hx hb dX13_next_228 ?_
                        refine xr_kept (fun z_197 h_198 h_199 => ?_)
                        refine lv_bipush (v := iI 48) hx hb dX13_next_229 rfl ?_
                        refine xr_sub hx hb dX13_next_231 ?_
                        refine xr_kept (fun z_200 h_201 h_202 => ?_)
                        exact J232 z_200 H locs ls (by omega) hP hD hS hl
                      · refine lv_aload_n hx hb dX13_next_205 rfl (lv_at hl 1 rfl) ?_
                        refine gf_tokenValue hx hb hj hown hK hP hI dX13_next_206 (fun h_203 => ?_)
                        refine lv_goto (tgt := 232) hx hb dX13_next_209 (by decide) ?_
                        exact J232 (g_169 5) H locs ls (by omega) hP hD hS hl
              exact L169 ((((g_40 1) - (g_40 2) : Int)).toNat + 1) g_40 H locs ls (by omega) (by omega) (by omega) (by omega) (by omega) (by omega) (by omega) hI hfA (by omega) hP hD hS hl
          · have L99 : ∀ (n99 : Nat) (g_99 : Nat → Int) (H : Heap) (locs : List Loc) (ls : Array Slot), (g_99 2 ≤ g 1) → (g 2 ≤ g_99 2) → (g_99 4 ≤ g_99 2) → (g 2 + 1 ≤ g_99 2 ∨ (g_99 2 < g 1 ∧ 97 ≤ a 1 (g_99 2) ∧ a 1 (g_99 2) ≤ 122)) → (g_99 1 = g 1) → (g_99 3 = 0) → (g_99 4 = (g_0 2)) → (mI g_99 a) → (∀ j, j ∉ ([2, 3, 4, 5] : List Nat) → g_99 j = g j) → (0 < (n99 : Int) ∧ (g_99 1) - (g_99 2) < (n99 : Int)) → va_P (dC, dI) vwCl (mG ad ca g_99 a) H → va_D A (mG ad ca g_99 a) → va_S A s.heap H locs → lv_has ls 2 [(1, .int (iI (a 1 (g_40 2)))), (0, .ref (ad 0))] → W p l e ({ frames := 5, cells := 0, slots := 0, locals := 112 }) s m ([.ref (ad 0)] : List Value).toArray below meth c H locs 0 0 Q (F0 m 99 ls []) := by
              intro n99
              induction n99 with
              | zero =>
                intro g_99 H locs ls h_204 h_205 h_206 h_207 h_208 h_209 h_210 hI hfA hm99 hP hD hS hl
                have b_211 : g_99 1 = g 1 := hfA 1 (by decide)
                exfalso; omega
              | succ n99 ih99 =>
                intro g_99 H locs ls h_212 h_213 h_214 h_215 h_216 h_217 h_218 hI hfA hm99 hP hD hS hl
                have b_219 : g_99 1 = g 1 := hfA 1 (by decide)
                refine lv_aload_n hx hb dX13_next_99 rfl (lv_at hl 1 rfl) ?_
                refine gf_at hx hb hj hown hK hP hI dX13_next_100 (fun h_220 => ?_)
                refine lv_aload_n hx hb dX13_next_103 rfl (lv_at hl 1 rfl) ?_
                refine gf_size hx hb hj hown hK hP hI dX13_next_104 (fun h_221 => ?_)
                have J138 : ∀ (H : Heap) (locs : List Loc) (ls : Array Slot), (g 2 + 1 ≤ g_99 2) → va_P (dC, dI) vwCl (mG ad ca g_99 a) H → va_D A (mG ad ca g_99 a) → va_S A s.heap H locs → lv_has ls 2 [(1, .int (iI (a 1 (g_40 2)))), (0, .ref (ad 0))] → W p l e ({ frames := 5, cells := 0, slots := 0, locals := 112 }) s m ([.ref (ad 0)] : List Value).toArray below meth c H locs 0 0 Q (F0 m 138 ls []) := by
                  intro H locs ls h_222 hP hD hS hl
                  refine lv_aload_n hx hb dX13_next_138 rfl (lv_at hl 1 rfl) ?_
                  refine lv_iconst (v := iI 2) hx hb dX13_next_139 rfl ?_
                  refine pf_token hx hb hj hown hK hP hD hS hI (by omega) (by omega) dX13_next_140 (fun g_223 H locs e_224 e_225 hI hP hD hS => ?_)
                  have hfA : ∀ j, j ∉ ([2, 3, 4, 5] : List Nat) → g_223 j = g j := fun j h => (e_224 j (fun q => h (q ▸ (by decide : 3 ∈ ([2, 3, 4, 5] : List Nat))))).trans (hfA j h)
                  have b_226 := e_224 2 (by decide)
                  have b_227 := e_224 4 (by decide)
                  have b_228 := e_224 5 (by decide)
                  have b_229 : g_223 1 = g 1 := hfA 1 (by decide)
                  have b_230 := e_224 1 (by decide)
                  have b_231 := e_224 2 (by decide)
                  have b_232 := e_224 4 (by decide)
                  refine lv_aload_n hx hb dX13_next_143 rfl (lv_at hl 1 rfl) ?_
                  refine lv_aload_n hx hb dX13_next_144 rfl (lv_at hl 1 rfl) ?_
                  refine lv_aload_n hx hb dX13_next_145 rfl (lv_at hl 1 rfl) ?_
                  refine gf_tokenAt hx hb hj hown hK hP hI dX13_next_146 (fun h_233 => ?_)
                  refine lv_aload_n hx hb dX13_next_149 rfl (lv_at hl 1 rfl) ?_
                  refine gf_at hx hb hj hown hK hP hI dX13_next_150 (fun h_234 => ?_)
                  refine jc_i (va_runV (As := [.int (iI (g_223 4)), .int (iI (g_223 2))]) (rest := [.ref (ad 0)]) ⟨hx, hb, hml, hown, hts⟩ (sX13_wordAt l dC dI _ ad ca sK sV g_223 a (g_223 4) (g_223 2) hI (by omega) (by omega) (by omega) (by omega) (by omega)) (cwV 2 hts (jgoodV m_222 m_501 m_502 m_503 m_219) rfl rfl rfl (by decide +kernel) ⟨(Nat.le_of_ble_eq_true rfl), (Nat.le_of_ble_eq_true rfl)⟩) ⟨mP_blind, va_recv hK hP (ci := 13) (q0 := 0) rfl rfl, fun U hU hW => ⟨rfl, mP_of hU hW hP hK hD hXs hS (fun _ h => h) hA⟩⟩ rfl rfl hl.1 rfl (lv_room (Nat.le_of_ble_eq_true rfl)) dX13_next_153 ⟨(Nat.le_of_ble_eq_true rfl), (Nat.le_of_ble_eq_true rfl)⟩) hP hS hA (fun r_235 H locs w_236 hP hS => ?_)
                  obtain ⟨z_237, rfl, h_238⟩ := w_236
                  refine pa_tokenValue hx hb hj hown hK hP hD hS hI dX13_next_156 (fun g_239 z_242 H locs h_243 h_244 e_240 e_241 hI hP hD hS => ?_)
                  have hfA : ∀ j, j ∉ ([2, 3, 4, 5] : List Nat) → g_239 j = g j := fun j h => (e_240 j (fun q => h (q ▸ (by decide : 5 ∈ ([2, 3, 4, 5] : List Nat))))).trans (hfA j h)
                  have b_245 := e_240 2 (by decide)
                  have b_246 := e_240 3 (by decide)
                  have b_247 := e_240 4 (by decide)
                  have b_248 : g_239 1 = g 1 := hfA 1 (by decide)
                  have b_249 := e_240 1 (by decide)
                  have b_250 := e_240 2 (by decide)
                  have b_251 := e_240 3 (by decide)
                  have b_252 := e_240 4 (by decide)
                  refine lv_goto (tgt := 358) hx hb dX13_next_159 (by decide) ?_
                  rw [← hQ]
                  exact W.vret hx hb hr (fun t ht hW => ⟨⟨(g_239, a), rfl, ⟨hI, hfA, haA, by show g 2 ≤ g_239 2; omega, by show g_239 2 ≤ g 1; omega, by show g_239 3 = 0 ∨ g 2 + 1 ≤ g_239 2; omega, by show g_239 4 ≤ g_239 2; omega⟩, by rw [ht]; exact hP, va_K.moved hW.alike hK, hD⟩, hS.F ht⟩) hS.2.2 dX13_next_358
                refine xr_icmp_ge (tgt := 138) hx hb dX13_next_107 (by decide) (by omega) (by omega) (fun h_253 => ?_) (fun h_253 => ?_)
                · exact J138 H locs ls (by omega) hP hD hS hl
                · refine lv_aload_n hx hb dX13_next_110 rfl (lv_at hl 1 rfl) ?_
                  refine gf_text hx hb hj hown hK hP dX13_next_111 ?_
                  refine lv_aload_n hx hb dX13_next_114 rfl (lv_at hl 1 rfl) ?_
                  refine gf_at hx hb hj hown hK hP hI dX13_next_115 (fun h_254 => ?_)
                  refine ld_text hx hb hK hP hI (by omega) (by omega) dX13_next_118 (fun h_255 => ?_)
                  refine jc_i (va_runS (As := [.int (iI (a 1 (g_99 2)))]) (rest := []) ⟨hx, hb, hml, hown, hts⟩ (sX13_isLetter l dC dI _ (a 1 (g_99 2)) (by omega)) (va_cwS 1 hts (jgoodS m_221 m_384 m_503 m_158) rfl rfl rfl (by decide +kernel) ⟨(Nat.le_of_ble_eq_true rfl), (Nat.le_of_ble_eq_true rfl)⟩) ⟨jw_blind0, fun U hU hW => ⟨rfl, congrArg Array.size hU⟩⟩ rfl rfl hl.1 rfl (lv_room (Nat.le_of_ble_eq_true rfl)) dX13_next_119 ⟨(Nat.le_of_ble_eq_true rfl), (Nat.le_of_ble_eq_true rfl)⟩) hP hS hA (fun r_256 H locs w_257 hP hS => ?_)
                  obtain ⟨z_258, rfl, h_259, h_260⟩ := w_257
                  refine xr_if_eq (tgt := 138) hx hb dX13_next_122 (by decide) (by omega) (fun h_261 => ?_) (fun h_261 => ?_)
                  · exact J138 H locs ls (by omega) hP hD hS hl
                  · refine lv_aload_n hx hb dX13_next_125 rfl (lv_at hl 1 rfl) ?_
                    refine lv_dup hx hb dX13_next_126 rfl ?_
                    refine gf_at hx hb hj hown hK hP hI dX13_next_127 (fun h_262 => ?_)
                    refine lv_iconst (v := iI 1) hx hb dX13_next_130 rfl ?_
                    refine xr_add hx hb dX13_next_131 ?_
                    refine pf_at hx hb hj hown hK hP hD hS hI (by omega) (by omega) dX13_next_132 (fun g_263 H locs e_264 e_265 hI hP hD hS => ?_)
                    have hfA : ∀ j, j ∉ ([2, 3, 4, 5] : List Nat) → g_263 j = g j := fun j h => (e_264 j (fun q => h (q ▸ (by decide : 2 ∈ ([2, 3, 4, 5] : List Nat))))).trans (hfA j h)
                    have b_266 := e_264 3 (by decide)
                    have b_267 := e_264 4 (by decide)
                    have b_268 := e_264 5 (by decide)
                    have b_269 : g_263 1 = g 1 := hfA 1 (by decide)
                    have b_270 := e_264 1 (by decide)
                    have b_271 := e_264 3 (by decide)
                    have b_272 := e_264 4 (by decide)
                    refine lv_goto (tgt := 99) hx hb dX13_next_135 (by decide) ?_
                    exact ih99 g_263 H locs ls (by omega) (by omega) (by omega) (by omega) (by omega) (by omega) (by omega) hI hfA (by omega) hP hD hS hl
            exact L99 ((((g_40 1) - (g_40 2) : Int)).toNat + 1) g_40 H locs ls (by omega) (by omega) (by omega) (by omega) (by omega) (by omega) (by omega) hI hfA (by omega) hP hD hS hl
        · rw [← hQ]
          exact W.vret hx hb hr (fun t ht hW => ⟨⟨(g_40, a), rfl, ⟨hI, hfA, haA, by show g 2 ≤ g_40 2; omega, by show g_40 2 ≤ g 1; omega, by show g_40 3 = 0 ∨ g 2 + 1 ≤ g_40 2; omega, by show g_40 4 ≤ g_40 2; omega⟩, by rw [ht]; exact hP, va_K.moved hW.alike hK, hD⟩, hS.F ht⟩) hS.2.2 dX13_next_81
      refine xr_icmp_ge (tgt := 52) hx hb dX13_next_8 (by decide) (by omega) (by omega) (fun h_273 => ?_) (fun h_273 => ?_)
      · exact J52 H locs ls hP hD hS hl
      · refine lv_aload_n hx hb dX13_next_11 rfl (lv_at hl 0 rfl) ?_
        refine gf_text hx hb hj hown hK hP dX13_next_12 ?_
        refine lv_aload_n hx hb dX13_next_15 rfl (lv_at hl 0 rfl) ?_
        refine gf_at hx hb hj hown hK hP hI dX13_next_16 (fun h_274 => ?_)
        refine ld_text hx hb hK hP hI (by omega) (by omega) dX13_next_19 (fun h_275 => ?_)
        refine lv_bipush (v := iI 32) hx hb dX13_next_20 rfl ?_
        have J39 : ∀ (H : Heap) (locs : List Loc) (ls : Array Slot), va_P (dC, dI) vwCl (mG ad ca g_0 a) H → va_D A (mG ad ca g_0 a) → va_S A s.heap H locs → lv_has ls 2 [(0, .ref (ad 0))] → W p l e ({ frames := 5, cells := 0, slots := 0, locals := 112 }) s m ([.ref (ad 0)] : List Value).toArray below meth c H locs 0 0 Q (F0 m 39 ls []) := by
          intro H locs ls hP hD hS hl
          refine lv_aload_n hx hb dX13_next_39 rfl (lv_at hl 0 rfl) ?_
          refine lv_dup hx hb dX13_next_40 rfl ?_
          refine gf_at hx hb hj hown hK hP hI dX13_next_41 (fun h_276 => ?_)
          refine lv_iconst (v := iI 1) hx hb dX13_next_44 rfl ?_
          refine xr_add hx hb dX13_next_45 ?_
          refine pf_at hx hb hj hown hK hP hD hS hI (by omega) (by omega) dX13_next_46 (fun g_277 H locs e_278 e_279 hI hP hD hS => ?_)
          have hfA : ∀ j, j ∉ ([2, 3, 4, 5] : List Nat) → g_277 j = g j := fun j h => (e_278 j (fun q => h (q ▸ (by decide : 2 ∈ ([2, 3, 4, 5] : List Nat))))).trans (hfA j h)
          have b_280 := e_278 3 (by decide)
          have b_281 := e_278 4 (by decide)
          have b_282 := e_278 5 (by decide)
          have b_283 : g_277 1 = g 1 := hfA 1 (by decide)
          have b_284 := e_278 1 (by decide)
          have b_285 := e_278 3 (by decide)
          have b_286 := e_278 4 (by decide)
          refine lv_goto (tgt := 0) hx hb dX13_next_49 (by decide) ?_
          exact ih0 g_277 H locs ls (by omega) (by omega) (by omega) (by omega) (by omega) hI hfA (by omega) hP hD hS hl
        refine xr_icmp_eq (tgt := 39) hx hb dX13_next_22 (by decide) (by omega) (by omega) (fun h_287 => ?_) (fun h_287 => ?_)
        · exact J39 H locs ls hP hD hS hl
        · refine lv_aload_n hx hb dX13_next_25 rfl (lv_at hl 0 rfl) ?_
          refine gf_text hx hb hj hown hK hP dX13_next_26 ?_
          refine lv_aload_n hx hb dX13_next_29 rfl (lv_at hl 0 rfl) ?_
          refine gf_at hx hb hj hown hK hP hI dX13_next_30 (fun h_288 => ?_)
          refine ld_text hx hb hK hP hI (by omega) (by omega) dX13_next_33 (fun h_289 => ?_)
          refine lv_bipush (v := iI 10) hx hb dX13_next_34 rfl ?_
          refine xr_icmp_ne (tgt := 52) hx hb dX13_next_36 (by decide) (by omega) (by omega) (fun h_290 => ?_) (fun h_290 => ?_)
          · exact J52 H locs ls hP hD hS hl
          · exact J39 H locs ls hP hD hS hl
  exact L0 ((((g 1) - (g 2) : Int)).toNat + 1) g H locs ls (by omega) (by omega) (by omega) (by omega) (by omega) hI hfA (by omega) hP hD hS hl
