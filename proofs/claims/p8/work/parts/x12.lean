set_option maxHeartbeats 2000000 in
set_option maxRecDepth 100000 in
theorem sX1_bestFrom (l : Launch) (dC : Nat → ClassId) (dI : Nat → Nat → Nat) (sz : Nat) (L : List Nat) (cid : Nat → ClassId) (K : Int → Nat) (N : Int → Int) (tW : Nat) (sK sV : Nat → Nat) (v : Int → Int → Int) (p0 : Int) (p1 : Int) (hI : xI L K N v) (q0 : ok L K p0 1) (q1 : rg p1) (k1 : 0 ≤ p1 ∧ p1 ≤ 7) : Met l yX1_bestFrom (jk yX1_bestFrom cX1_bestFrom 6 (some .int)) ({ frames := 2, cells := 0, slots := 0, locals := 66 }) (va_Pc [.ref p0.toNat, .int (iI p1)] (xP (dC, dI) (xG L cid K N v) (xT cid) tW sK sV sz)) (va_Qi (fun (r : Int32) (u : (Int → Int → Int)) => ∃ z : Int, r = iI z ∧ (xI L K N u) ∧ (fr K [(59, (-1)), (60, (-1))] u v) ∧ (rg z)) (fun u t => va_P (dC, dI) vwCl (xG L cid K N u) t.heap ∧ va_K (dC, dI) vwCl (xT cid) t ∧ va_D (va_A (xG L cid K N v) sz) (xG L cid K N u)) (va_A (xG L cid K N v) sz)) 0 0 (va_A (xG L cid K N v) sz) := by
  refine Met.ofW (cc := cX1_bestFrom) (maxL := 6) (ret := (some .int)) (by decide) rfl ?_
  intro p e s m args below meth c s₁ B hml hv
  obtain ⟨rfl, ⟨hsz, hP, hK, hD0⟩, hX⟩ := hv
  have hx := B.exec
  have hb := B.bytes
  have hr := B.returns
  have hts := atoms_spec (ws := (jk yX1_bestFrom cX1_bestFrom 6 (some .int))) B.pre
  have hj : ∀ w ∈ jw, w.before ([.ref p0.toNat, .int (iI p1)] : List Value).toArray s = true := fun w h => hts w (jm h)
  have hown : s.vm.findClass RX1 = some m.cls := findClass_of_methodNamed B.named
  subst hsz
  have hD := hD0.self (sz := s.heap.size)
  generalize hAe : (va_A (xG L cid K N v) s.heap.size) = A at hD hX ⊢
  have hA : ∀ q : Nat, s.heap.size ≤ q → A q := fun q h => by rw [← hAe]; exact Or.inr h
  have hS : va_S A s.heap s.heap [] := va_S.rf
  have hXa := hX
  have hP : va_P (dC, dI) vwCl (xG L cid K N v) s.heap := hP
  have hl := lv_entry ([.ref p0.toNat, .int (iI p1)]) (n := 6) (Nat.le_of_ble_eq_true rfl)
  rw [lg_entry_eq]
  generalize (lg_sl ([.ref p0.toNat, .int (iI p1)]) ++ List.replicate (6 - (lg_sl ([.ref p0.toNat, .int (iI p1)])).length) Slot.unset).toArray = ls at hl ⊢
  have hl : lv_has ls 6 [(0, .ref p0.toNat), (1, .int (iI p1))] := hl
  generalize hQ : MQ below (va_Qi (fun (r : Int32) (u : (Int → Int → Int)) => ∃ z : Int, r = iI z ∧ (xI L K N u) ∧ (fr K [(59, (-1)), (60, (-1))] u v) ∧ (rg z)) (fun u t => va_P (dC, dI) vwCl (xG L cid K N u) t.heap ∧ va_K (dC, dI) vwCl (xT cid) t ∧ va_D A (xG L cid K N u)) A) ([.ref p0.toNat, .int (iI p1)] : List Value).toArray s 0 0 A = Q
  suffices ST : ∀ (H : Heap) (locs : List Loc), va_P (dC, dI) vwCl (xG L cid K N v) H → va_S A s.heap H locs → W p l e ({ frames := 2, cells := 0, slots := 0, locals := 66 }) s m ([.ref p0.toNat, .int (iI p1)] : List Value).toArray below meth c H locs 0 0 Q (F0 m 0 ls []) from ST _ _ hP hS
  clear hP hS
  intro H locs hP hS
  refine lv_iconst (v := iI 0) hx hb dX1_bestFrom_0 rfl ?_
  refine lv_bipush (v := iI 7) hx hb dX1_bestFrom_1 rfl ?_
  refine lv_aload_n hx hb dX1_bestFrom_3 rfl (lv_at hl 0 rfl) ?_
  have h_1 : 0 ≤ v p0 3 ∧ v p0 3 ≤ 7 := xf_1_3 hI q0
  refine gx_RX1_37 (y := v p0 3) hx hb hj hown hK hP q0 rfl dX1_bestFrom_4 ?_
  refine va_mmin hx hb (by rw [hml]; exact hl.1.symm) hown (hj _ m_879) (hj _ m_765) (hj _ m_762) (hj _ m_766) (Nat.le_of_ble_eq_true rfl) (Nat.le_of_ble_eq_true rfl) (Nat.le_of_ble_eq_true rfl) (Nat.le_of_ble_eq_true rfl) dX1_bestFrom_7 ?_
  refine xm_min (by omega) (by omega) (fun z_2 h_3 => ?_)
  refine lv_iload_n hx hb dX1_bestFrom_10 rfl (lv_at hl 1 rfl) ?_
  refine xr_sub hx hb dX1_bestFrom_11 ?_
  refine va_mmax hx hb (by rw [hml]; exact hl.1.symm) hown (hj _ m_884) (hj _ m_761) (hj _ m_762) (hj _ m_763) (Nat.le_of_ble_eq_true rfl) (Nat.le_of_ble_eq_true rfl) (Nat.le_of_ble_eq_true rfl) (Nat.le_of_ble_eq_true rfl) dX1_bestFrom_12 ?_
  refine xm_max (by omega) (by omega) (fun z_4 h_5 => ?_)
  refine lv_istore_n (lv' := [(2, .int (iI z_4)), (0, .ref p0.toNat), (1, .int (iI p1))]) hx hb dX1_bestFrom_15 rfl hl (by decide) rfl (fun ls hl => ?_)
  refine lv_sipush (v := iI 128) hx hb dX1_bestFrom_16 rfl ?_
  refine lv_iconst (v := iI 1) hx hb dX1_bestFrom_19 rfl ?_
  refine lv_iload_n hx hb dX1_bestFrom_20 rfl (lv_at hl 0 rfl) ?_
  refine xr_shl1 hx hb (by omega) (by omega) dX1_bestFrom_21 (fun z_6 h_7 => ?_)
  refine va_mmin hx hb (by rw [hml]; exact hl.1.symm) hown (hj _ m_879) (hj _ m_765) (hj _ m_762) (hj _ m_766) (Nat.le_of_ble_eq_true rfl) (Nat.le_of_ble_eq_true rfl) (Nat.le_of_ble_eq_true rfl) (Nat.le_of_ble_eq_true rfl) dX1_bestFrom_22 ?_
  refine xm_min (by omega) (by omega) (fun z_8 h_9 => ?_)
  refine lv_istore_n (lv' := [(3, .int (iI z_8)), (2, .int (iI z_4)), (0, .ref p0.toNat), (1, .int (iI p1))]) hx hb dX1_bestFrom_25 rfl hl (by decide) rfl (fun ls hl => ?_)
  refine lv_aload_n hx hb dX1_bestFrom_26 rfl (lv_at hl 2 rfl) ?_
  refine lv_iload_n hx hb dX1_bestFrom_27 rfl (lv_at hl 3 rfl) ?_
  refine lv_iload_n hx hb dX1_bestFrom_28 rfl (lv_at hl 0 rfl) ?_
  refine jcg_v (va_runV (As := [.int (iI p1), .int (iI z_8)]) (rest := []) ⟨hx, hb, hml, hown, hts⟩ (sX1_sumLacks l dC dI _ L cid K N tW sK sV v p0 p1 z_8 hI q0 (by omega) (by omega)) (cwV 2 hts (jgoodV m_885 m_886 m_887 m_888 m_889) rfl rfl rfl (by decide +kernel) ⟨(Nat.le_of_ble_eq_true rfl), (Nat.le_of_ble_eq_true rfl)⟩) ⟨xP_blind, xrecv hK hP q0 rfl rfl, fun U hU hW => ⟨rfl, xP_of hU hW hP hK hD hX hS (fun _ h => h) hA⟩⟩ rfl rfl hl.1 rfl (lv_room (Nat.le_of_ble_eq_true rfl)) dX1_bestFrom_29 ⟨(Nat.le_of_ble_eq_true rfl), (Nat.le_of_ble_eq_true rfl)⟩) hD hS hA (fun v_13 H locs w_11 hP hK hD hS => ?_)
  obtain ⟨I_15, f_14⟩ := w_11
  have hP : va_P (dC, dI) vwCl (xG L cid K N v_13) H := hP
  have hD : va_D A (xG L cid K N v_13) := hD
  refine lv_iconst (v := iI 0) hx hb dX1_bestFrom_32 rfl ?_
  refine lv_istore (lv' := [(4, .int (iI 0)), (3, .int (iI z_8)), (2, .int (iI z_4)), (0, .ref p0.toNat), (1, .int (iI p1))]) hx hb dX1_bestFrom_33 hl (by decide) rfl (fun ls hl => ?_)
  have L35 : ∀ (n35 : Nat) (a4_35 : Int) (vc35 : Int → Int → Int) (H : Heap) (locs : List Loc) (ls : Array Slot), (0 ≤ a4_35 ∧ a4_35 ≤ 2147483647) → (0 < (n35 : Int) ∧ 128 - a4_35 < (n35 : Int)) → fr K [(60, (-1))] vc35 v_13 → xI L K N vc35 → va_P (dC, dI) vwCl (xG L cid K N vc35) H → va_D A (xG L cid K N vc35) → va_S A s.heap H locs → lv_has ls 6 [(4, .int (iI a4_35)), (3, .int (iI z_8)), (2, .int (iI z_4)), (0, .ref p0.toNat), (1, .int (iI p1))] → W p l e ({ frames := 2, cells := 0, slots := 0, locals := 66 }) s m ([.ref p0.toNat, .int (iI p1)] : List Value).toArray below meth c H locs 0 0 Q (F0 m 35 ls []) := by
    intro n35
    induction n35 with
    | zero =>
      intro a4_35 vc35 H locs ls h_16 hm35 f_17 I_18 hP hD hS hl
      exfalso; omega
    | succ n35 ih35 =>
      intro a4_35 vc35 H locs ls h_19 hm35 f_20 I_21 hP hD hS hl
      refine lv_iload hx hb dX1_bestFrom_35 (lv_at hl 0 rfl) ?_
      refine lv_sipush (v := iI 128) hx hb dX1_bestFrom_37 rfl ?_
      refine xr_icmp_ge (tgt := 66) hx hb dX1_bestFrom_40 (by decide) (by omega) (by omega) (fun h_22 => ?_) (fun h_22 => ?_)
      · refine lv_iconst (v := iI 0) hx hb dX1_bestFrom_66 rfl ?_
        refine lv_istore (lv' := [(4, .int (iI 0)), (3, .int (iI z_8)), (2, .int (iI z_4)), (0, .ref p0.toNat), (1, .int (iI p1))]) hx hb dX1_bestFrom_67 hl (by decide) rfl (fun ls hl => ?_)
        have L69 : ∀ (n69 : Nat) (a4_69 : Int) (vc69 : Int → Int → Int) (H : Heap) (locs : List Loc) (ls : Array Slot), (0 ≤ a4_69 ∧ a4_69 ≤ 2147483647) → (0 < (n69 : Int) ∧ (v p0 7) - a4_69 < (n69 : Int)) → fr K [(60, (-1))] vc69 vc35 → xI L K N vc69 → va_P (dC, dI) vwCl (xG L cid K N vc69) H → va_D A (xG L cid K N vc69) → va_S A s.heap H locs → lv_has ls 6 [(4, .int (iI a4_69)), (3, .int (iI z_8)), (2, .int (iI z_4)), (0, .ref p0.toNat), (1, .int (iI p1))] → W p l e ({ frames := 2, cells := 0, slots := 0, locals := 66 }) s m ([.ref p0.toNat, .int (iI p1)] : List Value).toArray below meth c H locs 0 0 Q (F0 m 69 ls []) := by
          intro n69
          induction n69 with
          | zero =>
            intro a4_69 vc69 H locs ls h_23 hm69 f_24 I_25 hP hD hS hl
            exfalso; omega
          | succ n69 ih69 =>
            intro a4_69 vc69 H locs ls h_26 hm69 f_27 I_28 hP hD hS hl
            refine lv_iload hx hb dX1_bestFrom_69 (lv_at hl 0 rfl) ?_
            refine lv_aload_n hx hb dX1_bestFrom_71 rfl (lv_at hl 3 rfl) ?_
            have h_29 : 0 ≤ v p0 7 ∧ v p0 7 ≤ 6 := xf_1_7 hI q0
            refine gx_RX1_41 (y := v p0 7) hx hb hj hown hK hP q0 (((fr_use q0 f_27 rfl)).trans (((fr_use q0 f_20 rfl)).trans (fr_use q0 f_14 rfl))) dX1_bestFrom_72 ?_
            refine xr_icmp_ge (tgt := 112) hx hb dX1_bestFrom_75 (by decide) (by omega) (by omega) (fun h_30 => ?_) (fun h_30 => ?_)
            · refine lv_iconst (v := iI 0) hx hb dX1_bestFrom_112 rfl ?_
              refine lv_istore (lv' := [(4, .int (iI 0)), (3, .int (iI z_8)), (2, .int (iI z_4)), (0, .ref p0.toNat), (1, .int (iI p1))]) hx hb dX1_bestFrom_113 hl (by decide) rfl (fun ls hl => ?_)
              refine lv_iconst (v := iI 0) hx hb dX1_bestFrom_115 rfl ?_
              refine lv_istore (lv' := [(5, .int (iI 0)), (4, .int (iI 0)), (3, .int (iI z_8)), (2, .int (iI z_4)), (0, .ref p0.toNat), (1, .int (iI p1))]) hx hb dX1_bestFrom_116 hl (by decide) rfl (fun ls hl => ?_)
              have L118 : ∀ (n118 : Nat) (a5_118 a4_118 : Int) (H : Heap) (locs : List Loc) (ls : Array Slot), (0 ≤ a5_118 ∧ a5_118 ≤ 2147483647) → (0 ≤ a4_118 ∧ a4_118 ≤ 2147483647) → (0 < (n118 : Int) ∧ z_8 - a5_118 < (n118 : Int)) → va_P (dC, dI) vwCl (xG L cid K N vc69) H → va_D A (xG L cid K N vc69) → va_S A s.heap H locs → lv_has ls 6 [(5, .int (iI a5_118)), (4, .int (iI a4_118)), (3, .int (iI z_8)), (2, .int (iI z_4)), (0, .ref p0.toNat), (1, .int (iI p1))] → W p l e ({ frames := 2, cells := 0, slots := 0, locals := 66 }) s m ([.ref p0.toNat, .int (iI p1)] : List Value).toArray below meth c H locs 0 0 Q (F0 m 118 ls []) := by
                intro n118
                induction n118 with
                | zero =>
                  intro a5_118 a4_118 H locs ls h_31 h_32 hm118 hP hD hS hl
                  exfalso; omega
                | succ n118 ih118 =>
                  intro a5_118 a4_118 H locs ls h_33 h_34 hm118 hP hD hS hl
                  refine lv_iload hx hb dX1_bestFrom_118 (lv_at hl 0 rfl) ?_
                  refine lv_iload_n hx hb dX1_bestFrom_120 rfl (lv_at hl 2 rfl) ?_
                  refine xr_icmp_ge (tgt := 172) hx hb dX1_bestFrom_121 (by decide) (by omega) (by omega) (fun h_35 => ?_) (fun h_35 => ?_)
                  · refine lv_iload hx hb dX1_bestFrom_172 (lv_at hl 1 rfl) ?_
                    rw [← hQ]
                    exact W.iret (v := iI a4_118) hx hb hr (fun t ht hW => ⟨⟨iI a4_118, vc69, rfl, ⟨a4_118, rfl, I_28, (fr_tr f_27 rfl (fr_tr f_20 rfl (fr_tr f_14 rfl fr_rf))), by omega⟩, by rw [ht]; exact hP, va_K.moved hW.alike hK, hD⟩, hS.F ht⟩) hS.2.2 dX1_bestFrom_174
                  · refine lv_iload hx hb dX1_bestFrom_124 (lv_at hl 0 rfl) ?_
                    refine lv_sipush (v := iI 128) hx hb dX1_bestFrom_126 rfl ?_
                    refine xr_icmp_ge (tgt := 172) hx hb dX1_bestFrom_129 (by decide) (by omega) (by omega) (fun h_36 => ?_) (fun h_36 => ?_)
                    · exfalso; omega
                    · refine lv_aload_n hx hb dX1_bestFrom_132 rfl (lv_at hl 4 rfl) ?_
                      have h_37 : ok L K (v p0 9) 60 := xf_1_9 hI q0
                      have h_38 : N (v p0 9) = 128 := xn_60 hI h_37
                      refine gx_RX1_33 (y := v p0 9) hx hb hj hown hK hP q0 ((xf_1_9 I_28 q0).1) (((fr_use q0 f_27 rfl)).trans (((fr_use q0 f_20 rfl)).trans (fr_use q0 f_14 rfl))) dX1_bestFrom_133 ?_
                      refine lv_iload hx hb dX1_bestFrom_136 (lv_at hl 0 rfl) ?_
                      have h_39 : 0 ≤ vc69 (v p0 9) a5_118 ∧ vc69 (v p0 9) a5_118 ≤ 1 := xe_60 I_28 h_37 (by omega)
                      refine ax_60 (y := vc69 (v p0 9) a5_118) hx hb hK hP h_37 (by omega) (by omega) (by omega) rfl dX1_bestFrom_138 ?_
                      have J166 : ∀ (a4_166 : Int) (H : Heap) (locs : List Loc) (ls : Array Slot), (0 ≤ a4_166 ∧ a4_166 ≤ 2147483647) → va_P (dC, dI) vwCl (xG L cid K N vc69) H → va_D A (xG L cid K N vc69) → va_S A s.heap H locs → lv_has ls 6 [(5, .int (iI a5_118)), (4, .int (iI a4_166)), (3, .int (iI z_8)), (2, .int (iI z_4)), (0, .ref p0.toNat), (1, .int (iI p1))] → W p l e ({ frames := 2, cells := 0, slots := 0, locals := 66 }) s m ([.ref p0.toNat, .int (iI p1)] : List Value).toArray below meth c H locs 0 0 Q (F0 m 166 ls []) := by
                        intro a4_166 H locs ls h_40 hP hD hS hl
                        refine lv_iinc (v := iI (a5_118 + 1)) (lv' := [(5, .int (iI (a5_118 + 1))), (4, .int (iI a4_166)), (3, .int (iI z_8)), (2, .int (iI z_4)), (0, .ref p0.toNat), (1, .int (iI p1))]) hx hb dX1_bestFrom_166 hl (k := 0) rfl (iI_add _ _) (by decide) rfl (fun ls hl => ?_)
                        refine lv_goto (tgt := 118) hx hb dX1_bestFrom_169 (by decide) ?_
                        exact ih118 (a5_118 + 1) a4_166 H locs ls (by omega) (by omega) (by omega) hP hD hS hl
                      refine xr_if_eq (tgt := 166) hx hb dX1_bestFrom_139 (by decide) (by omega) (fun h_41 => ?_) (fun h_41 => ?_)
                      · exact J166 a4_118 H locs ls (by omega) hP hD hS hl
                      · refine lv_iload hx hb dX1_bestFrom_142 (lv_at hl 1 rfl) ?_
                        refine lv_sipush (v := iI 10000) hx hb dX1_bestFrom_144 rfl ?_
                        refine lv_iload hx hb dX1_bestFrom_147 (lv_at hl 0 rfl) ?_
                        refine jc_i (va_runS (As := [.int (iI a5_118)]) (rest := [.int (iI 10000), .int (iI a4_118)]) ⟨hx, hb, hml, hown, hts⟩ (sJ6_bitCount_0f7a4 l dC dI _ a5_118 (by omega)) (va_cwS 1 hts (jgoodS m_890 m_891 m_882 m_892) rfl rfl rfl (by decide +kernel) ⟨(Nat.le_of_ble_eq_true rfl), (Nat.le_of_ble_eq_true rfl)⟩) ⟨jw_blind0, fun U hU hW => ⟨rfl, congrArg Array.size hU⟩⟩ rfl rfl hl.1 rfl (lv_room (Nat.le_of_ble_eq_true rfl)) dX1_bestFrom_149 ⟨(Nat.le_of_ble_eq_true rfl), (Nat.le_of_ble_eq_true rfl)⟩) hP hS hA (fun r_42 H locs w_43 hP hS => ?_)
                        obtain ⟨z_44, rfl, h_45⟩ := w_43
                        refine xr_mul hx hb dX1_bestFrom_152 ?_
                        refine xr_kept (fun z_46 h_47 h_48 => ?_)
                        clear h_48
                        refine lv_aload_n hx hb dX1_bestFrom_153 rfl (lv_at hl 4 rfl) ?_
                        have h_49 : ok L K (v p0 8) 59 := xf_1_8 hI q0
                        have h_50 : N (v p0 8) = 128 := xn_59 hI h_49
                        refine gx_RX1_30 (y := v p0 8) hx hb hj hown hK hP q0 ((xf_1_8 I_28 q0).1) (((fr_use q0 f_27 rfl)).trans (((fr_use q0 f_20 rfl)).trans (fr_use q0 f_14 rfl))) dX1_bestFrom_154 ?_
                        refine lv_iload hx hb dX1_bestFrom_157 (lv_at hl 0 rfl) ?_
                        have h_51 : (-2147483648) ≤ v_13 (v p0 8) a5_118 ∧ v_13 (v p0 8) a5_118 ≤ 2147483647 := xe_59 I_15 h_49 (by omega)
                        refine ax_59 (y := v_13 (v p0 8) a5_118) hx hb hK hP h_49 (by omega) (by omega) (by omega) (((fr_use h_49 f_27 rfl)).trans (fr_use h_49 f_20 rfl)) dX1_bestFrom_159 ?_
                        refine xr_sub hx hb dX1_bestFrom_160 ?_
                        refine xr_kept (fun z_52 h_53 h_54 => ?_)
                        refine va_mmax hx hb (by rw [hml]; exact hl.1.symm) hown (hj _ m_884) (hj _ m_761) (hj _ m_762) (hj _ m_763) (Nat.le_of_ble_eq_true rfl) (Nat.le_of_ble_eq_true rfl) (Nat.le_of_ble_eq_true rfl) (Nat.le_of_ble_eq_true rfl) dX1_bestFrom_161 ?_
                        refine xm_max (by omega) (by omega) (fun z_55 h_56 => ?_)
                        refine lv_istore (lv' := [(4, .int (iI z_55)), (5, .int (iI a5_118)), (3, .int (iI z_8)), (2, .int (iI z_4)), (0, .ref p0.toNat), (1, .int (iI p1))]) hx hb dX1_bestFrom_164 hl (by decide) rfl (fun ls hl => ?_)
                        exact J166 z_55 H locs ls (by omega) hP hD hS (lv_sub hl [1, 0, 2, 3, 4, 5] rfl)
              exact L118 (((z_8 - 0 : Int)).toNat + 1) 0 0 H locs ls (by omega) (by omega) (by omega) hP hD hS hl
            · refine lv_iload hx hb dX1_bestFrom_78 (lv_at hl 0 rfl) ?_
              refine lv_bipush (v := iI 6) hx hb dX1_bestFrom_80 rfl ?_
              refine xr_icmp_ge (tgt := 112) hx hb dX1_bestFrom_82 (by decide) (by omega) (by omega) (fun h_57 => ?_) (fun h_57 => ?_)
              · exfalso; omega
              · refine lv_aload_n hx hb dX1_bestFrom_85 rfl (lv_at hl 3 rfl) ?_
                refine lv_aload_n hx hb dX1_bestFrom_86 rfl (lv_at hl 3 rfl) ?_
                have h_58 : ok L K (v p0 6) 58 := xf_1_6 hI q0
                have h_59 : N (v p0 6) = 6 := xn_58 hI h_58
                refine gx_RX1_27 (y := v p0 6) hx hb hj hown hK hP q0 ((xf_1_6 I_28 q0).1) (((fr_use q0 f_27 rfl)).trans (((fr_use q0 f_20 rfl)).trans (fr_use q0 f_14 rfl))) dX1_bestFrom_87 ?_
                refine lv_iload hx hb dX1_bestFrom_90 (lv_at hl 0 rfl) ?_
                have h_60 : (-2147483648) ≤ v (v p0 6) a4_69 ∧ v (v p0 6) a4_69 ≤ 2147483647 := xe_58 hI h_58 (by omega)
                refine ax_58 (y := v (v p0 6) a4_69) hx hb hK hP h_58 (by omega) (by omega) (by omega) (((fr_use h_58 f_27 rfl)).trans (((fr_use h_58 f_20 rfl)).trans (fr_use h_58 f_14 rfl))) dX1_bestFrom_92 ?_
                refine lv_iload_n hx hb dX1_bestFrom_93 rfl (lv_at hl 4 rfl) ?_
                refine lv_ishr hx hb dX1_bestFrom_94 ?_
                refine xr_any (fun z_61 h_62 => ?_)
                refine lv_aload_n hx hb dX1_bestFrom_95 rfl (lv_at hl 3 rfl) ?_
                have h_63 : ok L K (v p0 5) 57 := xf_1_5 hI q0
                have h_64 : N (v p0 5) = 6 := xn_57 hI h_63
                refine gx_RX1_24 (y := v p0 5) hx hb hj hown hK hP q0 ((xf_1_5 I_28 q0).1) (((fr_use q0 f_27 rfl)).trans (((fr_use q0 f_20 rfl)).trans (fr_use q0 f_14 rfl))) dX1_bestFrom_96 ?_
                refine lv_iload hx hb dX1_bestFrom_99 (lv_at hl 0 rfl) ?_
                have h_65 : (-2147483648) ≤ v (v p0 5) a4_69 ∧ v (v p0 5) a4_69 ≤ 2147483647 := xe_57 hI h_63 (by omega)
                refine ax_57 (y := v (v p0 5) a4_69) hx hb hK hP h_63 (by omega) (by omega) (by omega) (((fr_use h_63 f_27 rfl)).trans (((fr_use h_63 f_20 rfl)).trans (fr_use h_63 f_14 rfl))) dX1_bestFrom_101 ?_
                refine lv_iload_n hx hb dX1_bestFrom_102 rfl (lv_at hl 1 rfl) ?_
                refine jcg_v (va_runV (As := [.int (iI z_61), .int (iI (v (v p0 5) a4_69)), .int (iI z_8)]) (rest := []) ⟨hx, hb, hml, hown, hts⟩ (sX1_reachWith l dC dI _ L cid K N tW sK sV vc69 p0 z_61 (v (v p0 5) a4_69) z_8 I_28 q0 (by omega) (by omega) (by omega) (by omega)) (cwV 3 hts (jgoodV m_893 m_894 m_895 m_888 m_896) rfl rfl rfl (by decide +kernel) ⟨(Nat.le_of_ble_eq_true rfl), (Nat.le_of_ble_eq_true rfl)⟩) ⟨xP_blind, xrecv hK hP q0 rfl rfl, fun U hU hW => ⟨rfl, xP_of hU hW hP hK hD hX hS (fun _ h => h) hA⟩⟩ rfl rfl hl.1 rfl (lv_room (Nat.le_of_ble_eq_true rfl)) dX1_bestFrom_103 ⟨(Nat.le_of_ble_eq_true rfl), (Nat.le_of_ble_eq_true rfl)⟩) hD hS hA (fun v_69 H locs w_67 hP hK hD hS => ?_)
                obtain ⟨I_71, f_70⟩ := w_67
                have hP : va_P (dC, dI) vwCl (xG L cid K N v_69) H := hP
                have hD : va_D A (xG L cid K N v_69) := hD
                refine lv_iinc (v := iI (a4_69 + 1)) (lv' := [(4, .int (iI (a4_69 + 1))), (3, .int (iI z_8)), (2, .int (iI z_4)), (0, .ref p0.toNat), (1, .int (iI p1))]) hx hb dX1_bestFrom_106 hl (k := 0) rfl (iI_add _ _) (by decide) rfl (fun ls hl => ?_)
                refine lv_goto (tgt := 69) hx hb dX1_bestFrom_109 (by decide) ?_
                exact ih69 (a4_69 + 1) v_69 H locs ls (by omega) (by omega) (fr_tr f_70 rfl (fr_tr f_27 rfl fr_rf)) I_71 hP hD hS hl
        exact L69 ((((v p0 7) - 0 : Int)).toNat + 1) 0 vc35 H locs ls (by omega) (by omega) fr_rf I_21 hP hD hS hl
      · refine lv_aload_n hx hb dX1_bestFrom_43 rfl (lv_at hl 3 rfl) ?_
        have h_72 : ok L K (v p0 9) 60 := xf_1_9 hI q0
        have h_73 : N (v p0 9) = 128 := xn_60 hI h_72
        refine gx_RX1_33 (y := v p0 9) hx hb hj hown hK hP q0 ((xf_1_9 I_21 q0).1) (((fr_use q0 f_20 rfl)).trans (fr_use q0 f_14 rfl)) dX1_bestFrom_44 ?_
        refine lv_iload hx hb dX1_bestFrom_47 (lv_at hl 0 rfl) ?_
        refine lv_iload hx hb dX1_bestFrom_49 (lv_at hl 0 rfl) ?_
        have J59 : ∀ (s0_59 : Int) (H : Heap) (locs : List Loc) (ls : Array Slot), (0 ≤ s0_59 ∧ s0_59 ≤ 1) → va_P (dC, dI) vwCl (xG L cid K N vc35) H → va_D A (xG L cid K N vc35) → va_S A s.heap H locs → lv_has ls 6 [(4, .int (iI a4_35)), (3, .int (iI z_8)), (2, .int (iI z_4)), (0, .ref p0.toNat), (1, .int (iI p1))] → W p l e ({ frames := 2, cells := 0, slots := 0, locals := 66 }) s m ([.ref p0.toNat, .int (iI p1)] : List Value).toArray below meth c H locs 0 0 Q (F0 m 59 ls [.int (iI s0_59), .int (iI a4_35), .ref (v p0 9).toNat]) := by
          intro s0_59 H locs ls h_74 hP hD hS hl
          refine sx_60 (y := s0_59) hx hb hK hP hD hS I_21 h_72 (by omega) (by omega) (by omega) ⟨by omega, by omega⟩ dX1_bestFrom_59 (fun v_75 H locs f_76 e_77 o_78 I_79 hP hD hS => ?_)
          refine lv_iinc (v := iI (a4_35 + 1)) (lv' := [(4, .int (iI (a4_35 + 1))), (3, .int (iI z_8)), (2, .int (iI z_4)), (0, .ref p0.toNat), (1, .int (iI p1))]) hx hb dX1_bestFrom_60 hl (k := 0) rfl (iI_add _ _) (by decide) rfl (fun ls hl => ?_)
          refine lv_goto (tgt := 35) hx hb dX1_bestFrom_63 (by decide) ?_
          exact ih35 (a4_35 + 1) v_75 H locs ls (by omega) (by omega) (fr_tr f_76 rfl (fr_tr f_20 rfl fr_rf)) I_79 hP hD hS hl
        refine xr_if_ne (tgt := 58) hx hb dX1_bestFrom_51 (by decide) (by omega) (fun h_80 => ?_) (fun h_80 => ?_)
        · refine lv_iconst (v := iI 0) hx hb dX1_bestFrom_58 rfl ?_
          exact J59 0 H locs ls (by omega) hP hD hS hl
        · refine lv_iconst (v := iI 1) hx hb dX1_bestFrom_54 rfl ?_
          refine lv_goto (tgt := 59) hx hb dX1_bestFrom_55 (by decide) ?_
          exact J59 1 H locs ls (by omega) hP hD hS hl
  exact L35 (((128 - 0 : Int)).toNat + 1) 0 v_13 H locs ls (by omega) (by omega) fr_rf I_15 hP hD hS hl
set_option maxHeartbeats 2000000 in
set_option maxRecDepth 100000 in
theorem sX9_has (l : Launch) (dC : Nat → ClassId) (dI : Nat → Nat → Nat) (sz : Nat) (L : List Nat) (cid : Nat → ClassId) (K : Int → Nat) (N : Int → Int) (tW : Nat) (sK sV : Nat → Nat) (v : Int → Int → Int) (p0 : Int) (p1 : Int) (hI : xI L K N v) (q0 : ok L K p0 9) (q1 : rg p1) : Met l yX9_has (jk yX9_has cX9_has 2 (some .boolean)) ({ frames := 0, cells := 0, slots := 0, locals := 0 }) (va_Pc [.ref p0.toNat, .int (iI p1)] (xP (dC, dI) (xG L cid K N v) (xT cid) tW sK sV sz)) (va_Qi (fun (r : Int32) (_ : Unit) => ∃ z : Int, r = iI z ∧ (0 ≤ z ∧ z ≤ 1) ∧ (z = 0 ∨ 0 ≤ p1)) (fun _ _ => True) (va_A [] sz)) 0 0 (va_A [] sz) := by
  sorry
set_option maxHeartbeats 2000000 in
set_option maxRecDepth 100000 in
theorem sX12_go (l : Launch) (dC : Nat → ClassId) (dI : Nat → Nat → Nat) (sz : Nat) (L : List Nat) (cid : Nat → ClassId) (K : Int → Nat) (N : Int → Int) (tW : Nat) (sK sV : Nat → Nat) (v : Int → Int → Int) (p0 : Int) (p1 : Int) (hI : xI L K N v) (q0 : ok L K p0 12) (q1 : rg p1) : Met l yX12_go (jk yX12_go cX12_go 2 (some .int)) ({ frames := 1, cells := 0, slots := 0, locals := 40 }) (va_Pc [.ref p0.toNat, .int (iI p1)] (xP (dC, dI) (xG L cid K N v) (xT cid) tW sK sV sz)) (va_Qi (fun (r : Int32) (u : (Int → Int → Int)) => ∃ z : Int, r = iI z ∧ (xI L K N u) ∧ (fr K [(12, 0)] u v) ∧ (rg z) ∧ ((z = -1 ∧ (p1 < 0 ∨ 300 < p1) ∧ u p0 0 = v p0 0) ∨ (z = u p0 0 ∧ 0 ≤ p1 ∧ p1 ≤ 300 ∧ ((2000 < v p0 0 + p1 ∧ u p0 0 = 2000) ∨ (v p0 0 + p1 ≤ 2000 ∧ u p0 0 = v p0 0 + p1))))) (fun u t => va_P (dC, dI) vwCl (xG L cid K N u) t.heap ∧ va_K (dC, dI) vwCl (xT cid) t ∧ va_D (va_A (xG L cid K N v) sz) (xG L cid K N u)) (va_A (xG L cid K N v) sz)) 0 0 (va_A (xG L cid K N v) sz) := by
  refine Met.ofW (cc := cX12_go) (maxL := 2) (ret := (some .int)) (by decide) rfl ?_
  intro p e s m args below meth c s₁ B hml hv
  obtain ⟨rfl, ⟨hsz, hP, hK, hD0⟩, hX⟩ := hv
  have hx := B.exec
  have hb := B.bytes
  have hr := B.returns
  have hts := atoms_spec (ws := (jk yX12_go cX12_go 2 (some .int))) B.pre
  have hj : ∀ w ∈ jw, w.before ([.ref p0.toNat, .int (iI p1)] : List Value).toArray s = true := fun w h => hts w (jm h)
  have hown : s.vm.findClass RX12 = some m.cls := findClass_of_methodNamed B.named
  subst hsz
  have hD := hD0.self (sz := s.heap.size)
  generalize hAe : (va_A (xG L cid K N v) s.heap.size) = A at hD hX ⊢
  have hA : ∀ q : Nat, s.heap.size ≤ q → A q := fun q h => by rw [← hAe]; exact Or.inr h
  have hS : va_S A s.heap s.heap [] := va_S.rf
  have hXa := hX
  have hP : va_P (dC, dI) vwCl (xG L cid K N v) s.heap := hP
  have hl := lv_entry ([.ref p0.toNat, .int (iI p1)]) (n := 2) (Nat.le_of_ble_eq_true rfl)
  rw [lg_entry_eq]
  generalize (lg_sl ([.ref p0.toNat, .int (iI p1)]) ++ List.replicate (2 - (lg_sl ([.ref p0.toNat, .int (iI p1)])).length) Slot.unset).toArray = ls at hl ⊢
  have hl : lv_has ls 2 [(0, .ref p0.toNat), (1, .int (iI p1))] := hl
  generalize hQ : MQ below (va_Qi (fun (r : Int32) (u : (Int → Int → Int)) => ∃ z : Int, r = iI z ∧ (xI L K N u) ∧ (fr K [(12, 0)] u v) ∧ (rg z) ∧ ((z = -1 ∧ (p1 < 0 ∨ 300 < p1) ∧ u p0 0 = v p0 0) ∨ (z = u p0 0 ∧ 0 ≤ p1 ∧ p1 ≤ 300 ∧ ((2000 < v p0 0 + p1 ∧ u p0 0 = 2000) ∨ (v p0 0 + p1 ≤ 2000 ∧ u p0 0 = v p0 0 + p1))))) (fun u t => va_P (dC, dI) vwCl (xG L cid K N u) t.heap ∧ va_K (dC, dI) vwCl (xT cid) t ∧ va_D A (xG L cid K N u)) A) ([.ref p0.toNat, .int (iI p1)] : List Value).toArray s 0 0 A = Q
  suffices ST : ∀ (H : Heap) (locs : List Loc), va_P (dC, dI) vwCl (xG L cid K N v) H → va_S A s.heap H locs → W p l e ({ frames := 1, cells := 0, slots := 0, locals := 40 }) s m ([.ref p0.toNat, .int (iI p1)] : List Value).toArray below meth c H locs 0 0 Q (F0 m 0 ls []) from ST _ _ hP hS
  clear hP hS
  intro H locs hP hS
  refine lv_iload_n hx hb dX12_go_0 rfl (lv_at hl 1 rfl) ?_
  refine xr_if_lt (tgt := 11) hx hb dX12_go_1 (by decide) (by omega) (fun h_1 => ?_) (fun h_1 => ?_)
  · refine lv_iconst (v := iI (-1)) hx hb dX12_go_11 rfl ?_
    have h_2 : 0 ≤ v p0 0 ∧ v p0 0 ≤ 2000 := xf_12_0 hI q0
    rw [← hQ]
    exact W.iret (v := iI (-1)) hx hb hr (fun t ht hW => ⟨⟨iI (-1), v, rfl, ⟨(-1), rfl, hI, fr_rf, by omega, by omega⟩, by rw [ht]; exact hP, va_K.moved hW.alike hK, hD⟩, hS.F ht⟩) hS.2.2 dX12_go_12
  · refine lv_iload_n hx hb dX12_go_4 rfl (lv_at hl 1 rfl) ?_
    refine lv_sipush (v := iI 300) hx hb dX12_go_5 rfl ?_
    refine xr_icmp_le (tgt := 13) hx hb dX12_go_8 (by decide) (by omega) (by omega) (fun h_3 => ?_) (fun h_3 => ?_)
    · refine lv_aload_n hx hb dX12_go_13 rfl (lv_at hl 0 rfl) ?_
      refine lv_sipush (v := iI 2000) hx hb dX12_go_14 rfl ?_
      refine lv_aload_n hx hb dX12_go_17 rfl (lv_at hl 0 rfl) ?_
      have h_4 : 0 ≤ v p0 0 ∧ v p0 0 ≤ 2000 := xf_12_0 hI q0
      refine gx_RX12_133 (y := v p0 0) hx hb hj hown hK hP q0 rfl dX12_go_18 ?_
      refine lv_iload_n hx hb dX12_go_21 rfl (lv_at hl 1 rfl) ?_
      refine xr_add hx hb dX12_go_22 ?_
      refine va_mmin hx hb (by rw [hml]; exact hl.1.symm) hown (hj _ m_897) (hj _ m_765) (hj _ m_762) (hj _ m_766) (Nat.le_of_ble_eq_true rfl) (Nat.le_of_ble_eq_true rfl) (Nat.le_of_ble_eq_true rfl) (Nat.le_of_ble_eq_true rfl) dX12_go_23 ?_
      refine xm_min (by omega) (by omega) (fun z_5 h_6 => ?_)
      refine px_RX12_133 (y := z_5) hx hb hj hown hK hP hD hS hI q0 ⟨by omega, by omega⟩ dX12_go_26 (fun v_7 H locs f_8 e_9 o_10 I_11 hP hD hS => ?_)
      refine lv_aload_n hx hb dX12_go_29 rfl (lv_at hl 0 rfl) ?_
      refine gx_RX12_133 (y := z_5) hx hb hj hown hK hP q0 e_9 dX12_go_30 ?_
      have b_12 : v_7 p0 0 = z_5 := e_9
      rw [← hQ]
      exact W.iret (v := iI z_5) hx hb hr (fun t ht hW => ⟨⟨iI z_5, v_7, rfl, ⟨z_5, rfl, I_11, (fr_tr f_8 rfl fr_rf), by omega, by omega⟩, by rw [ht]; exact hP, va_K.moved hW.alike hK, hD⟩, hS.F ht⟩) hS.2.2 dX12_go_33
    · refine lv_iconst (v := iI (-1)) hx hb dX12_go_11 rfl ?_
      have h_13 : 0 ≤ v p0 0 ∧ v p0 0 ≤ 2000 := xf_12_0 hI q0
      rw [← hQ]
      exact W.iret (v := iI (-1)) hx hb hr (fun t ht hW => ⟨⟨iI (-1), v, rfl, ⟨(-1), rfl, hI, fr_rf, by omega, by omega⟩, by rw [ht]; exact hP, va_K.moved hW.alike hK, hD⟩, hS.F ht⟩) hS.2.2 dX12_go_12
set_option maxHeartbeats 2000000 in
set_option maxRecDepth 100000 in
theorem sX1_begin (l : Launch) (dC : Nat → ClassId) (dI : Nat → Nat → Nat) (sz : Nat) (L : List Nat) (cid : Nat → ClassId) (K : Int → Nat) (N : Int → Int) (tW : Nat) (sK sV : Nat → Nat) (v : Int → Int → Int) (p0 : Int) (hI : xI L K N v) (q0 : ok L K p0 1) : Met l yX1_begin (jk yX1_begin cX1_begin 1 none) ({ frames := 0, cells := 0, slots := 0, locals := 0 }) (va_Pc [.ref p0.toNat] (xP (dC, dI) (xG L cid K N v) (xT cid) tW sK sV sz)) (va_Qv (fun (u : (Int → Int → Int)) => (xI L K N u) ∧ (fr K [(1, 3), (1, 7)] u v)) (fun u t => va_P (dC, dI) vwCl (xG L cid K N u) t.heap ∧ va_K (dC, dI) vwCl (xT cid) t ∧ va_D (va_A (xG L cid K N v) sz) (xG L cid K N u)) (va_A (xG L cid K N v) sz)) 0 0 (va_A (xG L cid K N v) sz) := by
  refine Met.ofW (cc := cX1_begin) (maxL := 1) (ret := none) (by decide) rfl ?_
  intro p e s m args below meth c s₁ B hml hv
  obtain ⟨rfl, ⟨hsz, hP, hK, hD0⟩, hX⟩ := hv
  have hx := B.exec
  have hb := B.bytes
  have hr := B.returns
  have hts := atoms_spec (ws := (jk yX1_begin cX1_begin 1 none)) B.pre
  have hj : ∀ w ∈ jw, w.before ([.ref p0.toNat] : List Value).toArray s = true := fun w h => hts w (jm h)
  have hown : s.vm.findClass RX1 = some m.cls := findClass_of_methodNamed B.named
  subst hsz
  have hD := hD0.self (sz := s.heap.size)
  generalize hAe : (va_A (xG L cid K N v) s.heap.size) = A at hD hX ⊢
  have hA : ∀ q : Nat, s.heap.size ≤ q → A q := fun q h => by rw [← hAe]; exact Or.inr h
  have hS : va_S A s.heap s.heap [] := va_S.rf
  have hXa := hX
  have hP : va_P (dC, dI) vwCl (xG L cid K N v) s.heap := hP
  have hl := lv_entry ([.ref p0.toNat]) (n := 1) (Nat.le_of_ble_eq_true rfl)
  rw [lg_entry_eq]
  generalize (lg_sl ([.ref p0.toNat]) ++ List.replicate (1 - (lg_sl ([.ref p0.toNat])).length) Slot.unset).toArray = ls at hl ⊢
  have hl : lv_has ls 1 [(0, .ref p0.toNat)] := hl
  generalize hQ : MQ below (va_Qv (fun (u : (Int → Int → Int)) => (xI L K N u) ∧ (fr K [(1, 3), (1, 7)] u v)) (fun u t => va_P (dC, dI) vwCl (xG L cid K N u) t.heap ∧ va_K (dC, dI) vwCl (xT cid) t ∧ va_D A (xG L cid K N u)) A) ([.ref p0.toNat] : List Value).toArray s 0 0 A = Q
  suffices ST : ∀ (H : Heap) (locs : List Loc), va_P (dC, dI) vwCl (xG L cid K N v) H → va_S A s.heap H locs → W p l e ({ frames := 0, cells := 0, slots := 0, locals := 0 }) s m ([.ref p0.toNat] : List Value).toArray below meth c H locs 0 0 Q (F0 m 0 ls []) from ST _ _ hP hS
  clear hP hS
  intro H locs hP hS
  refine lv_aload_n hx hb dX1_begin_0 rfl (lv_at hl 0 rfl) ?_
  refine lv_iconst (v := iI 0) hx hb dX1_begin_1 rfl ?_
  refine px_RX1_37 (y := 0) hx hb hj hown hK hP hD hS hI q0 ⟨by omega, by omega⟩ dX1_begin_2 (fun v_1 H locs f_2 e_3 o_4 I_5 hP hD hS => ?_)
  refine lv_aload_n hx hb dX1_begin_5 rfl (lv_at hl 0 rfl) ?_
  refine lv_iconst (v := iI 0) hx hb dX1_begin_6 rfl ?_
  refine px_RX1_41 (y := 0) hx hb hj hown hK hP hD hS I_5 q0 ⟨by omega, by omega⟩ dX1_begin_7 (fun v_6 H locs f_7 e_8 o_9 I_10 hP hD hS => ?_)
  rw [← hQ]
  exact W.vret hx hb hr (fun t ht hW => ⟨⟨v_6, rfl, ⟨I_10, (fr_tr f_7 rfl (fr_tr f_2 rfl fr_rf))⟩, by rw [ht]; exact hP, va_K.moved hW.alike hK, hD⟩, hS.F ht⟩) hS.2.2 dX1_begin_10
set_option maxHeartbeats 2000000 in
set_option maxRecDepth 100000 in
theorem sX1_addHand (l : Launch) (dC : Nat → ClassId) (dI : Nat → Nat → Nat) (sz : Nat) (L : List Nat) (cid : Nat → ClassId) (K : Int → Nat) (N : Int → Int) (tW : Nat) (sK sV : Nat → Nat) (v : Int → Int → Int) (p0 : Int) (p1 : Int) (p2 : Int) (hI : xI L K N v) (q0 : ok L K p0 1) (q1 : rg p1) (q2 : rg p2) : Met l yX1_addHand (jk yX1_addHand cX1_addHand 3 none) ({ frames := 0, cells := 0, slots := 0, locals := 0 }) (va_Pc [.ref p0.toNat, .int (iI p1), .int (iI p2)] (xP (dC, dI) (xG L cid K N v) (xT cid) tW sK sV sz)) (va_Qv (fun (u : (Int → Int → Int)) => (xI L K N u) ∧ (fr K [(1, 7), (56, (-1)), (57, (-1)), (58, (-1))] u v)) (fun u t => va_P (dC, dI) vwCl (xG L cid K N u) t.heap ∧ va_K (dC, dI) vwCl (xT cid) t ∧ va_D (va_A (xG L cid K N v) sz) (xG L cid K N u)) (va_A (xG L cid K N v) sz)) 0 0 (va_A (xG L cid K N v) sz) := by
  refine Met.ofW (cc := cX1_addHand) (maxL := 3) (ret := none) (by decide) rfl ?_
  intro p e s m args below meth c s₁ B hml hv
  obtain ⟨rfl, ⟨hsz, hP, hK, hD0⟩, hX⟩ := hv
  have hx := B.exec
  have hb := B.bytes
  have hr := B.returns
  have hts := atoms_spec (ws := (jk yX1_addHand cX1_addHand 3 none)) B.pre
  have hj : ∀ w ∈ jw, w.before ([.ref p0.toNat, .int (iI p1), .int (iI p2)] : List Value).toArray s = true := fun w h => hts w (jm h)
  have hown : s.vm.findClass RX1 = some m.cls := findClass_of_methodNamed B.named
  subst hsz
  have hD := hD0.self (sz := s.heap.size)
  generalize hAe : (va_A (xG L cid K N v) s.heap.size) = A at hD hX ⊢
  have hA : ∀ q : Nat, s.heap.size ≤ q → A q := fun q h => by rw [← hAe]; exact Or.inr h
  have hS : va_S A s.heap s.heap [] := va_S.rf
  have hXa := hX
  have hP : va_P (dC, dI) vwCl (xG L cid K N v) s.heap := hP
  have hl := lv_entry ([.ref p0.toNat, .int (iI p1), .int (iI p2)]) (n := 3) (Nat.le_of_ble_eq_true rfl)
  rw [lg_entry_eq]
  generalize (lg_sl ([.ref p0.toNat, .int (iI p1), .int (iI p2)]) ++ List.replicate (3 - (lg_sl ([.ref p0.toNat, .int (iI p1), .int (iI p2)])).length) Slot.unset).toArray = ls at hl ⊢
  have hl : lv_has ls 3 [(0, .ref p0.toNat), (1, .int (iI p1)), (2, .int (iI p2))] := hl
  generalize hQ : MQ below (va_Qv (fun (u : (Int → Int → Int)) => (xI L K N u) ∧ (fr K [(1, 7), (56, (-1)), (57, (-1)), (58, (-1))] u v)) (fun u t => va_P (dC, dI) vwCl (xG L cid K N u) t.heap ∧ va_K (dC, dI) vwCl (xT cid) t ∧ va_D A (xG L cid K N u)) A) ([.ref p0.toNat, .int (iI p1), .int (iI p2)] : List Value).toArray s 0 0 A = Q
  suffices ST : ∀ (H : Heap) (locs : List Loc), va_P (dC, dI) vwCl (xG L cid K N v) H → va_S A s.heap H locs → W p l e ({ frames := 0, cells := 0, slots := 0, locals := 0 }) s m ([.ref p0.toNat, .int (iI p1), .int (iI p2)] : List Value).toArray below meth c H locs 0 0 Q (F0 m 0 ls []) from ST _ _ hP hS
  clear hP hS
  intro H locs hP hS
  refine lv_aload_n hx hb dX1_addHand_0 rfl (lv_at hl 0 rfl) ?_
  have h_1 : 0 ≤ v p0 7 ∧ v p0 7 ≤ 6 := xf_1_7 hI q0
  refine gx_RX1_41 (y := v p0 7) hx hb hj hown hK hP q0 rfl dX1_addHand_1 ?_
  refine xr_if_lt (tgt := 56) hx hb dX1_addHand_4 (by decide) (by omega) (fun h_2 => ?_) (fun h_2 => ?_)
  · exfalso; omega
  · refine lv_aload_n hx hb dX1_addHand_7 rfl (lv_at hl 0 rfl) ?_
    refine gx_RX1_41 (y := v p0 7) hx hb hj hown hK hP q0 rfl dX1_addHand_8 ?_
    refine lv_bipush (v := iI 6) hx hb dX1_addHand_11 rfl ?_
    refine xr_icmp_ge (tgt := 56) hx hb dX1_addHand_13 (by decide) (by omega) (by omega) (fun h_3 => ?_) (fun h_3 => ?_)
    · rw [← hQ]
      exact W.vret hx hb hr (fun t ht hW => ⟨⟨v, rfl, ⟨hI, fr_rf⟩, by rw [ht]; exact hP, va_K.moved hW.alike hK, hD⟩, hS.F ht⟩) hS.2.2 dX1_addHand_56
    · refine lv_aload_n hx hb dX1_addHand_16 rfl (lv_at hl 0 rfl) ?_
      have h_4 : ok L K (v p0 4) 56 := xf_1_4 hI q0
      have h_5 : N (v p0 4) = 6 := xn_56 hI h_4
      refine gx_RX1_21 (y := v p0 4) hx hb hj hown hK hP q0 ((xf_1_4 hI q0).1) rfl dX1_addHand_17 ?_
      refine lv_aload_n hx hb dX1_addHand_20 rfl (lv_at hl 0 rfl) ?_
      refine gx_RX1_41 (y := v p0 7) hx hb hj hown hK hP q0 rfl dX1_addHand_21 ?_
      refine lv_iload_n hx hb dX1_addHand_24 rfl (lv_at hl 1 rfl) ?_
      refine sx_56 (y := p1) hx hb hK hP hD hS hI h_4 (by omega) (by omega) (by omega) ⟨by omega, by omega⟩ dX1_addHand_25 (fun v_6 H locs f_7 e_8 o_9 I_10 hP hD hS => ?_)
      refine lv_aload_n hx hb dX1_addHand_26 rfl (lv_at hl 0 rfl) ?_
      have h_11 : ok L K (v p0 5) 57 := xf_1_5 hI q0
      have h_12 : N (v p0 5) = 6 := xn_57 hI h_11
      refine gx_RX1_24 (y := v p0 5) hx hb hj hown hK hP q0 ((xf_1_5 I_10 q0).1) (fr_use q0 f_7 rfl) dX1_addHand_27 ?_
      refine lv_aload_n hx hb dX1_addHand_30 rfl (lv_at hl 0 rfl) ?_
      refine gx_RX1_41 (y := v p0 7) hx hb hj hown hK hP q0 (fr_use q0 f_7 rfl) dX1_addHand_31 ?_
      refine lv_iload_n hx hb dX1_addHand_34 rfl (lv_at hl 2 rfl) ?_
      refine sx_57 (y := p2) hx hb hK hP hD hS I_10 h_11 (by omega) (by omega) (by omega) ⟨by omega, by omega⟩ dX1_addHand_35 (fun v_13 H locs f_14 e_15 o_16 I_17 hP hD hS => ?_)
      refine lv_aload_n hx hb dX1_addHand_36 rfl (lv_at hl 0 rfl) ?_
      have h_18 : ok L K (v p0 6) 58 := xf_1_6 hI q0
      have h_19 : N (v p0 6) = 6 := xn_58 hI h_18
      refine gx_RX1_27 (y := v p0 6) hx hb hj hown hK hP q0 ((xf_1_6 I_17 q0).1) (((fr_use q0 f_14 rfl)).trans (fr_use q0 f_7 rfl)) dX1_addHand_37 ?_
      refine lv_aload_n hx hb dX1_addHand_40 rfl (lv_at hl 0 rfl) ?_
      refine gx_RX1_41 (y := v p0 7) hx hb hj hown hK hP q0 (((fr_use q0 f_14 rfl)).trans (fr_use q0 f_7 rfl)) dX1_addHand_41 ?_
      refine lv_iconst (v := iI 0) hx hb dX1_addHand_44 rfl ?_
      refine sx_58 (y := 0) hx hb hK hP hD hS I_17 h_18 (by omega) (by omega) (by omega) ⟨by omega, by omega⟩ dX1_addHand_45 (fun v_20 H locs f_21 e_22 o_23 I_24 hP hD hS => ?_)
      refine lv_aload_n hx hb dX1_addHand_46 rfl (lv_at hl 0 rfl) ?_
      refine lv_dup hx hb dX1_addHand_47 rfl ?_
      refine gx_RX1_41 (y := v p0 7) hx hb hj hown hK hP q0 (((fr_use q0 f_21 rfl)).trans (((fr_use q0 f_14 rfl)).trans (fr_use q0 f_7 rfl))) dX1_addHand_48 ?_
      refine lv_iconst (v := iI 1) hx hb dX1_addHand_51 rfl ?_
      refine xr_add hx hb dX1_addHand_52 ?_
      refine px_RX1_41 (y := (v p0 7) + 1) hx hb hj hown hK hP hD hS I_24 q0 ⟨by omega, by omega⟩ dX1_addHand_53 (fun v_25 H locs f_26 e_27 o_28 I_29 hP hD hS => ?_)
      rw [← hQ]
      exact W.vret hx hb hr (fun t ht hW => ⟨⟨v_25, rfl, ⟨I_29, (fr_tr f_26 rfl (fr_tr f_21 rfl (fr_tr f_14 rfl (fr_tr f_7 rfl fr_rf))))⟩, by rw [ht]; exact hP, va_K.moved hW.alike hK, hD⟩, hS.F ht⟩) hS.2.2 dX1_addHand_56
set_option maxHeartbeats 2000000 in
set_option maxRecDepth 100000 in
theorem sX1_addArticle (l : Launch) (dC : Nat → ClassId) (dI : Nat → Nat → Nat) (sz : Nat) (L : List Nat) (cid : Nat → ClassId) (K : Int → Nat) (N : Int → Int) (tW : Nat) (sK sV : Nat → Nat) (v : Int → Int → Int) (p0 : Int) (p1 : Int) (p2 : Int) (hI : xI L K N v) (q0 : ok L K p0 1) (q1 : rg p1) (q2 : rg p2) : Met l yX1_addArticle (jk yX1_addArticle cX1_addArticle 3 none) ({ frames := 0, cells := 0, slots := 0, locals := 0 }) (va_Pc [.ref p0.toNat, .int (iI p1), .int (iI p2)] (xP (dC, dI) (xG L cid K N v) (xT cid) tW sK sV sz)) (va_Qv (fun (u : (Int → Int → Int)) => (xI L K N u) ∧ (fr K [(1, 3), (53, (-1)), (54, (-1)), (55, (-1))] u v)) (fun u t => va_P (dC, dI) vwCl (xG L cid K N u) t.heap ∧ va_K (dC, dI) vwCl (xT cid) t ∧ va_D (va_A (xG L cid K N v) sz) (xG L cid K N u)) (va_A (xG L cid K N v) sz)) 0 0 (va_A (xG L cid K N v) sz) := by
  refine Met.ofW (cc := cX1_addArticle) (maxL := 3) (ret := none) (by decide) rfl ?_
  intro p e s m args below meth c s₁ B hml hv
  obtain ⟨rfl, ⟨hsz, hP, hK, hD0⟩, hX⟩ := hv
  have hx := B.exec
  have hb := B.bytes
  have hr := B.returns
  have hts := atoms_spec (ws := (jk yX1_addArticle cX1_addArticle 3 none)) B.pre
  have hj : ∀ w ∈ jw, w.before ([.ref p0.toNat, .int (iI p1), .int (iI p2)] : List Value).toArray s = true := fun w h => hts w (jm h)
  have hown : s.vm.findClass RX1 = some m.cls := findClass_of_methodNamed B.named
  subst hsz
  have hD := hD0.self (sz := s.heap.size)
  generalize hAe : (va_A (xG L cid K N v) s.heap.size) = A at hD hX ⊢
  have hA : ∀ q : Nat, s.heap.size ≤ q → A q := fun q h => by rw [← hAe]; exact Or.inr h
  have hS : va_S A s.heap s.heap [] := va_S.rf
  have hXa := hX
  have hP : va_P (dC, dI) vwCl (xG L cid K N v) s.heap := hP
  have hl := lv_entry ([.ref p0.toNat, .int (iI p1), .int (iI p2)]) (n := 3) (Nat.le_of_ble_eq_true rfl)
  rw [lg_entry_eq]
  generalize (lg_sl ([.ref p0.toNat, .int (iI p1), .int (iI p2)]) ++ List.replicate (3 - (lg_sl ([.ref p0.toNat, .int (iI p1), .int (iI p2)])).length) Slot.unset).toArray = ls at hl ⊢
  have hl : lv_has ls 3 [(0, .ref p0.toNat), (1, .int (iI p1)), (2, .int (iI p2))] := hl
  generalize hQ : MQ below (va_Qv (fun (u : (Int → Int → Int)) => (xI L K N u) ∧ (fr K [(1, 3), (53, (-1)), (54, (-1)), (55, (-1))] u v)) (fun u t => va_P (dC, dI) vwCl (xG L cid K N u) t.heap ∧ va_K (dC, dI) vwCl (xT cid) t ∧ va_D A (xG L cid K N u)) A) ([.ref p0.toNat, .int (iI p1), .int (iI p2)] : List Value).toArray s 0 0 A = Q
  suffices ST : ∀ (H : Heap) (locs : List Loc), va_P (dC, dI) vwCl (xG L cid K N v) H → va_S A s.heap H locs → W p l e ({ frames := 0, cells := 0, slots := 0, locals := 0 }) s m ([.ref p0.toNat, .int (iI p1), .int (iI p2)] : List Value).toArray below meth c H locs 0 0 Q (F0 m 0 ls []) from ST _ _ hP hS
  clear hP hS
  intro H locs hP hS
  refine lv_aload_n hx hb dX1_addArticle_0 rfl (lv_at hl 0 rfl) ?_
  have h_1 : 0 ≤ v p0 3 ∧ v p0 3 ≤ 7 := xf_1_3 hI q0
  refine gx_RX1_37 (y := v p0 3) hx hb hj hown hK hP q0 rfl dX1_addArticle_1 ?_
  refine xr_if_lt (tgt := 56) hx hb dX1_addArticle_4 (by decide) (by omega) (fun h_2 => ?_) (fun h_2 => ?_)
  · exfalso; omega
  · refine lv_aload_n hx hb dX1_addArticle_7 rfl (lv_at hl 0 rfl) ?_
    refine gx_RX1_37 (y := v p0 3) hx hb hj hown hK hP q0 rfl dX1_addArticle_8 ?_
    refine lv_bipush (v := iI 7) hx hb dX1_addArticle_11 rfl ?_
    refine xr_icmp_ge (tgt := 56) hx hb dX1_addArticle_13 (by decide) (by omega) (by omega) (fun h_3 => ?_) (fun h_3 => ?_)
    · rw [← hQ]
      exact W.vret hx hb hr (fun t ht hW => ⟨⟨v, rfl, ⟨hI, fr_rf⟩, by rw [ht]; exact hP, va_K.moved hW.alike hK, hD⟩, hS.F ht⟩) hS.2.2 dX1_addArticle_56
    · refine lv_aload_n hx hb dX1_addArticle_16 rfl (lv_at hl 0 rfl) ?_
      have h_4 : ok L K (v p0 0) 53 := xf_1_0 hI q0
      have h_5 : N (v p0 0) = 7 := xn_53 hI h_4
      refine gx_RX1_11 (y := v p0 0) hx hb hj hown hK hP q0 ((xf_1_0 hI q0).1) rfl dX1_addArticle_17 ?_
      refine lv_aload_n hx hb dX1_addArticle_20 rfl (lv_at hl 0 rfl) ?_
      refine gx_RX1_37 (y := v p0 3) hx hb hj hown hK hP q0 rfl dX1_addArticle_21 ?_
      refine lv_iload_n hx hb dX1_addArticle_24 rfl (lv_at hl 1 rfl) ?_
      refine sx_53 (y := p1) hx hb hK hP hD hS hI h_4 (by omega) (by omega) (by omega) ⟨by omega, by omega⟩ dX1_addArticle_25 (fun v_6 H locs f_7 e_8 o_9 I_10 hP hD hS => ?_)
      refine lv_aload_n hx hb dX1_addArticle_26 rfl (lv_at hl 0 rfl) ?_
      have h_11 : ok L K (v p0 1) 54 := xf_1_1 hI q0
      have h_12 : N (v p0 1) = 7 := xn_54 hI h_11
      refine gx_RX1_15 (y := v p0 1) hx hb hj hown hK hP q0 ((xf_1_1 I_10 q0).1) (fr_use q0 f_7 rfl) dX1_addArticle_27 ?_
      refine lv_aload_n hx hb dX1_addArticle_30 rfl (lv_at hl 0 rfl) ?_
      refine gx_RX1_37 (y := v p0 3) hx hb hj hown hK hP q0 (fr_use q0 f_7 rfl) dX1_addArticle_31 ?_
      refine lv_iload_n hx hb dX1_addArticle_34 rfl (lv_at hl 2 rfl) ?_
      refine sx_54 (y := p2) hx hb hK hP hD hS I_10 h_11 (by omega) (by omega) (by omega) ⟨by omega, by omega⟩ dX1_addArticle_35 (fun v_13 H locs f_14 e_15 o_16 I_17 hP hD hS => ?_)
      refine lv_aload_n hx hb dX1_addArticle_36 rfl (lv_at hl 0 rfl) ?_
      have h_18 : ok L K (v p0 2) 55 := xf_1_2 hI q0
      have h_19 : N (v p0 2) = 7 := xn_55 hI h_18
      refine gx_RX1_18 (y := v p0 2) hx hb hj hown hK hP q0 ((xf_1_2 I_17 q0).1) (((fr_use q0 f_14 rfl)).trans (fr_use q0 f_7 rfl)) dX1_addArticle_37 ?_
      refine lv_aload_n hx hb dX1_addArticle_40 rfl (lv_at hl 0 rfl) ?_
      refine gx_RX1_37 (y := v p0 3) hx hb hj hown hK hP q0 (((fr_use q0 f_14 rfl)).trans (fr_use q0 f_7 rfl)) dX1_addArticle_41 ?_
      refine lv_iconst (v := iI (-1)) hx hb dX1_addArticle_44 rfl ?_
      refine sx_55 (y := (-1)) hx hb hK hP hD hS I_17 h_18 (by omega) (by omega) (by omega) ⟨by omega, by omega⟩ dX1_addArticle_45 (fun v_20 H locs f_21 e_22 o_23 I_24 hP hD hS => ?_)
      refine lv_aload_n hx hb dX1_addArticle_46 rfl (lv_at hl 0 rfl) ?_
      refine lv_dup hx hb dX1_addArticle_47 rfl ?_
      refine gx_RX1_37 (y := v p0 3) hx hb hj hown hK hP q0 (((fr_use q0 f_21 rfl)).trans (((fr_use q0 f_14 rfl)).trans (fr_use q0 f_7 rfl))) dX1_addArticle_48 ?_
      refine lv_iconst (v := iI 1) hx hb dX1_addArticle_51 rfl ?_
      refine xr_add hx hb dX1_addArticle_52 ?_
      refine px_RX1_37 (y := (v p0 3) + 1) hx hb hj hown hK hP hD hS I_24 q0 ⟨by omega, by omega⟩ dX1_addArticle_53 (fun v_25 H locs f_26 e_27 o_28 I_29 hP hD hS => ?_)
      rw [← hQ]
      exact W.vret hx hb hr (fun t ht hW => ⟨⟨v_25, rfl, ⟨I_29, (fr_tr f_26 rfl (fr_tr f_21 rfl (fr_tr f_14 rfl (fr_tr f_7 rfl fr_rf))))⟩, by rw [ht]; exact hP, va_K.moved hW.alike hK, hD⟩, hS.F ht⟩) hS.2.2 dX1_addArticle_56
