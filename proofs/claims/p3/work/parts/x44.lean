set_option maxHeartbeats 2000000 in
set_option maxRecDepth 100000 in
theorem sX8_run (l : Launch) (dC : Nat → ClassId) (dI : Nat → Nat → Nat) (sz : Nat) (L : List Nat) (cid : Nat → ClassId) (K : Int → Nat) (N : Int → Int) (tW : Nat) (sK sV : Nat → Nat) (v : Int → Int → Int) (p0 : Int) (p1 : Int) (p2 : Int) (hI : xI L K N v) (q0 : ok L K p0 8) (q1 : ok L K p1 9) (q2 : rg p2) : Met l yX8_run (jk yX8_run cX8_run 7 (some .int)) ({ frames := 2, cells := 0, slots := 0, locals := 64 }) (va_Pc [.ref p0.toNat, .ref p1.toNat, .int (iI p2)] (xP (dC, dI) (xG L cid K N v) (xT cid) tW sK sV sz)) (va_Qi (fun (r : Int32) (u : (Int → Int → Int)) => ∃ z : Int, r = iI z ∧ (xI L K N u) ∧ (fr K [(34, (-1))] u v) ∧ (rg z)) (fun u t => va_P (dC, dI) vwCl (xG L cid K N u) t.heap ∧ va_K (dC, dI) vwCl (xT cid) t ∧ va_D (va_A (xG L cid K N v) sz) (xG L cid K N u)) (va_A (xG L cid K N v) sz)) 0 0 (va_A (xG L cid K N v) sz) := by
  refine Met.ofW (cc := cX8_run) (maxL := 7) (ret := (some .int)) (by decide) rfl ?_
  intro p e s m args below meth c s₁ B hml hv
  obtain ⟨rfl, ⟨hsz, hP, hK, hD0⟩, hX⟩ := hv
  have hx := B.exec
  have hb := B.bytes
  have hr := B.returns
  have hts := atoms_spec (ws := (jk yX8_run cX8_run 7 (some .int))) B.pre
  have hj : ∀ w ∈ jw, w.before ([.ref p0.toNat, .ref p1.toNat, .int (iI p2)] : List Value).toArray s = true := fun w h => hts w (jm h)
  have hown : s.vm.findClass RX8 = some m.cls := findClass_of_methodNamed B.named
  subst hsz
  have hD := hD0.self (sz := s.heap.size)
  generalize hAe : (va_A (xG L cid K N v) s.heap.size) = A at hD hX ⊢
  have hA : ∀ q : Nat, s.heap.size ≤ q → A q := fun q h => by rw [← hAe]; exact Or.inr h
  have hS : va_S A s.heap s.heap [] := va_S.rf
  have hXa := hX
  have hP : va_P (dC, dI) vwCl (xG L cid K N v) s.heap := hP
  have hl := lv_entry ([.ref p0.toNat, .ref p1.toNat, .int (iI p2)]) (n := 7) (Nat.le_of_ble_eq_true rfl)
  rw [lg_entry_eq]
  generalize (lg_sl ([.ref p0.toNat, .ref p1.toNat, .int (iI p2)]) ++ List.replicate (7 - (lg_sl ([.ref p0.toNat, .ref p1.toNat, .int (iI p2)])).length) Slot.unset).toArray = ls at hl ⊢
  have hl : lv_has ls 7 [(0, .ref p0.toNat), (1, .ref p1.toNat), (2, .int (iI p2))] := hl
  generalize hQ : MQ below (va_Qi (fun (r : Int32) (u : (Int → Int → Int)) => ∃ z : Int, r = iI z ∧ (xI L K N u) ∧ (fr K [(34, (-1))] u v) ∧ (rg z)) (fun u t => va_P (dC, dI) vwCl (xG L cid K N u) t.heap ∧ va_K (dC, dI) vwCl (xT cid) t ∧ va_D A (xG L cid K N u)) A) ([.ref p0.toNat, .ref p1.toNat, .int (iI p2)] : List Value).toArray s 0 0 A = Q
  suffices ST : ∀ (H : Heap) (locs : List Loc), va_P (dC, dI) vwCl (xG L cid K N v) H → va_S A s.heap H locs → W p l e ({ frames := 2, cells := 0, slots := 0, locals := 64 }) s m ([.ref p0.toNat, .ref p1.toNat, .int (iI p2)] : List Value).toArray below meth c H locs 0 0 Q (F0 m 0 ls []) from ST _ _ hP hS
  clear hP hS
  intro H locs hP hS
  refine lv_aload_n hx hb dX8_run_0 rfl (lv_at hl 1 rfl) ?_
  refine lv_iload_n hx hb dX8_run_1 rfl (lv_at hl 2 rfl) ?_
  refine jc_i (va_runV (As := [.int (iI p2)]) (rest := []) ⟨hx, hb, hml, hown, hts⟩ (sX9_has l dC dI _ L cid K N tW sK sV v p1 p2 hI q1 (by omega)) (cwV 1 hts (jgoodV m_930 m_931 m_932 m_933 m_934) rfl rfl rfl (by decide +kernel) ⟨(Nat.le_of_ble_eq_true rfl), (Nat.le_of_ble_eq_true rfl)⟩) ⟨xP_blind, xrecv hK hP q1 rfl rfl, fun U hU hW => ⟨rfl, xP_of hU hW hP hK hD hX hS (fun _ h => h) hA⟩⟩ rfl rfl hl.1 rfl (lv_room (Nat.le_of_ble_eq_true rfl)) dX8_run_2 ⟨(Nat.le_of_ble_eq_true rfl), (Nat.le_of_ble_eq_true rfl)⟩) hP hS hA (fun r_1 H locs w_2 hP hS => ?_)
  obtain ⟨z_3, rfl, h_4, h_5⟩ := w_2
  refine xr_if_eq (tgt := 17) hx hb dX8_run_5 (by decide) (by omega) (fun h_6 => ?_) (fun h_6 => ?_)
  · refine lv_iconst (v := iI 0) hx hb dX8_run_17 rfl ?_
    rw [← hQ]
    exact W.iret (v := iI 0) hx hb hr (fun t ht hW => ⟨⟨iI 0, v, rfl, ⟨0, rfl, hI, fr_rf, by omega⟩, by rw [ht]; exact hP, va_K.moved hW.alike hK, hD⟩, hS.F ht⟩) hS.2.2 dX8_run_18
  · refine lv_iload_n hx hb dX8_run_8 rfl (lv_at hl 2 rfl) ?_
    refine lv_aload_n hx hb dX8_run_9 rfl (lv_at hl 1 rfl) ?_
    have h_7 : ok L K (v p1 2) 68 := xf_9_2 hI q1
    have h_8 : N (v p1 2) = 14 := xn_68 hI h_7
    refine gx_RX8_69 (y := v p1 2) hx hb hj hown hK hP q1 ((xf_9_2 hI q1).1) rfl dX8_run_10 ?_
    refine lx_68 (y := 14) hx hb hK hP h_7 (by omega) (by omega) dX8_run_13 ?_
    refine xr_icmp_lt (tgt := 19) hx hb dX8_run_14 (by decide) (by omega) (by omega) (fun h_9 => ?_) (fun h_9 => ?_)
    · refine lv_iconst (v := iI 0) hx hb dX8_run_19 rfl ?_
      refine lv_istore_n (i := 3) (lv' := [(3, .int (iI 0)), (0, .ref p0.toNat), (1, .ref p1.toNat), (2, .int (iI p2))]) hx hb dX8_run_20 rfl hl (by decide) rfl (fun ls hl => ?_)
      refine lv_aload_n hx hb dX8_run_21 rfl (lv_at hl 2 rfl) ?_
      have h_10 : ok L K (v p1 1) 67 := xf_9_1 hI q1
      have h_11 : N (v p1 1) = 14 := xn_67 hI h_10
      refine gx_RX8_72 (y := v p1 1) hx hb hj hown hK hP q1 ((xf_9_1 hI q1).1) rfl dX8_run_22 ?_
      refine lv_iload_n hx hb dX8_run_25 rfl (lv_at hl 3 rfl) ?_
      have h_12 : (-2147483648) ≤ v (v p1 1) p2 ∧ v (v p1 1) p2 ≤ 2147483647 := xe_67 hI h_10 (by omega)
      refine ax_67 (y := v (v p1 1) p2) hx hb hK hP h_10 (by omega) (by omega) (by omega) rfl dX8_run_26 ?_
      refine lv_istore (i := 4) (lv' := [(4, .int (iI (v (v p1 1) p2))), (3, .int (iI 0)), (0, .ref p0.toNat), (1, .ref p1.toNat), (2, .int (iI p2))]) hx hb dX8_run_27 hl (by decide) rfl (fun ls hl => ?_)
      have L29 : ∀ (n29 : Nat) (a4_29 a3_29 : Int) (vc29 : Int → Int → Int) (H : Heap) (locs : List Loc) (ls : Array Slot), ((-2147483648) ≤ a4_29 ∧ a4_29 ≤ 2147483647) → (0 ≤ a3_29 ∧ a3_29 ≤ 2147483647) → (0 ≤ a3_29 ∧ a3_29 ≤ 64) → (0 < (n29 : Int) ∧ N (v p1 0) - a4_29 < (n29 : Int)) → fr K [(34, (-1))] vc29 v → xI L K N vc29 → va_P (dC, dI) vwCl (xG L cid K N vc29) H → va_D A (xG L cid K N vc29) → va_S A s.heap H locs → lv_has ls 7 [(4, .int (iI a4_29)), (3, .int (iI a3_29)), (0, .ref p0.toNat), (1, .ref p1.toNat), (2, .int (iI p2))] → W p l e ({ frames := 2, cells := 0, slots := 0, locals := 64 }) s m ([.ref p0.toNat, .ref p1.toNat, .int (iI p2)] : List Value).toArray below meth c H locs 0 0 Q (F0 m 29 ls []) := by
        intro n29
        induction n29 with
        | zero =>
          intro a4_29 a3_29 vc29 H locs ls h_13 h_14 h_15 hm29 f_16 I_17 hP hD hS hl
          exfalso; omega
        | succ n29 ih29 =>
          intro a4_29 a3_29 vc29 H locs ls h_18 h_19 h_20 hm29 f_21 I_22 hP hD hS hl
          refine lv_iload hx hb dX8_run_29 (lv_at hl 0 rfl) ?_
          refine xr_if_lt (tgt := 211) hx hb dX8_run_31 (by decide) (by omega) (fun h_23 => ?_) (fun h_23 => ?_)
          · refine lv_aload_n hx hb dX8_run_211 rfl (lv_at hl 2 rfl) ?_
            have h_24 : ok L K (v p0 7) 34 := xf_8_7 hI q0
            have h_25 : N (v p0 7) = 64 := xn_34 hI h_24
            refine gx_RX8_30 (y := v p0 7) hx hb hj hown hK hP q0 ((xf_8_7 I_22 q0).1) (fr_use q0 f_21 rfl) dX8_run_212 ?_
            refine lv_iconst (v := iI 0) hx hb dX8_run_215 rfl ?_
            have h_26 : (-2147483648) ≤ vc29 (v p0 7) 0 ∧ vc29 (v p0 7) 0 ≤ 2147483647 := xe_34 I_22 h_24 (by omega)
            refine ax_34 (y := vc29 (v p0 7) 0) hx hb hK hP h_24 (by omega) (by omega) (by omega) rfl dX8_run_216 ?_
            rw [← hQ]
            exact W.iret (v := iI (vc29 (v p0 7) 0)) hx hb hr (fun t ht hW => ⟨⟨iI (vc29 (v p0 7) 0), vc29, rfl, ⟨vc29 (v p0 7) 0, rfl, I_22, (fr_tr f_21 rfl fr_rf), by omega⟩, by rw [ht]; exact hP, va_K.moved hW.alike hK, hD⟩, hS.F ht⟩) hS.2.2 dX8_run_217
          · refine lv_iload hx hb dX8_run_34 (lv_at hl 0 rfl) ?_
            refine lv_aload_n hx hb dX8_run_36 rfl (lv_at hl 3 rfl) ?_
            refine gx_RX8_69 (y := v p1 2) hx hb hj hown hK hP q1 ((xf_9_2 I_22 q1).1) (fr_use q1 f_21 rfl) dX8_run_37 ?_
            refine lv_iload_n hx hb dX8_run_40 rfl (lv_at hl 4 rfl) ?_
            have h_27 : (-2147483648) ≤ v (v p1 2) p2 ∧ v (v p1 2) p2 ≤ 2147483647 := xe_68 hI h_7 (by omega)
            refine ax_68 (y := v (v p1 2) p2) hx hb hK hP h_7 (by omega) (by omega) (by omega) (fr_use h_7 f_21 rfl) dX8_run_41 ?_
            refine xr_icmp_ge (tgt := 211) hx hb dX8_run_42 (by decide) (by omega) (by omega) (fun h_28 => ?_) (fun h_28 => ?_)
            · refine lv_aload_n hx hb dX8_run_211 rfl (lv_at hl 2 rfl) ?_
              have h_29 : ok L K (v p0 7) 34 := xf_8_7 hI q0
              have h_30 : N (v p0 7) = 64 := xn_34 hI h_29
              refine gx_RX8_30 (y := v p0 7) hx hb hj hown hK hP q0 ((xf_8_7 I_22 q0).1) (fr_use q0 f_21 rfl) dX8_run_212 ?_
              refine lv_iconst (v := iI 0) hx hb dX8_run_215 rfl ?_
              have h_31 : (-2147483648) ≤ vc29 (v p0 7) 0 ∧ vc29 (v p0 7) 0 ≤ 2147483647 := xe_34 I_22 h_29 (by omega)
              refine ax_34 (y := vc29 (v p0 7) 0) hx hb hK hP h_29 (by omega) (by omega) (by omega) rfl dX8_run_216 ?_
              rw [← hQ]
              exact W.iret (v := iI (vc29 (v p0 7) 0)) hx hb hr (fun t ht hW => ⟨⟨iI (vc29 (v p0 7) 0), vc29, rfl, ⟨vc29 (v p0 7) 0, rfl, I_22, (fr_tr f_21 rfl fr_rf), by omega⟩, by rw [ht]; exact hP, va_K.moved hW.alike hK, hD⟩, hS.F ht⟩) hS.2.2 dX8_run_217
            · refine lv_iload hx hb dX8_run_45 (lv_at hl 0 rfl) ?_
              refine lv_aload_n hx hb dX8_run_47 rfl (lv_at hl 3 rfl) ?_
              have h_32 : ok L K (v p1 0) 66 := xf_9_0 hI q1
              have h_33 : 0 ≤ N (v p1 0) ∧ N (v p1 0) ≤ 600 := xn_66 hI h_32
              refine gx_RX8_75 (y := v p1 0) hx hb hj hown hK hP q1 ((xf_9_0 I_22 q1).1) (fr_use q1 f_21 rfl) dX8_run_48 ?_
              refine lx_66 (y := N (v p1 0)) hx hb hK hP h_32 rfl (by omega) dX8_run_51 ?_
              refine xr_icmp_ge (tgt := 211) hx hb dX8_run_52 (by decide) (by omega) (by omega) (fun h_34 => ?_) (fun h_34 => ?_)
              · refine lv_aload_n hx hb dX8_run_211 rfl (lv_at hl 2 rfl) ?_
                have h_35 : ok L K (v p0 7) 34 := xf_8_7 hI q0
                have h_36 : N (v p0 7) = 64 := xn_34 hI h_35
                refine gx_RX8_30 (y := v p0 7) hx hb hj hown hK hP q0 ((xf_8_7 I_22 q0).1) (fr_use q0 f_21 rfl) dX8_run_212 ?_
                refine lv_iconst (v := iI 0) hx hb dX8_run_215 rfl ?_
                have h_37 : (-2147483648) ≤ vc29 (v p0 7) 0 ∧ vc29 (v p0 7) 0 ≤ 2147483647 := xe_34 I_22 h_35 (by omega)
                refine ax_34 (y := vc29 (v p0 7) 0) hx hb hK hP h_35 (by omega) (by omega) (by omega) rfl dX8_run_216 ?_
                rw [← hQ]
                exact W.iret (v := iI (vc29 (v p0 7) 0)) hx hb hr (fun t ht hW => ⟨⟨iI (vc29 (v p0 7) 0), vc29, rfl, ⟨vc29 (v p0 7) 0, rfl, I_22, (fr_tr f_21 rfl fr_rf), by omega⟩, by rw [ht]; exact hP, va_K.moved hW.alike hK, hD⟩, hS.F ht⟩) hS.2.2 dX8_run_217
              · refine lv_aload_n hx hb dX8_run_55 rfl (lv_at hl 3 rfl) ?_
                refine gx_RX8_75 (y := v p1 0) hx hb hj hown hK hP q1 ((xf_9_0 I_22 q1).1) (fr_use q1 f_21 rfl) dX8_run_56 ?_
                refine lv_iload hx hb dX8_run_59 (lv_at hl 0 rfl) ?_
                have h_38 : (-2147483648) ≤ v (v p1 0) a4_29 ∧ v (v p1 0) a4_29 ≤ 2147483647 := xe_66 hI h_32 (by omega)
                refine ax_66 (y := v (v p1 0) a4_29) hx hb hK hP h_32 (by omega) (by omega) (by omega) (fr_use h_32 f_21 rfl) dX8_run_61 ?_
                refine lv_istore (i := 5) (lv' := [(5, .int (iI (v (v p1 0) a4_29))), (4, .int (iI a4_29)), (3, .int (iI a3_29)), (0, .ref p0.toNat), (1, .ref p1.toNat), (2, .int (iI p2))]) hx hb dX8_run_62 hl (by decide) rfl (fun ls hl => ?_)
                refine lv_iconst (v := iI (-1)) hx hb dX8_run_64 rfl ?_
                refine lv_iload hx hb dX8_run_65 (lv_at hl 0 rfl) ?_
                refine xr_sub hx hb dX8_run_67 ?_
                refine lv_istore (i := 6) (lv' := [(6, .int (iI ((-1) - (v (v p1 0) a4_29)))), (5, .int (iI (v (v p1 0) a4_29))), (4, .int (iI a4_29)), (3, .int (iI a3_29)), (0, .ref p0.toNat), (1, .ref p1.toNat), (2, .int (iI p2))]) hx hb dX8_run_68 hl (by decide) rfl (fun ls hl => ?_)
                refine lv_iload hx hb dX8_run_70 (lv_at hl 1 rfl) ?_
                have J205 : ∀ (a3_205 : Int) (vc205 : Int → Int → Int) (H : Heap) (locs : List Loc) (ls : Array Slot), (0 ≤ a3_205 ∧ a3_205 ≤ 2147483647) → (0 ≤ a3_205 ∧ a3_205 ≤ 64) → fr K [(34, (-1))] vc205 vc29 → xI L K N vc205 → va_P (dC, dI) vwCl (xG L cid K N vc205) H → va_D A (xG L cid K N vc205) → va_S A s.heap H locs → lv_has ls 7 [(6, .int (iI ((-1) - (v (v p1 0) a4_29)))), (5, .int (iI (v (v p1 0) a4_29))), (4, .int (iI a4_29)), (3, .int (iI a3_205)), (0, .ref p0.toNat), (1, .ref p1.toNat), (2, .int (iI p2))] → W p l e ({ frames := 2, cells := 0, slots := 0, locals := 64 }) s m ([.ref p0.toNat, .ref p1.toNat, .int (iI p2)] : List Value).toArray below meth c H locs 0 0 Q (F0 m 205 ls []) := by
                  intro a3_205 vc205 H locs ls h_39 h_40 f_41 I_42 hP hD hS hl
                  refine lv_iinc (v := iI (a4_29 + 1)) (lv' := [(4, .int (iI (a4_29 + 1))), (6, .int (iI ((-1) - (v (v p1 0) a4_29)))), (5, .int (iI (v (v p1 0) a4_29))), (3, .int (iI a3_205)), (0, .ref p0.toNat), (1, .ref p1.toNat), (2, .int (iI p2))]) hx hb dX8_run_205 hl (k := 2) rfl (iI_add _ _) (by decide) rfl (fun ls hl => ?_)
                  refine lv_goto (tgt := 29) hx hb dX8_run_208 (by decide) ?_
                  exact ih29 (a4_29 + 1) a3_205 vc205 H locs ls (by omega) (by omega) (by omega) (by omega) (fr_tr f_41 rfl (fr_tr f_21 rfl fr_rf)) I_42 hP hD hS (lv_sub hl [0, 3, 4, 5, 6] rfl)
                have J95 : ∀ (H : Heap) (locs : List Loc) (ls : Array Slot), va_P (dC, dI) vwCl (xG L cid K N vc29) H → va_D A (xG L cid K N vc29) → va_S A s.heap H locs → lv_has ls 7 [(6, .int (iI ((-1) - (v (v p1 0) a4_29)))), (5, .int (iI (v (v p1 0) a4_29))), (4, .int (iI a4_29)), (3, .int (iI a3_29)), (0, .ref p0.toNat), (1, .ref p1.toNat), (2, .int (iI p2))] → W p l e ({ frames := 2, cells := 0, slots := 0, locals := 64 }) s m ([.ref p0.toNat, .ref p1.toNat, .int (iI p2)] : List Value).toArray below meth c H locs 0 0 Q (F0 m 95 ls []) := by
                  intro H locs ls hP hD hS hl
                  refine lv_iload hx hb dX8_run_95 (lv_at hl 0 rfl) ?_
                  have J132 : ∀ (H : Heap) (locs : List Loc) (ls : Array Slot), va_P (dC, dI) vwCl (xG L cid K N vc29) H → va_D A (xG L cid K N vc29) → va_S A s.heap H locs → lv_has ls 7 [(6, .int (iI ((-1) - (v (v p1 0) a4_29)))), (5, .int (iI (v (v p1 0) a4_29))), (4, .int (iI a4_29)), (3, .int (iI a3_29)), (0, .ref p0.toNat), (1, .ref p1.toNat), (2, .int (iI p2))] → W p l e ({ frames := 2, cells := 0, slots := 0, locals := 64 }) s m ([.ref p0.toNat, .ref p1.toNat, .int (iI p2)] : List Value).toArray below meth c H locs 0 0 Q (F0 m 132 ls []) := by
                    intro H locs ls hP hD hS hl
                    refine lv_iload hx hb dX8_run_132 (lv_at hl 1 rfl) ?_
                    refine lv_bipush (v := iI (-20)) hx hb dX8_run_134 rfl ?_
                    have J170 : ∀ (H : Heap) (locs : List Loc) (ls : Array Slot), va_P (dC, dI) vwCl (xG L cid K N vc29) H → va_D A (xG L cid K N vc29) → va_S A s.heap H locs → lv_has ls 7 [(6, .int (iI ((-1) - (v (v p1 0) a4_29)))), (5, .int (iI (v (v p1 0) a4_29))), (4, .int (iI a4_29)), (3, .int (iI a3_29)), (0, .ref p0.toNat), (1, .ref p1.toNat), (2, .int (iI p2))] → W p l e ({ frames := 2, cells := 0, slots := 0, locals := 64 }) s m ([.ref p0.toNat, .ref p1.toNat, .int (iI p2)] : List Value).toArray below meth c H locs 0 0 Q (F0 m 170 ls []) := by
                      intro H locs ls hP hD hS hl
                      refine lv_iload_n hx hb dX8_run_170 rfl (lv_at hl 3 rfl) ?_
                      refine lv_iconst (v := iI 1) hx hb dX8_run_171 rfl ?_
                      refine xr_icmp_le (tgt := 205) hx hb dX8_run_172 (by decide) (by omega) (by omega) (fun h_43 => ?_) (fun h_43 => ?_)
                      · exact J205 a3_29 vc29 H locs ls (by omega) (by omega) fr_rf I_22 hP hD hS hl
                      · refine lv_iinc (v := iI (a3_29 + (-1))) (lv' := [(3, .int (iI (a3_29 + (-1)))), (6, .int (iI ((-1) - (v (v p1 0) a4_29)))), (5, .int (iI (v (v p1 0) a4_29))), (4, .int (iI a4_29)), (0, .ref p0.toNat), (1, .ref p1.toNat), (2, .int (iI p2))]) hx hb dX8_run_175 hl (k := 3) rfl (iI_add _ _) (by decide) rfl (fun ls hl => ?_)
                        refine lv_aload_n hx hb dX8_run_178 rfl (lv_at hl 4 rfl) ?_
                        have h_44 : ok L K (v p0 7) 34 := xf_8_7 hI q0
                        have h_45 : N (v p0 7) = 64 := xn_34 hI h_44
                        refine gx_RX8_30 (y := v p0 7) hx hb hj hown hK hP q0 ((xf_8_7 I_22 q0).1) (fr_use q0 f_21 rfl) dX8_run_179 ?_
                        refine lv_iload_n hx hb dX8_run_182 rfl (lv_at hl 0 rfl) ?_
                        refine lv_iconst (v := iI 1) hx hb dX8_run_183 rfl ?_
                        refine xr_sub hx hb dX8_run_184 ?_
                        refine lv_iload hx hb dX8_run_185 (lv_at hl 2 rfl) ?_
                        refine lv_aload_n hx hb dX8_run_187 rfl (lv_at hl 4 rfl) ?_
                        refine gx_RX8_30 (y := v p0 7) hx hb hj hown hK hP q0 ((xf_8_7 I_22 q0).1) (fr_use q0 f_21 rfl) dX8_run_188 ?_
                        refine lv_iload_n hx hb dX8_run_191 rfl (lv_at hl 0 rfl) ?_
                        refine lv_iconst (v := iI 1) hx hb dX8_run_192 rfl ?_
                        refine xr_sub hx hb dX8_run_193 ?_
                        have h_46 : (-2147483648) ≤ vc29 (v p0 7) ((a3_29 + (-1)) - 1) ∧ vc29 (v p0 7) ((a3_29 + (-1)) - 1) ≤ 2147483647 := xe_34 I_22 h_44 (by omega)
                        refine ax_34 (y := vc29 (v p0 7) ((a3_29 + (-1)) - 1)) hx hb hK hP h_44 (by omega) (by omega) (by omega) rfl dX8_run_194 ?_
                        refine lv_aload_n hx hb dX8_run_195 rfl (lv_at hl 4 rfl) ?_
                        refine gx_RX8_30 (y := v p0 7) hx hb hj hown hK hP q0 ((xf_8_7 I_22 q0).1) (fr_use q0 f_21 rfl) dX8_run_196 ?_
                        refine lv_iload_n hx hb dX8_run_199 rfl (lv_at hl 0 rfl) ?_
                        have h_47 : (-2147483648) ≤ vc29 (v p0 7) (a3_29 + (-1)) ∧ vc29 (v p0 7) (a3_29 + (-1)) ≤ 2147483647 := xe_34 I_22 h_44 (by omega)
                        refine ax_34 (y := vc29 (v p0 7) (a3_29 + (-1))) hx hb hK hP h_44 (by omega) (by omega) (by omega) rfl dX8_run_200 ?_
                        refine jc_i (va_runS (As := [.int (iI (v (v p1 0) a4_29)), .int (iI (vc29 (v p0 7) ((a3_29 + (-1)) - 1))), .int (iI (vc29 (v p0 7) (a3_29 + (-1))))]) (rest := [.int (iI ((a3_29 + (-1)) - 1)), .ref (v p0 7).toNat]) ⟨hx, hb, hml, hown, hts⟩ (sX8_combine l dC dI _ (v (v p1 0) a4_29) (vc29 (v p0 7) ((a3_29 + (-1)) - 1)) (vc29 (v p0 7) (a3_29 + (-1))) (by omega) (by omega) (by omega)) (va_cwS 3 hts (jgoodS m_943 m_944 m_928 m_945) rfl rfl rfl (by decide +kernel) ⟨(Nat.le_of_ble_eq_true rfl), (Nat.le_of_ble_eq_true rfl)⟩) ⟨jw_blind0, fun U hU hW => ⟨rfl, congrArg Array.size hU⟩⟩ rfl rfl hl.1 rfl (lv_room (Nat.le_of_ble_eq_true rfl)) dX8_run_201 ⟨(Nat.le_of_ble_eq_true rfl), (Nat.le_of_ble_eq_true rfl)⟩) hP hS hA (fun r_48 H locs w_49 hP hS => ?_)
                        obtain ⟨z_50, rfl, h_51⟩ := w_49
                        refine sx_34 (y := z_50) hx hb hK hP hD hS I_22 h_44 (by omega) (by omega) (by omega) ⟨by omega, by omega⟩ dX8_run_204 (fun v_52 H locs f_53 e_54 o_55 I_56 hP hD hS => ?_)
                        exact J205 (a3_29 + (-1)) v_52 H locs ls (by omega) (by omega) (fr_tr f_53 rfl fr_rf) I_56 hP hD hS (lv_sub hl [1, 2, 3, 0, 4, 5, 6] rfl)
                    refine xr_icmp_ne (tgt := 170) hx hb dX8_run_136 (by decide) (by omega) (by omega) (fun h_57 => ?_) (fun h_57 => ?_)
                    · exact J170 H locs ls hP hD hS hl
                    · refine lv_iload_n hx hb dX8_run_139 rfl (lv_at hl 3 rfl) ?_
                      refine xr_if_le (tgt := 170) hx hb dX8_run_140 (by decide) (by omega) (fun h_58 => ?_) (fun h_58 => ?_)
                      · exact J170 H locs ls hP hD hS hl
                      · refine lv_aload_n hx hb dX8_run_143 rfl (lv_at hl 4 rfl) ?_
                        have h_59 : ok L K (v p0 7) 34 := xf_8_7 hI q0
                        have h_60 : N (v p0 7) = 64 := xn_34 hI h_59
                        refine gx_RX8_30 (y := v p0 7) hx hb hj hown hK hP q0 ((xf_8_7 I_22 q0).1) (fr_use q0 f_21 rfl) dX8_run_144 ?_
                        refine lv_iload_n hx hb dX8_run_147 rfl (lv_at hl 3 rfl) ?_
                        refine lv_iconst (v := iI 1) hx hb dX8_run_148 rfl ?_
                        refine xr_sub hx hb dX8_run_149 ?_
                        refine lv_aload_n hx hb dX8_run_150 rfl (lv_at hl 4 rfl) ?_
                        refine gx_RX8_30 (y := v p0 7) hx hb hj hown hK hP q0 ((xf_8_7 I_22 q0).1) (fr_use q0 f_21 rfl) dX8_run_151 ?_
                        refine lv_iload_n hx hb dX8_run_154 rfl (lv_at hl 3 rfl) ?_
                        refine lv_iconst (v := iI 1) hx hb dX8_run_155 rfl ?_
                        refine xr_sub hx hb dX8_run_156 ?_
                        have h_61 : (-2147483648) ≤ vc29 (v p0 7) (a3_29 - 1) ∧ vc29 (v p0 7) (a3_29 - 1) ≤ 2147483647 := xe_34 I_22 h_59 (by omega)
                        refine ax_34 (y := vc29 (v p0 7) (a3_29 - 1)) hx hb hK hP h_59 (by omega) (by omega) (by omega) rfl dX8_run_157 ?_
                        have J166 : ∀ (s0_166 : Int) (H : Heap) (locs : List Loc) (ls : Array Slot), (0 ≤ s0_166 ∧ s0_166 ≤ 1) → va_P (dC, dI) vwCl (xG L cid K N vc29) H → va_D A (xG L cid K N vc29) → va_S A s.heap H locs → lv_has ls 7 [(6, .int (iI ((-1) - (v (v p1 0) a4_29)))), (5, .int (iI (v (v p1 0) a4_29))), (4, .int (iI a4_29)), (3, .int (iI a3_29)), (0, .ref p0.toNat), (1, .ref p1.toNat), (2, .int (iI p2))] → W p l e ({ frames := 2, cells := 0, slots := 0, locals := 64 }) s m ([.ref p0.toNat, .ref p1.toNat, .int (iI p2)] : List Value).toArray below meth c H locs 0 0 Q (F0 m 166 ls [.int (iI s0_166), .int (iI (a3_29 - 1)), .ref (v p0 7).toNat]) := by
                          intro s0_166 H locs ls h_62 hP hD hS hl
                          refine sx_34 (y := s0_166) hx hb hK hP hD hS I_22 h_59 (by omega) (by omega) (by omega) ⟨by omega, by omega⟩ dX8_run_166 (fun v_63 H locs f_64 e_65 o_66 I_67 hP hD hS => ?_)
                          refine lv_goto (tgt := 205) hx hb dX8_run_167 (by decide) ?_
                          exact J205 a3_29 v_63 H locs ls (by omega) (by omega) (fr_tr f_64 rfl fr_rf) I_67 hP hD hS hl
                        refine xr_if_ne (tgt := 165) hx hb dX8_run_158 (by decide) (by omega) (fun h_68 => ?_) (fun h_68 => ?_)
                        · refine lv_iconst (v := iI 0) hx hb dX8_run_165 rfl ?_
                          exact J166 0 H locs ls (by omega) hP hD hS hl
                        · refine lv_iconst (v := iI 1) hx hb dX8_run_161 rfl ?_
                          refine lv_goto (tgt := 166) hx hb dX8_run_162 (by decide) ?_
                          exact J166 1 H locs ls (by omega) hP hD hS hl
                  refine xr_if_lt (tgt := 132) hx hb dX8_run_97 (by decide) (by omega) (fun h_69 => ?_) (fun h_69 => ?_)
                  · exact J132 H locs ls hP hD hS hl
                  · refine lv_iload hx hb dX8_run_100 (lv_at hl 0 rfl) ?_
                    refine lv_bipush (v := iI 9) hx hb dX8_run_102 rfl ?_
                    refine xr_icmp_ge (tgt := 132) hx hb dX8_run_104 (by decide) (by omega) (by omega) (fun h_70 => ?_) (fun h_70 => ?_)
                    · exact J132 H locs ls hP hD hS hl
                    · refine lv_iload_n hx hb dX8_run_107 rfl (lv_at hl 3 rfl) ?_
                      refine lv_bipush (v := iI 64) hx hb dX8_run_108 rfl ?_
                      refine xr_icmp_ge (tgt := 132) hx hb dX8_run_110 (by decide) (by omega) (by omega) (fun h_71 => ?_) (fun h_71 => ?_)
                      · exact J132 H locs ls hP hD hS hl
                      · refine lv_aload_n hx hb dX8_run_113 rfl (lv_at hl 4 rfl) ?_
                        have h_72 : ok L K (v p0 7) 34 := xf_8_7 hI q0
                        have h_73 : N (v p0 7) = 64 := xn_34 hI h_72
                        refine gx_RX8_30 (y := v p0 7) hx hb hj hown hK hP q0 ((xf_8_7 I_22 q0).1) (fr_use q0 f_21 rfl) dX8_run_114 ?_
                        refine lv_iload_n hx hb dX8_run_117 rfl (lv_at hl 3 rfl) ?_
                        refine lv_aload_n hx hb dX8_run_118 rfl (lv_at hl 4 rfl) ?_
                        have h_74 : ok L K (v p0 6) 33 := xf_8_6 hI q0
                        have h_75 : N (v p0 6) = 9 := xn_33 hI h_74
                        refine gx_RX8_27 (y := v p0 6) hx hb hj hown hK hP q0 ((xf_8_6 I_22 q0).1) (fr_use q0 f_21 rfl) dX8_run_119 ?_
                        refine lv_iload hx hb dX8_run_122 (lv_at hl 0 rfl) ?_
                        have h_76 : (-2147483648) ≤ v (v p0 6) ((-1) - (v (v p1 0) a4_29)) ∧ v (v p0 6) ((-1) - (v (v p1 0) a4_29)) ≤ 2147483647 := xe_33 hI h_74 (by omega)
                        refine ax_33 (y := v (v p0 6) ((-1) - (v (v p1 0) a4_29))) hx hb hK hP h_74 (by omega) (by omega) (by omega) (fr_use h_74 f_21 rfl) dX8_run_124 ?_
                        refine sx_34 (y := v (v p0 6) ((-1) - (v (v p1 0) a4_29))) hx hb hK hP hD hS I_22 h_72 (by omega) (by omega) (by omega) ⟨by omega, by omega⟩ dX8_run_125 (fun v_77 H locs f_78 e_79 o_80 I_81 hP hD hS => ?_)
                        refine lv_iinc (v := iI (a3_29 + 1)) (lv' := [(3, .int (iI (a3_29 + 1))), (6, .int (iI ((-1) - (v (v p1 0) a4_29)))), (5, .int (iI (v (v p1 0) a4_29))), (4, .int (iI a4_29)), (0, .ref p0.toNat), (1, .ref p1.toNat), (2, .int (iI p2))]) hx hb dX8_run_126 hl (k := 3) rfl (iI_add _ _) (by decide) rfl (fun ls hl => ?_)
                        refine lv_goto (tgt := 205) hx hb dX8_run_129 (by decide) ?_
                        exact J205 (a3_29 + 1) v_77 H locs ls (by omega) (by omega) (fr_tr f_78 rfl fr_rf) I_81 hP hD hS (lv_sub hl [1, 2, 3, 0, 4, 5, 6] rfl)
                refine xr_if_lt (tgt := 95) hx hb dX8_run_72 (by decide) (by omega) (fun h_82 => ?_) (fun h_82 => ?_)
                · exact J95 H locs ls hP hD hS hl
                · refine lv_iload_n hx hb dX8_run_75 rfl (lv_at hl 3 rfl) ?_
                  refine lv_bipush (v := iI 64) hx hb dX8_run_76 rfl ?_
                  refine xr_icmp_ge (tgt := 95) hx hb dX8_run_78 (by decide) (by omega) (by omega) (fun h_83 => ?_) (fun h_83 => ?_)
                  · exact J95 H locs ls hP hD hS hl
                  · refine lv_aload_n hx hb dX8_run_81 rfl (lv_at hl 4 rfl) ?_
                    have h_84 : ok L K (v p0 7) 34 := xf_8_7 hI q0
                    have h_85 : N (v p0 7) = 64 := xn_34 hI h_84
                    refine gx_RX8_30 (y := v p0 7) hx hb hj hown hK hP q0 ((xf_8_7 I_22 q0).1) (fr_use q0 f_21 rfl) dX8_run_82 ?_
                    refine lv_iload_n hx hb dX8_run_85 rfl (lv_at hl 3 rfl) ?_
                    refine lv_iload hx hb dX8_run_86 (lv_at hl 1 rfl) ?_
                    refine sx_34 (y := v (v p1 0) a4_29) hx hb hK hP hD hS I_22 h_84 (by omega) (by omega) (by omega) ⟨by omega, by omega⟩ dX8_run_88 (fun v_86 H locs f_87 e_88 o_89 I_90 hP hD hS => ?_)
                    refine lv_iinc (v := iI (a3_29 + 1)) (lv' := [(3, .int (iI (a3_29 + 1))), (6, .int (iI ((-1) - (v (v p1 0) a4_29)))), (5, .int (iI (v (v p1 0) a4_29))), (4, .int (iI a4_29)), (0, .ref p0.toNat), (1, .ref p1.toNat), (2, .int (iI p2))]) hx hb dX8_run_89 hl (k := 3) rfl (iI_add _ _) (by decide) rfl (fun ls hl => ?_)
                    refine lv_goto (tgt := 205) hx hb dX8_run_92 (by decide) ?_
                    exact J205 (a3_29 + 1) v_86 H locs ls (by omega) (by omega) (fr_tr f_87 rfl fr_rf) I_90 hP hD hS (lv_sub hl [1, 2, 3, 0, 4, 5, 6] rfl)
      exact L29 (((N (v p1 0) - (v (v p1 1) p2) : Int)).toNat + 1) (v (v p1 1) p2) 0 v H locs ls (by omega) (by omega) (by omega) (by omega) fr_rf hI hP hD hS hl
    · refine lv_iconst (v := iI 0) hx hb dX8_run_17 rfl ?_
      rw [← hQ]
      exact W.iret (v := iI 0) hx hb hr (fun t ht hW => ⟨⟨iI 0, v, rfl, ⟨0, rfl, hI, fr_rf, by omega⟩, by rw [ht]; exact hP, va_K.moved hW.alike hK, hD⟩, hS.F ht⟩) hS.2.2 dX8_run_18
set_option maxHeartbeats 2000000 in
set_option maxRecDepth 100000 in
theorem sX8_valueOf (l : Launch) (dC : Nat → ClassId) (dI : Nat → Nat → Nat) (sz : Nat) (L : List Nat) (cid : Nat → ClassId) (K : Int → Nat) (N : Int → Int) (tW : Nat) (sK sV : Nat → Nat) (v : Int → Int → Int) (p0 : Int) (p1 : Int) (p2 : Int) (p3 : Int) (hI : xI L K N v) (q0 : ok L K p0 8) (q1 : rg p1) (q2 : rg p2) (q3 : rg p3) : Met l yX8_valueOf (jk yX8_valueOf cX8_valueOf 6 (some .int)) ({ frames := 3, cells := 0, slots := 0, locals := 90 }) (va_Pc [.ref p0.toNat, .int (iI p1), .int (iI p2), .int (iI p3)] (xP (dC, dI) (xG L cid K N v) (xT cid) tW sK sV sz)) (va_Qi (fun (r : Int32) (u : (Int → Int → Int)) => ∃ z : Int, r = iI z ∧ (xI L K N u) ∧ (fr K [(34, (-1))] u v) ∧ (rg z)) (fun u t => va_P (dC, dI) vwCl (xG L cid K N u) t.heap ∧ va_K (dC, dI) vwCl (xT cid) t ∧ va_D (va_A (xG L cid K N v) sz) (xG L cid K N u)) (va_A (xG L cid K N v) sz)) 0 0 (va_A (xG L cid K N v) sz) := by
  refine Met.ofW (cc := cX8_valueOf) (maxL := 6) (ret := (some .int)) (by decide) rfl ?_
  intro p e s m args below meth c s₁ B hml hv
  obtain ⟨rfl, ⟨hsz, hP, hK, hD0⟩, hX⟩ := hv
  have hx := B.exec
  have hb := B.bytes
  have hr := B.returns
  have hts := atoms_spec (ws := (jk yX8_valueOf cX8_valueOf 6 (some .int))) B.pre
  have hj : ∀ w ∈ jw, w.before ([.ref p0.toNat, .int (iI p1), .int (iI p2), .int (iI p3)] : List Value).toArray s = true := fun w h => hts w (jm h)
  have hown : s.vm.findClass RX8 = some m.cls := findClass_of_methodNamed B.named
  subst hsz
  have hD := hD0.self (sz := s.heap.size)
  generalize hAe : (va_A (xG L cid K N v) s.heap.size) = A at hD hX ⊢
  have hA : ∀ q : Nat, s.heap.size ≤ q → A q := fun q h => by rw [← hAe]; exact Or.inr h
  have hS : va_S A s.heap s.heap [] := va_S.rf
  have hXa := hX
  have hP : va_P (dC, dI) vwCl (xG L cid K N v) s.heap := hP
  have hl := lv_entry ([.ref p0.toNat, .int (iI p1), .int (iI p2), .int (iI p3)]) (n := 6) (Nat.le_of_ble_eq_true rfl)
  rw [lg_entry_eq]
  generalize (lg_sl ([.ref p0.toNat, .int (iI p1), .int (iI p2), .int (iI p3)]) ++ List.replicate (6 - (lg_sl ([.ref p0.toNat, .int (iI p1), .int (iI p2), .int (iI p3)])).length) Slot.unset).toArray = ls at hl ⊢
  have hl : lv_has ls 6 [(0, .ref p0.toNat), (1, .int (iI p1)), (2, .int (iI p2)), (3, .int (iI p3))] := hl
  generalize hQ : MQ below (va_Qi (fun (r : Int32) (u : (Int → Int → Int)) => ∃ z : Int, r = iI z ∧ (xI L K N u) ∧ (fr K [(34, (-1))] u v) ∧ (rg z)) (fun u t => va_P (dC, dI) vwCl (xG L cid K N u) t.heap ∧ va_K (dC, dI) vwCl (xT cid) t ∧ va_D A (xG L cid K N u)) A) ([.ref p0.toNat, .int (iI p1), .int (iI p2), .int (iI p3)] : List Value).toArray s 0 0 A = Q
  suffices ST : ∀ (H : Heap) (locs : List Loc), va_P (dC, dI) vwCl (xG L cid K N v) H → va_S A s.heap H locs → W p l e ({ frames := 3, cells := 0, slots := 0, locals := 90 }) s m ([.ref p0.toNat, .int (iI p1), .int (iI p2), .int (iI p3)] : List Value).toArray below meth c H locs 0 0 Q (F0 m 0 ls []) from ST _ _ hP hS
  clear hP hS
  intro H locs hP hS
  refine lv_iload_n hx hb dX8_valueOf_0 rfl (lv_at hl 1 rfl) ?_
  refine xr_if_lt (tgt := 12) hx hb dX8_valueOf_1 (by decide) (by omega) (fun h_1 => ?_) (fun h_1 => ?_)
  · refine lv_iconst (v := iI 0) hx hb dX8_valueOf_12 rfl ?_
    rw [← hQ]
    exact W.iret (v := iI 0) hx hb hr (fun t ht hW => ⟨⟨iI 0, v, rfl, ⟨0, rfl, hI, fr_rf, by omega⟩, by rw [ht]; exact hP, va_K.moved hW.alike hK, hD⟩, hS.F ht⟩) hS.2.2 dX8_valueOf_13
  · refine lv_iload_n hx hb dX8_valueOf_4 rfl (lv_at hl 1 rfl) ?_
    refine xw_gs hx hb hown hXa.2.1.1 hS (hj _ m_946) dX8_valueOf_5 ?_
    refine xw_len hx hb hXa.2.1.2 hS dX8_valueOf_8 ?_
    refine xr_icmp_lt (tgt := 14) hx hb dX8_valueOf_9 (by decide) (by omega) (by omega) (fun h_2 => ?_) (fun h_2 => ?_)
    · refine lv_aload_n hx hb dX8_valueOf_14 rfl (lv_at hl 0 rfl) ?_
      refine lv_iload_n hx hb dX8_valueOf_15 rfl (lv_at hl 1 rfl) ?_
      refine lv_iload_n hx hb dX8_valueOf_16 rfl (lv_at hl 2 rfl) ?_
      refine lv_iload_n hx hb dX8_valueOf_17 rfl (lv_at hl 3 rfl) ?_
      refine jc_i (va_runV (As := [.int (iI p1), .int (iI p2), .int (iI p3)]) (rest := []) ⟨hx, hb, hml, hown, hts⟩ (sX8_inForce l dC dI _ L cid K N tW sK sV v p0 p1 p2 p3 hI q0 (by omega) (by omega) (by omega)) (cwV 3 hts (jgoodV m_947 m_948 m_949 m_928 m_950) rfl rfl rfl (by decide +kernel) ⟨(Nat.le_of_ble_eq_true rfl), (Nat.le_of_ble_eq_true rfl)⟩) ⟨xP_blind, xrecv hK hP q0 rfl rfl, fun U hU hW => ⟨rfl, xP_of hU hW hP hK hD hX hS (fun _ h => h) hA⟩⟩ rfl rfl hl.1 rfl (lv_room (Nat.le_of_ble_eq_true rfl)) dX8_valueOf_18 ⟨(Nat.le_of_ble_eq_true rfl), (Nat.le_of_ble_eq_true rfl)⟩) hP hS hA (fun r_3 H locs w_4 hP hS => ?_)
      obtain ⟨z_5, rfl, h_6⟩ := w_4
      refine lv_istore (i := 4) (lv' := [(4, .int (iI z_5)), (0, .ref p0.toNat), (1, .int (iI p1)), (2, .int (iI p2)), (3, .int (iI p3))]) hx hb dX8_valueOf_21 hl (by decide) rfl (fun ls hl => ?_)
      refine lv_iload hx hb dX8_valueOf_23 (lv_at hl 0 rfl) ?_
      have J46 : ∀ (s0_46 : Int) (H : Heap) (locs : List Loc) (ls : Array Slot), (s0_46 < 0 ∨ ok L K s0_46 9) → va_P (dC, dI) vwCl (xG L cid K N v) H → va_D A (xG L cid K N v) → va_S A s.heap H locs → lv_has ls 6 [(4, .int (iI z_5)), (0, .ref p0.toNat), (1, .int (iI p1)), (2, .int (iI p2)), (3, .int (iI p3))] → W p l e ({ frames := 3, cells := 0, slots := 0, locals := 90 }) s m ([.ref p0.toNat, .int (iI p1), .int (iI p2), .int (iI p3)] : List Value).toArray below meth c H locs 0 0 Q (F0 m 46 ls [rv s0_46]) := by
        intro s0_46 H locs ls h_7 hP hD hS hl
        refine xq_astore (i := 5) (lv' := [(5, rv s0_46), (4, .int (iI z_5)), (0, .ref p0.toNat), (1, .int (iI p1)), (2, .int (iI p2)), (3, .int (iI p3))]) hx hb dX8_valueOf_46 hl (by decide) rfl (fun ls hl => ?_)
        refine xq_aload hx hb dX8_valueOf_48 (lv_at hl 0 rfl) ?_
        refine xq_ifnonnull (tgt := 61) hx hb dX8_valueOf_50 (by decide) (fun h_8 => ?_) (fun h_8 => ?_)
        · have h_9 : ok L K s0_46 9 := h_7.resolve_left (by omega)
          refine lv_aload_n hx hb dX8_valueOf_61 rfl (lv_at hl 2 rfl) ?_
          refine xq_aload hx hb dX8_valueOf_62 (lv_at hl 0 rfl) ?_
          refine jt_q (.ref s0_46.toNat) (rv_ref (h_9).1) ?_
          refine lv_iload_n hx hb dX8_valueOf_64 rfl (lv_at hl 3 rfl) ?_
          refine jcg_i (va_runV (As := [.ref s0_46.toNat, .int (iI p1)]) (rest := []) ⟨hx, hb, hml, hown, hts⟩ (sX8_run l dC dI _ L cid K N tW sK sV v p0 s0_46 p1 hI q0 h_9 (by omega)) (cwV 2 hts (jgoodV m_951 m_952 m_953 m_928 m_954) rfl rfl rfl (by decide +kernel) ⟨(Nat.le_of_ble_eq_true rfl), (Nat.le_of_ble_eq_true rfl)⟩) ⟨xP_blind, xrecv hK hP q0 rfl rfl, fun U hU hW => ⟨rfl, xP_of hU hW hP hK hD hX hS (fun _ h => h) hA⟩⟩ rfl rfl hl.1 rfl (lv_room (Nat.le_of_ble_eq_true rfl)) dX8_valueOf_65 ⟨(Nat.le_of_ble_eq_true rfl), (Nat.le_of_ble_eq_true rfl)⟩) hD hS hA (fun r_10 v_14 H locs w_11 hP hK hD hS => ?_)
          obtain ⟨z_12, rfl, I_16, f_15, h_13⟩ := w_11
          have hP : va_P (dC, dI) vwCl (xG L cid K N v_14) H := hP
          have hD : va_D A (xG L cid K N v_14) := hD
          rw [← hQ]
          exact W.iret (v := iI z_12) hx hb hr (fun t ht hW => ⟨⟨iI z_12, v_14, rfl, ⟨z_12, rfl, I_16, (fr_tr f_15 rfl fr_rf), by omega⟩, by rw [ht]; exact hP, va_K.moved hW.alike hK, hD⟩, hS.F ht⟩) hS.2.2 dX8_valueOf_68
        · refine xw_gs hx hb hown hXa.2.1.1 hS (hj _ m_946) dX8_valueOf_53 ?_
          refine lv_iload_n hx hb dX8_valueOf_56 rfl (lv_at hl 3 rfl) ?_
          refine xw_ld hx hb hXa.2.1.2 hS (by omega) (by omega) dX8_valueOf_57 (fun z_17 h_18 => ?_)
          refine lv_goto (tgt := 68) hx hb dX8_valueOf_58 (by decide) ?_
          rw [← hQ]
          exact W.iret (v := iI z_17) hx hb hr (fun t ht hW => ⟨⟨iI z_17, v, rfl, ⟨z_17, rfl, hI, fr_rf, by omega⟩, by rw [ht]; exact hP, va_K.moved hW.alike hK, hD⟩, hS.F ht⟩) hS.2.2 dX8_valueOf_68
      have J45 : ∀ (H : Heap) (locs : List Loc) (ls : Array Slot), va_P (dC, dI) vwCl (xG L cid K N v) H → va_D A (xG L cid K N v) → va_S A s.heap H locs → lv_has ls 6 [(4, .int (iI z_5)), (0, .ref p0.toNat), (1, .int (iI p1)), (2, .int (iI p2)), (3, .int (iI p3))] → W p l e ({ frames := 3, cells := 0, slots := 0, locals := 90 }) s m ([.ref p0.toNat, .int (iI p1), .int (iI p2), .int (iI p3)] : List Value).toArray below meth c H locs 0 0 Q (F0 m 45 ls []) := by
        intro H locs ls hP hD hS hl
        refine lv_null hx hb dX8_valueOf_45 ?_
        refine jt_q (rv (-1)) rv_nul ?_
        exact J46 (-1) H locs ls (Or.inl (by decide)) hP hD hS hl
      refine xr_if_lt (tgt := 45) hx hb dX8_valueOf_25 (by decide) (by omega) (fun h_19 => ?_) (fun h_19 => ?_)
      · exact J45 H locs ls hP hD hS hl
      · refine lv_iload hx hb dX8_valueOf_28 (lv_at hl 0 rfl) ?_
        refine lv_bipush (v := iI 12) hx hb dX8_valueOf_30 rfl ?_
        refine xr_icmp_ge (tgt := 45) hx hb dX8_valueOf_32 (by decide) (by omega) (by omega) (fun h_20 => ?_) (fun h_20 => ?_)
        · exact J45 H locs ls hP hD hS hl
        · refine lv_aload_n hx hb dX8_valueOf_35 rfl (lv_at hl 1 rfl) ?_
          have h_21 : ok L K (v p0 0) 29 := xf_8_0 hI q0
          have h_22 : N (v p0 0) = 12 := xn_29 hI h_21
          refine gx_RX8_13 (y := v p0 0) hx hb hj hown hK hP q0 ((xf_8_0 hI q0).1) rfl dX8_valueOf_36 ?_
          refine lv_iload hx hb dX8_valueOf_39 (lv_at hl 0 rfl) ?_
          have h_23 : v (v p0 0) z_5 < 0 ∨ ok L K (v (v p0 0) z_5) 9 := xe_29 hI h_21 (by omega)
          refine ax_29 (y := v (v p0 0) z_5) hx hb hK hP h_21 (by omega) (by omega) (by omega) rfl dX8_valueOf_41 ?_
          refine lv_goto (tgt := 46) hx hb dX8_valueOf_42 (by decide) ?_
          exact J46 (v (v p0 0) z_5) H locs ls h_23 hP hD hS hl
    · refine lv_iconst (v := iI 0) hx hb dX8_valueOf_12 rfl ?_
      rw [← hQ]
      exact W.iret (v := iI 0) hx hb hr (fun t ht hW => ⟨⟨iI 0, v, rfl, ⟨0, rfl, hI, fr_rf, by omega⟩, by rw [ht]; exact hP, va_K.moved hW.alike hK, hD⟩, hS.F ht⟩) hS.2.2 dX8_valueOf_13
set_option maxHeartbeats 2000000 in
set_option maxRecDepth 100000 in
theorem sX6_take (l : Launch) (dC : Nat → ClassId) (dI : Nat → Nat → Nat) (sz : Nat) (L : List Nat) (cid : Nat → ClassId) (K : Int → Nat) (N : Int → Int) (tW : Nat) (sK sV : Nat → Nat) (v : Int → Int → Int) (p0 : Int) (p1 : Int) (p2 : Int) (hI : xI L K N v) (q0 : ok L K p0 6) (q1 : rg p1) (q2 : rg p2) : Met l yX6_take (jk yX6_take cX6_take 3 none) ({ frames := 4, cells := 0, slots := 0, locals := 115 }) (va_Pc [.ref p0.toNat, .int (iI p1), .int (iI p2)] (xP (dC, dI) (xG L cid K N v) (xT cid) tW sK sV sz)) (va_Qv (fun (u : (Int → Int → Int)) => (xI L K N u) ∧ (fr K [(6, 1), (6, 2), (6, 3), (6, 4), (6, 5), (34, (-1))] u v)) (fun u t => va_P (dC, dI) vwCl (xG L cid K N u) t.heap ∧ va_K (dC, dI) vwCl (xT cid) t ∧ va_D (va_A (xG L cid K N v) sz) (xG L cid K N u)) (va_A (xG L cid K N v) sz)) 0 0 (va_A (xG L cid K N v) sz) := by
  refine Met.ofW (cc := cX6_take) (maxL := 3) (ret := none) (by decide) rfl ?_
  intro p e s m args below meth c s₁ B hml hv
  obtain ⟨rfl, ⟨hsz, hP, hK, hD0⟩, hX⟩ := hv
  have hx := B.exec
  have hb := B.bytes
  have hr := B.returns
  have hts := atoms_spec (ws := (jk yX6_take cX6_take 3 none)) B.pre
  have hj : ∀ w ∈ jw, w.before ([.ref p0.toNat, .int (iI p1), .int (iI p2)] : List Value).toArray s = true := fun w h => hts w (jm h)
  have hown : s.vm.findClass RX6 = some m.cls := findClass_of_methodNamed B.named
  subst hsz
  have hD := hD0.self (sz := s.heap.size)
  generalize hAe : (va_A (xG L cid K N v) s.heap.size) = A at hD hX ⊢
  have hA : ∀ q : Nat, s.heap.size ≤ q → A q := fun q h => by rw [← hAe]; exact Or.inr h
  have hS : va_S A s.heap s.heap [] := va_S.rf
  have hXa := hX
  have hP : va_P (dC, dI) vwCl (xG L cid K N v) s.heap := hP
  have hl := lv_entry ([.ref p0.toNat, .int (iI p1), .int (iI p2)]) (n := 3) (Nat.le_of_ble_eq_true rfl)
  rw [lg_entry_eq]
  generalize (lg_sl ([.ref p0.toNat, .int (iI p1), .int (iI p2)]) ++ List.replicate (3 - (lg_sl ([.ref p0.toNat, .int (iI p1), .int (iI p2)])).length) Slot.unset).toArray = ls at hl ⊢
  have hl : lv_has ls 3 [(0, .ref p0.toNat), (1, .int (iI p1)), (2, .int (iI p2))] := hl
  generalize hQ : MQ below (va_Qv (fun (u : (Int → Int → Int)) => (xI L K N u) ∧ (fr K [(6, 1), (6, 2), (6, 3), (6, 4), (6, 5), (34, (-1))] u v)) (fun u t => va_P (dC, dI) vwCl (xG L cid K N u) t.heap ∧ va_K (dC, dI) vwCl (xT cid) t ∧ va_D A (xG L cid K N u)) A) ([.ref p0.toNat, .int (iI p1), .int (iI p2)] : List Value).toArray s 0 0 A = Q
  suffices ST : ∀ (H : Heap) (locs : List Loc), va_P (dC, dI) vwCl (xG L cid K N v) H → va_S A s.heap H locs → W p l e ({ frames := 4, cells := 0, slots := 0, locals := 115 }) s m ([.ref p0.toNat, .int (iI p1), .int (iI p2)] : List Value).toArray below meth c H locs 0 0 Q (F0 m 0 ls []) from ST _ _ hP hS
  clear hP hS
  intro H locs hP hS
  refine lv_aload_n hx hb dX6_take_0 rfl (lv_at hl 0 rfl) ?_
  refine lv_iload_n hx hb dX6_take_1 rfl (lv_at hl 1 rfl) ?_
  refine px_RX6_13 (y := p1) hx hb hj hown hK hP hD hS hI q0 ⟨by omega, by omega⟩ dX6_take_2 (fun v_1 H locs f_2 e_3 o_4 I_5 hP hD hS => ?_)
  refine lv_aload_n hx hb dX6_take_5 rfl (lv_at hl 0 rfl) ?_
  refine lv_iload_n hx hb dX6_take_6 rfl (lv_at hl 2 rfl) ?_
  refine px_RX6_17 (y := p2) hx hb hj hown hK hP hD hS I_5 q0 ⟨by omega, by omega⟩ dX6_take_7 (fun v_6 H locs f_7 e_8 o_9 I_10 hP hD hS => ?_)
  refine lv_aload_n hx hb dX6_take_10 rfl (lv_at hl 0 rfl) ?_
  refine lv_iconst (v := iI 1) hx hb dX6_take_11 rfl ?_
  refine px_RX6_20 (y := 1) hx hb hj hown hK hP hD hS I_10 q0 ⟨by omega, by omega⟩ dX6_take_12 (fun v_11 H locs f_12 e_13 o_14 I_15 hP hD hS => ?_)
  refine lv_aload_n hx hb dX6_take_15 rfl (lv_at hl 0 rfl) ?_
  refine lv_aload_n hx hb dX6_take_16 rfl (lv_at hl 0 rfl) ?_
  have h_16 : ok L K (v p0 0) 8 := xf_6_0 hI q0
  refine gx_RX6_7 (y := v p0 0) hx hb hj hown hK hP q0 ((xf_6_0 I_15 q0).1) (((fr_use q0 f_12 rfl)).trans (((fr_use q0 f_7 rfl)).trans (fr_use q0 f_2 rfl))) dX6_take_17 ?_
  refine lv_iconst (v := iI 1) hx hb dX6_take_20 rfl ?_
  refine lv_iload_n hx hb dX6_take_21 rfl (lv_at hl 1 rfl) ?_
  refine lv_iload_n hx hb dX6_take_22 rfl (lv_at hl 2 rfl) ?_
  refine jcg_i (va_runV (As := [.int (iI 1), .int (iI p1), .int (iI p2)]) (rest := [.ref p0.toNat]) ⟨hx, hb, hml, hown, hts⟩ (sX8_valueOf l dC dI _ L cid K N tW sK sV v_11 (v p0 0) 1 p1 p2 I_15 h_16 (by omega) (by omega) (by omega)) (cwV 3 hts (jgoodV m_955 m_956 m_957 m_928 m_958) rfl rfl rfl (by decide +kernel) ⟨(Nat.le_of_ble_eq_true rfl), (Nat.le_of_ble_eq_true rfl)⟩) ⟨xP_blind, xrecv hK hP h_16 rfl rfl, fun U hU hW => ⟨rfl, xP_of hU hW hP hK hD hX hS (fun _ h => h) hA⟩⟩ rfl rfl hl.1 rfl (lv_room (Nat.le_of_ble_eq_true rfl)) dX6_take_23 ⟨(Nat.le_of_ble_eq_true rfl), (Nat.le_of_ble_eq_true rfl)⟩) hD hS hA (fun r_17 v_21 H locs w_18 hP hK hD hS => ?_)
  obtain ⟨z_19, rfl, I_23, f_22, h_20⟩ := w_18
  have hP : va_P (dC, dI) vwCl (xG L cid K N v_21) H := hP
  have hD : va_D A (xG L cid K N v_21) := hD
  have J34 : ∀ (s0_34 : Int) (H : Heap) (locs : List Loc) (ls : Array Slot), (0 ≤ s0_34 ∧ s0_34 ≤ 1) → va_P (dC, dI) vwCl (xG L cid K N v_21) H → va_D A (xG L cid K N v_21) → va_S A s.heap H locs → lv_has ls 3 [(0, .ref p0.toNat), (1, .int (iI p1)), (2, .int (iI p2))] → W p l e ({ frames := 4, cells := 0, slots := 0, locals := 115 }) s m ([.ref p0.toNat, .int (iI p1), .int (iI p2)] : List Value).toArray below meth c H locs 0 0 Q (F0 m 34 ls [.int (iI s0_34), .ref p0.toNat]) := by
    intro s0_34 H locs ls h_24 hP hD hS hl
    refine px_RX6_32 (y := s0_34) hx hb hj hown hK hP hD hS I_23 q0 ⟨by omega, by omega⟩ dX6_take_34 (fun v_25 H locs f_26 e_27 o_28 I_29 hP hD hS => ?_)
    refine lv_aload_n hx hb dX6_take_37 rfl (lv_at hl 0 rfl) ?_
    refine lv_aload_n hx hb dX6_take_38 rfl (lv_at hl 0 rfl) ?_
    refine gx_RX6_7 (y := v p0 0) hx hb hj hown hK hP q0 ((xf_6_0 I_29 q0).1) (((fr_use q0 f_26 rfl)).trans (((fr_use q0 f_22 rfl)).trans (((fr_use q0 f_12 rfl)).trans (((fr_use q0 f_7 rfl)).trans (fr_use q0 f_2 rfl))))) dX6_take_39 ?_
    refine lv_iconst (v := iI 0) hx hb dX6_take_42 rfl ?_
    refine lv_iload_n hx hb dX6_take_43 rfl (lv_at hl 1 rfl) ?_
    refine lv_iload_n hx hb dX6_take_44 rfl (lv_at hl 2 rfl) ?_
    refine jcg_i (va_runV (As := [.int (iI 0), .int (iI p1), .int (iI p2)]) (rest := [.ref p0.toNat]) ⟨hx, hb, hml, hown, hts⟩ (sX8_valueOf l dC dI _ L cid K N tW sK sV v_25 (v p0 0) 0 p1 p2 I_29 h_16 (by omega) (by omega) (by omega)) (cwV 3 hts (jgoodV m_955 m_956 m_957 m_928 m_958) rfl rfl rfl (by decide +kernel) ⟨(Nat.le_of_ble_eq_true rfl), (Nat.le_of_ble_eq_true rfl)⟩) ⟨xP_blind, xrecv hK hP h_16 rfl rfl, fun U hU hW => ⟨rfl, xP_of hU hW hP hK hD hX hS (fun _ h => h) hA⟩⟩ rfl rfl hl.1 rfl (lv_room (Nat.le_of_ble_eq_true rfl)) dX6_take_45 ⟨(Nat.le_of_ble_eq_true rfl), (Nat.le_of_ble_eq_true rfl)⟩) hD hS hA (fun r_30 v_34 H locs w_31 hP hK hD hS => ?_)
    obtain ⟨z_32, rfl, I_36, f_35, h_33⟩ := w_31
    have hP : va_P (dC, dI) vwCl (xG L cid K N v_34) H := hP
    have hD : va_D A (xG L cid K N v_34) := hD
    refine xr_if_eq (tgt := 55) hx hb dX6_take_48 (by decide) (by omega) (fun h_37 => ?_) (fun h_37 => ?_)
    · refine lv_iconst (v := iI 0) hx hb dX6_take_55 rfl ?_
      refine px_RX6_35 (y := 0) hx hb hj hown hK hP hD hS I_36 q0 ⟨by omega, by omega⟩ dX6_take_56 (fun v_38 H locs f_39 e_40 o_41 I_42 hP hD hS => ?_)
      rw [← hQ]
      exact W.vret hx hb hr (fun t ht hW => ⟨⟨v_38, rfl, ⟨I_42, (fr_tr f_39 rfl (fr_tr f_35 rfl (fr_tr f_26 rfl (fr_tr f_22 rfl (fr_tr f_12 rfl (fr_tr f_7 rfl (fr_tr f_2 rfl fr_rf)))))))⟩, by rw [ht]; exact hP, va_K.moved hW.alike hK, hD⟩, hS.F ht⟩) hS.2.2 dX6_take_59
    · refine lv_iconst (v := iI 1) hx hb dX6_take_51 rfl ?_
      refine lv_goto (tgt := 56) hx hb dX6_take_52 (by decide) ?_
      refine px_RX6_35 (y := 1) hx hb hj hown hK hP hD hS I_36 q0 ⟨by omega, by omega⟩ dX6_take_56 (fun v_43 H locs f_44 e_45 o_46 I_47 hP hD hS => ?_)
      rw [← hQ]
      exact W.vret hx hb hr (fun t ht hW => ⟨⟨v_43, rfl, ⟨I_47, (fr_tr f_44 rfl (fr_tr f_35 rfl (fr_tr f_26 rfl (fr_tr f_22 rfl (fr_tr f_12 rfl (fr_tr f_7 rfl (fr_tr f_2 rfl fr_rf)))))))⟩, by rw [ht]; exact hP, va_K.moved hW.alike hK, hD⟩, hS.F ht⟩) hS.2.2 dX6_take_59
  refine xr_if_eq (tgt := 33) hx hb dX6_take_26 (by decide) (by omega) (fun h_48 => ?_) (fun h_48 => ?_)
  · refine lv_iconst (v := iI 0) hx hb dX6_take_33 rfl ?_
    exact J34 0 H locs ls (by omega) hP hD hS hl
  · refine lv_iconst (v := iI 1) hx hb dX6_take_29 rfl ?_
    refine lv_goto (tgt := 34) hx hb dX6_take_30 (by decide) ?_
    exact J34 1 H locs ls (by omega) hP hD hS hl
