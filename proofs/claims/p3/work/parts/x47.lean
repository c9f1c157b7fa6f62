set_option maxHeartbeats 2000000 in
set_option maxRecDepth 100000 in
theorem sX10_meet (l : Launch) (dC : Nat → ClassId) (dI : Nat → Nat → Nat) (sz : Nat) (L : List Nat) (cid : Nat → ClassId) (K : Int → Nat) (N : Int → Int) (tW : Nat) (sK sV : Nat → Nat) (v : Int → Int → Int) (p0 : Int) (p1 : Int) (p2 : Int) (hI : xI L K N v) (q0 : ok L K p0 10) (q1 : rg p1) (q2 : 0 ≤ p2 ∧ p2 ≤ 1) : Met l yX10_meet (jk yX10_meet cX10_meet 7 none) ({ frames := 1, cells := 0, slots := 0, locals := 40 }) (va_Pc [.ref p0.toNat, .int (iI p1), .int (iI p2)] (xP (dC, dI) (xG L cid K N v) (xT cid) tW sK sV sz)) (va_Qv (fun (u : (Int → Int → Int)) => (xI L K N u) ∧ (fr K [(62, (-1))] u v)) (fun u t => va_P (dC, dI) vwCl (xG L cid K N u) t.heap ∧ va_K (dC, dI) vwCl (xT cid) t ∧ va_D (va_A (xG L cid K N v) sz) (xG L cid K N u)) (va_A (xG L cid K N v) sz)) 0 0 (va_A (xG L cid K N v) sz) := by
  refine Met.ofW (cc := cX10_meet) (maxL := 7) (ret := none) (by decide) rfl ?_
  intro p e s m args below meth c s₁ B hml hv
  obtain ⟨rfl, ⟨hsz, hP, hK, hD0⟩, hX⟩ := hv
  have hx := B.exec
  have hb := B.bytes
  have hr := B.returns
  have hts := atoms_spec (ws := (jk yX10_meet cX10_meet 7 none)) B.pre
  have hj : ∀ w ∈ jw, w.before ([.ref p0.toNat, .int (iI p1), .int (iI p2)] : List Value).toArray s = true := fun w h => hts w (jm h)
  have hown : s.vm.findClass RX10 = some m.cls := findClass_of_methodNamed B.named
  subst hsz
  have hD := hD0.self (sz := s.heap.size)
  generalize hAe : (va_A (xG L cid K N v) s.heap.size) = A at hD hX ⊢
  have hA : ∀ q : Nat, s.heap.size ≤ q → A q := fun q h => by rw [← hAe]; exact Or.inr h
  have hS : va_S A s.heap s.heap [] := va_S.rf
  have hXa := hX
  have hP : va_P (dC, dI) vwCl (xG L cid K N v) s.heap := hP
  have hl := lv_entry ([.ref p0.toNat, .int (iI p1), .int (iI p2)]) (n := 7) (Nat.le_of_ble_eq_true rfl)
  rw [lg_entry_eq]
  generalize (lg_sl ([.ref p0.toNat, .int (iI p1), .int (iI p2)]) ++ List.replicate (7 - (lg_sl ([.ref p0.toNat, .int (iI p1), .int (iI p2)])).length) Slot.unset).toArray = ls at hl ⊢
  have hl : lv_has ls 7 [(0, .ref p0.toNat), (1, .int (iI p1)), (2, .int (iI p2))] := hl
  generalize hQ : MQ below (va_Qv (fun (u : (Int → Int → Int)) => (xI L K N u) ∧ (fr K [(62, (-1))] u v)) (fun u t => va_P (dC, dI) vwCl (xG L cid K N u) t.heap ∧ va_K (dC, dI) vwCl (xT cid) t ∧ va_D A (xG L cid K N u)) A) ([.ref p0.toNat, .int (iI p1), .int (iI p2)] : List Value).toArray s 0 0 A = Q
  suffices ST : ∀ (H : Heap) (locs : List Loc), va_P (dC, dI) vwCl (xG L cid K N v) H → va_S A s.heap H locs → W p l e ({ frames := 1, cells := 0, slots := 0, locals := 40 }) s m ([.ref p0.toNat, .int (iI p1), .int (iI p2)] : List Value).toArray below meth c H locs 0 0 Q (F0 m 0 ls []) from ST _ _ hP hS
  clear hP hS
  intro H locs hP hS
  refine lv_aload_n hx hb dX10_meet_0 rfl (lv_at hl 0 rfl) ?_
  have h_1 : ok L K (v p0 2) 62 := xf_10_2 hI q0
  have h_2 : N (v p0 2) = 31 := xn_62 hI h_1
  refine gx_RX10_15 (y := v p0 2) hx hb hj hown hK hP q0 ((xf_10_2 hI q0).1) rfl dX10_meet_1 ?_
  refine lv_iconst (v := iI 0) hx hb dX10_meet_4 rfl ?_
  have h_3 : (-2147483648) ≤ v (v p0 2) 0 ∧ v (v p0 2) 0 ≤ 2147483647 := xe_62 hI h_1 (by omega)
  refine ax_62 (y := v (v p0 2) 0) hx hb hK hP h_1 (by omega) (by omega) (by omega) rfl dX10_meet_5 ?_
  refine lv_istore_n (i := 3) (lv' := [(3, .int (iI (v (v p0 2) 0))), (0, .ref p0.toNat), (1, .int (iI p1)), (2, .int (iI p2))]) hx hb dX10_meet_6 rfl hl (by decide) rfl (fun ls hl => ?_)
  refine lv_aload_n hx hb dX10_meet_7 rfl (lv_at hl 1 rfl) ?_
  refine gx_RX10_15 (y := v p0 2) hx hb hj hown hK hP q0 ((xf_10_2 hI q0).1) rfl dX10_meet_8 ?_
  refine lv_iconst (v := iI 0) hx hb dX10_meet_11 rfl ?_
  refine lv_dup2_11 hx hb dX10_meet_12 rfl rfl ?_
  refine ax_62 (y := v (v p0 2) 0) hx hb hK hP h_1 (by omega) (by omega) (by omega) rfl dX10_meet_13 ?_
  refine lv_bipush (v := iI 64) hx hb dX10_meet_14 rfl ?_
  refine xr_add hx hb dX10_meet_16 ?_
  refine xr_kept (fun z_4 h_5 h_6 => ?_)
  refine sx_62 (y := z_4) hx hb hK hP hD hS hI h_1 (by omega) (by omega) (by omega) ⟨by omega, by omega⟩ dX10_meet_17 (fun v_7 H locs f_8 e_9 o_10 I_11 hP hD hS => ?_)
  refine lv_iconst (v := iI 0) hx hb dX10_meet_18 rfl ?_
  refine lv_istore (i := 4) (lv' := [(4, .int (iI 0)), (3, .int (iI (v (v p0 2) 0))), (0, .ref p0.toNat), (1, .int (iI p1)), (2, .int (iI p2))]) hx hb dX10_meet_19 hl (by decide) rfl (fun ls hl => ?_)
  have L21 : ∀ (n21 : Nat) (a4_21 a3_21 : Int) (vc21 : Int → Int → Int) (H : Heap) (locs : List Loc) (ls : Array Slot), (0 ≤ a4_21 ∧ a4_21 ≤ 2147483647) → ((-2147483648) ≤ a3_21 ∧ a3_21 ≤ 2147483647) → (0 < (n21 : Int) ∧ (v p0 1) - a4_21 < (n21 : Int)) → fr K [(62, (-1))] vc21 v_7 → xI L K N vc21 → va_P (dC, dI) vwCl (xG L cid K N vc21) H → va_D A (xG L cid K N vc21) → va_S A s.heap H locs → lv_has ls 7 [(4, .int (iI a4_21)), (3, .int (iI a3_21)), (0, .ref p0.toNat), (1, .int (iI p1)), (2, .int (iI p2))] → W p l e ({ frames := 1, cells := 0, slots := 0, locals := 40 }) s m ([.ref p0.toNat, .int (iI p1), .int (iI p2)] : List Value).toArray below meth c H locs 0 0 Q (F0 m 21 ls []) := by
    intro n21
    induction n21 with
    | zero =>
      intro a4_21 a3_21 vc21 H locs ls h_12 h_13 hm21 f_14 I_15 hP hD hS hl
      exfalso; omega
    | succ n21 ih21 =>
      intro a4_21 a3_21 vc21 H locs ls h_16 h_17 hm21 f_18 I_19 hP hD hS hl
      refine lv_iload hx hb dX10_meet_21 (lv_at hl 0 rfl) ?_
      refine lv_aload_n hx hb dX10_meet_23 rfl (lv_at hl 2 rfl) ?_
      have h_20 : 0 ≤ v p0 1 ∧ v p0 1 ≤ 30 := xf_10_1 hI q0
      refine gx_RX10_18 (y := v p0 1) hx hb hj hown hK hP q0 (((fr_use q0 f_18 rfl)).trans (fr_use q0 f_8 rfl)) dX10_meet_24 ?_
      refine xr_icmp_ge (tgt := 115) hx hb dX10_meet_27 (by decide) (by omega) (by omega) (fun h_21 => ?_) (fun h_21 => ?_)
      · rw [← hQ]
        exact W.vret hx hb hr (fun t ht hW => ⟨⟨vc21, rfl, ⟨I_19, (fr_tr f_18 rfl (fr_tr f_8 rfl fr_rf))⟩, by rw [ht]; exact hP, va_K.moved hW.alike hK, hD⟩, hS.F ht⟩) hS.2.2 dX10_meet_115
      · refine lv_iload hx hb dX10_meet_30 (lv_at hl 0 rfl) ?_
        refine lv_bipush (v := iI 30) hx hb dX10_meet_32 rfl ?_
        refine xr_icmp_ge (tgt := 115) hx hb dX10_meet_34 (by decide) (by omega) (by omega) (fun h_22 => ?_) (fun h_22 => ?_)
        · exfalso; omega
        · refine lv_aload_n hx hb dX10_meet_37 rfl (lv_at hl 2 rfl) ?_
          refine gx_RX10_15 (y := v p0 2) hx hb hj hown hK hP q0 ((xf_10_2 I_19 q0).1) (((fr_use q0 f_18 rfl)).trans (fr_use q0 f_8 rfl)) dX10_meet_38 ?_
          refine lv_iload hx hb dX10_meet_41 (lv_at hl 0 rfl) ?_
          refine lv_iconst (v := iI 1) hx hb dX10_meet_43 rfl ?_
          refine xr_add hx hb dX10_meet_44 ?_
          have h_23 : (-2147483648) ≤ vc21 (v p0 2) (a4_21 + 1) ∧ vc21 (v p0 2) (a4_21 + 1) ≤ 2147483647 := xe_62 I_19 h_1 (by omega)
          refine ax_62 (y := vc21 (v p0 2) (a4_21 + 1)) hx hb hK hP h_1 (by omega) (by omega) (by omega) rfl dX10_meet_45 ?_
          refine lv_istore (i := 5) (lv' := [(5, .int (iI (vc21 (v p0 2) (a4_21 + 1)))), (4, .int (iI a4_21)), (3, .int (iI a3_21)), (0, .ref p0.toNat), (1, .int (iI p1)), (2, .int (iI p2))]) hx hb dX10_meet_46 hl (by decide) rfl (fun ls hl => ?_)
          refine lv_aload_n hx hb dX10_meet_48 rfl (lv_at hl 3 rfl) ?_
          have h_24 : ok L K (v p0 0) 61 := xf_10_0 hI q0
          have h_25 : N (v p0 0) = 30 := xn_61 hI h_24
          refine gx_RX10_11 (y := v p0 0) hx hb hj hown hK hP q0 ((xf_10_0 I_19 q0).1) (((fr_use q0 f_18 rfl)).trans (fr_use q0 f_8 rfl)) dX10_meet_49 ?_
          refine lv_iload hx hb dX10_meet_52 (lv_at hl 1 rfl) ?_
          have h_26 : (-2147483648) ≤ v (v p0 0) a4_21 ∧ v (v p0 0) a4_21 ≤ 2147483647 := xe_61 hI h_24 (by omega)
          refine ax_61 (y := v (v p0 0) a4_21) hx hb hK hP h_24 (by omega) (by omega) (by omega) (((fr_use h_24 f_18 rfl)).trans (fr_use h_24 f_8 rfl)) dX10_meet_54 ?_
          refine lv_iload_n hx hb dX10_meet_55 rfl (lv_at hl 4 rfl) ?_
          have J73 : ∀ (s0_73 : Int) (H : Heap) (locs : List Loc) (ls : Array Slot), ((-1) ≤ s0_73 ∧ s0_73 ≤ 64) → va_P (dC, dI) vwCl (xG L cid K N vc21) H → va_D A (xG L cid K N vc21) → va_S A s.heap H locs → lv_has ls 7 [(5, .int (iI (vc21 (v p0 2) (a4_21 + 1)))), (4, .int (iI a4_21)), (3, .int (iI a3_21)), (0, .ref p0.toNat), (1, .int (iI p1)), (2, .int (iI p2))] → W p l e ({ frames := 1, cells := 0, slots := 0, locals := 40 }) s m ([.ref p0.toNat, .int (iI p1), .int (iI p2)] : List Value).toArray below meth c H locs 0 0 Q (F0 m 73 ls [.int (iI s0_73)]) := by
            intro s0_73 H locs ls h_27 hP hD hS hl
            refine lv_istore (i := 6) (lv' := [(6, .int (iI s0_73)), (5, .int (iI (vc21 (v p0 2) (a4_21 + 1)))), (4, .int (iI a4_21)), (3, .int (iI a3_21)), (0, .ref p0.toNat), (1, .int (iI p1)), (2, .int (iI p2))]) hx hb dX10_meet_73 hl (by decide) rfl (fun ls hl => ?_)
            refine lv_aload_n hx hb dX10_meet_75 rfl (lv_at hl 4 rfl) ?_
            refine gx_RX10_15 (y := v p0 2) hx hb hj hown hK hP q0 ((xf_10_2 I_19 q0).1) (((fr_use q0 f_18 rfl)).trans (fr_use q0 f_8 rfl)) dX10_meet_76 ?_
            refine lv_iload hx hb dX10_meet_79 (lv_at hl 2 rfl) ?_
            refine lv_iconst (v := iI 1) hx hb dX10_meet_81 rfl ?_
            refine xr_add hx hb dX10_meet_82 ?_
            refine lv_iload_n hx hb dX10_meet_83 rfl (lv_at hl 3 rfl) ?_
            refine lv_iload hx hb dX10_meet_84 (lv_at hl 0 rfl) ?_
            refine xr_add hx hb dX10_meet_86 ?_
            refine xr_kept (fun z_28 h_29 h_30 => ?_)
            refine lv_iload hx hb dX10_meet_87 (lv_at hl 1 rfl) ?_
            refine lv_aload_n hx hb dX10_meet_89 rfl (lv_at hl 4 rfl) ?_
            refine gx_RX10_15 (y := v p0 2) hx hb hj hown hK hP q0 ((xf_10_2 I_19 q0).1) (((fr_use q0 f_18 rfl)).trans (fr_use q0 f_8 rfl)) dX10_meet_90 ?_
            refine lv_iload hx hb dX10_meet_93 (lv_at hl 2 rfl) ?_
            have h_31 : (-2147483648) ≤ vc21 (v p0 2) a4_21 ∧ vc21 (v p0 2) a4_21 ≤ 2147483647 := xe_62 I_19 h_1 (by omega)
            refine ax_62 (y := vc21 (v p0 2) a4_21) hx hb hK hP h_1 (by omega) (by omega) (by omega) rfl dX10_meet_95 ?_
            refine va_mmin hx hb (by rw [hml]; exact hl.1.symm) hown (hj _ m_967) (hj _ m_765) (hj _ m_762) (hj _ m_766) (Nat.le_of_ble_eq_true rfl) (Nat.le_of_ble_eq_true rfl) (Nat.le_of_ble_eq_true rfl) (Nat.le_of_ble_eq_true rfl) dX10_meet_96 ?_
            refine xm_min (by omega) (by omega) (fun z_32 h_33 => ?_)
            refine lv_bipush (v := iI 64) hx hb dX10_meet_99 rfl ?_
            refine xr_add hx hb dX10_meet_101 ?_
            refine xr_kept (fun z_34 h_35 h_36 => ?_)
            refine va_mmin hx hb (by rw [hml]; exact hl.1.symm) hown (hj _ m_967) (hj _ m_765) (hj _ m_762) (hj _ m_766) (Nat.le_of_ble_eq_true rfl) (Nat.le_of_ble_eq_true rfl) (Nat.le_of_ble_eq_true rfl) (Nat.le_of_ble_eq_true rfl) dX10_meet_102 ?_
            refine xm_min (by omega) (by omega) (fun z_37 h_38 => ?_)
            refine sx_62 (y := z_37) hx hb hK hP hD hS I_19 h_1 (by omega) (by omega) (by omega) ⟨by omega, by omega⟩ dX10_meet_105 (fun v_39 H locs f_40 e_41 o_42 I_43 hP hD hS => ?_)
            refine lv_iload hx hb dX10_meet_106 (lv_at hl 1 rfl) ?_
            refine lv_istore_n (i := 3) (lv' := [(3, .int (iI (vc21 (v p0 2) (a4_21 + 1)))), (6, .int (iI s0_73)), (5, .int (iI (vc21 (v p0 2) (a4_21 + 1)))), (4, .int (iI a4_21)), (0, .ref p0.toNat), (1, .int (iI p1)), (2, .int (iI p2))]) hx hb dX10_meet_108 rfl hl (by decide) rfl (fun ls hl => ?_)
            refine lv_iinc (v := iI (a4_21 + 1)) (lv' := [(4, .int (iI (a4_21 + 1))), (3, .int (iI (vc21 (v p0 2) (a4_21 + 1)))), (6, .int (iI s0_73)), (5, .int (iI (vc21 (v p0 2) (a4_21 + 1)))), (0, .ref p0.toNat), (1, .int (iI p1)), (2, .int (iI p2))]) hx hb dX10_meet_109 hl (k := 3) rfl (iI_add _ _) (by decide) rfl (fun ls hl => ?_)
            refine lv_goto (tgt := 21) hx hb dX10_meet_112 (by decide) ?_
            exact ih21 (a4_21 + 1) (vc21 (v p0 2) (a4_21 + 1)) v_39 H locs ls (by omega) (by omega) (by omega) (fr_tr f_40 rfl (fr_tr f_18 rfl fr_rf)) I_43 hP hD hS (lv_sub hl [0, 1, 4, 5, 6] rfl)
          refine xr_icmp_eq (tgt := 64) hx hb dX10_meet_56 (by decide) (by omega) (by omega) (fun h_44 => ?_) (fun h_44 => ?_)
          · refine lv_iload_n hx hb dX10_meet_64 rfl (lv_at hl 5 rfl) ?_
            refine xr_if_eq (tgt := 72) hx hb dX10_meet_65 (by decide) (by omega) (fun h_45 => ?_) (fun h_45 => ?_)
            · refine lv_iconst (v := iI 0) hx hb dX10_meet_72 rfl ?_
              exact J73 0 H locs ls (by omega) hP hD hS hl
            · refine lv_iconst (v := iI (-1)) hx hb dX10_meet_68 rfl ?_
              refine lv_goto (tgt := 73) hx hb dX10_meet_69 (by decide) ?_
              exact J73 (-1) H locs ls (by omega) hP hD hS hl
          · refine lv_bipush (v := iI 64) hx hb dX10_meet_59 rfl ?_
            refine lv_goto (tgt := 73) hx hb dX10_meet_61 (by decide) ?_
            exact J73 64 H locs ls (by omega) hP hD hS hl
  exact L21 ((((v p0 1) - 0 : Int)).toNat + 1) 0 (v (v p0 2) 0) v_7 H locs ls (by omega) (by omega) (by omega) fr_rf I_11 hP hD hS hl
set_option maxHeartbeats 2000000 in
set_option maxRecDepth 100000 in
theorem sX10_weightOfAll (l : Launch) (dC : Nat → ClassId) (dI : Nat → Nat → Nat) (sz : Nat) (L : List Nat) (cid : Nat → ClassId) (K : Int → Nat) (N : Int → Int) (tW : Nat) (sK sV : Nat → Nat) (v : Int → Int → Int) (p0 : Int) (hI : xI L K N v) (q0 : ok L K p0 10) : Met l yX10_weightOfAll (jk yX10_weightOfAll cX10_weightOfAll 1 (some .int)) ({ frames := 0, cells := 0, slots := 0, locals := 0 }) (va_Pc [.ref p0.toNat] (xP (dC, dI) (xG L cid K N v) (xT cid) tW sK sV sz)) (va_Qi (fun (r : Int32) (_ : Unit) => ∃ z : Int, r = iI z ∧ (rg z)) (fun _ _ => True) (va_A [] sz)) 0 0 (va_A [] sz) := by
  refine Met.ofW (cc := cX10_weightOfAll) (maxL := 1) (ret := (some .int)) (by decide) rfl ?_
  intro p e s m args below meth c s₁ B hml hv
  obtain ⟨rfl, ⟨hsz, hP, hK, hD0⟩, hX⟩ := hv
  have hx := B.exec
  have hb := B.bytes
  have hr := B.returns
  have hts := atoms_spec (ws := (jk yX10_weightOfAll cX10_weightOfAll 1 (some .int))) B.pre
  have hj : ∀ w ∈ jw, w.before ([.ref p0.toNat] : List Value).toArray s = true := fun w h => hts w (jm h)
  have hown : s.vm.findClass RX10 = some m.cls := findClass_of_methodNamed B.named
  subst hsz
  have hDw := hD0.self (sz := s.heap.size)
  have hAA : ∀ q : Nat, s.heap.size ≤ q → va_A (xG L cid K N v) s.heap.size q := fun q h => Or.inr h
  have hAw : ∀ q, va_A [] s.heap.size q → va_A (xG L cid K N v) s.heap.size q := ja_nil va_S.rf hAA
  generalize hAe : (va_A [] s.heap.size) = A at hAw ⊢
  have hA : ∀ q : Nat, s.heap.size ≤ q → A q := fun q h => by rw [← hAe]; exact Or.inr h
  have hS : va_S A s.heap s.heap [] := va_S.rf
  have hXa := hX.nar hAw
  have hP : va_P (dC, dI) vwCl (xG L cid K N v) s.heap := hP
  have hl := lv_entry ([.ref p0.toNat]) (n := 1) (Nat.le_of_ble_eq_true rfl)
  rw [lg_entry_eq]
  generalize (lg_sl ([.ref p0.toNat]) ++ List.replicate (1 - (lg_sl ([.ref p0.toNat])).length) Slot.unset).toArray = ls at hl ⊢
  have hl : lv_has ls 1 [(0, .ref p0.toNat)] := hl
  generalize hQ : MQ below (va_Qi (fun (r : Int32) (_ : Unit) => ∃ z : Int, r = iI z ∧ (rg z)) (fun _ _ => True) A) ([.ref p0.toNat] : List Value).toArray s 0 0 A = Q
  suffices ST : ∀ (H : Heap) (locs : List Loc), va_P (dC, dI) vwCl (xG L cid K N v) H → va_S A s.heap H locs → W p l e ({ frames := 0, cells := 0, slots := 0, locals := 0 }) s m ([.ref p0.toNat] : List Value).toArray below meth c H locs 0 0 Q (F0 m 0 ls []) from ST _ _ hP hS
  clear hP hS
  intro H locs hP hS
  refine lv_aload_n hx hb dX10_weightOfAll_0 rfl (lv_at hl 0 rfl) ?_
  have h_1 : 0 ≤ v p0 1 ∧ v p0 1 ≤ 30 := xf_10_1 hI q0
  refine gx_RX10_18 (y := v p0 1) hx hb hj hown hK hP q0 rfl dX10_weightOfAll_1 ?_
  refine xr_if_lt (tgt := 28) hx hb dX10_weightOfAll_4 (by decide) (by omega) (fun h_2 => ?_) (fun h_2 => ?_)
  · exfalso; omega
  · refine lv_aload_n hx hb dX10_weightOfAll_7 rfl (lv_at hl 0 rfl) ?_
    refine gx_RX10_18 (y := v p0 1) hx hb hj hown hK hP q0 rfl dX10_weightOfAll_8 ?_
    refine lv_bipush (v := iI 30) hx hb dX10_weightOfAll_11 rfl ?_
    refine xr_icmp_gt (tgt := 28) hx hb dX10_weightOfAll_13 (by decide) (by omega) (by omega) (fun h_3 => ?_) (fun h_3 => ?_)
    · exfalso; omega
    · refine lv_aload_n hx hb dX10_weightOfAll_16 rfl (lv_at hl 0 rfl) ?_
      have h_4 : ok L K (v p0 2) 62 := xf_10_2 hI q0
      have h_5 : N (v p0 2) = 31 := xn_62 hI h_4
      refine gx_RX10_15 (y := v p0 2) hx hb hj hown hK hP q0 ((xf_10_2 hI q0).1) rfl dX10_weightOfAll_17 ?_
      refine lv_aload_n hx hb dX10_weightOfAll_20 rfl (lv_at hl 0 rfl) ?_
      refine gx_RX10_18 (y := v p0 1) hx hb hj hown hK hP q0 rfl dX10_weightOfAll_21 ?_
      have h_6 : (-2147483648) ≤ v (v p0 2) (v p0 1) ∧ v (v p0 2) (v p0 1) ≤ 2147483647 := xe_62 hI h_4 (by omega)
      refine ax_62 (y := v (v p0 2) (v p0 1)) hx hb hK hP h_4 (by omega) (by omega) (by omega) rfl dX10_weightOfAll_24 ?_
      refine lv_goto (tgt := 29) hx hb dX10_weightOfAll_25 (by decide) ?_
      rw [← hQ]
      exact W.iret (v := iI (v (v p0 2) (v p0 1))) hx hb hr (fun t ht hW => ⟨⟨iI (v (v p0 2) (v p0 1)), (), rfl, ⟨v (v p0 2) (v p0 1), rfl, by omega⟩, trivial⟩, hS.F ht⟩) hS.2.2 dX10_weightOfAll_29
set_option maxHeartbeats 2000000 in
set_option maxRecDepth 100000 in
theorem sX10_changes (l : Launch) (dC : Nat → ClassId) (dI : Nat → Nat → Nat) (sz : Nat) (L : List Nat) (cid : Nat → ClassId) (K : Int → Nat) (N : Int → Int) (tW : Nat) (sK sV : Nat → Nat) (v : Int → Int → Int) (p0 : Int) (hI : xI L K N v) (q0 : ok L K p0 10) : Met l yX10_changes (jk yX10_changes cX10_changes 1 (some .int)) ({ frames := 1, cells := 0, slots := 0, locals := 20 }) (va_Pc [.ref p0.toNat] (xP (dC, dI) (xG L cid K N v) (xT cid) tW sK sV sz)) (va_Qi (fun (r : Int32) (_ : Unit) => ∃ z : Int, r = iI z ∧ (rg z)) (fun _ _ => True) (va_A [] sz)) 0 0 (va_A [] sz) := by
  refine Met.ofW (cc := cX10_changes) (maxL := 1) (ret := (some .int)) (by decide) rfl ?_
  intro p e s m args below meth c s₁ B hml hv
  obtain ⟨rfl, ⟨hsz, hP, hK, hD0⟩, hX⟩ := hv
  have hx := B.exec
  have hb := B.bytes
  have hr := B.returns
  have hts := atoms_spec (ws := (jk yX10_changes cX10_changes 1 (some .int))) B.pre
  have hj : ∀ w ∈ jw, w.before ([.ref p0.toNat] : List Value).toArray s = true := fun w h => hts w (jm h)
  have hown : s.vm.findClass RX10 = some m.cls := findClass_of_methodNamed B.named
  subst hsz
  have hDw := hD0.self (sz := s.heap.size)
  have hAA : ∀ q : Nat, s.heap.size ≤ q → va_A (xG L cid K N v) s.heap.size q := fun q h => Or.inr h
  have hAw : ∀ q, va_A [] s.heap.size q → va_A (xG L cid K N v) s.heap.size q := ja_nil va_S.rf hAA
  generalize hAe : (va_A [] s.heap.size) = A at hAw ⊢
  have hA : ∀ q : Nat, s.heap.size ≤ q → A q := fun q h => by rw [← hAe]; exact Or.inr h
  have hS : va_S A s.heap s.heap [] := va_S.rf
  have hXa := hX.nar hAw
  have hP : va_P (dC, dI) vwCl (xG L cid K N v) s.heap := hP
  have hl := lv_entry ([.ref p0.toNat]) (n := 1) (Nat.le_of_ble_eq_true rfl)
  rw [lg_entry_eq]
  generalize (lg_sl ([.ref p0.toNat]) ++ List.replicate (1 - (lg_sl ([.ref p0.toNat])).length) Slot.unset).toArray = ls at hl ⊢
  have hl : lv_has ls 1 [(0, .ref p0.toNat)] := hl
  generalize hQ : MQ below (va_Qi (fun (r : Int32) (_ : Unit) => ∃ z : Int, r = iI z ∧ (rg z)) (fun _ _ => True) A) ([.ref p0.toNat] : List Value).toArray s 0 0 A = Q
  suffices ST : ∀ (H : Heap) (locs : List Loc), va_P (dC, dI) vwCl (xG L cid K N v) H → va_S A s.heap H locs → W p l e ({ frames := 1, cells := 0, slots := 0, locals := 20 }) s m ([.ref p0.toNat] : List Value).toArray below meth c H locs 0 0 Q (F0 m 0 ls []) from ST _ _ hP hS
  clear hP hS
  intro H locs hP hS
  refine lv_aload_n hx hb dX10_changes_0 rfl (lv_at hl 0 rfl) ?_
  refine jc_i (va_runV (As := []) (rest := []) ⟨hx, hb, hml, hown, hts⟩ (sX10_weightOfAll l dC dI _ L cid K N tW sK sV v p0 hI q0) (cwV 0 hts (jgoodV m_968 m_969 m_970 m_971 m_972) rfl rfl rfl (by decide +kernel) ⟨(Nat.le_of_ble_eq_true rfl), (Nat.le_of_ble_eq_true rfl)⟩) ⟨xP_blind, xrecv hK hP q0 rfl rfl, fun U hU hW => ⟨rfl, xP_of hU hW hP hK hDw hX hS hAw hAA⟩⟩ rfl rfl hl.1 rfl (lv_room (Nat.le_of_ble_eq_true rfl)) dX10_changes_1 ⟨(Nat.le_of_ble_eq_true rfl), (Nat.le_of_ble_eq_true rfl)⟩) hP hS hA (fun r_1 H locs w_2 hP hS => ?_)
  obtain ⟨z_3, rfl, h_4⟩ := w_2
  refine lv_bipush (v := iI 64) hx hb dX10_changes_4 rfl ?_
  refine xr_add hx hb dX10_changes_6 ?_
  refine xr_kept (fun z_5 h_6 h_7 => ?_)
  refine lv_iconst (v := iI 1) hx hb dX10_changes_7 rfl ?_
  refine xr_sub hx hb dX10_changes_8 ?_
  refine xr_kept (fun z_8 h_9 h_10 => ?_)
  refine lv_bipush (v := iI 64) hx hb dX10_changes_9 rfl ?_
  refine xr_divA hx hb dX10_changes_11 (by omega) (by omega) (fun z_11 h_12 => ?_)
  rw [← hQ]
  exact W.iret (v := iI z_11) hx hb hr (fun t ht hW => ⟨⟨iI z_11, (), rfl, ⟨z_11, rfl, by omega⟩, trivial⟩, hS.F ht⟩) hS.2.2 dX10_changes_12
set_option maxHeartbeats 2000000 in
set_option maxRecDepth 100000 in
theorem sX10_shared (l : Launch) (dC : Nat → ClassId) (dI : Nat → Nat → Nat) (sz : Nat) (L : List Nat) (cid : Nat → ClassId) (K : Int → Nat) (N : Int → Int) (tW : Nat) (sK sV : Nat → Nat) (v : Int → Int → Int) (p0 : Int) (hI : xI L K N v) (q0 : ok L K p0 10) : Met l yX10_shared (jk yX10_shared cX10_shared 1 (some .int)) ({ frames := 2, cells := 0, slots := 0, locals := 40 }) (va_Pc [.ref p0.toNat] (xP (dC, dI) (xG L cid K N v) (xT cid) tW sK sV sz)) (va_Qi (fun (r : Int32) (_ : Unit) => ∃ z : Int, r = iI z ∧ (rg z)) (fun _ _ => True) (va_A [] sz)) 0 0 (va_A [] sz) := by
  refine Met.ofW (cc := cX10_shared) (maxL := 1) (ret := (some .int)) (by decide) rfl ?_
  intro p e s m args below meth c s₁ B hml hv
  obtain ⟨rfl, ⟨hsz, hP, hK, hD0⟩, hX⟩ := hv
  have hx := B.exec
  have hb := B.bytes
  have hr := B.returns
  have hts := atoms_spec (ws := (jk yX10_shared cX10_shared 1 (some .int))) B.pre
  have hj : ∀ w ∈ jw, w.before ([.ref p0.toNat] : List Value).toArray s = true := fun w h => hts w (jm h)
  have hown : s.vm.findClass RX10 = some m.cls := findClass_of_methodNamed B.named
  subst hsz
  have hDw := hD0.self (sz := s.heap.size)
  have hAA : ∀ q : Nat, s.heap.size ≤ q → va_A (xG L cid K N v) s.heap.size q := fun q h => Or.inr h
  have hAw : ∀ q, va_A [] s.heap.size q → va_A (xG L cid K N v) s.heap.size q := ja_nil va_S.rf hAA
  generalize hAe : (va_A [] s.heap.size) = A at hAw ⊢
  have hA : ∀ q : Nat, s.heap.size ≤ q → A q := fun q h => by rw [← hAe]; exact Or.inr h
  have hS : va_S A s.heap s.heap [] := va_S.rf
  have hXa := hX.nar hAw
  have hP : va_P (dC, dI) vwCl (xG L cid K N v) s.heap := hP
  have hl := lv_entry ([.ref p0.toNat]) (n := 1) (Nat.le_of_ble_eq_true rfl)
  rw [lg_entry_eq]
  generalize (lg_sl ([.ref p0.toNat]) ++ List.replicate (1 - (lg_sl ([.ref p0.toNat])).length) Slot.unset).toArray = ls at hl ⊢
  have hl : lv_has ls 1 [(0, .ref p0.toNat)] := hl
  generalize hQ : MQ below (va_Qi (fun (r : Int32) (_ : Unit) => ∃ z : Int, r = iI z ∧ (rg z)) (fun _ _ => True) A) ([.ref p0.toNat] : List Value).toArray s 0 0 A = Q
  suffices ST : ∀ (H : Heap) (locs : List Loc), va_P (dC, dI) vwCl (xG L cid K N v) H → va_S A s.heap H locs → W p l e ({ frames := 2, cells := 0, slots := 0, locals := 40 }) s m ([.ref p0.toNat] : List Value).toArray below meth c H locs 0 0 Q (F0 m 0 ls []) from ST _ _ hP hS
  clear hP hS
  intro H locs hP hS
  refine lv_aload_n hx hb dX10_shared_0 rfl (lv_at hl 0 rfl) ?_
  refine jc_i (va_runV (As := []) (rest := []) ⟨hx, hb, hml, hown, hts⟩ (sX10_changes l dC dI _ L cid K N tW sK sV v p0 hI q0) (cwV 0 hts (jgoodV m_973 m_974 m_975 m_971 m_976) rfl rfl rfl (by decide +kernel) ⟨(Nat.le_of_ble_eq_true rfl), (Nat.le_of_ble_eq_true rfl)⟩) ⟨xP_blind, xrecv hK hP q0 rfl rfl, fun U hU hW => ⟨rfl, xP_of hU hW hP hK hDw hX hS hAw hAA⟩⟩ rfl rfl hl.1 rfl (lv_room (Nat.le_of_ble_eq_true rfl)) dX10_shared_1 ⟨(Nat.le_of_ble_eq_true rfl), (Nat.le_of_ble_eq_true rfl)⟩) hP hS hA (fun r_1 H locs w_2 hP hS => ?_)
  obtain ⟨z_3, rfl, h_4⟩ := w_2
  refine lv_bipush (v := iI 64) hx hb dX10_shared_4 rfl ?_
  refine xr_mul hx hb dX10_shared_6 ?_
  refine xr_kept (fun z_5 h_6 h_7 => ?_)
  clear h_7
  refine lv_aload_n hx hb dX10_shared_7 rfl (lv_at hl 0 rfl) ?_
  refine jc_i (va_runV (As := []) (rest := [.int (iI z_5)]) ⟨hx, hb, hml, hown, hts⟩ (sX10_weightOfAll l dC dI _ L cid K N tW sK sV v p0 hI q0) (cwV 0 hts (jgoodV m_968 m_969 m_970 m_971 m_972) rfl rfl rfl (by decide +kernel) ⟨(Nat.le_of_ble_eq_true rfl), (Nat.le_of_ble_eq_true rfl)⟩) ⟨xP_blind, xrecv hK hP q0 rfl rfl, fun U hU hW => ⟨rfl, xP_of hU hW hP hK hDw hX hS hAw hAA⟩⟩ rfl rfl hl.1 rfl (lv_room (Nat.le_of_ble_eq_true rfl)) dX10_shared_8 ⟨(Nat.le_of_ble_eq_true rfl), (Nat.le_of_ble_eq_true rfl)⟩) hP hS hA (fun r_8 H locs w_9 hP hS => ?_)
  obtain ⟨z_10, rfl, h_11⟩ := w_9
  refine xr_sub hx hb dX10_shared_11 ?_
  refine xr_kept (fun z_12 h_13 h_14 => ?_)
  rw [← hQ]
  exact W.iret (v := iI z_12) hx hb hr (fun t ht hW => ⟨⟨iI z_12, (), rfl, ⟨z_12, rfl, by omega⟩, trivial⟩, hS.F ht⟩) hS.2.2 dX10_shared_12
set_option maxHeartbeats 2000000 in
set_option maxRecDepth 100000 in
theorem sX11_addLaid (l : Launch) (dC : Nat → ClassId) (dI : Nat → Nat → Nat) (sz : Nat) (L : List Nat) (cid : Nat → ClassId) (K : Int → Nat) (N : Int → Int) (tW : Nat) (sK sV : Nat → Nat) (v : Int → Int → Int) (p0 : Int) (p1 : Int) (hI : xI L K N v) (q0 : ok L K p0 11) (q1 : rg p1) : Met l yX11_addLaid (jk yX11_addLaid cX11_addLaid 2 none) ({ frames := 0, cells := 0, slots := 0, locals := 0 }) (va_Pc [.ref p0.toNat, .int (iI p1)] (xP (dC, dI) (xG L cid K N v) (xT cid) tW sK sV sz)) (va_Qv (fun (u : (Int → Int → Int)) => (xI L K N u) ∧ (fr K [(11, 4), (64, (-1))] u v)) (fun u t => va_P (dC, dI) vwCl (xG L cid K N u) t.heap ∧ va_K (dC, dI) vwCl (xT cid) t ∧ va_D (va_A (xG L cid K N v) sz) (xG L cid K N u)) (va_A (xG L cid K N v) sz)) 0 0 (va_A (xG L cid K N v) sz) := by
  refine Met.ofW (cc := cX11_addLaid) (maxL := 2) (ret := none) (by decide) rfl ?_
  intro p e s m args below meth c s₁ B hml hv
  obtain ⟨rfl, ⟨hsz, hP, hK, hD0⟩, hX⟩ := hv
  have hx := B.exec
  have hb := B.bytes
  have hr := B.returns
  have hts := atoms_spec (ws := (jk yX11_addLaid cX11_addLaid 2 none)) B.pre
  have hj : ∀ w ∈ jw, w.before ([.ref p0.toNat, .int (iI p1)] : List Value).toArray s = true := fun w h => hts w (jm h)
  have hown : s.vm.findClass RX11 = some m.cls := findClass_of_methodNamed B.named
  subst hsz
  have hD := hD0.self (sz := s.heap.size)
  generalize hAe : (va_A (xG L cid K N v) s.heap.size) = A at hD hX ⊢
  have hA : ∀ q : Nat, s.heap.size ≤ q → A q := fun q h => by rw [← hAe]; exact Or.inr h
  have hS : va_S A s.heap s.heap [] := va_S.rf
  have hXa := hX
  have hP : va_P (dC, dI) vwCl (xG L cid K N v) s.heap := hP
  have hl := lv_entry ([.ref p0.toNat, .int (iI p1)]) (n := 2) (Nat.le_of_ble_eq_true rfl)
  rw [lg_entry_eq]
  generalize (lg_sl ([.ref p0.toNat, .int (iI p1)]) ++ List.replicate (2 - (lg_sl ([.ref p0.toNat, .int (iI p1)])).length) Slot.unset).toArray = ls at hl ⊢
  have hl : lv_has ls 2 [(0, .ref p0.toNat), (1, .int (iI p1))] := hl
  generalize hQ : MQ below (va_Qv (fun (u : (Int → Int → Int)) => (xI L K N u) ∧ (fr K [(11, 4), (64, (-1))] u v)) (fun u t => va_P (dC, dI) vwCl (xG L cid K N u) t.heap ∧ va_K (dC, dI) vwCl (xT cid) t ∧ va_D A (xG L cid K N u)) A) ([.ref p0.toNat, .int (iI p1)] : List Value).toArray s 0 0 A = Q
  suffices ST : ∀ (H : Heap) (locs : List Loc), va_P (dC, dI) vwCl (xG L cid K N v) H → va_S A s.heap H locs → W p l e ({ frames := 0, cells := 0, slots := 0, locals := 0 }) s m ([.ref p0.toNat, .int (iI p1)] : List Value).toArray below meth c H locs 0 0 Q (F0 m 0 ls []) from ST _ _ hP hS
  clear hP hS
  intro H locs hP hS
  refine lv_aload_n hx hb dX11_addLaid_0 rfl (lv_at hl 0 rfl) ?_
  have h_1 : 0 ≤ v p0 4 ∧ v p0 4 ≤ 12000 := xf_11_4 hI q0
  refine gx_RX11_31 (y := v p0 4) hx hb hj hown hK hP q0 rfl dX11_addLaid_1 ?_
  refine xr_if_lt (tgt := 39) hx hb dX11_addLaid_4 (by decide) (by omega) (fun h_2 => ?_) (fun h_2 => ?_)
  · exfalso; omega
  · refine lv_aload_n hx hb dX11_addLaid_7 rfl (lv_at hl 0 rfl) ?_
    refine gx_RX11_31 (y := v p0 4) hx hb hj hown hK hP q0 rfl dX11_addLaid_8 ?_
    refine lv_aload_n hx hb dX11_addLaid_11 rfl (lv_at hl 0 rfl) ?_
    have h_3 : ok L K (v p0 3) 64 := xf_11_3 hI q0
    have h_4 : 0 ≤ N (v p0 3) ∧ N (v p0 3) ≤ 12000 := xn_64 hI h_3
    refine gx_RX11_19 (y := v p0 3) hx hb hj hown hK hP q0 ((xf_11_3 hI q0).1) rfl dX11_addLaid_12 ?_
    refine lx_64 (y := N (v p0 3)) hx hb hK hP h_3 rfl (by omega) dX11_addLaid_15 ?_
    refine xr_icmp_ge (tgt := 39) hx hb dX11_addLaid_16 (by decide) (by omega) (by omega) (fun h_5 => ?_) (fun h_5 => ?_)
    · rw [← hQ]
      exact W.vret hx hb hr (fun t ht hW => ⟨⟨v, rfl, ⟨hI, fr_rf⟩, by rw [ht]; exact hP, va_K.moved hW.alike hK, hD⟩, hS.F ht⟩) hS.2.2 dX11_addLaid_39
    · refine lv_aload_n hx hb dX11_addLaid_19 rfl (lv_at hl 0 rfl) ?_
      refine gx_RX11_19 (y := v p0 3) hx hb hj hown hK hP q0 ((xf_11_3 hI q0).1) rfl dX11_addLaid_20 ?_
      refine lv_aload_n hx hb dX11_addLaid_23 rfl (lv_at hl 0 rfl) ?_
      refine gx_RX11_31 (y := v p0 4) hx hb hj hown hK hP q0 rfl dX11_addLaid_24 ?_
      refine lv_iload_n hx hb dX11_addLaid_27 rfl (lv_at hl 1 rfl) ?_
      refine sx_64 (y := p1) hx hb hK hP hD hS hI h_3 (by omega) (by omega) (by omega) ⟨by omega, by omega⟩ dX11_addLaid_28 (fun v_6 H locs f_7 e_8 o_9 I_10 hP hD hS => ?_)
      refine lv_aload_n hx hb dX11_addLaid_29 rfl (lv_at hl 0 rfl) ?_
      refine lv_dup hx hb dX11_addLaid_30 rfl ?_
      refine gx_RX11_31 (y := v p0 4) hx hb hj hown hK hP q0 (fr_use q0 f_7 rfl) dX11_addLaid_31 ?_
      refine lv_iconst (v := iI 1) hx hb dX11_addLaid_34 rfl ?_
      refine xr_add hx hb dX11_addLaid_35 ?_
      refine px_RX11_31 (y := (v p0 4) + 1) hx hb hj hown hK hP hD hS I_10 q0 ⟨by omega, by omega⟩ dX11_addLaid_36 (fun v_11 H locs f_12 e_13 o_14 I_15 hP hD hS => ?_)
      rw [← hQ]
      exact W.vret hx hb hr (fun t ht hW => ⟨⟨v_11, rfl, ⟨I_15, (fr_tr f_12 rfl (fr_tr f_7 rfl fr_rf))⟩, by rw [ht]; exact hP, va_K.moved hW.alike hK, hD⟩, hS.F ht⟩) hS.2.2 dX11_addLaid_39
set_option maxHeartbeats 2000000 in
set_option maxRecDepth 100000 in
theorem sX11_laidAt (l : Launch) (dC : Nat → ClassId) (dI : Nat → Nat → Nat) (sz : Nat) (L : List Nat) (cid : Nat → ClassId) (K : Int → Nat) (N : Int → Int) (tW : Nat) (sK sV : Nat → Nat) (v : Int → Int → Int) (p0 : Int) (p1 : Int) (hI : xI L K N v) (q0 : ok L K p0 11) (q1 : rg p1) : Met l yX11_laidAt (jk yX11_laidAt cX11_laidAt 2 (some .int)) ({ frames := 0, cells := 0, slots := 0, locals := 0 }) (va_Pc [.ref p0.toNat, .int (iI p1)] (xP (dC, dI) (xG L cid K N v) (xT cid) tW sK sV sz)) (va_Qi (fun (r : Int32) (_ : Unit) => ∃ z : Int, r = iI z ∧ (rg z)) (fun _ _ => True) (va_A [] sz)) 0 0 (va_A [] sz) := by
  refine Met.ofW (cc := cX11_laidAt) (maxL := 2) (ret := (some .int)) (by decide) rfl ?_
  intro p e s m args below meth c s₁ B hml hv
  obtain ⟨rfl, ⟨hsz, hP, hK, hD0⟩, hX⟩ := hv
  have hx := B.exec
  have hb := B.bytes
  have hr := B.returns
  have hts := atoms_spec (ws := (jk yX11_laidAt cX11_laidAt 2 (some .int))) B.pre
  have hj : ∀ w ∈ jw, w.before ([.ref p0.toNat, .int (iI p1)] : List Value).toArray s = true := fun w h => hts w (jm h)
  have hown : s.vm.findClass RX11 = some m.cls := findClass_of_methodNamed B.named
  subst hsz
  have hDw := hD0.self (sz := s.heap.size)
  have hAA : ∀ q : Nat, s.heap.size ≤ q → va_A (xG L cid K N v) s.heap.size q := fun q h => Or.inr h
  have hAw : ∀ q, va_A [] s.heap.size q → va_A (xG L cid K N v) s.heap.size q := ja_nil va_S.rf hAA
  generalize hAe : (va_A [] s.heap.size) = A at hAw ⊢
  have hA : ∀ q : Nat, s.heap.size ≤ q → A q := fun q h => by rw [← hAe]; exact Or.inr h
  have hS : va_S A s.heap s.heap [] := va_S.rf
  have hXa := hX.nar hAw
  have hP : va_P (dC, dI) vwCl (xG L cid K N v) s.heap := hP
  have hl := lv_entry ([.ref p0.toNat, .int (iI p1)]) (n := 2) (Nat.le_of_ble_eq_true rfl)
  rw [lg_entry_eq]
  generalize (lg_sl ([.ref p0.toNat, .int (iI p1)]) ++ List.replicate (2 - (lg_sl ([.ref p0.toNat, .int (iI p1)])).length) Slot.unset).toArray = ls at hl ⊢
  have hl : lv_has ls 2 [(0, .ref p0.toNat), (1, .int (iI p1))] := hl
  generalize hQ : MQ below (va_Qi (fun (r : Int32) (_ : Unit) => ∃ z : Int, r = iI z ∧ (rg z)) (fun _ _ => True) A) ([.ref p0.toNat, .int (iI p1)] : List Value).toArray s 0 0 A = Q
  suffices ST : ∀ (H : Heap) (locs : List Loc), va_P (dC, dI) vwCl (xG L cid K N v) H → va_S A s.heap H locs → W p l e ({ frames := 0, cells := 0, slots := 0, locals := 0 }) s m ([.ref p0.toNat, .int (iI p1)] : List Value).toArray below meth c H locs 0 0 Q (F0 m 0 ls []) from ST _ _ hP hS
  clear hP hS
  intro H locs hP hS
  refine lv_iload_n hx hb dX11_laidAt_0 rfl (lv_at hl 1 rfl) ?_
  refine xr_if_lt (tgt := 30) hx hb dX11_laidAt_1 (by decide) (by omega) (fun h_1 => ?_) (fun h_1 => ?_)
  · refine lv_iconst (v := iI (-1)) hx hb dX11_laidAt_30 rfl ?_
    rw [← hQ]
    exact W.iret (v := iI (-1)) hx hb hr (fun t ht hW => ⟨⟨iI (-1), (), rfl, ⟨(-1), rfl, by omega⟩, trivial⟩, hS.F ht⟩) hS.2.2 dX11_laidAt_31
  · refine lv_iload_n hx hb dX11_laidAt_4 rfl (lv_at hl 1 rfl) ?_
    refine lv_aload_n hx hb dX11_laidAt_5 rfl (lv_at hl 0 rfl) ?_
    have h_2 : 0 ≤ v p0 4 ∧ v p0 4 ≤ 12000 := xf_11_4 hI q0
    refine gx_RX11_31 (y := v p0 4) hx hb hj hown hK hP q0 rfl dX11_laidAt_6 ?_
    refine xr_icmp_ge (tgt := 30) hx hb dX11_laidAt_9 (by decide) (by omega) (by omega) (fun h_3 => ?_) (fun h_3 => ?_)
    · refine lv_iconst (v := iI (-1)) hx hb dX11_laidAt_30 rfl ?_
      rw [← hQ]
      exact W.iret (v := iI (-1)) hx hb hr (fun t ht hW => ⟨⟨iI (-1), (), rfl, ⟨(-1), rfl, by omega⟩, trivial⟩, hS.F ht⟩) hS.2.2 dX11_laidAt_31
    · refine lv_iload_n hx hb dX11_laidAt_12 rfl (lv_at hl 1 rfl) ?_
      refine lv_aload_n hx hb dX11_laidAt_13 rfl (lv_at hl 0 rfl) ?_
      have h_4 : ok L K (v p0 3) 64 := xf_11_3 hI q0
      have h_5 : 0 ≤ N (v p0 3) ∧ N (v p0 3) ≤ 12000 := xn_64 hI h_4
      refine gx_RX11_19 (y := v p0 3) hx hb hj hown hK hP q0 ((xf_11_3 hI q0).1) rfl dX11_laidAt_14 ?_
      refine lx_64 (y := N (v p0 3)) hx hb hK hP h_4 rfl (by omega) dX11_laidAt_17 ?_
      refine xr_icmp_ge (tgt := 30) hx hb dX11_laidAt_18 (by decide) (by omega) (by omega) (fun h_6 => ?_) (fun h_6 => ?_)
      · refine lv_iconst (v := iI (-1)) hx hb dX11_laidAt_30 rfl ?_
        rw [← hQ]
        exact W.iret (v := iI (-1)) hx hb hr (fun t ht hW => ⟨⟨iI (-1), (), rfl, ⟨(-1), rfl, by omega⟩, trivial⟩, hS.F ht⟩) hS.2.2 dX11_laidAt_31
      · refine lv_aload_n hx hb dX11_laidAt_21 rfl (lv_at hl 0 rfl) ?_
        refine gx_RX11_19 (y := v p0 3) hx hb hj hown hK hP q0 ((xf_11_3 hI q0).1) rfl dX11_laidAt_22 ?_
        refine lv_iload_n hx hb dX11_laidAt_25 rfl (lv_at hl 1 rfl) ?_
        have h_7 : (-2147483648) ≤ v (v p0 3) p1 ∧ v (v p0 3) p1 ≤ 2147483647 := xe_64 hI h_4 (by omega)
        refine ax_64 (y := v (v p0 3) p1) hx hb hK hP h_4 (by omega) (by omega) (by omega) rfl dX11_laidAt_26 ?_
        refine lv_goto (tgt := 31) hx hb dX11_laidAt_27 (by decide) ?_
        rw [← hQ]
        exact W.iret (v := iI (v (v p0 3) p1)) hx hb hr (fun t ht hW => ⟨⟨iI (v (v p0 3) p1), (), rfl, ⟨v (v p0 3) p1, rfl, by omega⟩, trivial⟩, hS.F ht⟩) hS.2.2 dX11_laidAt_31
set_option maxHeartbeats 2000000 in
set_option maxRecDepth 100000 in
theorem sX12_feed (l : Launch) (dC : Nat → ClassId) (dI : Nat → Nat → Nat) (sz : Nat) (L : List Nat) (cid : Nat → ClassId) (K : Int → Nat) (N : Int → Int) (tW : Nat) (sK sV : Nat → Nat) (v : Int → Int → Int) (p0 : Int) (p1 : Int) (p2 : Int) (p3 : Int) (p4 : Int) (p5 : Int) (hI : xI L K N v) (q0 : ok L K p0 12) (q1 : rg p1) (q2 : rg p2) (q3 : rg p3) (q4 : rg p4) (q5 : rg p5) : Met l yX12_feed (jk yX12_feed cX12_feed 6 (some .int)) ({ frames := 1, cells := 0, slots := 0, locals := 22 }) (va_Pc [.ref p0.toNat, .int (iI p1), .int (iI p2), .int (iI p3), .int (iI p4), .int (iI p5)] (xP (dC, dI) (xG L cid K N v) (xT cid) tW sK sV sz)) (va_Qi (fun (r : Int32) (u : (Int → Int → Int)) => ∃ z : Int, r = iI z ∧ (xI L K N u) ∧ (fr K [(7, 1), (20, (-1))] u v) ∧ (rg z) ∧ ((z = -1 ∧ 580 < v (v p0 2) 1 ∧ u (u p0 2) 1 = v (v p0 2) 1) ∨ (z = v (v p0 2) 1 + 20 ∧ v (v p0 2) 1 ≤ 580 ∧ u (u p0 2) 1 = v (v p0 2) 1 + 20)) ∧ (z = -1 → xTT u (v p0 2) = xTT v (v p0 2)) ∧ (z ≠ -1 → xTT u (v p0 2) = fdT (xTT v (v p0 2)) (v (v p0 2) 1) p1 p2 p3 p4 p5)) (fun u t => va_P (dC, dI) vwCl (xG L cid K N u) t.heap ∧ va_K (dC, dI) vwCl (xT cid) t ∧ va_D (va_A (xG L cid K N v) sz) (xG L cid K N u)) (va_A (xG L cid K N v) sz)) 0 0 (va_A (xG L cid K N v) sz) := by
  refine Met.ofW (cc := cX12_feed) (maxL := 6) (ret := (some .int)) (by decide) rfl ?_
  intro p e s m args below meth c s₁ B hml hv
  obtain ⟨rfl, ⟨hsz, hP, hK, hD0⟩, hX⟩ := hv
  have hx := B.exec
  have hb := B.bytes
  have hr := B.returns
  have hts := atoms_spec (ws := (jk yX12_feed cX12_feed 6 (some .int))) B.pre
  have hj : ∀ w ∈ jw, w.before ([.ref p0.toNat, .int (iI p1), .int (iI p2), .int (iI p3), .int (iI p4), .int (iI p5)] : List Value).toArray s = true := fun w h => hts w (jm h)
  have hown : s.vm.findClass RX12 = some m.cls := findClass_of_methodNamed B.named
  subst hsz
  have hD := hD0.self (sz := s.heap.size)
  generalize hAe : (va_A (xG L cid K N v) s.heap.size) = A at hD hX ⊢
  have hA : ∀ q : Nat, s.heap.size ≤ q → A q := fun q h => by rw [← hAe]; exact Or.inr h
  have hS : va_S A s.heap s.heap [] := va_S.rf
  have hXa := hX
  have hP : va_P (dC, dI) vwCl (xG L cid K N v) s.heap := hP
  have hl := lv_entry ([.ref p0.toNat, .int (iI p1), .int (iI p2), .int (iI p3), .int (iI p4), .int (iI p5)]) (n := 6) (Nat.le_of_ble_eq_true rfl)
  rw [lg_entry_eq]
  generalize (lg_sl ([.ref p0.toNat, .int (iI p1), .int (iI p2), .int (iI p3), .int (iI p4), .int (iI p5)]) ++ List.replicate (6 - (lg_sl ([.ref p0.toNat, .int (iI p1), .int (iI p2), .int (iI p3), .int (iI p4), .int (iI p5)])).length) Slot.unset).toArray = ls at hl ⊢
  have hl : lv_has ls 6 [(0, .ref p0.toNat), (1, .int (iI p1)), (2, .int (iI p2)), (3, .int (iI p3)), (4, .int (iI p4)), (5, .int (iI p5))] := hl
  generalize hQ : MQ below (va_Qi (fun (r : Int32) (u : (Int → Int → Int)) => ∃ z : Int, r = iI z ∧ (xI L K N u) ∧ (fr K [(7, 1), (20, (-1))] u v) ∧ (rg z) ∧ ((z = -1 ∧ 580 < v (v p0 2) 1 ∧ u (u p0 2) 1 = v (v p0 2) 1) ∨ (z = v (v p0 2) 1 + 20 ∧ v (v p0 2) 1 ≤ 580 ∧ u (u p0 2) 1 = v (v p0 2) 1 + 20)) ∧ (z = -1 → xTT u (v p0 2) = xTT v (v p0 2)) ∧ (z ≠ -1 → xTT u (v p0 2) = fdT (xTT v (v p0 2)) (v (v p0 2) 1) p1 p2 p3 p4 p5)) (fun u t => va_P (dC, dI) vwCl (xG L cid K N u) t.heap ∧ va_K (dC, dI) vwCl (xT cid) t ∧ va_D A (xG L cid K N u)) A) ([.ref p0.toNat, .int (iI p1), .int (iI p2), .int (iI p3), .int (iI p4), .int (iI p5)] : List Value).toArray s 0 0 A = Q
  suffices ST : ∀ (H : Heap) (locs : List Loc), va_P (dC, dI) vwCl (xG L cid K N v) H → va_S A s.heap H locs → W p l e ({ frames := 1, cells := 0, slots := 0, locals := 22 }) s m ([.ref p0.toNat, .int (iI p1), .int (iI p2), .int (iI p3), .int (iI p4), .int (iI p5)] : List Value).toArray below meth c H locs 0 0 Q (F0 m 0 ls []) from ST _ _ hP hS
  clear hP hS
  intro H locs hP hS
  refine lv_aload_n hx hb dX12_feed_0 rfl (lv_at hl 0 rfl) ?_
  have h_1 : ok L K (v p0 2) 7 := xf_12_2 hI q0
  refine gx_RX12_10 (y := v p0 2) hx hb hj hown hK hP q0 ((xf_12_2 hI q0).1) rfl dX12_feed_1 ?_
  have h_2 : 0 ≤ v (v p0 2) 1 ∧ v (v p0 2) 1 ≤ 600 := xf_7_1 hI h_1
  refine gx_RX12_103 (y := v (v p0 2) 1) hx hb hj hown hK hP h_1 rfl dX12_feed_4 ?_
  refine lv_bipush (v := iI 20) hx hb dX12_feed_7 rfl ?_
  refine xr_add hx hb dX12_feed_9 ?_
  refine lv_sipush (v := iI 600) hx hb dX12_feed_10 rfl ?_
  refine xr_icmp_le (tgt := 18) hx hb dX12_feed_13 (by decide) (by omega) (by omega) (fun h_3 => ?_) (fun h_3 => ?_)
  · refine lv_aload_n hx hb dX12_feed_18 rfl (lv_at hl 0 rfl) ?_
    refine gx_RX12_10 (y := v p0 2) hx hb hj hown hK hP q0 ((xf_12_2 hI q0).1) rfl dX12_feed_19 ?_
    refine lv_iload_n hx hb dX12_feed_22 rfl (lv_at hl 1 rfl) ?_
    refine jcg_v (va_runV (As := [.int (iI p1)]) (rest := []) ⟨hx, hb, hml, hown, hts⟩ (sX7_append l dC dI _ L cid K N tW sK sV v (v p0 2) p1 hI h_1 (by omega) (by omega)) (cwV 1 hts (jgoodV m_977 m_978 m_979 m_677 m_980) rfl rfl rfl (by decide +kernel) ⟨(Nat.le_of_ble_eq_true rfl), (Nat.le_of_ble_eq_true rfl)⟩) ⟨xP_blind, xrecv hK hP h_1 rfl rfl, fun U hU hW => ⟨rfl, xP_of hU hW hP hK hD hX hS (fun _ h => h) hA⟩⟩ rfl rfl hl.1 rfl (lv_room (Nat.le_of_ble_eq_true rfl)) dX12_feed_23 ⟨(Nat.le_of_ble_eq_true rfl), (Nat.le_of_ble_eq_true rfl)⟩) hD hS hA (fun v_9 H locs w_5 hP hK hD hS => ?_)
    obtain ⟨I_11, f_10, h_7, h_8⟩ := w_5
    have hP : va_P (dC, dI) vwCl (xG L cid K N v_9) H := hP
    have hD : va_D A (xG L cid K N v_9) := hD
    have h_12 : 0 ≤ v_9 (v p0 2) 1 ∧ v_9 (v p0 2) 1 ≤ 600 := xf_7_1 I_11 h_1
    refine lv_aload_n hx hb dX12_feed_26 rfl (lv_at hl 0 rfl) ?_
    refine gx_RX12_10 (y := v p0 2) hx hb hj hown hK hP q0 ((xf_12_2 I_11 q0).1) (fr_use q0 f_10 rfl) dX12_feed_27 ?_
    refine lv_iload_n hx hb dX12_feed_30 rfl (lv_at hl 2 rfl) ?_
    refine jcg_v (va_runV (As := [.int (iI p2)]) (rest := []) ⟨hx, hb, hml, hown, hts⟩ (sX7_append l dC dI _ L cid K N tW sK sV v_9 (v p0 2) p2 I_11 h_1 (by omega) (by omega)) (cwV 1 hts (jgoodV m_977 m_978 m_979 m_677 m_980) rfl rfl rfl (by decide +kernel) ⟨(Nat.le_of_ble_eq_true rfl), (Nat.le_of_ble_eq_true rfl)⟩) ⟨xP_blind, xrecv hK hP h_1 rfl rfl, fun U hU hW => ⟨rfl, xP_of hU hW hP hK hD hX hS (fun _ h => h) hA⟩⟩ rfl rfl hl.1 rfl (lv_room (Nat.le_of_ble_eq_true rfl)) dX12_feed_31 ⟨(Nat.le_of_ble_eq_true rfl), (Nat.le_of_ble_eq_true rfl)⟩) hD hS hA (fun v_18 H locs w_14 hP hK hD hS => ?_)
    obtain ⟨I_20, f_19, h_16, h_17⟩ := w_14
    have hP : va_P (dC, dI) vwCl (xG L cid K N v_18) H := hP
    have hD : va_D A (xG L cid K N v_18) := hD
    have h_21 : 0 ≤ v_18 (v p0 2) 1 ∧ v_18 (v p0 2) 1 ≤ 600 := xf_7_1 I_20 h_1
    refine lv_aload_n hx hb dX12_feed_34 rfl (lv_at hl 0 rfl) ?_
    refine gx_RX12_10 (y := v p0 2) hx hb hj hown hK hP q0 ((xf_12_2 I_20 q0).1) (((fr_use q0 f_19 rfl)).trans (fr_use q0 f_10 rfl)) dX12_feed_35 ?_
    refine lv_iload_n hx hb dX12_feed_38 rfl (lv_at hl 3 rfl) ?_
    refine jcg_v (va_runV (As := [.int (iI p3)]) (rest := []) ⟨hx, hb, hml, hown, hts⟩ (sX7_append l dC dI _ L cid K N tW sK sV v_18 (v p0 2) p3 I_20 h_1 (by omega) (by omega)) (cwV 1 hts (jgoodV m_977 m_978 m_979 m_677 m_980) rfl rfl rfl (by decide +kernel) ⟨(Nat.le_of_ble_eq_true rfl), (Nat.le_of_ble_eq_true rfl)⟩) ⟨xP_blind, xrecv hK hP h_1 rfl rfl, fun U hU hW => ⟨rfl, xP_of hU hW hP hK hD hX hS (fun _ h => h) hA⟩⟩ rfl rfl hl.1 rfl (lv_room (Nat.le_of_ble_eq_true rfl)) dX12_feed_39 ⟨(Nat.le_of_ble_eq_true rfl), (Nat.le_of_ble_eq_true rfl)⟩) hD hS hA (fun v_27 H locs w_23 hP hK hD hS => ?_)
    obtain ⟨I_29, f_28, h_25, h_26⟩ := w_23
    have hP : va_P (dC, dI) vwCl (xG L cid K N v_27) H := hP
    have hD : va_D A (xG L cid K N v_27) := hD
    have h_30 : 0 ≤ v_27 (v p0 2) 1 ∧ v_27 (v p0 2) 1 ≤ 600 := xf_7_1 I_29 h_1
    refine lv_aload_n hx hb dX12_feed_42 rfl (lv_at hl 0 rfl) ?_
    refine gx_RX12_10 (y := v p0 2) hx hb hj hown hK hP q0 ((xf_12_2 I_29 q0).1) (((fr_use q0 f_28 rfl)).trans (((fr_use q0 f_19 rfl)).trans (fr_use q0 f_10 rfl))) dX12_feed_43 ?_
    refine lv_iload hx hb dX12_feed_46 (lv_at hl 4 rfl) ?_
    refine jcg_v (va_runV (As := [.int (iI p4)]) (rest := []) ⟨hx, hb, hml, hown, hts⟩ (sX7_append l dC dI _ L cid K N tW sK sV v_27 (v p0 2) p4 I_29 h_1 (by omega) (by omega)) (cwV 1 hts (jgoodV m_977 m_978 m_979 m_677 m_980) rfl rfl rfl (by decide +kernel) ⟨(Nat.le_of_ble_eq_true rfl), (Nat.le_of_ble_eq_true rfl)⟩) ⟨xP_blind, xrecv hK hP h_1 rfl rfl, fun U hU hW => ⟨rfl, xP_of hU hW hP hK hD hX hS (fun _ h => h) hA⟩⟩ rfl rfl hl.1 rfl (lv_room (Nat.le_of_ble_eq_true rfl)) dX12_feed_48 ⟨(Nat.le_of_ble_eq_true rfl), (Nat.le_of_ble_eq_true rfl)⟩) hD hS hA (fun v_36 H locs w_32 hP hK hD hS => ?_)
    obtain ⟨I_38, f_37, h_34, h_35⟩ := w_32
    have hP : va_P (dC, dI) vwCl (xG L cid K N v_36) H := hP
    have hD : va_D A (xG L cid K N v_36) := hD
    have h_39 : 0 ≤ v_36 (v p0 2) 1 ∧ v_36 (v p0 2) 1 ≤ 600 := xf_7_1 I_38 h_1
    refine lv_aload_n hx hb dX12_feed_51 rfl (lv_at hl 0 rfl) ?_
    refine gx_RX12_10 (y := v p0 2) hx hb hj hown hK hP q0 ((xf_12_2 I_38 q0).1) (((fr_use q0 f_37 rfl)).trans (((fr_use q0 f_28 rfl)).trans (((fr_use q0 f_19 rfl)).trans (fr_use q0 f_10 rfl)))) dX12_feed_52 ?_
    refine lv_iload hx hb dX12_feed_55 (lv_at hl 5 rfl) ?_
    refine jcg_v (va_runV (As := [.int (iI p5)]) (rest := []) ⟨hx, hb, hml, hown, hts⟩ (sX7_append l dC dI _ L cid K N tW sK sV v_36 (v p0 2) p5 I_38 h_1 (by omega) (by omega)) (cwV 1 hts (jgoodV m_977 m_978 m_979 m_677 m_980) rfl rfl rfl (by decide +kernel) ⟨(Nat.le_of_ble_eq_true rfl), (Nat.le_of_ble_eq_true rfl)⟩) ⟨xP_blind, xrecv hK hP h_1 rfl rfl, fun U hU hW => ⟨rfl, xP_of hU hW hP hK hD hX hS (fun _ h => h) hA⟩⟩ rfl rfl hl.1 rfl (lv_room (Nat.le_of_ble_eq_true rfl)) dX12_feed_57 ⟨(Nat.le_of_ble_eq_true rfl), (Nat.le_of_ble_eq_true rfl)⟩) hD hS hA (fun v_45 H locs w_41 hP hK hD hS => ?_)
    obtain ⟨I_47, f_46, h_43, h_44⟩ := w_41
    have hP : va_P (dC, dI) vwCl (xG L cid K N v_45) H := hP
    have hD : va_D A (xG L cid K N v_45) := hD
    have h_48 : 0 ≤ v_45 (v p0 2) 1 ∧ v_45 (v p0 2) 1 ≤ 600 := xf_7_1 I_47 h_1
    refine lv_aload_n hx hb dX12_feed_60 rfl (lv_at hl 0 rfl) ?_
    refine gx_RX12_10 (y := v p0 2) hx hb hj hown hK hP q0 ((xf_12_2 I_47 q0).1) (((fr_use q0 f_46 rfl)).trans (((fr_use q0 f_37 rfl)).trans (((fr_use q0 f_28 rfl)).trans (((fr_use q0 f_19 rfl)).trans (fr_use q0 f_10 rfl))))) dX12_feed_61 ?_
    refine gx_RX12_103 (y := v_45 (v p0 2) 1) hx hb hj hown hK hP h_1 rfl dX12_feed_64 ?_
    have b_49 : v_45 p0 2 = v p0 2 := (((fr_use q0 f_46 rfl)).trans (((fr_use q0 f_37 rfl)).trans (((fr_use q0 f_28 rfl)).trans (((fr_use q0 f_19 rfl)).trans (fr_use q0 f_10 rfl)))))
    have b_50 : v_45 (v_45 p0 2) 1 = v_45 (v p0 2) 1 := by rw [b_49]
    rw [← hQ]
    exact W.iret (v := iI (v_45 (v p0 2) 1)) hx hb hr (fun t ht hW => ⟨⟨iI (v_45 (v p0 2) 1), v_45, rfl, ⟨v_45 (v p0 2) 1, rfl, I_47, (fr_tr f_46 rfl (fr_tr f_37 rfl (fr_tr f_28 rfl (fr_tr f_19 rfl (fr_tr f_10 rfl fr_rf))))), by omega, by omega, by intro hz9; first | exact rfl | (exfalso; omega), by intro hz9; first | exact fd_5 h_8 h_17 h_26 h_35 h_44 (by omega) (by omega) (by omega) (by omega) | (exfalso; omega)⟩, by rw [ht]; exact hP, va_K.moved hW.alike hK, hD⟩, hS.F ht⟩) hS.2.2 dX12_feed_67
  · refine lv_iconst (v := iI (-1)) hx hb dX12_feed_16 rfl ?_
    rw [← hQ]
    exact W.iret (v := iI (-1)) hx hb hr (fun t ht hW => ⟨⟨iI (-1), v, rfl, ⟨(-1), rfl, hI, fr_rf, by omega, by omega, by intro hz9; first | exact rfl | (exfalso; omega), by intro hz9; first | exact fd_5 _ _ _ _ _ (by omega) (by omega) (by omega) (by omega) | (exfalso; omega)⟩, by rw [ht]; exact hP, va_K.moved hW.alike hK, hD⟩, hS.F ht⟩) hS.2.2 dX12_feed_17
