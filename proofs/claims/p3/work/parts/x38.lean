set_option maxHeartbeats 2000000 in
set_option maxRecDepth 100000 in
theorem sX12_insertIntoRow (l : Launch) (dC : Nat → ClassId) (dI : Nat → Nat → Nat) (sz : Nat) (L : List Nat) (cid : Nat → ClassId) (K : Int → Nat) (N : Int → Int) (tW : Nat) (sK sV : Nat → Nat) (v : Int → Int → Int) (p0 : Int) (p1 : Int) (hI : xI L K N v) (q0 : ok L K p0 12) (q1 : ok L K p1 0) : Met l yX12_insertIntoRow (jk yX12_insertIntoRow cX12_insertIntoRow 7 none) ({ frames := 3, cells := 0, slots := 0, locals := 71 }) (va_Pc [.ref p0.toNat, .ref p1.toNat] (xP (dC, dI) (xG L cid K N v) (xT cid) tW sK sV sz)) (va_Qv (fun (u : (Int → Int → Int)) => (xI L K N u) ∧ (fr K [(12, 9), (37, (-1))] u v)) (fun u t => va_P (dC, dI) vwCl (xG L cid K N u) t.heap ∧ va_K (dC, dI) vwCl (xT cid) t ∧ va_D (va_A (xG L cid K N v) sz) (xG L cid K N u)) (va_A (xG L cid K N v) sz)) 0 0 (va_A (xG L cid K N v) sz) := by
  refine Met.ofW (cc := cX12_insertIntoRow) (maxL := 7) (ret := none) (by decide) rfl ?_
  intro p e s m args below meth c s₁ B hml hv
  obtain ⟨rfl, ⟨hsz, hP, hK, hD0⟩, hX⟩ := hv
  have hx := B.exec
  have hb := B.bytes
  have hr := B.returns
  have hts := atoms_spec (ws := (jk yX12_insertIntoRow cX12_insertIntoRow 7 none)) B.pre
  have hj : ∀ w ∈ jw, w.before ([.ref p0.toNat, .ref p1.toNat] : List Value).toArray s = true := fun w h => hts w (jm h)
  have hown : s.vm.findClass RX12 = some m.cls := findClass_of_methodNamed B.named
  subst hsz
  have hD := hD0.self (sz := s.heap.size)
  generalize hAe : (va_A (xG L cid K N v) s.heap.size) = A at hD hX ⊢
  have hA : ∀ q : Nat, s.heap.size ≤ q → A q := fun q h => by rw [← hAe]; exact Or.inr h
  have hS : va_S A s.heap s.heap [] := va_S.rf
  have hXa := hX
  have hP : va_P (dC, dI) vwCl (xG L cid K N v) s.heap := hP
  have hl := lv_entry ([.ref p0.toNat, .ref p1.toNat]) (n := 7) (Nat.le_of_ble_eq_true rfl)
  rw [lg_entry_eq]
  generalize (lg_sl ([.ref p0.toNat, .ref p1.toNat]) ++ List.replicate (7 - (lg_sl ([.ref p0.toNat, .ref p1.toNat])).length) Slot.unset).toArray = ls at hl ⊢
  have hl : lv_has ls 7 [(0, .ref p0.toNat), (1, .ref p1.toNat)] := hl
  generalize hQ : MQ below (va_Qv (fun (u : (Int → Int → Int)) => (xI L K N u) ∧ (fr K [(12, 9), (37, (-1))] u v)) (fun u t => va_P (dC, dI) vwCl (xG L cid K N u) t.heap ∧ va_K (dC, dI) vwCl (xT cid) t ∧ va_D A (xG L cid K N u)) A) ([.ref p0.toNat, .ref p1.toNat] : List Value).toArray s 0 0 A = Q
  suffices ST : ∀ (H : Heap) (locs : List Loc), va_P (dC, dI) vwCl (xG L cid K N v) H → va_S A s.heap H locs → W p l e ({ frames := 3, cells := 0, slots := 0, locals := 71 }) s m ([.ref p0.toNat, .ref p1.toNat] : List Value).toArray below meth c H locs 0 0 Q (F0 m 0 ls []) from ST _ _ hP hS
  clear hP hS
  intro H locs hP hS
  refine lv_aload_n hx hb dX12_insertIntoRow_0 rfl (lv_at hl 0 rfl) ?_
  have h_1 : 0 ≤ v p0 9 ∧ v p0 9 ≤ 60 := xf_12_9 hI q0
  refine gx_RX12_268 (y := v p0 9) hx hb hj hown hK hP q0 rfl dX12_insertIntoRow_1 ?_
  refine xr_if_lt (tgt := 19) hx hb dX12_insertIntoRow_4 (by decide) (by omega) (fun h_2 => ?_) (fun h_2 => ?_)
  · exfalso; omega
  · refine lv_aload_n hx hb dX12_insertIntoRow_7 rfl (lv_at hl 0 rfl) ?_
    refine gx_RX12_268 (y := v p0 9) hx hb hj hown hK hP q0 rfl dX12_insertIntoRow_8 ?_
    refine lv_aload_n hx hb dX12_insertIntoRow_11 rfl (lv_at hl 0 rfl) ?_
    have h_3 : ok L K (v p0 8) 37 := xf_12_8 hI q0
    have h_4 : N (v p0 8) = 60 := xn_37 hI h_3
    refine gx_RX12_47 (y := v p0 8) hx hb hj hown hK hP q0 ((xf_12_8 hI q0).1) rfl dX12_insertIntoRow_12 ?_
    refine lx_37 (y := 60) hx hb hK hP h_3 (by omega) (by omega) dX12_insertIntoRow_15 ?_
    refine xr_icmp_lt (tgt := 20) hx hb dX12_insertIntoRow_16 (by decide) (by omega) (by omega) (fun h_5 => ?_) (fun h_5 => ?_)
    · refine lv_iconst (v := iI 0) hx hb dX12_insertIntoRow_20 rfl ?_
      refine lv_istore_n (i := 2) (lv' := [(2, .int (iI 0)), (0, .ref p0.toNat), (1, .ref p1.toNat)]) hx hb dX12_insertIntoRow_21 rfl hl (by decide) rfl (fun ls hl => ?_)
      refine lv_aload_n hx hb dX12_insertIntoRow_22 rfl (lv_at hl 1 rfl) ?_
      refine gx_RX12_268 (y := v p0 9) hx hb hj hown hK hP q0 rfl dX12_insertIntoRow_23 ?_
      refine lv_istore_n (i := 3) (lv' := [(3, .int (iI (v p0 9))), (2, .int (iI 0)), (0, .ref p0.toNat), (1, .ref p1.toNat)]) hx hb dX12_insertIntoRow_26 rfl hl (by decide) rfl (fun ls hl => ?_)
      refine lv_iconst (v := iI 0) hx hb dX12_insertIntoRow_27 rfl ?_
      refine lv_istore (i := 4) (lv' := [(4, .int (iI 0)), (3, .int (iI (v p0 9))), (2, .int (iI 0)), (0, .ref p0.toNat), (1, .ref p1.toNat)]) hx hb dX12_insertIntoRow_28 hl (by decide) rfl (fun ls hl => ?_)
      have L30 : ∀ (n30 : Nat) (a4_30 a3_30 a2_30 : Int) (H : Heap) (locs : List Loc) (ls : Array Slot), (0 ≤ a4_30 ∧ a4_30 ≤ 2147483647) → (0 ≤ a3_30 ∧ a3_30 ≤ 60) → (0 ≤ a2_30 ∧ a2_30 ≤ 2147483647) → (0 ≤ a2_30 ∧ a2_30 ≤ a3_30 ∧ a3_30 ≤ v p0 9) → (0 < (n30 : Int) ∧ 60 - a4_30 < (n30 : Int)) → va_P (dC, dI) vwCl (xG L cid K N v) H → va_D A (xG L cid K N v) → va_S A s.heap H locs → lv_has ls 7 [(4, .int (iI a4_30)), (3, .int (iI a3_30)), (2, .int (iI a2_30)), (0, .ref p0.toNat), (1, .ref p1.toNat)] → W p l e ({ frames := 3, cells := 0, slots := 0, locals := 71 }) s m ([.ref p0.toNat, .ref p1.toNat] : List Value).toArray below meth c H locs 0 0 Q (F0 m 30 ls []) := by
        intro n30
        induction n30 with
        | zero =>
          intro a4_30 a3_30 a2_30 H locs ls h_6 h_7 h_8 h_9 hm30 hP hD hS hl
          exfalso; omega
        | succ n30 ih30 =>
          intro a4_30 a3_30 a2_30 H locs ls h_10 h_11 h_12 h_13 hm30 hP hD hS hl
          refine lv_iload hx hb dX12_insertIntoRow_30 (lv_at hl 0 rfl) ?_
          refine lv_bipush (v := iI 60) hx hb dX12_insertIntoRow_32 rfl ?_
          have J97 : ∀ (H : Heap) (locs : List Loc) (ls : Array Slot), va_P (dC, dI) vwCl (xG L cid K N v) H → va_D A (xG L cid K N v) → va_S A s.heap H locs → lv_has ls 7 [(4, .int (iI a4_30)), (3, .int (iI a3_30)), (2, .int (iI a2_30)), (0, .ref p0.toNat), (1, .ref p1.toNat)] → W p l e ({ frames := 3, cells := 0, slots := 0, locals := 71 }) s m ([.ref p0.toNat, .ref p1.toNat] : List Value).toArray below meth c H locs 0 0 Q (F0 m 97 ls []) := by
            intro H locs ls hP hD hS hl
            refine lv_aload_n hx hb dX12_insertIntoRow_97 rfl (lv_at hl 3 rfl) ?_
            refine gx_RX12_47 (y := v p0 8) hx hb hj hown hK hP q0 ((xf_12_8 hI q0).1) rfl dX12_insertIntoRow_98 ?_
            refine lv_iload_n hx hb dX12_insertIntoRow_101 rfl (lv_at hl 2 rfl) ?_
            refine lv_aload_n hx hb dX12_insertIntoRow_102 rfl (lv_at hl 3 rfl) ?_
            refine gx_RX12_47 (y := v p0 8) hx hb hj hown hK hP q0 ((xf_12_8 hI q0).1) rfl dX12_insertIntoRow_103 ?_
            refine lv_iload_n hx hb dX12_insertIntoRow_106 rfl (lv_at hl 2 rfl) ?_
            refine lv_iconst (v := iI 1) hx hb dX12_insertIntoRow_107 rfl ?_
            refine xr_add hx hb dX12_insertIntoRow_108 ?_
            refine xr_kept (fun z_14 h_15 h_16 => ?_)
            refine lv_aload_n hx hb dX12_insertIntoRow_109 rfl (lv_at hl 3 rfl) ?_
            refine gx_RX12_268 (y := v p0 9) hx hb hj hown hK hP q0 rfl dX12_insertIntoRow_110 ?_
            refine lv_iload_n hx hb dX12_insertIntoRow_113 rfl (lv_at hl 2 rfl) ?_
            refine xr_sub hx hb dX12_insertIntoRow_114 ?_
            refine xc_37 hx hb (by rw [hml]; exact hl.1.symm) hown (hj _ m_866) (hj _ m_867) (hj _ m_868) (hj _ m_869) hK hP hD hS hI h_3 (by omega) (by omega) (by omega) (by omega) (by omega) (by omega) (Nat.le_of_ble_eq_true rfl) (Nat.le_of_ble_eq_true rfl) dX12_insertIntoRow_115 (fun v_17 H locs f_18 I_19 hP hD hS => ?_)
            refine lv_aload_n hx hb dX12_insertIntoRow_118 rfl (lv_at hl 3 rfl) ?_
            refine gx_RX12_47 (y := v p0 8) hx hb hj hown hK hP q0 ((xf_12_8 I_19 q0).1) (fr_use q0 f_18 rfl) dX12_insertIntoRow_119 ?_
            refine lv_iload_n hx hb dX12_insertIntoRow_122 rfl (lv_at hl 2 rfl) ?_
            refine lv_aload_n hx hb dX12_insertIntoRow_123 rfl (lv_at hl 4 rfl) ?_
            have h_20 : (-2147483648) ≤ v p1 0 ∧ v p1 0 ≤ 2147483647 := xf_0_0 hI q1
            refine gx_RX12_186 (y := v p1 0) hx hb hj hown hK hP q1 (fr_use q1 f_18 rfl) dX12_insertIntoRow_124 ?_
            refine sx_37 (y := v p1 0) hx hb hK hP hD hS I_19 h_3 (by omega) (by omega) (by omega) ⟨by omega, by omega⟩ dX12_insertIntoRow_127 (fun v_21 H locs f_22 e_23 o_24 I_25 hP hD hS => ?_)
            refine lv_aload_n hx hb dX12_insertIntoRow_128 rfl (lv_at hl 3 rfl) ?_
            refine lv_dup hx hb dX12_insertIntoRow_129 rfl ?_
            refine gx_RX12_268 (y := v p0 9) hx hb hj hown hK hP q0 (((fr_use q0 f_22 rfl)).trans (fr_use q0 f_18 rfl)) dX12_insertIntoRow_130 ?_
            refine lv_iconst (v := iI 1) hx hb dX12_insertIntoRow_133 rfl ?_
            refine xr_add hx hb dX12_insertIntoRow_134 ?_
            refine px_RX12_268 (y := (v p0 9) + 1) hx hb hj hown hK hP hD hS I_25 q0 ⟨by omega, by omega⟩ dX12_insertIntoRow_135 (fun v_26 H locs f_27 e_28 o_29 I_30 hP hD hS => ?_)
            rw [← hQ]
            exact W.vret hx hb hr (fun t ht hW => ⟨⟨v_26, rfl, ⟨I_30, (fr_tr f_27 rfl (fr_tr f_22 rfl (fr_tr f_18 rfl fr_rf)))⟩, by rw [ht]; exact hP, va_K.moved hW.alike hK, hD⟩, hS.F ht⟩) hS.2.2 dX12_insertIntoRow_138
          refine xr_icmp_ge (tgt := 97) hx hb dX12_insertIntoRow_34 (by decide) (by omega) (by omega) (fun h_31 => ?_) (fun h_31 => ?_)
          · exact J97 H locs ls hP hD hS hl
          · refine lv_iload_n hx hb dX12_insertIntoRow_37 rfl (lv_at hl 2 rfl) ?_
            refine lv_iload_n hx hb dX12_insertIntoRow_38 rfl (lv_at hl 1 rfl) ?_
            refine xr_icmp_ge (tgt := 97) hx hb dX12_insertIntoRow_39 (by decide) (by omega) (by omega) (fun h_32 => ?_) (fun h_32 => ?_)
            · exact J97 H locs ls hP hD hS hl
            · refine lv_iload_n hx hb dX12_insertIntoRow_42 rfl (lv_at hl 2 rfl) ?_
              refine lv_iload_n hx hb dX12_insertIntoRow_43 rfl (lv_at hl 1 rfl) ?_
              refine xr_add hx hb dX12_insertIntoRow_44 ?_
              refine lv_iconst (v := iI 1) hx hb dX12_insertIntoRow_45 rfl ?_
              refine xr_ushr1 hx hb (by omega) (by omega) dX12_insertIntoRow_46 ?_
              refine lv_istore (i := 5) (lv' := [(5, .int (iI ((a2_30 + a3_30) / 2))), (4, .int (iI a4_30)), (3, .int (iI a3_30)), (2, .int (iI a2_30)), (0, .ref p0.toNat), (1, .ref p1.toNat)]) hx hb dX12_insertIntoRow_47 hl (by decide) rfl (fun ls hl => ?_)
              refine lv_aload_n hx hb dX12_insertIntoRow_49 rfl (lv_at hl 4 rfl) ?_
              refine lv_aload_n hx hb dX12_insertIntoRow_50 rfl (lv_at hl 4 rfl) ?_
              refine gx_RX12_47 (y := v p0 8) hx hb hj hown hK hP q0 ((xf_12_8 hI q0).1) rfl dX12_insertIntoRow_51 ?_
              refine lv_iload hx hb dX12_insertIntoRow_54 (lv_at hl 0 rfl) ?_
              have h_35 : (-2147483648) ≤ v (v p0 8) ((a2_30 + a3_30) / 2) ∧ v (v p0 8) ((a2_30 + a3_30) / 2) ≤ 2147483647 := xe_37 hI h_3 (by omega)
              refine ax_37 (y := v (v p0 8) ((a2_30 + a3_30) / 2)) hx hb hK hP h_3 (by omega) (by omega) (by omega) rfl dX12_insertIntoRow_56 ?_
              refine jc_q (va_runV (As := [.int (iI (v (v p0 8) ((a2_30 + a3_30) / 2)))]) (rest := []) ⟨hx, hb, hml, hown, hts⟩ (sX12_entryAt l dC dI _ L cid K N tW sK sV v p0 (v (v p0 8) ((a2_30 + a3_30) / 2)) hI q0 (by omega)) (cwV 1 hts (jgoodV m_870 m_871 m_872 m_873 m_874) rfl rfl rfl (by decide +kernel) ⟨(Nat.le_of_ble_eq_true rfl), (Nat.le_of_ble_eq_true rfl)⟩) ⟨xP_blind, xrecv hK hP q0 rfl rfl, fun U hU hW => ⟨rfl, xP_of hU hW hP hK hD hX hS (fun _ h => h) hA⟩⟩ rfl rfl hl.1 rfl (lv_room (Nat.le_of_ble_eq_true rfl)) dX12_insertIntoRow_57 ⟨(Nat.le_of_ble_eq_true rfl), (Nat.le_of_ble_eq_true rfl)⟩) hP hS hA (fun r_36 H locs w_37 hP hS => ?_)
              obtain ⟨z_38, rfl, h_39⟩ := w_37
              refine jt_q (rv z_38) rfl ?_
              refine xq_astore (i := 6) (lv' := [(6, rv z_38), (5, .int (iI ((a2_30 + a3_30) / 2))), (4, .int (iI a4_30)), (3, .int (iI a3_30)), (2, .int (iI a2_30)), (0, .ref p0.toNat), (1, .ref p1.toNat)]) hx hb dX12_insertIntoRow_60 hl (by decide) rfl (fun ls hl => ?_)
              refine xq_aload hx hb dX12_insertIntoRow_62 (lv_at hl 0 rfl) ?_
              have J91 : ∀ (a3_91 a2_91 : Int) (H : Heap) (locs : List Loc) (ls : Array Slot), (0 ≤ a3_91 ∧ a3_91 ≤ 60) → (0 ≤ a2_91 ∧ a2_91 ≤ 60) → (0 ≤ a2_91 ∧ a2_91 ≤ a3_91 ∧ a3_91 ≤ v p0 9) → va_P (dC, dI) vwCl (xG L cid K N v) H → va_D A (xG L cid K N v) → va_S A s.heap H locs → lv_has ls 7 [(6, rv z_38), (5, .int (iI ((a2_30 + a3_30) / 2))), (4, .int (iI a4_30)), (3, .int (iI a3_91)), (2, .int (iI a2_91)), (0, .ref p0.toNat), (1, .ref p1.toNat)] → W p l e ({ frames := 3, cells := 0, slots := 0, locals := 71 }) s m ([.ref p0.toNat, .ref p1.toNat] : List Value).toArray below meth c H locs 0 0 Q (F0 m 91 ls []) := by
                intro a3_91 a2_91 H locs ls h_40 h_41 h_42 hP hD hS hl
                refine lv_iinc (v := iI (a4_30 + 1)) (lv' := [(4, .int (iI (a4_30 + 1))), (6, rv z_38), (5, .int (iI ((a2_30 + a3_30) / 2))), (3, .int (iI a3_91)), (2, .int (iI a2_91)), (0, .ref p0.toNat), (1, .ref p1.toNat)]) hx hb dX12_insertIntoRow_91 hl (k := 2) rfl (iI_add _ _) (by decide) rfl (fun ls hl => ?_)
                refine lv_goto (tgt := 30) hx hb dX12_insertIntoRow_94 (by decide) ?_
                exact ih30 (a4_30 + 1) a3_91 a2_91 H locs ls (by omega) (by omega) (by omega) (by omega) (by omega) hP hD hS (lv_sub hl [0, 3, 4, 5, 6] rfl)
              have J86 : ∀ (H : Heap) (locs : List Loc) (ls : Array Slot), va_P (dC, dI) vwCl (xG L cid K N v) H → va_D A (xG L cid K N v) → va_S A s.heap H locs → lv_has ls 7 [(6, rv z_38), (5, .int (iI ((a2_30 + a3_30) / 2))), (4, .int (iI a4_30)), (3, .int (iI a3_30)), (2, .int (iI a2_30)), (0, .ref p0.toNat), (1, .ref p1.toNat)] → W p l e ({ frames := 3, cells := 0, slots := 0, locals := 71 }) s m ([.ref p0.toNat, .ref p1.toNat] : List Value).toArray below meth c H locs 0 0 Q (F0 m 86 ls []) := by
                intro H locs ls hP hD hS hl
                refine lv_iload hx hb dX12_insertIntoRow_86 (lv_at hl 1 rfl) ?_
                refine lv_iconst (v := iI 1) hx hb dX12_insertIntoRow_88 rfl ?_
                refine xr_add hx hb dX12_insertIntoRow_89 ?_
                refine lv_istore_n (i := 2) (lv' := [(2, .int (iI (((a2_30 + a3_30) / 2) + 1))), (6, rv z_38), (5, .int (iI ((a2_30 + a3_30) / 2))), (4, .int (iI a4_30)), (3, .int (iI a3_30)), (0, .ref p0.toNat), (1, .ref p1.toNat)]) hx hb dX12_insertIntoRow_90 rfl hl (by decide) rfl (fun ls hl => ?_)
                exact J91 a3_30 (((a2_30 + a3_30) / 2) + 1) H locs ls (by omega) (by omega) (by omega) hP hD hS (lv_sub hl [1, 2, 3, 4, 0, 5, 6] rfl)
              refine xq_ifnull (tgt := 86) hx hb dX12_insertIntoRow_64 (by decide) (fun h_43 => ?_) (fun h_43 => ?_)
              · exact J86 H locs ls hP hD hS hl
              · have h_44 : ok L K z_38 0 := h_39.resolve_left (by omega)
                refine lv_aload_n hx hb dX12_insertIntoRow_67 rfl (lv_at hl 5 rfl) ?_
                have h_45 : ok L K (v p0 4) 6 := xf_12_4 hI q0
                refine gx_RX12_28 (y := v p0 4) hx hb hj hown hK hP q0 ((xf_12_4 hI q0).1) rfl dX12_insertIntoRow_68 ?_
                refine lv_aload_n hx hb dX12_insertIntoRow_71 rfl (lv_at hl 6 rfl) ?_
                refine xq_aload hx hb dX12_insertIntoRow_72 (lv_at hl 0 rfl) ?_
                refine jt_q (.ref z_38.toNat) (rv_ref (h_44).1) ?_
                refine jc_i (va_runV (As := [.ref p1.toNat, .ref z_38.toNat]) (rest := []) ⟨hx, hb, hml, hown, hts⟩ (sX6_isAhead l dC dI _ L cid K N tW sK sV v (v p0 4) p1 z_38 hI h_45 q1 h_44) (cwV 2 hts (jgoodV m_875 m_876 m_877 m_860 m_878) rfl rfl rfl (by decide +kernel) ⟨(Nat.le_of_ble_eq_true rfl), (Nat.le_of_ble_eq_true rfl)⟩) ⟨xP_blind, xrecv hK hP h_45 rfl rfl, fun U hU hW => ⟨rfl, xP_of hU hW hP hK hD hX hS (fun _ h => h) hA⟩⟩ rfl rfl hl.1 rfl (lv_room (Nat.le_of_ble_eq_true rfl)) dX12_insertIntoRow_74 ⟨(Nat.le_of_ble_eq_true rfl), (Nat.le_of_ble_eq_true rfl)⟩) hP hS hA (fun r_46 H locs w_47 hP hS => ?_)
                obtain ⟨z_48, rfl, h_49⟩ := w_47
                refine xr_if_eq (tgt := 86) hx hb dX12_insertIntoRow_77 (by decide) (by omega) (fun h_50 => ?_) (fun h_50 => ?_)
                · exact J86 H locs ls hP hD hS hl
                · refine lv_iload hx hb dX12_insertIntoRow_80 (lv_at hl 1 rfl) ?_
                  refine lv_istore_n (i := 3) (lv' := [(3, .int (iI ((a2_30 + a3_30) / 2))), (6, rv z_38), (5, .int (iI ((a2_30 + a3_30) / 2))), (4, .int (iI a4_30)), (2, .int (iI a2_30)), (0, .ref p0.toNat), (1, .ref p1.toNat)]) hx hb dX12_insertIntoRow_82 rfl hl (by decide) rfl (fun ls hl => ?_)
                  refine lv_goto (tgt := 91) hx hb dX12_insertIntoRow_83 (by decide) ?_
                  exact J91 ((a2_30 + a3_30) / 2) a2_30 H locs ls (by omega) (by omega) (by omega) hP hD hS (lv_sub hl [1, 2, 3, 0, 4, 5, 6] rfl)
      exact L30 (((60 - 0 : Int)).toNat + 1) 0 (v p0 9) 0 H locs ls (by omega) (by omega) (by omega) (by omega) (by omega) hP hD hS hl
    · rw [← hQ]
      exact W.vret hx hb hr (fun t ht hW => ⟨⟨v, rfl, ⟨hI, fr_rf⟩, by rw [ht]; exact hP, va_K.moved hW.alike hK, hD⟩, hS.F ht⟩) hS.2.2 dX12_insertIntoRow_19
set_option maxHeartbeats 2000000 in
set_option maxRecDepth 100000 in
theorem sX1_reachWith (l : Launch) (dC : Nat → ClassId) (dI : Nat → Nat → Nat) (sz : Nat) (L : List Nat) (cid : Nat → ClassId) (K : Int → Nat) (N : Int → Int) (tW : Nat) (sK sV : Nat → Nat) (v : Int → Int → Int) (p0 : Int) (p1 : Int) (p2 : Int) (p3 : Int) (hI : xI L K N v) (q0 : ok L K p0 1) (q1 : rg p1) (q2 : rg p2) (q3 : rg p3) (k1 : 1 ≤ p3 ∧ p3 ≤ 128) : Met l yX1_reachWith (jk yX1_reachWith cX1_reachWith 7 none) ({ frames := 1, cells := 0, slots := 0, locals := 40 }) (va_Pc [.ref p0.toNat, .int (iI p1), .int (iI p2), .int (iI p3)] (xP (dC, dI) (xG L cid K N v) (xT cid) tW sK sV sz)) (va_Qv (fun (u : (Int → Int → Int)) => (xI L K N u) ∧ (fr K [(60, (-1))] u v)) (fun u t => va_P (dC, dI) vwCl (xG L cid K N u) t.heap ∧ va_K (dC, dI) vwCl (xT cid) t ∧ va_D (va_A (xG L cid K N v) sz) (xG L cid K N u)) (va_A (xG L cid K N v) sz)) 0 0 (va_A (xG L cid K N v) sz) := by
  refine Met.ofW (cc := cX1_reachWith) (maxL := 7) (ret := none) (by decide) rfl ?_
  intro p e s m args below meth c s₁ B hml hv
  obtain ⟨rfl, ⟨hsz, hP, hK, hD0⟩, hX⟩ := hv
  have hx := B.exec
  have hb := B.bytes
  have hr := B.returns
  have hts := atoms_spec (ws := (jk yX1_reachWith cX1_reachWith 7 none)) B.pre
  have hj : ∀ w ∈ jw, w.before ([.ref p0.toNat, .int (iI p1), .int (iI p2), .int (iI p3)] : List Value).toArray s = true := fun w h => hts w (jm h)
  have hown : s.vm.findClass RX1 = some m.cls := findClass_of_methodNamed B.named
  subst hsz
  have hD := hD0.self (sz := s.heap.size)
  generalize hAe : (va_A (xG L cid K N v) s.heap.size) = A at hD hX ⊢
  have hA : ∀ q : Nat, s.heap.size ≤ q → A q := fun q h => by rw [← hAe]; exact Or.inr h
  have hS : va_S A s.heap s.heap [] := va_S.rf
  have hXa := hX
  have hP : va_P (dC, dI) vwCl (xG L cid K N v) s.heap := hP
  have hl := lv_entry ([.ref p0.toNat, .int (iI p1), .int (iI p2), .int (iI p3)]) (n := 7) (Nat.le_of_ble_eq_true rfl)
  rw [lg_entry_eq]
  generalize (lg_sl ([.ref p0.toNat, .int (iI p1), .int (iI p2), .int (iI p3)]) ++ List.replicate (7 - (lg_sl ([.ref p0.toNat, .int (iI p1), .int (iI p2), .int (iI p3)])).length) Slot.unset).toArray = ls at hl ⊢
  have hl : lv_has ls 7 [(0, .ref p0.toNat), (1, .int (iI p1)), (2, .int (iI p2)), (3, .int (iI p3))] := hl
  generalize hQ : MQ below (va_Qv (fun (u : (Int → Int → Int)) => (xI L K N u) ∧ (fr K [(60, (-1))] u v)) (fun u t => va_P (dC, dI) vwCl (xG L cid K N u) t.heap ∧ va_K (dC, dI) vwCl (xT cid) t ∧ va_D A (xG L cid K N u)) A) ([.ref p0.toNat, .int (iI p1), .int (iI p2), .int (iI p3)] : List Value).toArray s 0 0 A = Q
  suffices ST : ∀ (H : Heap) (locs : List Loc), va_P (dC, dI) vwCl (xG L cid K N v) H → va_S A s.heap H locs → W p l e ({ frames := 1, cells := 0, slots := 0, locals := 40 }) s m ([.ref p0.toNat, .int (iI p1), .int (iI p2), .int (iI p3)] : List Value).toArray below meth c H locs 0 0 Q (F0 m 0 ls []) from ST _ _ hP hS
  clear hP hS
  intro H locs hP hS
  refine lv_iload_n hx hb dX1_reachWith_0 rfl (lv_at hl 3 rfl) ?_
  refine lv_sipush (v := iI 128) hx hb dX1_reachWith_1 rfl ?_
  refine va_mmin hx hb (by rw [hml]; exact hl.1.symm) hown (hj _ m_879) (hj _ m_765) (hj _ m_762) (hj _ m_766) (Nat.le_of_ble_eq_true rfl) (Nat.le_of_ble_eq_true rfl) (Nat.le_of_ble_eq_true rfl) (Nat.le_of_ble_eq_true rfl) dX1_reachWith_4 ?_
  refine xm_min (by omega) (by omega) (fun z_1 h_2 => ?_)
  refine lv_iconst (v := iI 1) hx hb dX1_reachWith_7 rfl ?_
  refine xr_sub hx hb dX1_reachWith_8 ?_
  refine lv_istore (i := 4) (lv' := [(4, .int (iI (z_1 - 1))), (0, .ref p0.toNat), (1, .int (iI p1)), (2, .int (iI p2)), (3, .int (iI p3))]) hx hb dX1_reachWith_9 hl (by decide) rfl (fun ls hl => ?_)
  have L11 : ∀ (n11 : Nat) (a4_11 : Int) (vc11 : Int → Int → Int) (H : Heap) (locs : List Loc) (ls : Array Slot), (0 ≤ a4_11 ∧ a4_11 ≤ 127) → (0 < (n11 : Int) ∧ a4_11 < (n11 : Int)) → fr K [(60, (-1))] vc11 v → xI L K N vc11 → va_P (dC, dI) vwCl (xG L cid K N vc11) H → va_D A (xG L cid K N vc11) → va_S A s.heap H locs → lv_has ls 7 [(4, .int (iI a4_11)), (0, .ref p0.toNat), (1, .int (iI p1)), (2, .int (iI p2)), (3, .int (iI p3))] → W p l e ({ frames := 1, cells := 0, slots := 0, locals := 40 }) s m ([.ref p0.toNat, .int (iI p1), .int (iI p2), .int (iI p3)] : List Value).toArray below meth c H locs 0 0 Q (F0 m 11 ls []) := by
    intro n11
    induction n11 with
    | zero =>
      intro a4_11 vc11 H locs ls h_3 hm11 f_4 I_5 hP hD hS hl
      exfalso; omega
    | succ n11 ih11 =>
      intro a4_11 vc11 H locs ls h_6 hm11 f_7 I_8 hP hD hS hl
      refine lv_iload hx hb dX1_reachWith_11 (lv_at hl 0 rfl) ?_
      refine xr_if_le (tgt := 106) hx hb dX1_reachWith_13 (by decide) (by omega) (fun h_9 => ?_) (fun h_9 => ?_)
      · rw [← hQ]
        exact W.vret hx hb hr (fun t ht hW => ⟨⟨vc11, rfl, ⟨I_8, (fr_tr f_7 rfl fr_rf)⟩, by rw [ht]; exact hP, va_K.moved hW.alike hK, hD⟩, hS.F ht⟩) hS.2.2 dX1_reachWith_106
      · refine lv_iload hx hb dX1_reachWith_16 (lv_at hl 0 rfl) ?_
        refine lv_istore (i := 5) (lv' := [(5, .int (iI a4_11)), (4, .int (iI a4_11)), (0, .ref p0.toNat), (1, .int (iI p1)), (2, .int (iI p2)), (3, .int (iI p3))]) hx hb dX1_reachWith_18 hl (by decide) rfl (fun ls hl => ?_)
        have L20 : ∀ (n20 : Nat) (a5_20 : Int) (vc20 : Int → Int → Int) (H : Heap) (locs : List Loc) (ls : Array Slot), (0 ≤ a5_20 ∧ a5_20 ≤ 127) → (a5_20 ≤ a4_11) → (0 < (n20 : Int) ∧ a5_20 < (n20 : Int)) → fr K [(60, (-1))] vc20 vc11 → xI L K N vc20 → va_P (dC, dI) vwCl (xG L cid K N vc20) H → va_D A (xG L cid K N vc20) → va_S A s.heap H locs → lv_has ls 7 [(5, .int (iI a5_20)), (4, .int (iI a4_11)), (0, .ref p0.toNat), (1, .int (iI p1)), (2, .int (iI p2)), (3, .int (iI p3))] → W p l e ({ frames := 1, cells := 0, slots := 0, locals := 40 }) s m ([.ref p0.toNat, .int (iI p1), .int (iI p2), .int (iI p3)] : List Value).toArray below meth c H locs 0 0 Q (F0 m 20 ls []) := by
          intro n20
          induction n20 with
          | zero =>
            intro a5_20 vc20 H locs ls h_10 h_11 hm20 f_12 I_13 hP hD hS hl
            exfalso; omega
          | succ n20 ih20 =>
            intro a5_20 vc20 H locs ls h_14 h_15 hm20 f_16 I_17 hP hD hS hl
            refine lv_iload hx hb dX1_reachWith_20 (lv_at hl 0 rfl) ?_
            have J100 : ∀ (H : Heap) (locs : List Loc) (ls : Array Slot), va_P (dC, dI) vwCl (xG L cid K N vc20) H → va_D A (xG L cid K N vc20) → va_S A s.heap H locs → lv_has ls 7 [(5, .int (iI a5_20)), (4, .int (iI a4_11)), (0, .ref p0.toNat), (1, .int (iI p1)), (2, .int (iI p2)), (3, .int (iI p3))] → W p l e ({ frames := 1, cells := 0, slots := 0, locals := 40 }) s m ([.ref p0.toNat, .int (iI p1), .int (iI p2), .int (iI p3)] : List Value).toArray below meth c H locs 0 0 Q (F0 m 100 ls []) := by
              intro H locs ls hP hD hS hl
              refine lv_iinc (v := iI (a4_11 + (-1))) (lv' := [(4, .int (iI (a4_11 + (-1)))), (5, .int (iI a5_20)), (0, .ref p0.toNat), (1, .int (iI p1)), (2, .int (iI p2)), (3, .int (iI p3))]) hx hb dX1_reachWith_100 hl (k := 1) rfl (iI_add _ _) (by decide) rfl (fun ls hl => ?_)
              refine lv_goto (tgt := 11) hx hb dX1_reachWith_103 (by decide) ?_
              exact ih11 (a4_11 + (-1)) vc20 H locs ls (by omega) (by omega) (fr_tr f_16 rfl (fr_tr f_7 rfl fr_rf)) I_17 hP hD hS (lv_sub hl [0, 2, 3, 4, 5] rfl)
            refine xr_if_le (tgt := 100) hx hb dX1_reachWith_22 (by decide) (by omega) (fun h_18 => ?_) (fun h_18 => ?_)
            · exact J100 H locs ls hP hD hS hl
            · refine lv_aload_n hx hb dX1_reachWith_25 rfl (lv_at hl 2 rfl) ?_
              have h_19 : ok L K (v p0 9) 60 := xf_1_9 hI q0
              have h_20 : N (v p0 9) = 128 := xn_60 hI h_19
              refine gx_RX1_33 (y := v p0 9) hx hb hj hown hK hP q0 ((xf_1_9 I_17 q0).1) (((fr_use q0 f_16 rfl)).trans (fr_use q0 f_7 rfl)) dX1_reachWith_26 ?_
              refine lv_iload hx hb dX1_reachWith_29 (lv_at hl 1 rfl) ?_
              have h_21 : 0 ≤ vc20 (v p0 9) a4_11 ∧ vc20 (v p0 9) a4_11 ≤ 1 := xe_60 I_17 h_19 (by omega)
              refine ax_60 (y := vc20 (v p0 9) a4_11) hx hb hK hP h_19 (by omega) (by omega) (by omega) rfl dX1_reachWith_31 ?_
              refine xr_if_ne (tgt := 100) hx hb dX1_reachWith_32 (by decide) (by omega) (fun h_22 => ?_) (fun h_22 => ?_)
              · exact J100 H locs ls hP hD hS hl
              · refine lv_iload hx hb dX1_reachWith_35 (lv_at hl 0 rfl) ?_
                refine lv_iload_n hx hb dX1_reachWith_37 rfl (lv_at hl 3 rfl) ?_
                refine lv_iconst (v := iI (-1)) hx hb dX1_reachWith_38 rfl ?_
                refine lv_ixor hx hb dX1_reachWith_39 ?_
                refine xr_any (fun z_23 h_24 => ?_)
                refine xr_andL hx hb (by omega) (by omega) dX1_reachWith_40 (fun z_25 h_26 => ?_)
                have J60 : ∀ (s0_60 : Int) (H : Heap) (locs : List Loc) (ls : Array Slot), (0 ≤ s0_60 ∧ s0_60 ≤ 1) → va_P (dC, dI) vwCl (xG L cid K N vc20) H → va_D A (xG L cid K N vc20) → va_S A s.heap H locs → lv_has ls 7 [(5, .int (iI a5_20)), (4, .int (iI a4_11)), (0, .ref p0.toNat), (1, .int (iI p1)), (2, .int (iI p2)), (3, .int (iI p3))] → W p l e ({ frames := 1, cells := 0, slots := 0, locals := 40 }) s m ([.ref p0.toNat, .int (iI p1), .int (iI p2), .int (iI p3)] : List Value).toArray below meth c H locs 0 0 Q (F0 m 60 ls [.int (iI s0_60)]) := by
                  intro s0_60 H locs ls h_27 hP hD hS hl
                  refine lv_istore (i := 6) (lv' := [(6, .int (iI s0_60)), (5, .int (iI a5_20)), (4, .int (iI a4_11)), (0, .ref p0.toNat), (1, .int (iI p1)), (2, .int (iI p2)), (3, .int (iI p3))]) hx hb dX1_reachWith_60 hl (by decide) rfl (fun ls hl => ?_)
                  refine lv_iload hx hb dX1_reachWith_62 (lv_at hl 0 rfl) ?_
                  have J88 : ∀ (vc88 : Int → Int → Int) (H : Heap) (locs : List Loc) (ls : Array Slot), fr K [(60, (-1))] vc88 vc20 → xI L K N vc88 → va_P (dC, dI) vwCl (xG L cid K N vc88) H → va_D A (xG L cid K N vc88) → va_S A s.heap H locs → lv_has ls 7 [(6, .int (iI s0_60)), (5, .int (iI a5_20)), (4, .int (iI a4_11)), (0, .ref p0.toNat), (1, .int (iI p1)), (2, .int (iI p2)), (3, .int (iI p3))] → W p l e ({ frames := 1, cells := 0, slots := 0, locals := 40 }) s m ([.ref p0.toNat, .int (iI p1), .int (iI p2), .int (iI p3)] : List Value).toArray below meth c H locs 0 0 Q (F0 m 88 ls []) := by
                    intro vc88 H locs ls f_28 I_29 hP hD hS hl
                    refine lv_iload hx hb dX1_reachWith_88 (lv_at hl 1 rfl) ?_
                    refine lv_iconst (v := iI 1) hx hb dX1_reachWith_90 rfl ?_
                    refine xr_sub hx hb dX1_reachWith_91 ?_
                    refine lv_iload hx hb dX1_reachWith_92 (lv_at hl 2 rfl) ?_
                    refine xr_andB hx hb (by omega) (by omega) (by omega) (by omega) dX1_reachWith_94 (fun z_30 h_31 => ?_)
                    refine lv_istore (i := 5) (lv' := [(5, .int (iI z_30)), (6, .int (iI s0_60)), (4, .int (iI a4_11)), (0, .ref p0.toNat), (1, .int (iI p1)), (2, .int (iI p2)), (3, .int (iI p3))]) hx hb dX1_reachWith_95 hl (by decide) rfl (fun ls hl => ?_)
                    refine lv_goto (tgt := 20) hx hb dX1_reachWith_97 (by decide) ?_
                    exact ih20 z_30 vc88 H locs ls (by omega) (by omega) (by omega) (fr_tr f_28 rfl (fr_tr f_16 rfl fr_rf)) I_29 hP hD hS (lv_sub hl [0, 2, 3, 4, 5, 6] rfl)
                  refine xr_if_eq (tgt := 88) hx hb dX1_reachWith_64 (by decide) (by omega) (fun h_32 => ?_) (fun h_32 => ?_)
                  · exact J88 vc20 H locs ls fr_rf I_17 hP hD hS hl
                  · refine lv_aload_n hx hb dX1_reachWith_67 rfl (lv_at hl 3 rfl) ?_
                    refine gx_RX1_33 (y := v p0 9) hx hb hj hown hK hP q0 ((xf_1_9 I_17 q0).1) (((fr_use q0 f_16 rfl)).trans (fr_use q0 f_7 rfl)) dX1_reachWith_68 ?_
                    refine lv_iload hx hb dX1_reachWith_71 (lv_at hl 2 rfl) ?_
                    refine lv_iload hx hb dX1_reachWith_73 (lv_at hl 1 rfl) ?_
                    refine xr_xor hx hb (by omega) (by omega) (by omega) (by omega) dX1_reachWith_75 (fun z_33 h_34 => ?_)
                    have h_35 : 0 ≤ vc20 (v p0 9) z_33 ∧ vc20 (v p0 9) z_33 ≤ 1 := xe_60 I_17 h_19 (by omega)
                    refine ax_60 (y := vc20 (v p0 9) z_33) hx hb hK hP h_19 (by omega) (by omega) (by omega) rfl dX1_reachWith_76 ?_
                    refine xr_if_eq (tgt := 88) hx hb dX1_reachWith_77 (by decide) (by omega) (fun h_36 => ?_) (fun h_36 => ?_)
                    · exact J88 vc20 H locs ls fr_rf I_17 hP hD hS hl
                    · refine lv_aload_n hx hb dX1_reachWith_80 rfl (lv_at hl 3 rfl) ?_
                      refine gx_RX1_33 (y := v p0 9) hx hb hj hown hK hP q0 ((xf_1_9 I_17 q0).1) (((fr_use q0 f_16 rfl)).trans (fr_use q0 f_7 rfl)) dX1_reachWith_81 ?_
                      refine lv_iload hx hb dX1_reachWith_84 (lv_at hl 2 rfl) ?_
                      refine lv_iconst (v := iI 1) hx hb dX1_reachWith_86 rfl ?_
                      refine sx_60 (y := 1) hx hb hK hP hD hS I_17 h_19 (by omega) (by omega) (by omega) ⟨by omega, by omega⟩ dX1_reachWith_87 (fun v_37 H locs f_38 e_39 o_40 I_41 hP hD hS => ?_)
                      exact J88 v_37 H locs ls (fr_tr f_38 rfl fr_rf) I_41 hP hD hS hl
                have J59 : ∀ (H : Heap) (locs : List Loc) (ls : Array Slot), va_P (dC, dI) vwCl (xG L cid K N vc20) H → va_D A (xG L cid K N vc20) → va_S A s.heap H locs → lv_has ls 7 [(5, .int (iI a5_20)), (4, .int (iI a4_11)), (0, .ref p0.toNat), (1, .int (iI p1)), (2, .int (iI p2)), (3, .int (iI p3))] → W p l e ({ frames := 1, cells := 0, slots := 0, locals := 40 }) s m ([.ref p0.toNat, .int (iI p1), .int (iI p2), .int (iI p3)] : List Value).toArray below meth c H locs 0 0 Q (F0 m 59 ls []) := by
                  intro H locs ls hP hD hS hl
                  refine lv_iconst (v := iI 0) hx hb dX1_reachWith_59 rfl ?_
                  exact J60 0 H locs ls (by omega) hP hD hS hl
                refine xr_if_ne (tgt := 59) hx hb dX1_reachWith_41 (by decide) (by omega) (fun h_42 => ?_) (fun h_42 => ?_)
                · exact J59 H locs ls hP hD hS hl
                · refine lv_aload_n hx hb dX1_reachWith_44 rfl (lv_at hl 2 rfl) ?_
                  have h_43 : ok L K (v p0 8) 59 := xf_1_8 hI q0
                  have h_44 : N (v p0 8) = 128 := xn_59 hI h_43
                  refine gx_RX1_30 (y := v p0 8) hx hb hj hown hK hP q0 ((xf_1_8 I_17 q0).1) (((fr_use q0 f_16 rfl)).trans (fr_use q0 f_7 rfl)) dX1_reachWith_45 ?_
                  refine lv_iload hx hb dX1_reachWith_48 (lv_at hl 0 rfl) ?_
                  have h_45 : (-2147483648) ≤ v (v p0 8) a5_20 ∧ v (v p0 8) a5_20 ≤ 2147483647 := xe_59 hI h_43 (by omega)
                  refine ax_59 (y := v (v p0 8) a5_20) hx hb hK hP h_43 (by omega) (by omega) (by omega) (((fr_use h_43 f_16 rfl)).trans (fr_use h_43 f_7 rfl)) dX1_reachWith_50 ?_
                  refine lv_iload_n hx hb dX1_reachWith_51 rfl (lv_at hl 4 rfl) ?_
                  refine xr_icmp_gt (tgt := 59) hx hb dX1_reachWith_52 (by decide) (by omega) (by omega) (fun h_46 => ?_) (fun h_46 => ?_)
                  · exact J59 H locs ls hP hD hS hl
                  · refine lv_iconst (v := iI 1) hx hb dX1_reachWith_55 rfl ?_
                    refine lv_goto (tgt := 60) hx hb dX1_reachWith_56 (by decide) ?_
                    exact J60 1 H locs ls (by omega) hP hD hS hl
        exact L20 (((a4_11 : Int)).toNat + 1) a4_11 vc11 H locs ls (by omega) (by omega) (by omega) fr_rf I_8 hP hD hS hl
  exact L11 ((((z_1 - 1) : Int)).toNat + 1) (z_1 - 1) v H locs ls (by omega) (by omega) fr_rf hI hP hD hS hl
set_option maxHeartbeats 2000000 in
set_option maxRecDepth 100000 in
theorem sX1_sumLacks (l : Launch) (dC : Nat → ClassId) (dI : Nat → Nat → Nat) (sz : Nat) (L : List Nat) (cid : Nat → ClassId) (K : Int → Nat) (N : Int → Int) (tW : Nat) (sK sV : Nat → Nat) (v : Int → Int → Int) (p0 : Int) (p1 : Int) (p2 : Int) (hI : xI L K N v) (q0 : ok L K p0 1) (q1 : rg p1) (q2 : rg p2) : Met l yX1_sumLacks (jk yX1_sumLacks cX1_sumLacks 5 none) ({ frames := 1, cells := 0, slots := 0, locals := 21 }) (va_Pc [.ref p0.toNat, .int (iI p1), .int (iI p2)] (xP (dC, dI) (xG L cid K N v) (xT cid) tW sK sV sz)) (va_Qv (fun (u : (Int → Int → Int)) => (xI L K N u) ∧ (fr K [(59, (-1))] u v)) (fun u t => va_P (dC, dI) vwCl (xG L cid K N u) t.heap ∧ va_K (dC, dI) vwCl (xT cid) t ∧ va_D (va_A (xG L cid K N v) sz) (xG L cid K N u)) (va_A (xG L cid K N v) sz)) 0 0 (va_A (xG L cid K N v) sz) := by
  refine Met.ofW (cc := cX1_sumLacks) (maxL := 5) (ret := none) (by decide) rfl ?_
  intro p e s m args below meth c s₁ B hml hv
  obtain ⟨rfl, ⟨hsz, hP, hK, hD0⟩, hX⟩ := hv
  have hx := B.exec
  have hb := B.bytes
  have hr := B.returns
  have hts := atoms_spec (ws := (jk yX1_sumLacks cX1_sumLacks 5 none)) B.pre
  have hj : ∀ w ∈ jw, w.before ([.ref p0.toNat, .int (iI p1), .int (iI p2)] : List Value).toArray s = true := fun w h => hts w (jm h)
  have hown : s.vm.findClass RX1 = some m.cls := findClass_of_methodNamed B.named
  subst hsz
  have hD := hD0.self (sz := s.heap.size)
  generalize hAe : (va_A (xG L cid K N v) s.heap.size) = A at hD hX ⊢
  have hA : ∀ q : Nat, s.heap.size ≤ q → A q := fun q h => by rw [← hAe]; exact Or.inr h
  have hS : va_S A s.heap s.heap [] := va_S.rf
  have hXa := hX
  have hP : va_P (dC, dI) vwCl (xG L cid K N v) s.heap := hP
  have hl := lv_entry ([.ref p0.toNat, .int (iI p1), .int (iI p2)]) (n := 5) (Nat.le_of_ble_eq_true rfl)
  rw [lg_entry_eq]
  generalize (lg_sl ([.ref p0.toNat, .int (iI p1), .int (iI p2)]) ++ List.replicate (5 - (lg_sl ([.ref p0.toNat, .int (iI p1), .int (iI p2)])).length) Slot.unset).toArray = ls at hl ⊢
  have hl : lv_has ls 5 [(0, .ref p0.toNat), (1, .int (iI p1)), (2, .int (iI p2))] := hl
  generalize hQ : MQ below (va_Qv (fun (u : (Int → Int → Int)) => (xI L K N u) ∧ (fr K [(59, (-1))] u v)) (fun u t => va_P (dC, dI) vwCl (xG L cid K N u) t.heap ∧ va_K (dC, dI) vwCl (xT cid) t ∧ va_D A (xG L cid K N u)) A) ([.ref p0.toNat, .int (iI p1), .int (iI p2)] : List Value).toArray s 0 0 A = Q
  suffices ST : ∀ (H : Heap) (locs : List Loc), va_P (dC, dI) vwCl (xG L cid K N v) H → va_S A s.heap H locs → W p l e ({ frames := 1, cells := 0, slots := 0, locals := 21 }) s m ([.ref p0.toNat, .int (iI p1), .int (iI p2)] : List Value).toArray below meth c H locs 0 0 Q (F0 m 0 ls []) from ST _ _ hP hS
  clear hP hS
  intro H locs hP hS
  refine lv_aload_n hx hb dX1_sumLacks_0 rfl (lv_at hl 0 rfl) ?_
  have h_1 : ok L K (v p0 8) 59 := xf_1_8 hI q0
  have h_2 : N (v p0 8) = 128 := xn_59 hI h_1
  refine gx_RX1_30 (y := v p0 8) hx hb hj hown hK hP q0 ((xf_1_8 hI q0).1) rfl dX1_sumLacks_1 ?_
  refine lv_iconst (v := iI 0) hx hb dX1_sumLacks_4 rfl ?_
  refine lv_iconst (v := iI 0) hx hb dX1_sumLacks_5 rfl ?_
  refine sx_59 (y := 0) hx hb hK hP hD hS hI h_1 (by omega) (by omega) (by omega) ⟨by omega, by omega⟩ dX1_sumLacks_6 (fun v_3 H locs f_4 e_5 o_6 I_7 hP hD hS => ?_)
  refine lv_iconst (v := iI 1) hx hb dX1_sumLacks_7 rfl ?_
  refine lv_istore_n (i := 3) (lv' := [(3, .int (iI 1)), (0, .ref p0.toNat), (1, .int (iI p1)), (2, .int (iI p2))]) hx hb dX1_sumLacks_8 rfl hl (by decide) rfl (fun ls hl => ?_)
  have L9 : ∀ (n9 : Nat) (a3_9 : Int) (vc9 : Int → Int → Int) (H : Heap) (locs : List Loc) (ls : Array Slot), (1 ≤ a3_9 ∧ a3_9 ≤ 2147483647) → (0 < (n9 : Int) ∧ p2 - a3_9 < (n9 : Int)) → fr K [(59, (-1))] vc9 v_3 → xI L K N vc9 → va_P (dC, dI) vwCl (xG L cid K N vc9) H → va_D A (xG L cid K N vc9) → va_S A s.heap H locs → lv_has ls 5 [(3, .int (iI a3_9)), (0, .ref p0.toNat), (1, .int (iI p1)), (2, .int (iI p2))] → W p l e ({ frames := 1, cells := 0, slots := 0, locals := 21 }) s m ([.ref p0.toNat, .int (iI p1), .int (iI p2)] : List Value).toArray below meth c H locs 0 0 Q (F0 m 9 ls []) := by
    intro n9
    induction n9 with
    | zero =>
      intro a3_9 vc9 H locs ls h_8 hm9 f_9 I_10 hP hD hS hl
      exfalso; omega
    | succ n9 ih9 =>
      intro a3_9 vc9 H locs ls h_11 hm9 f_12 I_13 hP hD hS hl
      refine lv_iload_n hx hb dX1_sumLacks_9 rfl (lv_at hl 0 rfl) ?_
      refine lv_iload_n hx hb dX1_sumLacks_10 rfl (lv_at hl 3 rfl) ?_
      refine xr_icmp_ge (tgt := 75) hx hb dX1_sumLacks_11 (by decide) (by omega) (by omega) (fun h_14 => ?_) (fun h_14 => ?_)
      · rw [← hQ]
        exact W.vret hx hb hr (fun t ht hW => ⟨⟨vc9, rfl, ⟨I_13, (fr_tr f_12 rfl (fr_tr f_4 rfl fr_rf))⟩, by rw [ht]; exact hP, va_K.moved hW.alike hK, hD⟩, hS.F ht⟩) hS.2.2 dX1_sumLacks_75
      · refine lv_iload_n hx hb dX1_sumLacks_14 rfl (lv_at hl 0 rfl) ?_
        refine lv_sipush (v := iI 128) hx hb dX1_sumLacks_15 rfl ?_
        refine xr_icmp_ge (tgt := 75) hx hb dX1_sumLacks_18 (by decide) (by omega) (by omega) (fun h_15 => ?_) (fun h_15 => ?_)
        · rw [← hQ]
          exact W.vret hx hb hr (fun t ht hW => ⟨⟨vc9, rfl, ⟨I_13, (fr_tr f_12 rfl (fr_tr f_4 rfl fr_rf))⟩, by rw [ht]; exact hP, va_K.moved hW.alike hK, hD⟩, hS.F ht⟩) hS.2.2 dX1_sumLacks_75
        · refine lv_iload_n hx hb dX1_sumLacks_21 rfl (lv_at hl 2 rfl) ?_
          refine lv_iload_n hx hb dX1_sumLacks_22 rfl (lv_at hl 0 rfl) ?_
          refine jc_i (va_runS (As := [.int (iI a3_9)]) (rest := [.int (iI p1)]) ⟨hx, hb, hml, hown, hts⟩ (sJ6_numberOfTrailingZeros_0f7a4 l dC dI _ a3_9 (by omega)) (va_cwS 1 hts (jgoodS m_880 m_881 m_882 m_883) rfl rfl rfl (by decide +kernel) ⟨(Nat.le_of_ble_eq_true rfl), (Nat.le_of_ble_eq_true rfl)⟩) ⟨jw_blind0, fun U hU hW => ⟨rfl, congrArg Array.size hU⟩⟩ rfl rfl hl.1 rfl (lv_room (Nat.le_of_ble_eq_true rfl)) dX1_sumLacks_23 ⟨(Nat.le_of_ble_eq_true rfl), (Nat.le_of_ble_eq_true rfl)⟩) hP hS hA (fun r_16 H locs w_17 hP hS => ?_)
          obtain ⟨z_18, rfl, h_19⟩ := w_17
          refine xr_add hx hb dX1_sumLacks_26 ?_
          refine xr_kept (fun z_20 h_21 h_22 => ?_)
          refine lv_istore (i := 4) (lv' := [(4, .int (iI z_20)), (3, .int (iI a3_9)), (0, .ref p0.toNat), (1, .int (iI p1)), (2, .int (iI p2))]) hx hb dX1_sumLacks_27 hl (by decide) rfl (fun ls hl => ?_)
          refine lv_aload_n hx hb dX1_sumLacks_29 rfl (lv_at hl 2 rfl) ?_
          refine gx_RX1_30 (y := v p0 8) hx hb hj hown hK hP q0 ((xf_1_8 I_13 q0).1) (((fr_use q0 f_12 rfl)).trans (fr_use q0 f_4 rfl)) dX1_sumLacks_30 ?_
          refine lv_iload_n hx hb dX1_sumLacks_33 rfl (lv_at hl 1 rfl) ?_
          refine lv_aload_n hx hb dX1_sumLacks_34 rfl (lv_at hl 2 rfl) ?_
          refine gx_RX1_30 (y := v p0 8) hx hb hj hown hK hP q0 ((xf_1_8 I_13 q0).1) (((fr_use q0 f_12 rfl)).trans (fr_use q0 f_4 rfl)) dX1_sumLacks_35 ?_
          refine lv_iload_n hx hb dX1_sumLacks_38 rfl (lv_at hl 1 rfl) ?_
          refine lv_iload_n hx hb dX1_sumLacks_39 rfl (lv_at hl 1 rfl) ?_
          refine lv_iconst (v := iI 1) hx hb dX1_sumLacks_40 rfl ?_
          refine xr_sub hx hb dX1_sumLacks_41 ?_
          refine xr_andB hx hb (by omega) (by omega) (by omega) (by omega) dX1_sumLacks_42 (fun z_23 h_24 => ?_)
          have h_25 : (-2147483648) ≤ vc9 (v p0 8) z_23 ∧ vc9 (v p0 8) z_23 ≤ 2147483647 := xe_59 I_13 h_1 (by omega)
          refine ax_59 (y := vc9 (v p0 8) z_23) hx hb hK hP h_1 (by omega) (by omega) (by omega) rfl dX1_sumLacks_43 ?_
          refine lv_iload hx hb dX1_sumLacks_44 (lv_at hl 0 rfl) ?_
          have J67 : ∀ (s0_67 : Int) (H : Heap) (locs : List Loc) (ls : Array Slot), ((-2147483648) ≤ s0_67 ∧ s0_67 ≤ 2147483647) → va_P (dC, dI) vwCl (xG L cid K N vc9) H → va_D A (xG L cid K N vc9) → va_S A s.heap H locs → lv_has ls 5 [(4, .int (iI z_20)), (3, .int (iI a3_9)), (0, .ref p0.toNat), (1, .int (iI p1)), (2, .int (iI p2))] → W p l e ({ frames := 1, cells := 0, slots := 0, locals := 21 }) s m ([.ref p0.toNat, .int (iI p1), .int (iI p2)] : List Value).toArray below meth c H locs 0 0 Q (F0 m 67 ls [.int (iI s0_67), .int (iI (vc9 (v p0 8) z_23)), .int (iI a3_9), .ref (v p0 8).toNat]) := by
            intro s0_67 H locs ls h_26 hP hD hS hl
            refine xr_add hx hb dX1_sumLacks_67 ?_
            refine xr_kept (fun z_27 h_28 h_29 => ?_)
            refine sx_59 (y := z_27) hx hb hK hP hD hS I_13 h_1 (by omega) (by omega) (by omega) ⟨by omega, by omega⟩ dX1_sumLacks_68 (fun v_30 H locs f_31 e_32 o_33 I_34 hP hD hS => ?_)
            refine lv_iinc (v := iI (a3_9 + 1)) (lv' := [(3, .int (iI (a3_9 + 1))), (4, .int (iI z_20)), (0, .ref p0.toNat), (1, .int (iI p1)), (2, .int (iI p2))]) hx hb dX1_sumLacks_69 hl (k := 1) rfl (iI_add _ _) (by decide) rfl (fun ls hl => ?_)
            refine lv_goto (tgt := 9) hx hb dX1_sumLacks_72 (by decide) ?_
            exact ih9 (a3_9 + 1) v_30 H locs ls (by omega) (by omega) (fr_tr f_31 rfl (fr_tr f_12 rfl fr_rf)) I_34 hP hD hS (lv_sub hl [0, 2, 3, 4] rfl)
          have J66 : ∀ (H : Heap) (locs : List Loc) (ls : Array Slot), va_P (dC, dI) vwCl (xG L cid K N vc9) H → va_D A (xG L cid K N vc9) → va_S A s.heap H locs → lv_has ls 5 [(4, .int (iI z_20)), (3, .int (iI a3_9)), (0, .ref p0.toNat), (1, .int (iI p1)), (2, .int (iI p2))] → W p l e ({ frames := 1, cells := 0, slots := 0, locals := 21 }) s m ([.ref p0.toNat, .int (iI p1), .int (iI p2)] : List Value).toArray below meth c H locs 0 0 Q (F0 m 66 ls [.int (iI (vc9 (v p0 8) z_23)), .int (iI a3_9), .ref (v p0 8).toNat]) := by
            intro H locs ls hP hD hS hl
            refine lv_iconst (v := iI 0) hx hb dX1_sumLacks_66 rfl ?_
            exact J67 0 H locs ls (by omega) hP hD hS hl
          refine xr_if_lt (tgt := 66) hx hb dX1_sumLacks_46 (by decide) (by omega) (fun h_35 => ?_) (fun h_35 => ?_)
          · exact J66 H locs ls hP hD hS hl
          · refine lv_iload hx hb dX1_sumLacks_49 (lv_at hl 0 rfl) ?_
            refine lv_bipush (v := iI 7) hx hb dX1_sumLacks_51 rfl ?_
            refine xr_icmp_ge (tgt := 66) hx hb dX1_sumLacks_53 (by decide) (by omega) (by omega) (fun h_36 => ?_) (fun h_36 => ?_)
            · exact J66 H locs ls hP hD hS hl
            · refine lv_aload_n hx hb dX1_sumLacks_56 rfl (lv_at hl 2 rfl) ?_
              have h_37 : ok L K (v p0 1) 54 := xf_1_1 hI q0
              have h_38 : N (v p0 1) = 7 := xn_54 hI h_37
              refine gx_RX1_15 (y := v p0 1) hx hb hj hown hK hP q0 ((xf_1_1 I_13 q0).1) (((fr_use q0 f_12 rfl)).trans (fr_use q0 f_4 rfl)) dX1_sumLacks_57 ?_
              refine lv_iload hx hb dX1_sumLacks_60 (lv_at hl 0 rfl) ?_
              have h_39 : (-2147483648) ≤ v (v p0 1) z_20 ∧ v (v p0 1) z_20 ≤ 2147483647 := xe_54 hI h_37 (by omega)
              refine ax_54 (y := v (v p0 1) z_20) hx hb hK hP h_37 (by omega) (by omega) (by omega) (((fr_use h_37 f_12 rfl)).trans (fr_use h_37 f_4 rfl)) dX1_sumLacks_62 ?_
              refine lv_goto (tgt := 67) hx hb dX1_sumLacks_63 (by decide) ?_
              exact J67 (v (v p0 1) z_20) H locs ls (by omega) hP hD hS hl
  exact L9 (((p2 - 1 : Int)).toNat + 1) 1 v_3 H locs ls (by omega) (by omega) fr_rf I_7 hP hD hS hl
set_option maxHeartbeats 2000000 in
set_option maxRecDepth 100000 in
theorem sX1_bestFrom (l : Launch) (dC : Nat → ClassId) (dI : Nat → Nat → Nat) (sz : Nat) (L : List Nat) (cid : Nat → ClassId) (K : Int → Nat) (N : Int → Int) (tW : Nat) (sK sV : Nat → Nat) (v : Int → Int → Int) (p0 : Int) (p1 : Int) (hI : xI L K N v) (q0 : ok L K p0 1) (q1 : rg p1) (k1 : 0 ≤ p1 ∧ p1 ≤ 7) : Met l yX1_bestFrom (jk yX1_bestFrom cX1_bestFrom 6 (some .int)) ({ frames := 2, cells := 0, slots := 0, locals := 66 }) (va_Pc [.ref p0.toNat, .int (iI p1)] (xP (dC, dI) (xG L cid K N v) (xT cid) tW sK sV sz)) (va_Qi (fun (r : Int32) (u : (Int → Int → Int)) => ∃ z : Int, r = iI z ∧ (xI L K N u) ∧ (fr K [(59, (-1)), (60, (-1))] u v) ∧ (rg z)) (fun u t => va_P (dC, dI) vwCl (xG L cid K N u) t.heap ∧ va_K (dC, dI) vwCl (xT cid) t ∧ va_D (va_A (xG L cid K N v) sz) (xG L cid K N u)) (va_A (xG L cid K N v) sz)) 0 0 (va_A (xG L cid K N v) sz) := by
  refine Met.ofW (cc := cX1_bestFrom) (maxL := 6) (ret := (some .int)) (by decide) rfl ?_
  intro p e s m args below meth c s₁ B hml hv
  obtain ⟨rfl, ⟨hsz, hP, hK, hD0⟩, hX⟩ := hv
  have hx := B.exec
  have hb := B.bytes
  have hr := B.returns
  have hts := atoms_spec (ws := (jk yX1_bestFrom cX1_bestFrom 6 (some .int))) B.pre
  have hj : ∀ w ∈ jw, w.before ([.ref p0.toNat, .int (iI p1)] : List Value).toArray s = true := fun w h => hts w (jm h)
  have hown : s.vm.findClass RX1 = some m.cls := findClass_of_methodNamed B.named
  subst hsz
  have hD := hD0.self (sz := s.heap.size)
  generalize hAe : (va_A (xG L cid K N v) s.heap.size) = A at hD hX ⊢
  have hA : ∀ q : Nat, s.heap.size ≤ q → A q := fun q h => by rw [← hAe]; exact Or.inr h
  have hS : va_S A s.heap s.heap [] := va_S.rf
  have hXa := hX
  have hP : va_P (dC, dI) vwCl (xG L cid K N v) s.heap := hP
  have hl := lv_entry ([.ref p0.toNat, .int (iI p1)]) (n := 6) (Nat.le_of_ble_eq_true rfl)
  rw [lg_entry_eq]
  generalize (lg_sl ([.ref p0.toNat, .int (iI p1)]) ++ List.replicate (6 - (lg_sl ([.ref p0.toNat, .int (iI p1)])).length) Slot.unset).toArray = ls at hl ⊢
  have hl : lv_has ls 6 [(0, .ref p0.toNat), (1, .int (iI p1))] := hl
  generalize hQ : MQ below (va_Qi (fun (r : Int32) (u : (Int → Int → Int)) => ∃ z : Int, r = iI z ∧ (xI L K N u) ∧ (fr K [(59, (-1)), (60, (-1))] u v) ∧ (rg z)) (fun u t => va_P (dC, dI) vwCl (xG L cid K N u) t.heap ∧ va_K (dC, dI) vwCl (xT cid) t ∧ va_D A (xG L cid K N u)) A) ([.ref p0.toNat, .int (iI p1)] : List Value).toArray s 0 0 A = Q
  suffices ST : ∀ (H : Heap) (locs : List Loc), va_P (dC, dI) vwCl (xG L cid K N v) H → va_S A s.heap H locs → W p l e ({ frames := 2, cells := 0, slots := 0, locals := 66 }) s m ([.ref p0.toNat, .int (iI p1)] : List Value).toArray below meth c H locs 0 0 Q (F0 m 0 ls []) from ST _ _ hP hS
  clear hP hS
  intro H locs hP hS
  refine lv_iconst (v := iI 0) hx hb dX1_bestFrom_0 rfl ?_
  refine lv_bipush (v := iI 7) hx hb dX1_bestFrom_1 rfl ?_
  refine lv_aload_n hx hb dX1_bestFrom_3 rfl (lv_at hl 0 rfl) ?_
  have h_1 : 0 ≤ v p0 3 ∧ v p0 3 ≤ 7 := xf_1_3 hI q0
  refine gx_RX1_37 (y := v p0 3) hx hb hj hown hK hP q0 rfl dX1_bestFrom_4 ?_
  refine va_mmin hx hb (by rw [hml]; exact hl.1.symm) hown (hj _ m_879) (hj _ m_765) (hj _ m_762) (hj _ m_766) (Nat.le_of_ble_eq_true rfl) (Nat.le_of_ble_eq_true rfl) (Nat.le_of_ble_eq_true rfl) (Nat.le_of_ble_eq_true rfl) dX1_bestFrom_7 ?_
  refine xm_min (by omega) (by omega) (fun z_2 h_3 => ?_)
  refine lv_iload_n hx hb dX1_bestFrom_10 rfl (lv_at hl 1 rfl) ?_
  refine xr_sub hx hb dX1_bestFrom_11 ?_
  refine va_mmax hx hb (by rw [hml]; exact hl.1.symm) hown (hj _ m_884) (hj _ m_761) (hj _ m_762) (hj _ m_763) (Nat.le_of_ble_eq_true rfl) (Nat.le_of_ble_eq_true rfl) (Nat.le_of_ble_eq_true rfl) (Nat.le_of_ble_eq_true rfl) dX1_bestFrom_12 ?_
  refine xm_max (by omega) (by omega) (fun z_4 h_5 => ?_)
  refine lv_istore_n (i := 2) (lv' := [(2, .int (iI z_4)), (0, .ref p0.toNat), (1, .int (iI p1))]) hx hb dX1_bestFrom_15 rfl hl (by decide) rfl (fun ls hl => ?_)
  refine lv_sipush (v := iI 128) hx hb dX1_bestFrom_16 rfl ?_
  refine lv_iconst (v := iI 1) hx hb dX1_bestFrom_19 rfl ?_
  refine lv_iload_n hx hb dX1_bestFrom_20 rfl (lv_at hl 0 rfl) ?_
  refine xr_shl1 hx hb (by omega) (by omega) dX1_bestFrom_21 (fun z_6 h_7 => ?_)
  refine va_mmin hx hb (by rw [hml]; exact hl.1.symm) hown (hj _ m_879) (hj _ m_765) (hj _ m_762) (hj _ m_766) (Nat.le_of_ble_eq_true rfl) (Nat.le_of_ble_eq_true rfl) (Nat.le_of_ble_eq_true rfl) (Nat.le_of_ble_eq_true rfl) dX1_bestFrom_22 ?_
  refine xm_min (by omega) (by omega) (fun z_8 h_9 => ?_)
  refine lv_istore_n (i := 3) (lv' := [(3, .int (iI z_8)), (2, .int (iI z_4)), (0, .ref p0.toNat), (1, .int (iI p1))]) hx hb dX1_bestFrom_25 rfl hl (by decide) rfl (fun ls hl => ?_)
  refine lv_aload_n hx hb dX1_bestFrom_26 rfl (lv_at hl 2 rfl) ?_
  refine lv_iload_n hx hb dX1_bestFrom_27 rfl (lv_at hl 3 rfl) ?_
  refine lv_iload_n hx hb dX1_bestFrom_28 rfl (lv_at hl 0 rfl) ?_
  refine jcg_v (va_runV (As := [.int (iI p1), .int (iI z_8)]) (rest := []) ⟨hx, hb, hml, hown, hts⟩ (sX1_sumLacks l dC dI _ L cid K N tW sK sV v p0 p1 z_8 hI q0 (by omega) (by omega)) (cwV 2 hts (jgoodV m_885 m_886 m_887 m_888 m_889) rfl rfl rfl (by decide +kernel) ⟨(Nat.le_of_ble_eq_true rfl), (Nat.le_of_ble_eq_true rfl)⟩) ⟨xP_blind, xrecv hK hP q0 rfl rfl, fun U hU hW => ⟨rfl, xP_of hU hW hP hK hD hX hS (fun _ h => h) hA⟩⟩ rfl rfl hl.1 rfl (lv_room (Nat.le_of_ble_eq_true rfl)) dX1_bestFrom_29 ⟨(Nat.le_of_ble_eq_true rfl), (Nat.le_of_ble_eq_true rfl)⟩) hD hS hA (fun v_13 H locs w_11 hP hK hD hS => ?_)
  obtain ⟨I_15, f_14⟩ := w_11
  have hP : va_P (dC, dI) vwCl (xG L cid K N v_13) H := hP
  have hD : va_D A (xG L cid K N v_13) := hD
  refine lv_iconst (v := iI 0) hx hb dX1_bestFrom_32 rfl ?_
  refine lv_istore (i := 4) (lv' := [(4, .int (iI 0)), (3, .int (iI z_8)), (2, .int (iI z_4)), (0, .ref p0.toNat), (1, .int (iI p1))]) hx hb dX1_bestFrom_33 hl (by decide) rfl (fun ls hl => ?_)
  have L35 : ∀ (n35 : Nat) (a4_35 : Int) (vc35 : Int → Int → Int) (H : Heap) (locs : List Loc) (ls : Array Slot), (0 ≤ a4_35 ∧ a4_35 ≤ 2147483647) → (0 < (n35 : Int) ∧ 128 - a4_35 < (n35 : Int)) → fr K [(60, (-1))] vc35 v_13 → xI L K N vc35 → va_P (dC, dI) vwCl (xG L cid K N vc35) H → va_D A (xG L cid K N vc35) → va_S A s.heap H locs → lv_has ls 6 [(4, .int (iI a4_35)), (3, .int (iI z_8)), (2, .int (iI z_4)), (0, .ref p0.toNat), (1, .int (iI p1))] → W p l e ({ frames := 2, cells := 0, slots := 0, locals := 66 }) s m ([.ref p0.toNat, .int (iI p1)] : List Value).toArray below meth c H locs 0 0 Q (F0 m 35 ls []) := by
    intro n35
    induction n35 with
    | zero =>
      intro a4_35 vc35 H locs ls h_16 hm35 f_17 I_18 hP hD hS hl
      exfalso; omega
    | succ n35 ih35 =>
      intro a4_35 vc35 H locs ls h_19 hm35 f_20 I_21 hP hD hS hl
      refine lv_iload hx hb dX1_bestFrom_35 (lv_at hl 0 rfl) ?_
      refine lv_sipush (v := iI 128) hx hb dX1_bestFrom_37 rfl ?_
      refine xr_icmp_ge (tgt := 66) hx hb dX1_bestFrom_40 (by decide) (by omega) (by omega) (fun h_22 => ?_) (fun h_22 => ?_)
      · refine lv_iconst (v := iI 0) hx hb dX1_bestFrom_66 rfl ?_
        refine lv_istore (i := 4) (lv' := [(4, .int (iI 0)), (3, .int (iI z_8)), (2, .int (iI z_4)), (0, .ref p0.toNat), (1, .int (iI p1))]) hx hb dX1_bestFrom_67 hl (by decide) rfl (fun ls hl => ?_)
        have L69 : ∀ (n69 : Nat) (a4_69 : Int) (vc69 : Int → Int → Int) (H : Heap) (locs : List Loc) (ls : Array Slot), (0 ≤ a4_69 ∧ a4_69 ≤ 2147483647) → (0 < (n69 : Int) ∧ (v p0 7) - a4_69 < (n69 : Int)) → fr K [(60, (-1))] vc69 vc35 → xI L K N vc69 → va_P (dC, dI) vwCl (xG L cid K N vc69) H → va_D A (xG L cid K N vc69) → va_S A s.heap H locs → lv_has ls 6 [(4, .int (iI a4_69)), (3, .int (iI z_8)), (2, .int (iI z_4)), (0, .ref p0.toNat), (1, .int (iI p1))] → W p l e ({ frames := 2, cells := 0, slots := 0, locals := 66 }) s m ([.ref p0.toNat, .int (iI p1)] : List Value).toArray below meth c H locs 0 0 Q (F0 m 69 ls []) := by
          intro n69
          induction n69 with
          | zero =>
            intro a4_69 vc69 H locs ls h_23 hm69 f_24 I_25 hP hD hS hl
            exfalso; omega
          | succ n69 ih69 =>
            intro a4_69 vc69 H locs ls h_26 hm69 f_27 I_28 hP hD hS hl
            refine lv_iload hx hb dX1_bestFrom_69 (lv_at hl 0 rfl) ?_
            refine lv_aload_n hx hb dX1_bestFrom_71 rfl (lv_at hl 3 rfl) ?_
            have h_29 : 0 ≤ v p0 7 ∧ v p0 7 ≤ 6 := xf_1_7 hI q0
            refine gx_RX1_41 (y := v p0 7) hx hb hj hown hK hP q0 (((fr_use q0 f_27 rfl)).trans (((fr_use q0 f_20 rfl)).trans (fr_use q0 f_14 rfl))) dX1_bestFrom_72 ?_
            refine xr_icmp_ge (tgt := 112) hx hb dX1_bestFrom_75 (by decide) (by omega) (by omega) (fun h_30 => ?_) (fun h_30 => ?_)
            · refine lv_iconst (v := iI 0) hx hb dX1_bestFrom_112 rfl ?_
              refine lv_istore (i := 4) (lv' := [(4, .int (iI 0)), (3, .int (iI z_8)), (2, .int (iI z_4)), (0, .ref p0.toNat), (1, .int (iI p1))]) hx hb dX1_bestFrom_113 hl (by decide) rfl (fun ls hl => ?_)
              refine lv_iconst (v := iI 0) hx hb dX1_bestFrom_115 rfl ?_
              refine lv_istore (i := 5) (lv' := [(5, .int (iI 0)), (4, .int (iI 0)), (3, .int (iI z_8)), (2, .int (iI z_4)), (0, .ref p0.toNat), (1, .int (iI p1))]) hx hb dX1_bestFrom_116 hl (by decide) rfl (fun ls hl => ?_)
              have L118 : ∀ (n118 : Nat) (a5_118 a4_118 : Int) (H : Heap) (locs : List Loc) (ls : Array Slot), (0 ≤ a5_118 ∧ a5_118 ≤ 2147483647) → (0 ≤ a4_118 ∧ a4_118 ≤ 2147483647) → (0 < (n118 : Int) ∧ z_8 - a5_118 < (n118 : Int)) → va_P (dC, dI) vwCl (xG L cid K N vc69) H → va_D A (xG L cid K N vc69) → va_S A s.heap H locs → lv_has ls 6 [(5, .int (iI a5_118)), (4, .int (iI a4_118)), (3, .int (iI z_8)), (2, .int (iI z_4)), (0, .ref p0.toNat), (1, .int (iI p1))] → W p l e ({ frames := 2, cells := 0, slots := 0, locals := 66 }) s m ([.ref p0.toNat, .int (iI p1)] : List Value).toArray below meth c H locs 0 0 Q (F0 m 118 ls []) := by
                intro n118
                induction n118 with
                | zero =>
                  intro a5_118 a4_118 H locs ls h_31 h_32 hm118 hP hD hS hl
                  exfalso; omega
                | succ n118 ih118 =>
                  intro a5_118 a4_118 H locs ls h_33 h_34 hm118 hP hD hS hl
                  refine lv_iload hx hb dX1_bestFrom_118 (lv_at hl 0 rfl) ?_
                  refine lv_iload_n hx hb dX1_bestFrom_120 rfl (lv_at hl 2 rfl) ?_
                  refine xr_icmp_ge (tgt := 172) hx hb dX1_bestFrom_121 (by decide) (by omega) (by omega) (fun h_35 => ?_) (fun h_35 => ?_)
                  · refine lv_iload hx hb dX1_bestFrom_172 (lv_at hl 1 rfl) ?_
                    rw [← hQ]
                    exact W.iret (v := iI a4_118) hx hb hr (fun t ht hW => ⟨⟨iI a4_118, vc69, rfl, ⟨a4_118, rfl, I_28, (fr_tr f_27 rfl (fr_tr f_20 rfl (fr_tr f_14 rfl fr_rf))), by omega⟩, by rw [ht]; exact hP, va_K.moved hW.alike hK, hD⟩, hS.F ht⟩) hS.2.2 dX1_bestFrom_174
                  · refine lv_iload hx hb dX1_bestFrom_124 (lv_at hl 0 rfl) ?_
                    refine lv_sipush (v := iI 128) hx hb dX1_bestFrom_126 rfl ?_
                    refine xr_icmp_ge (tgt := 172) hx hb dX1_bestFrom_129 (by decide) (by omega) (by omega) (fun h_36 => ?_) (fun h_36 => ?_)
                    · exfalso; omega
                    · refine lv_aload_n hx hb dX1_bestFrom_132 rfl (lv_at hl 4 rfl) ?_
                      have h_37 : ok L K (v p0 9) 60 := xf_1_9 hI q0
                      have h_38 : N (v p0 9) = 128 := xn_60 hI h_37
                      refine gx_RX1_33 (y := v p0 9) hx hb hj hown hK hP q0 ((xf_1_9 I_28 q0).1) (((fr_use q0 f_27 rfl)).trans (((fr_use q0 f_20 rfl)).trans (fr_use q0 f_14 rfl))) dX1_bestFrom_133 ?_
                      refine lv_iload hx hb dX1_bestFrom_136 (lv_at hl 0 rfl) ?_
                      have h_39 : 0 ≤ vc69 (v p0 9) a5_118 ∧ vc69 (v p0 9) a5_118 ≤ 1 := xe_60 I_28 h_37 (by omega)
                      refine ax_60 (y := vc69 (v p0 9) a5_118) hx hb hK hP h_37 (by omega) (by omega) (by omega) rfl dX1_bestFrom_138 ?_
                      have J166 : ∀ (a4_166 : Int) (H : Heap) (locs : List Loc) (ls : Array Slot), (0 ≤ a4_166 ∧ a4_166 ≤ 2147483647) → va_P (dC, dI) vwCl (xG L cid K N vc69) H → va_D A (xG L cid K N vc69) → va_S A s.heap H locs → lv_has ls 6 [(5, .int (iI a5_118)), (4, .int (iI a4_166)), (3, .int (iI z_8)), (2, .int (iI z_4)), (0, .ref p0.toNat), (1, .int (iI p1))] → W p l e ({ frames := 2, cells := 0, slots := 0, locals := 66 }) s m ([.ref p0.toNat, .int (iI p1)] : List Value).toArray below meth c H locs 0 0 Q (F0 m 166 ls []) := by
                        intro a4_166 H locs ls h_40 hP hD hS hl
                        refine lv_iinc (v := iI (a5_118 + 1)) (lv' := [(5, .int (iI (a5_118 + 1))), (4, .int (iI a4_166)), (3, .int (iI z_8)), (2, .int (iI z_4)), (0, .ref p0.toNat), (1, .int (iI p1))]) hx hb dX1_bestFrom_166 hl (k := 0) rfl (iI_add _ _) (by decide) rfl (fun ls hl => ?_)
                        refine lv_goto (tgt := 118) hx hb dX1_bestFrom_169 (by decide) ?_
                        exact ih118 (a5_118 + 1) a4_166 H locs ls (by omega) (by omega) (by omega) hP hD hS hl
                      refine xr_if_eq (tgt := 166) hx hb dX1_bestFrom_139 (by decide) (by omega) (fun h_41 => ?_) (fun h_41 => ?_)
                      · exact J166 a4_118 H locs ls (by omega) hP hD hS hl
                      · refine lv_iload hx hb dX1_bestFrom_142 (lv_at hl 1 rfl) ?_
                        refine lv_sipush (v := iI 10000) hx hb dX1_bestFrom_144 rfl ?_
                        refine lv_iload hx hb dX1_bestFrom_147 (lv_at hl 0 rfl) ?_
                        refine jc_i (va_runS (As := [.int (iI a5_118)]) (rest := [.int (iI 10000), .int (iI a4_118)]) ⟨hx, hb, hml, hown, hts⟩ (sJ6_bitCount_0f7a4 l dC dI _ a5_118 (by omega)) (va_cwS 1 hts (jgoodS m_890 m_891 m_882 m_892) rfl rfl rfl (by decide +kernel) ⟨(Nat.le_of_ble_eq_true rfl), (Nat.le_of_ble_eq_true rfl)⟩) ⟨jw_blind0, fun U hU hW => ⟨rfl, congrArg Array.size hU⟩⟩ rfl rfl hl.1 rfl (lv_room (Nat.le_of_ble_eq_true rfl)) dX1_bestFrom_149 ⟨(Nat.le_of_ble_eq_true rfl), (Nat.le_of_ble_eq_true rfl)⟩) hP hS hA (fun r_42 H locs w_43 hP hS => ?_)
                        obtain ⟨z_44, rfl, h_45⟩ := w_43
                        refine xr_mul hx hb dX1_bestFrom_152 ?_
                        refine xr_kept (fun z_46 h_47 h_48 => ?_)
                        clear h_48
                        refine lv_aload_n hx hb dX1_bestFrom_153 rfl (lv_at hl 4 rfl) ?_
                        have h_49 : ok L K (v p0 8) 59 := xf_1_8 hI q0
                        have h_50 : N (v p0 8) = 128 := xn_59 hI h_49
                        refine gx_RX1_30 (y := v p0 8) hx hb hj hown hK hP q0 ((xf_1_8 I_28 q0).1) (((fr_use q0 f_27 rfl)).trans (((fr_use q0 f_20 rfl)).trans (fr_use q0 f_14 rfl))) dX1_bestFrom_154 ?_
                        refine lv_iload hx hb dX1_bestFrom_157 (lv_at hl 0 rfl) ?_
                        have h_51 : (-2147483648) ≤ v_13 (v p0 8) a5_118 ∧ v_13 (v p0 8) a5_118 ≤ 2147483647 := xe_59 I_15 h_49 (by omega)
                        refine ax_59 (y := v_13 (v p0 8) a5_118) hx hb hK hP h_49 (by omega) (by omega) (by omega) (((fr_use h_49 f_27 rfl)).trans (fr_use h_49 f_20 rfl)) dX1_bestFrom_159 ?_
                        refine xr_sub hx hb dX1_bestFrom_160 ?_
                        refine xr_kept (fun z_52 h_53 h_54 => ?_)
                        refine va_mmax hx hb (by rw [hml]; exact hl.1.symm) hown (hj _ m_884) (hj _ m_761) (hj _ m_762) (hj _ m_763) (Nat.le_of_ble_eq_true rfl) (Nat.le_of_ble_eq_true rfl) (Nat.le_of_ble_eq_true rfl) (Nat.le_of_ble_eq_true rfl) dX1_bestFrom_161 ?_
                        refine xm_max (by omega) (by omega) (fun z_55 h_56 => ?_)
                        refine lv_istore (i := 4) (lv' := [(4, .int (iI z_55)), (5, .int (iI a5_118)), (3, .int (iI z_8)), (2, .int (iI z_4)), (0, .ref p0.toNat), (1, .int (iI p1))]) hx hb dX1_bestFrom_164 hl (by decide) rfl (fun ls hl => ?_)
                        exact J166 z_55 H locs ls (by omega) hP hD hS (lv_sub hl [1, 0, 2, 3, 4, 5] rfl)
              exact L118 (((z_8 - 0 : Int)).toNat + 1) 0 0 H locs ls (by omega) (by omega) (by omega) hP hD hS hl
            · refine lv_iload hx hb dX1_bestFrom_78 (lv_at hl 0 rfl) ?_
              refine lv_bipush (v := iI 6) hx hb dX1_bestFrom_80 rfl ?_
              refine xr_icmp_ge (tgt := 112) hx hb dX1_bestFrom_82 (by decide) (by omega) (by omega) (fun h_57 => ?_) (fun h_57 => ?_)
              · exfalso; omega
              · refine lv_aload_n hx hb dX1_bestFrom_85 rfl (lv_at hl 3 rfl) ?_
                refine lv_aload_n hx hb dX1_bestFrom_86 rfl (lv_at hl 3 rfl) ?_
                have h_58 : ok L K (v p0 6) 58 := xf_1_6 hI q0
                have h_59 : N (v p0 6) = 6 := xn_58 hI h_58
                refine gx_RX1_27 (y := v p0 6) hx hb hj hown hK hP q0 ((xf_1_6 I_28 q0).1) (((fr_use q0 f_27 rfl)).trans (((fr_use q0 f_20 rfl)).trans (fr_use q0 f_14 rfl))) dX1_bestFrom_87 ?_
                refine lv_iload hx hb dX1_bestFrom_90 (lv_at hl 0 rfl) ?_
                have h_60 : (-2147483648) ≤ v (v p0 6) a4_69 ∧ v (v p0 6) a4_69 ≤ 2147483647 := xe_58 hI h_58 (by omega)
                refine ax_58 (y := v (v p0 6) a4_69) hx hb hK hP h_58 (by omega) (by omega) (by omega) (((fr_use h_58 f_27 rfl)).trans (((fr_use h_58 f_20 rfl)).trans (fr_use h_58 f_14 rfl))) dX1_bestFrom_92 ?_
                refine lv_iload_n hx hb dX1_bestFrom_93 rfl (lv_at hl 4 rfl) ?_
                refine lv_ishr hx hb dX1_bestFrom_94 ?_
                refine xr_any (fun z_61 h_62 => ?_)
                refine lv_aload_n hx hb dX1_bestFrom_95 rfl (lv_at hl 3 rfl) ?_
                have h_63 : ok L K (v p0 5) 57 := xf_1_5 hI q0
                have h_64 : N (v p0 5) = 6 := xn_57 hI h_63
                refine gx_RX1_24 (y := v p0 5) hx hb hj hown hK hP q0 ((xf_1_5 I_28 q0).1) (((fr_use q0 f_27 rfl)).trans (((fr_use q0 f_20 rfl)).trans (fr_use q0 f_14 rfl))) dX1_bestFrom_96 ?_
                refine lv_iload hx hb dX1_bestFrom_99 (lv_at hl 0 rfl) ?_
                have h_65 : (-2147483648) ≤ v (v p0 5) a4_69 ∧ v (v p0 5) a4_69 ≤ 2147483647 := xe_57 hI h_63 (by omega)
                refine ax_57 (y := v (v p0 5) a4_69) hx hb hK hP h_63 (by omega) (by omega) (by omega) (((fr_use h_63 f_27 rfl)).trans (((fr_use h_63 f_20 rfl)).trans (fr_use h_63 f_14 rfl))) dX1_bestFrom_101 ?_
                refine lv_iload_n hx hb dX1_bestFrom_102 rfl (lv_at hl 1 rfl) ?_
                refine jcg_v (va_runV (As := [.int (iI z_61), .int (iI (v (v p0 5) a4_69)), .int (iI z_8)]) (rest := []) ⟨hx, hb, hml, hown, hts⟩ (sX1_reachWith l dC dI _ L cid K N tW sK sV vc69 p0 z_61 (v (v p0 5) a4_69) z_8 I_28 q0 (by omega) (by omega) (by omega) (by omega)) (cwV 3 hts (jgoodV m_893 m_894 m_895 m_888 m_896) rfl rfl rfl (by decide +kernel) ⟨(Nat.le_of_ble_eq_true rfl), (Nat.le_of_ble_eq_true rfl)⟩) ⟨xP_blind, xrecv hK hP q0 rfl rfl, fun U hU hW => ⟨rfl, xP_of hU hW hP hK hD hX hS (fun _ h => h) hA⟩⟩ rfl rfl hl.1 rfl (lv_room (Nat.le_of_ble_eq_true rfl)) dX1_bestFrom_103 ⟨(Nat.le_of_ble_eq_true rfl), (Nat.le_of_ble_eq_true rfl)⟩) hD hS hA (fun v_69 H locs w_67 hP hK hD hS => ?_)
                obtain ⟨I_71, f_70⟩ := w_67
                have hP : va_P (dC, dI) vwCl (xG L cid K N v_69) H := hP
                have hD : va_D A (xG L cid K N v_69) := hD
                refine lv_iinc (v := iI (a4_69 + 1)) (lv' := [(4, .int (iI (a4_69 + 1))), (3, .int (iI z_8)), (2, .int (iI z_4)), (0, .ref p0.toNat), (1, .int (iI p1))]) hx hb dX1_bestFrom_106 hl (k := 0) rfl (iI_add _ _) (by decide) rfl (fun ls hl => ?_)
                refine lv_goto (tgt := 69) hx hb dX1_bestFrom_109 (by decide) ?_
                exact ih69 (a4_69 + 1) v_69 H locs ls (by omega) (by omega) (fr_tr f_70 rfl (fr_tr f_27 rfl fr_rf)) I_71 hP hD hS hl
        exact L69 ((((v p0 7) - 0 : Int)).toNat + 1) 0 vc35 H locs ls (by omega) (by omega) fr_rf I_21 hP hD hS hl
      · refine lv_aload_n hx hb dX1_bestFrom_43 rfl (lv_at hl 3 rfl) ?_
        have h_72 : ok L K (v p0 9) 60 := xf_1_9 hI q0
        have h_73 : N (v p0 9) = 128 := xn_60 hI h_72
        refine gx_RX1_33 (y := v p0 9) hx hb hj hown hK hP q0 ((xf_1_9 I_21 q0).1) (((fr_use q0 f_20 rfl)).trans (fr_use q0 f_14 rfl)) dX1_bestFrom_44 ?_
        refine lv_iload hx hb dX1_bestFrom_47 (lv_at hl 0 rfl) ?_
        refine lv_iload hx hb dX1_bestFrom_49 (lv_at hl 0 rfl) ?_
        have J59 : ∀ (s0_59 : Int) (H : Heap) (locs : List Loc) (ls : Array Slot), (0 ≤ s0_59 ∧ s0_59 ≤ 1) → va_P (dC, dI) vwCl (xG L cid K N vc35) H → va_D A (xG L cid K N vc35) → va_S A s.heap H locs → lv_has ls 6 [(4, .int (iI a4_35)), (3, .int (iI z_8)), (2, .int (iI z_4)), (0, .ref p0.toNat), (1, .int (iI p1))] → W p l e ({ frames := 2, cells := 0, slots := 0, locals := 66 }) s m ([.ref p0.toNat, .int (iI p1)] : List Value).toArray below meth c H locs 0 0 Q (F0 m 59 ls [.int (iI s0_59), .int (iI a4_35), .ref (v p0 9).toNat]) := by
          intro s0_59 H locs ls h_74 hP hD hS hl
          refine sx_60 (y := s0_59) hx hb hK hP hD hS I_21 h_72 (by omega) (by omega) (by omega) ⟨by omega, by omega⟩ dX1_bestFrom_59 (fun v_75 H locs f_76 e_77 o_78 I_79 hP hD hS => ?_)
          refine lv_iinc (v := iI (a4_35 + 1)) (lv' := [(4, .int (iI (a4_35 + 1))), (3, .int (iI z_8)), (2, .int (iI z_4)), (0, .ref p0.toNat), (1, .int (iI p1))]) hx hb dX1_bestFrom_60 hl (k := 0) rfl (iI_add _ _) (by decide) rfl (fun ls hl => ?_)
          refine lv_goto (tgt := 35) hx hb dX1_bestFrom_63 (by decide) ?_
          exact ih35 (a4_35 + 1) v_75 H locs ls (by omega) (by omega) (fr_tr f_76 rfl (fr_tr f_20 rfl fr_rf)) I_79 hP hD hS hl
        refine xr_if_ne (tgt := 58) hx hb dX1_bestFrom_51 (by decide) (by omega) (fun h_80 => ?_) (fun h_80 => ?_)
        · refine lv_iconst (v := iI 0) hx hb dX1_bestFrom_58 rfl ?_
          exact J59 0 H locs ls (by omega) hP hD hS hl
        · refine lv_iconst (v := iI 1) hx hb dX1_bestFrom_54 rfl ?_
          refine lv_goto (tgt := 59) hx hb dX1_bestFrom_55 (by decide) ?_
          exact J59 1 H locs ls (by omega) hP hD hS hl
  exact L35 (((128 - 0 : Int)).toNat + 1) 0 v_13 H locs ls (by omega) (by omega) fr_rf I_15 hP hD hS hl
