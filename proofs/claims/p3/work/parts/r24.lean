set_option maxHeartbeats 2000000 in
set_option maxRecDepth 100000 in
theorem sX13_asks (l : Launch) (dC : Nat → ClassId) (dI : Nat → Nat → Nat) (sz : Nat) (ad : Nat → Nat) (ca : Nat → ClassId) (g : Nat → Int) (a : Nat → Int → Int) (p1 : Int) (p2 : Int) (hI : mI g a) (q1 : rg p1) (q2 : rg p2) (k1 : 0 ≤ p1 ∧ p1 < 60) (k2 : (-1) ≤ p2 ∧ p2 < 12) (hrSh : rSh g a) : Met l yX13_asks (jk yX13_asks cX13_asks 4 none) ({ frames := 7, cells := 0, slots := 0, locals := 172 }) (va_Pc [.ref (ad 0), .int (iI p1), .int (iI p2)] (jw_P (dC, dI) (mG ad ca g a) (mT ca) sz)) (va_Qv (fun (u : (Nat → Int) × (Nat → Int → Int)) => (u.1 = g) ∧ (mI u.1 u.2) ∧ (∀ j, j ∉ ([62, 63, 64] : List Nat) → u.2 j = a j)) (fun u t => va_P (dC, dI) vwCl (mG ad ca u.1 u.2) t.heap ∧ va_K (dC, dI) vwCl (mT ca) t ∧ va_D (va_A (mG ad ca g a) sz) (mG ad ca u.1 u.2)) (va_A (mG ad ca g a) sz)) 0 0 (va_A (mG ad ca g a) sz) := by
  refine Met.ofW (cc := cX13_asks) (maxL := 4) (ret := none) (by decide) rfl ?_
  intro p e s m args below meth c s₁ B hml hv
  obtain ⟨rfl, hsz, hP, hK, hD0⟩ := hv
  have hx := B.exec
  have hb := B.bytes
  have hr := B.returns
  have hts := atoms_spec (ws := (jk yX13_asks cX13_asks 4 none)) B.pre
  have hj : ∀ w ∈ jw, w.before ([.ref (ad 0), .int (iI p1), .int (iI p2)] : List Value).toArray s = true := fun w h => hts w (jm h)
  have hown : s.vm.findClass RX13 = some m.cls := findClass_of_methodNamed B.named
  subst hsz
  have hD := hD0.self (sz := s.heap.size)
  generalize hAe : (va_A (mG ad ca g a) s.heap.size) = A at hD ⊢
  have hA : ∀ q : Nat, s.heap.size ≤ q → A q := fun q h => by rw [← hAe]; exact Or.inr h
  have hS : va_S A s.heap s.heap [] := va_S.rf
  have hP : va_P (dC, dI) vwCl (mG ad ca g a) s.heap := hP
  have haA : ∀ j, j ∉ ([62, 63, 64] : List Nat) → a j = a j := fun _ _ => rfl
  have hl := lv_entry ([.ref (ad 0), .int (iI p1), .int (iI p2)]) (n := 4) (Nat.le_of_ble_eq_true rfl)
  rw [lg_entry_eq]
  generalize (lg_sl ([.ref (ad 0), .int (iI p1), .int (iI p2)]) ++ List.replicate (4 - (lg_sl ([.ref (ad 0), .int (iI p1), .int (iI p2)])).length) Slot.unset).toArray = ls at hl ⊢
  have hl : lv_has ls 4 [(0, .ref (ad 0)), (1, .int (iI p1)), (2, .int (iI p2))] := hl
  generalize hQ : MQ below (va_Qv (fun (u : (Nat → Int) × (Nat → Int → Int)) => (u.1 = g) ∧ (mI u.1 u.2) ∧ (∀ j, j ∉ ([62, 63, 64] : List Nat) → u.2 j = a j)) (fun u t => va_P (dC, dI) vwCl (mG ad ca u.1 u.2) t.heap ∧ va_K (dC, dI) vwCl (mT ca) t ∧ va_D A (mG ad ca u.1 u.2)) A) ([.ref (ad 0), .int (iI p1), .int (iI p2)] : List Value).toArray s 0 0 A = Q
  suffices ST : ∀ (H : Heap) (locs : List Loc), va_P (dC, dI) vwCl (mG ad ca g a) H → va_S A s.heap H locs → W p l e ({ frames := 7, cells := 0, slots := 0, locals := 172 }) s m ([.ref (ad 0), .int (iI p1), .int (iI p2)] : List Value).toArray below meth c H locs 0 0 Q (F0 m 0 ls []) from ST _ _ hP hS
  clear hP hS
  intro H locs hP hS
  refine lv_aload_n hx hb dX13_asks_0 rfl (lv_at hl 0 rfl) ?_
  refine gf_names hx hb hj hown hK hP dX13_asks_1 ?_
  refine lv_iconst (v := iI 0) hx hb dX13_asks_4 rfl ?_
  refine lv_aload_n hx hb dX13_asks_5 rfl (lv_at hl 0 rfl) ?_
  refine gf_asked hx hb hj hown hK hP dX13_asks_6 ?_
  refine lv_iload_n hx hb dX13_asks_9 rfl (lv_at hl 1 rfl) ?_
  refine ld_asked hx hb hK hP hI (by omega) (by omega) dX13_asks_10 (fun h_1 => ?_)
  refine sa_names hx hb hK hP hD hS hI (by omega) (by omega) dX13_asks_11 (fun a_2 z_5 H locs h_6 h_7 e_3 e_4 hI hP hD hS => ?_)
  have haA : ∀ j, j ∉ ([62, 63, 64] : List Nat) → a_2 j = a j := fun j h => (e_3 j (fun q => h (q ▸ (by decide : 62 ∈ ([62, 63, 64] : List Nat))))).trans (haA j h)
  refine lv_aload_n hx hb dX13_asks_12 rfl (lv_at hl 0 rfl) ?_
  refine gf_names hx hb hj hown hK hP dX13_asks_13 ?_
  refine lv_iconst (v := iI 1) hx hb dX13_asks_16 rfl ?_
  refine lv_aload_n hx hb dX13_asks_17 rfl (lv_at hl 0 rfl) ?_
  refine lv_iload_n hx hb dX13_asks_18 rfl (lv_at hl 1 rfl) ?_
  refine jc_i (va_runV (As := [.int (iI p1)]) (rest := [.int (iI 1), .ref (ad 62)]) ⟨hx, hb, hml, hown, hts⟩ (sX13_linesOf l dC dI _ ad ca g a_2 p1 hI (by omega)) (cwV 1 hts (jgoodV m_262 m_418 m_419 m_503 m_176) rfl rfl rfl (by decide +kernel) ⟨(Nat.le_of_ble_eq_true rfl), (Nat.le_of_ble_eq_true rfl)⟩) ⟨jw_blind, va_recv hK hP (ci := 13) (q0 := 0) rfl rfl, fun U hU hW => ⟨rfl, jw_of hU hW hP hK hD⟩⟩ rfl rfl hl.1 rfl (lv_room (Nat.le_of_ble_eq_true rfl)) dX13_asks_19 ⟨(Nat.le_of_ble_eq_true rfl), (Nat.le_of_ble_eq_true rfl)⟩) hP hS hA (fun r_8 H locs w_9 hP hS => ?_)
  obtain ⟨z_10, rfl, h_11⟩ := w_9
  refine sa_names hx hb hK hP hD hS hI (by omega) (by omega) dX13_asks_22 (fun a_12 z_15 H locs h_16 h_17 e_13 e_14 hI hP hD hS => ?_)
  have haA : ∀ j, j ∉ ([62, 63, 64] : List Nat) → a_12 j = a j := fun j h => (e_13 j (fun q => h (q ▸ (by decide : 62 ∈ ([62, 63, 64] : List Nat))))).trans (haA j h)
  refine lv_aload_n hx hb dX13_asks_23 rfl (lv_at hl 0 rfl) ?_
  refine gf_names hx hb hj hown hK hP dX13_asks_24 ?_
  refine lv_iconst (v := iI 2) hx hb dX13_asks_27 rfl ?_
  refine lv_aload_n hx hb dX13_asks_28 rfl (lv_at hl 0 rfl) ?_
  refine lv_iload_n hx hb dX13_asks_29 rfl (lv_at hl 1 rfl) ?_
  refine jc_i (va_runV (As := [.int (iI p1)]) (rest := [.int (iI 2), .ref (ad 62)]) ⟨hx, hb, hml, hown, hts⟩ (sX13_factsOf l dC dI _ ad ca g a_12 p1 hI (by omega)) (cwV 1 hts (jgoodV m_264 m_336 m_337 m_503 m_133) rfl rfl rfl (by decide +kernel) ⟨(Nat.le_of_ble_eq_true rfl), (Nat.le_of_ble_eq_true rfl)⟩) ⟨jw_blind, va_recv hK hP (ci := 13) (q0 := 0) rfl rfl, fun U hU hW => ⟨rfl, jw_of hU hW hP hK hD⟩⟩ rfl rfl hl.1 rfl (lv_room (Nat.le_of_ble_eq_true rfl)) dX13_asks_30 ⟨(Nat.le_of_ble_eq_true rfl), (Nat.le_of_ble_eq_true rfl)⟩) hP hS hA (fun r_18 H locs w_19 hP hS => ?_)
  obtain ⟨z_20, rfl, h_21⟩ := w_19
  refine sa_names hx hb hK hP hD hS hI (by omega) (by omega) dX13_asks_33 (fun a_22 z_25 H locs h_26 h_27 e_23 e_24 hI hP hD hS => ?_)
  have haA : ∀ j, j ∉ ([62, 63, 64] : List Nat) → a_22 j = a j := fun j h => (e_23 j (fun q => h (q ▸ (by decide : 62 ∈ ([62, 63, 64] : List Nat))))).trans (haA j h)
  refine lv_aload_n hx hb dX13_asks_34 rfl (lv_at hl 0 rfl) ?_
  refine gf_names hx hb hj hown hK hP dX13_asks_35 ?_
  refine lv_iconst (v := iI 3) hx hb dX13_asks_38 rfl ?_
  refine lv_iconst (v := iI 0) hx hb dX13_asks_39 rfl ?_
  refine sa_names hx hb hK hP hD hS hI (by omega) (by omega) dX13_asks_40 (fun a_28 z_31 H locs h_32 h_33 e_29 e_30 hI hP hD hS => ?_)
  have haA : ∀ j, j ∉ ([62, 63, 64] : List Nat) → a_28 j = a j := fun j h => (e_29 j (fun q => h (q ▸ (by decide : 62 ∈ ([62, 63, 64] : List Nat))))).trans (haA j h)
  refine lv_iconst (v := iI 0) hx hb dX13_asks_41 rfl ?_
  refine lv_istore_n (lv' := [(3, .int (iI 0)), (0, .ref (ad 0)), (1, .int (iI p1)), (2, .int (iI p2))]) hx hb dX13_asks_42 rfl hl (by decide) rfl (fun ls hl => ?_)
  have L43 : ∀ (n43 : Nat) (v3_43 : Int) (a_43 : Nat → Int → Int) (H : Heap) (locs : List Loc) (ls : Array Slot), (0 ≤ v3_43 ∧ v3_43 ≤ 2147483647) → (mI g a_43) → (∀ j, j ∉ ([62, 63, 64] : List Nat) → a_43 j = a j) → (0 < (n43 : Int) ∧ (g 37) - v3_43 < (n43 : Int)) → va_P (dC, dI) vwCl (mG ad ca g a_43) H → va_D A (mG ad ca g a_43) → va_S A s.heap H locs → lv_has ls 4 [(3, .int (iI v3_43)), (0, .ref (ad 0)), (1, .int (iI p1)), (2, .int (iI p2))] → W p l e ({ frames := 7, cells := 0, slots := 0, locals := 172 }) s m ([.ref (ad 0), .int (iI p1), .int (iI p2)] : List Value).toArray below meth c H locs 0 0 Q (F0 m 43 ls []) := by
    intro n43
    induction n43 with
    | zero =>
      intro v3_43 a_43 H locs ls h_34 hI haA hm43 hP hD hS hl
      exfalso; omega
    | succ n43 ih43 =>
      intro v3_43 a_43 H locs ls h_35 hI haA hm43 hP hD hS hl
      refine lv_iload_n hx hb dX13_asks_43 rfl (lv_at hl 0 rfl) ?_
      refine lv_aload_n hx hb dX13_asks_44 rfl (lv_at hl 1 rfl) ?_
      refine gf_entries hx hb hj hown hK hP hI dX13_asks_45 (fun h_36 => ?_)
      refine xr_icmp_ge (tgt := 100) hx hb dX13_asks_48 (by decide) (by omega) (by omega) (fun h_37 => ?_) (fun h_37 => ?_)
      · refine lv_aload_n hx hb dX13_asks_100 rfl (lv_at hl 1 rfl) ?_
        refine gf_names hx hb hj hown hK hP dX13_asks_101 ?_
        refine lv_iconst (v := iI 4) hx hb dX13_asks_104 rfl ?_
        refine lv_aload_n hx hb dX13_asks_105 rfl (lv_at hl 1 rfl) ?_
        refine gf_field hx hb hj hown hK hP dX13_asks_106 ?_
        refine lv_iload_n hx hb dX13_asks_109 rfl (lv_at hl 2 rfl) ?_
        refine ld_field hx hb hK hP hI (by omega) (by omega) dX13_asks_110 (fun h_38 => ?_)
        refine sa_names hx hb hK hP hD hS hI (by omega) (by omega) dX13_asks_111 (fun a_39 z_42 H locs h_43 h_44 e_40 e_41 hI hP hD hS => ?_)
        have haA : ∀ j, j ∉ ([62, 63, 64] : List Nat) → a_39 j = a j := fun j h => (e_40 j (fun q => h (q ▸ (by decide : 62 ∈ ([62, 63, 64] : List Nat))))).trans (haA j h)
        refine lv_aload_n hx hb dX13_asks_112 rfl (lv_at hl 1 rfl) ?_
        refine gf_names hx hb hj hown hK hP dX13_asks_113 ?_
        refine lv_bipush (v := iI 7) hx hb dX13_asks_116 rfl ?_
        refine lv_aload_n hx hb dX13_asks_118 rfl (lv_at hl 1 rfl) ?_
        refine lv_iload_n hx hb dX13_asks_119 rfl (lv_at hl 2 rfl) ?_
        refine jcg_i (va_runV (As := [.int (iI p1)]) (rest := [.int (iI 7), .ref (ad 62)]) ⟨hx, hb, hml, hown, hts⟩ (sX13_volumeOf l dC dI _ ad ca g a_39 p1 hI (by omega) (by omega) (rSh_t rfl rfl (haA 9 (by decide)) (haA 10 (by decide)) (haA 11 (by decide)) (haA 12 (by decide)) (haA 16 (by decide)) hrSh)) (cwV 1 hts (jgoodV m_257 m_494 m_495 m_503 m_215) rfl rfl rfl (by decide +kernel) ⟨(Nat.le_of_ble_eq_true rfl), (Nat.le_of_ble_eq_true rfl)⟩) ⟨jw_blind, va_recv hK hP (ci := 13) (q0 := 0) rfl rfl, fun U hU hW => ⟨rfl, jw_of hU hW hP hK hD⟩⟩ rfl rfl hl.1 rfl (lv_room (Nat.le_of_ble_eq_true rfl)) dX13_asks_120 ⟨(Nat.le_of_ble_eq_true rfl), (Nat.le_of_ble_eq_true rfl)⟩) hD hS hA (fun r_45 u_51 H locs w_46 hP hK hD hS => ?_)
        obtain ⟨g_49, a_50⟩ := u_51
        obtain ⟨z_47, rfl, e_53, hI, hfr_52, h_48⟩ := w_46
        have hP : va_P (dC, dI) vwCl (mG ad ca g_49 a_50) H := hP
        have hD : va_D A (mG ad ca g_49 a_50) := hD
        have e_53 : g = g_49 := e_53.symm
        subst e_53
        have haA : ∀ j, j ∉ ([62, 63, 64] : List Nat) → a_50 j = a j := fun j h => (hfr_52 j (fun q => h (by first | exact q | (simp only [List.mem_cons, List.not_mem_nil, or_false] at q ⊢ <;> omega)))).trans (haA j h)
        refine sa_names hx hb hK hP hD hS hI (by omega) (by omega) dX13_asks_123 (fun a_54 z_57 H locs h_58 h_59 e_55 e_56 hI hP hD hS => ?_)
        have haA : ∀ j, j ∉ ([62, 63, 64] : List Nat) → a_54 j = a j := fun j h => (e_55 j (fun q => h (q ▸ (by decide : 62 ∈ ([62, 63, 64] : List Nat))))).trans (haA j h)
        refine lv_aload_n hx hb dX13_asks_124 rfl (lv_at hl 1 rfl) ?_
        refine gf_names hx hb hj hown hK hP dX13_asks_125 ?_
        refine lv_iconst (v := iI 5) hx hb dX13_asks_128 rfl ?_
        refine lv_iload_n hx hb dX13_asks_129 rfl (lv_at hl 3 rfl) ?_
        refine lv_iconst (v := iI (-1)) hx hb dX13_asks_130 rfl ?_
        have J144 : ∀ (s0_144 : Int) (H : Heap) (locs : List Loc) (ls : Array Slot), (0 ≤ s0_144 ∧ s0_144 ≤ 20) → va_P (dC, dI) vwCl (mG ad ca g a_54) H → va_D A (mG ad ca g a_54) → va_S A s.heap H locs → lv_has ls 4 [(3, .int (iI v3_43)), (0, .ref (ad 0)), (1, .int (iI p1)), (2, .int (iI p2))] → W p l e ({ frames := 7, cells := 0, slots := 0, locals := 172 }) s m ([.ref (ad 0), .int (iI p1), .int (iI p2)] : List Value).toArray below meth c H locs 0 0 Q (F0 m 144 ls [.int (iI s0_144), .int (iI 5), .ref (ad 62)]) := by
          intro s0_144 H locs ls h_60 hP hD hS hl
          refine sa_names hx hb hK hP hD hS hI (by omega) (by omega) dX13_asks_144 (fun a_61 z_64 H locs h_65 h_66 e_62 e_63 hI hP hD hS => ?_)
          have haA : ∀ j, j ∉ ([62, 63, 64] : List Nat) → a_61 j = a j := fun j h => (e_62 j (fun q => h (q ▸ (by decide : 62 ∈ ([62, 63, 64] : List Nat))))).trans (haA j h)
          refine lv_aload_n hx hb dX13_asks_145 rfl (lv_at hl 1 rfl) ?_
          refine gf_names hx hb hj hown hK hP dX13_asks_146 ?_
          refine lv_bipush (v := iI 6) hx hb dX13_asks_149 rfl ?_
          refine lv_iload_n hx hb dX13_asks_151 rfl (lv_at hl 3 rfl) ?_
          refine lv_iconst (v := iI (-1)) hx hb dX13_asks_152 rfl ?_
          have J175 : ∀ (s0_175 : Int) (H : Heap) (locs : List Loc) (ls : Array Slot), (0 ≤ s0_175 ∧ s0_175 ≤ 115) → va_P (dC, dI) vwCl (mG ad ca g a_61) H → va_D A (mG ad ca g a_61) → va_S A s.heap H locs → lv_has ls 4 [(3, .int (iI v3_43)), (0, .ref (ad 0)), (1, .int (iI p1)), (2, .int (iI p2))] → W p l e ({ frames := 7, cells := 0, slots := 0, locals := 172 }) s m ([.ref (ad 0), .int (iI p1), .int (iI p2)] : List Value).toArray below meth c H locs 0 0 Q (F0 m 175 ls [.int (iI s0_175), .int (iI 6), .ref (ad 62)]) := by
            intro s0_175 H locs ls h_67 hP hD hS hl
            refine sa_names hx hb hK hP hD hS hI (by omega) (by omega) dX13_asks_175 (fun a_68 z_71 H locs h_72 h_73 e_69 e_70 hI hP hD hS => ?_)
            have haA : ∀ j, j ∉ ([62, 63, 64] : List Nat) → a_68 j = a j := fun j h => (e_69 j (fun q => h (q ▸ (by decide : 62 ∈ ([62, 63, 64] : List Nat))))).trans (haA j h)
            refine lv_aload_n hx hb dX13_asks_176 rfl (lv_at hl 1 rfl) ?_
            refine gf_names hx hb hj hown hK hP dX13_asks_177 ?_
            refine lv_bipush (v := iI 8) hx hb dX13_asks_180 rfl ?_
            refine lv_iload_n hx hb dX13_asks_182 rfl (lv_at hl 3 rfl) ?_
            refine lv_iconst (v := iI (-1)) hx hb dX13_asks_183 rfl ?_
            refine xr_icmp_ne (tgt := 191) hx hb dX13_asks_184 (by decide) (by omega) (by omega) (fun h_74 => ?_) (fun h_74 => ?_)
            · refine lv_aload_n hx hb dX13_asks_191 rfl (lv_at hl 1 rfl) ?_
              refine lv_iload_n hx hb dX13_asks_192 rfl (lv_at hl 3 rfl) ?_
              refine jc_i (va_runV (As := [.int (iI p2)]) (rest := [.int (iI 8), .ref (ad 62)]) ⟨hx, hb, hml, hown, hts⟩ (sX13_lateOf l dC dI _ ad ca g a_68 p2 hI (by omega)) (cwV 1 hts (jgoodV m_265 m_406 m_407 m_503 m_170) rfl rfl rfl (by decide +kernel) ⟨(Nat.le_of_ble_eq_true rfl), (Nat.le_of_ble_eq_true rfl)⟩) ⟨jw_blind, va_recv hK hP (ci := 13) (q0 := 0) rfl rfl, fun U hU hW => ⟨rfl, jw_of hU hW hP hK hD⟩⟩ rfl rfl hl.1 rfl (lv_room (Nat.le_of_ble_eq_true rfl)) dX13_asks_193 ⟨(Nat.le_of_ble_eq_true rfl), (Nat.le_of_ble_eq_true rfl)⟩) hP hS hA (fun r_75 H locs w_76 hP hS => ?_)
              obtain ⟨z_77, rfl, h_78⟩ := w_76
              refine sa_names hx hb hK hP hD hS hI (by omega) (by omega) dX13_asks_196 (fun a_79 z_82 H locs h_83 h_84 e_80 e_81 hI hP hD hS => ?_)
              have haA : ∀ j, j ∉ ([62, 63, 64] : List Nat) → a_79 j = a j := fun j h => (e_80 j (fun q => h (q ▸ (by decide : 62 ∈ ([62, 63, 64] : List Nat))))).trans (haA j h)
              rw [← hQ]
              exact W.vret hx hb hr (fun t ht hW => ⟨⟨(g, a_79), rfl, ⟨rfl, hI, haA⟩, by rw [ht]; exact hP, va_K.moved hW.alike hK, hD⟩, hS.F ht⟩) hS.2.2 dX13_asks_197
            · refine lv_iconst (v := iI 0) hx hb dX13_asks_187 rfl ?_
              refine lv_goto (tgt := 196) hx hb dX13_asks_188 (by decide) ?_
              refine sa_names hx hb hK hP hD hS hI (by omega) (by omega) dX13_asks_196 (fun a_85 z_88 H locs h_89 h_90 e_86 e_87 hI hP hD hS => ?_)
              have haA : ∀ j, j ∉ ([62, 63, 64] : List Nat) → a_85 j = a j := fun j h => (e_86 j (fun q => h (q ▸ (by decide : 62 ∈ ([62, 63, 64] : List Nat))))).trans (haA j h)
              rw [← hQ]
              exact W.vret hx hb hr (fun t ht hW => ⟨⟨(g, a_85), rfl, ⟨rfl, hI, haA⟩, by rw [ht]; exact hP, va_K.moved hW.alike hK, hD⟩, hS.F ht⟩) hS.2.2 dX13_asks_197
          refine xr_icmp_ne (tgt := 160) hx hb dX13_asks_153 (by decide) (by omega) (by omega) (fun h_91 => ?_) (fun h_91 => ?_)
          · refine lv_aload_n hx hb dX13_asks_160 rfl (lv_at hl 1 rfl) ?_
            refine gf_now hx hb hj hown hK hP hI dX13_asks_161 (fun h_92 => ?_)
            refine lv_aload_n hx hb dX13_asks_164 rfl (lv_at hl 1 rfl) ?_
            refine gf_born hx hb hj hown hK hP dX13_asks_165 ?_
            refine lv_iload_n hx hb dX13_asks_168 rfl (lv_at hl 3 rfl) ?_
            refine ld_born hx hb hK hP hI (by omega) (by omega) dX13_asks_169 (fun h_93 => ?_)
            refine xr_sub hx hb dX13_asks_170 ?_
            refine lv_sipush (v := iI 365) hx hb dX13_asks_171 rfl ?_
            refine xr_div hx hb dX13_asks_174 (by omega) (by omega) (by omega) (by omega) ?_
            exact J175 (((g 30) - (a_61 39 p2)) / 365) H locs ls (by omega) hP hD hS hl
          · refine lv_iconst (v := iI 0) hx hb dX13_asks_156 rfl ?_
            refine lv_goto (tgt := 175) hx hb dX13_asks_157 (by decide) ?_
            exact J175 0 H locs ls (by omega) hP hD hS hl
        refine xr_icmp_ne (tgt := 138) hx hb dX13_asks_131 (by decide) (by omega) (by omega) (fun h_94 => ?_) (fun h_94 => ?_)
        · refine lv_aload_n hx hb dX13_asks_138 rfl (lv_at hl 1 rfl) ?_
          refine gf_skill hx hb hj hown hK hP dX13_asks_139 ?_
          refine lv_iload_n hx hb dX13_asks_142 rfl (lv_at hl 3 rfl) ?_
          refine ld_skill hx hb hK hP hI (by omega) (by omega) dX13_asks_143 (fun h_95 => ?_)
          exact J144 (a_54 38 p2) H locs ls (by omega) hP hD hS hl
        · refine lv_iconst (v := iI 0) hx hb dX13_asks_134 rfl ?_
          refine lv_goto (tgt := 144) hx hb dX13_asks_135 (by decide) ?_
          exact J144 0 H locs ls (by omega) hP hD hS hl
      · refine lv_aload_n hx hb dX13_asks_51 rfl (lv_at hl 1 rfl) ?_
        refine gf_names hx hb hj hown hK hP dX13_asks_52 ?_
        refine lv_iconst (v := iI 3) hx hb dX13_asks_55 rfl ?_
        refine lv_dup2_11 hx hb dX13_asks_56 rfl rfl ?_
        refine ld_names hx hb hK hP hI (by omega) (by omega) dX13_asks_57 (fun h_96 => ?_)
        refine lv_aload_n hx hb dX13_asks_58 rfl (lv_at hl 1 rfl) ?_
        refine gf_kind hx hb hj hown hK hP dX13_asks_59 ?_
        refine lv_iload_n hx hb dX13_asks_62 rfl (lv_at hl 0 rfl) ?_
        refine ld_kind hx hb hK hP hI (by omega) (by omega) dX13_asks_63 (fun h_97 => ?_)
        refine lv_iconst (v := iI 1) hx hb dX13_asks_64 rfl ?_
        have J92 : ∀ (s0_92 : Int) (H : Heap) (locs : List Loc) (ls : Array Slot), (0 ≤ s0_92 ∧ s0_92 ≤ 1) → va_P (dC, dI) vwCl (mG ad ca g a_43) H → va_D A (mG ad ca g a_43) → va_S A s.heap H locs → lv_has ls 4 [(3, .int (iI v3_43)), (0, .ref (ad 0)), (1, .int (iI p1)), (2, .int (iI p2))] → W p l e ({ frames := 7, cells := 0, slots := 0, locals := 172 }) s m ([.ref (ad 0), .int (iI p1), .int (iI p2)] : List Value).toArray below meth c H locs 0 0 Q (F0 m 92 ls [.int (iI s0_92), .int (iI (a_43 62 3)), .int (iI 3), .ref (ad 62)]) := by
          intro s0_92 H locs ls h_98 hP hD hS hl
          refine xr_add hx hb dX13_asks_92 ?_
          refine xr_kept (fun z_99 h_100 h_101 => ?_)
          refine sa_names hx hb hK hP hD hS hI (by omega) (by omega) dX13_asks_93 (fun a_102 z_105 H locs h_106 h_107 e_103 e_104 hI hP hD hS => ?_)
          have haA : ∀ j, j ∉ ([62, 63, 64] : List Nat) → a_102 j = a j := fun j h => (e_103 j (fun q => h (q ▸ (by decide : 62 ∈ ([62, 63, 64] : List Nat))))).trans (haA j h)
          refine lv_iinc (v := iI (v3_43 + 1)) (lv' := [(3, .int (iI (v3_43 + 1))), (0, .ref (ad 0)), (1, .int (iI p1)), (2, .int (iI p2))]) hx hb dX13_asks_94 hl (k := 0) rfl (iI_add _ _) (by decide) rfl (fun ls hl => ?_)
          refine lv_goto (tgt := 43) hx hb dX13_asks_97 (by decide) ?_
          exact ih43 (v3_43 + 1) a_102 H locs ls (by omega) hI haA (by omega) hP hD hS hl
        have J91 : ∀ (H : Heap) (locs : List Loc) (ls : Array Slot), va_P (dC, dI) vwCl (mG ad ca g a_43) H → va_D A (mG ad ca g a_43) → va_S A s.heap H locs → lv_has ls 4 [(3, .int (iI v3_43)), (0, .ref (ad 0)), (1, .int (iI p1)), (2, .int (iI p2))] → W p l e ({ frames := 7, cells := 0, slots := 0, locals := 172 }) s m ([.ref (ad 0), .int (iI p1), .int (iI p2)] : List Value).toArray below meth c H locs 0 0 Q (F0 m 91 ls [.int (iI (a_43 62 3)), .int (iI 3), .ref (ad 62)]) := by
          intro H locs ls hP hD hS hl
          refine lv_iconst (v := iI 0) hx hb dX13_asks_91 rfl ?_
          exact J92 0 H locs ls (by omega) hP hD hS hl
        refine xr_icmp_ne (tgt := 91) hx hb dX13_asks_65 (by decide) (by omega) (by omega) (fun h_108 => ?_) (fun h_108 => ?_)
        · exact J91 H locs ls hP hD hS hl
        · refine lv_aload_n hx hb dX13_asks_68 rfl (lv_at hl 1 rfl) ?_
          refine gf_leads hx hb hj hown hK hP dX13_asks_69 ?_
          refine lv_iload_n hx hb dX13_asks_72 rfl (lv_at hl 0 rfl) ?_
          refine ld_leads hx hb hK hP hI (by omega) (by omega) dX13_asks_73 (fun h_109 => ?_)
          refine lv_iload_n hx hb dX13_asks_74 rfl (lv_at hl 2 rfl) ?_
          refine xr_icmp_ne (tgt := 91) hx hb dX13_asks_75 (by decide) (by omega) (by omega) (fun h_110 => ?_) (fun h_110 => ?_)
          · exact J91 H locs ls hP hD hS hl
          · refine lv_aload_n hx hb dX13_asks_78 rfl (lv_at hl 1 rfl) ?_
            refine gf_isStruck hx hb hj hown hK hP dX13_asks_79 ?_
            refine lv_iload_n hx hb dX13_asks_82 rfl (lv_at hl 0 rfl) ?_
            refine ld_isStruck hx hb hK hP hI (by omega) (by omega) dX13_asks_83 (fun h_111 => ?_)
            refine xr_if_ne (tgt := 91) hx hb dX13_asks_84 (by decide) (by omega) (fun h_112 => ?_) (fun h_112 => ?_)
            · exact J91 H locs ls hP hD hS hl
            · refine lv_iconst (v := iI 1) hx hb dX13_asks_87 rfl ?_
              refine lv_goto (tgt := 92) hx hb dX13_asks_88 (by decide) ?_
              exact J92 1 H locs ls (by omega) hP hD hS hl
  exact L43 ((((g 37) - 0 : Int)).toNat + 1) 0 a_28 H locs ls (by omega) hI haA (by omega) hP hD hS hl
set_option maxHeartbeats 2000000 in
set_option maxRecDepth 100000 in
theorem sX13_mayBeGiven (l : Launch) (dC : Nat → ClassId) (dI : Nat → Nat → Nat) (sz : Nat) (ad : Nat → Nat) (ca : Nat → ClassId) (g : Nat → Int) (a : Nat → Int → Int) (p1 : Int) (p2 : Int) (hI : mI g a) (q1 : rg p1) (q2 : rg p2) (hrSh : rSh g a) : Met l yX13_mayBeGiven (jk yX13_mayBeGiven cX13_mayBeGiven 4 (some .boolean)) ({ frames := 8, cells := 0, slots := 0, locals := 195 }) (va_Pc [.ref (ad 0), .int (iI p1), .int (iI p2)] (jw_P (dC, dI) (mG ad ca g a) (mT ca) sz)) (va_Qi (fun (r : Int32) (u : (Nat → Int) × (Nat → Int → Int)) => ∃ z : Int, r = iI z ∧ (u.1 = g) ∧ (mI u.1 u.2) ∧ (∀ j, j ∉ ([62, 63, 64] : List Nat) → u.2 j = a j) ∧ (0 ≤ z ∧ z ≤ 1) ∧ (z = 0 ∨ (0 ≤ p1 ∧ p1 < g 37 ∧ 0 ≤ p2 ∧ p2 < g 50))) (fun u t => va_P (dC, dI) vwCl (mG ad ca u.1 u.2) t.heap ∧ va_K (dC, dI) vwCl (mT ca) t ∧ va_D (va_A (mG ad ca g a) sz) (mG ad ca u.1 u.2)) (va_A (mG ad ca g a) sz)) 0 0 (va_A (mG ad ca g a) sz) := by
  refine Met.ofW (cc := cX13_mayBeGiven) (maxL := 4) (ret := (some .boolean)) (by decide) rfl ?_
  intro p e s m args below meth c s₁ B hml hv
  obtain ⟨rfl, hsz, hP, hK, hD0⟩ := hv
  have hx := B.exec
  have hb := B.bytes
  have hr := B.returns
  have hts := atoms_spec (ws := (jk yX13_mayBeGiven cX13_mayBeGiven 4 (some .boolean))) B.pre
  have hj : ∀ w ∈ jw, w.before ([.ref (ad 0), .int (iI p1), .int (iI p2)] : List Value).toArray s = true := fun w h => hts w (jm h)
  have hown : s.vm.findClass RX13 = some m.cls := findClass_of_methodNamed B.named
  subst hsz
  have hD := hD0.self (sz := s.heap.size)
  generalize hAe : (va_A (mG ad ca g a) s.heap.size) = A at hD ⊢
  have hA : ∀ q : Nat, s.heap.size ≤ q → A q := fun q h => by rw [← hAe]; exact Or.inr h
  have hS : va_S A s.heap s.heap [] := va_S.rf
  have hP : va_P (dC, dI) vwCl (mG ad ca g a) s.heap := hP
  have haA : ∀ j, j ∉ ([62, 63, 64] : List Nat) → a j = a j := fun _ _ => rfl
  have hl := lv_entry ([.ref (ad 0), .int (iI p1), .int (iI p2)]) (n := 4) (Nat.le_of_ble_eq_true rfl)
  rw [lg_entry_eq]
  generalize (lg_sl ([.ref (ad 0), .int (iI p1), .int (iI p2)]) ++ List.replicate (4 - (lg_sl ([.ref (ad 0), .int (iI p1), .int (iI p2)])).length) Slot.unset).toArray = ls at hl ⊢
  have hl : lv_has ls 4 [(0, .ref (ad 0)), (1, .int (iI p1)), (2, .int (iI p2))] := hl
  generalize hQ : MQ below (va_Qi (fun (r : Int32) (u : (Nat → Int) × (Nat → Int → Int)) => ∃ z : Int, r = iI z ∧ (u.1 = g) ∧ (mI u.1 u.2) ∧ (∀ j, j ∉ ([62, 63, 64] : List Nat) → u.2 j = a j) ∧ (0 ≤ z ∧ z ≤ 1) ∧ (z = 0 ∨ (0 ≤ p1 ∧ p1 < g 37 ∧ 0 ≤ p2 ∧ p2 < g 50))) (fun u t => va_P (dC, dI) vwCl (mG ad ca u.1 u.2) t.heap ∧ va_K (dC, dI) vwCl (mT ca) t ∧ va_D A (mG ad ca u.1 u.2)) A) ([.ref (ad 0), .int (iI p1), .int (iI p2)] : List Value).toArray s 0 0 A = Q
  suffices ST : ∀ (H : Heap) (locs : List Loc), va_P (dC, dI) vwCl (mG ad ca g a) H → va_S A s.heap H locs → W p l e ({ frames := 8, cells := 0, slots := 0, locals := 195 }) s m ([.ref (ad 0), .int (iI p1), .int (iI p2)] : List Value).toArray below meth c H locs 0 0 Q (F0 m 0 ls []) from ST _ _ hP hS
  clear hP hS
  intro H locs hP hS
  refine lv_aload_n hx hb dX13_mayBeGiven_0 rfl (lv_at hl 0 rfl) ?_
  refine lv_iload_n hx hb dX13_mayBeGiven_1 rfl (lv_at hl 1 rfl) ?_
  refine jc_i (va_runV (As := [.int (iI p1)]) (rest := []) ⟨hx, hb, hml, hown, hts⟩ (sX13_isArticle l dC dI _ ad ca g a p1 hI (by omega)) (cwV 1 hts (jgoodV m_266 m_373 m_374 m_503 m_152) rfl rfl rfl (by decide +kernel) ⟨(Nat.le_of_ble_eq_true rfl), (Nat.le_of_ble_eq_true rfl)⟩) ⟨jw_blind, va_recv hK hP (ci := 13) (q0 := 0) rfl rfl, fun U hU hW => ⟨rfl, jw_of hU hW hP hK hD⟩⟩ rfl rfl hl.1 rfl (lv_room (Nat.le_of_ble_eq_true rfl)) dX13_mayBeGiven_2 ⟨(Nat.le_of_ble_eq_true rfl), (Nat.le_of_ble_eq_true rfl)⟩) hP hS hA (fun r_1 H locs w_2 hP hS => ?_)
  obtain ⟨z_3, rfl, h_4, h_5⟩ := w_2
  have b_6 : 0 ≤ g 37 ∧ g 37 ≤ 60 := hI.1 37
  refine xr_if_eq (tgt := 70) hx hb dX13_mayBeGiven_5 (by decide) (by omega) (fun h_7 => ?_) (fun h_7 => ?_)
  · refine lv_iconst (v := iI 0) hx hb dX13_mayBeGiven_70 rfl ?_
    rw [← hQ]
    exact W.zret (v := iI 0) (ty := .boolean) hx hb hr (nb_bool (by omega) (by omega)) (fun t ht hW => ⟨⟨iI 0, (g, a), rfl, ⟨0, rfl, rfl, hI, haA, by omega, by omega⟩, by rw [ht]; exact hP, va_K.moved hW.alike hK, hD⟩, hS.F ht⟩) hS.2.2 dX13_mayBeGiven_71
  · refine lv_aload_n hx hb dX13_mayBeGiven_8 rfl (lv_at hl 0 rfl) ?_
    refine gf_isStruck hx hb hj hown hK hP dX13_mayBeGiven_9 ?_
    refine lv_iload_n hx hb dX13_mayBeGiven_12 rfl (lv_at hl 1 rfl) ?_
    refine ld_isStruck hx hb hK hP hI (by omega) (by omega) dX13_mayBeGiven_13 (fun h_8 => ?_)
    refine xr_if_ne (tgt := 70) hx hb dX13_mayBeGiven_14 (by decide) (by omega) (fun h_9 => ?_) (fun h_9 => ?_)
    · refine lv_iconst (v := iI 0) hx hb dX13_mayBeGiven_70 rfl ?_
      rw [← hQ]
      exact W.zret (v := iI 0) (ty := .boolean) hx hb hr (nb_bool (by omega) (by omega)) (fun t ht hW => ⟨⟨iI 0, (g, a), rfl, ⟨0, rfl, rfl, hI, haA, by omega, by omega⟩, by rw [ht]; exact hP, va_K.moved hW.alike hK, hD⟩, hS.F ht⟩) hS.2.2 dX13_mayBeGiven_71
    · refine lv_aload_n hx hb dX13_mayBeGiven_17 rfl (lv_at hl 0 rfl) ?_
      refine gf_setWith hx hb hj hown hK hP dX13_mayBeGiven_18 ?_
      refine lv_iload_n hx hb dX13_mayBeGiven_21 rfl (lv_at hl 1 rfl) ?_
      refine ld_setWith hx hb hK hP hI (by omega) (by omega) dX13_mayBeGiven_22 (fun h_10 => ?_)
      refine lv_iconst (v := iI (-1)) hx hb dX13_mayBeGiven_23 rfl ?_
      refine xr_icmp_ne (tgt := 70) hx hb dX13_mayBeGiven_24 (by decide) (by omega) (by omega) (fun h_11 => ?_) (fun h_11 => ?_)
      · refine lv_iconst (v := iI 0) hx hb dX13_mayBeGiven_70 rfl ?_
        rw [← hQ]
        exact W.zret (v := iI 0) (ty := .boolean) hx hb hr (nb_bool (by omega) (by omega)) (fun t ht hW => ⟨⟨iI 0, (g, a), rfl, ⟨0, rfl, rfl, hI, haA, by omega, by omega⟩, by rw [ht]; exact hP, va_K.moved hW.alike hK, hD⟩, hS.F ht⟩) hS.2.2 dX13_mayBeGiven_71
      · refine lv_aload_n hx hb dX13_mayBeGiven_27 rfl (lv_at hl 0 rfl) ?_
        refine lv_iload_n hx hb dX13_mayBeGiven_28 rfl (lv_at hl 1 rfl) ?_
        refine jc_i (va_runV (As := [.int (iI p1)]) (rest := []) ⟨hx, hb, hml, hown, hts⟩ (sX13_isDone l dC dI _ ad ca g a p1 hI (by omega) (by omega)) (cwV 1 hts (jgoodV m_263 m_376 m_377 m_503 m_154) rfl rfl rfl (by decide +kernel) ⟨(Nat.le_of_ble_eq_true rfl), (Nat.le_of_ble_eq_true rfl)⟩) ⟨jw_blind, va_recv hK hP (ci := 13) (q0 := 0) rfl rfl, fun U hU hW => ⟨rfl, jw_of hU hW hP hK hD⟩⟩ rfl rfl hl.1 rfl (lv_room (Nat.le_of_ble_eq_true rfl)) dX13_mayBeGiven_29 ⟨(Nat.le_of_ble_eq_true rfl), (Nat.le_of_ble_eq_true rfl)⟩) hP hS hA (fun r_12 H locs w_13 hP hS => ?_)
        obtain ⟨z_14, rfl, h_15⟩ := w_13
        refine xr_if_ne (tgt := 70) hx hb dX13_mayBeGiven_32 (by decide) (by omega) (fun h_16 => ?_) (fun h_16 => ?_)
        · refine lv_iconst (v := iI 0) hx hb dX13_mayBeGiven_70 rfl ?_
          rw [← hQ]
          exact W.zret (v := iI 0) (ty := .boolean) hx hb hr (nb_bool (by omega) (by omega)) (fun t ht hW => ⟨⟨iI 0, (g, a), rfl, ⟨0, rfl, rfl, hI, haA, by omega, by omega⟩, by rw [ht]; exact hP, va_K.moved hW.alike hK, hD⟩, hS.F ht⟩) hS.2.2 dX13_mayBeGiven_71
        · refine lv_aload_n hx hb dX13_mayBeGiven_35 rfl (lv_at hl 0 rfl) ?_
          refine lv_iload_n hx hb dX13_mayBeGiven_36 rfl (lv_at hl 2 rfl) ?_
          refine jc_i (va_runV (As := [.int (iI p2)]) (rest := []) ⟨hx, hb, hml, hown, hts⟩ (sX13_isHand l dC dI _ ad ca g a p2 hI (by omega)) (cwV 1 hts (jgoodV m_261 m_382 m_383 m_503 m_157) rfl rfl rfl (by decide +kernel) ⟨(Nat.le_of_ble_eq_true rfl), (Nat.le_of_ble_eq_true rfl)⟩) ⟨jw_blind, va_recv hK hP (ci := 13) (q0 := 0) rfl rfl, fun U hU hW => ⟨rfl, jw_of hU hW hP hK hD⟩⟩ rfl rfl hl.1 rfl (lv_room (Nat.le_of_ble_eq_true rfl)) dX13_mayBeGiven_37 ⟨(Nat.le_of_ble_eq_true rfl), (Nat.le_of_ble_eq_true rfl)⟩) hP hS hA (fun r_17 H locs w_18 hP hS => ?_)
          obtain ⟨z_19, rfl, h_20, h_21⟩ := w_18
          have b_22 : 0 ≤ g 50 ∧ g 50 ≤ 12 := hI.1 50
          refine xr_if_eq (tgt := 70) hx hb dX13_mayBeGiven_40 (by decide) (by omega) (fun h_23 => ?_) (fun h_23 => ?_)
          · refine lv_iconst (v := iI 0) hx hb dX13_mayBeGiven_70 rfl ?_
            rw [← hQ]
            exact W.zret (v := iI 0) (ty := .boolean) hx hb hr (nb_bool (by omega) (by omega)) (fun t ht hW => ⟨⟨iI 0, (g, a), rfl, ⟨0, rfl, rfl, hI, haA, by omega, by omega⟩, by rw [ht]; exact hP, va_K.moved hW.alike hK, hD⟩, hS.F ht⟩) hS.2.2 dX13_mayBeGiven_71
          · refine lv_aload_n hx hb dX13_mayBeGiven_43 rfl (lv_at hl 0 rfl) ?_
            refine gf_isDead hx hb hj hown hK hP dX13_mayBeGiven_44 ?_
            refine lv_iload_n hx hb dX13_mayBeGiven_47 rfl (lv_at hl 2 rfl) ?_
            refine ld_isDead hx hb hK hP hI (by omega) (by omega) dX13_mayBeGiven_48 (fun h_24 => ?_)
            refine xr_if_ne (tgt := 70) hx hb dX13_mayBeGiven_49 (by decide) (by omega) (fun h_25 => ?_) (fun h_25 => ?_)
            · refine lv_iconst (v := iI 0) hx hb dX13_mayBeGiven_70 rfl ?_
              rw [← hQ]
              exact W.zret (v := iI 0) (ty := .boolean) hx hb hr (nb_bool (by omega) (by omega)) (fun t ht hW => ⟨⟨iI 0, (g, a), rfl, ⟨0, rfl, rfl, hI, haA, by omega, by omega⟩, by rw [ht]; exact hP, va_K.moved hW.alike hK, hD⟩, hS.F ht⟩) hS.2.2 dX13_mayBeGiven_71
            · refine lv_aload_n hx hb dX13_mayBeGiven_52 rfl (lv_at hl 0 rfl) ?_
              refine gf_fields hx hb hj hown hK hP dX13_mayBeGiven_53 ?_
              refine lv_iload_n hx hb dX13_mayBeGiven_56 rfl (lv_at hl 2 rfl) ?_
              refine ld_fields hx hb hK hP hI (by omega) (by omega) dX13_mayBeGiven_57 (fun h_26 => ?_)
              refine lv_aload_n hx hb dX13_mayBeGiven_58 rfl (lv_at hl 0 rfl) ?_
              refine gf_field hx hb hj hown hK hP dX13_mayBeGiven_59 ?_
              refine lv_iload_n hx hb dX13_mayBeGiven_62 rfl (lv_at hl 1 rfl) ?_
              refine ld_field hx hb hK hP hI (by omega) (by omega) dX13_mayBeGiven_63 (fun h_27 => ?_)
              refine lv_ishr hx hb dX13_mayBeGiven_64 ?_
              refine xr_any (fun z_28 h_29 => ?_)
              refine lv_iconst (v := iI 1) hx hb dX13_mayBeGiven_65 rfl ?_
              refine lv_iand hx hb dX13_mayBeGiven_66 ?_
              refine xr_any (fun z_30 h_31 => ?_)
              refine xr_if_ne (tgt := 72) hx hb dX13_mayBeGiven_67 (by decide) (by omega) (fun h_32 => ?_) (fun h_32 => ?_)
              · refine lv_iconst (v := iI 0) hx hb dX13_mayBeGiven_72 rfl ?_
                refine lv_istore_n (lv' := [(3, .int (iI 0)), (0, .ref (ad 0)), (1, .int (iI p1)), (2, .int (iI p2))]) hx hb dX13_mayBeGiven_73 rfl hl (by decide) rfl (fun ls hl => ?_)
                have L74 : ∀ (n74 : Nat) (v3_74 : Int) (H : Heap) (locs : List Loc) (ls : Array Slot), (0 ≤ v3_74 ∧ v3_74 ≤ 2147483647) → (0 < (n74 : Int) ∧ (g 56) - v3_74 < (n74 : Int)) → va_P (dC, dI) vwCl (mG ad ca g a) H → va_D A (mG ad ca g a) → va_S A s.heap H locs → lv_has ls 4 [(3, .int (iI v3_74)), (0, .ref (ad 0)), (1, .int (iI p1)), (2, .int (iI p2))] → W p l e ({ frames := 8, cells := 0, slots := 0, locals := 195 }) s m ([.ref (ad 0), .int (iI p1), .int (iI p2)] : List Value).toArray below meth c H locs 0 0 Q (F0 m 74 ls []) := by
                  intro n74
                  induction n74 with
                  | zero =>
                    intro v3_74 H locs ls h_33 hm74 hP hD hS hl
                    exfalso; omega
                  | succ n74 ih74 =>
                    intro v3_74 H locs ls h_34 hm74 hP hD hS hl
                    refine lv_iload_n hx hb dX13_mayBeGiven_74 rfl (lv_at hl 0 rfl) ?_
                    refine lv_aload_n hx hb dX13_mayBeGiven_75 rfl (lv_at hl 1 rfl) ?_
                    refine gf_lines hx hb hj hown hK hP hI dX13_mayBeGiven_76 (fun h_35 => ?_)
                    refine xr_icmp_ge (tgt := 119) hx hb dX13_mayBeGiven_79 (by decide) (by omega) (by omega) (fun h_36 => ?_) (fun h_36 => ?_)
                    · refine lv_aload_n hx hb dX13_mayBeGiven_119 rfl (lv_at hl 1 rfl) ?_
                      refine lv_iload_n hx hb dX13_mayBeGiven_120 rfl (lv_at hl 2 rfl) ?_
                      refine lv_iload_n hx hb dX13_mayBeGiven_121 rfl (lv_at hl 3 rfl) ?_
                      refine jcg_v (va_runV (As := [.int (iI p1), .int (iI p2)]) (rest := []) ⟨hx, hb, hml, hown, hts⟩ (sX13_asks l dC dI _ ad ca g a p1 p2 hI (by omega) (by omega) (by omega) (by omega) hrSh) (cwV 2 hts (jgoodV m_267 m_287 m_288 m_503 m_108) rfl rfl rfl (by decide +kernel) ⟨(Nat.le_of_ble_eq_true rfl), (Nat.le_of_ble_eq_true rfl)⟩) ⟨jw_blind, va_recv hK hP (ci := 13) (q0 := 0) rfl rfl, fun U hU hW => ⟨rfl, jw_of hU hW hP hK hD⟩⟩ rfl rfl hl.1 rfl (lv_room (Nat.le_of_ble_eq_true rfl)) dX13_mayBeGiven_122 ⟨(Nat.le_of_ble_eq_true rfl), (Nat.le_of_ble_eq_true rfl)⟩) hD hS hA (fun u_42 H locs w_38 hP hK hD hS => ?_)
                      obtain ⟨g_40, a_41⟩ := u_42
                      obtain ⟨e_44, hI, hfr_43⟩ := w_38
                      have hP : va_P (dC, dI) vwCl (mG ad ca g_40 a_41) H := hP
                      have hD : va_D A (mG ad ca g_40 a_41) := hD
                      have e_44 : g = g_40 := e_44.symm
                      subst e_44
                      have haA : ∀ j, j ∉ ([62, 63, 64] : List Nat) → a_41 j = a j := fun j h => (hfr_43 j (fun q => h (by first | exact q | (simp only [List.mem_cons, List.not_mem_nil, or_false] at q ⊢ <;> omega)))).trans (haA j h)
                      refine lv_aload_n hx hb dX13_mayBeGiven_125 rfl (lv_at hl 1 rfl) ?_
                      refine lv_iconst (v := iI 2) hx hb dX13_mayBeGiven_126 rfl ?_
                      refine lv_aload_n hx hb dX13_mayBeGiven_127 rfl (lv_at hl 1 rfl) ?_
                      refine lv_iload_n hx hb dX13_mayBeGiven_128 rfl (lv_at hl 2 rfl) ?_
                      refine jcg_i (va_runV (As := [.int (iI p1)]) (rest := [.int (iI 2), .ref (ad 0)]) ⟨hx, hb, hml, hown, hts⟩ (sX13_volumeOf l dC dI _ ad ca g a_41 p1 hI (by omega) (by omega) (rSh_t rfl rfl (haA 9 (by decide)) (haA 10 (by decide)) (haA 11 (by decide)) (haA 12 (by decide)) (haA 16 (by decide)) hrSh)) (cwV 1 hts (jgoodV m_257 m_494 m_495 m_503 m_215) rfl rfl rfl (by decide +kernel) ⟨(Nat.le_of_ble_eq_true rfl), (Nat.le_of_ble_eq_true rfl)⟩) ⟨jw_blind, va_recv hK hP (ci := 13) (q0 := 0) rfl rfl, fun U hU hW => ⟨rfl, jw_of hU hW hP hK hD⟩⟩ rfl rfl hl.1 rfl (lv_room (Nat.le_of_ble_eq_true rfl)) dX13_mayBeGiven_129 ⟨(Nat.le_of_ble_eq_true rfl), (Nat.le_of_ble_eq_true rfl)⟩) hD hS hA (fun r_45 u_51 H locs w_46 hP hK hD hS => ?_)
                      obtain ⟨g_49, a_50⟩ := u_51
                      obtain ⟨z_47, rfl, e_53, hI, hfr_52, h_48⟩ := w_46
                      have hP : va_P (dC, dI) vwCl (mG ad ca g_49 a_50) H := hP
                      have hD : va_D A (mG ad ca g_49 a_50) := hD
                      have e_53 : g = g_49 := e_53.symm
                      subst e_53
                      have haA : ∀ j, j ∉ ([62, 63, 64] : List Nat) → a_50 j = a j := fun j h => (hfr_52 j (fun q => h (by first | exact q | (simp only [List.mem_cons, List.not_mem_nil, or_false] at q ⊢ <;> omega)))).trans (haA j h)
                      refine lv_aload_n hx hb dX13_mayBeGiven_132 rfl (lv_at hl 1 rfl) ?_
                      refine gf_now hx hb hj hown hK hP hI dX13_mayBeGiven_133 (fun h_54 => ?_)
                      refine jcg_i (va_runV (As := [.int (iI 2), .int (iI z_47), .int (iI (g 30))]) (rest := []) ⟨hx, hb, hml, hown, hts⟩ (sX13_tells l dC dI _ ad ca g a_50 2 z_47 (g 30) hI (by omega) (by omega) (by omega) (by omega) (rSh_t rfl rfl (haA 9 (by decide)) (haA 10 (by decide)) (haA 11 (by decide)) (haA 12 (by decide)) (haA 16 (by decide)) hrSh)) (cwV 3 hts (jgoodV m_249 m_484 m_485 m_503 m_210) rfl rfl rfl (by decide +kernel) ⟨(Nat.le_of_ble_eq_true rfl), (Nat.le_of_ble_eq_true rfl)⟩) ⟨jw_blind, va_recv hK hP (ci := 13) (q0 := 0) rfl rfl, fun U hU hW => ⟨rfl, jw_of hU hW hP hK hD⟩⟩ rfl rfl hl.1 rfl (lv_room (Nat.le_of_ble_eq_true rfl)) dX13_mayBeGiven_136 ⟨(Nat.le_of_ble_eq_true rfl), (Nat.le_of_ble_eq_true rfl)⟩) hD hS hA (fun r_55 u_61 H locs w_56 hP hK hD hS => ?_)
                      obtain ⟨g_59, a_60⟩ := u_61
                      obtain ⟨z_57, rfl, e_63, hI, hfr_62, h_58⟩ := w_56
                      have hP : va_P (dC, dI) vwCl (mG ad ca g_59 a_60) H := hP
                      have hD : va_D A (mG ad ca g_59 a_60) := hD
                      have e_63 : g = g_59 := e_63.symm
                      subst e_63
                      have haA : ∀ j, j ∉ ([62, 63, 64] : List Nat) → a_60 j = a j := fun j h => (hfr_62 j (fun q => h (by first | exact q | (simp only [List.mem_cons, List.not_mem_nil, or_false] at q ⊢ <;> omega)))).trans (haA j h)
                      refine xr_if_eq (tgt := 146) hx hb dX13_mayBeGiven_139 (by decide) (by omega) (fun h_64 => ?_) (fun h_64 => ?_)
                      · refine lv_iconst (v := iI 0) hx hb dX13_mayBeGiven_146 rfl ?_
                        rw [← hQ]
                        exact W.zret (v := iI 0) (ty := .boolean) hx hb hr (nb_bool (by omega) (by omega)) (fun t ht hW => ⟨⟨iI 0, (g, a_60), rfl, ⟨0, rfl, rfl, hI, haA, by omega, by omega⟩, by rw [ht]; exact hP, va_K.moved hW.alike hK, hD⟩, hS.F ht⟩) hS.2.2 dX13_mayBeGiven_147
                      · refine lv_iconst (v := iI 1) hx hb dX13_mayBeGiven_142 rfl ?_
                        refine lv_goto (tgt := 147) hx hb dX13_mayBeGiven_143 (by decide) ?_
                        rw [← hQ]
                        exact W.zret (v := iI 1) (ty := .boolean) hx hb hr (nb_bool (by omega) (by omega)) (fun t ht hW => ⟨⟨iI 1, (g, a_60), rfl, ⟨1, rfl, rfl, hI, haA, by omega, by omega⟩, by rw [ht]; exact hP, va_K.moved hW.alike hK, hD⟩, hS.F ht⟩) hS.2.2 dX13_mayBeGiven_147
                    · refine lv_aload_n hx hb dX13_mayBeGiven_82 rfl (lv_at hl 1 rfl) ?_
                      refine gf_lineOf hx hb hj hown hK hP dX13_mayBeGiven_83 ?_
                      refine lv_iload_n hx hb dX13_mayBeGiven_86 rfl (lv_at hl 0 rfl) ?_
                      refine ld_lineOf hx hb hK hP hI (by omega) (by omega) dX13_mayBeGiven_87 (fun h_65 => ?_)
                      refine lv_iload_n hx hb dX13_mayBeGiven_88 rfl (lv_at hl 2 rfl) ?_
                      have J113 : ∀ (H : Heap) (locs : List Loc) (ls : Array Slot), va_P (dC, dI) vwCl (mG ad ca g a) H → va_D A (mG ad ca g a) → va_S A s.heap H locs → lv_has ls 4 [(3, .int (iI v3_74)), (0, .ref (ad 0)), (1, .int (iI p1)), (2, .int (iI p2))] → W p l e ({ frames := 8, cells := 0, slots := 0, locals := 195 }) s m ([.ref (ad 0), .int (iI p1), .int (iI p2)] : List Value).toArray below meth c H locs 0 0 Q (F0 m 113 ls []) := by
                        intro H locs ls hP hD hS hl
                        refine lv_iinc (v := iI (v3_74 + 1)) (lv' := [(3, .int (iI (v3_74 + 1))), (0, .ref (ad 0)), (1, .int (iI p1)), (2, .int (iI p2))]) hx hb dX13_mayBeGiven_113 hl (k := 0) rfl (iI_add _ _) (by decide) rfl (fun ls hl => ?_)
                        refine lv_goto (tgt := 74) hx hb dX13_mayBeGiven_116 (by decide) ?_
                        exact ih74 (v3_74 + 1) H locs ls (by omega) (by omega) hP hD hS hl
                      refine xr_icmp_ne (tgt := 113) hx hb dX13_mayBeGiven_89 (by decide) (by omega) (by omega) (fun h_66 => ?_) (fun h_66 => ?_)
                      · exact J113 H locs ls hP hD hS hl
                      · refine lv_aload_n hx hb dX13_mayBeGiven_92 rfl (lv_at hl 1 rfl) ?_
                        refine gf_areEnemies hx hb hj hown hK hP dX13_mayBeGiven_93 ?_
                        refine lv_bipush (v := iI 12) hx hb dX13_mayBeGiven_96 rfl ?_
                        refine lv_iload_n hx hb dX13_mayBeGiven_98 rfl (lv_at hl 3 rfl) ?_
                        refine xr_mul hx hb dX13_mayBeGiven_99 ?_
                        refine xr_kept (fun z_67 h_68 h_69 => ?_)
                        refine lv_aload_n hx hb dX13_mayBeGiven_100 rfl (lv_at hl 1 rfl) ?_
                        refine gf_lineHand hx hb hj hown hK hP dX13_mayBeGiven_101 ?_
                        refine lv_iload_n hx hb dX13_mayBeGiven_104 rfl (lv_at hl 0 rfl) ?_
                        refine ld_lineHand hx hb hK hP hI (by omega) (by omega) dX13_mayBeGiven_105 (fun h_70 => ?_)
                        refine xr_add hx hb dX13_mayBeGiven_106 ?_
                        refine xr_kept (fun z_71 h_72 h_73 => ?_)
                        refine ld_areEnemies hx hb hK hP hI (by omega) (by omega) dX13_mayBeGiven_107 (fun h_74 => ?_)
                        refine xr_if_eq (tgt := 113) hx hb dX13_mayBeGiven_108 (by decide) (by omega) (fun h_75 => ?_) (fun h_75 => ?_)
                        · exact J113 H locs ls hP hD hS hl
                        · refine lv_iconst (v := iI 0) hx hb dX13_mayBeGiven_111 rfl ?_
                          rw [← hQ]
                          exact W.zret (v := iI 0) (ty := .boolean) hx hb hr (nb_bool (by omega) (by omega)) (fun t ht hW => ⟨⟨iI 0, (g, a), rfl, ⟨0, rfl, rfl, hI, haA, by omega, by omega⟩, by rw [ht]; exact hP, va_K.moved hW.alike hK, hD⟩, hS.F ht⟩) hS.2.2 dX13_mayBeGiven_112
                exact L74 ((((g 56) - 0 : Int)).toNat + 1) 0 H locs ls (by omega) (by omega) hP hD hS hl
              · refine lv_iconst (v := iI 0) hx hb dX13_mayBeGiven_70 rfl ?_
                rw [← hQ]
                exact W.zret (v := iI 0) (ty := .boolean) hx hb hr (nb_bool (by omega) (by omega)) (fun t ht hW => ⟨⟨iI 0, (g, a), rfl, ⟨0, rfl, rfl, hI, haA, by omega, by omega⟩, by rw [ht]; exact hP, va_K.moved hW.alike hK, hD⟩, hS.F ht⟩) hS.2.2 dX13_mayBeGiven_71
