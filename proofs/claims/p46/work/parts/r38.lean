set_option maxHeartbeats 2000000 in
set_option maxRecDepth 100000 in
theorem sX13_clauses (l : Launch) (dC : Nat → ClassId) (dI : Nat → Nat → Nat) (sz : Nat) (ad : Nat → Nat) (ca : Nat → ClassId) (sK sV : Nat → Nat) (g : Nat → Int) (a : Nat → Int → Int) (hI : mI g a) (k1 : a 2 (g 7) = 0) (hrP1 : rP1 g a) : Met l yX13_clauses (jk yX13_clauses cX13_clauses 2 (some .boolean)) ({ frames := 8, cells := 0, slots := 0, locals := 177 }) (va_Pc [.ref (ad 0)] (mP (dC, dI) (mG ad ca g a) (mT ca) sK sV sz)) (va_Qi (fun (r : Int32) (u : (Nat → Int) × (Nat → Int → Int)) => ∃ z : Int, r = iI z ∧ (mI u.1 u.2) ∧ (∀ j, j ∉ ([2, 3, 4, 5, 7, 9, 12, 15] : List Nat) → u.1 j = g j) ∧ (∀ j, j ∉ ([2, 3, 4, 5, 6, 7, 8] : List Nat) → u.2 j = a j) ∧ (0 ≤ z ∧ z ≤ 1) ∧ (z = 0 ∨ (rPn u.1 u.2 (u.1 7) ∧ mz u.1 u.2 (u.1 7) < mz g a (g 7 + 1)))) (fun u t => va_P (dC, dI) vwCl (mG ad ca u.1 u.2) t.heap ∧ va_K (dC, dI) vwCl (mT ca) t ∧ va_D (va_A (mG ad ca g a) sz) (mG ad ca u.1 u.2)) (va_A (mG ad ca g a) sz)) 0 0 (va_A (mG ad ca g a) sz) := by
  refine Met.ofW (cc := cX13_clauses) (maxL := 2) (ret := (some .boolean)) (by decide) rfl ?_
  intro p e s m args below meth c s₁ B hml hv
  obtain ⟨rfl, ⟨hsz, hP, hK, hD0⟩, hX0⟩ := hv
  have hx := B.exec
  have hb := B.bytes
  have hr := B.returns
  have hts := atoms_spec (ws := (jk yX13_clauses cX13_clauses 2 (some .boolean))) B.pre
  have hj : ∀ w ∈ jw, w.before ([.ref (ad 0)] : List Value).toArray s = true := fun w h => hts w (jm h)
  have hown : s.vm.findClass RX13 = some m.cls := findClass_of_methodNamed B.named
  subst hsz
  have hD := hD0.self (sz := s.heap.size)
  have hXs := hX0
  generalize hAe : (va_A (mG ad ca g a) s.heap.size) = A at hD hXs ⊢
  have hA : ∀ q : Nat, s.heap.size ≤ q → A q := fun q h => by rw [← hAe]; exact Or.inr h
  have hS : va_S A s.heap s.heap [] := va_S.rf
  have hP : va_P (dC, dI) vwCl (mG ad ca g a) s.heap := hP
  have hfA : ∀ j, j ∉ ([2, 3, 4, 5, 7, 9, 12, 15] : List Nat) → g j = g j := fun _ _ => rfl
  have haA : ∀ j, j ∉ ([2, 3, 4, 5, 6, 7, 8] : List Nat) → a j = a j := fun _ _ => rfl
  have hl := lv_entry ([.ref (ad 0)]) (n := 2) (Nat.le_of_ble_eq_true rfl)
  rw [lg_entry_eq]
  generalize (lg_sl ([.ref (ad 0)]) ++ List.replicate (2 - (lg_sl ([.ref (ad 0)])).length) Slot.unset).toArray = ls at hl ⊢
  have hl : lv_has ls 2 [(0, .ref (ad 0))] := hl
  generalize hQ : MQ below (va_Qi (fun (r : Int32) (u : (Nat → Int) × (Nat → Int → Int)) => ∃ z : Int, r = iI z ∧ (mI u.1 u.2) ∧ (∀ j, j ∉ ([2, 3, 4, 5, 7, 9, 12, 15] : List Nat) → u.1 j = g j) ∧ (∀ j, j ∉ ([2, 3, 4, 5, 6, 7, 8] : List Nat) → u.2 j = a j) ∧ (0 ≤ z ∧ z ≤ 1) ∧ (z = 0 ∨ (rPn u.1 u.2 (u.1 7) ∧ mz u.1 u.2 (u.1 7) < mz g a (g 7 + 1)))) (fun u t => va_P (dC, dI) vwCl (mG ad ca u.1 u.2) t.heap ∧ va_K (dC, dI) vwCl (mT ca) t ∧ va_D A (mG ad ca u.1 u.2)) A) ([.ref (ad 0)] : List Value).toArray s 0 0 A = Q
  suffices ST : ∀ (H : Heap) (locs : List Loc), va_P (dC, dI) vwCl (mG ad ca g a) H → va_S A s.heap H locs → W p l e ({ frames := 8, cells := 0, slots := 0, locals := 177 }) s m ([.ref (ad 0)] : List Value).toArray below meth c H locs 0 0 Q (F0 m 0 ls []) from ST _ _ hP hS
  clear hP hS
  intro H locs hP hS
  obtain ⟨bb1, bb2, bb3, bb4, bb5, bb6⟩ := bd_1 hrP1
  have bb7 := tkk_b (g 3)
  have b7_0 : 0 ≤ g 7 ∧ g 7 ≤ 1200 := hI.1 7
  have b1_0 : 0 ≤ g 1 ∧ g 1 ≤ 600 := hI.1 1
  have b2_0 : 0 ≤ g 2 ∧ g 2 ≤ 600 := hI.1 2
  refine lv_aload_n hx hb dX13_clauses_0 rfl (lv_at hl 0 rfl) ?_
  refine gf_token hx hb hj hown hK hP hI dX13_clauses_1 (fun h_1 => ?_)
  refine xr_if_ne (tgt := 9) hx hb dX13_clauses_4 (by decide) (by omega) (fun h_2 => ?_) (fun h_2 => ?_)
  · refine lv_aload_n hx hb dX13_clauses_9 rfl (lv_at hl 0 rfl) ?_
    refine gf_token hx hb hj hown hK hP hI dX13_clauses_10 (fun h_3 => ?_)
    refine lv_iconst (v := iI 2) hx hb dX13_clauses_13 rfl ?_
    refine xr_icmp_ne (tgt := 30) hx hb dX13_clauses_14 (by decide) (by omega) (by omega) (fun h_4 => ?_) (fun h_4 => ?_)
    · refine lv_iconst (v := iI 0) hx hb dX13_clauses_30 rfl ?_
      rw [← hQ]
      exact W.zret (v := iI 0) (ty := .boolean) hx hb hr (nb_bool (by omega) (by omega)) (fun t ht hW => ⟨⟨iI 0, (g, a), rfl, ⟨0, rfl, hI, hfA, haA, by omega, by show 0 = 0 ∨ (rPn g a (g 7) ∧ mz g a (g 7) < mz g a (g 7 + 1)); first | exact Or.inl rfl | exact Or.inr (st_0n hrP1 (by omega) k1 ⟨by omega, by omega, by omega, by omega, rfl, rfl, rfl, rfl, rfl, rfl⟩ (by omega) (by omega) (by omega) (by omega) (by omega) rfl) | exact Or.imp id (fun q => ⟨q.1, mB_lt (a' := a) hrP1 (by omega) k1 (by omega) (by omega) (by omega) q.2⟩) (show 0 = 0 ∨ (rPn g a (g 7) ∧ mz g a (g 7) ≤ mB _) by assumption)⟩, by rw [ht]; exact hP, va_K.moved hW.alike hK, hD⟩, hS.F ht⟩) hS.2.2 dX13_clauses_31
    · refine lv_aload_n hx hb dX13_clauses_17 rfl (lv_at hl 0 rfl) ?_
      refine gf_tokenValue hx hb hj hown hK hP hI dX13_clauses_18 (fun h_5 => ?_)
      refine lv_iconst (v := iI 0) hx hb dX13_clauses_21 rfl ?_
      refine lv_bipush (v := iI 8) hx hb dX13_clauses_22 rfl ?_
      refine jc_i (va_runS (As := [.int (iI (g 5)), .int (iI 0), .int (iI 8)]) (rest := []) ⟨hx, hb, hml, hown, hts⟩ (sX13_in l dC dI _ (g 5) 0 8 (by omega) (by omega) (by omega)) (va_cwS 3 hts (jgoodS m_220 m_364 m_503 m_147) rfl rfl rfl (by decide +kernel) ⟨(Nat.le_of_ble_eq_true rfl), (Nat.le_of_ble_eq_true rfl)⟩) ⟨jw_blind0, fun U hU hW => ⟨rfl, congrArg Array.size hU⟩⟩ rfl rfl hl.1 rfl (lv_room (Nat.le_of_ble_eq_true rfl)) dX13_clauses_24 ⟨(Nat.le_of_ble_eq_true rfl), (Nat.le_of_ble_eq_true rfl)⟩) hP hS hA (fun r_6 H locs w_7 hP hS => ?_)
      obtain ⟨z_8, rfl, h_9, h_10⟩ := w_7
      refine xr_if_ne (tgt := 32) hx hb dX13_clauses_27 (by decide) (by omega) (fun h_11 => ?_) (fun h_11 => ?_)
      · refine lv_aload_n hx hb dX13_clauses_32 rfl (lv_at hl 0 rfl) ?_
        refine gf_tokenValue hx hb hj hown hK hP hI dX13_clauses_33 (fun h_12 => ?_)
        refine lv_istore_n (lv' := [(1, .int (iI (g 5))), (0, .ref (ad 0))]) hx hb dX13_clauses_36 rfl hl (by decide) rfl (fun ls hl => ?_)
        refine lv_aload_n hx hb dX13_clauses_37 rfl (lv_at hl 1 rfl) ?_
        refine lv_iconst (v := iI 0) hx hb dX13_clauses_38 rfl ?_
        refine jcg_v (va_runV (As := [.int (iI 0)]) (rest := []) ⟨hx, hb, hml, hown, hts⟩ (sX13_push l dC dI _ ad ca g a 0 hI (by omega) (by omega)) (cwV 1 hts (jgoodV m_225 m_452 m_453 m_503 m_194) rfl rfl rfl (by decide +kernel) ⟨(Nat.le_of_ble_eq_true rfl), (Nat.le_of_ble_eq_true rfl)⟩) ⟨jw_blind, va_recv hK hP (ci := 13) (q0 := 0) rfl rfl, fun U hU hW => ⟨rfl, jw_of hU hW hP hK hD⟩⟩ rfl rfl hl.1 rfl (lv_room (Nat.le_of_ble_eq_true rfl)) dX13_clauses_39 ⟨(Nat.le_of_ble_eq_true rfl), (Nat.le_of_ble_eq_true rfl)⟩) hD hS hA (fun u_20 H locs w_14 hP hK hD hS => ?_)
        obtain ⟨g_18, a_19⟩ := u_20
        obtain ⟨hI, hfr_21, hfr_22, h_16, h_17⟩ := w_14
        have hP : va_P (dC, dI) vwCl (mG ad ca g_18 a_19) H := hP
        have hD : va_D A (mG ad ca g_18 a_19) := hD
        have hfA : ∀ j, j ∉ ([2, 3, 4, 5, 7, 9, 12, 15] : List Nat) → g_18 j = g j := fun j h => (hfr_21 j (fun q => h (by first | exact q | (simp only [List.mem_cons, List.not_mem_nil, or_false] at q ⊢ <;> omega)))).trans (hfA j h)
        have b_24 : g_18 1 = g 1 := hfA 1 (by decide)
        have b_25 : g_18 8 = g 8 := hfA 8 (by decide)
        have b_26 := hfr_21 2 (by decide)
        have b_27 := hfr_21 3 (by decide)
        have b_28 := hfr_21 5 (by decide)
        have b_29 := hfr_21 9 (by decide)
        have b_30 := hfr_21 12 (by decide)
        have b_31 := hfr_21 15 (by decide)
        have haA : ∀ j, j ∉ ([2, 3, 4, 5, 6, 7, 8] : List Nat) → a_19 j = a j := fun j h => (hfr_22 j (fun q => h (by first | exact q | (simp only [List.mem_cons, List.not_mem_nil, or_false] at q ⊢ <;> omega)))).trans (haA j h)
        have h_16 : g_18 7 = g 7 + 1 := h_16
        have h_17 : a_19 2 = up (a 2) (g 7) 0 := h_17
        have b_32 : g_18 1 = g 1 := hfr_21 1 (by decide)
        have b_33 : g_18 2 = g 2 := hfr_21 2 (by decide)
        have b_34 : g_18 3 = g 3 := hfr_21 3 (by decide)
        have b_35 : g_18 4 = g 4 := hfr_21 4 (by decide)
        have b_36 : g_18 8 = g 8 := hfr_21 8 (by decide)
        have b_37 : g_18 9 = g 9 := hfr_21 9 (by decide)
        have b_38 : g_18 12 = g 12 := hfr_21 12 (by decide)
        have b_39 : g_18 15 = g 15 := hfr_21 15 (by decide)
        have t_40 : a_19 2 = up (a 2) (g 7) 0 := h_17.trans (up_c rfl (by omega) (by omega))
        have t_41 : a_19 3 = a 3 := (hfr_22 3 (by decide)).trans rfl
        have t_42 : a_19 4 = a 4 := (hfr_22 4 (by decide)).trans rfl
        have t_43 : a_19 5 = a 5 := (hfr_22 5 (by decide)).trans rfl
        have t_44 : a_19 6 = a 6 := (hfr_22 6 (by decide)).trans rfl
        have t_45 : a_19 7 = a 7 := (hfr_22 7 (by decide)).trans rfl
        have t_46 : a_19 8 = a 8 := (hfr_22 8 (by decide)).trans rfl
        have b_47 : 0 ≤ g_18 7 ∧ g_18 7 ≤ 1200 := hI.1 7
        refine lv_aload_n hx hb dX13_clauses_42 rfl (lv_at hl 1 rfl) ?_
        refine lv_sipush (v := iI 159) hx hb dX13_clauses_43 rfl ?_
        refine jcg_v (va_runV (As := [.int (iI 159)]) (rest := []) ⟨hx, hb, hml, hown, hts⟩ (sX13_push l dC dI _ ad ca g_18 a_19 159 hI (by omega) (by omega)) (cwV 1 hts (jgoodV m_225 m_452 m_453 m_503 m_194) rfl rfl rfl (by decide +kernel) ⟨(Nat.le_of_ble_eq_true rfl), (Nat.le_of_ble_eq_true rfl)⟩) ⟨jw_blind, va_recv hK hP (ci := 13) (q0 := 0) rfl rfl, fun U hU hW => ⟨rfl, jw_of hU hW hP hK hD⟩⟩ rfl rfl hl.1 rfl (lv_room (Nat.le_of_ble_eq_true rfl)) dX13_clauses_46 ⟨(Nat.le_of_ble_eq_true rfl), (Nat.le_of_ble_eq_true rfl)⟩) hD hS hA (fun u_55 H locs w_49 hP hK hD hS => ?_)
        obtain ⟨g_53, a_54⟩ := u_55
        obtain ⟨hI, hfr_56, hfr_57, h_51, h_52⟩ := w_49
        have hP : va_P (dC, dI) vwCl (mG ad ca g_53 a_54) H := hP
        have hD : va_D A (mG ad ca g_53 a_54) := hD
        have hfA : ∀ j, j ∉ ([2, 3, 4, 5, 7, 9, 12, 15] : List Nat) → g_53 j = g j := fun j h => (hfr_56 j (fun q => h (by first | exact q | (simp only [List.mem_cons, List.not_mem_nil, or_false] at q ⊢ <;> omega)))).trans (hfA j h)
        have b_59 : g_53 1 = g 1 := hfA 1 (by decide)
        have b_60 : g_53 8 = g 8 := hfA 8 (by decide)
        have b_61 := hfr_56 2 (by decide)
        have b_62 := hfr_56 3 (by decide)
        have b_63 := hfr_56 5 (by decide)
        have b_64 := hfr_56 9 (by decide)
        have b_65 := hfr_56 12 (by decide)
        have b_66 := hfr_56 15 (by decide)
        have haA : ∀ j, j ∉ ([2, 3, 4, 5, 6, 7, 8] : List Nat) → a_54 j = a j := fun j h => (hfr_57 j (fun q => h (by first | exact q | (simp only [List.mem_cons, List.not_mem_nil, or_false] at q ⊢ <;> omega)))).trans (haA j h)
        have h_51 : g_53 7 = g_18 7 + 1 := h_51
        have h_52 : a_54 2 = up (a_19 2) (g_18 7) 159 := h_52
        have b_67 : g_53 1 = g_18 1 := hfr_56 1 (by decide)
        have b_68 : g_53 2 = g_18 2 := hfr_56 2 (by decide)
        have b_69 : g_53 3 = g_18 3 := hfr_56 3 (by decide)
        have b_70 : g_53 4 = g_18 4 := hfr_56 4 (by decide)
        have b_71 : g_53 8 = g_18 8 := hfr_56 8 (by decide)
        have b_72 : g_53 9 = g_18 9 := hfr_56 9 (by decide)
        have b_73 : g_53 12 = g_18 12 := hfr_56 12 (by decide)
        have b_74 : g_53 15 = g_18 15 := hfr_56 15 (by decide)
        have t_75 : a_54 2 = up (up (a 2) (g 7) 0) ((g 7 + 1)) 159 := h_52.trans (up_c t_40 (by omega) (by omega))
        have t_76 : a_54 3 = a 3 := (hfr_57 3 (by decide)).trans t_41
        have t_77 : a_54 4 = a 4 := (hfr_57 4 (by decide)).trans t_42
        have t_78 : a_54 5 = a 5 := (hfr_57 5 (by decide)).trans t_43
        have t_79 : a_54 6 = a 6 := (hfr_57 6 (by decide)).trans t_44
        have t_80 : a_54 7 = a 7 := (hfr_57 7 (by decide)).trans t_45
        have t_81 : a_54 8 = a 8 := (hfr_57 8 (by decide)).trans t_46
        have b_82 : 0 ≤ g_53 7 ∧ g_53 7 ≤ 1200 := hI.1 7
        refine lv_iload_n hx hb dX13_clauses_49 rfl (lv_at hl 0 rfl) ?_
        refine xr_if_ne (tgt := 58) hx hb dX13_clauses_50 (by decide) (by omega) (fun h_83 => ?_) (fun h_83 => ?_)
        · refine lv_iload_n hx hb dX13_clauses_58 rfl (lv_at hl 0 rfl) ?_
          refine lv_iconst (v := iI 1) hx hb dX13_clauses_59 rfl ?_
          have J68 : ∀ (H : Heap) (locs : List Loc) (ls : Array Slot), (g 5 = 1 ∨ g 5 = 2) → va_P (dC, dI) vwCl (mG ad ca g_53 a_54) H → va_D A (mG ad ca g_53 a_54) → va_S A s.heap H locs → lv_has ls 2 [(1, .int (iI (g 5))), (0, .ref (ad 0))] → W p l e ({ frames := 8, cells := 0, slots := 0, locals := 177 }) s m ([.ref (ad 0)] : List Value).toArray below meth c H locs 0 0 Q (F0 m 68 ls []) := by
            intro H locs ls h_84 hP hD hS hl
            have hrMc : rM g_53 a_54 := rM_of hrP1 (by omega) k1 ⟨by omega, by omega, by omega, by omega, t_76, t_77, t_78, t_79, t_80, t_81⟩ (by omega) (by omega) (by omega) (by omega) (by omega) (by omega) t_75
            refine lv_aload_n hx hb dX13_clauses_68 rfl (lv_at hl 1 rfl) ?_
            refine lv_iload_n hx hb dX13_clauses_69 rfl (lv_at hl 0 rfl) ?_
            refine jcg_i (va_runV (As := [.int (iI (g 5))]) (rest := []) ⟨hx, hb, hml, hown, hts⟩ (sX13_choice l dC dI _ ad ca sK sV g_53 a_54 (g 5) hI (by omega) (by omega) hrMc) (cwV 1 hts (jgoodV m_238 m_308 m_309 m_503 m_119) rfl rfl rfl (by decide +kernel) ⟨(Nat.le_of_ble_eq_true rfl), (Nat.le_of_ble_eq_true rfl)⟩) ⟨mP_blind, va_recv hK hP (ci := 13) (q0 := 0) rfl rfl, fun U hU hW => ⟨rfl, mP_of hU hW hP hK hD hXs hS (fun _ h => h) hA⟩⟩ rfl rfl hl.1 rfl (lv_room (Nat.le_of_ble_eq_true rfl)) dX13_clauses_70 ⟨(Nat.le_of_ble_eq_true rfl), (Nat.le_of_ble_eq_true rfl)⟩) hD hS hA (fun r_85 u_92 H locs w_86 hP hK hD hS => ?_)
            obtain ⟨g_90, a_91⟩ := u_92
            obtain ⟨z_87, rfl, hI, hfr_93, hfr_94, h_88, h_89⟩ := w_86
            have hP : va_P (dC, dI) vwCl (mG ad ca g_90 a_91) H := hP
            have hD : va_D A (mG ad ca g_90 a_91) := hD
            have hfA : ∀ j, j ∉ ([2, 3, 4, 5, 7, 9, 12, 15] : List Nat) → g_90 j = g j := fun j h => (hfr_93 j (fun q => h (by first | exact q | (simp only [List.mem_cons, List.not_mem_nil, or_false] at q ⊢ <;> omega)))).trans (hfA j h)
            have b_96 : g_90 1 = g 1 := hfA 1 (by decide)
            have b_97 : g_90 8 = g 8 := hfA 8 (by decide)
            have b_98 := hfr_93 7 (by decide)
            have b_99 := hfr_93 9 (by decide)
            have b_100 := hfr_93 15 (by decide)
            have haA : ∀ j, j ∉ ([2, 3, 4, 5, 6, 7, 8] : List Nat) → a_91 j = a j := fun j h => (hfr_94 j (fun q => h (by first | exact q | (simp only [List.mem_cons, List.not_mem_nil, or_false] at q ⊢ <;> omega)))).trans (haA j h)
            have h_89 : z_87 = 0 ∨ (rPn g_90 a_91 (g_90 7) ∧ mz g_90 a_91 (g_90 7) ≤ mB g_53) := h_89
            have b_101 : g_90 1 = g_53 1 := hfr_93 1 (by decide)
            have b_102 : g_90 7 = g_53 7 := hfr_93 7 (by decide)
            have b_103 : g_90 8 = g_53 8 := hfr_93 8 (by decide)
            have b_104 : g_90 9 = g_53 9 := hfr_93 9 (by decide)
            have b_105 : g_90 15 = g_53 15 := hfr_93 15 (by decide)
            have t_106 : a_91 2 = up (up (a 2) (g 7) 0) ((g 7 + 1)) 159 := (hfr_94 2 (by decide)).trans t_75
            have t_107 : a_91 7 = a 7 := (hfr_94 7 (by decide)).trans t_80
            have t_108 : a_91 8 = a 8 := (hfr_94 8 (by decide)).trans t_81
            rw [← hQ]
            exact W.zret (v := iI z_87) (ty := .boolean) hx hb hr (nb_bool (by omega) (by omega)) (fun t ht hW => ⟨⟨iI z_87, (g_90, a_91), rfl, ⟨z_87, rfl, hI, hfA, haA, by omega, by show z_87 = 0 ∨ (rPn g_90 a_91 (g_90 7) ∧ mz g_90 a_91 (g_90 7) < mz g a (g 7 + 1)); first | exact Or.inl rfl | exact Or.inr (st_0n hrP1 (by omega) k1 ⟨by omega, by omega, by omega, by omega, rfl, rfl, rfl, rfl, t_107, t_108⟩ (by omega) (by omega) (by omega) (by omega) (by omega) t_106) | exact Or.imp id (fun q => ⟨q.1, mB_lt (a' := a) hrP1 (by omega) k1 (by omega) (by omega) (by omega) q.2⟩) (show z_87 = 0 ∨ (rPn g_90 a_91 (g_90 7) ∧ mz g_90 a_91 (g_90 7) ≤ mB g_53) by assumption)⟩, by rw [ht]; exact hP, va_K.moved hW.alike hK, hD⟩, hS.F ht⟩) hS.2.2 dX13_clauses_73
          refine xr_icmp_eq (tgt := 68) hx hb dX13_clauses_60 (by decide) (by omega) (by omega) (fun h_109 => ?_) (fun h_109 => ?_)
          · exact J68 H locs ls (by omega) hP hD hS hl
          · refine lv_iload_n hx hb dX13_clauses_63 rfl (lv_at hl 0 rfl) ?_
            refine lv_iconst (v := iI 2) hx hb dX13_clauses_64 rfl ?_
            refine xr_icmp_ne (tgt := 74) hx hb dX13_clauses_65 (by decide) (by omega) (by omega) (fun h_110 => ?_) (fun h_110 => ?_)
            · refine lv_iload_n hx hb dX13_clauses_74 rfl (lv_at hl 0 rfl) ?_
              refine lv_iconst (v := iI 5) hx hb dX13_clauses_75 rfl ?_
              refine xr_icmp_gt (tgt := 128) hx hb dX13_clauses_76 (by decide) (by omega) (by omega) (fun h_111 => ?_) (fun h_111 => ?_)
              · have hrMc : rM g_53 a_54 := rM_of hrP1 (by omega) k1 ⟨by omega, by omega, by omega, by omega, t_76, t_77, t_78, t_79, t_80, t_81⟩ (by omega) (by omega) (by omega) (by omega) (by omega) (by omega) t_75
                refine lv_aload_n hx hb dX13_clauses_128 rfl (lv_at hl 1 rfl) ?_
                refine lv_iload_n hx hb dX13_clauses_129 rfl (lv_at hl 0 rfl) ?_
                refine lv_bipush (v := iI 6) hx hb dX13_clauses_130 rfl ?_
                have J150 : ∀ (s0_150 : Int) (H : Heap) (locs : List Loc) (ls : Array Slot), (2 ≤ s0_150 ∧ s0_150 ≤ 4) → va_P (dC, dI) vwCl (mG ad ca g_53 a_54) H → va_D A (mG ad ca g_53 a_54) → va_S A s.heap H locs → lv_has ls 2 [(1, .int (iI (g 5))), (0, .ref (ad 0))] → W p l e ({ frames := 8, cells := 0, slots := 0, locals := 177 }) s m ([.ref (ad 0)] : List Value).toArray below meth c H locs 0 0 Q (F0 m 150 ls [.int (iI s0_150), .ref (ad 0)]) := by
                  intro s0_150 H locs ls h_112 hP hD hS hl
                  refine lv_iload_n hx hb dX13_clauses_150 rfl (lv_at hl 0 rfl) ?_
                  refine lv_bipush (v := iI 8) hx hb dX13_clauses_151 rfl ?_
                  have J162 : ∀ (s0_162 : Int) (H : Heap) (locs : List Loc) (ls : Array Slot), (1 ≤ s0_162 ∧ s0_162 ≤ 6) → (s0_162 = 1 ∨ s0_162 = 6) → va_P (dC, dI) vwCl (mG ad ca g_53 a_54) H → va_D A (mG ad ca g_53 a_54) → va_S A s.heap H locs → lv_has ls 2 [(1, .int (iI (g 5))), (0, .ref (ad 0))] → W p l e ({ frames := 8, cells := 0, slots := 0, locals := 177 }) s m ([.ref (ad 0)] : List Value).toArray below meth c H locs 0 0 Q (F0 m 162 ls [.int (iI s0_162), .int (iI s0_150), .ref (ad 0)]) := by
                    intro s0_162 H locs ls h_113 h_114 hP hD hS hl
                    refine jcg_i (va_runV (As := [.int (iI s0_150), .int (iI s0_162)]) (rest := []) ⟨hx, hb, hml, hown, hts⟩ (sX13_begins l dC dI _ ad ca sK sV g_53 a_54 s0_150 s0_162 hI (by omega) (by omega) (by omega) (by omega) hrMc) (cwV 2 hts (jgoodV m_239 m_291 m_292 m_503 m_110) rfl rfl rfl (by decide +kernel) ⟨(Nat.le_of_ble_eq_true rfl), (Nat.le_of_ble_eq_true rfl)⟩) ⟨mP_blind, va_recv hK hP (ci := 13) (q0 := 0) rfl rfl, fun U hU hW => ⟨rfl, mP_of hU hW hP hK hD hXs hS (fun _ h => h) hA⟩⟩ rfl rfl hl.1 rfl (lv_room (Nat.le_of_ble_eq_true rfl)) dX13_clauses_162 ⟨(Nat.le_of_ble_eq_true rfl), (Nat.le_of_ble_eq_true rfl)⟩) hD hS hA (fun r_115 u_122 H locs w_116 hP hK hD hS => ?_)
                    obtain ⟨g_120, a_121⟩ := u_122
                    obtain ⟨z_117, rfl, hI, hfr_123, hfr_124, h_118, h_119⟩ := w_116
                    have hP : va_P (dC, dI) vwCl (mG ad ca g_120 a_121) H := hP
                    have hD : va_D A (mG ad ca g_120 a_121) := hD
                    have hfA : ∀ j, j ∉ ([2, 3, 4, 5, 7, 9, 12, 15] : List Nat) → g_120 j = g j := fun j h => (hfr_123 j (fun q => h (by first | exact q | (simp only [List.mem_cons, List.not_mem_nil, or_false] at q ⊢ <;> omega)))).trans (hfA j h)
                    have b_126 : g_120 1 = g 1 := hfA 1 (by decide)
                    have b_127 : g_120 8 = g 8 := hfA 8 (by decide)
                    have b_128 := hfr_123 12 (by decide)
                    have b_129 := hfr_123 15 (by decide)
                    have haA : ∀ j, j ∉ ([2, 3, 4, 5, 6, 7, 8] : List Nat) → a_121 j = a j := fun j h => (hfr_124 j (fun q => h (by first | exact q | (simp only [List.mem_cons, List.not_mem_nil, or_false] at q ⊢ <;> omega)))).trans (haA j h)
                    have h_119 : z_117 = 0 ∨ (rPn g_120 a_121 (g_120 7) ∧ mz g_120 a_121 (g_120 7) ≤ mB g_53) := h_119
                    have b_130 : g_120 1 = g_53 1 := hfr_123 1 (by decide)
                    have b_131 : g_120 8 = g_53 8 := hfr_123 8 (by decide)
                    have b_132 : g_120 12 = g_53 12 := hfr_123 12 (by decide)
                    have b_133 : g_120 15 = g_53 15 := hfr_123 15 (by decide)
                    have t_134 : a_121 3 = a 3 := (hfr_124 3 (by decide)).trans t_76
                    have t_135 : a_121 4 = a 4 := (hfr_124 4 (by decide)).trans t_77
                    have t_136 : a_121 6 = a 6 := (hfr_124 6 (by decide)).trans t_79
                    have t_137 : a_121 7 = a 7 := (hfr_124 7 (by decide)).trans t_80
                    have t_138 : a_121 8 = a 8 := (hfr_124 8 (by decide)).trans t_81
                    rw [← hQ]
                    exact W.zret (v := iI z_117) (ty := .boolean) hx hb hr (nb_bool (by omega) (by omega)) (fun t ht hW => ⟨⟨iI z_117, (g_120, a_121), rfl, ⟨z_117, rfl, hI, hfA, haA, by omega, by show z_117 = 0 ∨ (rPn g_120 a_121 (g_120 7) ∧ mz g_120 a_121 (g_120 7) < mz g a (g 7 + 1)); first | exact Or.inl rfl | exact Or.inr (st_0n hrP1 (by omega) k1 ⟨by omega, by omega, by omega, by omega, t_134, t_135, rfl, t_136, t_137, t_138⟩ (by omega) (by omega) (by omega) (by omega) (by omega) rfl) | exact Or.imp id (fun q => ⟨q.1, mB_lt (a' := a) hrP1 (by omega) k1 (by omega) (by omega) (by omega) q.2⟩) (show z_117 = 0 ∨ (rPn g_120 a_121 (g_120 7) ∧ mz g_120 a_121 (g_120 7) ≤ mB g_53) by assumption)⟩, by rw [ht]; exact hP, va_K.moved hW.alike hK, hD⟩, hS.F ht⟩) hS.2.2 dX13_clauses_165
                  refine xr_icmp_ne (tgt := 160) hx hb dX13_clauses_153 (by decide) (by omega) (by omega) (fun h_139 => ?_) (fun h_139 => ?_)
                  · refine lv_bipush (v := iI 6) hx hb dX13_clauses_160 rfl ?_
                    exact J162 6 H locs ls (by omega) (by omega) hP hD hS hl
                  · refine lv_iconst (v := iI 1) hx hb dX13_clauses_156 rfl ?_
                    refine lv_goto (tgt := 162) hx hb dX13_clauses_157 (by decide) ?_
                    exact J162 1 H locs ls (by omega) (by omega) hP hD hS hl
                refine xr_icmp_ne (tgt := 139) hx hb dX13_clauses_132 (by decide) (by omega) (by omega) (fun h_140 => ?_) (fun h_140 => ?_)
                · refine lv_iload_n hx hb dX13_clauses_139 rfl (lv_at hl 0 rfl) ?_
                  refine lv_bipush (v := iI 7) hx hb dX13_clauses_140 rfl ?_
                  refine xr_icmp_ne (tgt := 149) hx hb dX13_clauses_142 (by decide) (by omega) (by omega) (fun h_141 => ?_) (fun h_141 => ?_)
                  · refine lv_iconst (v := iI 4) hx hb dX13_clauses_149 rfl ?_
                    exact J150 4 H locs ls (by omega) hP hD hS hl
                  · refine lv_iconst (v := iI 3) hx hb dX13_clauses_145 rfl ?_
                    refine lv_goto (tgt := 150) hx hb dX13_clauses_146 (by decide) ?_
                    exact J150 3 H locs ls (by omega) hP hD hS hl
                · refine lv_iconst (v := iI 2) hx hb dX13_clauses_135 rfl ?_
                  refine lv_goto (tgt := 150) hx hb dX13_clauses_136 (by decide) ?_
                  exact J150 2 H locs ls (by omega) hP hD hS hl
              · refine lv_aload_n hx hb dX13_clauses_79 rfl (lv_at hl 1 rfl) ?_
                refine jcg_v (va_runV (As := []) (rest := []) ⟨hx, hb, hml, hown, hts⟩ (sX13_next l dC dI _ ad ca sK sV g_53 a_54  hI (by omega)) (cwV 0 hts (jgoodV m_224 m_433 m_434 m_503 m_184) rfl rfl rfl (by decide +kernel) ⟨(Nat.le_of_ble_eq_true rfl), (Nat.le_of_ble_eq_true rfl)⟩) ⟨mP_blind, va_recv hK hP (ci := 13) (q0 := 0) rfl rfl, fun U hU hW => ⟨rfl, mP_of hU hW hP hK hD hXs hS (fun _ h => h) hA⟩⟩ rfl rfl hl.1 rfl (lv_room (Nat.le_of_ble_eq_true rfl)) dX13_clauses_80 ⟨(Nat.le_of_ble_eq_true rfl), (Nat.le_of_ble_eq_true rfl)⟩) hD hS hA (fun u_151 H locs w_143 hP hK hD hS => ?_)
                obtain ⟨g_149, a_150⟩ := u_151
                obtain ⟨hI, hfr_152, hfr_153, h_145, h_146, h_147, h_148⟩ := w_143
                have hP : va_P (dC, dI) vwCl (mG ad ca g_149 a_150) H := hP
                have hD : va_D A (mG ad ca g_149 a_150) := hD
                have hfA : ∀ j, j ∉ ([2, 3, 4, 5, 7, 9, 12, 15] : List Nat) → g_149 j = g j := fun j h => (hfr_152 j (fun q => h (by first | exact q | (simp only [List.mem_cons, List.not_mem_nil, or_false] at q ⊢ <;> omega)))).trans (hfA j h)
                have b_155 : g_149 1 = g 1 := hfA 1 (by decide)
                have b_156 : g_149 8 = g 8 := hfA 8 (by decide)
                have b_157 := hfr_152 7 (by decide)
                have b_158 := hfr_152 9 (by decide)
                have b_159 := hfr_152 12 (by decide)
                have b_160 := hfr_152 15 (by decide)
                have haA : ∀ j, j ∉ ([2, 3, 4, 5, 6, 7, 8] : List Nat) → a_150 j = a j := fun j h => (hfr_153 j (fun q => h (by first | exact q | (simp only [List.mem_cons, List.not_mem_nil, or_false] at q ⊢ <;> omega)))).trans (haA j h)
                have h_145 : g_53 2 ≤ g_149 2 := h_145
                have h_146 : g_149 2 ≤ g_53 1 := h_146
                have h_147 : g_149 3 = 0 ∨ g_53 2 + 1 ≤ g_149 2 := h_147
                have h_148 : g_149 4 ≤ g_149 2 := h_148
                have b_161 : g_149 1 = g_53 1 := hfr_152 1 (by decide)
                have b_162 : g_149 7 = g_53 7 := hfr_152 7 (by decide)
                have b_163 : g_149 8 = g_53 8 := hfr_152 8 (by decide)
                have b_164 : g_149 9 = g_53 9 := hfr_152 9 (by decide)
                have b_165 : g_149 12 = g_53 12 := hfr_152 12 (by decide)
                have b_166 : g_149 15 = g_53 15 := hfr_152 15 (by decide)
                have t_167 : a_150 2 = up (up (a 2) (g 7) 0) ((g 7 + 1)) 159 := (hfr_153 2 (by decide)).trans t_75
                have t_168 : a_150 3 = a 3 := (hfr_153 3 (by decide)).trans t_76
                have t_169 : a_150 4 = a 4 := (hfr_153 4 (by decide)).trans t_77
                have t_170 : a_150 5 = a 5 := (hfr_153 5 (by decide)).trans t_78
                have t_171 : a_150 6 = a 6 := (hfr_153 6 (by decide)).trans t_79
                have t_172 : a_150 7 = a 7 := (hfr_153 7 (by decide)).trans t_80
                have t_173 : a_150 8 = a 8 := (hfr_153 8 (by decide)).trans t_81
                have b_174 : 0 ≤ g_149 1 ∧ g_149 1 ≤ 600 := hI.1 1
                have b_175 : 0 ≤ g_149 2 ∧ g_149 2 ≤ 600 := hI.1 2
                refine lv_aload_n hx hb dX13_clauses_83 rfl (lv_at hl 1 rfl) ?_
                refine gf_token hx hb hj hown hK hP hI dX13_clauses_84 (fun h_176 => ?_)
                refine lv_iconst (v := iI 2) hx hb dX13_clauses_87 rfl ?_
                refine xr_icmp_ne (tgt := 105) hx hb dX13_clauses_88 (by decide) (by omega) (by omega) (fun h_177 => ?_) (fun h_177 => ?_)
                · refine lv_iconst (v := iI 0) hx hb dX13_clauses_105 rfl ?_
                  rw [← hQ]
                  exact W.zret (v := iI 0) (ty := .boolean) hx hb hr (nb_bool (by omega) (by omega)) (fun t ht hW => ⟨⟨iI 0, (g_149, a_150), rfl, ⟨0, rfl, hI, hfA, haA, by omega, by show 0 = 0 ∨ (rPn g_149 a_150 (g_149 7) ∧ mz g_149 a_150 (g_149 7) < mz g a (g 7 + 1)); first | exact Or.inl rfl | exact Or.inr (st_0n hrP1 (by omega) k1 ⟨by omega, by omega, by omega, by omega, t_168, t_169, t_170, t_171, t_172, t_173⟩ (by omega) (by omega) (by omega) (by omega) (by omega) t_167) | exact Or.imp id (fun q => ⟨q.1, mB_lt (a' := a) hrP1 (by omega) k1 (by omega) (by omega) (by omega) q.2⟩) (show 0 = 0 ∨ (rPn g_149 a_150 (g_149 7) ∧ mz g_149 a_150 (g_149 7) ≤ mB _) by assumption)⟩, by rw [ht]; exact hP, va_K.moved hW.alike hK, hD⟩, hS.F ht⟩) hS.2.2 dX13_clauses_106
                · refine lv_aload_n hx hb dX13_clauses_91 rfl (lv_at hl 1 rfl) ?_
                  refine gf_tokenValue hx hb hj hown hK hP hI dX13_clauses_92 (fun h_178 => ?_)
                  refine lv_bipush (v := iI 13) hx hb dX13_clauses_95 rfl ?_
                  refine lv_bipush (v := iI 15) hx hb dX13_clauses_97 rfl ?_
                  refine jc_i (va_runS (As := [.int (iI (g_149 5)), .int (iI 13), .int (iI 15)]) (rest := []) ⟨hx, hb, hml, hown, hts⟩ (sX13_in l dC dI _ (g_149 5) 13 15 (by omega) (by omega) (by omega)) (va_cwS 3 hts (jgoodS m_220 m_364 m_503 m_147) rfl rfl rfl (by decide +kernel) ⟨(Nat.le_of_ble_eq_true rfl), (Nat.le_of_ble_eq_true rfl)⟩) ⟨jw_blind0, fun U hU hW => ⟨rfl, congrArg Array.size hU⟩⟩ rfl rfl hl.1 rfl (lv_room (Nat.le_of_ble_eq_true rfl)) dX13_clauses_99 ⟨(Nat.le_of_ble_eq_true rfl), (Nat.le_of_ble_eq_true rfl)⟩) hP hS hA (fun r_179 H locs w_180 hP hS => ?_)
                  obtain ⟨z_181, rfl, h_182, h_183⟩ := w_180
                  refine xr_if_ne (tgt := 107) hx hb dX13_clauses_102 (by decide) (by omega) (fun h_184 => ?_) (fun h_184 => ?_)
                  · have hrMc : rM g_149 a_150 := rM_of hrP1 (by omega) k1 ⟨by omega, by omega, by omega, by omega, t_168, t_169, t_170, t_171, t_172, t_173⟩ (by omega) (by omega) (by omega) (by omega) (by omega) (by omega) t_167
                    refine lv_aload_n hx hb dX13_clauses_107 rfl (lv_at hl 1 rfl) ?_
                    refine lv_iconst (v := iI 5) hx hb dX13_clauses_108 rfl ?_
                    refine lv_iconst (v := iI 3) hx hb dX13_clauses_109 rfl ?_
                    refine lv_iload_n hx hb dX13_clauses_110 rfl (lv_at hl 0 rfl) ?_
                    refine lv_iconst (v := iI 3) hx hb dX13_clauses_111 rfl ?_
                    refine xr_sub hx hb dX13_clauses_112 ?_
                    refine xr_kept (fun z_185 h_186 h_187 => ?_)
                    refine xr_mul hx hb dX13_clauses_113 ?_
                    refine xr_kept (fun z_188 h_189 h_190 => ?_)
                    refine xr_add hx hb dX13_clauses_114 ?_
                    refine xr_kept (fun z_191 h_192 h_193 => ?_)
                    refine lv_aload_n hx hb dX13_clauses_115 rfl (lv_at hl 1 rfl) ?_
                    refine gf_tokenValue hx hb hj hown hK hP hI dX13_clauses_116 (fun h_194 => ?_)
                    refine xr_add hx hb dX13_clauses_119 ?_
                    refine xr_kept (fun z_195 h_196 h_197 => ?_)
                    refine lv_bipush (v := iI 13) hx hb dX13_clauses_120 rfl ?_
                    refine xr_sub hx hb dX13_clauses_122 ?_
                    refine xr_kept (fun z_198 h_199 h_200 => ?_)
                    refine lv_iconst (v := iI 1) hx hb dX13_clauses_123 rfl ?_
                    refine jcg_i (va_runV (As := [.int (iI z_198), .int (iI 1)]) (rest := []) ⟨hx, hb, hml, hown, hts⟩ (sX13_begins l dC dI _ ad ca sK sV g_149 a_150 z_198 1 hI (by omega) (by omega) (by omega) (by omega) hrMc) (cwV 2 hts (jgoodV m_239 m_291 m_292 m_503 m_110) rfl rfl rfl (by decide +kernel) ⟨(Nat.le_of_ble_eq_true rfl), (Nat.le_of_ble_eq_true rfl)⟩) ⟨mP_blind, va_recv hK hP (ci := 13) (q0 := 0) rfl rfl, fun U hU hW => ⟨rfl, mP_of hU hW hP hK hD hXs hS (fun _ h => h) hA⟩⟩ rfl rfl hl.1 rfl (lv_room (Nat.le_of_ble_eq_true rfl)) dX13_clauses_124 ⟨(Nat.le_of_ble_eq_true rfl), (Nat.le_of_ble_eq_true rfl)⟩) hD hS hA (fun r_201 u_208 H locs w_202 hP hK hD hS => ?_)
                    obtain ⟨g_206, a_207⟩ := u_208
                    obtain ⟨z_203, rfl, hI, hfr_209, hfr_210, h_204, h_205⟩ := w_202
                    have hP : va_P (dC, dI) vwCl (mG ad ca g_206 a_207) H := hP
                    have hD : va_D A (mG ad ca g_206 a_207) := hD
                    have hfA : ∀ j, j ∉ ([2, 3, 4, 5, 7, 9, 12, 15] : List Nat) → g_206 j = g j := fun j h => (hfr_209 j (fun q => h (by first | exact q | (simp only [List.mem_cons, List.not_mem_nil, or_false] at q ⊢ <;> omega)))).trans (hfA j h)
                    have b_212 : g_206 1 = g 1 := hfA 1 (by decide)
                    have b_213 : g_206 8 = g 8 := hfA 8 (by decide)
                    have b_214 := hfr_209 12 (by decide)
                    have b_215 := hfr_209 15 (by decide)
                    have haA : ∀ j, j ∉ ([2, 3, 4, 5, 6, 7, 8] : List Nat) → a_207 j = a j := fun j h => (hfr_210 j (fun q => h (by first | exact q | (simp only [List.mem_cons, List.not_mem_nil, or_false] at q ⊢ <;> omega)))).trans (haA j h)
                    have h_205 : z_203 = 0 ∨ (rPn g_206 a_207 (g_206 7) ∧ mz g_206 a_207 (g_206 7) ≤ mB g_149) := h_205
                    have b_216 : g_206 1 = g_149 1 := hfr_209 1 (by decide)
                    have b_217 : g_206 8 = g_149 8 := hfr_209 8 (by decide)
                    have b_218 : g_206 12 = g_149 12 := hfr_209 12 (by decide)
                    have b_219 : g_206 15 = g_149 15 := hfr_209 15 (by decide)
                    have t_220 : a_207 3 = a 3 := (hfr_210 3 (by decide)).trans t_168
                    have t_221 : a_207 4 = a 4 := (hfr_210 4 (by decide)).trans t_169
                    have t_222 : a_207 6 = a 6 := (hfr_210 6 (by decide)).trans t_171
                    have t_223 : a_207 7 = a 7 := (hfr_210 7 (by decide)).trans t_172
                    have t_224 : a_207 8 = a 8 := (hfr_210 8 (by decide)).trans t_173
                    rw [← hQ]
                    exact W.zret (v := iI z_203) (ty := .boolean) hx hb hr (nb_bool (by omega) (by omega)) (fun t ht hW => ⟨⟨iI z_203, (g_206, a_207), rfl, ⟨z_203, rfl, hI, hfA, haA, by omega, by show z_203 = 0 ∨ (rPn g_206 a_207 (g_206 7) ∧ mz g_206 a_207 (g_206 7) < mz g a (g 7 + 1)); first | exact Or.inl rfl | exact Or.inr (st_0n hrP1 (by omega) k1 ⟨by omega, by omega, by omega, by omega, t_220, t_221, rfl, t_222, t_223, t_224⟩ (by omega) (by omega) (by omega) (by omega) (by omega) rfl) | exact Or.imp id (fun q => ⟨q.1, mB_lt (a' := a) hrP1 (by omega) k1 (by omega) (by omega) (by omega) q.2⟩) (show z_203 = 0 ∨ (rPn g_206 a_207 (g_206 7) ∧ mz g_206 a_207 (g_206 7) ≤ mB g_149) by assumption)⟩, by rw [ht]; exact hP, va_K.moved hW.alike hK, hD⟩, hS.F ht⟩) hS.2.2 dX13_clauses_127
                  · refine lv_iconst (v := iI 0) hx hb dX13_clauses_105 rfl ?_
                    rw [← hQ]
                    exact W.zret (v := iI 0) (ty := .boolean) hx hb hr (nb_bool (by omega) (by omega)) (fun t ht hW => ⟨⟨iI 0, (g_149, a_150), rfl, ⟨0, rfl, hI, hfA, haA, by omega, by show 0 = 0 ∨ (rPn g_149 a_150 (g_149 7) ∧ mz g_149 a_150 (g_149 7) < mz g a (g 7 + 1)); first | exact Or.inl rfl | exact Or.inr (st_0n hrP1 (by omega) k1 ⟨by omega, by omega, by omega, by omega, t_168, t_169, t_170, t_171, t_172, t_173⟩ (by omega) (by omega) (by omega) (by omega) (by omega) t_167) | exact Or.imp id (fun q => ⟨q.1, mB_lt (a' := a) hrP1 (by omega) k1 (by omega) (by omega) (by omega) q.2⟩) (show 0 = 0 ∨ (rPn g_149 a_150 (g_149 7) ∧ mz g_149 a_150 (g_149 7) ≤ mB _) by assumption)⟩, by rw [ht]; exact hP, va_K.moved hW.alike hK, hD⟩, hS.F ht⟩) hS.2.2 dX13_clauses_106
            · exact J68 H locs ls (by omega) hP hD hS hl
        · have hrMc : rM g_53 a_54 := rM_of hrP1 (by omega) k1 ⟨by omega, by omega, by omega, by omega, t_76, t_77, t_78, t_79, t_80, t_81⟩ (by omega) (by omega) (by omega) (by omega) (by omega) (by omega) t_75
          refine lv_aload_n hx hb dX13_clauses_53 rfl (lv_at hl 1 rfl) ?_
          refine jcg_i (va_runV (As := []) (rest := []) ⟨hx, hb, hml, hown, hts⟩ (sX13_skip l dC dI _ ad ca sK sV g_53 a_54  hI hrMc) (cwV 0 hts (jgoodV m_237 m_464 m_465 m_503 m_200) rfl rfl rfl (by decide +kernel) ⟨(Nat.le_of_ble_eq_true rfl), (Nat.le_of_ble_eq_true rfl)⟩) ⟨mP_blind, va_recv hK hP (ci := 13) (q0 := 0) rfl rfl, fun U hU hW => ⟨rfl, mP_of hU hW hP hK hD hXs hS (fun _ h => h) hA⟩⟩ rfl rfl hl.1 rfl (lv_room (Nat.le_of_ble_eq_true rfl)) dX13_clauses_54 ⟨(Nat.le_of_ble_eq_true rfl), (Nat.le_of_ble_eq_true rfl)⟩) hD hS hA (fun r_225 u_232 H locs w_226 hP hK hD hS => ?_)
          obtain ⟨g_230, a_231⟩ := u_232
          obtain ⟨z_227, rfl, hI, hfr_233, hfr_234, h_228, h_229⟩ := w_226
          have hP : va_P (dC, dI) vwCl (mG ad ca g_230 a_231) H := hP
          have hD : va_D A (mG ad ca g_230 a_231) := hD
          have hfA : ∀ j, j ∉ ([2, 3, 4, 5, 7, 9, 12, 15] : List Nat) → g_230 j = g j := fun j h => (hfr_233 j (fun q => h (by first | exact q | (simp only [List.mem_cons, List.not_mem_nil, or_false] at q ⊢ <;> omega)))).trans (hfA j h)
          have b_236 : g_230 1 = g 1 := hfA 1 (by decide)
          have b_237 : g_230 8 = g 8 := hfA 8 (by decide)
          have b_238 := hfr_233 7 (by decide)
          have b_239 := hfr_233 9 (by decide)
          have b_240 := hfr_233 12 (by decide)
          have haA : ∀ j, j ∉ ([2, 3, 4, 5, 6, 7, 8] : List Nat) → a_231 j = a j := fun j h => (hfr_234 j (fun q => h (by first | exact q | (simp only [List.mem_cons, List.not_mem_nil, or_false] at q ⊢ <;> omega)))).trans (haA j h)
          have h_229 : z_227 = 0 ∨ (rPn g_230 a_231 (g_230 7) ∧ mz g_230 a_231 (g_230 7) ≤ mB g_53) := h_229
          have b_241 : g_230 1 = g_53 1 := hfr_233 1 (by decide)
          have b_242 : g_230 7 = g_53 7 := hfr_233 7 (by decide)
          have b_243 : g_230 8 = g_53 8 := hfr_233 8 (by decide)
          have b_244 : g_230 9 = g_53 9 := hfr_233 9 (by decide)
          have b_245 : g_230 12 = g_53 12 := hfr_233 12 (by decide)
          have t_246 : a_231 2 = up (up (a 2) (g 7) 0) ((g 7 + 1)) 159 := (hfr_234 2 (by decide)).trans t_75
          have t_247 : a_231 3 = a 3 := (hfr_234 3 (by decide)).trans t_76
          have t_248 : a_231 4 = a 4 := (hfr_234 4 (by decide)).trans t_77
          have t_249 : a_231 5 = a 5 := (hfr_234 5 (by decide)).trans t_78
          have t_250 : a_231 6 = a 6 := (hfr_234 6 (by decide)).trans t_79
          rw [← hQ]
          exact W.zret (v := iI z_227) (ty := .boolean) hx hb hr (nb_bool (by omega) (by omega)) (fun t ht hW => ⟨⟨iI z_227, (g_230, a_231), rfl, ⟨z_227, rfl, hI, hfA, haA, by omega, by show z_227 = 0 ∨ (rPn g_230 a_231 (g_230 7) ∧ mz g_230 a_231 (g_230 7) < mz g a (g 7 + 1)); first | exact Or.inl rfl | exact Or.inr (st_0n hrP1 (by omega) k1 ⟨by omega, by omega, by omega, by omega, t_247, t_248, t_249, t_250, rfl, rfl⟩ (by omega) (by omega) (by omega) (by omega) (by omega) t_246) | exact Or.imp id (fun q => ⟨q.1, mB_lt (a' := a) hrP1 (by omega) k1 (by omega) (by omega) (by omega) q.2⟩) (show z_227 = 0 ∨ (rPn g_230 a_231 (g_230 7) ∧ mz g_230 a_231 (g_230 7) ≤ mB g_53) by assumption)⟩, by rw [ht]; exact hP, va_K.moved hW.alike hK, hD⟩, hS.F ht⟩) hS.2.2 dX13_clauses_57
      · refine lv_iconst (v := iI 0) hx hb dX13_clauses_30 rfl ?_
        rw [← hQ]
        exact W.zret (v := iI 0) (ty := .boolean) hx hb hr (nb_bool (by omega) (by omega)) (fun t ht hW => ⟨⟨iI 0, (g, a), rfl, ⟨0, rfl, hI, hfA, haA, by omega, by show 0 = 0 ∨ (rPn g a (g 7) ∧ mz g a (g 7) < mz g a (g 7 + 1)); first | exact Or.inl rfl | exact Or.inr (st_0n hrP1 (by omega) k1 ⟨by omega, by omega, by omega, by omega, rfl, rfl, rfl, rfl, rfl, rfl⟩ (by omega) (by omega) (by omega) (by omega) (by omega) rfl) | exact Or.imp id (fun q => ⟨q.1, mB_lt (a' := a) hrP1 (by omega) k1 (by omega) (by omega) (by omega) q.2⟩) (show 0 = 0 ∨ (rPn g a (g 7) ∧ mz g a (g 7) ≤ mB _) by assumption)⟩, by rw [ht]; exact hP, va_K.moved hW.alike hK, hD⟩, hS.F ht⟩) hS.2.2 dX13_clauses_31
  · refine lv_iconst (v := iI 1) hx hb dX13_clauses_7 rfl ?_
    rw [← hQ]
    exact W.zret (v := iI 1) (ty := .boolean) hx hb hr (nb_bool (by omega) (by omega)) (fun t ht hW => ⟨⟨iI 1, (g, a), rfl, ⟨1, rfl, hI, hfA, haA, by omega, by show 1 = 0 ∨ (rPn g a (g 7) ∧ mz g a (g 7) < mz g a (g 7 + 1)); first | exact Or.inl rfl | exact Or.inr (st_0n hrP1 (by omega) k1 ⟨by omega, by omega, by omega, by omega, rfl, rfl, rfl, rfl, rfl, rfl⟩ (by omega) (by omega) (by omega) (by omega) (by omega) rfl) | exact Or.imp id (fun q => ⟨q.1, mB_lt (a' := a) hrP1 (by omega) k1 (by omega) (by omega) (by omega) q.2⟩) (show 1 = 0 ∨ (rPn g a (g 7) ∧ mz g a (g 7) ≤ mB _) by assumption)⟩, by rw [ht]; exact hP, va_K.moved hW.alike hK, hD⟩, hS.F ht⟩) hS.2.2 dX13_clauses_8
set_option maxHeartbeats 2000000 in
set_option maxRecDepth 100000 in
theorem sX13_steps (l : Launch) (dC : Nat → ClassId) (dI : Nat → Nat → Nat) (sz : Nat) (ad : Nat → Nat) (ca : Nat → ClassId) (sK sV : Nat → Nat) (g : Nat → Int) (a : Nat → Int → Int) (p1 : Int) (hI : mI g a) (q1 : rg p1) (k1 : a 2 (g 7) = p1) (hrP1 : rP1 g a) : Met l yX13_steps (jk yX13_steps cX13_steps 2 (some .boolean)) ({ frames := 9, cells := 0, slots := 0, locals := 198 }) (va_Pc [.ref (ad 0), .int (iI p1)] (mP (dC, dI) (mG ad ca g a) (mT ca) sK sV sz)) (va_Qi (fun (r : Int32) (u : (Nat → Int) × (Nat → Int → Int)) => ∃ z : Int, r = iI z ∧ (mI u.1 u.2) ∧ (∀ j, j ∉ ([2, 3, 4, 5, 7, 8, 9, 12, 15] : List Nat) → u.1 j = g j) ∧ (∀ j, j ∉ ([2, 3, 4, 5, 6, 7, 8] : List Nat) → u.2 j = a j) ∧ (0 ≤ z ∧ z ≤ 1) ∧ (z = 0 ∨ (rPn u.1 u.2 (u.1 7) ∧ mz u.1 u.2 (u.1 7) < mz g a (g 7 + 1)))) (fun u t => va_P (dC, dI) vwCl (mG ad ca u.1 u.2) t.heap ∧ va_K (dC, dI) vwCl (mT ca) t ∧ va_D (va_A (mG ad ca g a) sz) (mG ad ca u.1 u.2)) (va_A (mG ad ca g a) sz)) 0 0 (va_A (mG ad ca g a) sz) := by
  refine Met.ofW (cc := cX13_steps) (maxL := 2) (ret := (some .boolean)) (by decide) rfl ?_
  intro p e s m args below meth c s₁ B hml hv
  obtain ⟨rfl, ⟨hsz, hP, hK, hD0⟩, hX0⟩ := hv
  have hx := B.exec
  have hb := B.bytes
  have hr := B.returns
  have hts := atoms_spec (ws := (jk yX13_steps cX13_steps 2 (some .boolean))) B.pre
  have hj : ∀ w ∈ jw, w.before ([.ref (ad 0), .int (iI p1)] : List Value).toArray s = true := fun w h => hts w (jm h)
  have hown : s.vm.findClass RX13 = some m.cls := findClass_of_methodNamed B.named
  subst hsz
  have hD := hD0.self (sz := s.heap.size)
  have hXs := hX0
  generalize hAe : (va_A (mG ad ca g a) s.heap.size) = A at hD hXs ⊢
  have hA : ∀ q : Nat, s.heap.size ≤ q → A q := fun q h => by rw [← hAe]; exact Or.inr h
  have hS : va_S A s.heap s.heap [] := va_S.rf
  have hP : va_P (dC, dI) vwCl (mG ad ca g a) s.heap := hP
  have hfA : ∀ j, j ∉ ([2, 3, 4, 5, 7, 8, 9, 12, 15] : List Nat) → g j = g j := fun _ _ => rfl
  have haA : ∀ j, j ∉ ([2, 3, 4, 5, 6, 7, 8] : List Nat) → a j = a j := fun _ _ => rfl
  have hl := lv_entry ([.ref (ad 0), .int (iI p1)]) (n := 2) (Nat.le_of_ble_eq_true rfl)
  rw [lg_entry_eq]
  generalize (lg_sl ([.ref (ad 0), .int (iI p1)]) ++ List.replicate (2 - (lg_sl ([.ref (ad 0), .int (iI p1)])).length) Slot.unset).toArray = ls at hl ⊢
  have hl : lv_has ls 2 [(0, .ref (ad 0)), (1, .int (iI p1))] := hl
  generalize hQ : MQ below (va_Qi (fun (r : Int32) (u : (Nat → Int) × (Nat → Int → Int)) => ∃ z : Int, r = iI z ∧ (mI u.1 u.2) ∧ (∀ j, j ∉ ([2, 3, 4, 5, 7, 8, 9, 12, 15] : List Nat) → u.1 j = g j) ∧ (∀ j, j ∉ ([2, 3, 4, 5, 6, 7, 8] : List Nat) → u.2 j = a j) ∧ (0 ≤ z ∧ z ≤ 1) ∧ (z = 0 ∨ (rPn u.1 u.2 (u.1 7) ∧ mz u.1 u.2 (u.1 7) < mz g a (g 7 + 1)))) (fun u t => va_P (dC, dI) vwCl (mG ad ca u.1 u.2) t.heap ∧ va_K (dC, dI) vwCl (mT ca) t ∧ va_D A (mG ad ca u.1 u.2)) A) ([.ref (ad 0), .int (iI p1)] : List Value).toArray s 0 0 A = Q
  suffices ST : ∀ (H : Heap) (locs : List Loc), va_P (dC, dI) vwCl (mG ad ca g a) H → va_S A s.heap H locs → W p l e ({ frames := 9, cells := 0, slots := 0, locals := 198 }) s m ([.ref (ad 0), .int (iI p1)] : List Value).toArray below meth c H locs 0 0 Q (F0 m 0 ls []) from ST _ _ hP hS
  clear hP hS
  intro H locs hP hS
  obtain ⟨bb1, bb2, bb3, bb4, bb5, bb6⟩ := bd_1 hrP1
  have bb7 := tkk_b (g 3)
  have b7_0 : 0 ≤ g 7 ∧ g 7 ≤ 1200 := hI.1 7
  have b1_0 : 0 ≤ g 1 ∧ g 1 ≤ 600 := hI.1 1
  have b2_0 : 0 ≤ g 2 ∧ g 2 ≤ 600 := hI.1 2
  have hsv := sv_do hrP1 (by omega) k1
  unfold sval at hsv
  refine lv_iload_n hx hb dX13_steps_0 rfl (lv_at hl 1 rfl) ?_
  refine lv_sipush (v := iI 1000) hx hb dX13_steps_1 rfl ?_
  refine xr_icmp_lt (tgt := 19) hx hb dX13_steps_4 (by decide) (by omega) (by omega) (fun h_1 => ?_) (fun h_1 => ?_)
  · refine lv_iload_n hx hb dX13_steps_19 rfl (lv_at hl 1 rfl) ?_
    refine lv_bipush (v := iI 100) hx hb dX13_steps_20 rfl ?_
    refine xr_icmp_lt (tgt := 49) hx hb dX13_steps_22 (by decide) (by omega) (by omega) (fun h_2 => ?_) (fun h_2 => ?_)
    · refine lv_iload_n hx hb dX13_steps_49 rfl (lv_at hl 1 rfl) ?_
      rcases (show (p1 < 0 ∨ 12 < p1) ∨ p1 = 0 ∨ p1 = 1 ∨ p1 = 2 ∨ p1 = 3 ∨ p1 = 4 ∨ p1 = 5 ∨ p1 = 6 ∨ p1 = 7 ∨ p1 = 8 ∨ p1 = 9 ∨ p1 = 10 ∨ p1 = 11 ∨ p1 = 12 by omega) with h_3 | h_3 | h_3 | h_3 | h_3 | h_3 | h_3 | h_3 | h_3 | h_3 | h_3 | h_3 | h_3 | h_3
      · refine lv_tableOut (tgt := 232) hx hb dX13_steps_50 (by rw [iI_toInt (by omega)]; omega) (by decide) ?_
        refine lv_aload_n hx hb dX13_steps_232 rfl (lv_at hl 0 rfl) ?_
        refine gf_slotEnd hx hb hj hown hK hP dX13_steps_233 ?_
        refine lv_aload_n hx hb dX13_steps_236 rfl (lv_at hl 0 rfl) ?_
        refine gf_slot hx hb hj hown hK hP hI dX13_steps_237 (fun h_4 => ?_)
        refine lv_aload_n hx hb dX13_steps_240 rfl (lv_at hl 0 rfl) ?_
        refine gf_doing hx hb hj hown hK hP hI dX13_steps_241 (fun h_5 => ?_)
        refine st_slotEnd hx hb hK hP hD hS hI (by omega) (by omega) (by omega) (by omega) dX13_steps_244 (fun a_6 H locs e_7 e_8 hI hP hD hS => ?_)
        have haA : ∀ j, j ∉ ([2, 3, 4, 5, 6, 7, 8] : List Nat) → a_6 j = a j := fun j h => (e_7 j (fun q => h (q ▸ (by decide : 6 ∈ ([2, 3, 4, 5, 6, 7, 8] : List Nat))))).trans (haA j h)
        have t_9 : a_6 2 = a 2 := (e_7 2 (by decide)).trans rfl
        have t_10 : a_6 3 = a 3 := (e_7 3 (by decide)).trans rfl
        have t_11 : a_6 4 = a 4 := (e_7 4 (by decide)).trans rfl
        have t_12 : a_6 5 = a 5 := (e_7 5 (by decide)).trans rfl
        have t_13 : a_6 6 = up (a 6) (g 9) (g 12) := e_8.trans (up_c rfl (by omega) (by omega))
        have t_14 : a_6 7 = a 7 := (e_7 7 (by decide)).trans rfl
        have t_15 : a_6 8 = a 8 := (e_7 8 (by decide)).trans rfl
        refine lv_iconst (v := iI 1) hx hb dX13_steps_245 rfl ?_
        rw [← hQ]
        exact W.zret (v := iI 1) (ty := .boolean) hx hb hr (nb_bool (by omega) (by omega)) (fun t ht hW => ⟨⟨iI 1, (g, a_6), rfl, ⟨1, rfl, hI, hfA, haA, by omega, by show 1 = 0 ∨ (rPn g a_6 (g 7) ∧ mz g a_6 (g 7) < mz g a (g 7 + 1)); first | exact Or.inl rfl | exact (show 1 = 0 ∨ (rPn g a_6 (g 7) ∧ mz g a_6 (g 7) < mz g a (g 7 + 1)) by assumption) | exact Or.inr (st_do hrP1 (by omega) k1 (by omega) (by omega) (by omega) (by omega) (by omega) (by omega) t_10 t_11 t_12 t_13 t_14 t_15 (by omega) (by omega) (by omega) (by omega) t_9) | exact Or.inr (st_sg hrP1 (by omega) k1 (by omega) ⟨by omega, by omega, by omega, by omega, t_10, t_11, t_12, t_13, t_14, t_15⟩ (by omega) (by omega) (by omega) ⟨by omega, by omega, by omega⟩ t_9) | exact Or.inr (st_12 hrP1 (by omega) (by omega) ⟨by omega, by omega, by omega, by omega, t_10, t_11, t_12, t_13, t_14, t_15⟩ (by omega) (by omega) (by omega) (by omega) t_9) | exact Or.inr (st_13 hrP1 (by omega) (by omega) (by omega) (by omega) (by omega) (by omega) t_10 t_11 t_12 t_13 t_14 t_15 (by omega) (by omega) (by omega) (by omega) t_9) | exact Or.inr (st_1 hrP1 (by omega) (by omega) ⟨by omega, by omega, by omega, by omega, t_10, t_11, t_12, t_13, t_14, t_15⟩ (by omega) (by omega) (by omega) (by omega) (by omega) t_9) | exact Or.inr (st_3 hrP1 (by omega) (by omega) ⟨by omega, by omega, by omega, by omega, t_10, t_11, t_12, t_13, t_14, t_15⟩ (by omega) (by omega) (by omega) (by omega) (by omega) t_9) | exact Or.inr (st_6 hrP1 (by omega) (by omega) ⟨by omega, by omega, by omega, by omega, t_10, t_11, t_12, t_13, t_14, t_15⟩ (by omega) (by omega) (by omega) (by omega) (by omega) t_9) | exact Or.inr (st_8 hrP1 (by omega) (by omega) ⟨by omega, by omega, by omega, by omega, t_10, t_11, t_12, t_13, t_14, t_15⟩ (by omega) (by omega) (by omega) (by omega) (by omega) t_9)⟩, by rw [ht]; exact hP, va_K.moved hW.alike hK, hD⟩, hS.F ht⟩) hS.2.2 dX13_steps_246
      · refine jtab_in (v := iI 0) (off := 66) (tgt := 116) hx hb dX13_steps_50 (by rw [h_3]) (by decide) (by decide) (by decide) (by decide) ?_
        refine lv_aload_n hx hb dX13_steps_116 rfl (lv_at hl 0 rfl) ?_
        refine jcg_i (va_runV (As := []) (rest := []) ⟨hx, hb, hml, hown, hts⟩ (sX13_clauses l dC dI _ ad ca sK sV g a  hI (by omega) hrP1) (cwV 0 hts (jgoodV m_229 m_310 m_311 m_503 m_120) rfl rfl rfl (by decide +kernel) ⟨(Nat.le_of_ble_eq_true rfl), (Nat.le_of_ble_eq_true rfl)⟩) ⟨mP_blind, va_recv hK hP (ci := 13) (q0 := 0) rfl rfl, fun U hU hW => ⟨rfl, mP_of hU hW hP hK hD hXs hS (fun _ h => h) hA⟩⟩ rfl rfl hl.1 rfl (lv_room (Nat.le_of_ble_eq_true rfl)) dX13_steps_117 ⟨(Nat.le_of_ble_eq_true rfl), (Nat.le_of_ble_eq_true rfl)⟩) hD hS hA (fun r_16 u_23 H locs w_17 hP hK hD hS => ?_)
        obtain ⟨g_21, a_22⟩ := u_23
        obtain ⟨z_18, rfl, hI, hfr_24, hfr_25, h_19, h_20⟩ := w_17
        have hP : va_P (dC, dI) vwCl (mG ad ca g_21 a_22) H := hP
        have hD : va_D A (mG ad ca g_21 a_22) := hD
        have hfA : ∀ j, j ∉ ([2, 3, 4, 5, 7, 8, 9, 12, 15] : List Nat) → g_21 j = g j := fun j h => (hfr_24 j (fun q => h (by first | exact q | (simp only [List.mem_cons, List.not_mem_nil, or_false] at q ⊢ <;> omega)))).trans (hfA j h)
        have b_27 : g_21 1 = g 1 := hfA 1 (by decide)
        have b_28 := hfr_24 8 (by decide)
        have haA : ∀ j, j ∉ ([2, 3, 4, 5, 6, 7, 8] : List Nat) → a_22 j = a j := fun j h => (hfr_25 j (fun q => h (by first | exact q | (simp only [List.mem_cons, List.not_mem_nil, or_false] at q ⊢ <;> omega)))).trans (haA j h)
        have h_20 : z_18 = 0 ∨ (rPn g_21 a_22 (g_21 7) ∧ mz g_21 a_22 (g_21 7) < mz g a (g 7 + 1)) := h_20
        have b_29 : g_21 1 = g 1 := hfr_24 1 (by decide)
        have b_30 : g_21 8 = g 8 := hfr_24 8 (by decide)
        have b_31 : 0 ≤ g_21 7 ∧ g_21 7 ≤ 1200 := hI.1 7
        rw [← hQ]
        exact W.zret (v := iI z_18) (ty := .boolean) hx hb hr (nb_bool (by omega) (by omega)) (fun t ht hW => ⟨⟨iI z_18, (g_21, a_22), rfl, ⟨z_18, rfl, hI, hfA, haA, by omega, by show z_18 = 0 ∨ (rPn g_21 a_22 (g_21 7) ∧ mz g_21 a_22 (g_21 7) < mz g a (g 7 + 1)); first | exact Or.inl rfl | exact (show z_18 = 0 ∨ (rPn g_21 a_22 (g_21 7) ∧ mz g_21 a_22 (g_21 7) < mz g a (g 7 + 1)) by assumption) | exact Or.inr (st_do hrP1 (by omega) k1 (by omega) (by omega) (by omega) (by omega) (by omega) (by omega) rfl rfl rfl rfl rfl rfl (by omega) (by omega) (by omega) (by omega) rfl) | exact Or.inr (st_sg hrP1 (by omega) k1 (by omega) ⟨by omega, by omega, by omega, by omega, rfl, rfl, rfl, rfl, rfl, rfl⟩ (by omega) (by omega) (by omega) ⟨by omega, by omega, by omega⟩ rfl) | exact Or.inr (st_12 hrP1 (by omega) (by omega) ⟨by omega, by omega, by omega, by omega, rfl, rfl, rfl, rfl, rfl, rfl⟩ (by omega) (by omega) (by omega) (by omega) rfl) | exact Or.inr (st_13 hrP1 (by omega) (by omega) (by omega) (by omega) (by omega) (by omega) rfl rfl rfl rfl rfl rfl (by omega) (by omega) (by omega) (by omega) rfl) | exact Or.inr (st_1 hrP1 (by omega) (by omega) ⟨by omega, by omega, by omega, by omega, rfl, rfl, rfl, rfl, rfl, rfl⟩ (by omega) (by omega) (by omega) (by omega) (by omega) rfl) | exact Or.inr (st_3 hrP1 (by omega) (by omega) ⟨by omega, by omega, by omega, by omega, rfl, rfl, rfl, rfl, rfl, rfl⟩ (by omega) (by omega) (by omega) (by omega) (by omega) rfl) | exact Or.inr (st_6 hrP1 (by omega) (by omega) ⟨by omega, by omega, by omega, by omega, rfl, rfl, rfl, rfl, rfl, rfl⟩ (by omega) (by omega) (by omega) (by omega) (by omega) rfl) | exact Or.inr (st_8 hrP1 (by omega) (by omega) ⟨by omega, by omega, by omega, by omega, rfl, rfl, rfl, rfl, rfl, rfl⟩ (by omega) (by omega) (by omega) (by omega) (by omega) rfl)⟩, by rw [ht]; exact hP, va_K.moved hW.alike hK, hD⟩, hS.F ht⟩) hS.2.2 dX13_steps_120
      · refine jtab_in (v := iI 1) (off := 71) (tgt := 121) hx hb dX13_steps_50 (by rw [h_3]) (by decide) (by decide) (by decide) (by decide) ?_
        refine lv_aload_n hx hb dX13_steps_121 rfl (lv_at hl 0 rfl) ?_
        refine lv_iconst (v := iI 2) hx hb dX13_steps_122 rfl ?_
        refine lv_iconst (v := iI 3) hx hb dX13_steps_123 rfl ?_
        refine jcg_i (va_runV (As := [.int (iI 2), .int (iI 3)]) (rest := []) ⟨hx, hb, hml, hown, hts⟩ (sX13_both l dC dI _ ad ca g a 2 3 hI (by omega) (by omega) (by omega)) (cwV 2 hts (jgoodV m_230 m_295 m_296 m_503 m_112) rfl rfl rfl (by decide +kernel) ⟨(Nat.le_of_ble_eq_true rfl), (Nat.le_of_ble_eq_true rfl)⟩) ⟨jw_blind, va_recv hK hP (ci := 13) (q0 := 0) rfl rfl, fun U hU hW => ⟨rfl, jw_of hU hW hP hK hD⟩⟩ rfl rfl hl.1 rfl (lv_room (Nat.le_of_ble_eq_true rfl)) dX13_steps_124 ⟨(Nat.le_of_ble_eq_true rfl), (Nat.le_of_ble_eq_true rfl)⟩) hD hS hA (fun r_32 u_41 H locs w_33 hP hK hD hS => ?_)
        obtain ⟨g_39, a_40⟩ := u_41
        obtain ⟨z_34, rfl, hI, hfr_42, hfr_43, h_35, h_36, h_37, h_38⟩ := w_33
        have hP : va_P (dC, dI) vwCl (mG ad ca g_39 a_40) H := hP
        have hD : va_D A (mG ad ca g_39 a_40) := hD
        have hfA : ∀ j, j ∉ ([2, 3, 4, 5, 7, 8, 9, 12, 15] : List Nat) → g_39 j = g j := fun j h => (hfr_42 j (fun q => h (by first | exact q | (simp only [List.mem_cons, List.not_mem_nil, or_false] at q ⊢ <;> omega)))).trans (hfA j h)
        have b_45 : g_39 1 = g 1 := hfA 1 (by decide)
        have b_46 := hfr_42 2 (by decide)
        have b_47 := hfr_42 3 (by decide)
        have b_48 := hfr_42 8 (by decide)
        have b_49 := hfr_42 9 (by decide)
        have b_50 := hfr_42 12 (by decide)
        have b_51 := hfr_42 15 (by decide)
        have haA : ∀ j, j ∉ ([2, 3, 4, 5, 6, 7, 8] : List Nat) → a_40 j = a j := fun j h => (hfr_43 j (fun q => h (by first | exact q | (simp only [List.mem_cons, List.not_mem_nil, or_false] at q ⊢ <;> omega)))).trans (haA j h)
        have h_36 : g_39 7 = g 7 + 2 := h_36
        have h_37 : a_40 2 = up (up (a 2) (g 7) 2) (g 7 + 1) 3 := h_37
        have b_52 : g_39 1 = g 1 := hfr_42 1 (by decide)
        have b_53 : g_39 2 = g 2 := hfr_42 2 (by decide)
        have b_54 : g_39 3 = g 3 := hfr_42 3 (by decide)
        have b_55 : g_39 4 = g 4 := hfr_42 4 (by decide)
        have b_56 : g_39 8 = g 8 := hfr_42 8 (by decide)
        have b_57 : g_39 9 = g 9 := hfr_42 9 (by decide)
        have b_58 : g_39 12 = g 12 := hfr_42 12 (by decide)
        have b_59 : g_39 15 = g 15 := hfr_42 15 (by decide)
        have t_60 : a_40 2 = up (up (a 2) (g 7) 2) (g 7 + 1) 3 := h_37.trans (up_c (up_c rfl (by omega) (by omega)) (by omega) (by omega))
        have t_61 : a_40 3 = a 3 := (hfr_43 3 (by decide)).trans rfl
        have t_62 : a_40 4 = a 4 := (hfr_43 4 (by decide)).trans rfl
        have t_63 : a_40 5 = a 5 := (hfr_43 5 (by decide)).trans rfl
        have t_64 : a_40 6 = a 6 := (hfr_43 6 (by decide)).trans rfl
        have t_65 : a_40 7 = a 7 := (hfr_43 7 (by decide)).trans rfl
        have t_66 : a_40 8 = a 8 := (hfr_43 8 (by decide)).trans rfl
        have b_67 : 0 ≤ g_39 7 ∧ g_39 7 ≤ 1200 := hI.1 7
        rw [← hQ]
        exact W.zret (v := iI z_34) (ty := .boolean) hx hb hr (nb_bool (by omega) (by omega)) (fun t ht hW => ⟨⟨iI z_34, (g_39, a_40), rfl, ⟨z_34, rfl, hI, hfA, haA, by omega, by show z_34 = 0 ∨ (rPn g_39 a_40 (g_39 7) ∧ mz g_39 a_40 (g_39 7) < mz g a (g 7 + 1)); first | exact Or.inl rfl | exact (show z_34 = 0 ∨ (rPn g_39 a_40 (g_39 7) ∧ mz g_39 a_40 (g_39 7) < mz g a (g 7 + 1)) by assumption) | exact Or.inr (st_do hrP1 (by omega) k1 (by omega) (by omega) (by omega) (by omega) (by omega) (by omega) t_61 t_62 t_63 t_64 t_65 t_66 (by omega) (by omega) (by omega) (by omega) t_60) | exact Or.inr (st_sg hrP1 (by omega) k1 (by omega) ⟨by omega, by omega, by omega, by omega, t_61, t_62, t_63, t_64, t_65, t_66⟩ (by omega) (by omega) (by omega) ⟨by omega, by omega, by omega⟩ t_60) | exact Or.inr (st_12 hrP1 (by omega) (by omega) ⟨by omega, by omega, by omega, by omega, t_61, t_62, t_63, t_64, t_65, t_66⟩ (by omega) (by omega) (by omega) (by omega) t_60) | exact Or.inr (st_13 hrP1 (by omega) (by omega) (by omega) (by omega) (by omega) (by omega) t_61 t_62 t_63 t_64 t_65 t_66 (by omega) (by omega) (by omega) (by omega) t_60) | exact Or.inr (st_1 hrP1 (by omega) (by omega) ⟨by omega, by omega, by omega, by omega, t_61, t_62, t_63, t_64, t_65, t_66⟩ (by omega) (by omega) (by omega) (by omega) (by omega) t_60) | exact Or.inr (st_3 hrP1 (by omega) (by omega) ⟨by omega, by omega, by omega, by omega, t_61, t_62, t_63, t_64, t_65, t_66⟩ (by omega) (by omega) (by omega) (by omega) (by omega) t_60) | exact Or.inr (st_6 hrP1 (by omega) (by omega) ⟨by omega, by omega, by omega, by omega, t_61, t_62, t_63, t_64, t_65, t_66⟩ (by omega) (by omega) (by omega) (by omega) (by omega) t_60) | exact Or.inr (st_8 hrP1 (by omega) (by omega) ⟨by omega, by omega, by omega, by omega, t_61, t_62, t_63, t_64, t_65, t_66⟩ (by omega) (by omega) (by omega) (by omega) (by omega) t_60)⟩, by rw [ht]; exact hP, va_K.moved hW.alike hK, hD⟩, hS.F ht⟩) hS.2.2 dX13_steps_127
      · refine jtab_in (v := iI 2) (off := 78) (tgt := 128) hx hb dX13_steps_50 (by rw [h_3]) (by decide) (by decide) (by decide) (by decide) ?_
        refine lv_aload_n hx hb dX13_steps_128 rfl (lv_at hl 0 rfl) ?_
        refine lv_bipush (v := iI 43) hx hb dX13_steps_129 rfl ?_
        refine lv_iconst (v := iI 2) hx hb dX13_steps_131 rfl ?_
        refine lv_bipush (v := iI 45) hx hb dX13_steps_132 rfl ?_
        refine lv_iconst (v := iI 3) hx hb dX13_steps_134 rfl ?_
        refine lv_iconst (v := iI 2) hx hb dX13_steps_135 rfl ?_
        refine lv_iconst (v := iI 3) hx hb dX13_steps_136 rfl ?_
        refine jcg_i (va_runV (As := [.int (iI 43), .int (iI 2), .int (iI 45), .int (iI 3), .int (iI 2), .int (iI 3)]) (rest := []) ⟨hx, hb, hml, hown, hts⟩ (sX13_more l dC dI _ ad ca sK sV g a 43 2 45 3 2 3 hI (by omega) (by omega) (by omega) (by omega) (by omega) (by omega) (by omega) hrP1) (cwV 6 hts (jgoodV m_231 m_426 m_427 m_503 m_180) rfl rfl rfl (by decide +kernel) ⟨(Nat.le_of_ble_eq_true rfl), (Nat.le_of_ble_eq_true rfl)⟩) ⟨mP_blind, va_recv hK hP (ci := 13) (q0 := 0) rfl rfl, fun U hU hW => ⟨rfl, mP_of hU hW hP hK hD hXs hS (fun _ h => h) hA⟩⟩ rfl rfl hl.1 rfl (lv_room (Nat.le_of_ble_eq_true rfl)) dX13_steps_137 ⟨(Nat.le_of_ble_eq_true rfl), (Nat.le_of_ble_eq_true rfl)⟩) hD hS hA (fun r_68 u_75 H locs w_69 hP hK hD hS => ?_)
        obtain ⟨g_73, a_74⟩ := u_75
        obtain ⟨z_70, rfl, hI, hfr_76, hfr_77, h_71, h_72⟩ := w_69
        have hP : va_P (dC, dI) vwCl (mG ad ca g_73 a_74) H := hP
        have hD : va_D A (mG ad ca g_73 a_74) := hD
        have hfA : ∀ j, j ∉ ([2, 3, 4, 5, 7, 8, 9, 12, 15] : List Nat) → g_73 j = g j := fun j h => (hfr_76 j (fun q => h (by first | exact q | (simp only [List.mem_cons, List.not_mem_nil, or_false] at q ⊢ <;> omega)))).trans (hfA j h)
        have b_79 : g_73 1 = g 1 := hfA 1 (by decide)
        have b_80 := hfr_76 8 (by decide)
        have b_81 := hfr_76 9 (by decide)
        have b_82 := hfr_76 12 (by decide)
        have b_83 := hfr_76 15 (by decide)
        have haA : ∀ j, j ∉ ([2, 3, 4, 5, 6, 7, 8] : List Nat) → a_74 j = a j := fun j h => (hfr_77 j (fun q => h (by first | exact q | (simp only [List.mem_cons, List.not_mem_nil, or_false] at q ⊢ <;> omega)))).trans (haA j h)
        have h_72 : z_70 = 0 ∨ (rPn g_73 a_74 (g_73 7) ∧ mz g_73 a_74 (g_73 7) < mz g a (g 7 + 1)) := h_72
        have b_84 : g_73 1 = g 1 := hfr_76 1 (by decide)
        have b_85 : g_73 8 = g 8 := hfr_76 8 (by decide)
        have b_86 : g_73 9 = g 9 := hfr_76 9 (by decide)
        have b_87 : g_73 12 = g 12 := hfr_76 12 (by decide)
        have b_88 : g_73 15 = g 15 := hfr_76 15 (by decide)
        have t_89 : a_74 3 = a 3 := (hfr_77 3 (by decide)).trans rfl
        have t_90 : a_74 4 = a 4 := (hfr_77 4 (by decide)).trans rfl
        have t_91 : a_74 5 = a 5 := (hfr_77 5 (by decide)).trans rfl
        have t_92 : a_74 6 = a 6 := (hfr_77 6 (by decide)).trans rfl
        have t_93 : a_74 7 = a 7 := (hfr_77 7 (by decide)).trans rfl
        have t_94 : a_74 8 = a 8 := (hfr_77 8 (by decide)).trans rfl
        have b_95 : 0 ≤ g_73 7 ∧ g_73 7 ≤ 1200 := hI.1 7
        rw [← hQ]
        exact W.zret (v := iI z_70) (ty := .boolean) hx hb hr (nb_bool (by omega) (by omega)) (fun t ht hW => ⟨⟨iI z_70, (g_73, a_74), rfl, ⟨z_70, rfl, hI, hfA, haA, by omega, by show z_70 = 0 ∨ (rPn g_73 a_74 (g_73 7) ∧ mz g_73 a_74 (g_73 7) < mz g a (g 7 + 1)); first | exact Or.inl rfl | exact (show z_70 = 0 ∨ (rPn g_73 a_74 (g_73 7) ∧ mz g_73 a_74 (g_73 7) < mz g a (g 7 + 1)) by assumption) | exact Or.inr (st_do hrP1 (by omega) k1 (by omega) (by omega) (by omega) (by omega) (by omega) (by omega) t_89 t_90 t_91 t_92 t_93 t_94 (by omega) (by omega) (by omega) (by omega) rfl) | exact Or.inr (st_sg hrP1 (by omega) k1 (by omega) ⟨by omega, by omega, by omega, by omega, t_89, t_90, t_91, t_92, t_93, t_94⟩ (by omega) (by omega) (by omega) ⟨by omega, by omega, by omega⟩ rfl) | exact Or.inr (st_12 hrP1 (by omega) (by omega) ⟨by omega, by omega, by omega, by omega, t_89, t_90, t_91, t_92, t_93, t_94⟩ (by omega) (by omega) (by omega) (by omega) rfl) | exact Or.inr (st_13 hrP1 (by omega) (by omega) (by omega) (by omega) (by omega) (by omega) t_89 t_90 t_91 t_92 t_93 t_94 (by omega) (by omega) (by omega) (by omega) rfl) | exact Or.inr (st_1 hrP1 (by omega) (by omega) ⟨by omega, by omega, by omega, by omega, t_89, t_90, t_91, t_92, t_93, t_94⟩ (by omega) (by omega) (by omega) (by omega) (by omega) rfl) | exact Or.inr (st_3 hrP1 (by omega) (by omega) ⟨by omega, by omega, by omega, by omega, t_89, t_90, t_91, t_92, t_93, t_94⟩ (by omega) (by omega) (by omega) (by omega) (by omega) rfl) | exact Or.inr (st_6 hrP1 (by omega) (by omega) ⟨by omega, by omega, by omega, by omega, t_89, t_90, t_91, t_92, t_93, t_94⟩ (by omega) (by omega) (by omega) (by omega) (by omega) rfl) | exact Or.inr (st_8 hrP1 (by omega) (by omega) ⟨by omega, by omega, by omega, by omega, t_89, t_90, t_91, t_92, t_93, t_94⟩ (by omega) (by omega) (by omega) (by omega) (by omega) rfl)⟩, by rw [ht]; exact hP, va_K.moved hW.alike hK, hD⟩, hS.F ht⟩) hS.2.2 dX13_steps_140
      · refine jtab_in (v := iI 3) (off := 91) (tgt := 141) hx hb dX13_steps_50 (by rw [h_3]) (by decide) (by decide) (by decide) (by decide) ?_
        refine lv_aload_n hx hb dX13_steps_141 rfl (lv_at hl 0 rfl) ?_
        refine lv_iconst (v := iI 4) hx hb dX13_steps_142 rfl ?_
        refine lv_iconst (v := iI 5) hx hb dX13_steps_143 rfl ?_
        refine jcg_i (va_runV (As := [.int (iI 4), .int (iI 5)]) (rest := []) ⟨hx, hb, hml, hown, hts⟩ (sX13_both l dC dI _ ad ca g a 4 5 hI (by omega) (by omega) (by omega)) (cwV 2 hts (jgoodV m_230 m_295 m_296 m_503 m_112) rfl rfl rfl (by decide +kernel) ⟨(Nat.le_of_ble_eq_true rfl), (Nat.le_of_ble_eq_true rfl)⟩) ⟨jw_blind, va_recv hK hP (ci := 13) (q0 := 0) rfl rfl, fun U hU hW => ⟨rfl, jw_of hU hW hP hK hD⟩⟩ rfl rfl hl.1 rfl (lv_room (Nat.le_of_ble_eq_true rfl)) dX13_steps_144 ⟨(Nat.le_of_ble_eq_true rfl), (Nat.le_of_ble_eq_true rfl)⟩) hD hS hA (fun r_96 u_105 H locs w_97 hP hK hD hS => ?_)
        obtain ⟨g_103, a_104⟩ := u_105
        obtain ⟨z_98, rfl, hI, hfr_106, hfr_107, h_99, h_100, h_101, h_102⟩ := w_97
        have hP : va_P (dC, dI) vwCl (mG ad ca g_103 a_104) H := hP
        have hD : va_D A (mG ad ca g_103 a_104) := hD
        have hfA : ∀ j, j ∉ ([2, 3, 4, 5, 7, 8, 9, 12, 15] : List Nat) → g_103 j = g j := fun j h => (hfr_106 j (fun q => h (by first | exact q | (simp only [List.mem_cons, List.not_mem_nil, or_false] at q ⊢ <;> omega)))).trans (hfA j h)
        have b_109 : g_103 1 = g 1 := hfA 1 (by decide)
        have b_110 := hfr_106 2 (by decide)
        have b_111 := hfr_106 3 (by decide)
        have b_112 := hfr_106 8 (by decide)
        have b_113 := hfr_106 9 (by decide)
        have b_114 := hfr_106 12 (by decide)
        have b_115 := hfr_106 15 (by decide)
        have haA : ∀ j, j ∉ ([2, 3, 4, 5, 6, 7, 8] : List Nat) → a_104 j = a j := fun j h => (hfr_107 j (fun q => h (by first | exact q | (simp only [List.mem_cons, List.not_mem_nil, or_false] at q ⊢ <;> omega)))).trans (haA j h)
        have h_100 : g_103 7 = g 7 + 2 := h_100
        have h_101 : a_104 2 = up (up (a 2) (g 7) 4) (g 7 + 1) 5 := h_101
        have b_116 : g_103 1 = g 1 := hfr_106 1 (by decide)
        have b_117 : g_103 2 = g 2 := hfr_106 2 (by decide)
        have b_118 : g_103 3 = g 3 := hfr_106 3 (by decide)
        have b_119 : g_103 4 = g 4 := hfr_106 4 (by decide)
        have b_120 : g_103 8 = g 8 := hfr_106 8 (by decide)
        have b_121 : g_103 9 = g 9 := hfr_106 9 (by decide)
        have b_122 : g_103 12 = g 12 := hfr_106 12 (by decide)
        have b_123 : g_103 15 = g 15 := hfr_106 15 (by decide)
        have t_124 : a_104 2 = up (up (a 2) (g 7) 4) (g 7 + 1) 5 := h_101.trans (up_c (up_c rfl (by omega) (by omega)) (by omega) (by omega))
        have t_125 : a_104 3 = a 3 := (hfr_107 3 (by decide)).trans rfl
        have t_126 : a_104 4 = a 4 := (hfr_107 4 (by decide)).trans rfl
        have t_127 : a_104 5 = a 5 := (hfr_107 5 (by decide)).trans rfl
        have t_128 : a_104 6 = a 6 := (hfr_107 6 (by decide)).trans rfl
        have t_129 : a_104 7 = a 7 := (hfr_107 7 (by decide)).trans rfl
        have t_130 : a_104 8 = a 8 := (hfr_107 8 (by decide)).trans rfl
        have b_131 : 0 ≤ g_103 7 ∧ g_103 7 ≤ 1200 := hI.1 7
        rw [← hQ]
        exact W.zret (v := iI z_98) (ty := .boolean) hx hb hr (nb_bool (by omega) (by omega)) (fun t ht hW => ⟨⟨iI z_98, (g_103, a_104), rfl, ⟨z_98, rfl, hI, hfA, haA, by omega, by show z_98 = 0 ∨ (rPn g_103 a_104 (g_103 7) ∧ mz g_103 a_104 (g_103 7) < mz g a (g 7 + 1)); first | exact Or.inl rfl | exact (show z_98 = 0 ∨ (rPn g_103 a_104 (g_103 7) ∧ mz g_103 a_104 (g_103 7) < mz g a (g 7 + 1)) by assumption) | exact Or.inr (st_do hrP1 (by omega) k1 (by omega) (by omega) (by omega) (by omega) (by omega) (by omega) t_125 t_126 t_127 t_128 t_129 t_130 (by omega) (by omega) (by omega) (by omega) t_124) | exact Or.inr (st_sg hrP1 (by omega) k1 (by omega) ⟨by omega, by omega, by omega, by omega, t_125, t_126, t_127, t_128, t_129, t_130⟩ (by omega) (by omega) (by omega) ⟨by omega, by omega, by omega⟩ t_124) | exact Or.inr (st_12 hrP1 (by omega) (by omega) ⟨by omega, by omega, by omega, by omega, t_125, t_126, t_127, t_128, t_129, t_130⟩ (by omega) (by omega) (by omega) (by omega) t_124) | exact Or.inr (st_13 hrP1 (by omega) (by omega) (by omega) (by omega) (by omega) (by omega) t_125 t_126 t_127 t_128 t_129 t_130 (by omega) (by omega) (by omega) (by omega) t_124) | exact Or.inr (st_1 hrP1 (by omega) (by omega) ⟨by omega, by omega, by omega, by omega, t_125, t_126, t_127, t_128, t_129, t_130⟩ (by omega) (by omega) (by omega) (by omega) (by omega) t_124) | exact Or.inr (st_3 hrP1 (by omega) (by omega) ⟨by omega, by omega, by omega, by omega, t_125, t_126, t_127, t_128, t_129, t_130⟩ (by omega) (by omega) (by omega) (by omega) (by omega) t_124) | exact Or.inr (st_6 hrP1 (by omega) (by omega) ⟨by omega, by omega, by omega, by omega, t_125, t_126, t_127, t_128, t_129, t_130⟩ (by omega) (by omega) (by omega) (by omega) (by omega) t_124) | exact Or.inr (st_8 hrP1 (by omega) (by omega) ⟨by omega, by omega, by omega, by omega, t_125, t_126, t_127, t_128, t_129, t_130⟩ (by omega) (by omega) (by omega) (by omega) (by omega) t_124)⟩, by rw [ht]; exact hP, va_K.moved hW.alike hK, hD⟩, hS.F ht⟩) hS.2.2 dX13_steps_147
      · refine jtab_in (v := iI 4) (off := 98) (tgt := 148) hx hb dX13_steps_50 (by rw [h_3]) (by decide) (by decide) (by decide) (by decide) ?_
        refine lv_aload_n hx hb dX13_steps_148 rfl (lv_at hl 0 rfl) ?_
        refine lv_bipush (v := iI 42) hx hb dX13_steps_149 rfl ?_
        refine lv_iconst (v := iI 4) hx hb dX13_steps_151 rfl ?_
        refine lv_bipush (v := iI 47) hx hb dX13_steps_152 rfl ?_
        refine lv_iconst (v := iI 5) hx hb dX13_steps_154 rfl ?_
        refine lv_iconst (v := iI 4) hx hb dX13_steps_155 rfl ?_
        refine lv_iconst (v := iI 5) hx hb dX13_steps_156 rfl ?_
        refine jcg_i (va_runV (As := [.int (iI 42), .int (iI 4), .int (iI 47), .int (iI 5), .int (iI 4), .int (iI 5)]) (rest := []) ⟨hx, hb, hml, hown, hts⟩ (sX13_more l dC dI _ ad ca sK sV g a 42 4 47 5 4 5 hI (by omega) (by omega) (by omega) (by omega) (by omega) (by omega) (by omega) hrP1) (cwV 6 hts (jgoodV m_231 m_426 m_427 m_503 m_180) rfl rfl rfl (by decide +kernel) ⟨(Nat.le_of_ble_eq_true rfl), (Nat.le_of_ble_eq_true rfl)⟩) ⟨mP_blind, va_recv hK hP (ci := 13) (q0 := 0) rfl rfl, fun U hU hW => ⟨rfl, mP_of hU hW hP hK hD hXs hS (fun _ h => h) hA⟩⟩ rfl rfl hl.1 rfl (lv_room (Nat.le_of_ble_eq_true rfl)) dX13_steps_157 ⟨(Nat.le_of_ble_eq_true rfl), (Nat.le_of_ble_eq_true rfl)⟩) hD hS hA (fun r_132 u_139 H locs w_133 hP hK hD hS => ?_)
        obtain ⟨g_137, a_138⟩ := u_139
        obtain ⟨z_134, rfl, hI, hfr_140, hfr_141, h_135, h_136⟩ := w_133
        have hP : va_P (dC, dI) vwCl (mG ad ca g_137 a_138) H := hP
        have hD : va_D A (mG ad ca g_137 a_138) := hD
        have hfA : ∀ j, j ∉ ([2, 3, 4, 5, 7, 8, 9, 12, 15] : List Nat) → g_137 j = g j := fun j h => (hfr_140 j (fun q => h (by first | exact q | (simp only [List.mem_cons, List.not_mem_nil, or_false] at q ⊢ <;> omega)))).trans (hfA j h)
        have b_143 : g_137 1 = g 1 := hfA 1 (by decide)
        have b_144 := hfr_140 8 (by decide)
        have b_145 := hfr_140 9 (by decide)
        have b_146 := hfr_140 12 (by decide)
        have b_147 := hfr_140 15 (by decide)
        have haA : ∀ j, j ∉ ([2, 3, 4, 5, 6, 7, 8] : List Nat) → a_138 j = a j := fun j h => (hfr_141 j (fun q => h (by first | exact q | (simp only [List.mem_cons, List.not_mem_nil, or_false] at q ⊢ <;> omega)))).trans (haA j h)
        have h_136 : z_134 = 0 ∨ (rPn g_137 a_138 (g_137 7) ∧ mz g_137 a_138 (g_137 7) < mz g a (g 7 + 1)) := h_136
        have b_148 : g_137 1 = g 1 := hfr_140 1 (by decide)
        have b_149 : g_137 8 = g 8 := hfr_140 8 (by decide)
        have b_150 : g_137 9 = g 9 := hfr_140 9 (by decide)
        have b_151 : g_137 12 = g 12 := hfr_140 12 (by decide)
        have b_152 : g_137 15 = g 15 := hfr_140 15 (by decide)
        have t_153 : a_138 3 = a 3 := (hfr_141 3 (by decide)).trans rfl
        have t_154 : a_138 4 = a 4 := (hfr_141 4 (by decide)).trans rfl
        have t_155 : a_138 5 = a 5 := (hfr_141 5 (by decide)).trans rfl
        have t_156 : a_138 6 = a 6 := (hfr_141 6 (by decide)).trans rfl
        have t_157 : a_138 7 = a 7 := (hfr_141 7 (by decide)).trans rfl
        have t_158 : a_138 8 = a 8 := (hfr_141 8 (by decide)).trans rfl
        have b_159 : 0 ≤ g_137 7 ∧ g_137 7 ≤ 1200 := hI.1 7
        rw [← hQ]
        exact W.zret (v := iI z_134) (ty := .boolean) hx hb hr (nb_bool (by omega) (by omega)) (fun t ht hW => ⟨⟨iI z_134, (g_137, a_138), rfl, ⟨z_134, rfl, hI, hfA, haA, by omega, by show z_134 = 0 ∨ (rPn g_137 a_138 (g_137 7) ∧ mz g_137 a_138 (g_137 7) < mz g a (g 7 + 1)); first | exact Or.inl rfl | exact (show z_134 = 0 ∨ (rPn g_137 a_138 (g_137 7) ∧ mz g_137 a_138 (g_137 7) < mz g a (g 7 + 1)) by assumption) | exact Or.inr (st_do hrP1 (by omega) k1 (by omega) (by omega) (by omega) (by omega) (by omega) (by omega) t_153 t_154 t_155 t_156 t_157 t_158 (by omega) (by omega) (by omega) (by omega) rfl) | exact Or.inr (st_sg hrP1 (by omega) k1 (by omega) ⟨by omega, by omega, by omega, by omega, t_153, t_154, t_155, t_156, t_157, t_158⟩ (by omega) (by omega) (by omega) ⟨by omega, by omega, by omega⟩ rfl) | exact Or.inr (st_12 hrP1 (by omega) (by omega) ⟨by omega, by omega, by omega, by omega, t_153, t_154, t_155, t_156, t_157, t_158⟩ (by omega) (by omega) (by omega) (by omega) rfl) | exact Or.inr (st_13 hrP1 (by omega) (by omega) (by omega) (by omega) (by omega) (by omega) t_153 t_154 t_155 t_156 t_157 t_158 (by omega) (by omega) (by omega) (by omega) rfl) | exact Or.inr (st_1 hrP1 (by omega) (by omega) ⟨by omega, by omega, by omega, by omega, t_153, t_154, t_155, t_156, t_157, t_158⟩ (by omega) (by omega) (by omega) (by omega) (by omega) rfl) | exact Or.inr (st_3 hrP1 (by omega) (by omega) ⟨by omega, by omega, by omega, by omega, t_153, t_154, t_155, t_156, t_157, t_158⟩ (by omega) (by omega) (by omega) (by omega) (by omega) rfl) | exact Or.inr (st_6 hrP1 (by omega) (by omega) ⟨by omega, by omega, by omega, by omega, t_153, t_154, t_155, t_156, t_157, t_158⟩ (by omega) (by omega) (by omega) (by omega) (by omega) rfl) | exact Or.inr (st_8 hrP1 (by omega) (by omega) ⟨by omega, by omega, by omega, by omega, t_153, t_154, t_155, t_156, t_157, t_158⟩ (by omega) (by omega) (by omega) (by omega) (by omega) rfl)⟩, by rw [ht]; exact hP, va_K.moved hW.alike hK, hD⟩, hS.F ht⟩) hS.2.2 dX13_steps_160
      · refine jtab_in (v := iI 5) (off := 111) (tgt := 161) hx hb dX13_steps_50 (by rw [h_3]) (by decide) (by decide) (by decide) (by decide) ?_
        refine lv_aload_n hx hb dX13_steps_161 rfl (lv_at hl 0 rfl) ?_
        refine jcg_i (va_runV (As := []) (rest := []) ⟨hx, hb, hml, hown, hts⟩ (sX13_factor l dC dI _ ad ca sK sV g a  hI (by omega) hrP1) (cwV 0 hts (jgoodV m_232 m_334 m_335 m_503 m_132) rfl rfl rfl (by decide +kernel) ⟨(Nat.le_of_ble_eq_true rfl), (Nat.le_of_ble_eq_true rfl)⟩) ⟨mP_blind, va_recv hK hP (ci := 13) (q0 := 0) rfl rfl, fun U hU hW => ⟨rfl, mP_of hU hW hP hK hD hXs hS (fun _ h => h) hA⟩⟩ rfl rfl hl.1 rfl (lv_room (Nat.le_of_ble_eq_true rfl)) dX13_steps_162 ⟨(Nat.le_of_ble_eq_true rfl), (Nat.le_of_ble_eq_true rfl)⟩) hD hS hA (fun r_160 u_167 H locs w_161 hP hK hD hS => ?_)
        obtain ⟨g_165, a_166⟩ := u_167
        obtain ⟨z_162, rfl, hI, hfr_168, hfr_169, h_163, h_164⟩ := w_161
        have hP : va_P (dC, dI) vwCl (mG ad ca g_165 a_166) H := hP
        have hD : va_D A (mG ad ca g_165 a_166) := hD
        have hfA : ∀ j, j ∉ ([2, 3, 4, 5, 7, 8, 9, 12, 15] : List Nat) → g_165 j = g j := fun j h => (hfr_168 j (fun q => h (by first | exact q | (simp only [List.mem_cons, List.not_mem_nil, or_false] at q ⊢ <;> omega)))).trans (hfA j h)
        have b_171 : g_165 1 = g 1 := hfA 1 (by decide)
        have b_172 := hfr_168 9 (by decide)
        have b_173 := hfr_168 15 (by decide)
        have haA : ∀ j, j ∉ ([2, 3, 4, 5, 6, 7, 8] : List Nat) → a_166 j = a j := fun j h => (hfr_169 j (fun q => h (by first | exact q | (simp only [List.mem_cons, List.not_mem_nil, or_false] at q ⊢ <;> omega)))).trans (haA j h)
        have h_164 : z_162 = 0 ∨ (rPn g_165 a_166 (g_165 7) ∧ mz g_165 a_166 (g_165 7) < mz g a (g 7 + 1)) := h_164
        have b_174 : g_165 1 = g 1 := hfr_168 1 (by decide)
        have b_175 : g_165 9 = g 9 := hfr_168 9 (by decide)
        have b_176 : g_165 15 = g 15 := hfr_168 15 (by decide)
        have t_177 : a_166 5 = a 5 := (hfr_169 5 (by decide)).trans rfl
        have t_178 : a_166 6 = a 6 := (hfr_169 6 (by decide)).trans rfl
        have t_179 : a_166 7 = a 7 := (hfr_169 7 (by decide)).trans rfl
        have t_180 : a_166 8 = a 8 := (hfr_169 8 (by decide)).trans rfl
        have b_181 : 0 ≤ g_165 7 ∧ g_165 7 ≤ 1200 := hI.1 7
        rw [← hQ]
        exact W.zret (v := iI z_162) (ty := .boolean) hx hb hr (nb_bool (by omega) (by omega)) (fun t ht hW => ⟨⟨iI z_162, (g_165, a_166), rfl, ⟨z_162, rfl, hI, hfA, haA, by omega, by show z_162 = 0 ∨ (rPn g_165 a_166 (g_165 7) ∧ mz g_165 a_166 (g_165 7) < mz g a (g 7 + 1)); first | exact Or.inl rfl | exact (show z_162 = 0 ∨ (rPn g_165 a_166 (g_165 7) ∧ mz g_165 a_166 (g_165 7) < mz g a (g 7 + 1)) by assumption) | exact Or.inr (st_do hrP1 (by omega) k1 (by omega) (by omega) (by omega) (by omega) (by omega) (by omega) rfl rfl t_177 t_178 t_179 t_180 (by omega) (by omega) (by omega) (by omega) rfl) | exact Or.inr (st_sg hrP1 (by omega) k1 (by omega) ⟨by omega, by omega, by omega, by omega, rfl, rfl, t_177, t_178, t_179, t_180⟩ (by omega) (by omega) (by omega) ⟨by omega, by omega, by omega⟩ rfl) | exact Or.inr (st_12 hrP1 (by omega) (by omega) ⟨by omega, by omega, by omega, by omega, rfl, rfl, t_177, t_178, t_179, t_180⟩ (by omega) (by omega) (by omega) (by omega) rfl) | exact Or.inr (st_13 hrP1 (by omega) (by omega) (by omega) (by omega) (by omega) (by omega) rfl rfl t_177 t_178 t_179 t_180 (by omega) (by omega) (by omega) (by omega) rfl) | exact Or.inr (st_1 hrP1 (by omega) (by omega) ⟨by omega, by omega, by omega, by omega, rfl, rfl, t_177, t_178, t_179, t_180⟩ (by omega) (by omega) (by omega) (by omega) (by omega) rfl) | exact Or.inr (st_3 hrP1 (by omega) (by omega) ⟨by omega, by omega, by omega, by omega, rfl, rfl, t_177, t_178, t_179, t_180⟩ (by omega) (by omega) (by omega) (by omega) (by omega) rfl) | exact Or.inr (st_6 hrP1 (by omega) (by omega) ⟨by omega, by omega, by omega, by omega, rfl, rfl, t_177, t_178, t_179, t_180⟩ (by omega) (by omega) (by omega) (by omega) (by omega) rfl) | exact Or.inr (st_8 hrP1 (by omega) (by omega) ⟨by omega, by omega, by omega, by omega, rfl, rfl, t_177, t_178, t_179, t_180⟩ (by omega) (by omega) (by omega) (by omega) (by omega) rfl)⟩, by rw [ht]; exact hP, va_K.moved hW.alike hK, hD⟩, hS.F ht⟩) hS.2.2 dX13_steps_165
      · refine jtab_in (v := iI 6) (off := 116) (tgt := 166) hx hb dX13_steps_50 (by rw [h_3]) (by decide) (by decide) (by decide) (by decide) ?_
        refine lv_aload_n hx hb dX13_steps_166 rfl (lv_at hl 0 rfl) ?_
        refine lv_bipush (v := iI 7) hx hb dX13_steps_167 rfl ?_
        refine lv_bipush (v := iI 8) hx hb dX13_steps_169 rfl ?_
        refine jcg_i (va_runV (As := [.int (iI 7), .int (iI 8)]) (rest := []) ⟨hx, hb, hml, hown, hts⟩ (sX13_both l dC dI _ ad ca g a 7 8 hI (by omega) (by omega) (by omega)) (cwV 2 hts (jgoodV m_230 m_295 m_296 m_503 m_112) rfl rfl rfl (by decide +kernel) ⟨(Nat.le_of_ble_eq_true rfl), (Nat.le_of_ble_eq_true rfl)⟩) ⟨jw_blind, va_recv hK hP (ci := 13) (q0 := 0) rfl rfl, fun U hU hW => ⟨rfl, jw_of hU hW hP hK hD⟩⟩ rfl rfl hl.1 rfl (lv_room (Nat.le_of_ble_eq_true rfl)) dX13_steps_171 ⟨(Nat.le_of_ble_eq_true rfl), (Nat.le_of_ble_eq_true rfl)⟩) hD hS hA (fun r_182 u_191 H locs w_183 hP hK hD hS => ?_)
        obtain ⟨g_189, a_190⟩ := u_191
        obtain ⟨z_184, rfl, hI, hfr_192, hfr_193, h_185, h_186, h_187, h_188⟩ := w_183
        have hP : va_P (dC, dI) vwCl (mG ad ca g_189 a_190) H := hP
        have hD : va_D A (mG ad ca g_189 a_190) := hD
        have hfA : ∀ j, j ∉ ([2, 3, 4, 5, 7, 8, 9, 12, 15] : List Nat) → g_189 j = g j := fun j h => (hfr_192 j (fun q => h (by first | exact q | (simp only [List.mem_cons, List.not_mem_nil, or_false] at q ⊢ <;> omega)))).trans (hfA j h)
        have b_195 : g_189 1 = g 1 := hfA 1 (by decide)
        have b_196 := hfr_192 2 (by decide)
        have b_197 := hfr_192 3 (by decide)
        have b_198 := hfr_192 8 (by decide)
        have b_199 := hfr_192 9 (by decide)
        have b_200 := hfr_192 12 (by decide)
        have b_201 := hfr_192 15 (by decide)
        have haA : ∀ j, j ∉ ([2, 3, 4, 5, 6, 7, 8] : List Nat) → a_190 j = a j := fun j h => (hfr_193 j (fun q => h (by first | exact q | (simp only [List.mem_cons, List.not_mem_nil, or_false] at q ⊢ <;> omega)))).trans (haA j h)
        have h_186 : g_189 7 = g 7 + 2 := h_186
        have h_187 : a_190 2 = up (up (a 2) (g 7) 7) (g 7 + 1) 8 := h_187
        have b_202 : g_189 1 = g 1 := hfr_192 1 (by decide)
        have b_203 : g_189 2 = g 2 := hfr_192 2 (by decide)
        have b_204 : g_189 3 = g 3 := hfr_192 3 (by decide)
        have b_205 : g_189 4 = g 4 := hfr_192 4 (by decide)
        have b_206 : g_189 8 = g 8 := hfr_192 8 (by decide)
        have b_207 : g_189 9 = g 9 := hfr_192 9 (by decide)
        have b_208 : g_189 12 = g 12 := hfr_192 12 (by decide)
        have b_209 : g_189 15 = g 15 := hfr_192 15 (by decide)
        have t_210 : a_190 2 = up (up (a 2) (g 7) 7) (g 7 + 1) 8 := h_187.trans (up_c (up_c rfl (by omega) (by omega)) (by omega) (by omega))
        have t_211 : a_190 3 = a 3 := (hfr_193 3 (by decide)).trans rfl
        have t_212 : a_190 4 = a 4 := (hfr_193 4 (by decide)).trans rfl
        have t_213 : a_190 5 = a 5 := (hfr_193 5 (by decide)).trans rfl
        have t_214 : a_190 6 = a 6 := (hfr_193 6 (by decide)).trans rfl
        have t_215 : a_190 7 = a 7 := (hfr_193 7 (by decide)).trans rfl
        have t_216 : a_190 8 = a 8 := (hfr_193 8 (by decide)).trans rfl
        have b_217 : 0 ≤ g_189 7 ∧ g_189 7 ≤ 1200 := hI.1 7
        rw [← hQ]
        exact W.zret (v := iI z_184) (ty := .boolean) hx hb hr (nb_bool (by omega) (by omega)) (fun t ht hW => ⟨⟨iI z_184, (g_189, a_190), rfl, ⟨z_184, rfl, hI, hfA, haA, by omega, by show z_184 = 0 ∨ (rPn g_189 a_190 (g_189 7) ∧ mz g_189 a_190 (g_189 7) < mz g a (g 7 + 1)); first | exact Or.inl rfl | exact (show z_184 = 0 ∨ (rPn g_189 a_190 (g_189 7) ∧ mz g_189 a_190 (g_189 7) < mz g a (g 7 + 1)) by assumption) | exact Or.inr (st_do hrP1 (by omega) k1 (by omega) (by omega) (by omega) (by omega) (by omega) (by omega) t_211 t_212 t_213 t_214 t_215 t_216 (by omega) (by omega) (by omega) (by omega) t_210) | exact Or.inr (st_sg hrP1 (by omega) k1 (by omega) ⟨by omega, by omega, by omega, by omega, t_211, t_212, t_213, t_214, t_215, t_216⟩ (by omega) (by omega) (by omega) ⟨by omega, by omega, by omega⟩ t_210) | exact Or.inr (st_12 hrP1 (by omega) (by omega) ⟨by omega, by omega, by omega, by omega, t_211, t_212, t_213, t_214, t_215, t_216⟩ (by omega) (by omega) (by omega) (by omega) t_210) | exact Or.inr (st_13 hrP1 (by omega) (by omega) (by omega) (by omega) (by omega) (by omega) t_211 t_212 t_213 t_214 t_215 t_216 (by omega) (by omega) (by omega) (by omega) t_210) | exact Or.inr (st_1 hrP1 (by omega) (by omega) ⟨by omega, by omega, by omega, by omega, t_211, t_212, t_213, t_214, t_215, t_216⟩ (by omega) (by omega) (by omega) (by omega) (by omega) t_210) | exact Or.inr (st_3 hrP1 (by omega) (by omega) ⟨by omega, by omega, by omega, by omega, t_211, t_212, t_213, t_214, t_215, t_216⟩ (by omega) (by omega) (by omega) (by omega) (by omega) t_210) | exact Or.inr (st_6 hrP1 (by omega) (by omega) ⟨by omega, by omega, by omega, by omega, t_211, t_212, t_213, t_214, t_215, t_216⟩ (by omega) (by omega) (by omega) (by omega) (by omega) t_210) | exact Or.inr (st_8 hrP1 (by omega) (by omega) ⟨by omega, by omega, by omega, by omega, t_211, t_212, t_213, t_214, t_215, t_216⟩ (by omega) (by omega) (by omega) (by omega) (by omega) t_210)⟩, by rw [ht]; exact hP, va_K.moved hW.alike hK, hD⟩, hS.F ht⟩) hS.2.2 dX13_steps_174
      · refine jtab_in (v := iI 7) (off := 125) (tgt := 175) hx hb dX13_steps_50 (by rw [h_3]) (by decide) (by decide) (by decide) (by decide) ?_
        refine lv_aload_n hx hb dX13_steps_175 rfl (lv_at hl 0 rfl) ?_
        refine lv_bipush (v := iI 25) hx hb dX13_steps_176 rfl ?_
        refine lv_bipush (v := iI 10) hx hb dX13_steps_178 rfl ?_
        refine lv_bipush (v := iI 7) hx hb dX13_steps_180 rfl ?_
        refine lv_bipush (v := iI 8) hx hb dX13_steps_182 rfl ?_
        refine jcg_i (va_runV (As := [.int (iI 25), .int (iI 10), .int (iI 7), .int (iI 8)]) (rest := []) ⟨hx, hb, hml, hown, hts⟩ (sX13_moreWords l dC dI _ ad ca sK sV g a 25 10 7 8 hI (by omega) (by omega) (by omega) (by omega) (by omega) hrP1) (cwV 4 hts (jgoodV m_233 m_428 m_429 m_503 m_181) rfl rfl rfl (by decide +kernel) ⟨(Nat.le_of_ble_eq_true rfl), (Nat.le_of_ble_eq_true rfl)⟩) ⟨mP_blind, va_recv hK hP (ci := 13) (q0 := 0) rfl rfl, fun U hU hW => ⟨rfl, mP_of hU hW hP hK hD hXs hS (fun _ h => h) hA⟩⟩ rfl rfl hl.1 rfl (lv_room (Nat.le_of_ble_eq_true rfl)) dX13_steps_184 ⟨(Nat.le_of_ble_eq_true rfl), (Nat.le_of_ble_eq_true rfl)⟩) hD hS hA (fun r_218 u_225 H locs w_219 hP hK hD hS => ?_)
        obtain ⟨g_223, a_224⟩ := u_225
        obtain ⟨z_220, rfl, hI, hfr_226, hfr_227, h_221, h_222⟩ := w_219
        have hP : va_P (dC, dI) vwCl (mG ad ca g_223 a_224) H := hP
        have hD : va_D A (mG ad ca g_223 a_224) := hD
        have hfA : ∀ j, j ∉ ([2, 3, 4, 5, 7, 8, 9, 12, 15] : List Nat) → g_223 j = g j := fun j h => (hfr_226 j (fun q => h (by first | exact q | (simp only [List.mem_cons, List.not_mem_nil, or_false] at q ⊢ <;> omega)))).trans (hfA j h)
        have b_229 : g_223 1 = g 1 := hfA 1 (by decide)
        have b_230 := hfr_226 8 (by decide)
        have b_231 := hfr_226 9 (by decide)
        have b_232 := hfr_226 12 (by decide)
        have b_233 := hfr_226 15 (by decide)
        have haA : ∀ j, j ∉ ([2, 3, 4, 5, 6, 7, 8] : List Nat) → a_224 j = a j := fun j h => (hfr_227 j (fun q => h (by first | exact q | (simp only [List.mem_cons, List.not_mem_nil, or_false] at q ⊢ <;> omega)))).trans (haA j h)
        have h_222 : z_220 = 0 ∨ (rPn g_223 a_224 (g_223 7) ∧ mz g_223 a_224 (g_223 7) < mz g a (g 7 + 1)) := h_222
        have b_234 : g_223 1 = g 1 := hfr_226 1 (by decide)
        have b_235 : g_223 8 = g 8 := hfr_226 8 (by decide)
        have b_236 : g_223 9 = g 9 := hfr_226 9 (by decide)
        have b_237 : g_223 12 = g 12 := hfr_226 12 (by decide)
        have b_238 : g_223 15 = g 15 := hfr_226 15 (by decide)
        have t_239 : a_224 3 = a 3 := (hfr_227 3 (by decide)).trans rfl
        have t_240 : a_224 4 = a 4 := (hfr_227 4 (by decide)).trans rfl
        have t_241 : a_224 5 = a 5 := (hfr_227 5 (by decide)).trans rfl
        have t_242 : a_224 6 = a 6 := (hfr_227 6 (by decide)).trans rfl
        have t_243 : a_224 7 = a 7 := (hfr_227 7 (by decide)).trans rfl
        have t_244 : a_224 8 = a 8 := (hfr_227 8 (by decide)).trans rfl
        have b_245 : 0 ≤ g_223 7 ∧ g_223 7 ≤ 1200 := hI.1 7
        rw [← hQ]
        exact W.zret (v := iI z_220) (ty := .boolean) hx hb hr (nb_bool (by omega) (by omega)) (fun t ht hW => ⟨⟨iI z_220, (g_223, a_224), rfl, ⟨z_220, rfl, hI, hfA, haA, by omega, by show z_220 = 0 ∨ (rPn g_223 a_224 (g_223 7) ∧ mz g_223 a_224 (g_223 7) < mz g a (g 7 + 1)); first | exact Or.inl rfl | exact (show z_220 = 0 ∨ (rPn g_223 a_224 (g_223 7) ∧ mz g_223 a_224 (g_223 7) < mz g a (g 7 + 1)) by assumption) | exact Or.inr (st_do hrP1 (by omega) k1 (by omega) (by omega) (by omega) (by omega) (by omega) (by omega) t_239 t_240 t_241 t_242 t_243 t_244 (by omega) (by omega) (by omega) (by omega) rfl) | exact Or.inr (st_sg hrP1 (by omega) k1 (by omega) ⟨by omega, by omega, by omega, by omega, t_239, t_240, t_241, t_242, t_243, t_244⟩ (by omega) (by omega) (by omega) ⟨by omega, by omega, by omega⟩ rfl) | exact Or.inr (st_12 hrP1 (by omega) (by omega) ⟨by omega, by omega, by omega, by omega, t_239, t_240, t_241, t_242, t_243, t_244⟩ (by omega) (by omega) (by omega) (by omega) rfl) | exact Or.inr (st_13 hrP1 (by omega) (by omega) (by omega) (by omega) (by omega) (by omega) t_239 t_240 t_241 t_242 t_243 t_244 (by omega) (by omega) (by omega) (by omega) rfl) | exact Or.inr (st_1 hrP1 (by omega) (by omega) ⟨by omega, by omega, by omega, by omega, t_239, t_240, t_241, t_242, t_243, t_244⟩ (by omega) (by omega) (by omega) (by omega) (by omega) rfl) | exact Or.inr (st_3 hrP1 (by omega) (by omega) ⟨by omega, by omega, by omega, by omega, t_239, t_240, t_241, t_242, t_243, t_244⟩ (by omega) (by omega) (by omega) (by omega) (by omega) rfl) | exact Or.inr (st_6 hrP1 (by omega) (by omega) ⟨by omega, by omega, by omega, by omega, t_239, t_240, t_241, t_242, t_243, t_244⟩ (by omega) (by omega) (by omega) (by omega) (by omega) rfl) | exact Or.inr (st_8 hrP1 (by omega) (by omega) ⟨by omega, by omega, by omega, by omega, t_239, t_240, t_241, t_242, t_243, t_244⟩ (by omega) (by omega) (by omega) (by omega) (by omega) rfl)⟩, by rw [ht]; exact hP, va_K.moved hW.alike hK, hD⟩, hS.F ht⟩) hS.2.2 dX13_steps_187
      · refine jtab_in (v := iI 8) (off := 138) (tgt := 188) hx hb dX13_steps_50 (by rw [h_3]) (by decide) (by decide) (by decide) (by decide) ?_
        refine lv_aload_n hx hb dX13_steps_188 rfl (lv_at hl 0 rfl) ?_
        refine lv_bipush (v := iI 9) hx hb dX13_steps_189 rfl ?_
        refine lv_bipush (v := iI 10) hx hb dX13_steps_191 rfl ?_
        refine jcg_i (va_runV (As := [.int (iI 9), .int (iI 10)]) (rest := []) ⟨hx, hb, hml, hown, hts⟩ (sX13_both l dC dI _ ad ca g a 9 10 hI (by omega) (by omega) (by omega)) (cwV 2 hts (jgoodV m_230 m_295 m_296 m_503 m_112) rfl rfl rfl (by decide +kernel) ⟨(Nat.le_of_ble_eq_true rfl), (Nat.le_of_ble_eq_true rfl)⟩) ⟨jw_blind, va_recv hK hP (ci := 13) (q0 := 0) rfl rfl, fun U hU hW => ⟨rfl, jw_of hU hW hP hK hD⟩⟩ rfl rfl hl.1 rfl (lv_room (Nat.le_of_ble_eq_true rfl)) dX13_steps_193 ⟨(Nat.le_of_ble_eq_true rfl), (Nat.le_of_ble_eq_true rfl)⟩) hD hS hA (fun r_246 u_255 H locs w_247 hP hK hD hS => ?_)
        obtain ⟨g_253, a_254⟩ := u_255
        obtain ⟨z_248, rfl, hI, hfr_256, hfr_257, h_249, h_250, h_251, h_252⟩ := w_247
        have hP : va_P (dC, dI) vwCl (mG ad ca g_253 a_254) H := hP
        have hD : va_D A (mG ad ca g_253 a_254) := hD
        have hfA : ∀ j, j ∉ ([2, 3, 4, 5, 7, 8, 9, 12, 15] : List Nat) → g_253 j = g j := fun j h => (hfr_256 j (fun q => h (by first | exact q | (simp only [List.mem_cons, List.not_mem_nil, or_false] at q ⊢ <;> omega)))).trans (hfA j h)
        have b_259 : g_253 1 = g 1 := hfA 1 (by decide)
        have b_260 := hfr_256 2 (by decide)
        have b_261 := hfr_256 3 (by decide)
        have b_262 := hfr_256 8 (by decide)
        have b_263 := hfr_256 9 (by decide)
        have b_264 := hfr_256 12 (by decide)
        have b_265 := hfr_256 15 (by decide)
        have haA : ∀ j, j ∉ ([2, 3, 4, 5, 6, 7, 8] : List Nat) → a_254 j = a j := fun j h => (hfr_257 j (fun q => h (by first | exact q | (simp only [List.mem_cons, List.not_mem_nil, or_false] at q ⊢ <;> omega)))).trans (haA j h)
        have h_250 : g_253 7 = g 7 + 2 := h_250
        have h_251 : a_254 2 = up (up (a 2) (g 7) 9) (g 7 + 1) 10 := h_251
        have b_266 : g_253 1 = g 1 := hfr_256 1 (by decide)
        have b_267 : g_253 2 = g 2 := hfr_256 2 (by decide)
        have b_268 : g_253 3 = g 3 := hfr_256 3 (by decide)
        have b_269 : g_253 4 = g 4 := hfr_256 4 (by decide)
        have b_270 : g_253 8 = g 8 := hfr_256 8 (by decide)
        have b_271 : g_253 9 = g 9 := hfr_256 9 (by decide)
        have b_272 : g_253 12 = g 12 := hfr_256 12 (by decide)
        have b_273 : g_253 15 = g 15 := hfr_256 15 (by decide)
        have t_274 : a_254 2 = up (up (a 2) (g 7) 9) (g 7 + 1) 10 := h_251.trans (up_c (up_c rfl (by omega) (by omega)) (by omega) (by omega))
        have t_275 : a_254 3 = a 3 := (hfr_257 3 (by decide)).trans rfl
        have t_276 : a_254 4 = a 4 := (hfr_257 4 (by decide)).trans rfl
        have t_277 : a_254 5 = a 5 := (hfr_257 5 (by decide)).trans rfl
        have t_278 : a_254 6 = a 6 := (hfr_257 6 (by decide)).trans rfl
        have t_279 : a_254 7 = a 7 := (hfr_257 7 (by decide)).trans rfl
        have t_280 : a_254 8 = a 8 := (hfr_257 8 (by decide)).trans rfl
        have b_281 : 0 ≤ g_253 7 ∧ g_253 7 ≤ 1200 := hI.1 7
        rw [← hQ]
        exact W.zret (v := iI z_248) (ty := .boolean) hx hb hr (nb_bool (by omega) (by omega)) (fun t ht hW => ⟨⟨iI z_248, (g_253, a_254), rfl, ⟨z_248, rfl, hI, hfA, haA, by omega, by show z_248 = 0 ∨ (rPn g_253 a_254 (g_253 7) ∧ mz g_253 a_254 (g_253 7) < mz g a (g 7 + 1)); first | exact Or.inl rfl | exact (show z_248 = 0 ∨ (rPn g_253 a_254 (g_253 7) ∧ mz g_253 a_254 (g_253 7) < mz g a (g 7 + 1)) by assumption) | exact Or.inr (st_do hrP1 (by omega) k1 (by omega) (by omega) (by omega) (by omega) (by omega) (by omega) t_275 t_276 t_277 t_278 t_279 t_280 (by omega) (by omega) (by omega) (by omega) t_274) | exact Or.inr (st_sg hrP1 (by omega) k1 (by omega) ⟨by omega, by omega, by omega, by omega, t_275, t_276, t_277, t_278, t_279, t_280⟩ (by omega) (by omega) (by omega) ⟨by omega, by omega, by omega⟩ t_274) | exact Or.inr (st_12 hrP1 (by omega) (by omega) ⟨by omega, by omega, by omega, by omega, t_275, t_276, t_277, t_278, t_279, t_280⟩ (by omega) (by omega) (by omega) (by omega) t_274) | exact Or.inr (st_13 hrP1 (by omega) (by omega) (by omega) (by omega) (by omega) (by omega) t_275 t_276 t_277 t_278 t_279 t_280 (by omega) (by omega) (by omega) (by omega) t_274) | exact Or.inr (st_1 hrP1 (by omega) (by omega) ⟨by omega, by omega, by omega, by omega, t_275, t_276, t_277, t_278, t_279, t_280⟩ (by omega) (by omega) (by omega) (by omega) (by omega) t_274) | exact Or.inr (st_3 hrP1 (by omega) (by omega) ⟨by omega, by omega, by omega, by omega, t_275, t_276, t_277, t_278, t_279, t_280⟩ (by omega) (by omega) (by omega) (by omega) (by omega) t_274) | exact Or.inr (st_6 hrP1 (by omega) (by omega) ⟨by omega, by omega, by omega, by omega, t_275, t_276, t_277, t_278, t_279, t_280⟩ (by omega) (by omega) (by omega) (by omega) (by omega) t_274) | exact Or.inr (st_8 hrP1 (by omega) (by omega) ⟨by omega, by omega, by omega, by omega, t_275, t_276, t_277, t_278, t_279, t_280⟩ (by omega) (by omega) (by omega) (by omega) (by omega) t_274)⟩, by rw [ht]; exact hP, va_K.moved hW.alike hK, hD⟩, hS.F ht⟩) hS.2.2 dX13_steps_196
      · refine jtab_in (v := iI 9) (off := 147) (tgt := 197) hx hb dX13_steps_50 (by rw [h_3]) (by decide) (by decide) (by decide) (by decide) ?_
        refine lv_aload_n hx hb dX13_steps_197 rfl (lv_at hl 0 rfl) ?_
        refine lv_bipush (v := iI 26) hx hb dX13_steps_198 rfl ?_
        refine lv_bipush (v := iI 9) hx hb dX13_steps_200 rfl ?_
        refine lv_bipush (v := iI 9) hx hb dX13_steps_202 rfl ?_
        refine lv_bipush (v := iI 10) hx hb dX13_steps_204 rfl ?_
        refine jcg_i (va_runV (As := [.int (iI 26), .int (iI 9), .int (iI 9), .int (iI 10)]) (rest := []) ⟨hx, hb, hml, hown, hts⟩ (sX13_moreWords l dC dI _ ad ca sK sV g a 26 9 9 10 hI (by omega) (by omega) (by omega) (by omega) (by omega) hrP1) (cwV 4 hts (jgoodV m_233 m_428 m_429 m_503 m_181) rfl rfl rfl (by decide +kernel) ⟨(Nat.le_of_ble_eq_true rfl), (Nat.le_of_ble_eq_true rfl)⟩) ⟨mP_blind, va_recv hK hP (ci := 13) (q0 := 0) rfl rfl, fun U hU hW => ⟨rfl, mP_of hU hW hP hK hD hXs hS (fun _ h => h) hA⟩⟩ rfl rfl hl.1 rfl (lv_room (Nat.le_of_ble_eq_true rfl)) dX13_steps_206 ⟨(Nat.le_of_ble_eq_true rfl), (Nat.le_of_ble_eq_true rfl)⟩) hD hS hA (fun r_282 u_289 H locs w_283 hP hK hD hS => ?_)
        obtain ⟨g_287, a_288⟩ := u_289
        obtain ⟨z_284, rfl, hI, hfr_290, hfr_291, h_285, h_286⟩ := w_283
        have hP : va_P (dC, dI) vwCl (mG ad ca g_287 a_288) H := hP
        have hD : va_D A (mG ad ca g_287 a_288) := hD
        have hfA : ∀ j, j ∉ ([2, 3, 4, 5, 7, 8, 9, 12, 15] : List Nat) → g_287 j = g j := fun j h => (hfr_290 j (fun q => h (by first | exact q | (simp only [List.mem_cons, List.not_mem_nil, or_false] at q ⊢ <;> omega)))).trans (hfA j h)
        have b_293 : g_287 1 = g 1 := hfA 1 (by decide)
        have b_294 := hfr_290 8 (by decide)
        have b_295 := hfr_290 9 (by decide)
        have b_296 := hfr_290 12 (by decide)
        have b_297 := hfr_290 15 (by decide)
        have haA : ∀ j, j ∉ ([2, 3, 4, 5, 6, 7, 8] : List Nat) → a_288 j = a j := fun j h => (hfr_291 j (fun q => h (by first | exact q | (simp only [List.mem_cons, List.not_mem_nil, or_false] at q ⊢ <;> omega)))).trans (haA j h)
        have h_286 : z_284 = 0 ∨ (rPn g_287 a_288 (g_287 7) ∧ mz g_287 a_288 (g_287 7) < mz g a (g 7 + 1)) := h_286
        have b_298 : g_287 1 = g 1 := hfr_290 1 (by decide)
        have b_299 : g_287 8 = g 8 := hfr_290 8 (by decide)
        have b_300 : g_287 9 = g 9 := hfr_290 9 (by decide)
        have b_301 : g_287 12 = g 12 := hfr_290 12 (by decide)
        have b_302 : g_287 15 = g 15 := hfr_290 15 (by decide)
        have t_303 : a_288 3 = a 3 := (hfr_291 3 (by decide)).trans rfl
        have t_304 : a_288 4 = a 4 := (hfr_291 4 (by decide)).trans rfl
        have t_305 : a_288 5 = a 5 := (hfr_291 5 (by decide)).trans rfl
        have t_306 : a_288 6 = a 6 := (hfr_291 6 (by decide)).trans rfl
        have t_307 : a_288 7 = a 7 := (hfr_291 7 (by decide)).trans rfl
        have t_308 : a_288 8 = a 8 := (hfr_291 8 (by decide)).trans rfl
        have b_309 : 0 ≤ g_287 7 ∧ g_287 7 ≤ 1200 := hI.1 7
        rw [← hQ]
        exact W.zret (v := iI z_284) (ty := .boolean) hx hb hr (nb_bool (by omega) (by omega)) (fun t ht hW => ⟨⟨iI z_284, (g_287, a_288), rfl, ⟨z_284, rfl, hI, hfA, haA, by omega, by show z_284 = 0 ∨ (rPn g_287 a_288 (g_287 7) ∧ mz g_287 a_288 (g_287 7) < mz g a (g 7 + 1)); first | exact Or.inl rfl | exact (show z_284 = 0 ∨ (rPn g_287 a_288 (g_287 7) ∧ mz g_287 a_288 (g_287 7) < mz g a (g 7 + 1)) by assumption) | exact Or.inr (st_do hrP1 (by omega) k1 (by omega) (by omega) (by omega) (by omega) (by omega) (by omega) t_303 t_304 t_305 t_306 t_307 t_308 (by omega) (by omega) (by omega) (by omega) rfl) | exact Or.inr (st_sg hrP1 (by omega) k1 (by omega) ⟨by omega, by omega, by omega, by omega, t_303, t_304, t_305, t_306, t_307, t_308⟩ (by omega) (by omega) (by omega) ⟨by omega, by omega, by omega⟩ rfl) | exact Or.inr (st_12 hrP1 (by omega) (by omega) ⟨by omega, by omega, by omega, by omega, t_303, t_304, t_305, t_306, t_307, t_308⟩ (by omega) (by omega) (by omega) (by omega) rfl) | exact Or.inr (st_13 hrP1 (by omega) (by omega) (by omega) (by omega) (by omega) (by omega) t_303 t_304 t_305 t_306 t_307 t_308 (by omega) (by omega) (by omega) (by omega) rfl) | exact Or.inr (st_1 hrP1 (by omega) (by omega) ⟨by omega, by omega, by omega, by omega, t_303, t_304, t_305, t_306, t_307, t_308⟩ (by omega) (by omega) (by omega) (by omega) (by omega) rfl) | exact Or.inr (st_3 hrP1 (by omega) (by omega) ⟨by omega, by omega, by omega, by omega, t_303, t_304, t_305, t_306, t_307, t_308⟩ (by omega) (by omega) (by omega) (by omega) (by omega) rfl) | exact Or.inr (st_6 hrP1 (by omega) (by omega) ⟨by omega, by omega, by omega, by omega, t_303, t_304, t_305, t_306, t_307, t_308⟩ (by omega) (by omega) (by omega) (by omega) (by omega) rfl) | exact Or.inr (st_8 hrP1 (by omega) (by omega) ⟨by omega, by omega, by omega, by omega, t_303, t_304, t_305, t_306, t_307, t_308⟩ (by omega) (by omega) (by omega) (by omega) (by omega) rfl)⟩, by rw [ht]; exact hP, va_K.moved hW.alike hK, hD⟩, hS.F ht⟩) hS.2.2 dX13_steps_209
      · refine jtab_in (v := iI 10) (off := 160) (tgt := 210) hx hb dX13_steps_50 (by rw [h_3]) (by decide) (by decide) (by decide) (by decide) ?_
        refine lv_aload_n hx hb dX13_steps_210 rfl (lv_at hl 0 rfl) ?_
        refine jcg_i (va_runV (As := []) (rest := []) ⟨hx, hb, hml, hown, hts⟩ (sX13_holds l dC dI _ ad ca sK sV g a  hI (by omega) hrP1) (cwV 0 hts (jgoodV m_234 m_362 m_363 m_503 m_146) rfl rfl rfl (by decide +kernel) ⟨(Nat.le_of_ble_eq_true rfl), (Nat.le_of_ble_eq_true rfl)⟩) ⟨mP_blind, va_recv hK hP (ci := 13) (q0 := 0) rfl rfl, fun U hU hW => ⟨rfl, mP_of hU hW hP hK hD hXs hS (fun _ h => h) hA⟩⟩ rfl rfl hl.1 rfl (lv_room (Nat.le_of_ble_eq_true rfl)) dX13_steps_211 ⟨(Nat.le_of_ble_eq_true rfl), (Nat.le_of_ble_eq_true rfl)⟩) hD hS hA (fun r_310 u_317 H locs w_311 hP hK hD hS => ?_)
        obtain ⟨g_315, a_316⟩ := u_317
        obtain ⟨z_312, rfl, hI, hfr_318, hfr_319, h_313, h_314⟩ := w_311
        have hP : va_P (dC, dI) vwCl (mG ad ca g_315 a_316) H := hP
        have hD : va_D A (mG ad ca g_315 a_316) := hD
        have hfA : ∀ j, j ∉ ([2, 3, 4, 5, 7, 8, 9, 12, 15] : List Nat) → g_315 j = g j := fun j h => (hfr_318 j (fun q => h (by first | exact q | (simp only [List.mem_cons, List.not_mem_nil, or_false] at q ⊢ <;> omega)))).trans (hfA j h)
        have b_321 : g_315 1 = g 1 := hfA 1 (by decide)
        have b_322 := hfr_318 9 (by decide)
        have b_323 := hfr_318 12 (by decide)
        have b_324 := hfr_318 15 (by decide)
        have haA : ∀ j, j ∉ ([2, 3, 4, 5, 6, 7, 8] : List Nat) → a_316 j = a j := fun j h => (hfr_319 j (fun q => h (by first | exact q | (simp only [List.mem_cons, List.not_mem_nil, or_false] at q ⊢ <;> omega)))).trans (haA j h)
        have h_314 : z_312 = 0 ∨ (rPn g_315 a_316 (g_315 7) ∧ mz g_315 a_316 (g_315 7) < mz g a (g 7 + 1)) := h_314
        have b_325 : g_315 1 = g 1 := hfr_318 1 (by decide)
        have b_326 : g_315 9 = g 9 := hfr_318 9 (by decide)
        have b_327 : g_315 12 = g 12 := hfr_318 12 (by decide)
        have b_328 : g_315 15 = g 15 := hfr_318 15 (by decide)
        have t_329 : a_316 3 = a 3 := (hfr_319 3 (by decide)).trans rfl
        have t_330 : a_316 4 = a 4 := (hfr_319 4 (by decide)).trans rfl
        have t_331 : a_316 5 = a 5 := (hfr_319 5 (by decide)).trans rfl
        have t_332 : a_316 6 = a 6 := (hfr_319 6 (by decide)).trans rfl
        have t_333 : a_316 7 = a 7 := (hfr_319 7 (by decide)).trans rfl
        have t_334 : a_316 8 = a 8 := (hfr_319 8 (by decide)).trans rfl
        have b_335 : 0 ≤ g_315 7 ∧ g_315 7 ≤ 1200 := hI.1 7
        rw [← hQ]
        exact W.zret (v := iI z_312) (ty := .boolean) hx hb hr (nb_bool (by omega) (by omega)) (fun t ht hW => ⟨⟨iI z_312, (g_315, a_316), rfl, ⟨z_312, rfl, hI, hfA, haA, by omega, by show z_312 = 0 ∨ (rPn g_315 a_316 (g_315 7) ∧ mz g_315 a_316 (g_315 7) < mz g a (g 7 + 1)); first | exact Or.inl rfl | exact (show z_312 = 0 ∨ (rPn g_315 a_316 (g_315 7) ∧ mz g_315 a_316 (g_315 7) < mz g a (g 7 + 1)) by assumption) | exact Or.inr (st_do hrP1 (by omega) k1 (by omega) (by omega) (by omega) (by omega) (by omega) (by omega) t_329 t_330 t_331 t_332 t_333 t_334 (by omega) (by omega) (by omega) (by omega) rfl) | exact Or.inr (st_sg hrP1 (by omega) k1 (by omega) ⟨by omega, by omega, by omega, by omega, t_329, t_330, t_331, t_332, t_333, t_334⟩ (by omega) (by omega) (by omega) ⟨by omega, by omega, by omega⟩ rfl) | exact Or.inr (st_12 hrP1 (by omega) (by omega) ⟨by omega, by omega, by omega, by omega, t_329, t_330, t_331, t_332, t_333, t_334⟩ (by omega) (by omega) (by omega) (by omega) rfl) | exact Or.inr (st_13 hrP1 (by omega) (by omega) (by omega) (by omega) (by omega) (by omega) t_329 t_330 t_331 t_332 t_333 t_334 (by omega) (by omega) (by omega) (by omega) rfl) | exact Or.inr (st_1 hrP1 (by omega) (by omega) ⟨by omega, by omega, by omega, by omega, t_329, t_330, t_331, t_332, t_333, t_334⟩ (by omega) (by omega) (by omega) (by omega) (by omega) rfl) | exact Or.inr (st_3 hrP1 (by omega) (by omega) ⟨by omega, by omega, by omega, by omega, t_329, t_330, t_331, t_332, t_333, t_334⟩ (by omega) (by omega) (by omega) (by omega) (by omega) rfl) | exact Or.inr (st_6 hrP1 (by omega) (by omega) ⟨by omega, by omega, by omega, by omega, t_329, t_330, t_331, t_332, t_333, t_334⟩ (by omega) (by omega) (by omega) (by omega) (by omega) rfl) | exact Or.inr (st_8 hrP1 (by omega) (by omega) ⟨by omega, by omega, by omega, by omega, t_329, t_330, t_331, t_332, t_333, t_334⟩ (by omega) (by omega) (by omega) (by omega) (by omega) rfl)⟩, by rw [ht]; exact hP, va_K.moved hW.alike hK, hD⟩, hS.F ht⟩) hS.2.2 dX13_steps_214
      · refine jtab_in (v := iI 11) (off := 165) (tgt := 215) hx hb dX13_steps_50 (by rw [h_3]) (by decide) (by decide) (by decide) (by decide) ?_
        refine lv_aload_n hx hb dX13_steps_215 rfl (lv_at hl 0 rfl) ?_
        refine jcg_i (va_runV (As := []) (rest := []) ⟨hx, hb, hml, hown, hts⟩ (sX13_compares l dC dI _ ad ca sK sV g a  hI (by omega) hrP1) (cwV 0 hts (jgoodV m_235 m_314 m_315 m_503 m_122) rfl rfl rfl (by decide +kernel) ⟨(Nat.le_of_ble_eq_true rfl), (Nat.le_of_ble_eq_true rfl)⟩) ⟨mP_blind, va_recv hK hP (ci := 13) (q0 := 0) rfl rfl, fun U hU hW => ⟨rfl, mP_of hU hW hP hK hD hXs hS (fun _ h => h) hA⟩⟩ rfl rfl hl.1 rfl (lv_room (Nat.le_of_ble_eq_true rfl)) dX13_steps_216 ⟨(Nat.le_of_ble_eq_true rfl), (Nat.le_of_ble_eq_true rfl)⟩) hD hS hA (fun r_336 u_343 H locs w_337 hP hK hD hS => ?_)
        obtain ⟨g_341, a_342⟩ := u_343
        obtain ⟨z_338, rfl, hI, hfr_344, hfr_345, h_339, h_340⟩ := w_337
        have hP : va_P (dC, dI) vwCl (mG ad ca g_341 a_342) H := hP
        have hD : va_D A (mG ad ca g_341 a_342) := hD
        have hfA : ∀ j, j ∉ ([2, 3, 4, 5, 7, 8, 9, 12, 15] : List Nat) → g_341 j = g j := fun j h => (hfr_344 j (fun q => h (by first | exact q | (simp only [List.mem_cons, List.not_mem_nil, or_false] at q ⊢ <;> omega)))).trans (hfA j h)
        have b_347 : g_341 1 = g 1 := hfA 1 (by decide)
        have b_348 := hfr_344 8 (by decide)
        have b_349 := hfr_344 9 (by decide)
        have b_350 := hfr_344 12 (by decide)
        have b_351 := hfr_344 15 (by decide)
        have haA : ∀ j, j ∉ ([2, 3, 4, 5, 6, 7, 8] : List Nat) → a_342 j = a j := fun j h => (hfr_345 j (fun q => h (by first | exact q | (simp only [List.mem_cons, List.not_mem_nil, or_false] at q ⊢ <;> omega)))).trans (haA j h)
        have h_340 : z_338 = 0 ∨ (rPn g_341 a_342 (g_341 7) ∧ mz g_341 a_342 (g_341 7) < mz g a (g 7 + 1)) := h_340
        have b_352 : g_341 1 = g 1 := hfr_344 1 (by decide)
        have b_353 : g_341 8 = g 8 := hfr_344 8 (by decide)
        have b_354 : g_341 9 = g 9 := hfr_344 9 (by decide)
        have b_355 : g_341 12 = g 12 := hfr_344 12 (by decide)
        have b_356 : g_341 15 = g 15 := hfr_344 15 (by decide)
        have t_357 : a_342 3 = a 3 := (hfr_345 3 (by decide)).trans rfl
        have t_358 : a_342 4 = a 4 := (hfr_345 4 (by decide)).trans rfl
        have t_359 : a_342 5 = a 5 := (hfr_345 5 (by decide)).trans rfl
        have t_360 : a_342 6 = a 6 := (hfr_345 6 (by decide)).trans rfl
        have t_361 : a_342 7 = a 7 := (hfr_345 7 (by decide)).trans rfl
        have t_362 : a_342 8 = a 8 := (hfr_345 8 (by decide)).trans rfl
        have b_363 : 0 ≤ g_341 7 ∧ g_341 7 ≤ 1200 := hI.1 7
        rw [← hQ]
        exact W.zret (v := iI z_338) (ty := .boolean) hx hb hr (nb_bool (by omega) (by omega)) (fun t ht hW => ⟨⟨iI z_338, (g_341, a_342), rfl, ⟨z_338, rfl, hI, hfA, haA, by omega, by show z_338 = 0 ∨ (rPn g_341 a_342 (g_341 7) ∧ mz g_341 a_342 (g_341 7) < mz g a (g 7 + 1)); first | exact Or.inl rfl | exact (show z_338 = 0 ∨ (rPn g_341 a_342 (g_341 7) ∧ mz g_341 a_342 (g_341 7) < mz g a (g 7 + 1)) by assumption) | exact Or.inr (st_do hrP1 (by omega) k1 (by omega) (by omega) (by omega) (by omega) (by omega) (by omega) t_357 t_358 t_359 t_360 t_361 t_362 (by omega) (by omega) (by omega) (by omega) rfl) | exact Or.inr (st_sg hrP1 (by omega) k1 (by omega) ⟨by omega, by omega, by omega, by omega, t_357, t_358, t_359, t_360, t_361, t_362⟩ (by omega) (by omega) (by omega) ⟨by omega, by omega, by omega⟩ rfl) | exact Or.inr (st_12 hrP1 (by omega) (by omega) ⟨by omega, by omega, by omega, by omega, t_357, t_358, t_359, t_360, t_361, t_362⟩ (by omega) (by omega) (by omega) (by omega) rfl) | exact Or.inr (st_13 hrP1 (by omega) (by omega) (by omega) (by omega) (by omega) (by omega) t_357 t_358 t_359 t_360 t_361 t_362 (by omega) (by omega) (by omega) (by omega) rfl) | exact Or.inr (st_1 hrP1 (by omega) (by omega) ⟨by omega, by omega, by omega, by omega, t_357, t_358, t_359, t_360, t_361, t_362⟩ (by omega) (by omega) (by omega) (by omega) (by omega) rfl) | exact Or.inr (st_3 hrP1 (by omega) (by omega) ⟨by omega, by omega, by omega, by omega, t_357, t_358, t_359, t_360, t_361, t_362⟩ (by omega) (by omega) (by omega) (by omega) (by omega) rfl) | exact Or.inr (st_6 hrP1 (by omega) (by omega) ⟨by omega, by omega, by omega, by omega, t_357, t_358, t_359, t_360, t_361, t_362⟩ (by omega) (by omega) (by omega) (by omega) (by omega) rfl) | exact Or.inr (st_8 hrP1 (by omega) (by omega) ⟨by omega, by omega, by omega, by omega, t_357, t_358, t_359, t_360, t_361, t_362⟩ (by omega) (by omega) (by omega) (by omega) (by omega) rfl)⟩, by rw [ht]; exact hP, va_K.moved hW.alike hK, hD⟩, hS.F ht⟩) hS.2.2 dX13_steps_219
      · refine jtab_in (v := iI 12) (off := 170) (tgt := 220) hx hb dX13_steps_50 (by rw [h_3]) (by decide) (by decide) (by decide) (by decide) ?_
        have hbu := bd_up hrP1 (by omega) (by omega)
        refine lv_aload_n hx hb dX13_steps_220 rfl (lv_at hl 0 rfl) ?_
        refine lv_dup hx hb dX13_steps_221 rfl ?_
        refine gf_deep hx hb hj hown hK hP hI dX13_steps_222 (fun h_364 => ?_)
        refine lv_iconst (v := iI 1) hx hb dX13_steps_225 rfl ?_
        refine xr_sub hx hb dX13_steps_226 ?_
        refine xr_kept (fun z_365 h_366 h_367 => ?_)
        refine pa_deep hx hb hj hown hK hP hD hS hI dX13_steps_227 (fun g_368 z_371 H locs h_372 h_373 e_369 e_370 hI hP hD hS => ?_)
        have hfA : ∀ j, j ∉ ([2, 3, 4, 5, 7, 8, 9, 12, 15] : List Nat) → g_368 j = g j := fun j h => (e_369 j (fun q => h (q ▸ (by decide : 8 ∈ ([2, 3, 4, 5, 7, 8, 9, 12, 15] : List Nat))))).trans (hfA j h)
        have b_374 := e_369 2 (by decide)
        have b_375 := e_369 3 (by decide)
        have b_376 := e_369 7 (by decide)
        have b_377 := e_369 9 (by decide)
        have b_378 := e_369 12 (by decide)
        have b_379 := e_369 15 (by decide)
        have b_380 : g_368 1 = g 1 := hfA 1 (by decide)
        have b_381 := e_369 1 (by decide)
        have b_382 := e_369 2 (by decide)
        have b_383 := e_369 3 (by decide)
        have b_384 := e_369 4 (by decide)
        have b_385 := e_369 7 (by decide)
        have b_386 := e_369 9 (by decide)
        have b_387 := e_369 12 (by decide)
        have b_388 := e_369 15 (by decide)
        refine lv_iconst (v := iI 1) hx hb dX13_steps_230 rfl ?_
        rw [← hQ]
        exact W.zret (v := iI 1) (ty := .boolean) hx hb hr (nb_bool (by omega) (by omega)) (fun t ht hW => ⟨⟨iI 1, (g_368, a), rfl, ⟨1, rfl, hI, hfA, haA, by omega, by show 1 = 0 ∨ (rPn g_368 a (g_368 7) ∧ mz g_368 a (g_368 7) < mz g a (g 7 + 1)); first | exact Or.inl rfl | exact (show 1 = 0 ∨ (rPn g_368 a (g_368 7) ∧ mz g_368 a (g_368 7) < mz g a (g 7 + 1)) by assumption) | exact Or.inr (st_do hrP1 (by omega) k1 (by omega) (by omega) (by omega) (by omega) (by omega) (by omega) rfl rfl rfl rfl rfl rfl (by omega) (by omega) (by omega) (by omega) rfl) | exact Or.inr (st_sg hrP1 (by omega) k1 (by omega) ⟨by omega, by omega, by omega, by omega, rfl, rfl, rfl, rfl, rfl, rfl⟩ (by omega) (by omega) (by omega) ⟨by omega, by omega, by omega⟩ rfl) | exact Or.inr (st_12 hrP1 (by omega) (by omega) ⟨by omega, by omega, by omega, by omega, rfl, rfl, rfl, rfl, rfl, rfl⟩ (by omega) (by omega) (by omega) (by omega) rfl) | exact Or.inr (st_13 hrP1 (by omega) (by omega) (by omega) (by omega) (by omega) (by omega) rfl rfl rfl rfl rfl rfl (by omega) (by omega) (by omega) (by omega) rfl) | exact Or.inr (st_1 hrP1 (by omega) (by omega) ⟨by omega, by omega, by omega, by omega, rfl, rfl, rfl, rfl, rfl, rfl⟩ (by omega) (by omega) (by omega) (by omega) (by omega) rfl) | exact Or.inr (st_3 hrP1 (by omega) (by omega) ⟨by omega, by omega, by omega, by omega, rfl, rfl, rfl, rfl, rfl, rfl⟩ (by omega) (by omega) (by omega) (by omega) (by omega) rfl) | exact Or.inr (st_6 hrP1 (by omega) (by omega) ⟨by omega, by omega, by omega, by omega, rfl, rfl, rfl, rfl, rfl, rfl⟩ (by omega) (by omega) (by omega) (by omega) (by omega) rfl) | exact Or.inr (st_8 hrP1 (by omega) (by omega) ⟨by omega, by omega, by omega, by omega, rfl, rfl, rfl, rfl, rfl, rfl⟩ (by omega) (by omega) (by omega) (by omega) (by omega) rfl)⟩, by rw [ht]; exact hP, va_K.moved hW.alike hK, hD⟩, hS.F ht⟩) hS.2.2 dX13_steps_231
    · refine lv_aload_n hx hb dX13_steps_25 rfl (lv_at hl 0 rfl) ?_
      refine lv_iload_n hx hb dX13_steps_26 rfl (lv_at hl 1 rfl) ?_
      refine lv_bipush (v := iI 100) hx hb dX13_steps_27 rfl ?_
      refine xr_sub hx hb dX13_steps_29 ?_
      refine jc_i (va_runV (As := [.int (iI (p1 - 100))]) (rest := []) ⟨hx, hb, hml, hown, hts⟩ (sX13_isSign l dC dI _ ad ca g a (p1 - 100) hI (by omega)) (cwV 1 hts (jgoodV m_227 m_389 m_390 m_503 m_161) rfl rfl rfl (by decide +kernel) ⟨(Nat.le_of_ble_eq_true rfl), (Nat.le_of_ble_eq_true rfl)⟩) ⟨jw_blind, va_recv hK hP (ci := 13) (q0 := 0) rfl rfl, fun U hU hW => ⟨rfl, jw_of hU hW hP hK hD⟩⟩ rfl rfl hl.1 rfl (lv_room (Nat.le_of_ble_eq_true rfl)) dX13_steps_30 ⟨(Nat.le_of_ble_eq_true rfl), (Nat.le_of_ble_eq_true rfl)⟩) hP hS hA (fun r_389 H locs w_390 hP hS => ?_)
      obtain ⟨z_391, rfl, h_392, h_393⟩ := w_390
      have b_394 : 0 ≤ g 3 ∧ g 3 ≤ 4 := hI.1 3
      refine xr_if_eq (tgt := 47) hx hb dX13_steps_33 (by decide) (by omega) (fun h_395 => ?_) (fun h_395 => ?_)
      · refine lv_iconst (v := iI 0) hx hb dX13_steps_47 rfl ?_
        rw [← hQ]
        exact W.zret (v := iI 0) (ty := .boolean) hx hb hr (nb_bool (by omega) (by omega)) (fun t ht hW => ⟨⟨iI 0, (g, a), rfl, ⟨0, rfl, hI, hfA, haA, by omega, by show 0 = 0 ∨ (rPn g a (g 7) ∧ mz g a (g 7) < mz g a (g 7 + 1)); first | exact Or.inl rfl | exact (show 0 = 0 ∨ (rPn g a (g 7) ∧ mz g a (g 7) < mz g a (g 7 + 1)) by assumption) | exact Or.inr (st_do hrP1 (by omega) k1 (by omega) (by omega) (by omega) (by omega) (by omega) (by omega) rfl rfl rfl rfl rfl rfl (by omega) (by omega) (by omega) (by omega) rfl) | exact Or.inr (st_sg hrP1 (by omega) k1 (by omega) ⟨by omega, by omega, by omega, by omega, rfl, rfl, rfl, rfl, rfl, rfl⟩ (by omega) (by omega) (by omega) ⟨by omega, by omega, by omega⟩ rfl) | exact Or.inr (st_12 hrP1 (by omega) (by omega) ⟨by omega, by omega, by omega, by omega, rfl, rfl, rfl, rfl, rfl, rfl⟩ (by omega) (by omega) (by omega) (by omega) rfl) | exact Or.inr (st_13 hrP1 (by omega) (by omega) (by omega) (by omega) (by omega) (by omega) rfl rfl rfl rfl rfl rfl (by omega) (by omega) (by omega) (by omega) rfl) | exact Or.inr (st_1 hrP1 (by omega) (by omega) ⟨by omega, by omega, by omega, by omega, rfl, rfl, rfl, rfl, rfl, rfl⟩ (by omega) (by omega) (by omega) (by omega) (by omega) rfl) | exact Or.inr (st_3 hrP1 (by omega) (by omega) ⟨by omega, by omega, by omega, by omega, rfl, rfl, rfl, rfl, rfl, rfl⟩ (by omega) (by omega) (by omega) (by omega) (by omega) rfl) | exact Or.inr (st_6 hrP1 (by omega) (by omega) ⟨by omega, by omega, by omega, by omega, rfl, rfl, rfl, rfl, rfl, rfl⟩ (by omega) (by omega) (by omega) (by omega) (by omega) rfl) | exact Or.inr (st_8 hrP1 (by omega) (by omega) ⟨by omega, by omega, by omega, by omega, rfl, rfl, rfl, rfl, rfl, rfl⟩ (by omega) (by omega) (by omega) (by omega) (by omega) rfl)⟩, by rw [ht]; exact hP, va_K.moved hW.alike hK, hD⟩, hS.F ht⟩) hS.2.2 dX13_steps_48
      · refine lv_aload_n hx hb dX13_steps_36 rfl (lv_at hl 0 rfl) ?_
        refine jcg_i (va_runV (As := []) (rest := []) ⟨hx, hb, hml, hown, hts⟩ (sX13_takes l dC dI _ ad ca sK sV g a  hI (by omega)) (cwV 0 hts (jgoodV m_228 m_480 m_481 m_503 m_208) rfl rfl rfl (by decide +kernel) ⟨(Nat.le_of_ble_eq_true rfl), (Nat.le_of_ble_eq_true rfl)⟩) ⟨mP_blind, va_recv hK hP (ci := 13) (q0 := 0) rfl rfl, fun U hU hW => ⟨rfl, mP_of hU hW hP hK hD hXs hS (fun _ h => h) hA⟩⟩ rfl rfl hl.1 rfl (lv_room (Nat.le_of_ble_eq_true rfl)) dX13_steps_37 ⟨(Nat.le_of_ble_eq_true rfl), (Nat.le_of_ble_eq_true rfl)⟩) hD hS hA (fun r_396 u_407 H locs w_397 hP hK hD hS => ?_)
        obtain ⟨g_405, a_406⟩ := u_407
        obtain ⟨z_398, rfl, hI, hfr_408, hfr_409, h_399, h_400, h_401, h_402, h_403, h_404⟩ := w_397
        have hP : va_P (dC, dI) vwCl (mG ad ca g_405 a_406) H := hP
        have hD : va_D A (mG ad ca g_405 a_406) := hD
        have hfA : ∀ j, j ∉ ([2, 3, 4, 5, 7, 8, 9, 12, 15] : List Nat) → g_405 j = g j := fun j h => (hfr_408 j (fun q => h (by first | exact q | (simp only [List.mem_cons, List.not_mem_nil, or_false] at q ⊢ <;> omega)))).trans (hfA j h)
        have b_411 : g_405 1 = g 1 := hfA 1 (by decide)
        have b_412 := hfr_408 7 (by decide)
        have b_413 := hfr_408 8 (by decide)
        have b_414 := hfr_408 9 (by decide)
        have b_415 := hfr_408 12 (by decide)
        have b_416 := hfr_408 15 (by decide)
        have haA : ∀ j, j ∉ ([2, 3, 4, 5, 6, 7, 8] : List Nat) → a_406 j = a j := fun j h => (hfr_409 j (fun q => h (by first | exact q | (simp only [List.mem_cons, List.not_mem_nil, or_false] at q ⊢ <;> omega)))).trans (haA j h)
        have h_401 : g 2 ≤ g_405 2 := h_401
        have h_402 : g_405 2 ≤ g 1 := h_402
        have h_403 : g_405 3 = 0 ∨ g 2 + 1 ≤ g_405 2 := h_403
        have h_404 : g_405 4 ≤ g_405 2 := h_404
        have b_417 : g_405 1 = g 1 := hfr_408 1 (by decide)
        have b_418 : g_405 7 = g 7 := hfr_408 7 (by decide)
        have b_419 : g_405 8 = g 8 := hfr_408 8 (by decide)
        have b_420 : g_405 9 = g 9 := hfr_408 9 (by decide)
        have b_421 : g_405 12 = g 12 := hfr_408 12 (by decide)
        have b_422 : g_405 15 = g 15 := hfr_408 15 (by decide)
        have t_423 : a_406 2 = a 2 := (hfr_409 2 (by decide)).trans rfl
        have t_424 : a_406 3 = a 3 := (hfr_409 3 (by decide)).trans rfl
        have t_425 : a_406 4 = a 4 := (hfr_409 4 (by decide)).trans rfl
        have t_426 : a_406 5 = a 5 := (hfr_409 5 (by decide)).trans rfl
        have t_427 : a_406 6 = a 6 := (hfr_409 6 (by decide)).trans rfl
        have t_428 : a_406 7 = a 7 := (hfr_409 7 (by decide)).trans rfl
        have t_429 : a_406 8 = a 8 := (hfr_409 8 (by decide)).trans rfl
        have b_430 : 0 ≤ g_405 1 ∧ g_405 1 ≤ 600 := hI.1 1
        have b_431 : 0 ≤ g_405 2 ∧ g_405 2 ≤ 600 := hI.1 2
        refine xr_if_eq (tgt := 47) hx hb dX13_steps_40 (by decide) (by omega) (fun h_432 => ?_) (fun h_432 => ?_)
        · refine lv_iconst (v := iI 0) hx hb dX13_steps_47 rfl ?_
          rw [← hQ]
          exact W.zret (v := iI 0) (ty := .boolean) hx hb hr (nb_bool (by omega) (by omega)) (fun t ht hW => ⟨⟨iI 0, (g_405, a_406), rfl, ⟨0, rfl, hI, hfA, haA, by omega, by show 0 = 0 ∨ (rPn g_405 a_406 (g_405 7) ∧ mz g_405 a_406 (g_405 7) < mz g a (g 7 + 1)); first | exact Or.inl rfl | exact (show 0 = 0 ∨ (rPn g_405 a_406 (g_405 7) ∧ mz g_405 a_406 (g_405 7) < mz g a (g 7 + 1)) by assumption) | exact Or.inr (st_do hrP1 (by omega) k1 (by omega) (by omega) (by omega) (by omega) (by omega) (by omega) t_424 t_425 t_426 t_427 t_428 t_429 (by omega) (by omega) (by omega) (by omega) t_423) | exact Or.inr (st_sg hrP1 (by omega) k1 (by omega) ⟨by omega, by omega, by omega, by omega, t_424, t_425, t_426, t_427, t_428, t_429⟩ (by omega) (by omega) (by omega) ⟨by omega, by omega, by omega⟩ t_423) | exact Or.inr (st_12 hrP1 (by omega) (by omega) ⟨by omega, by omega, by omega, by omega, t_424, t_425, t_426, t_427, t_428, t_429⟩ (by omega) (by omega) (by omega) (by omega) t_423) | exact Or.inr (st_13 hrP1 (by omega) (by omega) (by omega) (by omega) (by omega) (by omega) t_424 t_425 t_426 t_427 t_428 t_429 (by omega) (by omega) (by omega) (by omega) t_423) | exact Or.inr (st_1 hrP1 (by omega) (by omega) ⟨by omega, by omega, by omega, by omega, t_424, t_425, t_426, t_427, t_428, t_429⟩ (by omega) (by omega) (by omega) (by omega) (by omega) t_423) | exact Or.inr (st_3 hrP1 (by omega) (by omega) ⟨by omega, by omega, by omega, by omega, t_424, t_425, t_426, t_427, t_428, t_429⟩ (by omega) (by omega) (by omega) (by omega) (by omega) t_423) | exact Or.inr (st_6 hrP1 (by omega) (by omega) ⟨by omega, by omega, by omega, by omega, t_424, t_425, t_426, t_427, t_428, t_429⟩ (by omega) (by omega) (by omega) (by omega) (by omega) t_423) | exact Or.inr (st_8 hrP1 (by omega) (by omega) ⟨by omega, by omega, by omega, by omega, t_424, t_425, t_426, t_427, t_428, t_429⟩ (by omega) (by omega) (by omega) (by omega) (by omega) t_423)⟩, by rw [ht]; exact hP, va_K.moved hW.alike hK, hD⟩, hS.F ht⟩) hS.2.2 dX13_steps_48
        · refine lv_iconst (v := iI 1) hx hb dX13_steps_43 rfl ?_
          refine lv_goto (tgt := 48) hx hb dX13_steps_44 (by decide) ?_
          rw [← hQ]
          exact W.zret (v := iI 1) (ty := .boolean) hx hb hr (nb_bool (by omega) (by omega)) (fun t ht hW => ⟨⟨iI 1, (g_405, a_406), rfl, ⟨1, rfl, hI, hfA, haA, by omega, by show 1 = 0 ∨ (rPn g_405 a_406 (g_405 7) ∧ mz g_405 a_406 (g_405 7) < mz g a (g 7 + 1)); first | exact Or.inl rfl | exact (show 1 = 0 ∨ (rPn g_405 a_406 (g_405 7) ∧ mz g_405 a_406 (g_405 7) < mz g a (g 7 + 1)) by assumption) | exact Or.inr (st_do hrP1 (by omega) k1 (by omega) (by omega) (by omega) (by omega) (by omega) (by omega) t_424 t_425 t_426 t_427 t_428 t_429 (by omega) (by omega) (by omega) (by omega) t_423) | exact Or.inr (st_sg hrP1 (by omega) k1 (by omega) ⟨by omega, by omega, by omega, by omega, t_424, t_425, t_426, t_427, t_428, t_429⟩ (by omega) (by omega) (by omega) ⟨by omega, by omega, by omega⟩ t_423) | exact Or.inr (st_12 hrP1 (by omega) (by omega) ⟨by omega, by omega, by omega, by omega, t_424, t_425, t_426, t_427, t_428, t_429⟩ (by omega) (by omega) (by omega) (by omega) t_423) | exact Or.inr (st_13 hrP1 (by omega) (by omega) (by omega) (by omega) (by omega) (by omega) t_424 t_425 t_426 t_427 t_428 t_429 (by omega) (by omega) (by omega) (by omega) t_423) | exact Or.inr (st_1 hrP1 (by omega) (by omega) ⟨by omega, by omega, by omega, by omega, t_424, t_425, t_426, t_427, t_428, t_429⟩ (by omega) (by omega) (by omega) (by omega) (by omega) t_423) | exact Or.inr (st_3 hrP1 (by omega) (by omega) ⟨by omega, by omega, by omega, by omega, t_424, t_425, t_426, t_427, t_428, t_429⟩ (by omega) (by omega) (by omega) (by omega) (by omega) t_423) | exact Or.inr (st_6 hrP1 (by omega) (by omega) ⟨by omega, by omega, by omega, by omega, t_424, t_425, t_426, t_427, t_428, t_429⟩ (by omega) (by omega) (by omega) (by omega) (by omega) t_423) | exact Or.inr (st_8 hrP1 (by omega) (by omega) ⟨by omega, by omega, by omega, by omega, t_424, t_425, t_426, t_427, t_428, t_429⟩ (by omega) (by omega) (by omega) (by omega) (by omega) t_423)⟩, by rw [ht]; exact hP, va_K.moved hW.alike hK, hD⟩, hS.F ht⟩) hS.2.2 dX13_steps_48
  · have hbd := bd_do hrP1 (by omega) k1 (by omega)
    refine lv_aload_n hx hb dX13_steps_7 rfl (lv_at hl 0 rfl) ?_
    refine lv_iload_n hx hb dX13_steps_8 rfl (lv_at hl 1 rfl) ?_
    refine lv_sipush (v := iI 1000) hx hb dX13_steps_9 rfl ?_
    refine xr_sub hx hb dX13_steps_12 ?_
    refine lv_iconst (v := iI 0) hx hb dX13_steps_13 rfl ?_
    refine jcg_v (va_runV (As := [.int (iI (p1 - 1000)), .int (iI 0)]) (rest := []) ⟨hx, hb, hml, hown, hts⟩ (sX13_emits l dC dI _ ad ca g a (p1 - 1000) 0 hI (by omega) (by omega) (by omega)) (cwV 2 hts (jgoodV m_226 m_322 m_323 m_503 m_126) rfl rfl rfl (by decide +kernel) ⟨(Nat.le_of_ble_eq_true rfl), (Nat.le_of_ble_eq_true rfl)⟩) ⟨jw_blind, va_recv hK hP (ci := 13) (q0 := 0) rfl rfl, fun U hU hW => ⟨rfl, jw_of hU hW hP hK hD⟩⟩ rfl rfl hl.1 rfl (lv_room (Nat.le_of_ble_eq_true rfl)) dX13_steps_14 ⟨(Nat.le_of_ble_eq_true rfl), (Nat.le_of_ble_eq_true rfl)⟩) hD hS hA (fun u_441 H locs w_434 hP hK hD hS => ?_)
    obtain ⟨g_439, a_440⟩ := u_441
    obtain ⟨hI, hfr_442, hfr_443, h_436, h_437, h_438⟩ := w_434
    have hP : va_P (dC, dI) vwCl (mG ad ca g_439 a_440) H := hP
    have hD : va_D A (mG ad ca g_439 a_440) := hD
    have hfA : ∀ j, j ∉ ([2, 3, 4, 5, 7, 8, 9, 12, 15] : List Nat) → g_439 j = g j := fun j h => (hfr_442 j (fun q => h (by first | exact q | (simp only [List.mem_cons, List.not_mem_nil, or_false] at q ⊢ <;> omega)))).trans (hfA j h)
    have b_445 : g_439 1 = g 1 := hfA 1 (by decide)
    have b_446 := hfr_442 2 (by decide)
    have b_447 := hfr_442 3 (by decide)
    have b_448 := hfr_442 7 (by decide)
    have b_449 := hfr_442 8 (by decide)
    have b_450 := hfr_442 9 (by decide)
    have b_451 := hfr_442 15 (by decide)
    have haA : ∀ j, j ∉ ([2, 3, 4, 5, 6, 7, 8] : List Nat) → a_440 j = a j := fun j h => (hfr_443 j (fun q => h (by first | exact q | (simp only [List.mem_cons, List.not_mem_nil, or_false] at q ⊢ <;> omega)))).trans (haA j h)
    have h_436 : g_439 12 = g 12 + 1 := h_436
    have h_437 : a_440 3 = up (a 3) (g 12) (p1 - 1000) := h_437
    have h_438 : a_440 4 = up (a 4) (g 12) 0 := h_438
    have b_452 : g_439 1 = g 1 := hfr_442 1 (by decide)
    have b_453 : g_439 2 = g 2 := hfr_442 2 (by decide)
    have b_454 : g_439 3 = g 3 := hfr_442 3 (by decide)
    have b_455 : g_439 4 = g 4 := hfr_442 4 (by decide)
    have b_456 : g_439 7 = g 7 := hfr_442 7 (by decide)
    have b_457 : g_439 8 = g 8 := hfr_442 8 (by decide)
    have b_458 : g_439 9 = g 9 := hfr_442 9 (by decide)
    have b_459 : g_439 15 = g 15 := hfr_442 15 (by decide)
    have t_460 : a_440 2 = a 2 := (hfr_443 2 (by decide)).trans rfl
    have t_461 : a_440 3 = up (a 3) (g 12) (p1 - 1000) := h_437.trans (up_c rfl (by omega) (by omega))
    have t_462 : a_440 4 = up (a 4) (g 12) 0 := h_438.trans (up_c rfl (by omega) (by omega))
    have t_463 : a_440 5 = a 5 := (hfr_443 5 (by decide)).trans rfl
    have t_464 : a_440 6 = a 6 := (hfr_443 6 (by decide)).trans rfl
    have t_465 : a_440 7 = a 7 := (hfr_443 7 (by decide)).trans rfl
    have t_466 : a_440 8 = a 8 := (hfr_443 8 (by decide)).trans rfl
    have b_467 : 0 ≤ g_439 12 ∧ g_439 12 ≤ 600 := hI.1 12
    refine lv_iconst (v := iI 1) hx hb dX13_steps_17 rfl ?_
    rw [← hQ]
    exact W.zret (v := iI 1) (ty := .boolean) hx hb hr (nb_bool (by omega) (by omega)) (fun t ht hW => ⟨⟨iI 1, (g_439, a_440), rfl, ⟨1, rfl, hI, hfA, haA, by omega, by show 1 = 0 ∨ (rPn g_439 a_440 (g_439 7) ∧ mz g_439 a_440 (g_439 7) < mz g a (g 7 + 1)); first | exact Or.inl rfl | exact (show 1 = 0 ∨ (rPn g_439 a_440 (g_439 7) ∧ mz g_439 a_440 (g_439 7) < mz g a (g 7 + 1)) by assumption) | exact Or.inr (st_do hrP1 (by omega) k1 (by omega) (by omega) (by omega) (by omega) (by omega) (by omega) t_461 t_462 t_463 t_464 t_465 t_466 (by omega) (by omega) (by omega) (by omega) t_460) | exact Or.inr (st_sg hrP1 (by omega) k1 (by omega) ⟨by omega, by omega, by omega, by omega, t_461, t_462, t_463, t_464, t_465, t_466⟩ (by omega) (by omega) (by omega) ⟨by omega, by omega, by omega⟩ t_460) | exact Or.inr (st_12 hrP1 (by omega) (by omega) ⟨by omega, by omega, by omega, by omega, t_461, t_462, t_463, t_464, t_465, t_466⟩ (by omega) (by omega) (by omega) (by omega) t_460) | exact Or.inr (st_13 hrP1 (by omega) (by omega) (by omega) (by omega) (by omega) (by omega) t_461 t_462 t_463 t_464 t_465 t_466 (by omega) (by omega) (by omega) (by omega) t_460) | exact Or.inr (st_1 hrP1 (by omega) (by omega) ⟨by omega, by omega, by omega, by omega, t_461, t_462, t_463, t_464, t_465, t_466⟩ (by omega) (by omega) (by omega) (by omega) (by omega) t_460) | exact Or.inr (st_3 hrP1 (by omega) (by omega) ⟨by omega, by omega, by omega, by omega, t_461, t_462, t_463, t_464, t_465, t_466⟩ (by omega) (by omega) (by omega) (by omega) (by omega) t_460) | exact Or.inr (st_6 hrP1 (by omega) (by omega) ⟨by omega, by omega, by omega, by omega, t_461, t_462, t_463, t_464, t_465, t_466⟩ (by omega) (by omega) (by omega) (by omega) (by omega) t_460) | exact Or.inr (st_8 hrP1 (by omega) (by omega) ⟨by omega, by omega, by omega, by omega, t_461, t_462, t_463, t_464, t_465, t_466⟩ (by omega) (by omega) (by omega) (by omega) (by omega) t_460)⟩, by rw [ht]; exact hP, va_K.moved hW.alike hK, hD⟩, hS.F ht⟩) hS.2.2 dX13_steps_18
