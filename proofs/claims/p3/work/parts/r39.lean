set_option maxHeartbeats 2000000 in
set_option maxRecDepth 100000 in
theorem sX13_clauses (l : Launch) (dC : Nat → ClassId) (dI : Nat → Nat → Nat) (sz : Nat) (ad : Nat → Nat) (ca : Nat → ClassId) (sK sV : Nat → Nat) (g : Nat → Int) (a : Nat → Int → Int) (tT : Int → Int) (tN : Int) (hI : mI g a) (k1 : a 2 (g 7) = 0) (hrP1 : rP1 g a) (hrTx : txR tT tN g a) (hrTk : tkR tT tN g a) : Met l yX13_clauses (jk yX13_clauses cX13_clauses 2 (some .boolean)) ({ frames := 8, cells := 0, slots := 0, locals := 177 }) (va_Pc [.ref (ad 0)] (mP (dC, dI) (mG ad ca g a) (mT ca) sK sV sz)) (va_Qi (fun (r : Int32) (u : (Nat → Int) × (Nat → Int → Int)) => ∃ z : Int, r = iI z ∧ (mI u.1 u.2) ∧ (∀ j, j ∉ ([2, 3, 4, 5, 7, 9, 12, 15] : List Nat) → u.1 j = g j) ∧ (∀ j, j ∉ ([2, 3, 4, 5, 6, 7, 8] : List Nat) → u.2 j = a j) ∧ (0 ≤ z ∧ z ≤ 1) ∧ (z = 0 ∨ (rPn u.1 u.2 (u.1 7) ∧ mz u.1 u.2 (u.1 7) < mz g a (g 7 + 1))) ∧ (tkR tT tN u.1 u.2) ∧ (nst tT tN g a u.1 u.2 z)) (fun u t => va_P (dC, dI) vwCl (mG ad ca u.1 u.2) t.heap ∧ va_K (dC, dI) vwCl (mT ca) t ∧ va_D (va_A (mG ad ca g a) sz) (mG ad ca u.1 u.2)) (va_A (mG ad ca g a) sz)) 0 0 (va_A (mG ad ca g a) sz) := by
  refine Met.ofW (cc := cX13_clauses) (maxL := 2) (ret := (some .boolean)) (by decide) rfl ?_
  intro p e s m args below meth c s₁ B hml hv
  obtain ⟨rfl, ⟨hsz, hP, hK, hD0⟩, hX0⟩ := hv
  have hx := B.exec
  have hb := B.bytes
  have hr := B.returns
  have hts := atoms_spec (ws := (jk yX13_clauses cX13_clauses 2 (some .boolean))) B.pre
  have hj : ∀ w ∈ jw, w.before ([.ref (ad 0)] : List Value).toArray s = true := fun w h => hts w (jm h)
  have hown : s.vm.findClass RX13 = some m.cls := findClass_of_methodNamed B.named
  subst hsz
  have hD := hD0.self (sz := s.heap.size)
  have hXs := hX0
  generalize hAe : (va_A (mG ad ca g a) s.heap.size) = A at hD hXs ⊢
  have hA : ∀ q : Nat, s.heap.size ≤ q → A q := fun q h => by rw [← hAe]; exact Or.inr h
  have hS : va_S A s.heap s.heap [] := va_S.rf
  have hP : va_P (dC, dI) vwCl (mG ad ca g a) s.heap := hP
  have hfA : ∀ j, j ∉ ([2, 3, 4, 5, 7, 9, 12, 15] : List Nat) → g j = g j := fun _ _ => rfl
  have haA : ∀ j, j ∉ ([2, 3, 4, 5, 6, 7, 8] : List Nat) → a j = a j := fun _ _ => rfl
  have hl := lv_entry ([.ref (ad 0)]) (n := 2) (Nat.le_of_ble_eq_true rfl)
  rw [lg_entry_eq]
  generalize (lg_sl ([.ref (ad 0)]) ++ List.replicate (2 - (lg_sl ([.ref (ad 0)])).length) Slot.unset).toArray = ls at hl ⊢
  have hl : lv_has ls 2 [(0, .ref (ad 0))] := hl
  generalize hQ : MQ below (va_Qi (fun (r : Int32) (u : (Nat → Int) × (Nat → Int → Int)) => ∃ z : Int, r = iI z ∧ (mI u.1 u.2) ∧ (∀ j, j ∉ ([2, 3, 4, 5, 7, 9, 12, 15] : List Nat) → u.1 j = g j) ∧ (∀ j, j ∉ ([2, 3, 4, 5, 6, 7, 8] : List Nat) → u.2 j = a j) ∧ (0 ≤ z ∧ z ≤ 1) ∧ (z = 0 ∨ (rPn u.1 u.2 (u.1 7) ∧ mz u.1 u.2 (u.1 7) < mz g a (g 7 + 1))) ∧ (tkR tT tN u.1 u.2) ∧ (nst tT tN g a u.1 u.2 z)) (fun u t => va_P (dC, dI) vwCl (mG ad ca u.1 u.2) t.heap ∧ va_K (dC, dI) vwCl (mT ca) t ∧ va_D A (mG ad ca u.1 u.2)) A) ([.ref (ad 0)] : List Value).toArray s 0 0 A = Q
  suffices ST : ∀ (H : Heap) (locs : List Loc), va_P (dC, dI) vwCl (mG ad ca g a) H → va_S A s.heap H locs → W p l e ({ frames := 8, cells := 0, slots := 0, locals := 177 }) s m ([.ref (ad 0)] : List Value).toArray below meth c H locs 0 0 Q (F0 m 0 ls []) from ST _ _ hP hS
  clear hP hS
  intro H locs hP hS
  obtain ⟨bb1, bb2, bb3, bb4, bb5, bb6⟩ := bd_1 hrP1
  have bb7 := tkk_b (g 3)
  have b7_0 : 0 ≤ g 7 ∧ g 7 ≤ 1200 := hI.1 7
  have b1_0 : 0 ≤ g 1 ∧ g 1 ≤ 600 := hI.1 1
  have b2_0 : 0 ≤ g 2 ∧ g 2 ≤ 600 := hI.1 2
  refine lv_aload_n hx hb dX13_clauses_0 rfl (lv_at hl 0 rfl) ?_
  refine gf_token hx hb hj hown hK hP hI dX13_clauses_1 (fun h_1 => ?_)
  refine xr_if_ne (tgt := 9) hx hb dX13_clauses_4 (by decide) (by omega) (fun h_2 => ?_) (fun h_2 => ?_)
  · refine lv_aload_n hx hb dX13_clauses_9 rfl (lv_at hl 0 rfl) ?_
    refine gf_token hx hb hj hown hK hP hI dX13_clauses_10 (fun h_3 => ?_)
    refine lv_iconst (v := iI 2) hx hb dX13_clauses_13 rfl ?_
    refine xr_icmp_ne (tgt := 30) hx hb dX13_clauses_14 (by decide) (by omega) (by omega) (fun h_4 => ?_) (fun h_4 => ?_)
    · refine lv_iconst (v := iI 0) hx hb dX13_clauses_30 rfl ?_
      rw [← hQ]
      exact W.zret (v := iI 0) (ty := .boolean) hx hb hr (nb_bool (by omega) (by omega)) (fun t ht hW => ⟨⟨iI 0, (g, a), rfl, ⟨0, rfl, hI, hfA, haA, by omega, by show 0 = 0 ∨ (rPn g a (g 7) ∧ mz g a (g 7) < mz g a (g 7 + 1)); first | exact Or.inl rfl | exact Or.inr (st_0n hrP1 (by omega) k1 ⟨by omega, by omega, by omega, by omega, rfl, rfl, rfl, rfl, rfl, rfl⟩ (by omega) (by omega) (by omega) (by omega) (by omega) rfl) | exact Or.imp id (fun q => ⟨q.1, mB_lt (a' := a) hrP1 (by omega) k1 (by omega) (by omega) (by omega) q.2⟩) (show 0 = 0 ∨ (rPn g a (g 7) ∧ mz g a (g 7) ≤ mB _) by assumption), by show tkR tT tN g a; first | assumption | exact tkR_t (by omega) (by omega) (by omega) (by omega) _ | exact tkR_t (by omega) (by omega) (by omega) (by omega) hrTk, by show nst tT tN g a g a 0; exact cl_n hrTk k1 (by omega) (by omega) (by omega)⟩, by rw [ht]; exact hP, va_K.moved hW.alike hK, hD⟩, hS.F ht⟩) hS.2.2 dX13_clauses_31
    · refine lv_aload_n hx hb dX13_clauses_17 rfl (lv_at hl 0 rfl) ?_
      refine gf_tokenValue hx hb hj hown hK hP hI dX13_clauses_18 (fun h_5 => ?_)
      refine lv_iconst (v := iI 0) hx hb dX13_clauses_21 rfl ?_
      refine lv_bipush (v := iI 8) hx hb dX13_clauses_22 rfl ?_
      refine jc_i (va_runS (As := [.int (iI (g 5)), .int (iI 0), .int (iI 8)]) (rest := []) ⟨hx, hb, hml, hown, hts⟩ (sX13_in l dC dI _ (g 5) 0 8 (by omega) (by omega) (by omega)) (va_cwS 3 hts (jgoodS m_220 m_364 m_503 m_147) rfl rfl rfl (by decide +kernel) ⟨(Nat.le_of_ble_eq_true rfl), (Nat.le_of_ble_eq_true rfl)⟩) ⟨jw_blind0, fun U hU hW => ⟨rfl, congrArg Array.size hU⟩⟩ rfl rfl hl.1 rfl (lv_room (Nat.le_of_ble_eq_true rfl)) dX13_clauses_24 ⟨(Nat.le_of_ble_eq_true rfl), (Nat.le_of_ble_eq_true rfl)⟩) hP hS hA (fun r_6 H locs w_7 hP hS => ?_)
      obtain ⟨z_8, rfl, h_9, h_10⟩ := w_7
      refine xr_if_ne (tgt := 32) hx hb dX13_clauses_27 (by decide) (by omega) (fun h_11 => ?_) (fun h_11 => ?_)
      · refine lv_aload_n hx hb dX13_clauses_32 rfl (lv_at hl 0 rfl) ?_
        refine gf_tokenValue hx hb hj hown hK hP hI dX13_clauses_33 (fun h_12 => ?_)
        refine lv_istore_n (lv' := [(1, .int (iI (g 5))), (0, .ref (ad 0))]) hx hb dX13_clauses_36 rfl hl (by decide) rfl (fun ls hl => ?_)
        refine lv_aload_n hx hb dX13_clauses_37 rfl (lv_at hl 1 rfl) ?_
        refine lv_iconst (v := iI 0) hx hb dX13_clauses_38 rfl ?_
        refine jcg_v (va_runV (As := [.int (iI 0)]) (rest := []) ⟨hx, hb, hml, hown, hts⟩ (sX13_push l dC dI _ ad ca g a 0 hI (by omega) (by omega)) (cwV 1 hts (jgoodV m_225 m_452 m_453 m_503 m_194) rfl rfl rfl (by decide +kernel) ⟨(Nat.le_of_ble_eq_true rfl), (Nat.le_of_ble_eq_true rfl)⟩) ⟨jw_blind, va_recv hK hP (ci := 13) (q0 := 0) rfl rfl, fun U hU hW => ⟨rfl, jw_of hU hW hP hK hD⟩⟩ rfl rfl hl.1 rfl (lv_room (Nat.le_of_ble_eq_true rfl)) dX13_clauses_39 ⟨(Nat.le_of_ble_eq_true rfl), (Nat.le_of_ble_eq_true rfl)⟩) hD hS hA (fun u_20 H locs w_14 hP hK hD hS => ?_)
        obtain ⟨g_18, a_19⟩ := u_20
        obtain ⟨hI, hfr_21, hfr_22, h_16, h_17⟩ := w_14
        have hP : va_P (dC, dI) vwCl (mG ad ca g_18 a_19) H := hP
        have hD : va_D A (mG ad ca g_18 a_19) := hD
        have hfA : ∀ j, j ∉ ([2, 3, 4, 5, 7, 9, 12, 15] : List Nat) → g_18 j = g j := fun j h => (hfr_21 j (fun q => h (by first | exact q | (simp only [List.mem_cons, List.not_mem_nil, or_false] at q ⊢ <;> omega)))).trans (hfA j h)
        have b_24 : g_18 1 = g 1 := hfA 1 (by decide)
        have b_25 : g_18 8 = g 8 := hfA 8 (by decide)
        have b_26 := hfr_21 2 (by decide)
        have b_27 := hfr_21 3 (by decide)
        have b_28 := hfr_21 4 (by decide)
        have b_29 := hfr_21 5 (by decide)
        have b_30 := hfr_21 9 (by decide)
        have b_31 := hfr_21 12 (by decide)
        have b_32 := hfr_21 15 (by decide)
        have haA : ∀ j, j ∉ ([2, 3, 4, 5, 6, 7, 8] : List Nat) → a_19 j = a j := fun j h => (hfr_22 j (fun q => h (by first | exact q | (simp only [List.mem_cons, List.not_mem_nil, or_false] at q ⊢ <;> omega)))).trans (haA j h)
        have h_16 : g_18 7 = g 7 + 1 := h_16
        have h_17 : a_19 2 = up (a 2) (g 7) 0 := h_17
        have b_33 : g_18 1 = g 1 := hfr_21 1 (by decide)
        have b_34 : g_18 2 = g 2 := hfr_21 2 (by decide)
        have b_35 : g_18 3 = g 3 := hfr_21 3 (by decide)
        have b_36 : g_18 4 = g 4 := hfr_21 4 (by decide)
        have b_37 : g_18 8 = g 8 := hfr_21 8 (by decide)
        have b_38 : g_18 9 = g 9 := hfr_21 9 (by decide)
        have b_39 : g_18 12 = g 12 := hfr_21 12 (by decide)
        have b_40 : g_18 15 = g 15 := hfr_21 15 (by decide)
        have b_41 : g_18 5 = g 5 := hfr_21 5 (by decide)
        have t_42 : a_19 2 = up (a 2) (g 7) 0 := h_17.trans (up_c rfl (by omega) (by omega))
        have t_43 : a_19 3 = a 3 := (hfr_22 3 (by decide)).trans rfl
        have t_44 : a_19 4 = a 4 := (hfr_22 4 (by decide)).trans rfl
        have t_45 : a_19 5 = a 5 := (hfr_22 5 (by decide)).trans rfl
        have t_46 : a_19 6 = a 6 := (hfr_22 6 (by decide)).trans rfl
        have t_47 : a_19 7 = a 7 := (hfr_22 7 (by decide)).trans rfl
        have t_48 : a_19 8 = a 8 := (hfr_22 8 (by decide)).trans rfl
        have b_49 : 0 ≤ g_18 7 ∧ g_18 7 ≤ 1200 := hI.1 7
        refine lv_aload_n hx hb dX13_clauses_42 rfl (lv_at hl 1 rfl) ?_
        refine lv_sipush (v := iI 159) hx hb dX13_clauses_43 rfl ?_
        refine jcg_v (va_runV (As := [.int (iI 159)]) (rest := []) ⟨hx, hb, hml, hown, hts⟩ (sX13_push l dC dI _ ad ca g_18 a_19 159 hI (by omega) (by omega)) (cwV 1 hts (jgoodV m_225 m_452 m_453 m_503 m_194) rfl rfl rfl (by decide +kernel) ⟨(Nat.le_of_ble_eq_true rfl), (Nat.le_of_ble_eq_true rfl)⟩) ⟨jw_blind, va_recv hK hP (ci := 13) (q0 := 0) rfl rfl, fun U hU hW => ⟨rfl, jw_of hU hW hP hK hD⟩⟩ rfl rfl hl.1 rfl (lv_room (Nat.le_of_ble_eq_true rfl)) dX13_clauses_46 ⟨(Nat.le_of_ble_eq_true rfl), (Nat.le_of_ble_eq_true rfl)⟩) hD hS hA (fun u_57 H locs w_51 hP hK hD hS => ?_)
        obtain ⟨g_55, a_56⟩ := u_57
        obtain ⟨hI, hfr_58, hfr_59, h_53, h_54⟩ := w_51
        have hP : va_P (dC, dI) vwCl (mG ad ca g_55 a_56) H := hP
        have hD : va_D A (mG ad ca g_55 a_56) := hD
        have hfA : ∀ j, j ∉ ([2, 3, 4, 5, 7, 9, 12, 15] : List Nat) → g_55 j = g j := fun j h => (hfr_58 j (fun q => h (by first | exact q | (simp only [List.mem_cons, List.not_mem_nil, or_false] at q ⊢ <;> omega)))).trans (hfA j h)
        have b_61 : g_55 1 = g 1 := hfA 1 (by decide)
        have b_62 : g_55 8 = g 8 := hfA 8 (by decide)
        have b_63 := hfr_58 2 (by decide)
        have b_64 := hfr_58 3 (by decide)
        have b_65 := hfr_58 4 (by decide)
        have b_66 := hfr_58 5 (by decide)
        have b_67 := hfr_58 9 (by decide)
        have b_68 := hfr_58 12 (by decide)
        have b_69 := hfr_58 15 (by decide)
        have haA : ∀ j, j ∉ ([2, 3, 4, 5, 6, 7, 8] : List Nat) → a_56 j = a j := fun j h => (hfr_59 j (fun q => h (by first | exact q | (simp only [List.mem_cons, List.not_mem_nil, or_false] at q ⊢ <;> omega)))).trans (haA j h)
        have h_53 : g_55 7 = g_18 7 + 1 := h_53
        have h_54 : a_56 2 = up (a_19 2) (g_18 7) 159 := h_54
        have b_70 : g_55 1 = g_18 1 := hfr_58 1 (by decide)
        have b_71 : g_55 2 = g_18 2 := hfr_58 2 (by decide)
        have b_72 : g_55 3 = g_18 3 := hfr_58 3 (by decide)
        have b_73 : g_55 4 = g_18 4 := hfr_58 4 (by decide)
        have b_74 : g_55 8 = g_18 8 := hfr_58 8 (by decide)
        have b_75 : g_55 9 = g_18 9 := hfr_58 9 (by decide)
        have b_76 : g_55 12 = g_18 12 := hfr_58 12 (by decide)
        have b_77 : g_55 15 = g_18 15 := hfr_58 15 (by decide)
        have b_78 : g_55 5 = g_18 5 := hfr_58 5 (by decide)
        have t_79 : a_56 2 = up (up (a 2) (g 7) 0) ((g 7 + 1)) 159 := h_54.trans (up_c t_42 (by omega) (by omega))
        have t_80 : a_56 3 = a 3 := (hfr_59 3 (by decide)).trans t_43
        have t_81 : a_56 4 = a 4 := (hfr_59 4 (by decide)).trans t_44
        have t_82 : a_56 5 = a 5 := (hfr_59 5 (by decide)).trans t_45
        have t_83 : a_56 6 = a 6 := (hfr_59 6 (by decide)).trans t_46
        have t_84 : a_56 7 = a 7 := (hfr_59 7 (by decide)).trans t_47
        have t_85 : a_56 8 = a 8 := (hfr_59 8 (by decide)).trans t_48
        have b_86 : 0 ≤ g_55 7 ∧ g_55 7 ≤ 1200 := hI.1 7
        refine lv_iload_n hx hb dX13_clauses_49 rfl (lv_at hl 0 rfl) ?_
        refine xr_if_ne (tgt := 58) hx hb dX13_clauses_50 (by decide) (by omega) (fun h_87 => ?_) (fun h_87 => ?_)
        · refine lv_iload_n hx hb dX13_clauses_58 rfl (lv_at hl 0 rfl) ?_
          refine lv_iconst (v := iI 1) hx hb dX13_clauses_59 rfl ?_
          have J68 : ∀ (H : Heap) (locs : List Loc) (ls : Array Slot), (g 5 = 1 ∨ g 5 = 2) → va_P (dC, dI) vwCl (mG ad ca g_55 a_56) H → va_D A (mG ad ca g_55 a_56) → va_S A s.heap H locs → lv_has ls 2 [(1, .int (iI (g 5))), (0, .ref (ad 0))] → W p l e ({ frames := 8, cells := 0, slots := 0, locals := 177 }) s m ([.ref (ad 0)] : List Value).toArray below meth c H locs 0 0 Q (F0 m 68 ls []) := by
            intro H locs ls h_88 hP hD hS hl
            have hrMc : rM g_55 a_56 := rM_of hrP1 (by omega) k1 ⟨by omega, by omega, by omega, by omega, t_80, t_81, t_82, t_83, t_84, t_85⟩ (by omega) (by omega) (by omega) (by omega) (by omega) (by omega) t_79
            refine lv_aload_n hx hb dX13_clauses_68 rfl (lv_at hl 1 rfl) ?_
            refine lv_iload_n hx hb dX13_clauses_69 rfl (lv_at hl 0 rfl) ?_
            have hTkc : tkR tT tN g_55 a_56 := tkR_t (by omega) (by omega) (by omega) (by omega) hrTk
            refine jcg_i (va_runV (As := [.int (iI (g 5))]) (rest := []) ⟨hx, hb, hml, hown, hts⟩ (sX13_choice l dC dI _ ad ca sK sV g_55 a_56 tT tN (g 5) hI (by omega) (by omega) (by omega) hrMc (txR_t (hfA 1 (by decide)) (haA 1 (by decide)) hrTx) hTkc) (cwV 1 hts (jgoodV m_238 m_308 m_309 m_503 m_119) rfl rfl rfl (by decide +kernel) ⟨(Nat.le_of_ble_eq_true rfl), (Nat.le_of_ble_eq_true rfl)⟩) ⟨mP_blind, va_recv hK hP (ci := 13) (q0 := 0) rfl rfl, fun U hU hW => ⟨rfl, mP_of hU hW hP hK hD hXs hS (fun _ h => h) hA⟩⟩ rfl rfl hl.1 rfl (lv_room (Nat.le_of_ble_eq_true rfl)) dX13_clauses_70 ⟨(Nat.le_of_ble_eq_true rfl), (Nat.le_of_ble_eq_true rfl)⟩) hD hS hA (fun r_89 u_98 H locs w_90 hP hK hD hS => ?_)
            obtain ⟨g_96, a_97⟩ := u_98
            obtain ⟨z_91, rfl, hI, hfr_99, hfr_100, h_92, h_93, h_94, h_95⟩ := w_90
            have hP : va_P (dC, dI) vwCl (mG ad ca g_96 a_97) H := hP
            have hD : va_D A (mG ad ca g_96 a_97) := hD
            have hfA : ∀ j, j ∉ ([2, 3, 4, 5, 7, 9, 12, 15] : List Nat) → g_96 j = g j := fun j h => (hfr_99 j (fun q => h (by first | exact q | (simp only [List.mem_cons, List.not_mem_nil, or_false] at q ⊢ <;> omega)))).trans (hfA j h)
            have b_102 : g_96 1 = g 1 := hfA 1 (by decide)
            have b_103 : g_96 8 = g 8 := hfA 8 (by decide)
            have b_104 := hfr_99 7 (by decide)
            have b_105 := hfr_99 9 (by decide)
            have b_106 := hfr_99 15 (by decide)
            have haA : ∀ j, j ∉ ([2, 3, 4, 5, 6, 7, 8] : List Nat) → a_97 j = a j := fun j h => (hfr_100 j (fun q => h (by first | exact q | (simp only [List.mem_cons, List.not_mem_nil, or_false] at q ⊢ <;> omega)))).trans (haA j h)
            have h_93 : z_91 = 0 ∨ (rPn g_96 a_97 (g_96 7) ∧ mz g_96 a_97 (g_96 7) ≤ mB g_55) := h_93
            have h_94 : tkR tT tN g_96 a_97 := h_94
            have h_95 : chR tT tN g_55 a_56 g_96 a_97 (g 5) z_91 := h_95
            have b_107 : g_96 1 = g_55 1 := hfr_99 1 (by decide)
            have b_108 : g_96 7 = g_55 7 := hfr_99 7 (by decide)
            have b_109 : g_96 8 = g_55 8 := hfr_99 8 (by decide)
            have b_110 : g_96 9 = g_55 9 := hfr_99 9 (by decide)
            have b_111 : g_96 15 = g_55 15 := hfr_99 15 (by decide)
            have t_112 : a_97 2 = up (up (a 2) (g 7) 0) ((g 7 + 1)) 159 := (hfr_100 2 (by decide)).trans t_79
            have t_113 : a_97 7 = a 7 := (hfr_100 7 (by decide)).trans t_84
            have t_114 : a_97 8 = a 8 := (hfr_100 8 (by decide)).trans t_85
            rw [← hQ]
            exact W.zret (v := iI z_91) (ty := .boolean) hx hb hr (nb_bool (by omega) (by omega)) (fun t ht hW => ⟨⟨iI z_91, (g_96, a_97), rfl, ⟨z_91, rfl, hI, hfA, haA, by omega, by show z_91 = 0 ∨ (rPn g_96 a_97 (g_96 7) ∧ mz g_96 a_97 (g_96 7) < mz g a (g 7 + 1)); first | exact Or.inl rfl | exact Or.inr (st_0n hrP1 (by omega) k1 ⟨by omega, by omega, by omega, by omega, rfl, rfl, rfl, rfl, t_113, t_114⟩ (by omega) (by omega) (by omega) (by omega) (by omega) t_112) | exact Or.imp id (fun q => ⟨q.1, mB_lt (a' := a) hrP1 (by omega) k1 (by omega) (by omega) (by omega) q.2⟩) (show z_91 = 0 ∨ (rPn g_96 a_97 (g_96 7) ∧ mz g_96 a_97 (g_96 7) ≤ mB g_55) by assumption), by show tkR tT tN g_96 a_97; first | assumption | exact tkR_t (by omega) (by omega) (by omega) (by omega) _ | exact tkR_t (by omega) (by omega) (by omega) (by omega) hrTk, by show nst tT tN g a g_96 a_97 z_91; exact cl_ch (p := (g 5)) hrTk k1 (by omega) (by omega) (by omega) (by omega) (by omega) (by omega) (by omega) (by omega) t_79 t_82 (show chR tT tN g_55 a_56 g_96 a_97 (g 5) z_91 by assumption)⟩, by rw [ht]; exact hP, va_K.moved hW.alike hK, hD⟩, hS.F ht⟩) hS.2.2 dX13_clauses_73
          refine xr_icmp_eq (tgt := 68) hx hb dX13_clauses_60 (by decide) (by omega) (by omega) (fun h_115 => ?_) (fun h_115 => ?_)
          · exact J68 H locs ls (by omega) hP hD hS hl
          · refine lv_iload_n hx hb dX13_clauses_63 rfl (lv_at hl 0 rfl) ?_
            refine lv_iconst (v := iI 2) hx hb dX13_clauses_64 rfl ?_
            refine xr_icmp_ne (tgt := 74) hx hb dX13_clauses_65 (by decide) (by omega) (by omega) (fun h_116 => ?_) (fun h_116 => ?_)
            · refine lv_iload_n hx hb dX13_clauses_74 rfl (lv_at hl 0 rfl) ?_
              refine lv_iconst (v := iI 5) hx hb dX13_clauses_75 rfl ?_
              refine xr_icmp_gt (tgt := 128) hx hb dX13_clauses_76 (by decide) (by omega) (by omega) (fun h_117 => ?_) (fun h_117 => ?_)
              · have hrMc : rM g_55 a_56 := rM_of hrP1 (by omega) k1 ⟨by omega, by omega, by omega, by omega, t_80, t_81, t_82, t_83, t_84, t_85⟩ (by omega) (by omega) (by omega) (by omega) (by omega) (by omega) t_79
                refine lv_aload_n hx hb dX13_clauses_128 rfl (lv_at hl 1 rfl) ?_
                refine lv_iload_n hx hb dX13_clauses_129 rfl (lv_at hl 0 rfl) ?_
                refine lv_bipush (v := iI 6) hx hb dX13_clauses_130 rfl ?_
                have J150 : ∀ (s0_150 : Int) (H : Heap) (locs : List Loc) (ls : Array Slot), (2 ≤ s0_150 ∧ s0_150 ≤ 4) → (2 ≤ s0_150 ∧ s0_150 ≤ 4) → (cuI (g 5) (s0_150)) → va_P (dC, dI) vwCl (mG ad ca g_55 a_56) H → va_D A (mG ad ca g_55 a_56) → va_S A s.heap H locs → lv_has ls 2 [(1, .int (iI (g 5))), (0, .ref (ad 0))] → W p l e ({ frames := 8, cells := 0, slots := 0, locals := 177 }) s m ([.ref (ad 0)] : List Value).toArray below meth c H locs 0 0 Q (F0 m 150 ls [.int (iI s0_150), .ref (ad 0)]) := by
                  intro s0_150 H locs ls h_118 h_119 h_120 hP hD hS hl
                  refine lv_iload_n hx hb dX13_clauses_150 rfl (lv_at hl 0 rfl) ?_
                  refine lv_bipush (v := iI 8) hx hb dX13_clauses_151 rfl ?_
                  have J162 : ∀ (s0_162 : Int) (H : Heap) (locs : List Loc) (ls : Array Slot), (1 ≤ s0_162 ∧ s0_162 ≤ 6) → (s0_162 = 1 ∨ s0_162 = 6) → (cvI (g 5) (s0_162)) → va_P (dC, dI) vwCl (mG ad ca g_55 a_56) H → va_D A (mG ad ca g_55 a_56) → va_S A s.heap H locs → lv_has ls 2 [(1, .int (iI (g 5))), (0, .ref (ad 0))] → W p l e ({ frames := 8, cells := 0, slots := 0, locals := 177 }) s m ([.ref (ad 0)] : List Value).toArray below meth c H locs 0 0 Q (F0 m 162 ls [.int (iI s0_162), .int (iI s0_150), .ref (ad 0)]) := by
                    intro s0_162 H locs ls h_121 h_122 h_123 hP hD hS hl
                    have hTkc : tkR tT tN g_55 a_56 := tkR_t (by omega) (by omega) (by omega) (by omega) hrTk
                    refine jcg_i (va_runV (As := [.int (iI s0_150), .int (iI s0_162)]) (rest := []) ⟨hx, hb, hml, hown, hts⟩ (sX13_begins l dC dI _ ad ca sK sV g_55 a_56 tT tN s0_150 s0_162 hI (by omega) (by omega) (by omega) (by omega) (by omega) hrMc (txR_t (hfA 1 (by decide)) (haA 1 (by decide)) hrTx) hTkc) (cwV 2 hts (jgoodV m_239 m_291 m_292 m_503 m_110) rfl rfl rfl (by decide +kernel) ⟨(Nat.le_of_ble_eq_true rfl), (Nat.le_of_ble_eq_true rfl)⟩) ⟨mP_blind, va_recv hK hP (ci := 13) (q0 := 0) rfl rfl, fun U hU hW => ⟨rfl, mP_of hU hW hP hK hD hXs hS (fun _ h => h) hA⟩⟩ rfl rfl hl.1 rfl (lv_room (Nat.le_of_ble_eq_true rfl)) dX13_clauses_162 ⟨(Nat.le_of_ble_eq_true rfl), (Nat.le_of_ble_eq_true rfl)⟩) hD hS hA (fun r_124 u_133 H locs w_125 hP hK hD hS => ?_)
                    obtain ⟨g_131, a_132⟩ := u_133
                    obtain ⟨z_126, rfl, hI, hfr_134, hfr_135, h_127, h_128, h_129, h_130⟩ := w_125
                    have hP : va_P (dC, dI) vwCl (mG ad ca g_131 a_132) H := hP
                    have hD : va_D A (mG ad ca g_131 a_132) := hD
                    have hfA : ∀ j, j ∉ ([2, 3, 4, 5, 7, 9, 12, 15] : List Nat) → g_131 j = g j := fun j h => (hfr_134 j (fun q => h (by first | exact q | (simp only [List.mem_cons, List.not_mem_nil, or_false] at q ⊢ <;> omega)))).trans (hfA j h)
                    have b_137 : g_131 1 = g 1 := hfA 1 (by decide)
                    have b_138 : g_131 8 = g 8 := hfA 8 (by decide)
                    have b_139 := hfr_134 12 (by decide)
                    have b_140 := hfr_134 15 (by decide)
                    have haA : ∀ j, j ∉ ([2, 3, 4, 5, 6, 7, 8] : List Nat) → a_132 j = a j := fun j h => (hfr_135 j (fun q => h (by first | exact q | (simp only [List.mem_cons, List.not_mem_nil, or_false] at q ⊢ <;> omega)))).trans (haA j h)
                    have h_128 : z_126 = 0 ∨ (rPn g_131 a_132 (g_131 7) ∧ mz g_131 a_132 (g_131 7) ≤ mB g_55) := h_128
                    have h_129 : tkR tT tN g_131 a_132 := h_129
                    have h_130 : bgR tT tN g_55 a_56 g_131 a_132 s0_150 s0_162 z_126 := h_130
                    have b_141 : g_131 1 = g_55 1 := hfr_134 1 (by decide)
                    have b_142 : g_131 8 = g_55 8 := hfr_134 8 (by decide)
                    have b_143 : g_131 12 = g_55 12 := hfr_134 12 (by decide)
                    have b_144 : g_131 15 = g_55 15 := hfr_134 15 (by decide)
                    have t_145 : a_132 3 = a 3 := (hfr_135 3 (by decide)).trans t_80
                    have t_146 : a_132 4 = a 4 := (hfr_135 4 (by decide)).trans t_81
                    have t_147 : a_132 6 = a 6 := (hfr_135 6 (by decide)).trans t_83
                    have t_148 : a_132 7 = a 7 := (hfr_135 7 (by decide)).trans t_84
                    have t_149 : a_132 8 = a 8 := (hfr_135 8 (by decide)).trans t_85
                    rw [← hQ]
                    exact W.zret (v := iI z_126) (ty := .boolean) hx hb hr (nb_bool (by omega) (by omega)) (fun t ht hW => ⟨⟨iI z_126, (g_131, a_132), rfl, ⟨z_126, rfl, hI, hfA, haA, by omega, by show z_126 = 0 ∨ (rPn g_131 a_132 (g_131 7) ∧ mz g_131 a_132 (g_131 7) < mz g a (g 7 + 1)); first | exact Or.inl rfl | exact Or.inr (st_0n hrP1 (by omega) k1 ⟨by omega, by omega, by omega, by omega, t_145, t_146, rfl, t_147, t_148, t_149⟩ (by omega) (by omega) (by omega) (by omega) (by omega) rfl) | exact Or.imp id (fun q => ⟨q.1, mB_lt (a' := a) hrP1 (by omega) k1 (by omega) (by omega) (by omega) q.2⟩) (show z_126 = 0 ∨ (rPn g_131 a_132 (g_131 7) ∧ mz g_131 a_132 (g_131 7) ≤ mB g_55) by assumption), by show tkR tT tN g_131 a_132; first | assumption | exact tkR_t (by omega) (by omega) (by omega) (by omega) _ | exact tkR_t (by omega) (by omega) (by omega) (by omega) hrTk, by show nst tT tN g a g_131 a_132 z_126; exact cl_bg (c := s0_150) (w := s0_162) hrTk k1 (by omega) (by omega) (cbw_o (x := (g 5)) (by omega) (by omega) (by assumption) (by assumption)) (by omega) (by omega) (by omega) (by omega) t_79 t_82 (show bgR tT tN g_55 a_56 g_131 a_132 s0_150 s0_162 z_126 by assumption)⟩, by rw [ht]; exact hP, va_K.moved hW.alike hK, hD⟩, hS.F ht⟩) hS.2.2 dX13_clauses_165
                  refine xr_icmp_ne (tgt := 160) hx hb dX13_clauses_153 (by decide) (by omega) (by omega) (fun h_150 => ?_) (fun h_150 => ?_)
                  · refine lv_bipush (v := iI 6) hx hb dX13_clauses_160 rfl ?_
                    exact J162 6 H locs ls (by omega) (by omega) (by unfold cvI; omega) hP hD hS hl
                  · refine lv_iconst (v := iI 1) hx hb dX13_clauses_156 rfl ?_
                    refine lv_goto (tgt := 162) hx hb dX13_clauses_157 (by decide) ?_
                    exact J162 1 H locs ls (by omega) (by omega) (by unfold cvI; omega) hP hD hS hl
                refine xr_icmp_ne (tgt := 139) hx hb dX13_clauses_132 (by decide) (by omega) (by omega) (fun h_151 => ?_) (fun h_151 => ?_)
                · refine lv_iload_n hx hb dX13_clauses_139 rfl (lv_at hl 0 rfl) ?_
                  refine lv_bipush (v := iI 7) hx hb dX13_clauses_140 rfl ?_
                  refine xr_icmp_ne (tgt := 149) hx hb dX13_clauses_142 (by decide) (by omega) (by omega) (fun h_152 => ?_) (fun h_152 => ?_)
                  · refine lv_iconst (v := iI 4) hx hb dX13_clauses_149 rfl ?_
                    exact J150 4 H locs ls (by omega) (by omega) (by unfold cuI; omega) hP hD hS hl
                  · refine lv_iconst (v := iI 3) hx hb dX13_clauses_145 rfl ?_
                    refine lv_goto (tgt := 150) hx hb dX13_clauses_146 (by decide) ?_
                    exact J150 3 H locs ls (by omega) (by omega) (by unfold cuI; omega) hP hD hS hl
                · refine lv_iconst (v := iI 2) hx hb dX13_clauses_135 rfl ?_
                  refine lv_goto (tgt := 150) hx hb dX13_clauses_136 (by decide) ?_
                  exact J150 2 H locs ls (by omega) (by omega) (by unfold cuI; omega) hP hD hS hl
              · refine lv_aload_n hx hb dX13_clauses_79 rfl (lv_at hl 1 rfl) ?_
                refine jcg_v (va_runV (As := []) (rest := []) ⟨hx, hb, hml, hown, hts⟩ (sX13_next l dC dI _ ad ca sK sV g_55 a_56 tT tN  hI (by omega) (txR_t (hfA 1 (by decide)) (haA 1 (by decide)) hrTx)) (cwV 0 hts (jgoodV m_224 m_433 m_434 m_503 m_184) rfl rfl rfl (by decide +kernel) ⟨(Nat.le_of_ble_eq_true rfl), (Nat.le_of_ble_eq_true rfl)⟩) ⟨mP_blind, va_recv hK hP (ci := 13) (q0 := 0) rfl rfl, fun U hU hW => ⟨rfl, mP_of hU hW hP hK hD hXs hS (fun _ h => h) hA⟩⟩ rfl rfl hl.1 rfl (lv_room (Nat.le_of_ble_eq_true rfl)) dX13_clauses_80 ⟨(Nat.le_of_ble_eq_true rfl), (Nat.le_of_ble_eq_true rfl)⟩) hD hS hA (fun u_164 H locs w_154 hP hK hD hS => ?_)
                obtain ⟨g_162, a_163⟩ := u_164
                obtain ⟨hI, hfr_165, hfr_166, h_156, h_157, h_158, h_159, h_160, h_161⟩ := w_154
                have hP : va_P (dC, dI) vwCl (mG ad ca g_162 a_163) H := hP
                have hD : va_D A (mG ad ca g_162 a_163) := hD
                have hfA : ∀ j, j ∉ ([2, 3, 4, 5, 7, 9, 12, 15] : List Nat) → g_162 j = g j := fun j h => (hfr_165 j (fun q => h (by first | exact q | (simp only [List.mem_cons, List.not_mem_nil, or_false] at q ⊢ <;> omega)))).trans (hfA j h)
                have b_168 : g_162 1 = g 1 := hfA 1 (by decide)
                have b_169 : g_162 8 = g 8 := hfA 8 (by decide)
                have b_170 := hfr_165 7 (by decide)
                have b_171 := hfr_165 9 (by decide)
                have b_172 := hfr_165 12 (by decide)
                have b_173 := hfr_165 15 (by decide)
                have haA : ∀ j, j ∉ ([2, 3, 4, 5, 6, 7, 8] : List Nat) → a_163 j = a j := fun j h => (hfr_166 j (fun q => h (by first | exact q | (simp only [List.mem_cons, List.not_mem_nil, or_false] at q ⊢ <;> omega)))).trans (haA j h)
                have h_156 : g_55 2 ≤ g_162 2 := h_156
                have h_157 : g_162 2 ≤ g_55 1 := h_157
                have h_158 : g_162 3 = 0 ∨ g_55 2 + 1 ≤ g_162 2 := h_158
                have h_159 : g_162 4 ≤ g_162 2 := h_159
                have h_160 : g_162 4 = scn (bB tT) tN (g_55 2) := h_160
                have h_161 : tkR tT tN g_162 a_163 := h_161
                have b_174 : g_162 1 = g_55 1 := hfr_165 1 (by decide)
                have b_175 : g_162 7 = g_55 7 := hfr_165 7 (by decide)
                have b_176 : g_162 8 = g_55 8 := hfr_165 8 (by decide)
                have b_177 : g_162 9 = g_55 9 := hfr_165 9 (by decide)
                have b_178 : g_162 12 = g_55 12 := hfr_165 12 (by decide)
                have b_179 : g_162 15 = g_55 15 := hfr_165 15 (by decide)
                have t_180 : a_163 2 = up (up (a 2) (g 7) 0) ((g 7 + 1)) 159 := (hfr_166 2 (by decide)).trans t_79
                have t_181 : a_163 3 = a 3 := (hfr_166 3 (by decide)).trans t_80
                have t_182 : a_163 4 = a 4 := (hfr_166 4 (by decide)).trans t_81
                have t_183 : a_163 5 = a 5 := (hfr_166 5 (by decide)).trans t_82
                have t_184 : a_163 6 = a 6 := (hfr_166 6 (by decide)).trans t_83
                have t_185 : a_163 7 = a 7 := (hfr_166 7 (by decide)).trans t_84
                have t_186 : a_163 8 = a 8 := (hfr_166 8 (by decide)).trans t_85
                have b_187 : 0 ≤ g_162 1 ∧ g_162 1 ≤ 600 := hI.1 1
                have b_188 : 0 ≤ g_162 2 ∧ g_162 2 ≤ 600 := hI.1 2
                have e9 : g_162 4 = scn (bB tT) tN (g 2) := by rw [show g 2 = g_55 2 by omega]; exact h_160
                refine lv_aload_n hx hb dX13_clauses_83 rfl (lv_at hl 1 rfl) ?_
                refine gf_token hx hb hj hown hK hP hI dX13_clauses_84 (fun h_189 => ?_)
                refine lv_iconst (v := iI 2) hx hb dX13_clauses_87 rfl ?_
                refine xr_icmp_ne (tgt := 105) hx hb dX13_clauses_88 (by decide) (by omega) (by omega) (fun h_190 => ?_) (fun h_190 => ?_)
                · refine lv_iconst (v := iI 0) hx hb dX13_clauses_105 rfl ?_
                  rw [← hQ]
                  exact W.zret (v := iI 0) (ty := .boolean) hx hb hr (nb_bool (by omega) (by omega)) (fun t ht hW => ⟨⟨iI 0, (g_162, a_163), rfl, ⟨0, rfl, hI, hfA, haA, by omega, by show 0 = 0 ∨ (rPn g_162 a_163 (g_162 7) ∧ mz g_162 a_163 (g_162 7) < mz g a (g 7 + 1)); first | exact Or.inl rfl | exact Or.inr (st_0n hrP1 (by omega) k1 ⟨by omega, by omega, by omega, by omega, t_181, t_182, t_183, t_184, t_185, t_186⟩ (by omega) (by omega) (by omega) (by omega) (by omega) t_180) | exact Or.imp id (fun q => ⟨q.1, mB_lt (a' := a) hrP1 (by omega) k1 (by omega) (by omega) (by omega) q.2⟩) (show 0 = 0 ∨ (rPn g_162 a_163 (g_162 7) ∧ mz g_162 a_163 (g_162 7) ≤ mB _) by assumption), by show tkR tT tN g_162 a_163; first | assumption | exact tkR_t (by omega) (by omega) (by omega) (by omega) h_161 | exact tkR_t (by omega) (by omega) (by omega) (by omega) hrTk, by show nst tT tN g a g_162 a_163 0; exact cl_lk hrTk k1 (by omega) (by omega) e9 h_161 (by omega) (by omega)⟩, by rw [ht]; exact hP, va_K.moved hW.alike hK, hD⟩, hS.F ht⟩) hS.2.2 dX13_clauses_106
                · refine lv_aload_n hx hb dX13_clauses_91 rfl (lv_at hl 1 rfl) ?_
                  refine gf_tokenValue hx hb hj hown hK hP hI dX13_clauses_92 (fun h_191 => ?_)
                  refine lv_bipush (v := iI 13) hx hb dX13_clauses_95 rfl ?_
                  refine lv_bipush (v := iI 15) hx hb dX13_clauses_97 rfl ?_
                  refine jc_i (va_runS (As := [.int (iI (g_162 5)), .int (iI 13), .int (iI 15)]) (rest := []) ⟨hx, hb, hml, hown, hts⟩ (sX13_in l dC dI _ (g_162 5) 13 15 (by omega) (by omega) (by omega)) (va_cwS 3 hts (jgoodS m_220 m_364 m_503 m_147) rfl rfl rfl (by decide +kernel) ⟨(Nat.le_of_ble_eq_true rfl), (Nat.le_of_ble_eq_true rfl)⟩) ⟨jw_blind0, fun U hU hW => ⟨rfl, congrArg Array.size hU⟩⟩ rfl rfl hl.1 rfl (lv_room (Nat.le_of_ble_eq_true rfl)) dX13_clauses_99 ⟨(Nat.le_of_ble_eq_true rfl), (Nat.le_of_ble_eq_true rfl)⟩) hP hS hA (fun r_192 H locs w_193 hP hS => ?_)
                  obtain ⟨z_194, rfl, h_195, h_196⟩ := w_193
                  refine xr_if_ne (tgt := 107) hx hb dX13_clauses_102 (by decide) (by omega) (fun h_197 => ?_) (fun h_197 => ?_)
                  · have hrMc : rM g_162 a_163 := rM_of hrP1 (by omega) k1 ⟨by omega, by omega, by omega, by omega, t_181, t_182, t_183, t_184, t_185, t_186⟩ (by omega) (by omega) (by omega) (by omega) (by omega) (by omega) t_180
                    refine lv_aload_n hx hb dX13_clauses_107 rfl (lv_at hl 1 rfl) ?_
                    refine lv_iconst (v := iI 5) hx hb dX13_clauses_108 rfl ?_
                    refine lv_iconst (v := iI 3) hx hb dX13_clauses_109 rfl ?_
                    refine lv_iload_n hx hb dX13_clauses_110 rfl (lv_at hl 0 rfl) ?_
                    refine lv_iconst (v := iI 3) hx hb dX13_clauses_111 rfl ?_
                    refine xr_sub hx hb dX13_clauses_112 ?_
                    refine xr_mul hx hb dX13_clauses_113 ?_
                    refine xr_add hx hb dX13_clauses_114 ?_
                    refine lv_aload_n hx hb dX13_clauses_115 rfl (lv_at hl 1 rfl) ?_
                    refine gf_tokenValue hx hb hj hown hK hP hI dX13_clauses_116 (fun h_198 => ?_)
                    refine xr_add hx hb dX13_clauses_119 ?_
                    refine lv_bipush (v := iI 13) hx hb dX13_clauses_120 rfl ?_
                    refine xr_sub hx hb dX13_clauses_122 ?_
                    refine lv_iconst (v := iI 1) hx hb dX13_clauses_123 rfl ?_
                    have hTkc : tkR tT tN g_162 a_163 := tkR_t (by omega) (by omega) (by omega) (by omega) h_161
                    refine jcg_i (va_runV (As := [.int (iI (((5 + (3 * ((g 5) - 3))) + (g_162 5)) - 13)), .int (iI 1)]) (rest := []) ⟨hx, hb, hml, hown, hts⟩ (sX13_begins l dC dI _ ad ca sK sV g_162 a_163 tT tN (((5 + (3 * ((g 5) - 3))) + (g_162 5)) - 13) 1 hI (by omega) (by omega) (by omega) (by omega) (by omega) hrMc (txR_t (hfA 1 (by decide)) (haA 1 (by decide)) hrTx) hTkc) (cwV 2 hts (jgoodV m_239 m_291 m_292 m_503 m_110) rfl rfl rfl (by decide +kernel) ⟨(Nat.le_of_ble_eq_true rfl), (Nat.le_of_ble_eq_true rfl)⟩) ⟨mP_blind, va_recv hK hP (ci := 13) (q0 := 0) rfl rfl, fun U hU hW => ⟨rfl, mP_of hU hW hP hK hD hXs hS (fun _ h => h) hA⟩⟩ rfl rfl hl.1 rfl (lv_room (Nat.le_of_ble_eq_true rfl)) dX13_clauses_124 ⟨(Nat.le_of_ble_eq_true rfl), (Nat.le_of_ble_eq_true rfl)⟩) hD hS hA (fun r_199 u_208 H locs w_200 hP hK hD hS => ?_)
                    obtain ⟨g_206, a_207⟩ := u_208
                    obtain ⟨z_201, rfl, hI, hfr_209, hfr_210, h_202, h_203, h_204, h_205⟩ := w_200
                    have hP : va_P (dC, dI) vwCl (mG ad ca g_206 a_207) H := hP
                    have hD : va_D A (mG ad ca g_206 a_207) := hD
                    have hfA : ∀ j, j ∉ ([2, 3, 4, 5, 7, 9, 12, 15] : List Nat) → g_206 j = g j := fun j h => (hfr_209 j (fun q => h (by first | exact q | (simp only [List.mem_cons, List.not_mem_nil, or_false] at q ⊢ <;> omega)))).trans (hfA j h)
                    have b_212 : g_206 1 = g 1 := hfA 1 (by decide)
                    have b_213 : g_206 8 = g 8 := hfA 8 (by decide)
                    have b_214 := hfr_209 12 (by decide)
                    have b_215 := hfr_209 15 (by decide)
                    have haA : ∀ j, j ∉ ([2, 3, 4, 5, 6, 7, 8] : List Nat) → a_207 j = a j := fun j h => (hfr_210 j (fun q => h (by first | exact q | (simp only [List.mem_cons, List.not_mem_nil, or_false] at q ⊢ <;> omega)))).trans (haA j h)
                    have h_203 : z_201 = 0 ∨ (rPn g_206 a_207 (g_206 7) ∧ mz g_206 a_207 (g_206 7) ≤ mB g_162) := h_203
                    have h_204 : tkR tT tN g_206 a_207 := h_204
                    have h_205 : bgR tT tN g_162 a_163 g_206 a_207 (((5 + (3 * ((g 5) - 3))) + (g_162 5)) - 13) 1 z_201 := h_205
                    have b_216 : g_206 1 = g_162 1 := hfr_209 1 (by decide)
                    have b_217 : g_206 8 = g_162 8 := hfr_209 8 (by decide)
                    have b_218 : g_206 12 = g_162 12 := hfr_209 12 (by decide)
                    have b_219 : g_206 15 = g_162 15 := hfr_209 15 (by decide)
                    have t_220 : a_207 3 = a 3 := (hfr_210 3 (by decide)).trans t_181
                    have t_221 : a_207 4 = a 4 := (hfr_210 4 (by decide)).trans t_182
                    have t_222 : a_207 6 = a 6 := (hfr_210 6 (by decide)).trans t_184
                    have t_223 : a_207 7 = a 7 := (hfr_210 7 (by decide)).trans t_185
                    have t_224 : a_207 8 = a 8 := (hfr_210 8 (by decide)).trans t_186
                    rw [← hQ]
                    exact W.zret (v := iI z_201) (ty := .boolean) hx hb hr (nb_bool (by omega) (by omega)) (fun t ht hW => ⟨⟨iI z_201, (g_206, a_207), rfl, ⟨z_201, rfl, hI, hfA, haA, by omega, by show z_201 = 0 ∨ (rPn g_206 a_207 (g_206 7) ∧ mz g_206 a_207 (g_206 7) < mz g a (g 7 + 1)); first | exact Or.inl rfl | exact Or.inr (st_0n hrP1 (by omega) k1 ⟨by omega, by omega, by omega, by omega, t_220, t_221, rfl, t_222, t_223, t_224⟩ (by omega) (by omega) (by omega) (by omega) (by omega) rfl) | exact Or.imp id (fun q => ⟨q.1, mB_lt (a' := a) hrP1 (by omega) k1 (by omega) (by omega) (by omega) q.2⟩) (show z_201 = 0 ∨ (rPn g_206 a_207 (g_206 7) ∧ mz g_206 a_207 (g_206 7) ≤ mB g_162) by assumption), by show tkR tT tN g_206 a_207; first | assumption | exact tkR_t (by omega) (by omega) (by omega) (by omega) h_161 | exact tkR_t (by omega) (by omega) (by omega) (by omega) hrTk, by show nst tT tN g a g_206 a_207 z_201; exact cl_lb (c := (((5 + (3 * ((g 5) - 3))) + (g_162 5)) - 13)) hrTk k1 (by omega) (by omega) (by omega) e9 h_161 (by omega) (by omega) (by omega) (by omega) (by omega) t_180 t_183 (show bgR tT tN g_162 a_163 g_206 a_207 (((5 + (3 * ((g 5) - 3))) + (g_162 5)) - 13) 1 z_201 by assumption)⟩, by rw [ht]; exact hP, va_K.moved hW.alike hK, hD⟩, hS.F ht⟩) hS.2.2 dX13_clauses_127
                  · refine lv_iconst (v := iI 0) hx hb dX13_clauses_105 rfl ?_
                    rw [← hQ]
                    exact W.zret (v := iI 0) (ty := .boolean) hx hb hr (nb_bool (by omega) (by omega)) (fun t ht hW => ⟨⟨iI 0, (g_162, a_163), rfl, ⟨0, rfl, hI, hfA, haA, by omega, by show 0 = 0 ∨ (rPn g_162 a_163 (g_162 7) ∧ mz g_162 a_163 (g_162 7) < mz g a (g 7 + 1)); first | exact Or.inl rfl | exact Or.inr (st_0n hrP1 (by omega) k1 ⟨by omega, by omega, by omega, by omega, t_181, t_182, t_183, t_184, t_185, t_186⟩ (by omega) (by omega) (by omega) (by omega) (by omega) t_180) | exact Or.imp id (fun q => ⟨q.1, mB_lt (a' := a) hrP1 (by omega) k1 (by omega) (by omega) (by omega) q.2⟩) (show 0 = 0 ∨ (rPn g_162 a_163 (g_162 7) ∧ mz g_162 a_163 (g_162 7) ≤ mB _) by assumption), by show tkR tT tN g_162 a_163; first | assumption | exact tkR_t (by omega) (by omega) (by omega) (by omega) h_161 | exact tkR_t (by omega) (by omega) (by omega) (by omega) hrTk, by show nst tT tN g a g_162 a_163 0; exact cl_lk hrTk k1 (by omega) (by omega) e9 h_161 (by omega) (by omega)⟩, by rw [ht]; exact hP, va_K.moved hW.alike hK, hD⟩, hS.F ht⟩) hS.2.2 dX13_clauses_106
            · exact J68 H locs ls (by omega) hP hD hS hl
        · have hrMc : rM g_55 a_56 := rM_of hrP1 (by omega) k1 ⟨by omega, by omega, by omega, by omega, t_80, t_81, t_82, t_83, t_84, t_85⟩ (by omega) (by omega) (by omega) (by omega) (by omega) (by omega) t_79
          refine lv_aload_n hx hb dX13_clauses_53 rfl (lv_at hl 1 rfl) ?_
          have hTkc : tkR tT tN g_55 a_56 := tkR_t (by omega) (by omega) (by omega) (by omega) hrTk
          refine jcg_i (va_runV (As := []) (rest := []) ⟨hx, hb, hml, hown, hts⟩ (sX13_skip l dC dI _ ad ca sK sV g_55 a_56 tT tN  hI (by omega) hrMc (txR_t (hfA 1 (by decide)) (haA 1 (by decide)) hrTx) hTkc) (cwV 0 hts (jgoodV m_237 m_464 m_465 m_503 m_200) rfl rfl rfl (by decide +kernel) ⟨(Nat.le_of_ble_eq_true rfl), (Nat.le_of_ble_eq_true rfl)⟩) ⟨mP_blind, va_recv hK hP (ci := 13) (q0 := 0) rfl rfl, fun U hU hW => ⟨rfl, mP_of hU hW hP hK hD hXs hS (fun _ h => h) hA⟩⟩ rfl rfl hl.1 rfl (lv_room (Nat.le_of_ble_eq_true rfl)) dX13_clauses_54 ⟨(Nat.le_of_ble_eq_true rfl), (Nat.le_of_ble_eq_true rfl)⟩) hD hS hA (fun r_225 u_234 H locs w_226 hP hK hD hS => ?_)
          obtain ⟨g_232, a_233⟩ := u_234
          obtain ⟨z_227, rfl, hI, hfr_235, hfr_236, h_228, h_229, h_230, h_231⟩ := w_226
          have hP : va_P (dC, dI) vwCl (mG ad ca g_232 a_233) H := hP
          have hD : va_D A (mG ad ca g_232 a_233) := hD
          have hfA : ∀ j, j ∉ ([2, 3, 4, 5, 7, 9, 12, 15] : List Nat) → g_232 j = g j := fun j h => (hfr_235 j (fun q => h (by first | exact q | (simp only [List.mem_cons, List.not_mem_nil, or_false] at q ⊢ <;> omega)))).trans (hfA j h)
          have b_238 : g_232 1 = g 1 := hfA 1 (by decide)
          have b_239 : g_232 8 = g 8 := hfA 8 (by decide)
          have b_240 := hfr_235 7 (by decide)
          have b_241 := hfr_235 9 (by decide)
          have b_242 := hfr_235 12 (by decide)
          have haA : ∀ j, j ∉ ([2, 3, 4, 5, 6, 7, 8] : List Nat) → a_233 j = a j := fun j h => (hfr_236 j (fun q => h (by first | exact q | (simp only [List.mem_cons, List.not_mem_nil, or_false] at q ⊢ <;> omega)))).trans (haA j h)
          have h_229 : z_227 = 0 ∨ (rPn g_232 a_233 (g_232 7) ∧ mz g_232 a_233 (g_232 7) ≤ mB g_55) := h_229
          have h_230 : tkR tT tN g_232 a_233 := h_230
          have h_231 : skR tT tN g_55 a_56 g_232 a_233 z_227 := h_231
          have b_243 : g_232 1 = g_55 1 := hfr_235 1 (by decide)
          have b_244 : g_232 7 = g_55 7 := hfr_235 7 (by decide)
          have b_245 : g_232 8 = g_55 8 := hfr_235 8 (by decide)
          have b_246 : g_232 9 = g_55 9 := hfr_235 9 (by decide)
          have b_247 : g_232 12 = g_55 12 := hfr_235 12 (by decide)
          have t_248 : a_233 2 = up (up (a 2) (g 7) 0) ((g 7 + 1)) 159 := (hfr_236 2 (by decide)).trans t_79
          have t_249 : a_233 3 = a 3 := (hfr_236 3 (by decide)).trans t_80
          have t_250 : a_233 4 = a 4 := (hfr_236 4 (by decide)).trans t_81
          have t_251 : a_233 5 = a 5 := (hfr_236 5 (by decide)).trans t_82
          have t_252 : a_233 6 = a 6 := (hfr_236 6 (by decide)).trans t_83
          rw [← hQ]
          exact W.zret (v := iI z_227) (ty := .boolean) hx hb hr (nb_bool (by omega) (by omega)) (fun t ht hW => ⟨⟨iI z_227, (g_232, a_233), rfl, ⟨z_227, rfl, hI, hfA, haA, by omega, by show z_227 = 0 ∨ (rPn g_232 a_233 (g_232 7) ∧ mz g_232 a_233 (g_232 7) < mz g a (g 7 + 1)); first | exact Or.inl rfl | exact Or.inr (st_0n hrP1 (by omega) k1 ⟨by omega, by omega, by omega, by omega, t_249, t_250, t_251, t_252, rfl, rfl⟩ (by omega) (by omega) (by omega) (by omega) (by omega) t_248) | exact Or.imp id (fun q => ⟨q.1, mB_lt (a' := a) hrP1 (by omega) k1 (by omega) (by omega) (by omega) q.2⟩) (show z_227 = 0 ∨ (rPn g_232 a_233 (g_232 7) ∧ mz g_232 a_233 (g_232 7) ≤ mB g_55) by assumption), by show tkR tT tN g_232 a_233; first | assumption | exact tkR_t (by omega) (by omega) (by omega) (by omega) _ | exact tkR_t (by omega) (by omega) (by omega) (by omega) hrTk, by show nst tT tN g a g_232 a_233 z_227; exact cl_sk hrTk k1 (by omega) (by omega) (by omega) (by omega) (by omega) (by omega) (by omega) t_79 t_82 (show skR tT tN g_55 a_56 g_232 a_233 z_227 by assumption)⟩, by rw [ht]; exact hP, va_K.moved hW.alike hK, hD⟩, hS.F ht⟩) hS.2.2 dX13_clauses_57
      · refine lv_iconst (v := iI 0) hx hb dX13_clauses_30 rfl ?_
        rw [← hQ]
        exact W.zret (v := iI 0) (ty := .boolean) hx hb hr (nb_bool (by omega) (by omega)) (fun t ht hW => ⟨⟨iI 0, (g, a), rfl, ⟨0, rfl, hI, hfA, haA, by omega, by show 0 = 0 ∨ (rPn g a (g 7) ∧ mz g a (g 7) < mz g a (g 7 + 1)); first | exact Or.inl rfl | exact Or.inr (st_0n hrP1 (by omega) k1 ⟨by omega, by omega, by omega, by omega, rfl, rfl, rfl, rfl, rfl, rfl⟩ (by omega) (by omega) (by omega) (by omega) (by omega) rfl) | exact Or.imp id (fun q => ⟨q.1, mB_lt (a' := a) hrP1 (by omega) k1 (by omega) (by omega) (by omega) q.2⟩) (show 0 = 0 ∨ (rPn g a (g 7) ∧ mz g a (g 7) ≤ mB _) by assumption), by show tkR tT tN g a; first | assumption | exact tkR_t (by omega) (by omega) (by omega) (by omega) _ | exact tkR_t (by omega) (by omega) (by omega) (by omega) hrTk, by show nst tT tN g a g a 0; exact cl_n hrTk k1 (by omega) (by omega) (by omega)⟩, by rw [ht]; exact hP, va_K.moved hW.alike hK, hD⟩, hS.F ht⟩) hS.2.2 dX13_clauses_31
  · refine lv_iconst (v := iI 1) hx hb dX13_clauses_7 rfl ?_
    rw [← hQ]
    exact W.zret (v := iI 1) (ty := .boolean) hx hb hr (nb_bool (by omega) (by omega)) (fun t ht hW => ⟨⟨iI 1, (g, a), rfl, ⟨1, rfl, hI, hfA, haA, by omega, by show 1 = 0 ∨ (rPn g a (g 7) ∧ mz g a (g 7) < mz g a (g 7 + 1)); first | exact Or.inl rfl | exact Or.inr (st_0n hrP1 (by omega) k1 ⟨by omega, by omega, by omega, by omega, rfl, rfl, rfl, rfl, rfl, rfl⟩ (by omega) (by omega) (by omega) (by omega) (by omega) rfl) | exact Or.imp id (fun q => ⟨q.1, mB_lt (a' := a) hrP1 (by omega) k1 (by omega) (by omega) (by omega) q.2⟩) (show 1 = 0 ∨ (rPn g a (g 7) ∧ mz g a (g 7) ≤ mB _) by assumption), by show tkR tT tN g a; first | assumption | exact tkR_t (by omega) (by omega) (by omega) (by omega) _ | exact tkR_t (by omega) (by omega) (by omega) (by omega) hrTk, by show nst tT tN g a g a 1; exact cl_0 (by omega) hrTk k1 (by omega) (by omega) (by omega) (by omega) (by omega) rfl rfl⟩, by rw [ht]; exact hP, va_K.moved hW.alike hK, hD⟩, hS.F ht⟩) hS.2.2 dX13_clauses_8
set_option maxHeartbeats 2000000 in
set_option maxRecDepth 100000 in
theorem sX13_steps (l : Launch) (dC : Nat → ClassId) (dI : Nat → Nat → Nat) (sz : Nat) (ad : Nat → Nat) (ca : Nat → ClassId) (sK sV : Nat → Nat) (g : Nat → Int) (a : Nat → Int → Int) (tT : Int → Int) (tN : Int) (p1 : Int) (hI : mI g a) (q1 : rg p1) (k1 : a 2 (g 7) = p1) (hrP1 : rP1 g a) (hrTx : txR tT tN g a) (hrTk : tkR tT tN g a) : Met l yX13_steps (jk yX13_steps cX13_steps 2 (some .boolean)) ({ frames := 9, cells := 0, slots := 0, locals := 198 }) (va_Pc [.ref (ad 0), .int (iI p1)] (mP (dC, dI) (mG ad ca g a) (mT ca) sK sV sz)) (va_Qi (fun (r : Int32) (u : (Nat → Int) × (Nat → Int → Int)) => ∃ z : Int, r = iI z ∧ (mI u.1 u.2) ∧ (∀ j, j ∉ ([2, 3, 4, 5, 7, 8, 9, 12, 15] : List Nat) → u.1 j = g j) ∧ (∀ j, j ∉ ([2, 3, 4, 5, 6, 7, 8] : List Nat) → u.2 j = a j) ∧ (0 ≤ z ∧ z ≤ 1) ∧ (z = 0 ∨ (rPn u.1 u.2 (u.1 7) ∧ mz u.1 u.2 (u.1 7) < mz g a (g 7 + 1))) ∧ (tkR tT tN u.1 u.2) ∧ (nst tT tN g a u.1 u.2 z)) (fun u t => va_P (dC, dI) vwCl (mG ad ca u.1 u.2) t.heap ∧ va_K (dC, dI) vwCl (mT ca) t ∧ va_D (va_A (mG ad ca g a) sz) (mG ad ca u.1 u.2)) (va_A (mG ad ca g a) sz)) 0 0 (va_A (mG ad ca g a) sz) := by
  refine Met.ofW (cc := cX13_steps) (maxL := 2) (ret := (some .boolean)) (by decide) rfl ?_
  intro p e s m args below meth c s₁ B hml hv
  obtain ⟨rfl, ⟨hsz, hP, hK, hD0⟩, hX0⟩ := hv
  have hx := B.exec
  have hb := B.bytes
  have hr := B.returns
  have hts := atoms_spec (ws := (jk yX13_steps cX13_steps 2 (some .boolean))) B.pre
  have hj : ∀ w ∈ jw, w.before ([.ref (ad 0), .int (iI p1)] : List Value).toArray s = true := fun w h => hts w (jm h)
  have hown : s.vm.findClass RX13 = some m.cls := findClass_of_methodNamed B.named
  subst hsz
  have hD := hD0.self (sz := s.heap.size)
  have hXs := hX0
  generalize hAe : (va_A (mG ad ca g a) s.heap.size) = A at hD hXs ⊢
  have hA : ∀ q : Nat, s.heap.size ≤ q → A q := fun q h => by rw [← hAe]; exact Or.inr h
  have hS : va_S A s.heap s.heap [] := va_S.rf
  have hP : va_P (dC, dI) vwCl (mG ad ca g a) s.heap := hP
  have hfA : ∀ j, j ∉ ([2, 3, 4, 5, 7, 8, 9, 12, 15] : List Nat) → g j = g j := fun _ _ => rfl
  have haA : ∀ j, j ∉ ([2, 3, 4, 5, 6, 7, 8] : List Nat) → a j = a j := fun _ _ => rfl
  have hl := lv_entry ([.ref (ad 0), .int (iI p1)]) (n := 2) (Nat.le_of_ble_eq_true rfl)
  rw [lg_entry_eq]
  generalize (lg_sl ([.ref (ad 0), .int (iI p1)]) ++ List.replicate (2 - (lg_sl ([.ref (ad 0), .int (iI p1)])).length) Slot.unset).toArray = ls at hl ⊢
  have hl : lv_has ls 2 [(0, .ref (ad 0)), (1, .int (iI p1))] := hl
  generalize hQ : MQ below (va_Qi (fun (r : Int32) (u : (Nat → Int) × (Nat → Int → Int)) => ∃ z : Int, r = iI z ∧ (mI u.1 u.2) ∧ (∀ j, j ∉ ([2, 3, 4, 5, 7, 8, 9, 12, 15] : List Nat) → u.1 j = g j) ∧ (∀ j, j ∉ ([2, 3, 4, 5, 6, 7, 8] : List Nat) → u.2 j = a j) ∧ (0 ≤ z ∧ z ≤ 1) ∧ (z = 0 ∨ (rPn u.1 u.2 (u.1 7) ∧ mz u.1 u.2 (u.1 7) < mz g a (g 7 + 1))) ∧ (tkR tT tN u.1 u.2) ∧ (nst tT tN g a u.1 u.2 z)) (fun u t => va_P (dC, dI) vwCl (mG ad ca u.1 u.2) t.heap ∧ va_K (dC, dI) vwCl (mT ca) t ∧ va_D A (mG ad ca u.1 u.2)) A) ([.ref (ad 0), .int (iI p1)] : List Value).toArray s 0 0 A = Q
  suffices ST : ∀ (H : Heap) (locs : List Loc), va_P (dC, dI) vwCl (mG ad ca g a) H → va_S A s.heap H locs → W p l e ({ frames := 9, cells := 0, slots := 0, locals := 198 }) s m ([.ref (ad 0), .int (iI p1)] : List Value).toArray below meth c H locs 0 0 Q (F0 m 0 ls []) from ST _ _ hP hS
  clear hP hS
  intro H locs hP hS
  obtain ⟨bb1, bb2, bb3, bb4, bb5, bb6⟩ := bd_1 hrP1
  have bb7 := tkk_b (g 3)
  have b7_0 : 0 ≤ g 7 ∧ g 7 ≤ 1200 := hI.1 7
  have b1_0 : 0 ≤ g 1 ∧ g 1 ≤ 600 := hI.1 1
  have b2_0 : 0 ≤ g 2 ∧ g 2 ≤ 600 := hI.1 2
  have hsv := sv_do hrP1 (by omega) k1
  unfold sval at hsv
  refine lv_iload_n hx hb dX13_steps_0 rfl (lv_at hl 1 rfl) ?_
  refine lv_sipush (v := iI 1000) hx hb dX13_steps_1 rfl ?_
  refine xr_icmp_lt (tgt := 19) hx hb dX13_steps_4 (by decide) (by omega) (by omega) (fun h_1 => ?_) (fun h_1 => ?_)
  · refine lv_iload_n hx hb dX13_steps_19 rfl (lv_at hl 1 rfl) ?_
    refine lv_bipush (v := iI 100) hx hb dX13_steps_20 rfl ?_
    refine xr_icmp_lt (tgt := 49) hx hb dX13_steps_22 (by decide) (by omega) (by omega) (fun h_2 => ?_) (fun h_2 => ?_)
    · refine lv_iload_n hx hb dX13_steps_49 rfl (lv_at hl 1 rfl) ?_
      rcases (show (p1 < 0 ∨ 12 < p1) ∨ p1 = 0 ∨ p1 = 1 ∨ p1 = 2 ∨ p1 = 3 ∨ p1 = 4 ∨ p1 = 5 ∨ p1 = 6 ∨ p1 = 7 ∨ p1 = 8 ∨ p1 = 9 ∨ p1 = 10 ∨ p1 = 11 ∨ p1 = 12 by omega) with h_3 | h_3 | h_3 | h_3 | h_3 | h_3 | h_3 | h_3 | h_3 | h_3 | h_3 | h_3 | h_3 | h_3
      · refine lv_tableOut (tgt := 232) hx hb dX13_steps_50 (by rw [iI_toInt (by omega)]; omega) (by decide) ?_
        refine lv_aload_n hx hb dX13_steps_232 rfl (lv_at hl 0 rfl) ?_
        refine gf_slotEnd hx hb hj hown hK hP dX13_steps_233 ?_
        refine lv_aload_n hx hb dX13_steps_236 rfl (lv_at hl 0 rfl) ?_
        refine gf_slot hx hb hj hown hK hP hI dX13_steps_237 (fun h_4 => ?_)
        refine lv_aload_n hx hb dX13_steps_240 rfl (lv_at hl 0 rfl) ?_
        refine gf_doing hx hb hj hown hK hP hI dX13_steps_241 (fun h_5 => ?_)
        refine st_slotEnd hx hb hK hP hD hS hI (by omega) (by omega) (by omega) (by omega) dX13_steps_244 (fun a_6 H locs e_7 e_8 hI hP hD hS => ?_)
        have haA : ∀ j, j ∉ ([2, 3, 4, 5, 6, 7, 8] : List Nat) → a_6 j = a j := fun j h => (e_7 j (fun q => h (q ▸ (by decide : 6 ∈ ([2, 3, 4, 5, 6, 7, 8] : List Nat))))).trans (haA j h)
        have t_9 : a_6 2 = a 2 := (e_7 2 (by decide)).trans rfl
        have t_10 : a_6 3 = a 3 := (e_7 3 (by decide)).trans rfl
        have t_11 : a_6 4 = a 4 := (e_7 4 (by decide)).trans rfl
        have t_12 : a_6 5 = a 5 := (e_7 5 (by decide)).trans rfl
        have t_13 : a_6 6 = up (a 6) (g 9) (g 12) := e_8.trans (up_c rfl (by omega) (by omega))
        have t_14 : a_6 7 = a 7 := (e_7 7 (by decide)).trans rfl
        have t_15 : a_6 8 = a 8 := (e_7 8 (by decide)).trans rfl
        refine lv_iconst (v := iI 1) hx hb dX13_steps_245 rfl ?_
        rw [← hQ]
        exact W.zret (v := iI 1) (ty := .boolean) hx hb hr (nb_bool (by omega) (by omega)) (fun t ht hW => ⟨⟨iI 1, (g, a_6), rfl, ⟨1, rfl, hI, hfA, haA, by omega, by show 1 = 0 ∨ (rPn g a_6 (g 7) ∧ mz g a_6 (g 7) < mz g a (g 7 + 1)); first | exact Or.inl rfl | exact (show 1 = 0 ∨ (rPn g a_6 (g 7) ∧ mz g a_6 (g 7) < mz g a (g 7 + 1)) by assumption) | exact Or.inr (st_do hrP1 (by omega) k1 (by omega) (by omega) (by omega) (by omega) (by omega) (by omega) t_10 t_11 t_12 t_13 t_14 t_15 (by omega) (by omega) (by omega) (by omega) t_9) | exact Or.inr (st_sg hrP1 (by omega) k1 (by omega) ⟨by omega, by omega, by omega, by omega, t_10, t_11, t_12, t_13, t_14, t_15⟩ (by omega) (by omega) (by omega) ⟨by omega, by omega, by omega⟩ t_9) | exact Or.inr (st_12 hrP1 (by omega) (by omega) ⟨by omega, by omega, by omega, by omega, t_10, t_11, t_12, t_13, t_14, t_15⟩ (by omega) (by omega) (by omega) (by omega) t_9) | exact Or.inr (st_13 hrP1 (by omega) (by omega) (by omega) (by omega) (by omega) (by omega) t_10 t_11 t_12 t_13 t_14 t_15 (by omega) (by omega) (by omega) (by omega) t_9) | exact Or.inr (st_1 hrP1 (by omega) (by omega) ⟨by omega, by omega, by omega, by omega, t_10, t_11, t_12, t_13, t_14, t_15⟩ (by omega) (by omega) (by omega) (by omega) (by omega) t_9) | exact Or.inr (st_3 hrP1 (by omega) (by omega) ⟨by omega, by omega, by omega, by omega, t_10, t_11, t_12, t_13, t_14, t_15⟩ (by omega) (by omega) (by omega) (by omega) (by omega) t_9) | exact Or.inr (st_6 hrP1 (by omega) (by omega) ⟨by omega, by omega, by omega, by omega, t_10, t_11, t_12, t_13, t_14, t_15⟩ (by omega) (by omega) (by omega) (by omega) (by omega) t_9) | exact Or.inr (st_8 hrP1 (by omega) (by omega) ⟨by omega, by omega, by omega, by omega, t_10, t_11, t_12, t_13, t_14, t_15⟩ (by omega) (by omega) (by omega) (by omega) (by omega) t_9), by show tkR tT tN g a_6; first | assumption | exact tkR_t (by omega) (by omega) (by omega) (by omega) _ | exact tkR_t (by omega) (by omega) (by omega) (by omega) hrTk, by show nst tT tN g a g a_6 1; exact nst_y (by omega) (by omega) (nt_13 hrTk (by omega) (by omega) (by omega) (by omega) (by omega) t_12 (by omega) t_9)⟩, by rw [ht]; exact hP, va_K.moved hW.alike hK, hD⟩, hS.F ht⟩) hS.2.2 dX13_steps_246
      · refine jtab_in (v := iI 0) (off := 66) (tgt := 116) hx hb dX13_steps_50 (by rw [h_3]) (by decide) (by decide) (by decide) (by decide) ?_
        refine lv_aload_n hx hb dX13_steps_116 rfl (lv_at hl 0 rfl) ?_
        refine jcg_i (va_runV (As := []) (rest := []) ⟨hx, hb, hml, hown, hts⟩ (sX13_clauses l dC dI _ ad ca sK sV g a tT tN  hI (by omega) hrP1 hrTx hrTk) (cwV 0 hts (jgoodV m_229 m_310 m_311 m_503 m_120) rfl rfl rfl (by decide +kernel) ⟨(Nat.le_of_ble_eq_true rfl), (Nat.le_of_ble_eq_true rfl)⟩) ⟨mP_blind, va_recv hK hP (ci := 13) (q0 := 0) rfl rfl, fun U hU hW => ⟨rfl, mP_of hU hW hP hK hD hXs hS (fun _ h => h) hA⟩⟩ rfl rfl hl.1 rfl (lv_room (Nat.le_of_ble_eq_true rfl)) dX13_steps_117 ⟨(Nat.le_of_ble_eq_true rfl), (Nat.le_of_ble_eq_true rfl)⟩) hD hS hA (fun r_16 u_25 H locs w_17 hP hK hD hS => ?_)
        obtain ⟨g_23, a_24⟩ := u_25
        obtain ⟨z_18, rfl, hI, hfr_26, hfr_27, h_19, h_20, h_21, h_22⟩ := w_17
        have hP : va_P (dC, dI) vwCl (mG ad ca g_23 a_24) H := hP
        have hD : va_D A (mG ad ca g_23 a_24) := hD
        have hfA : ∀ j, j ∉ ([2, 3, 4, 5, 7, 8, 9, 12, 15] : List Nat) → g_23 j = g j := fun j h => (hfr_26 j (fun q => h (by first | exact q | (simp only [List.mem_cons, List.not_mem_nil, or_false] at q ⊢ <;> omega)))).trans (hfA j h)
        have b_29 : g_23 1 = g 1 := hfA 1 (by decide)
        have b_30 := hfr_26 8 (by decide)
        have haA : ∀ j, j ∉ ([2, 3, 4, 5, 6, 7, 8] : List Nat) → a_24 j = a j := fun j h => (hfr_27 j (fun q => h (by first | exact q | (simp only [List.mem_cons, List.not_mem_nil, or_false] at q ⊢ <;> omega)))).trans (haA j h)
        have h_20 : z_18 = 0 ∨ (rPn g_23 a_24 (g_23 7) ∧ mz g_23 a_24 (g_23 7) < mz g a (g 7 + 1)) := h_20
        have h_21 : tkR tT tN g_23 a_24 := h_21
        have h_22 : nst tT tN g a g_23 a_24 z_18 := h_22
        have b_31 : g_23 1 = g 1 := hfr_26 1 (by decide)
        have b_32 : g_23 8 = g 8 := hfr_26 8 (by decide)
        have b_33 : 0 ≤ g_23 7 ∧ g_23 7 ≤ 1200 := hI.1 7
        rw [← hQ]
        exact W.zret (v := iI z_18) (ty := .boolean) hx hb hr (nb_bool (by omega) (by omega)) (fun t ht hW => ⟨⟨iI z_18, (g_23, a_24), rfl, ⟨z_18, rfl, hI, hfA, haA, by omega, by show z_18 = 0 ∨ (rPn g_23 a_24 (g_23 7) ∧ mz g_23 a_24 (g_23 7) < mz g a (g 7 + 1)); first | exact Or.inl rfl | exact (show z_18 = 0 ∨ (rPn g_23 a_24 (g_23 7) ∧ mz g_23 a_24 (g_23 7) < mz g a (g 7 + 1)) by assumption) | exact Or.inr (st_do hrP1 (by omega) k1 (by omega) (by omega) (by omega) (by omega) (by omega) (by omega) rfl rfl rfl rfl rfl rfl (by omega) (by omega) (by omega) (by omega) rfl) | exact Or.inr (st_sg hrP1 (by omega) k1 (by omega) ⟨by omega, by omega, by omega, by omega, rfl, rfl, rfl, rfl, rfl, rfl⟩ (by omega) (by omega) (by omega) ⟨by omega, by omega, by omega⟩ rfl) | exact Or.inr (st_12 hrP1 (by omega) (by omega) ⟨by omega, by omega, by omega, by omega, rfl, rfl, rfl, rfl, rfl, rfl⟩ (by omega) (by omega) (by omega) (by omega) rfl) | exact Or.inr (st_13 hrP1 (by omega) (by omega) (by omega) (by omega) (by omega) (by omega) rfl rfl rfl rfl rfl rfl (by omega) (by omega) (by omega) (by omega) rfl) | exact Or.inr (st_1 hrP1 (by omega) (by omega) ⟨by omega, by omega, by omega, by omega, rfl, rfl, rfl, rfl, rfl, rfl⟩ (by omega) (by omega) (by omega) (by omega) (by omega) rfl) | exact Or.inr (st_3 hrP1 (by omega) (by omega) ⟨by omega, by omega, by omega, by omega, rfl, rfl, rfl, rfl, rfl, rfl⟩ (by omega) (by omega) (by omega) (by omega) (by omega) rfl) | exact Or.inr (st_6 hrP1 (by omega) (by omega) ⟨by omega, by omega, by omega, by omega, rfl, rfl, rfl, rfl, rfl, rfl⟩ (by omega) (by omega) (by omega) (by omega) (by omega) rfl) | exact Or.inr (st_8 hrP1 (by omega) (by omega) ⟨by omega, by omega, by omega, by omega, rfl, rfl, rfl, rfl, rfl, rfl⟩ (by omega) (by omega) (by omega) (by omega) (by omega) rfl), by show tkR tT tN g_23 a_24; first | assumption | exact tkR_t (by omega) (by omega) (by omega) (by omega) _ | exact tkR_t (by omega) (by omega) (by omega) (by omega) hrTk, by show nst tT tN g a g_23 a_24 z_18; exact (show nst tT tN g a g_23 a_24 z_18 by assumption)⟩, by rw [ht]; exact hP, va_K.moved hW.alike hK, hD⟩, hS.F ht⟩) hS.2.2 dX13_steps_120
      · refine jtab_in (v := iI 1) (off := 71) (tgt := 121) hx hb dX13_steps_50 (by rw [h_3]) (by decide) (by decide) (by decide) (by decide) ?_
        refine lv_aload_n hx hb dX13_steps_121 rfl (lv_at hl 0 rfl) ?_
        refine lv_iconst (v := iI 2) hx hb dX13_steps_122 rfl ?_
        refine lv_iconst (v := iI 3) hx hb dX13_steps_123 rfl ?_
        refine jcg_i (va_runV (As := [.int (iI 2), .int (iI 3)]) (rest := []) ⟨hx, hb, hml, hown, hts⟩ (sX13_both l dC dI _ ad ca g a 2 3 hI (by omega) (by omega) (by omega)) (cwV 2 hts (jgoodV m_230 m_295 m_296 m_503 m_112) rfl rfl rfl (by decide +kernel) ⟨(Nat.le_of_ble_eq_true rfl), (Nat.le_of_ble_eq_true rfl)⟩) ⟨jw_blind, va_recv hK hP (ci := 13) (q0 := 0) rfl rfl, fun U hU hW => ⟨rfl, jw_of hU hW hP hK hD⟩⟩ rfl rfl hl.1 rfl (lv_room (Nat.le_of_ble_eq_true rfl)) dX13_steps_124 ⟨(Nat.le_of_ble_eq_true rfl), (Nat.le_of_ble_eq_true rfl)⟩) hD hS hA (fun r_34 u_43 H locs w_35 hP hK hD hS => ?_)
        obtain ⟨g_41, a_42⟩ := u_43
        obtain ⟨z_36, rfl, hI, hfr_44, hfr_45, h_37, h_38, h_39, h_40⟩ := w_35
        have hP : va_P (dC, dI) vwCl (mG ad ca g_41 a_42) H := hP
        have hD : va_D A (mG ad ca g_41 a_42) := hD
        have hfA : ∀ j, j ∉ ([2, 3, 4, 5, 7, 8, 9, 12, 15] : List Nat) → g_41 j = g j := fun j h => (hfr_44 j (fun q => h (by first | exact q | (simp only [List.mem_cons, List.not_mem_nil, or_false] at q ⊢ <;> omega)))).trans (hfA j h)
        have b_47 : g_41 1 = g 1 := hfA 1 (by decide)
        have b_48 := hfr_44 2 (by decide)
        have b_49 := hfr_44 3 (by decide)
        have b_50 := hfr_44 4 (by decide)
        have b_51 := hfr_44 5 (by decide)
        have b_52 := hfr_44 8 (by decide)
        have b_53 := hfr_44 9 (by decide)
        have b_54 := hfr_44 12 (by decide)
        have b_55 := hfr_44 15 (by decide)
        have haA : ∀ j, j ∉ ([2, 3, 4, 5, 6, 7, 8] : List Nat) → a_42 j = a j := fun j h => (hfr_45 j (fun q => h (by first | exact q | (simp only [List.mem_cons, List.not_mem_nil, or_false] at q ⊢ <;> omega)))).trans (haA j h)
        have h_38 : g_41 7 = g 7 + 2 := h_38
        have h_39 : a_42 2 = up (up (a 2) (g 7) 2) (g 7 + 1) 3 := h_39
        have b_56 : g_41 1 = g 1 := hfr_44 1 (by decide)
        have b_57 : g_41 2 = g 2 := hfr_44 2 (by decide)
        have b_58 : g_41 3 = g 3 := hfr_44 3 (by decide)
        have b_59 : g_41 4 = g 4 := hfr_44 4 (by decide)
        have b_60 : g_41 8 = g 8 := hfr_44 8 (by decide)
        have b_61 : g_41 9 = g 9 := hfr_44 9 (by decide)
        have b_62 : g_41 12 = g 12 := hfr_44 12 (by decide)
        have b_63 : g_41 15 = g 15 := hfr_44 15 (by decide)
        have b_64 : g_41 5 = g 5 := hfr_44 5 (by decide)
        have t_65 : a_42 2 = up (up (a 2) (g 7) 2) (g 7 + 1) 3 := h_39.trans (up_c (up_c rfl (by omega) (by omega)) (by omega) (by omega))
        have t_66 : a_42 3 = a 3 := (hfr_45 3 (by decide)).trans rfl
        have t_67 : a_42 4 = a 4 := (hfr_45 4 (by decide)).trans rfl
        have t_68 : a_42 5 = a 5 := (hfr_45 5 (by decide)).trans rfl
        have t_69 : a_42 6 = a 6 := (hfr_45 6 (by decide)).trans rfl
        have t_70 : a_42 7 = a 7 := (hfr_45 7 (by decide)).trans rfl
        have t_71 : a_42 8 = a 8 := (hfr_45 8 (by decide)).trans rfl
        have b_72 : 0 ≤ g_41 7 ∧ g_41 7 ≤ 1200 := hI.1 7
        rw [← hQ]
        exact W.zret (v := iI z_36) (ty := .boolean) hx hb hr (nb_bool (by omega) (by omega)) (fun t ht hW => ⟨⟨iI z_36, (g_41, a_42), rfl, ⟨z_36, rfl, hI, hfA, haA, by omega, by show z_36 = 0 ∨ (rPn g_41 a_42 (g_41 7) ∧ mz g_41 a_42 (g_41 7) < mz g a (g 7 + 1)); first | exact Or.inl rfl | exact (show z_36 = 0 ∨ (rPn g_41 a_42 (g_41 7) ∧ mz g_41 a_42 (g_41 7) < mz g a (g 7 + 1)) by assumption) | exact Or.inr (st_do hrP1 (by omega) k1 (by omega) (by omega) (by omega) (by omega) (by omega) (by omega) t_66 t_67 t_68 t_69 t_70 t_71 (by omega) (by omega) (by omega) (by omega) t_65) | exact Or.inr (st_sg hrP1 (by omega) k1 (by omega) ⟨by omega, by omega, by omega, by omega, t_66, t_67, t_68, t_69, t_70, t_71⟩ (by omega) (by omega) (by omega) ⟨by omega, by omega, by omega⟩ t_65) | exact Or.inr (st_12 hrP1 (by omega) (by omega) ⟨by omega, by omega, by omega, by omega, t_66, t_67, t_68, t_69, t_70, t_71⟩ (by omega) (by omega) (by omega) (by omega) t_65) | exact Or.inr (st_13 hrP1 (by omega) (by omega) (by omega) (by omega) (by omega) (by omega) t_66 t_67 t_68 t_69 t_70 t_71 (by omega) (by omega) (by omega) (by omega) t_65) | exact Or.inr (st_1 hrP1 (by omega) (by omega) ⟨by omega, by omega, by omega, by omega, t_66, t_67, t_68, t_69, t_70, t_71⟩ (by omega) (by omega) (by omega) (by omega) (by omega) t_65) | exact Or.inr (st_3 hrP1 (by omega) (by omega) ⟨by omega, by omega, by omega, by omega, t_66, t_67, t_68, t_69, t_70, t_71⟩ (by omega) (by omega) (by omega) (by omega) (by omega) t_65) | exact Or.inr (st_6 hrP1 (by omega) (by omega) ⟨by omega, by omega, by omega, by omega, t_66, t_67, t_68, t_69, t_70, t_71⟩ (by omega) (by omega) (by omega) (by omega) (by omega) t_65) | exact Or.inr (st_8 hrP1 (by omega) (by omega) ⟨by omega, by omega, by omega, by omega, t_66, t_67, t_68, t_69, t_70, t_71⟩ (by omega) (by omega) (by omega) (by omega) (by omega) t_65), by show tkR tT tN g_41 a_42; first | assumption | exact tkR_t (by omega) (by omega) (by omega) (by omega) _ | exact tkR_t (by omega) (by omega) (by omega) (by omega) hrTk, by show nst tT tN g a g_41 a_42 z_36; exact nst_y (by omega) (by omega) (nt_1 hrTk (by omega) (by omega) (by omega) (by omega) (by omega) t_68 (by omega) t_65)⟩, by rw [ht]; exact hP, va_K.moved hW.alike hK, hD⟩, hS.F ht⟩) hS.2.2 dX13_steps_127
      · refine jtab_in (v := iI 2) (off := 78) (tgt := 128) hx hb dX13_steps_50 (by rw [h_3]) (by decide) (by decide) (by decide) (by decide) ?_
        refine lv_aload_n hx hb dX13_steps_128 rfl (lv_at hl 0 rfl) ?_
        refine lv_bipush (v := iI 43) hx hb dX13_steps_129 rfl ?_
        refine lv_iconst (v := iI 2) hx hb dX13_steps_131 rfl ?_
        refine lv_bipush (v := iI 45) hx hb dX13_steps_132 rfl ?_
        refine lv_iconst (v := iI 3) hx hb dX13_steps_134 rfl ?_
        refine lv_iconst (v := iI 2) hx hb dX13_steps_135 rfl ?_
        refine lv_iconst (v := iI 3) hx hb dX13_steps_136 rfl ?_
        refine jcg_i (va_runV (As := [.int (iI 43), .int (iI 2), .int (iI 45), .int (iI 3), .int (iI 2), .int (iI 3)]) (rest := []) ⟨hx, hb, hml, hown, hts⟩ (sX13_more l dC dI _ ad ca sK sV g a tT tN 43 2 45 3 2 3 hI (by omega) (by omega) (by omega) (by omega) (by omega) (by omega) (by omega) hrP1 hrTx hrTk) (cwV 6 hts (jgoodV m_231 m_426 m_427 m_503 m_180) rfl rfl rfl (by decide +kernel) ⟨(Nat.le_of_ble_eq_true rfl), (Nat.le_of_ble_eq_true rfl)⟩) ⟨mP_blind, va_recv hK hP (ci := 13) (q0 := 0) rfl rfl, fun U hU hW => ⟨rfl, mP_of hU hW hP hK hD hXs hS (fun _ h => h) hA⟩⟩ rfl rfl hl.1 rfl (lv_room (Nat.le_of_ble_eq_true rfl)) dX13_steps_137 ⟨(Nat.le_of_ble_eq_true rfl), (Nat.le_of_ble_eq_true rfl)⟩) hD hS hA (fun r_73 u_82 H locs w_74 hP hK hD hS => ?_)
        obtain ⟨g_80, a_81⟩ := u_82
        obtain ⟨z_75, rfl, hI, hfr_83, hfr_84, h_76, h_77, h_78, h_79⟩ := w_74
        have hP : va_P (dC, dI) vwCl (mG ad ca g_80 a_81) H := hP
        have hD : va_D A (mG ad ca g_80 a_81) := hD
        have hfA : ∀ j, j ∉ ([2, 3, 4, 5, 7, 8, 9, 12, 15] : List Nat) → g_80 j = g j := fun j h => (hfr_83 j (fun q => h (by first | exact q | (simp only [List.mem_cons, List.not_mem_nil, or_false] at q ⊢ <;> omega)))).trans (hfA j h)
        have b_86 : g_80 1 = g 1 := hfA 1 (by decide)
        have b_87 := hfr_83 8 (by decide)
        have b_88 := hfr_83 9 (by decide)
        have b_89 := hfr_83 12 (by decide)
        have b_90 := hfr_83 15 (by decide)
        have haA : ∀ j, j ∉ ([2, 3, 4, 5, 6, 7, 8] : List Nat) → a_81 j = a j := fun j h => (hfr_84 j (fun q => h (by first | exact q | (simp only [List.mem_cons, List.not_mem_nil, or_false] at q ⊢ <;> omega)))).trans (haA j h)
        have h_77 : z_75 = 0 ∨ (rPn g_80 a_81 (g_80 7) ∧ mz g_80 a_81 (g_80 7) < mz g a (g 7 + 1)) := h_77
        have h_78 : tkR tT tN g_80 a_81 := h_78
        have h_79 : nst tT tN g a g_80 a_81 z_75 := h_79
        have b_91 : g_80 1 = g 1 := hfr_83 1 (by decide)
        have b_92 : g_80 8 = g 8 := hfr_83 8 (by decide)
        have b_93 : g_80 9 = g 9 := hfr_83 9 (by decide)
        have b_94 : g_80 12 = g 12 := hfr_83 12 (by decide)
        have b_95 : g_80 15 = g 15 := hfr_83 15 (by decide)
        have t_96 : a_81 3 = a 3 := (hfr_84 3 (by decide)).trans rfl
        have t_97 : a_81 4 = a 4 := (hfr_84 4 (by decide)).trans rfl
        have t_98 : a_81 5 = a 5 := (hfr_84 5 (by decide)).trans rfl
        have t_99 : a_81 6 = a 6 := (hfr_84 6 (by decide)).trans rfl
        have t_100 : a_81 7 = a 7 := (hfr_84 7 (by decide)).trans rfl
        have t_101 : a_81 8 = a 8 := (hfr_84 8 (by decide)).trans rfl
        have b_102 : 0 ≤ g_80 7 ∧ g_80 7 ≤ 1200 := hI.1 7
        rw [← hQ]
        exact W.zret (v := iI z_75) (ty := .boolean) hx hb hr (nb_bool (by omega) (by omega)) (fun t ht hW => ⟨⟨iI z_75, (g_80, a_81), rfl, ⟨z_75, rfl, hI, hfA, haA, by omega, by show z_75 = 0 ∨ (rPn g_80 a_81 (g_80 7) ∧ mz g_80 a_81 (g_80 7) < mz g a (g 7 + 1)); first | exact Or.inl rfl | exact (show z_75 = 0 ∨ (rPn g_80 a_81 (g_80 7) ∧ mz g_80 a_81 (g_80 7) < mz g a (g 7 + 1)) by assumption) | exact Or.inr (st_do hrP1 (by omega) k1 (by omega) (by omega) (by omega) (by omega) (by omega) (by omega) t_96 t_97 t_98 t_99 t_100 t_101 (by omega) (by omega) (by omega) (by omega) rfl) | exact Or.inr (st_sg hrP1 (by omega) k1 (by omega) ⟨by omega, by omega, by omega, by omega, t_96, t_97, t_98, t_99, t_100, t_101⟩ (by omega) (by omega) (by omega) ⟨by omega, by omega, by omega⟩ rfl) | exact Or.inr (st_12 hrP1 (by omega) (by omega) ⟨by omega, by omega, by omega, by omega, t_96, t_97, t_98, t_99, t_100, t_101⟩ (by omega) (by omega) (by omega) (by omega) rfl) | exact Or.inr (st_13 hrP1 (by omega) (by omega) (by omega) (by omega) (by omega) (by omega) t_96 t_97 t_98 t_99 t_100 t_101 (by omega) (by omega) (by omega) (by omega) rfl) | exact Or.inr (st_1 hrP1 (by omega) (by omega) ⟨by omega, by omega, by omega, by omega, t_96, t_97, t_98, t_99, t_100, t_101⟩ (by omega) (by omega) (by omega) (by omega) (by omega) rfl) | exact Or.inr (st_3 hrP1 (by omega) (by omega) ⟨by omega, by omega, by omega, by omega, t_96, t_97, t_98, t_99, t_100, t_101⟩ (by omega) (by omega) (by omega) (by omega) (by omega) rfl) | exact Or.inr (st_6 hrP1 (by omega) (by omega) ⟨by omega, by omega, by omega, by omega, t_96, t_97, t_98, t_99, t_100, t_101⟩ (by omega) (by omega) (by omega) (by omega) (by omega) rfl) | exact Or.inr (st_8 hrP1 (by omega) (by omega) ⟨by omega, by omega, by omega, by omega, t_96, t_97, t_98, t_99, t_100, t_101⟩ (by omega) (by omega) (by omega) (by omega) (by omega) rfl), by show tkR tT tN g_80 a_81; first | assumption | exact tkR_t (by omega) (by omega) (by omega) (by omega) _ | exact tkR_t (by omega) (by omega) (by omega) (by omega) hrTk, by show nst tT tN g a g_80 a_81 z_75; exact (show nst tT tN g a g_80 a_81 z_75 by assumption)⟩, by rw [ht]; exact hP, va_K.moved hW.alike hK, hD⟩, hS.F ht⟩) hS.2.2 dX13_steps_140
      · refine jtab_in (v := iI 3) (off := 91) (tgt := 141) hx hb dX13_steps_50 (by rw [h_3]) (by decide) (by decide) (by decide) (by decide) ?_
        refine lv_aload_n hx hb dX13_steps_141 rfl (lv_at hl 0 rfl) ?_
        refine lv_iconst (v := iI 4) hx hb dX13_steps_142 rfl ?_
        refine lv_iconst (v := iI 5) hx hb dX13_steps_143 rfl ?_
        refine jcg_i (va_runV (As := [.int (iI 4), .int (iI 5)]) (rest := []) ⟨hx, hb, hml, hown, hts⟩ (sX13_both l dC dI _ ad ca g a 4 5 hI (by omega) (by omega) (by omega)) (cwV 2 hts (jgoodV m_230 m_295 m_296 m_503 m_112) rfl rfl rfl (by decide +kernel) ⟨(Nat.le_of_ble_eq_true rfl), (Nat.le_of_ble_eq_true rfl)⟩) ⟨jw_blind, va_recv hK hP (ci := 13) (q0 := 0) rfl rfl, fun U hU hW => ⟨rfl, jw_of hU hW hP hK hD⟩⟩ rfl rfl hl.1 rfl (lv_room (Nat.le_of_ble_eq_true rfl)) dX13_steps_144 ⟨(Nat.le_of_ble_eq_true rfl), (Nat.le_of_ble_eq_true rfl)⟩) hD hS hA (fun r_103 u_112 H locs w_104 hP hK hD hS => ?_)
        obtain ⟨g_110, a_111⟩ := u_112
        obtain ⟨z_105, rfl, hI, hfr_113, hfr_114, h_106, h_107, h_108, h_109⟩ := w_104
        have hP : va_P (dC, dI) vwCl (mG ad ca g_110 a_111) H := hP
        have hD : va_D A (mG ad ca g_110 a_111) := hD
        have hfA : ∀ j, j ∉ ([2, 3, 4, 5, 7, 8, 9, 12, 15] : List Nat) → g_110 j = g j := fun j h => (hfr_113 j (fun q => h (by first | exact q | (simp only [List.mem_cons, List.not_mem_nil, or_false] at q ⊢ <;> omega)))).trans (hfA j h)
        have b_116 : g_110 1 = g 1 := hfA 1 (by decide)
        have b_117 := hfr_113 2 (by decide)
        have b_118 := hfr_113 3 (by decide)
        have b_119 := hfr_113 4 (by decide)
        have b_120 := hfr_113 5 (by decide)
        have b_121 := hfr_113 8 (by decide)
        have b_122 := hfr_113 9 (by decide)
        have b_123 := hfr_113 12 (by decide)
        have b_124 := hfr_113 15 (by decide)
        have haA : ∀ j, j ∉ ([2, 3, 4, 5, 6, 7, 8] : List Nat) → a_111 j = a j := fun j h => (hfr_114 j (fun q => h (by first | exact q | (simp only [List.mem_cons, List.not_mem_nil, or_false] at q ⊢ <;> omega)))).trans (haA j h)
        have h_107 : g_110 7 = g 7 + 2 := h_107
        have h_108 : a_111 2 = up (up (a 2) (g 7) 4) (g 7 + 1) 5 := h_108
        have b_125 : g_110 1 = g 1 := hfr_113 1 (by decide)
        have b_126 : g_110 2 = g 2 := hfr_113 2 (by decide)
        have b_127 : g_110 3 = g 3 := hfr_113 3 (by decide)
        have b_128 : g_110 4 = g 4 := hfr_113 4 (by decide)
        have b_129 : g_110 8 = g 8 := hfr_113 8 (by decide)
        have b_130 : g_110 9 = g 9 := hfr_113 9 (by decide)
        have b_131 : g_110 12 = g 12 := hfr_113 12 (by decide)
        have b_132 : g_110 15 = g 15 := hfr_113 15 (by decide)
        have b_133 : g_110 5 = g 5 := hfr_113 5 (by decide)
        have t_134 : a_111 2 = up (up (a 2) (g 7) 4) (g 7 + 1) 5 := h_108.trans (up_c (up_c rfl (by omega) (by omega)) (by omega) (by omega))
        have t_135 : a_111 3 = a 3 := (hfr_114 3 (by decide)).trans rfl
        have t_136 : a_111 4 = a 4 := (hfr_114 4 (by decide)).trans rfl
        have t_137 : a_111 5 = a 5 := (hfr_114 5 (by decide)).trans rfl
        have t_138 : a_111 6 = a 6 := (hfr_114 6 (by decide)).trans rfl
        have t_139 : a_111 7 = a 7 := (hfr_114 7 (by decide)).trans rfl
        have t_140 : a_111 8 = a 8 := (hfr_114 8 (by decide)).trans rfl
        have b_141 : 0 ≤ g_110 7 ∧ g_110 7 ≤ 1200 := hI.1 7
        rw [← hQ]
        exact W.zret (v := iI z_105) (ty := .boolean) hx hb hr (nb_bool (by omega) (by omega)) (fun t ht hW => ⟨⟨iI z_105, (g_110, a_111), rfl, ⟨z_105, rfl, hI, hfA, haA, by omega, by show z_105 = 0 ∨ (rPn g_110 a_111 (g_110 7) ∧ mz g_110 a_111 (g_110 7) < mz g a (g 7 + 1)); first | exact Or.inl rfl | exact (show z_105 = 0 ∨ (rPn g_110 a_111 (g_110 7) ∧ mz g_110 a_111 (g_110 7) < mz g a (g 7 + 1)) by assumption) | exact Or.inr (st_do hrP1 (by omega) k1 (by omega) (by omega) (by omega) (by omega) (by omega) (by omega) t_135 t_136 t_137 t_138 t_139 t_140 (by omega) (by omega) (by omega) (by omega) t_134) | exact Or.inr (st_sg hrP1 (by omega) k1 (by omega) ⟨by omega, by omega, by omega, by omega, t_135, t_136, t_137, t_138, t_139, t_140⟩ (by omega) (by omega) (by omega) ⟨by omega, by omega, by omega⟩ t_134) | exact Or.inr (st_12 hrP1 (by omega) (by omega) ⟨by omega, by omega, by omega, by omega, t_135, t_136, t_137, t_138, t_139, t_140⟩ (by omega) (by omega) (by omega) (by omega) t_134) | exact Or.inr (st_13 hrP1 (by omega) (by omega) (by omega) (by omega) (by omega) (by omega) t_135 t_136 t_137 t_138 t_139 t_140 (by omega) (by omega) (by omega) (by omega) t_134) | exact Or.inr (st_1 hrP1 (by omega) (by omega) ⟨by omega, by omega, by omega, by omega, t_135, t_136, t_137, t_138, t_139, t_140⟩ (by omega) (by omega) (by omega) (by omega) (by omega) t_134) | exact Or.inr (st_3 hrP1 (by omega) (by omega) ⟨by omega, by omega, by omega, by omega, t_135, t_136, t_137, t_138, t_139, t_140⟩ (by omega) (by omega) (by omega) (by omega) (by omega) t_134) | exact Or.inr (st_6 hrP1 (by omega) (by omega) ⟨by omega, by omega, by omega, by omega, t_135, t_136, t_137, t_138, t_139, t_140⟩ (by omega) (by omega) (by omega) (by omega) (by omega) t_134) | exact Or.inr (st_8 hrP1 (by omega) (by omega) ⟨by omega, by omega, by omega, by omega, t_135, t_136, t_137, t_138, t_139, t_140⟩ (by omega) (by omega) (by omega) (by omega) (by omega) t_134), by show tkR tT tN g_110 a_111; first | assumption | exact tkR_t (by omega) (by omega) (by omega) (by omega) _ | exact tkR_t (by omega) (by omega) (by omega) (by omega) hrTk, by show nst tT tN g a g_110 a_111 z_105; exact nst_y (by omega) (by omega) (nt_3 hrTk (by omega) (by omega) (by omega) (by omega) (by omega) t_137 (by omega) t_134)⟩, by rw [ht]; exact hP, va_K.moved hW.alike hK, hD⟩, hS.F ht⟩) hS.2.2 dX13_steps_147
      · refine jtab_in (v := iI 4) (off := 98) (tgt := 148) hx hb dX13_steps_50 (by rw [h_3]) (by decide) (by decide) (by decide) (by decide) ?_
        refine lv_aload_n hx hb dX13_steps_148 rfl (lv_at hl 0 rfl) ?_
        refine lv_bipush (v := iI 42) hx hb dX13_steps_149 rfl ?_
        refine lv_iconst (v := iI 4) hx hb dX13_steps_151 rfl ?_
        refine lv_bipush (v := iI 47) hx hb dX13_steps_152 rfl ?_
        refine lv_iconst (v := iI 5) hx hb dX13_steps_154 rfl ?_
        refine lv_iconst (v := iI 4) hx hb dX13_steps_155 rfl ?_
        refine lv_iconst (v := iI 5) hx hb dX13_steps_156 rfl ?_
        refine jcg_i (va_runV (As := [.int (iI 42), .int (iI 4), .int (iI 47), .int (iI 5), .int (iI 4), .int (iI 5)]) (rest := []) ⟨hx, hb, hml, hown, hts⟩ (sX13_more l dC dI _ ad ca sK sV g a tT tN 42 4 47 5 4 5 hI (by omega) (by omega) (by omega) (by omega) (by omega) (by omega) (by omega) hrP1 hrTx hrTk) (cwV 6 hts (jgoodV m_231 m_426 m_427 m_503 m_180) rfl rfl rfl (by decide +kernel) ⟨(Nat.le_of_ble_eq_true rfl), (Nat.le_of_ble_eq_true rfl)⟩) ⟨mP_blind, va_recv hK hP (ci := 13) (q0 := 0) rfl rfl, fun U hU hW => ⟨rfl, mP_of hU hW hP hK hD hXs hS (fun _ h => h) hA⟩⟩ rfl rfl hl.1 rfl (lv_room (Nat.le_of_ble_eq_true rfl)) dX13_steps_157 ⟨(Nat.le_of_ble_eq_true rfl), (Nat.le_of_ble_eq_true rfl)⟩) hD hS hA (fun r_142 u_151 H locs w_143 hP hK hD hS => ?_)
        obtain ⟨g_149, a_150⟩ := u_151
        obtain ⟨z_144, rfl, hI, hfr_152, hfr_153, h_145, h_146, h_147, h_148⟩ := w_143
        have hP : va_P (dC, dI) vwCl (mG ad ca g_149 a_150) H := hP
        have hD : va_D A (mG ad ca g_149 a_150) := hD
        have hfA : ∀ j, j ∉ ([2, 3, 4, 5, 7, 8, 9, 12, 15] : List Nat) → g_149 j = g j := fun j h => (hfr_152 j (fun q => h (by first | exact q | (simp only [List.mem_cons, List.not_mem_nil, or_false] at q ⊢ <;> omega)))).trans (hfA j h)
        have b_155 : g_149 1 = g 1 := hfA 1 (by decide)
        have b_156 := hfr_152 8 (by decide)
        have b_157 := hfr_152 9 (by decide)
        have b_158 := hfr_152 12 (by decide)
        have b_159 := hfr_152 15 (by decide)
        have haA : ∀ j, j ∉ ([2, 3, 4, 5, 6, 7, 8] : List Nat) → a_150 j = a j := fun j h => (hfr_153 j (fun q => h (by first | exact q | (simp only [List.mem_cons, List.not_mem_nil, or_false] at q ⊢ <;> omega)))).trans (haA j h)
        have h_146 : z_144 = 0 ∨ (rPn g_149 a_150 (g_149 7) ∧ mz g_149 a_150 (g_149 7) < mz g a (g 7 + 1)) := h_146
        have h_147 : tkR tT tN g_149 a_150 := h_147
        have h_148 : nst tT tN g a g_149 a_150 z_144 := h_148
        have b_160 : g_149 1 = g 1 := hfr_152 1 (by decide)
        have b_161 : g_149 8 = g 8 := hfr_152 8 (by decide)
        have b_162 : g_149 9 = g 9 := hfr_152 9 (by decide)
        have b_163 : g_149 12 = g 12 := hfr_152 12 (by decide)
        have b_164 : g_149 15 = g 15 := hfr_152 15 (by decide)
        have t_165 : a_150 3 = a 3 := (hfr_153 3 (by decide)).trans rfl
        have t_166 : a_150 4 = a 4 := (hfr_153 4 (by decide)).trans rfl
        have t_167 : a_150 5 = a 5 := (hfr_153 5 (by decide)).trans rfl
        have t_168 : a_150 6 = a 6 := (hfr_153 6 (by decide)).trans rfl
        have t_169 : a_150 7 = a 7 := (hfr_153 7 (by decide)).trans rfl
        have t_170 : a_150 8 = a 8 := (hfr_153 8 (by decide)).trans rfl
        have b_171 : 0 ≤ g_149 7 ∧ g_149 7 ≤ 1200 := hI.1 7
        rw [← hQ]
        exact W.zret (v := iI z_144) (ty := .boolean) hx hb hr (nb_bool (by omega) (by omega)) (fun t ht hW => ⟨⟨iI z_144, (g_149, a_150), rfl, ⟨z_144, rfl, hI, hfA, haA, by omega, by show z_144 = 0 ∨ (rPn g_149 a_150 (g_149 7) ∧ mz g_149 a_150 (g_149 7) < mz g a (g 7 + 1)); first | exact Or.inl rfl | exact (show z_144 = 0 ∨ (rPn g_149 a_150 (g_149 7) ∧ mz g_149 a_150 (g_149 7) < mz g a (g 7 + 1)) by assumption) | exact Or.inr (st_do hrP1 (by omega) k1 (by omega) (by omega) (by omega) (by omega) (by omega) (by omega) t_165 t_166 t_167 t_168 t_169 t_170 (by omega) (by omega) (by omega) (by omega) rfl) | exact Or.inr (st_sg hrP1 (by omega) k1 (by omega) ⟨by omega, by omega, by omega, by omega, t_165, t_166, t_167, t_168, t_169, t_170⟩ (by omega) (by omega) (by omega) ⟨by omega, by omega, by omega⟩ rfl) | exact Or.inr (st_12 hrP1 (by omega) (by omega) ⟨by omega, by omega, by omega, by omega, t_165, t_166, t_167, t_168, t_169, t_170⟩ (by omega) (by omega) (by omega) (by omega) rfl) | exact Or.inr (st_13 hrP1 (by omega) (by omega) (by omega) (by omega) (by omega) (by omega) t_165 t_166 t_167 t_168 t_169 t_170 (by omega) (by omega) (by omega) (by omega) rfl) | exact Or.inr (st_1 hrP1 (by omega) (by omega) ⟨by omega, by omega, by omega, by omega, t_165, t_166, t_167, t_168, t_169, t_170⟩ (by omega) (by omega) (by omega) (by omega) (by omega) rfl) | exact Or.inr (st_3 hrP1 (by omega) (by omega) ⟨by omega, by omega, by omega, by omega, t_165, t_166, t_167, t_168, t_169, t_170⟩ (by omega) (by omega) (by omega) (by omega) (by omega) rfl) | exact Or.inr (st_6 hrP1 (by omega) (by omega) ⟨by omega, by omega, by omega, by omega, t_165, t_166, t_167, t_168, t_169, t_170⟩ (by omega) (by omega) (by omega) (by omega) (by omega) rfl) | exact Or.inr (st_8 hrP1 (by omega) (by omega) ⟨by omega, by omega, by omega, by omega, t_165, t_166, t_167, t_168, t_169, t_170⟩ (by omega) (by omega) (by omega) (by omega) (by omega) rfl), by show tkR tT tN g_149 a_150; first | assumption | exact tkR_t (by omega) (by omega) (by omega) (by omega) _ | exact tkR_t (by omega) (by omega) (by omega) (by omega) hrTk, by show nst tT tN g a g_149 a_150 z_144; exact (show nst tT tN g a g_149 a_150 z_144 by assumption)⟩, by rw [ht]; exact hP, va_K.moved hW.alike hK, hD⟩, hS.F ht⟩) hS.2.2 dX13_steps_160
      · refine jtab_in (v := iI 5) (off := 111) (tgt := 161) hx hb dX13_steps_50 (by rw [h_3]) (by decide) (by decide) (by decide) (by decide) ?_
        refine lv_aload_n hx hb dX13_steps_161 rfl (lv_at hl 0 rfl) ?_
        refine jcg_i (va_runV (As := []) (rest := []) ⟨hx, hb, hml, hown, hts⟩ (sX13_factor l dC dI _ ad ca sK sV g a tT tN  hI (by omega) hrP1 hrTx hrTk) (cwV 0 hts (jgoodV m_232 m_334 m_335 m_503 m_132) rfl rfl rfl (by decide +kernel) ⟨(Nat.le_of_ble_eq_true rfl), (Nat.le_of_ble_eq_true rfl)⟩) ⟨mP_blind, va_recv hK hP (ci := 13) (q0 := 0) rfl rfl, fun U hU hW => ⟨rfl, mP_of hU hW hP hK hD hXs hS (fun _ h => h) hA⟩⟩ rfl rfl hl.1 rfl (lv_room (Nat.le_of_ble_eq_true rfl)) dX13_steps_162 ⟨(Nat.le_of_ble_eq_true rfl), (Nat.le_of_ble_eq_true rfl)⟩) hD hS hA (fun r_172 u_181 H locs w_173 hP hK hD hS => ?_)
        obtain ⟨g_179, a_180⟩ := u_181
        obtain ⟨z_174, rfl, hI, hfr_182, hfr_183, h_175, h_176, h_177, h_178⟩ := w_173
        have hP : va_P (dC, dI) vwCl (mG ad ca g_179 a_180) H := hP
        have hD : va_D A (mG ad ca g_179 a_180) := hD
        have hfA : ∀ j, j ∉ ([2, 3, 4, 5, 7, 8, 9, 12, 15] : List Nat) → g_179 j = g j := fun j h => (hfr_182 j (fun q => h (by first | exact q | (simp only [List.mem_cons, List.not_mem_nil, or_false] at q ⊢ <;> omega)))).trans (hfA j h)
        have b_185 : g_179 1 = g 1 := hfA 1 (by decide)
        have b_186 := hfr_182 9 (by decide)
        have b_187 := hfr_182 15 (by decide)
        have haA : ∀ j, j ∉ ([2, 3, 4, 5, 6, 7, 8] : List Nat) → a_180 j = a j := fun j h => (hfr_183 j (fun q => h (by first | exact q | (simp only [List.mem_cons, List.not_mem_nil, or_false] at q ⊢ <;> omega)))).trans (haA j h)
        have h_176 : z_174 = 0 ∨ (rPn g_179 a_180 (g_179 7) ∧ mz g_179 a_180 (g_179 7) < mz g a (g 7 + 1)) := h_176
        have h_177 : tkR tT tN g_179 a_180 := h_177
        have h_178 : nst tT tN g a g_179 a_180 z_174 := h_178
        have b_188 : g_179 1 = g 1 := hfr_182 1 (by decide)
        have b_189 : g_179 9 = g 9 := hfr_182 9 (by decide)
        have b_190 : g_179 15 = g 15 := hfr_182 15 (by decide)
        have t_191 : a_180 5 = a 5 := (hfr_183 5 (by decide)).trans rfl
        have t_192 : a_180 6 = a 6 := (hfr_183 6 (by decide)).trans rfl
        have t_193 : a_180 7 = a 7 := (hfr_183 7 (by decide)).trans rfl
        have t_194 : a_180 8 = a 8 := (hfr_183 8 (by decide)).trans rfl
        have b_195 : 0 ≤ g_179 7 ∧ g_179 7 ≤ 1200 := hI.1 7
        rw [← hQ]
        exact W.zret (v := iI z_174) (ty := .boolean) hx hb hr (nb_bool (by omega) (by omega)) (fun t ht hW => ⟨⟨iI z_174, (g_179, a_180), rfl, ⟨z_174, rfl, hI, hfA, haA, by omega, by show z_174 = 0 ∨ (rPn g_179 a_180 (g_179 7) ∧ mz g_179 a_180 (g_179 7) < mz g a (g 7 + 1)); first | exact Or.inl rfl | exact (show z_174 = 0 ∨ (rPn g_179 a_180 (g_179 7) ∧ mz g_179 a_180 (g_179 7) < mz g a (g 7 + 1)) by assumption) | exact Or.inr (st_do hrP1 (by omega) k1 (by omega) (by omega) (by omega) (by omega) (by omega) (by omega) rfl rfl t_191 t_192 t_193 t_194 (by omega) (by omega) (by omega) (by omega) rfl) | exact Or.inr (st_sg hrP1 (by omega) k1 (by omega) ⟨by omega, by omega, by omega, by omega, rfl, rfl, t_191, t_192, t_193, t_194⟩ (by omega) (by omega) (by omega) ⟨by omega, by omega, by omega⟩ rfl) | exact Or.inr (st_12 hrP1 (by omega) (by omega) ⟨by omega, by omega, by omega, by omega, rfl, rfl, t_191, t_192, t_193, t_194⟩ (by omega) (by omega) (by omega) (by omega) rfl) | exact Or.inr (st_13 hrP1 (by omega) (by omega) (by omega) (by omega) (by omega) (by omega) rfl rfl t_191 t_192 t_193 t_194 (by omega) (by omega) (by omega) (by omega) rfl) | exact Or.inr (st_1 hrP1 (by omega) (by omega) ⟨by omega, by omega, by omega, by omega, rfl, rfl, t_191, t_192, t_193, t_194⟩ (by omega) (by omega) (by omega) (by omega) (by omega) rfl) | exact Or.inr (st_3 hrP1 (by omega) (by omega) ⟨by omega, by omega, by omega, by omega, rfl, rfl, t_191, t_192, t_193, t_194⟩ (by omega) (by omega) (by omega) (by omega) (by omega) rfl) | exact Or.inr (st_6 hrP1 (by omega) (by omega) ⟨by omega, by omega, by omega, by omega, rfl, rfl, t_191, t_192, t_193, t_194⟩ (by omega) (by omega) (by omega) (by omega) (by omega) rfl) | exact Or.inr (st_8 hrP1 (by omega) (by omega) ⟨by omega, by omega, by omega, by omega, rfl, rfl, t_191, t_192, t_193, t_194⟩ (by omega) (by omega) (by omega) (by omega) (by omega) rfl), by show tkR tT tN g_179 a_180; first | assumption | exact tkR_t (by omega) (by omega) (by omega) (by omega) _ | exact tkR_t (by omega) (by omega) (by omega) (by omega) hrTk, by show nst tT tN g a g_179 a_180 z_174; exact (show nst tT tN g a g_179 a_180 z_174 by assumption)⟩, by rw [ht]; exact hP, va_K.moved hW.alike hK, hD⟩, hS.F ht⟩) hS.2.2 dX13_steps_165
      · refine jtab_in (v := iI 6) (off := 116) (tgt := 166) hx hb dX13_steps_50 (by rw [h_3]) (by decide) (by decide) (by decide) (by decide) ?_
        refine lv_aload_n hx hb dX13_steps_166 rfl (lv_at hl 0 rfl) ?_
        refine lv_bipush (v := iI 7) hx hb dX13_steps_167 rfl ?_
        refine lv_bipush (v := iI 8) hx hb dX13_steps_169 rfl ?_
        refine jcg_i (va_runV (As := [.int (iI 7), .int (iI 8)]) (rest := []) ⟨hx, hb, hml, hown, hts⟩ (sX13_both l dC dI _ ad ca g a 7 8 hI (by omega) (by omega) (by omega)) (cwV 2 hts (jgoodV m_230 m_295 m_296 m_503 m_112) rfl rfl rfl (by decide +kernel) ⟨(Nat.le_of_ble_eq_true rfl), (Nat.le_of_ble_eq_true rfl)⟩) ⟨jw_blind, va_recv hK hP (ci := 13) (q0 := 0) rfl rfl, fun U hU hW => ⟨rfl, jw_of hU hW hP hK hD⟩⟩ rfl rfl hl.1 rfl (lv_room (Nat.le_of_ble_eq_true rfl)) dX13_steps_171 ⟨(Nat.le_of_ble_eq_true rfl), (Nat.le_of_ble_eq_true rfl)⟩) hD hS hA (fun r_196 u_205 H locs w_197 hP hK hD hS => ?_)
        obtain ⟨g_203, a_204⟩ := u_205
        obtain ⟨z_198, rfl, hI, hfr_206, hfr_207, h_199, h_200, h_201, h_202⟩ := w_197
        have hP : va_P (dC, dI) vwCl (mG ad ca g_203 a_204) H := hP
        have hD : va_D A (mG ad ca g_203 a_204) := hD
        have hfA : ∀ j, j ∉ ([2, 3, 4, 5, 7, 8, 9, 12, 15] : List Nat) → g_203 j = g j := fun j h => (hfr_206 j (fun q => h (by first | exact q | (simp only [List.mem_cons, List.not_mem_nil, or_false] at q ⊢ <;> omega)))).trans (hfA j h)
        have b_209 : g_203 1 = g 1 := hfA 1 (by decide)
        have b_210 := hfr_206 2 (by decide)
        have b_211 := hfr_206 3 (by decide)
        have b_212 := hfr_206 4 (by decide)
        have b_213 := hfr_206 5 (by decide)
        have b_214 := hfr_206 8 (by decide)
        have b_215 := hfr_206 9 (by decide)
        have b_216 := hfr_206 12 (by decide)
        have b_217 := hfr_206 15 (by decide)
        have haA : ∀ j, j ∉ ([2, 3, 4, 5, 6, 7, 8] : List Nat) → a_204 j = a j := fun j h => (hfr_207 j (fun q => h (by first | exact q | (simp only [List.mem_cons, List.not_mem_nil, or_false] at q ⊢ <;> omega)))).trans (haA j h)
        have h_200 : g_203 7 = g 7 + 2 := h_200
        have h_201 : a_204 2 = up (up (a 2) (g 7) 7) (g 7 + 1) 8 := h_201
        have b_218 : g_203 1 = g 1 := hfr_206 1 (by decide)
        have b_219 : g_203 2 = g 2 := hfr_206 2 (by decide)
        have b_220 : g_203 3 = g 3 := hfr_206 3 (by decide)
        have b_221 : g_203 4 = g 4 := hfr_206 4 (by decide)
        have b_222 : g_203 8 = g 8 := hfr_206 8 (by decide)
        have b_223 : g_203 9 = g 9 := hfr_206 9 (by decide)
        have b_224 : g_203 12 = g 12 := hfr_206 12 (by decide)
        have b_225 : g_203 15 = g 15 := hfr_206 15 (by decide)
        have b_226 : g_203 5 = g 5 := hfr_206 5 (by decide)
        have t_227 : a_204 2 = up (up (a 2) (g 7) 7) (g 7 + 1) 8 := h_201.trans (up_c (up_c rfl (by omega) (by omega)) (by omega) (by omega))
        have t_228 : a_204 3 = a 3 := (hfr_207 3 (by decide)).trans rfl
        have t_229 : a_204 4 = a 4 := (hfr_207 4 (by decide)).trans rfl
        have t_230 : a_204 5 = a 5 := (hfr_207 5 (by decide)).trans rfl
        have t_231 : a_204 6 = a 6 := (hfr_207 6 (by decide)).trans rfl
        have t_232 : a_204 7 = a 7 := (hfr_207 7 (by decide)).trans rfl
        have t_233 : a_204 8 = a 8 := (hfr_207 8 (by decide)).trans rfl
        have b_234 : 0 ≤ g_203 7 ∧ g_203 7 ≤ 1200 := hI.1 7
        rw [← hQ]
        exact W.zret (v := iI z_198) (ty := .boolean) hx hb hr (nb_bool (by omega) (by omega)) (fun t ht hW => ⟨⟨iI z_198, (g_203, a_204), rfl, ⟨z_198, rfl, hI, hfA, haA, by omega, by show z_198 = 0 ∨ (rPn g_203 a_204 (g_203 7) ∧ mz g_203 a_204 (g_203 7) < mz g a (g 7 + 1)); first | exact Or.inl rfl | exact (show z_198 = 0 ∨ (rPn g_203 a_204 (g_203 7) ∧ mz g_203 a_204 (g_203 7) < mz g a (g 7 + 1)) by assumption) | exact Or.inr (st_do hrP1 (by omega) k1 (by omega) (by omega) (by omega) (by omega) (by omega) (by omega) t_228 t_229 t_230 t_231 t_232 t_233 (by omega) (by omega) (by omega) (by omega) t_227) | exact Or.inr (st_sg hrP1 (by omega) k1 (by omega) ⟨by omega, by omega, by omega, by omega, t_228, t_229, t_230, t_231, t_232, t_233⟩ (by omega) (by omega) (by omega) ⟨by omega, by omega, by omega⟩ t_227) | exact Or.inr (st_12 hrP1 (by omega) (by omega) ⟨by omega, by omega, by omega, by omega, t_228, t_229, t_230, t_231, t_232, t_233⟩ (by omega) (by omega) (by omega) (by omega) t_227) | exact Or.inr (st_13 hrP1 (by omega) (by omega) (by omega) (by omega) (by omega) (by omega) t_228 t_229 t_230 t_231 t_232 t_233 (by omega) (by omega) (by omega) (by omega) t_227) | exact Or.inr (st_1 hrP1 (by omega) (by omega) ⟨by omega, by omega, by omega, by omega, t_228, t_229, t_230, t_231, t_232, t_233⟩ (by omega) (by omega) (by omega) (by omega) (by omega) t_227) | exact Or.inr (st_3 hrP1 (by omega) (by omega) ⟨by omega, by omega, by omega, by omega, t_228, t_229, t_230, t_231, t_232, t_233⟩ (by omega) (by omega) (by omega) (by omega) (by omega) t_227) | exact Or.inr (st_6 hrP1 (by omega) (by omega) ⟨by omega, by omega, by omega, by omega, t_228, t_229, t_230, t_231, t_232, t_233⟩ (by omega) (by omega) (by omega) (by omega) (by omega) t_227) | exact Or.inr (st_8 hrP1 (by omega) (by omega) ⟨by omega, by omega, by omega, by omega, t_228, t_229, t_230, t_231, t_232, t_233⟩ (by omega) (by omega) (by omega) (by omega) (by omega) t_227), by show tkR tT tN g_203 a_204; first | assumption | exact tkR_t (by omega) (by omega) (by omega) (by omega) _ | exact tkR_t (by omega) (by omega) (by omega) (by omega) hrTk, by show nst tT tN g a g_203 a_204 z_198; exact nst_y (by omega) (by omega) (nt_6 hrTk (by omega) (by omega) (by omega) (by omega) (by omega) t_230 (by omega) t_227)⟩, by rw [ht]; exact hP, va_K.moved hW.alike hK, hD⟩, hS.F ht⟩) hS.2.2 dX13_steps_174
      · refine jtab_in (v := iI 7) (off := 125) (tgt := 175) hx hb dX13_steps_50 (by rw [h_3]) (by decide) (by decide) (by decide) (by decide) ?_
        refine lv_aload_n hx hb dX13_steps_175 rfl (lv_at hl 0 rfl) ?_
        refine lv_bipush (v := iI 25) hx hb dX13_steps_176 rfl ?_
        refine lv_bipush (v := iI 10) hx hb dX13_steps_178 rfl ?_
        refine lv_bipush (v := iI 7) hx hb dX13_steps_180 rfl ?_
        refine lv_bipush (v := iI 8) hx hb dX13_steps_182 rfl ?_
        refine jcg_i (va_runV (As := [.int (iI 25), .int (iI 10), .int (iI 7), .int (iI 8)]) (rest := []) ⟨hx, hb, hml, hown, hts⟩ (sX13_moreWords l dC dI _ ad ca sK sV g a tT tN 25 10 7 8 hI (by omega) (by omega) (by omega) (by omega) (by omega) hrP1 hrTx hrTk) (cwV 4 hts (jgoodV m_233 m_428 m_429 m_503 m_181) rfl rfl rfl (by decide +kernel) ⟨(Nat.le_of_ble_eq_true rfl), (Nat.le_of_ble_eq_true rfl)⟩) ⟨mP_blind, va_recv hK hP (ci := 13) (q0 := 0) rfl rfl, fun U hU hW => ⟨rfl, mP_of hU hW hP hK hD hXs hS (fun _ h => h) hA⟩⟩ rfl rfl hl.1 rfl (lv_room (Nat.le_of_ble_eq_true rfl)) dX13_steps_184 ⟨(Nat.le_of_ble_eq_true rfl), (Nat.le_of_ble_eq_true rfl)⟩) hD hS hA (fun r_235 u_244 H locs w_236 hP hK hD hS => ?_)
        obtain ⟨g_242, a_243⟩ := u_244
        obtain ⟨z_237, rfl, hI, hfr_245, hfr_246, h_238, h_239, h_240, h_241⟩ := w_236
        have hP : va_P (dC, dI) vwCl (mG ad ca g_242 a_243) H := hP
        have hD : va_D A (mG ad ca g_242 a_243) := hD
        have hfA : ∀ j, j ∉ ([2, 3, 4, 5, 7, 8, 9, 12, 15] : List Nat) → g_242 j = g j := fun j h => (hfr_245 j (fun q => h (by first | exact q | (simp only [List.mem_cons, List.not_mem_nil, or_false] at q ⊢ <;> omega)))).trans (hfA j h)
        have b_248 : g_242 1 = g 1 := hfA 1 (by decide)
        have b_249 := hfr_245 8 (by decide)
        have b_250 := hfr_245 9 (by decide)
        have b_251 := hfr_245 12 (by decide)
        have b_252 := hfr_245 15 (by decide)
        have haA : ∀ j, j ∉ ([2, 3, 4, 5, 6, 7, 8] : List Nat) → a_243 j = a j := fun j h => (hfr_246 j (fun q => h (by first | exact q | (simp only [List.mem_cons, List.not_mem_nil, or_false] at q ⊢ <;> omega)))).trans (haA j h)
        have h_239 : z_237 = 0 ∨ (rPn g_242 a_243 (g_242 7) ∧ mz g_242 a_243 (g_242 7) < mz g a (g 7 + 1)) := h_239
        have h_240 : tkR tT tN g_242 a_243 := h_240
        have h_241 : nst tT tN g a g_242 a_243 z_237 := h_241
        have b_253 : g_242 1 = g 1 := hfr_245 1 (by decide)
        have b_254 : g_242 8 = g 8 := hfr_245 8 (by decide)
        have b_255 : g_242 9 = g 9 := hfr_245 9 (by decide)
        have b_256 : g_242 12 = g 12 := hfr_245 12 (by decide)
        have b_257 : g_242 15 = g 15 := hfr_245 15 (by decide)
        have t_258 : a_243 3 = a 3 := (hfr_246 3 (by decide)).trans rfl
        have t_259 : a_243 4 = a 4 := (hfr_246 4 (by decide)).trans rfl
        have t_260 : a_243 5 = a 5 := (hfr_246 5 (by decide)).trans rfl
        have t_261 : a_243 6 = a 6 := (hfr_246 6 (by decide)).trans rfl
        have t_262 : a_243 7 = a 7 := (hfr_246 7 (by decide)).trans rfl
        have t_263 : a_243 8 = a 8 := (hfr_246 8 (by decide)).trans rfl
        have b_264 : 0 ≤ g_242 7 ∧ g_242 7 ≤ 1200 := hI.1 7
        rw [← hQ]
        exact W.zret (v := iI z_237) (ty := .boolean) hx hb hr (nb_bool (by omega) (by omega)) (fun t ht hW => ⟨⟨iI z_237, (g_242, a_243), rfl, ⟨z_237, rfl, hI, hfA, haA, by omega, by show z_237 = 0 ∨ (rPn g_242 a_243 (g_242 7) ∧ mz g_242 a_243 (g_242 7) < mz g a (g 7 + 1)); first | exact Or.inl rfl | exact (show z_237 = 0 ∨ (rPn g_242 a_243 (g_242 7) ∧ mz g_242 a_243 (g_242 7) < mz g a (g 7 + 1)) by assumption) | exact Or.inr (st_do hrP1 (by omega) k1 (by omega) (by omega) (by omega) (by omega) (by omega) (by omega) t_258 t_259 t_260 t_261 t_262 t_263 (by omega) (by omega) (by omega) (by omega) rfl) | exact Or.inr (st_sg hrP1 (by omega) k1 (by omega) ⟨by omega, by omega, by omega, by omega, t_258, t_259, t_260, t_261, t_262, t_263⟩ (by omega) (by omega) (by omega) ⟨by omega, by omega, by omega⟩ rfl) | exact Or.inr (st_12 hrP1 (by omega) (by omega) ⟨by omega, by omega, by omega, by omega, t_258, t_259, t_260, t_261, t_262, t_263⟩ (by omega) (by omega) (by omega) (by omega) rfl) | exact Or.inr (st_13 hrP1 (by omega) (by omega) (by omega) (by omega) (by omega) (by omega) t_258 t_259 t_260 t_261 t_262 t_263 (by omega) (by omega) (by omega) (by omega) rfl) | exact Or.inr (st_1 hrP1 (by omega) (by omega) ⟨by omega, by omega, by omega, by omega, t_258, t_259, t_260, t_261, t_262, t_263⟩ (by omega) (by omega) (by omega) (by omega) (by omega) rfl) | exact Or.inr (st_3 hrP1 (by omega) (by omega) ⟨by omega, by omega, by omega, by omega, t_258, t_259, t_260, t_261, t_262, t_263⟩ (by omega) (by omega) (by omega) (by omega) (by omega) rfl) | exact Or.inr (st_6 hrP1 (by omega) (by omega) ⟨by omega, by omega, by omega, by omega, t_258, t_259, t_260, t_261, t_262, t_263⟩ (by omega) (by omega) (by omega) (by omega) (by omega) rfl) | exact Or.inr (st_8 hrP1 (by omega) (by omega) ⟨by omega, by omega, by omega, by omega, t_258, t_259, t_260, t_261, t_262, t_263⟩ (by omega) (by omega) (by omega) (by omega) (by omega) rfl), by show tkR tT tN g_242 a_243; first | assumption | exact tkR_t (by omega) (by omega) (by omega) (by omega) _ | exact tkR_t (by omega) (by omega) (by omega) (by omega) hrTk, by show nst tT tN g a g_242 a_243 z_237; exact (show nst tT tN g a g_242 a_243 z_237 by assumption)⟩, by rw [ht]; exact hP, va_K.moved hW.alike hK, hD⟩, hS.F ht⟩) hS.2.2 dX13_steps_187
      · refine jtab_in (v := iI 8) (off := 138) (tgt := 188) hx hb dX13_steps_50 (by rw [h_3]) (by decide) (by decide) (by decide) (by decide) ?_
        refine lv_aload_n hx hb dX13_steps_188 rfl (lv_at hl 0 rfl) ?_
        refine lv_bipush (v := iI 9) hx hb dX13_steps_189 rfl ?_
        refine lv_bipush (v := iI 10) hx hb dX13_steps_191 rfl ?_
        refine jcg_i (va_runV (As := [.int (iI 9), .int (iI 10)]) (rest := []) ⟨hx, hb, hml, hown, hts⟩ (sX13_both l dC dI _ ad ca g a 9 10 hI (by omega) (by omega) (by omega)) (cwV 2 hts (jgoodV m_230 m_295 m_296 m_503 m_112) rfl rfl rfl (by decide +kernel) ⟨(Nat.le_of_ble_eq_true rfl), (Nat.le_of_ble_eq_true rfl)⟩) ⟨jw_blind, va_recv hK hP (ci := 13) (q0 := 0) rfl rfl, fun U hU hW => ⟨rfl, jw_of hU hW hP hK hD⟩⟩ rfl rfl hl.1 rfl (lv_room (Nat.le_of_ble_eq_true rfl)) dX13_steps_193 ⟨(Nat.le_of_ble_eq_true rfl), (Nat.le_of_ble_eq_true rfl)⟩) hD hS hA (fun r_265 u_274 H locs w_266 hP hK hD hS => ?_)
        obtain ⟨g_272, a_273⟩ := u_274
        obtain ⟨z_267, rfl, hI, hfr_275, hfr_276, h_268, h_269, h_270, h_271⟩ := w_266
        have hP : va_P (dC, dI) vwCl (mG ad ca g_272 a_273) H := hP
        have hD : va_D A (mG ad ca g_272 a_273) := hD
        have hfA : ∀ j, j ∉ ([2, 3, 4, 5, 7, 8, 9, 12, 15] : List Nat) → g_272 j = g j := fun j h => (hfr_275 j (fun q => h (by first | exact q | (simp only [List.mem_cons, List.not_mem_nil, or_false] at q ⊢ <;> omega)))).trans (hfA j h)
        have b_278 : g_272 1 = g 1 := hfA 1 (by decide)
        have b_279 := hfr_275 2 (by decide)
        have b_280 := hfr_275 3 (by decide)
        have b_281 := hfr_275 4 (by decide)
        have b_282 := hfr_275 5 (by decide)
        have b_283 := hfr_275 8 (by decide)
        have b_284 := hfr_275 9 (by decide)
        have b_285 := hfr_275 12 (by decide)
        have b_286 := hfr_275 15 (by decide)
        have haA : ∀ j, j ∉ ([2, 3, 4, 5, 6, 7, 8] : List Nat) → a_273 j = a j := fun j h => (hfr_276 j (fun q => h (by first | exact q | (simp only [List.mem_cons, List.not_mem_nil, or_false] at q ⊢ <;> omega)))).trans (haA j h)
        have h_269 : g_272 7 = g 7 + 2 := h_269
        have h_270 : a_273 2 = up (up (a 2) (g 7) 9) (g 7 + 1) 10 := h_270
        have b_287 : g_272 1 = g 1 := hfr_275 1 (by decide)
        have b_288 : g_272 2 = g 2 := hfr_275 2 (by decide)
        have b_289 : g_272 3 = g 3 := hfr_275 3 (by decide)
        have b_290 : g_272 4 = g 4 := hfr_275 4 (by decide)
        have b_291 : g_272 8 = g 8 := hfr_275 8 (by decide)
        have b_292 : g_272 9 = g 9 := hfr_275 9 (by decide)
        have b_293 : g_272 12 = g 12 := hfr_275 12 (by decide)
        have b_294 : g_272 15 = g 15 := hfr_275 15 (by decide)
        have b_295 : g_272 5 = g 5 := hfr_275 5 (by decide)
        have t_296 : a_273 2 = up (up (a 2) (g 7) 9) (g 7 + 1) 10 := h_270.trans (up_c (up_c rfl (by omega) (by omega)) (by omega) (by omega))
        have t_297 : a_273 3 = a 3 := (hfr_276 3 (by decide)).trans rfl
        have t_298 : a_273 4 = a 4 := (hfr_276 4 (by decide)).trans rfl
        have t_299 : a_273 5 = a 5 := (hfr_276 5 (by decide)).trans rfl
        have t_300 : a_273 6 = a 6 := (hfr_276 6 (by decide)).trans rfl
        have t_301 : a_273 7 = a 7 := (hfr_276 7 (by decide)).trans rfl
        have t_302 : a_273 8 = a 8 := (hfr_276 8 (by decide)).trans rfl
        have b_303 : 0 ≤ g_272 7 ∧ g_272 7 ≤ 1200 := hI.1 7
        rw [← hQ]
        exact W.zret (v := iI z_267) (ty := .boolean) hx hb hr (nb_bool (by omega) (by omega)) (fun t ht hW => ⟨⟨iI z_267, (g_272, a_273), rfl, ⟨z_267, rfl, hI, hfA, haA, by omega, by show z_267 = 0 ∨ (rPn g_272 a_273 (g_272 7) ∧ mz g_272 a_273 (g_272 7) < mz g a (g 7 + 1)); first | exact Or.inl rfl | exact (show z_267 = 0 ∨ (rPn g_272 a_273 (g_272 7) ∧ mz g_272 a_273 (g_272 7) < mz g a (g 7 + 1)) by assumption) | exact Or.inr (st_do hrP1 (by omega) k1 (by omega) (by omega) (by omega) (by omega) (by omega) (by omega) t_297 t_298 t_299 t_300 t_301 t_302 (by omega) (by omega) (by omega) (by omega) t_296) | exact Or.inr (st_sg hrP1 (by omega) k1 (by omega) ⟨by omega, by omega, by omega, by omega, t_297, t_298, t_299, t_300, t_301, t_302⟩ (by omega) (by omega) (by omega) ⟨by omega, by omega, by omega⟩ t_296) | exact Or.inr (st_12 hrP1 (by omega) (by omega) ⟨by omega, by omega, by omega, by omega, t_297, t_298, t_299, t_300, t_301, t_302⟩ (by omega) (by omega) (by omega) (by omega) t_296) | exact Or.inr (st_13 hrP1 (by omega) (by omega) (by omega) (by omega) (by omega) (by omega) t_297 t_298 t_299 t_300 t_301 t_302 (by omega) (by omega) (by omega) (by omega) t_296) | exact Or.inr (st_1 hrP1 (by omega) (by omega) ⟨by omega, by omega, by omega, by omega, t_297, t_298, t_299, t_300, t_301, t_302⟩ (by omega) (by omega) (by omega) (by omega) (by omega) t_296) | exact Or.inr (st_3 hrP1 (by omega) (by omega) ⟨by omega, by omega, by omega, by omega, t_297, t_298, t_299, t_300, t_301, t_302⟩ (by omega) (by omega) (by omega) (by omega) (by omega) t_296) | exact Or.inr (st_6 hrP1 (by omega) (by omega) ⟨by omega, by omega, by omega, by omega, t_297, t_298, t_299, t_300, t_301, t_302⟩ (by omega) (by omega) (by omega) (by omega) (by omega) t_296) | exact Or.inr (st_8 hrP1 (by omega) (by omega) ⟨by omega, by omega, by omega, by omega, t_297, t_298, t_299, t_300, t_301, t_302⟩ (by omega) (by omega) (by omega) (by omega) (by omega) t_296), by show tkR tT tN g_272 a_273; first | assumption | exact tkR_t (by omega) (by omega) (by omega) (by omega) _ | exact tkR_t (by omega) (by omega) (by omega) (by omega) hrTk, by show nst tT tN g a g_272 a_273 z_267; exact nst_y (by omega) (by omega) (nt_8 hrTk (by omega) (by omega) (by omega) (by omega) (by omega) t_299 (by omega) t_296)⟩, by rw [ht]; exact hP, va_K.moved hW.alike hK, hD⟩, hS.F ht⟩) hS.2.2 dX13_steps_196
      · refine jtab_in (v := iI 9) (off := 147) (tgt := 197) hx hb dX13_steps_50 (by rw [h_3]) (by decide) (by decide) (by decide) (by decide) ?_
        refine lv_aload_n hx hb dX13_steps_197 rfl (lv_at hl 0 rfl) ?_
        refine lv_bipush (v := iI 26) hx hb dX13_steps_198 rfl ?_
        refine lv_bipush (v := iI 9) hx hb dX13_steps_200 rfl ?_
        refine lv_bipush (v := iI 9) hx hb dX13_steps_202 rfl ?_
        refine lv_bipush (v := iI 10) hx hb dX13_steps_204 rfl ?_
        refine jcg_i (va_runV (As := [.int (iI 26), .int (iI 9), .int (iI 9), .int (iI 10)]) (rest := []) ⟨hx, hb, hml, hown, hts⟩ (sX13_moreWords l dC dI _ ad ca sK sV g a tT tN 26 9 9 10 hI (by omega) (by omega) (by omega) (by omega) (by omega) hrP1 hrTx hrTk) (cwV 4 hts (jgoodV m_233 m_428 m_429 m_503 m_181) rfl rfl rfl (by decide +kernel) ⟨(Nat.le_of_ble_eq_true rfl), (Nat.le_of_ble_eq_true rfl)⟩) ⟨mP_blind, va_recv hK hP (ci := 13) (q0 := 0) rfl rfl, fun U hU hW => ⟨rfl, mP_of hU hW hP hK hD hXs hS (fun _ h => h) hA⟩⟩ rfl rfl hl.1 rfl (lv_room (Nat.le_of_ble_eq_true rfl)) dX13_steps_206 ⟨(Nat.le_of_ble_eq_true rfl), (Nat.le_of_ble_eq_true rfl)⟩) hD hS hA (fun r_304 u_313 H locs w_305 hP hK hD hS => ?_)
        obtain ⟨g_311, a_312⟩ := u_313
        obtain ⟨z_306, rfl, hI, hfr_314, hfr_315, h_307, h_308, h_309, h_310⟩ := w_305
        have hP : va_P (dC, dI) vwCl (mG ad ca g_311 a_312) H := hP
        have hD : va_D A (mG ad ca g_311 a_312) := hD
        have hfA : ∀ j, j ∉ ([2, 3, 4, 5, 7, 8, 9, 12, 15] : List Nat) → g_311 j = g j := fun j h => (hfr_314 j (fun q => h (by first | exact q | (simp only [List.mem_cons, List.not_mem_nil, or_false] at q ⊢ <;> omega)))).trans (hfA j h)
        have b_317 : g_311 1 = g 1 := hfA 1 (by decide)
        have b_318 := hfr_314 8 (by decide)
        have b_319 := hfr_314 9 (by decide)
        have b_320 := hfr_314 12 (by decide)
        have b_321 := hfr_314 15 (by decide)
        have haA : ∀ j, j ∉ ([2, 3, 4, 5, 6, 7, 8] : List Nat) → a_312 j = a j := fun j h => (hfr_315 j (fun q => h (by first | exact q | (simp only [List.mem_cons, List.not_mem_nil, or_false] at q ⊢ <;> omega)))).trans (haA j h)
        have h_308 : z_306 = 0 ∨ (rPn g_311 a_312 (g_311 7) ∧ mz g_311 a_312 (g_311 7) < mz g a (g 7 + 1)) := h_308
        have h_309 : tkR tT tN g_311 a_312 := h_309
        have h_310 : nst tT tN g a g_311 a_312 z_306 := h_310
        have b_322 : g_311 1 = g 1 := hfr_314 1 (by decide)
        have b_323 : g_311 8 = g 8 := hfr_314 8 (by decide)
        have b_324 : g_311 9 = g 9 := hfr_314 9 (by decide)
        have b_325 : g_311 12 = g 12 := hfr_314 12 (by decide)
        have b_326 : g_311 15 = g 15 := hfr_314 15 (by decide)
        have t_327 : a_312 3 = a 3 := (hfr_315 3 (by decide)).trans rfl
        have t_328 : a_312 4 = a 4 := (hfr_315 4 (by decide)).trans rfl
        have t_329 : a_312 5 = a 5 := (hfr_315 5 (by decide)).trans rfl
        have t_330 : a_312 6 = a 6 := (hfr_315 6 (by decide)).trans rfl
        have t_331 : a_312 7 = a 7 := (hfr_315 7 (by decide)).trans rfl
        have t_332 : a_312 8 = a 8 := (hfr_315 8 (by decide)).trans rfl
        have b_333 : 0 ≤ g_311 7 ∧ g_311 7 ≤ 1200 := hI.1 7
        rw [← hQ]
        exact W.zret (v := iI z_306) (ty := .boolean) hx hb hr (nb_bool (by omega) (by omega)) (fun t ht hW => ⟨⟨iI z_306, (g_311, a_312), rfl, ⟨z_306, rfl, hI, hfA, haA, by omega, by show z_306 = 0 ∨ (rPn g_311 a_312 (g_311 7) ∧ mz g_311 a_312 (g_311 7) < mz g a (g 7 + 1)); first | exact Or.inl rfl | exact (show z_306 = 0 ∨ (rPn g_311 a_312 (g_311 7) ∧ mz g_311 a_312 (g_311 7) < mz g a (g 7 + 1)) by assumption) | exact Or.inr (st_do hrP1 (by omega) k1 (by omega) (by omega) (by omega) (by omega) (by omega) (by omega) t_327 t_328 t_329 t_330 t_331 t_332 (by omega) (by omega) (by omega) (by omega) rfl) | exact Or.inr (st_sg hrP1 (by omega) k1 (by omega) ⟨by omega, by omega, by omega, by omega, t_327, t_328, t_329, t_330, t_331, t_332⟩ (by omega) (by omega) (by omega) ⟨by omega, by omega, by omega⟩ rfl) | exact Or.inr (st_12 hrP1 (by omega) (by omega) ⟨by omega, by omega, by omega, by omega, t_327, t_328, t_329, t_330, t_331, t_332⟩ (by omega) (by omega) (by omega) (by omega) rfl) | exact Or.inr (st_13 hrP1 (by omega) (by omega) (by omega) (by omega) (by omega) (by omega) t_327 t_328 t_329 t_330 t_331 t_332 (by omega) (by omega) (by omega) (by omega) rfl) | exact Or.inr (st_1 hrP1 (by omega) (by omega) ⟨by omega, by omega, by omega, by omega, t_327, t_328, t_329, t_330, t_331, t_332⟩ (by omega) (by omega) (by omega) (by omega) (by omega) rfl) | exact Or.inr (st_3 hrP1 (by omega) (by omega) ⟨by omega, by omega, by omega, by omega, t_327, t_328, t_329, t_330, t_331, t_332⟩ (by omega) (by omega) (by omega) (by omega) (by omega) rfl) | exact Or.inr (st_6 hrP1 (by omega) (by omega) ⟨by omega, by omega, by omega, by omega, t_327, t_328, t_329, t_330, t_331, t_332⟩ (by omega) (by omega) (by omega) (by omega) (by omega) rfl) | exact Or.inr (st_8 hrP1 (by omega) (by omega) ⟨by omega, by omega, by omega, by omega, t_327, t_328, t_329, t_330, t_331, t_332⟩ (by omega) (by omega) (by omega) (by omega) (by omega) rfl), by show tkR tT tN g_311 a_312; first | assumption | exact tkR_t (by omega) (by omega) (by omega) (by omega) _ | exact tkR_t (by omega) (by omega) (by omega) (by omega) hrTk, by show nst tT tN g a g_311 a_312 z_306; exact (show nst tT tN g a g_311 a_312 z_306 by assumption)⟩, by rw [ht]; exact hP, va_K.moved hW.alike hK, hD⟩, hS.F ht⟩) hS.2.2 dX13_steps_209
      · refine jtab_in (v := iI 10) (off := 160) (tgt := 210) hx hb dX13_steps_50 (by rw [h_3]) (by decide) (by decide) (by decide) (by decide) ?_
        refine lv_aload_n hx hb dX13_steps_210 rfl (lv_at hl 0 rfl) ?_
        refine jcg_i (va_runV (As := []) (rest := []) ⟨hx, hb, hml, hown, hts⟩ (sX13_holds l dC dI _ ad ca sK sV g a tT tN  hI (by omega) hrP1 hrTx hrTk) (cwV 0 hts (jgoodV m_234 m_362 m_363 m_503 m_146) rfl rfl rfl (by decide +kernel) ⟨(Nat.le_of_ble_eq_true rfl), (Nat.le_of_ble_eq_true rfl)⟩) ⟨mP_blind, va_recv hK hP (ci := 13) (q0 := 0) rfl rfl, fun U hU hW => ⟨rfl, mP_of hU hW hP hK hD hXs hS (fun _ h => h) hA⟩⟩ rfl rfl hl.1 rfl (lv_room (Nat.le_of_ble_eq_true rfl)) dX13_steps_211 ⟨(Nat.le_of_ble_eq_true rfl), (Nat.le_of_ble_eq_true rfl)⟩) hD hS hA (fun r_334 u_343 H locs w_335 hP hK hD hS => ?_)
        obtain ⟨g_341, a_342⟩ := u_343
        obtain ⟨z_336, rfl, hI, hfr_344, hfr_345, h_337, h_338, h_339, h_340⟩ := w_335
        have hP : va_P (dC, dI) vwCl (mG ad ca g_341 a_342) H := hP
        have hD : va_D A (mG ad ca g_341 a_342) := hD
        have hfA : ∀ j, j ∉ ([2, 3, 4, 5, 7, 8, 9, 12, 15] : List Nat) → g_341 j = g j := fun j h => (hfr_344 j (fun q => h (by first | exact q | (simp only [List.mem_cons, List.not_mem_nil, or_false] at q ⊢ <;> omega)))).trans (hfA j h)
        have b_347 : g_341 1 = g 1 := hfA 1 (by decide)
        have b_348 := hfr_344 9 (by decide)
        have b_349 := hfr_344 12 (by decide)
        have b_350 := hfr_344 15 (by decide)
        have haA : ∀ j, j ∉ ([2, 3, 4, 5, 6, 7, 8] : List Nat) → a_342 j = a j := fun j h => (hfr_345 j (fun q => h (by first | exact q | (simp only [List.mem_cons, List.not_mem_nil, or_false] at q ⊢ <;> omega)))).trans (haA j h)
        have h_338 : z_336 = 0 ∨ (rPn g_341 a_342 (g_341 7) ∧ mz g_341 a_342 (g_341 7) < mz g a (g 7 + 1)) := h_338
        have h_339 : tkR tT tN g_341 a_342 := h_339
        have h_340 : nst tT tN g a g_341 a_342 z_336 := h_340
        have b_351 : g_341 1 = g 1 := hfr_344 1 (by decide)
        have b_352 : g_341 9 = g 9 := hfr_344 9 (by decide)
        have b_353 : g_341 12 = g 12 := hfr_344 12 (by decide)
        have b_354 : g_341 15 = g 15 := hfr_344 15 (by decide)
        have t_355 : a_342 3 = a 3 := (hfr_345 3 (by decide)).trans rfl
        have t_356 : a_342 4 = a 4 := (hfr_345 4 (by decide)).trans rfl
        have t_357 : a_342 5 = a 5 := (hfr_345 5 (by decide)).trans rfl
        have t_358 : a_342 6 = a 6 := (hfr_345 6 (by decide)).trans rfl
        have t_359 : a_342 7 = a 7 := (hfr_345 7 (by decide)).trans rfl
        have t_360 : a_342 8 = a 8 := (hfr_345 8 (by decide)).trans rfl
        have b_361 : 0 ≤ g_341 7 ∧ g_341 7 ≤ 1200 := hI.1 7
        rw [← hQ]
        exact W.zret (v := iI z_336) (ty := .boolean) hx hb hr (nb_bool (by omega) (by omega)) (fun t ht hW => ⟨⟨iI z_336, (g_341, a_342), rfl, ⟨z_336, rfl, hI, hfA, haA, by omega, by show z_336 = 0 ∨ (rPn g_341 a_342 (g_341 7) ∧ mz g_341 a_342 (g_341 7) < mz g a (g 7 + 1)); first | exact Or.inl rfl | exact (show z_336 = 0 ∨ (rPn g_341 a_342 (g_341 7) ∧ mz g_341 a_342 (g_341 7) < mz g a (g 7 + 1)) by assumption) | exact Or.inr (st_do hrP1 (by omega) k1 (by omega) (by omega) (by omega) (by omega) (by omega) (by omega) t_355 t_356 t_357 t_358 t_359 t_360 (by omega) (by omega) (by omega) (by omega) rfl) | exact Or.inr (st_sg hrP1 (by omega) k1 (by omega) ⟨by omega, by omega, by omega, by omega, t_355, t_356, t_357, t_358, t_359, t_360⟩ (by omega) (by omega) (by omega) ⟨by omega, by omega, by omega⟩ rfl) | exact Or.inr (st_12 hrP1 (by omega) (by omega) ⟨by omega, by omega, by omega, by omega, t_355, t_356, t_357, t_358, t_359, t_360⟩ (by omega) (by omega) (by omega) (by omega) rfl) | exact Or.inr (st_13 hrP1 (by omega) (by omega) (by omega) (by omega) (by omega) (by omega) t_355 t_356 t_357 t_358 t_359 t_360 (by omega) (by omega) (by omega) (by omega) rfl) | exact Or.inr (st_1 hrP1 (by omega) (by omega) ⟨by omega, by omega, by omega, by omega, t_355, t_356, t_357, t_358, t_359, t_360⟩ (by omega) (by omega) (by omega) (by omega) (by omega) rfl) | exact Or.inr (st_3 hrP1 (by omega) (by omega) ⟨by omega, by omega, by omega, by omega, t_355, t_356, t_357, t_358, t_359, t_360⟩ (by omega) (by omega) (by omega) (by omega) (by omega) rfl) | exact Or.inr (st_6 hrP1 (by omega) (by omega) ⟨by omega, by omega, by omega, by omega, t_355, t_356, t_357, t_358, t_359, t_360⟩ (by omega) (by omega) (by omega) (by omega) (by omega) rfl) | exact Or.inr (st_8 hrP1 (by omega) (by omega) ⟨by omega, by omega, by omega, by omega, t_355, t_356, t_357, t_358, t_359, t_360⟩ (by omega) (by omega) (by omega) (by omega) (by omega) rfl), by show tkR tT tN g_341 a_342; first | assumption | exact tkR_t (by omega) (by omega) (by omega) (by omega) _ | exact tkR_t (by omega) (by omega) (by omega) (by omega) hrTk, by show nst tT tN g a g_341 a_342 z_336; exact (show nst tT tN g a g_341 a_342 z_336 by assumption)⟩, by rw [ht]; exact hP, va_K.moved hW.alike hK, hD⟩, hS.F ht⟩) hS.2.2 dX13_steps_214
      · refine jtab_in (v := iI 11) (off := 165) (tgt := 215) hx hb dX13_steps_50 (by rw [h_3]) (by decide) (by decide) (by decide) (by decide) ?_
        refine lv_aload_n hx hb dX13_steps_215 rfl (lv_at hl 0 rfl) ?_
        refine jcg_i (va_runV (As := []) (rest := []) ⟨hx, hb, hml, hown, hts⟩ (sX13_compares l dC dI _ ad ca sK sV g a tT tN  hI (by omega) hrP1 hrTx hrTk) (cwV 0 hts (jgoodV m_235 m_314 m_315 m_503 m_122) rfl rfl rfl (by decide +kernel) ⟨(Nat.le_of_ble_eq_true rfl), (Nat.le_of_ble_eq_true rfl)⟩) ⟨mP_blind, va_recv hK hP (ci := 13) (q0 := 0) rfl rfl, fun U hU hW => ⟨rfl, mP_of hU hW hP hK hD hXs hS (fun _ h => h) hA⟩⟩ rfl rfl hl.1 rfl (lv_room (Nat.le_of_ble_eq_true rfl)) dX13_steps_216 ⟨(Nat.le_of_ble_eq_true rfl), (Nat.le_of_ble_eq_true rfl)⟩) hD hS hA (fun r_362 u_371 H locs w_363 hP hK hD hS => ?_)
        obtain ⟨g_369, a_370⟩ := u_371
        obtain ⟨z_364, rfl, hI, hfr_372, hfr_373, h_365, h_366, h_367, h_368⟩ := w_363
        have hP : va_P (dC, dI) vwCl (mG ad ca g_369 a_370) H := hP
        have hD : va_D A (mG ad ca g_369 a_370) := hD
        have hfA : ∀ j, j ∉ ([2, 3, 4, 5, 7, 8, 9, 12, 15] : List Nat) → g_369 j = g j := fun j h => (hfr_372 j (fun q => h (by first | exact q | (simp only [List.mem_cons, List.not_mem_nil, or_false] at q ⊢ <;> omega)))).trans (hfA j h)
        have b_375 : g_369 1 = g 1 := hfA 1 (by decide)
        have b_376 := hfr_372 8 (by decide)
        have b_377 := hfr_372 9 (by decide)
        have b_378 := hfr_372 12 (by decide)
        have b_379 := hfr_372 15 (by decide)
        have haA : ∀ j, j ∉ ([2, 3, 4, 5, 6, 7, 8] : List Nat) → a_370 j = a j := fun j h => (hfr_373 j (fun q => h (by first | exact q | (simp only [List.mem_cons, List.not_mem_nil, or_false] at q ⊢ <;> omega)))).trans (haA j h)
        have h_366 : z_364 = 0 ∨ (rPn g_369 a_370 (g_369 7) ∧ mz g_369 a_370 (g_369 7) < mz g a (g 7 + 1)) := h_366
        have h_367 : tkR tT tN g_369 a_370 := h_367
        have h_368 : nst tT tN g a g_369 a_370 z_364 := h_368
        have b_380 : g_369 1 = g 1 := hfr_372 1 (by decide)
        have b_381 : g_369 8 = g 8 := hfr_372 8 (by decide)
        have b_382 : g_369 9 = g 9 := hfr_372 9 (by decide)
        have b_383 : g_369 12 = g 12 := hfr_372 12 (by decide)
        have b_384 : g_369 15 = g 15 := hfr_372 15 (by decide)
        have t_385 : a_370 3 = a 3 := (hfr_373 3 (by decide)).trans rfl
        have t_386 : a_370 4 = a 4 := (hfr_373 4 (by decide)).trans rfl
        have t_387 : a_370 5 = a 5 := (hfr_373 5 (by decide)).trans rfl
        have t_388 : a_370 6 = a 6 := (hfr_373 6 (by decide)).trans rfl
        have t_389 : a_370 7 = a 7 := (hfr_373 7 (by decide)).trans rfl
        have t_390 : a_370 8 = a 8 := (hfr_373 8 (by decide)).trans rfl
        have b_391 : 0 ≤ g_369 7 ∧ g_369 7 ≤ 1200 := hI.1 7
        rw [← hQ]
        exact W.zret (v := iI z_364) (ty := .boolean) hx hb hr (nb_bool (by omega) (by omega)) (fun t ht hW => ⟨⟨iI z_364, (g_369, a_370), rfl, ⟨z_364, rfl, hI, hfA, haA, by omega, by show z_364 = 0 ∨ (rPn g_369 a_370 (g_369 7) ∧ mz g_369 a_370 (g_369 7) < mz g a (g 7 + 1)); first | exact Or.inl rfl | exact (show z_364 = 0 ∨ (rPn g_369 a_370 (g_369 7) ∧ mz g_369 a_370 (g_369 7) < mz g a (g 7 + 1)) by assumption) | exact Or.inr (st_do hrP1 (by omega) k1 (by omega) (by omega) (by omega) (by omega) (by omega) (by omega) t_385 t_386 t_387 t_388 t_389 t_390 (by omega) (by omega) (by omega) (by omega) rfl) | exact Or.inr (st_sg hrP1 (by omega) k1 (by omega) ⟨by omega, by omega, by omega, by omega, t_385, t_386, t_387, t_388, t_389, t_390⟩ (by omega) (by omega) (by omega) ⟨by omega, by omega, by omega⟩ rfl) | exact Or.inr (st_12 hrP1 (by omega) (by omega) ⟨by omega, by omega, by omega, by omega, t_385, t_386, t_387, t_388, t_389, t_390⟩ (by omega) (by omega) (by omega) (by omega) rfl) | exact Or.inr (st_13 hrP1 (by omega) (by omega) (by omega) (by omega) (by omega) (by omega) t_385 t_386 t_387 t_388 t_389 t_390 (by omega) (by omega) (by omega) (by omega) rfl) | exact Or.inr (st_1 hrP1 (by omega) (by omega) ⟨by omega, by omega, by omega, by omega, t_385, t_386, t_387, t_388, t_389, t_390⟩ (by omega) (by omega) (by omega) (by omega) (by omega) rfl) | exact Or.inr (st_3 hrP1 (by omega) (by omega) ⟨by omega, by omega, by omega, by omega, t_385, t_386, t_387, t_388, t_389, t_390⟩ (by omega) (by omega) (by omega) (by omega) (by omega) rfl) | exact Or.inr (st_6 hrP1 (by omega) (by omega) ⟨by omega, by omega, by omega, by omega, t_385, t_386, t_387, t_388, t_389, t_390⟩ (by omega) (by omega) (by omega) (by omega) (by omega) rfl) | exact Or.inr (st_8 hrP1 (by omega) (by omega) ⟨by omega, by omega, by omega, by omega, t_385, t_386, t_387, t_388, t_389, t_390⟩ (by omega) (by omega) (by omega) (by omega) (by omega) rfl), by show tkR tT tN g_369 a_370; first | assumption | exact tkR_t (by omega) (by omega) (by omega) (by omega) _ | exact tkR_t (by omega) (by omega) (by omega) (by omega) hrTk, by show nst tT tN g a g_369 a_370 z_364; exact (show nst tT tN g a g_369 a_370 z_364 by assumption)⟩, by rw [ht]; exact hP, va_K.moved hW.alike hK, hD⟩, hS.F ht⟩) hS.2.2 dX13_steps_219
      · refine jtab_in (v := iI 12) (off := 170) (tgt := 220) hx hb dX13_steps_50 (by rw [h_3]) (by decide) (by decide) (by decide) (by decide) ?_
        have hbu := bd_up hrP1 (by omega) (by omega)
        refine lv_aload_n hx hb dX13_steps_220 rfl (lv_at hl 0 rfl) ?_
        refine lv_dup hx hb dX13_steps_221 rfl ?_
        refine gf_deep hx hb hj hown hK hP hI dX13_steps_222 (fun h_392 => ?_)
        refine lv_iconst (v := iI 1) hx hb dX13_steps_225 rfl ?_
        refine xr_sub hx hb dX13_steps_226 ?_
        refine xr_kept (fun z_393 h_394 h_395 => ?_)
        refine pa_deep hx hb hj hown hK hP hD hS hI dX13_steps_227 (fun g_396 z_399 H locs h_400 h_401 e_397 e_398 hI hP hD hS => ?_)
        have hfA : ∀ j, j ∉ ([2, 3, 4, 5, 7, 8, 9, 12, 15] : List Nat) → g_396 j = g j := fun j h => (e_397 j (fun q => h (q ▸ (by decide : 8 ∈ ([2, 3, 4, 5, 7, 8, 9, 12, 15] : List Nat))))).trans (hfA j h)
        have b_402 := e_397 2 (by decide)
        have b_403 := e_397 3 (by decide)
        have b_404 := e_397 4 (by decide)
        have b_405 := e_397 5 (by decide)
        have b_406 := e_397 7 (by decide)
        have b_407 := e_397 9 (by decide)
        have b_408 := e_397 12 (by decide)
        have b_409 := e_397 15 (by decide)
        have b_410 : g_396 1 = g 1 := hfA 1 (by decide)
        have b_411 := e_397 1 (by decide)
        have b_412 := e_397 2 (by decide)
        have b_413 := e_397 3 (by decide)
        have b_414 := e_397 4 (by decide)
        have b_415 := e_397 7 (by decide)
        have b_416 := e_397 9 (by decide)
        have b_417 := e_397 12 (by decide)
        have b_418 := e_397 15 (by decide)
        have b_419 := e_397 5 (by decide)
        refine lv_iconst (v := iI 1) hx hb dX13_steps_230 rfl ?_
        rw [← hQ]
        exact W.zret (v := iI 1) (ty := .boolean) hx hb hr (nb_bool (by omega) (by omega)) (fun t ht hW => ⟨⟨iI 1, (g_396, a), rfl, ⟨1, rfl, hI, hfA, haA, by omega, by show 1 = 0 ∨ (rPn g_396 a (g_396 7) ∧ mz g_396 a (g_396 7) < mz g a (g 7 + 1)); first | exact Or.inl rfl | exact (show 1 = 0 ∨ (rPn g_396 a (g_396 7) ∧ mz g_396 a (g_396 7) < mz g a (g 7 + 1)) by assumption) | exact Or.inr (st_do hrP1 (by omega) k1 (by omega) (by omega) (by omega) (by omega) (by omega) (by omega) rfl rfl rfl rfl rfl rfl (by omega) (by omega) (by omega) (by omega) rfl) | exact Or.inr (st_sg hrP1 (by omega) k1 (by omega) ⟨by omega, by omega, by omega, by omega, rfl, rfl, rfl, rfl, rfl, rfl⟩ (by omega) (by omega) (by omega) ⟨by omega, by omega, by omega⟩ rfl) | exact Or.inr (st_12 hrP1 (by omega) (by omega) ⟨by omega, by omega, by omega, by omega, rfl, rfl, rfl, rfl, rfl, rfl⟩ (by omega) (by omega) (by omega) (by omega) rfl) | exact Or.inr (st_13 hrP1 (by omega) (by omega) (by omega) (by omega) (by omega) (by omega) rfl rfl rfl rfl rfl rfl (by omega) (by omega) (by omega) (by omega) rfl) | exact Or.inr (st_1 hrP1 (by omega) (by omega) ⟨by omega, by omega, by omega, by omega, rfl, rfl, rfl, rfl, rfl, rfl⟩ (by omega) (by omega) (by omega) (by omega) (by omega) rfl) | exact Or.inr (st_3 hrP1 (by omega) (by omega) ⟨by omega, by omega, by omega, by omega, rfl, rfl, rfl, rfl, rfl, rfl⟩ (by omega) (by omega) (by omega) (by omega) (by omega) rfl) | exact Or.inr (st_6 hrP1 (by omega) (by omega) ⟨by omega, by omega, by omega, by omega, rfl, rfl, rfl, rfl, rfl, rfl⟩ (by omega) (by omega) (by omega) (by omega) (by omega) rfl) | exact Or.inr (st_8 hrP1 (by omega) (by omega) ⟨by omega, by omega, by omega, by omega, rfl, rfl, rfl, rfl, rfl, rfl⟩ (by omega) (by omega) (by omega) (by omega) (by omega) rfl), by show tkR tT tN g_396 a; first | assumption | exact tkR_t (by omega) (by omega) (by omega) (by omega) _ | exact tkR_t (by omega) (by omega) (by omega) (by omega) hrTk, by show nst tT tN g a g_396 a 1; exact nst_y (by omega) (by omega) (nt_12 hrTk (by omega) (by omega) (by omega) (by omega) (by omega) rfl (by omega) rfl)⟩, by rw [ht]; exact hP, va_K.moved hW.alike hK, hD⟩, hS.F ht⟩) hS.2.2 dX13_steps_231
    · refine lv_aload_n hx hb dX13_steps_25 rfl (lv_at hl 0 rfl) ?_
      refine lv_iload_n hx hb dX13_steps_26 rfl (lv_at hl 1 rfl) ?_
      refine lv_bipush (v := iI 100) hx hb dX13_steps_27 rfl ?_
      refine xr_sub hx hb dX13_steps_29 ?_
      refine jc_i (va_runV (As := [.int (iI (p1 - 100))]) (rest := []) ⟨hx, hb, hml, hown, hts⟩ (sX13_isSign l dC dI _ ad ca g a (p1 - 100) hI (by omega)) (cwV 1 hts (jgoodV m_227 m_389 m_390 m_503 m_161) rfl rfl rfl (by decide +kernel) ⟨(Nat.le_of_ble_eq_true rfl), (Nat.le_of_ble_eq_true rfl)⟩) ⟨jw_blind, va_recv hK hP (ci := 13) (q0 := 0) rfl rfl, fun U hU hW => ⟨rfl, jw_of hU hW hP hK hD⟩⟩ rfl rfl hl.1 rfl (lv_room (Nat.le_of_ble_eq_true rfl)) dX13_steps_30 ⟨(Nat.le_of_ble_eq_true rfl), (Nat.le_of_ble_eq_true rfl)⟩) hP hS hA (fun r_420 H locs w_421 hP hS => ?_)
      obtain ⟨z_422, rfl, h_423, h_424⟩ := w_421
      have b_425 : 0 ≤ g 3 ∧ g 3 ≤ 4 := hI.1 3
      refine xr_if_eq (tgt := 47) hx hb dX13_steps_33 (by decide) (by omega) (fun h_426 => ?_) (fun h_426 => ?_)
      · refine lv_iconst (v := iI 0) hx hb dX13_steps_47 rfl ?_
        rw [← hQ]
        exact W.zret (v := iI 0) (ty := .boolean) hx hb hr (nb_bool (by omega) (by omega)) (fun t ht hW => ⟨⟨iI 0, (g, a), rfl, ⟨0, rfl, hI, hfA, haA, by omega, by show 0 = 0 ∨ (rPn g a (g 7) ∧ mz g a (g 7) < mz g a (g 7 + 1)); first | exact Or.inl rfl | exact (show 0 = 0 ∨ (rPn g a (g 7) ∧ mz g a (g 7) < mz g a (g 7 + 1)) by assumption) | exact Or.inr (st_do hrP1 (by omega) k1 (by omega) (by omega) (by omega) (by omega) (by omega) (by omega) rfl rfl rfl rfl rfl rfl (by omega) (by omega) (by omega) (by omega) rfl) | exact Or.inr (st_sg hrP1 (by omega) k1 (by omega) ⟨by omega, by omega, by omega, by omega, rfl, rfl, rfl, rfl, rfl, rfl⟩ (by omega) (by omega) (by omega) ⟨by omega, by omega, by omega⟩ rfl) | exact Or.inr (st_12 hrP1 (by omega) (by omega) ⟨by omega, by omega, by omega, by omega, rfl, rfl, rfl, rfl, rfl, rfl⟩ (by omega) (by omega) (by omega) (by omega) rfl) | exact Or.inr (st_13 hrP1 (by omega) (by omega) (by omega) (by omega) (by omega) (by omega) rfl rfl rfl rfl rfl rfl (by omega) (by omega) (by omega) (by omega) rfl) | exact Or.inr (st_1 hrP1 (by omega) (by omega) ⟨by omega, by omega, by omega, by omega, rfl, rfl, rfl, rfl, rfl, rfl⟩ (by omega) (by omega) (by omega) (by omega) (by omega) rfl) | exact Or.inr (st_3 hrP1 (by omega) (by omega) ⟨by omega, by omega, by omega, by omega, rfl, rfl, rfl, rfl, rfl, rfl⟩ (by omega) (by omega) (by omega) (by omega) (by omega) rfl) | exact Or.inr (st_6 hrP1 (by omega) (by omega) ⟨by omega, by omega, by omega, by omega, rfl, rfl, rfl, rfl, rfl, rfl⟩ (by omega) (by omega) (by omega) (by omega) (by omega) rfl) | exact Or.inr (st_8 hrP1 (by omega) (by omega) ⟨by omega, by omega, by omega, by omega, rfl, rfl, rfl, rfl, rfl, rfl⟩ (by omega) (by omega) (by omega) (by omega) (by omega) rfl), by show tkR tT tN g a; first | assumption | exact tkR_t (by omega) (by omega) (by omega) (by omega) _ | exact tkR_t (by omega) (by omega) (by omega) (by omega) hrTk, by show nst tT tN g a g a 0; first | exact nst_y (by omega) (by omega) (nt_g hrTk (by omega) (by omega) (by omega) (by omega) (by omega) (by omega) rfl (by omega) rfl) | exact nst_n (by omega) (by omega) (nf_g hrTk (by omega) (by omega) (by omega))⟩, by rw [ht]; exact hP, va_K.moved hW.alike hK, hD⟩, hS.F ht⟩) hS.2.2 dX13_steps_48
      · refine lv_aload_n hx hb dX13_steps_36 rfl (lv_at hl 0 rfl) ?_
        refine jcg_i (va_runV (As := []) (rest := []) ⟨hx, hb, hml, hown, hts⟩ (sX13_takes l dC dI _ ad ca sK sV g a tT tN  hI (by omega) hrTx) (cwV 0 hts (jgoodV m_228 m_480 m_481 m_503 m_208) rfl rfl rfl (by decide +kernel) ⟨(Nat.le_of_ble_eq_true rfl), (Nat.le_of_ble_eq_true rfl)⟩) ⟨mP_blind, va_recv hK hP (ci := 13) (q0 := 0) rfl rfl, fun U hU hW => ⟨rfl, mP_of hU hW hP hK hD hXs hS (fun _ h => h) hA⟩⟩ rfl rfl hl.1 rfl (lv_room (Nat.le_of_ble_eq_true rfl)) dX13_steps_37 ⟨(Nat.le_of_ble_eq_true rfl), (Nat.le_of_ble_eq_true rfl)⟩) hD hS hA (fun r_427 u_440 H locs w_428 hP hK hD hS => ?_)
        obtain ⟨g_438, a_439⟩ := u_440
        obtain ⟨z_429, rfl, hI, hfr_441, hfr_442, h_430, h_431, h_432, h_433, h_434, h_435, h_436, h_437⟩ := w_428
        have hP : va_P (dC, dI) vwCl (mG ad ca g_438 a_439) H := hP
        have hD : va_D A (mG ad ca g_438 a_439) := hD
        have hfA : ∀ j, j ∉ ([2, 3, 4, 5, 7, 8, 9, 12, 15] : List Nat) → g_438 j = g j := fun j h => (hfr_441 j (fun q => h (by first | exact q | (simp only [List.mem_cons, List.not_mem_nil, or_false] at q ⊢ <;> omega)))).trans (hfA j h)
        have b_444 : g_438 1 = g 1 := hfA 1 (by decide)
        have b_445 := hfr_441 7 (by decide)
        have b_446 := hfr_441 8 (by decide)
        have b_447 := hfr_441 9 (by decide)
        have b_448 := hfr_441 12 (by decide)
        have b_449 := hfr_441 15 (by decide)
        have haA : ∀ j, j ∉ ([2, 3, 4, 5, 6, 7, 8] : List Nat) → a_439 j = a j := fun j h => (hfr_442 j (fun q => h (by first | exact q | (simp only [List.mem_cons, List.not_mem_nil, or_false] at q ⊢ <;> omega)))).trans (haA j h)
        have h_432 : g 2 ≤ g_438 2 := h_432
        have h_433 : g_438 2 ≤ g 1 := h_433
        have h_434 : g_438 3 = 0 ∨ g 2 + 1 ≤ g_438 2 := h_434
        have h_435 : g_438 4 ≤ g_438 2 := h_435
        have h_436 : g_438 4 = scn (bB tT) tN (g 2) := h_436
        have h_437 : tkR tT tN g_438 a_439 := h_437
        have b_450 : g_438 1 = g 1 := hfr_441 1 (by decide)
        have b_451 : g_438 7 = g 7 := hfr_441 7 (by decide)
        have b_452 : g_438 8 = g 8 := hfr_441 8 (by decide)
        have b_453 : g_438 9 = g 9 := hfr_441 9 (by decide)
        have b_454 : g_438 12 = g 12 := hfr_441 12 (by decide)
        have b_455 : g_438 15 = g 15 := hfr_441 15 (by decide)
        have t_456 : a_439 2 = a 2 := (hfr_442 2 (by decide)).trans rfl
        have t_457 : a_439 3 = a 3 := (hfr_442 3 (by decide)).trans rfl
        have t_458 : a_439 4 = a 4 := (hfr_442 4 (by decide)).trans rfl
        have t_459 : a_439 5 = a 5 := (hfr_442 5 (by decide)).trans rfl
        have t_460 : a_439 6 = a 6 := (hfr_442 6 (by decide)).trans rfl
        have t_461 : a_439 7 = a 7 := (hfr_442 7 (by decide)).trans rfl
        have t_462 : a_439 8 = a 8 := (hfr_442 8 (by decide)).trans rfl
        have b_463 : 0 ≤ g_438 1 ∧ g_438 1 ≤ 600 := hI.1 1
        have b_464 : 0 ≤ g_438 2 ∧ g_438 2 ≤ 600 := hI.1 2
        have e9 : g_438 4 = scn (bB tT) tN (g 2) := h_436
        refine xr_if_eq (tgt := 47) hx hb dX13_steps_40 (by decide) (by omega) (fun h_465 => ?_) (fun h_465 => ?_)
        · refine lv_iconst (v := iI 0) hx hb dX13_steps_47 rfl ?_
          rw [← hQ]
          exact W.zret (v := iI 0) (ty := .boolean) hx hb hr (nb_bool (by omega) (by omega)) (fun t ht hW => ⟨⟨iI 0, (g_438, a_439), rfl, ⟨0, rfl, hI, hfA, haA, by omega, by show 0 = 0 ∨ (rPn g_438 a_439 (g_438 7) ∧ mz g_438 a_439 (g_438 7) < mz g a (g 7 + 1)); first | exact Or.inl rfl | exact (show 0 = 0 ∨ (rPn g_438 a_439 (g_438 7) ∧ mz g_438 a_439 (g_438 7) < mz g a (g 7 + 1)) by assumption) | exact Or.inr (st_do hrP1 (by omega) k1 (by omega) (by omega) (by omega) (by omega) (by omega) (by omega) t_457 t_458 t_459 t_460 t_461 t_462 (by omega) (by omega) (by omega) (by omega) t_456) | exact Or.inr (st_sg hrP1 (by omega) k1 (by omega) ⟨by omega, by omega, by omega, by omega, t_457, t_458, t_459, t_460, t_461, t_462⟩ (by omega) (by omega) (by omega) ⟨by omega, by omega, by omega⟩ t_456) | exact Or.inr (st_12 hrP1 (by omega) (by omega) ⟨by omega, by omega, by omega, by omega, t_457, t_458, t_459, t_460, t_461, t_462⟩ (by omega) (by omega) (by omega) (by omega) t_456) | exact Or.inr (st_13 hrP1 (by omega) (by omega) (by omega) (by omega) (by omega) (by omega) t_457 t_458 t_459 t_460 t_461 t_462 (by omega) (by omega) (by omega) (by omega) t_456) | exact Or.inr (st_1 hrP1 (by omega) (by omega) ⟨by omega, by omega, by omega, by omega, t_457, t_458, t_459, t_460, t_461, t_462⟩ (by omega) (by omega) (by omega) (by omega) (by omega) t_456) | exact Or.inr (st_3 hrP1 (by omega) (by omega) ⟨by omega, by omega, by omega, by omega, t_457, t_458, t_459, t_460, t_461, t_462⟩ (by omega) (by omega) (by omega) (by omega) (by omega) t_456) | exact Or.inr (st_6 hrP1 (by omega) (by omega) ⟨by omega, by omega, by omega, by omega, t_457, t_458, t_459, t_460, t_461, t_462⟩ (by omega) (by omega) (by omega) (by omega) (by omega) t_456) | exact Or.inr (st_8 hrP1 (by omega) (by omega) ⟨by omega, by omega, by omega, by omega, t_457, t_458, t_459, t_460, t_461, t_462⟩ (by omega) (by omega) (by omega) (by omega) (by omega) t_456), by show tkR tT tN g_438 a_439; first | assumption | exact tkR_t (by omega) (by omega) (by omega) (by omega) h_437 | exact tkR_t (by omega) (by omega) (by omega) (by omega) hrTk, by show nst tT tN g a g_438 a_439 0; first | exact nst_y (by omega) (by omega) (nt_g hrTk (by omega) (by omega) (by omega) (by omega) (by omega) (by omega) t_459 (by omega) t_456) | exact nst_n (by omega) (by omega) (nf_g hrTk (by omega) (by omega) (by omega))⟩, by rw [ht]; exact hP, va_K.moved hW.alike hK, hD⟩, hS.F ht⟩) hS.2.2 dX13_steps_48
        · refine lv_iconst (v := iI 1) hx hb dX13_steps_43 rfl ?_
          refine lv_goto (tgt := 48) hx hb dX13_steps_44 (by decide) ?_
          rw [← hQ]
          exact W.zret (v := iI 1) (ty := .boolean) hx hb hr (nb_bool (by omega) (by omega)) (fun t ht hW => ⟨⟨iI 1, (g_438, a_439), rfl, ⟨1, rfl, hI, hfA, haA, by omega, by show 1 = 0 ∨ (rPn g_438 a_439 (g_438 7) ∧ mz g_438 a_439 (g_438 7) < mz g a (g 7 + 1)); first | exact Or.inl rfl | exact (show 1 = 0 ∨ (rPn g_438 a_439 (g_438 7) ∧ mz g_438 a_439 (g_438 7) < mz g a (g 7 + 1)) by assumption) | exact Or.inr (st_do hrP1 (by omega) k1 (by omega) (by omega) (by omega) (by omega) (by omega) (by omega) t_457 t_458 t_459 t_460 t_461 t_462 (by omega) (by omega) (by omega) (by omega) t_456) | exact Or.inr (st_sg hrP1 (by omega) k1 (by omega) ⟨by omega, by omega, by omega, by omega, t_457, t_458, t_459, t_460, t_461, t_462⟩ (by omega) (by omega) (by omega) ⟨by omega, by omega, by omega⟩ t_456) | exact Or.inr (st_12 hrP1 (by omega) (by omega) ⟨by omega, by omega, by omega, by omega, t_457, t_458, t_459, t_460, t_461, t_462⟩ (by omega) (by omega) (by omega) (by omega) t_456) | exact Or.inr (st_13 hrP1 (by omega) (by omega) (by omega) (by omega) (by omega) (by omega) t_457 t_458 t_459 t_460 t_461 t_462 (by omega) (by omega) (by omega) (by omega) t_456) | exact Or.inr (st_1 hrP1 (by omega) (by omega) ⟨by omega, by omega, by omega, by omega, t_457, t_458, t_459, t_460, t_461, t_462⟩ (by omega) (by omega) (by omega) (by omega) (by omega) t_456) | exact Or.inr (st_3 hrP1 (by omega) (by omega) ⟨by omega, by omega, by omega, by omega, t_457, t_458, t_459, t_460, t_461, t_462⟩ (by omega) (by omega) (by omega) (by omega) (by omega) t_456) | exact Or.inr (st_6 hrP1 (by omega) (by omega) ⟨by omega, by omega, by omega, by omega, t_457, t_458, t_459, t_460, t_461, t_462⟩ (by omega) (by omega) (by omega) (by omega) (by omega) t_456) | exact Or.inr (st_8 hrP1 (by omega) (by omega) ⟨by omega, by omega, by omega, by omega, t_457, t_458, t_459, t_460, t_461, t_462⟩ (by omega) (by omega) (by omega) (by omega) (by omega) t_456), by show tkR tT tN g_438 a_439; first | assumption | exact tkR_t (by omega) (by omega) (by omega) (by omega) h_437 | exact tkR_t (by omega) (by omega) (by omega) (by omega) hrTk, by show nst tT tN g a g_438 a_439 1; first | exact nst_y (by omega) (by omega) (nt_g hrTk (by omega) (by omega) (by omega) (by omega) (by omega) (by omega) t_459 (by omega) t_456) | exact nst_n (by omega) (by omega) (nf_g hrTk (by omega) (by omega) (by omega))⟩, by rw [ht]; exact hP, va_K.moved hW.alike hK, hD⟩, hS.F ht⟩) hS.2.2 dX13_steps_48
  · have hbd := bd_do hrP1 (by omega) k1 (by omega)
    refine lv_aload_n hx hb dX13_steps_7 rfl (lv_at hl 0 rfl) ?_
    refine lv_iload_n hx hb dX13_steps_8 rfl (lv_at hl 1 rfl) ?_
    refine lv_sipush (v := iI 1000) hx hb dX13_steps_9 rfl ?_
    refine xr_sub hx hb dX13_steps_12 ?_
    refine lv_iconst (v := iI 0) hx hb dX13_steps_13 rfl ?_
    refine jcg_v (va_runV (As := [.int (iI (p1 - 1000)), .int (iI 0)]) (rest := []) ⟨hx, hb, hml, hown, hts⟩ (sX13_emits l dC dI _ ad ca g a (p1 - 1000) 0 hI (by omega) (by omega) (by omega)) (cwV 2 hts (jgoodV m_226 m_322 m_323 m_503 m_126) rfl rfl rfl (by decide +kernel) ⟨(Nat.le_of_ble_eq_true rfl), (Nat.le_of_ble_eq_true rfl)⟩) ⟨jw_blind, va_recv hK hP (ci := 13) (q0 := 0) rfl rfl, fun U hU hW => ⟨rfl, jw_of hU hW hP hK hD⟩⟩ rfl rfl hl.1 rfl (lv_room (Nat.le_of_ble_eq_true rfl)) dX13_steps_14 ⟨(Nat.le_of_ble_eq_true rfl), (Nat.le_of_ble_eq_true rfl)⟩) hD hS hA (fun u_474 H locs w_467 hP hK hD hS => ?_)
    obtain ⟨g_472, a_473⟩ := u_474
    obtain ⟨hI, hfr_475, hfr_476, h_469, h_470, h_471⟩ := w_467
    have hP : va_P (dC, dI) vwCl (mG ad ca g_472 a_473) H := hP
    have hD : va_D A (mG ad ca g_472 a_473) := hD
    have hfA : ∀ j, j ∉ ([2, 3, 4, 5, 7, 8, 9, 12, 15] : List Nat) → g_472 j = g j := fun j h => (hfr_475 j (fun q => h (by first | exact q | (simp only [List.mem_cons, List.not_mem_nil, or_false] at q ⊢ <;> omega)))).trans (hfA j h)
    have b_478 : g_472 1 = g 1 := hfA 1 (by decide)
    have b_479 := hfr_475 2 (by decide)
    have b_480 := hfr_475 3 (by decide)
    have b_481 := hfr_475 4 (by decide)
    have b_482 := hfr_475 5 (by decide)
    have b_483 := hfr_475 7 (by decide)
    have b_484 := hfr_475 8 (by decide)
    have b_485 := hfr_475 9 (by decide)
    have b_486 := hfr_475 15 (by decide)
    have haA : ∀ j, j ∉ ([2, 3, 4, 5, 6, 7, 8] : List Nat) → a_473 j = a j := fun j h => (hfr_476 j (fun q => h (by first | exact q | (simp only [List.mem_cons, List.not_mem_nil, or_false] at q ⊢ <;> omega)))).trans (haA j h)
    have h_469 : g_472 12 = g 12 + 1 := h_469
    have h_470 : a_473 3 = up (a 3) (g 12) (p1 - 1000) := h_470
    have h_471 : a_473 4 = up (a 4) (g 12) 0 := h_471
    have b_487 : g_472 1 = g 1 := hfr_475 1 (by decide)
    have b_488 : g_472 2 = g 2 := hfr_475 2 (by decide)
    have b_489 : g_472 3 = g 3 := hfr_475 3 (by decide)
    have b_490 : g_472 4 = g 4 := hfr_475 4 (by decide)
    have b_491 : g_472 7 = g 7 := hfr_475 7 (by decide)
    have b_492 : g_472 8 = g 8 := hfr_475 8 (by decide)
    have b_493 : g_472 9 = g 9 := hfr_475 9 (by decide)
    have b_494 : g_472 15 = g 15 := hfr_475 15 (by decide)
    have b_495 : g_472 5 = g 5 := hfr_475 5 (by decide)
    have t_496 : a_473 2 = a 2 := (hfr_476 2 (by decide)).trans rfl
    have t_497 : a_473 3 = up (a 3) (g 12) (p1 - 1000) := h_470.trans (up_c rfl (by omega) (by omega))
    have t_498 : a_473 4 = up (a 4) (g 12) 0 := h_471.trans (up_c rfl (by omega) (by omega))
    have t_499 : a_473 5 = a 5 := (hfr_476 5 (by decide)).trans rfl
    have t_500 : a_473 6 = a 6 := (hfr_476 6 (by decide)).trans rfl
    have t_501 : a_473 7 = a 7 := (hfr_476 7 (by decide)).trans rfl
    have t_502 : a_473 8 = a 8 := (hfr_476 8 (by decide)).trans rfl
    have b_503 : 0 ≤ g_472 12 ∧ g_472 12 ≤ 600 := hI.1 12
    refine lv_iconst (v := iI 1) hx hb dX13_steps_17 rfl ?_
    rw [← hQ]
    exact W.zret (v := iI 1) (ty := .boolean) hx hb hr (nb_bool (by omega) (by omega)) (fun t ht hW => ⟨⟨iI 1, (g_472, a_473), rfl, ⟨1, rfl, hI, hfA, haA, by omega, by show 1 = 0 ∨ (rPn g_472 a_473 (g_472 7) ∧ mz g_472 a_473 (g_472 7) < mz g a (g 7 + 1)); first | exact Or.inl rfl | exact (show 1 = 0 ∨ (rPn g_472 a_473 (g_472 7) ∧ mz g_472 a_473 (g_472 7) < mz g a (g 7 + 1)) by assumption) | exact Or.inr (st_do hrP1 (by omega) k1 (by omega) (by omega) (by omega) (by omega) (by omega) (by omega) t_497 t_498 t_499 t_500 t_501 t_502 (by omega) (by omega) (by omega) (by omega) t_496) | exact Or.inr (st_sg hrP1 (by omega) k1 (by omega) ⟨by omega, by omega, by omega, by omega, t_497, t_498, t_499, t_500, t_501, t_502⟩ (by omega) (by omega) (by omega) ⟨by omega, by omega, by omega⟩ t_496) | exact Or.inr (st_12 hrP1 (by omega) (by omega) ⟨by omega, by omega, by omega, by omega, t_497, t_498, t_499, t_500, t_501, t_502⟩ (by omega) (by omega) (by omega) (by omega) t_496) | exact Or.inr (st_13 hrP1 (by omega) (by omega) (by omega) (by omega) (by omega) (by omega) t_497 t_498 t_499 t_500 t_501 t_502 (by omega) (by omega) (by omega) (by omega) t_496) | exact Or.inr (st_1 hrP1 (by omega) (by omega) ⟨by omega, by omega, by omega, by omega, t_497, t_498, t_499, t_500, t_501, t_502⟩ (by omega) (by omega) (by omega) (by omega) (by omega) t_496) | exact Or.inr (st_3 hrP1 (by omega) (by omega) ⟨by omega, by omega, by omega, by omega, t_497, t_498, t_499, t_500, t_501, t_502⟩ (by omega) (by omega) (by omega) (by omega) (by omega) t_496) | exact Or.inr (st_6 hrP1 (by omega) (by omega) ⟨by omega, by omega, by omega, by omega, t_497, t_498, t_499, t_500, t_501, t_502⟩ (by omega) (by omega) (by omega) (by omega) (by omega) t_496) | exact Or.inr (st_8 hrP1 (by omega) (by omega) ⟨by omega, by omega, by omega, by omega, t_497, t_498, t_499, t_500, t_501, t_502⟩ (by omega) (by omega) (by omega) (by omega) (by omega) t_496), by show tkR tT tN g_472 a_473; first | assumption | exact tkR_t (by omega) (by omega) (by omega) (by omega) _ | exact tkR_t (by omega) (by omega) (by omega) (by omega) hrTk, by show nst tT tN g a g_472 a_473 1; exact nst_d (by omega) (by omega) (by omega) (by omega) (by omega) (by omega) t_496 t_499 (by omega)⟩, by rw [ht]; exact hP, va_K.moved hW.alike hK, hD⟩, hS.F ht⟩) hS.2.2 dX13_steps_18
