set_option maxHeartbeats 2000000 in
set_option maxRecDepth 100000 in
theorem sX13_skip (l : Launch) (dC : Nat → ClassId) (dI : Nat → Nat → Nat) (sz : Nat) (ad : Nat → Nat) (ca : Nat → ClassId) (sK sV : Nat → Nat) (g : Nat → Int) (a : Nat → Int → Int) (tT : Int → Int) (tN : Int) (hI : mI g a) (k1 : g 3 = 2) (hrM : rM g a) (hrTx : txR tT tN g a) (hrTk : tkR tT tN g a) : Met l yX13_skip (jk yX13_skip cX13_skip 1 (some .boolean)) ({ frames := 7, cells := 0, slots := 0, locals := 153 }) (va_Pc [.ref (ad 0)] (mP (dC, dI) (mG ad ca g a) (mT ca) sK sV sz)) (va_Qi (fun (r : Int32) (u : (Nat → Int) × (Nat → Int → Int)) => ∃ z : Int, r = iI z ∧ (mI u.1 u.2) ∧ (∀ j, j ∉ ([2, 3, 4, 5, 15] : List Nat) → u.1 j = g j) ∧ (∀ j, j ∉ ([7, 8] : List Nat) → u.2 j = a j) ∧ (0 ≤ z ∧ z ≤ 1) ∧ (z = 0 ∨ (rPn u.1 u.2 (u.1 7) ∧ mz u.1 u.2 (u.1 7) ≤ mB g)) ∧ (tkR tT tN u.1 u.2) ∧ (skR tT tN g a u.1 u.2 z)) (fun u t => va_P (dC, dI) vwCl (mG ad ca u.1 u.2) t.heap ∧ va_K (dC, dI) vwCl (mT ca) t ∧ va_D (va_A (mG ad ca g a) sz) (mG ad ca u.1 u.2)) (va_A (mG ad ca g a) sz)) 0 0 (va_A (mG ad ca g a) sz) := by
  refine Met.ofW (cc := cX13_skip) (maxL := 1) (ret := (some .boolean)) (by decide) rfl ?_
  intro p e s m args below meth c s₁ B hml hv
  obtain ⟨rfl, ⟨hsz, hP, hK, hD0⟩, hX0⟩ := hv
  have hx := B.exec
  have hb := B.bytes
  have hr := B.returns
  have hts := atoms_spec (ws := (jk yX13_skip cX13_skip 1 (some .boolean))) B.pre
  have hj : ∀ w ∈ jw, w.before ([.ref (ad 0)] : List Value).toArray s = true := fun w h => hts w (jm h)
  have hown : s.vm.findClass RX13 = some m.cls := findClass_of_methodNamed B.named
  subst hsz
  have hD := hD0.self (sz := s.heap.size)
  have hXs := hX0
  generalize hAe : (va_A (mG ad ca g a) s.heap.size) = A at hD hXs ⊢
  have hA : ∀ q : Nat, s.heap.size ≤ q → A q := fun q h => by rw [← hAe]; exact Or.inr h
  have hS : va_S A s.heap s.heap [] := va_S.rf
  have hP : va_P (dC, dI) vwCl (mG ad ca g a) s.heap := hP
  have hfA : ∀ j, j ∉ ([2, 3, 4, 5, 15] : List Nat) → g j = g j := fun _ _ => rfl
  have haA : ∀ j, j ∉ ([7, 8] : List Nat) → a j = a j := fun _ _ => rfl
  have hl := lv_entry ([.ref (ad 0)]) (n := 1) (Nat.le_of_ble_eq_true rfl)
  rw [lg_entry_eq]
  generalize (lg_sl ([.ref (ad 0)]) ++ List.replicate (1 - (lg_sl ([.ref (ad 0)])).length) Slot.unset).toArray = ls at hl ⊢
  have hl : lv_has ls 1 [(0, .ref (ad 0))] := hl
  generalize hQ : MQ below (va_Qi (fun (r : Int32) (u : (Nat → Int) × (Nat → Int → Int)) => ∃ z : Int, r = iI z ∧ (mI u.1 u.2) ∧ (∀ j, j ∉ ([2, 3, 4, 5, 15] : List Nat) → u.1 j = g j) ∧ (∀ j, j ∉ ([7, 8] : List Nat) → u.2 j = a j) ∧ (0 ≤ z ∧ z ≤ 1) ∧ (z = 0 ∨ (rPn u.1 u.2 (u.1 7) ∧ mz u.1 u.2 (u.1 7) ≤ mB g)) ∧ (tkR tT tN u.1 u.2) ∧ (skR tT tN g a u.1 u.2 z)) (fun u t => va_P (dC, dI) vwCl (mG ad ca u.1 u.2) t.heap ∧ va_K (dC, dI) vwCl (mT ca) t ∧ va_D A (mG ad ca u.1 u.2)) A) ([.ref (ad 0)] : List Value).toArray s 0 0 A = Q
  suffices ST : ∀ (H : Heap) (locs : List Loc), va_P (dC, dI) vwCl (mG ad ca g a) H → va_S A s.heap H locs → W p l e ({ frames := 7, cells := 0, slots := 0, locals := 153 }) s m ([.ref (ad 0)] : List Value).toArray below meth c H locs 0 0 Q (F0 m 0 ls []) from ST _ _ hP hS
  clear hP hS
  intro H locs hP hS
  obtain ⟨m1, m2, m3, m4, m5, m6, m7, m8, -, -⟩ := id hrM
  have b1_0 : 0 ≤ g 1 ∧ g 1 ≤ 600 := hI.1 1
  have b2_0 : 0 ≤ g 2 ∧ g 2 ≤ 600 := hI.1 2
  refine lv_aload_n hx hb dX13_skip_0 rfl (lv_at hl 0 rfl) ?_
  refine jcg_v (va_runV (As := []) (rest := []) ⟨hx, hb, hml, hown, hts⟩ (sX13_next l dC dI _ ad ca sK sV g a tT tN  hI (by omega) hrTx) (cwV 0 hts (jgoodV m_224 m_433 m_434 m_503 m_184) rfl rfl rfl (by decide +kernel) ⟨(Nat.le_of_ble_eq_true rfl), (Nat.le_of_ble_eq_true rfl)⟩) ⟨mP_blind, va_recv hK hP (ci := 13) (q0 := 0) rfl rfl, fun U hU hW => ⟨rfl, mP_of hU hW hP hK hD hXs hS (fun _ h => h) hA⟩⟩ rfl rfl hl.1 rfl (lv_room (Nat.le_of_ble_eq_true rfl)) dX13_skip_1 ⟨(Nat.le_of_ble_eq_true rfl), (Nat.le_of_ble_eq_true rfl)⟩) hD hS hA (fun u_12 H locs w_2 hP hK hD hS => ?_)
  obtain ⟨g_10, a_11⟩ := u_12
  obtain ⟨hI, hfr_13, hfr_14, h_4, h_5, h_6, h_7, h_8, h_9⟩ := w_2
  have hP : va_P (dC, dI) vwCl (mG ad ca g_10 a_11) H := hP
  have hD : va_D A (mG ad ca g_10 a_11) := hD
  have hfA : ∀ j, j ∉ ([2, 3, 4, 5, 15] : List Nat) → g_10 j = g j := fun j h => (hfr_13 j (fun q => h (by first | exact q | (simp only [List.mem_cons, List.not_mem_nil, or_false] at q ⊢ <;> omega)))).trans (hfA j h)
  have b_16 : g_10 1 = g 1 := hfA 1 (by decide)
  have b_17 : g_10 7 = g 7 := hfA 7 (by decide)
  have b_18 : g_10 8 = g 8 := hfA 8 (by decide)
  have b_19 : g_10 9 = g 9 := hfA 9 (by decide)
  have b_20 : g_10 12 = g 12 := hfA 12 (by decide)
  have b_21 := hfr_13 15 (by decide)
  have haA : ∀ j, j ∉ ([7, 8] : List Nat) → a_11 j = a j := fun j h => (hfr_14 j (fun q => h (by first | exact q | (simp only [List.mem_cons, List.not_mem_nil, or_false] at q ⊢ <;> omega)))).trans (haA j h)
  have h_4 : g 2 ≤ g_10 2 := h_4
  have h_5 : g_10 2 ≤ g 1 := h_5
  have h_6 : g_10 3 = 0 ∨ g 2 + 1 ≤ g_10 2 := h_6
  have h_7 : g_10 4 ≤ g_10 2 := h_7
  have h_8 : g_10 4 = scn (bB tT) tN (g 2) := h_8
  have h_9 : tkR tT tN g_10 a_11 := h_9
  have b_22 : g_10 1 = g 1 := hfr_13 1 (by decide)
  have b_23 : g_10 7 = g 7 := hfr_13 7 (by decide)
  have b_24 : g_10 8 = g 8 := hfr_13 8 (by decide)
  have b_25 : g_10 9 = g 9 := hfr_13 9 (by decide)
  have b_26 : g_10 12 = g 12 := hfr_13 12 (by decide)
  have b_27 : g_10 15 = g 15 := hfr_13 15 (by decide)
  have t_28 : a_11 2 = a 2 := (hfr_14 2 (by decide)).trans rfl
  have t_29 : a_11 3 = a 3 := (hfr_14 3 (by decide)).trans rfl
  have t_30 : a_11 4 = a 4 := (hfr_14 4 (by decide)).trans rfl
  have t_31 : a_11 5 = a 5 := (hfr_14 5 (by decide)).trans rfl
  have t_32 : a_11 6 = a 6 := (hfr_14 6 (by decide)).trans rfl
  have t_33 : a_11 7 = a 7 := (hfr_14 7 (by decide)).trans rfl
  have t_34 : a_11 8 = a 8 := (hfr_14 8 (by decide)).trans rfl
  have b_35 : 0 ≤ g_10 1 ∧ g_10 1 ≤ 600 := hI.1 1
  have b_36 : 0 ≤ g_10 2 ∧ g_10 2 ≤ 600 := hI.1 2
  have e9 : g_10 4 = scn (bB tT) tN (g 2) := h_8
  refine lv_aload_n hx hb dX13_skip_4 rfl (lv_at hl 0 rfl) ?_
  refine gf_token hx hb hj hown hK hP hI dX13_skip_5 (fun h_37 => ?_)
  refine lv_iconst (v := iI 2) hx hb dX13_skip_8 rfl ?_
  refine xr_icmp_ne (tgt := 34) hx hb dX13_skip_9 (by decide) (by omega) (by omega) (fun h_38 => ?_) (fun h_38 => ?_)
  · refine lv_iconst (v := iI 0) hx hb dX13_skip_34 rfl ?_
    rw [← hQ]
    exact W.zret (v := iI 0) (ty := .boolean) hx hb hr (nb_bool (by omega) (by omega)) (fun t ht hW => ⟨⟨iI 0, (g_10, a_11), rfl, ⟨0, rfl, hI, hfA, haA, by omega, by show 0 = 0 ∨ (rPn g_10 a_11 (g_10 7) ∧ mz g_10 a_11 (g_10 7) ≤ mB g); first | exact Or.inl rfl | exact Or.inr (st_sk (g1 := g_10) hrM (by omega) (by omega) (by omega) (by omega) (by omega) (by omega) (by omega) t_29 t_30 t_31 t_32 t_33 t_34 (by omega) (by omega) ⟨by omega, by omega, by omega⟩ ⟨by omega, by omega, by omega⟩ t_28), by show tkR tT tN g_10 a_11; first | assumption | exact tkR_t (by omega) (by omega) (by omega) (by omega) h_9 | exact tkR_t (by omega) (by omega) (by omega) (by omega) hrTk, by show skR tT tN g a g_10 a_11 0; first | exact skR_y hrTk (by omega) e9 h_9 (by omega) (by omega) (by omega) e8 t_28 (by omega) (by omega) t_31 (by omega) (by omega) | exact skR_n hrTk (by omega) e9 h_9 (by omega) (by omega) (by omega)⟩, by rw [ht]; exact hP, va_K.moved hW.alike hK, hD⟩, hS.F ht⟩) hS.2.2 dX13_skip_35
  · refine lv_aload_n hx hb dX13_skip_12 rfl (lv_at hl 0 rfl) ?_
    refine gf_at hx hb hj hown hK hP hI dX13_skip_13 (fun h_39 => ?_)
    refine lv_aload_n hx hb dX13_skip_16 rfl (lv_at hl 0 rfl) ?_
    refine gf_tokenAt hx hb hj hown hK hP hI dX13_skip_17 (fun h_40 => ?_)
    refine xr_sub hx hb dX13_skip_20 ?_
    refine lv_bipush (v := iI 8) hx hb dX13_skip_21 rfl ?_
    refine xr_icmp_gt (tgt := 34) hx hb dX13_skip_23 (by decide) (by omega) (by omega) (fun h_41 => ?_) (fun h_41 => ?_)
    · refine lv_iconst (v := iI 0) hx hb dX13_skip_34 rfl ?_
      rw [← hQ]
      exact W.zret (v := iI 0) (ty := .boolean) hx hb hr (nb_bool (by omega) (by omega)) (fun t ht hW => ⟨⟨iI 0, (g_10, a_11), rfl, ⟨0, rfl, hI, hfA, haA, by omega, by show 0 = 0 ∨ (rPn g_10 a_11 (g_10 7) ∧ mz g_10 a_11 (g_10 7) ≤ mB g); first | exact Or.inl rfl | exact Or.inr (st_sk (g1 := g_10) hrM (by omega) (by omega) (by omega) (by omega) (by omega) (by omega) (by omega) t_29 t_30 t_31 t_32 t_33 t_34 (by omega) (by omega) ⟨by omega, by omega, by omega⟩ ⟨by omega, by omega, by omega⟩ t_28), by show tkR tT tN g_10 a_11; first | assumption | exact tkR_t (by omega) (by omega) (by omega) (by omega) h_9 | exact tkR_t (by omega) (by omega) (by omega) (by omega) hrTk, by show skR tT tN g a g_10 a_11 0; first | exact skR_y hrTk (by omega) e9 h_9 (by omega) (by omega) (by omega) e8 t_28 (by omega) (by omega) t_31 (by omega) (by omega) | exact skR_n hrTk (by omega) e9 h_9 (by omega) (by omega) (by omega)⟩, by rw [ht]; exact hP, va_K.moved hW.alike hK, hD⟩, hS.F ht⟩) hS.2.2 dX13_skip_35
    · refine lv_aload_n hx hb dX13_skip_26 rfl (lv_at hl 0 rfl) ?_
      refine gf_skips hx hb hj hown hK hP hI dX13_skip_27 (fun h_42 => ?_)
      refine lv_iconst (v := iI 4) hx hb dX13_skip_30 rfl ?_
      refine xr_icmp_ne (tgt := 36) hx hb dX13_skip_31 (by decide) (by omega) (by omega) (fun h_43 => ?_) (fun h_43 => ?_)
      · refine lv_aload_n hx hb dX13_skip_36 rfl (lv_at hl 0 rfl) ?_
        refine gf_skipAt hx hb hj hown hK hP dX13_skip_37 ?_
        refine lv_aload_n hx hb dX13_skip_40 rfl (lv_at hl 0 rfl) ?_
        refine gf_skips hx hb hj hown hK hP hI dX13_skip_41 (fun h_44 => ?_)
        refine lv_aload_n hx hb dX13_skip_44 rfl (lv_at hl 0 rfl) ?_
        refine gf_tokenAt hx hb hj hown hK hP hI dX13_skip_45 (fun h_45 => ?_)
        refine st_skipAt hx hb hK hP hD hS hI (by omega) (by omega) (by omega) (by omega) dX13_skip_48 (fun a_46 H locs e_47 e_48 hI hP hD hS => ?_)
        have haA : ∀ j, j ∉ ([7, 8] : List Nat) → a_46 j = a j := fun j h => (e_47 j (fun q => h (q ▸ (by decide : 7 ∈ ([7, 8] : List Nat))))).trans (haA j h)
        have t_49 : a_46 2 = a 2 := (e_47 2 (by decide)).trans t_28
        have t_50 : a_46 3 = a 3 := (e_47 3 (by decide)).trans t_29
        have t_51 : a_46 4 = a 4 := (e_47 4 (by decide)).trans t_30
        have t_52 : a_46 5 = a 5 := (e_47 5 (by decide)).trans t_31
        have t_53 : a_46 6 = a 6 := (e_47 6 (by decide)).trans t_32
        have t_54 : a_46 7 = up (a 7) (g 15) (g_10 4) := e_48.trans (up_c t_33 (by omega) (by omega))
        have t_55 : a_46 8 = a 8 := (e_47 8 (by decide)).trans t_34
        refine lv_aload_n hx hb dX13_skip_49 rfl (lv_at hl 0 rfl) ?_
        refine gf_skipLong hx hb hj hown hK hP dX13_skip_50 ?_
        refine lv_aload_n hx hb dX13_skip_53 rfl (lv_at hl 0 rfl) ?_
        refine gf_skips hx hb hj hown hK hP hI dX13_skip_54 (fun h_56 => ?_)
        refine lv_aload_n hx hb dX13_skip_57 rfl (lv_at hl 0 rfl) ?_
        refine gf_at hx hb hj hown hK hP hI dX13_skip_58 (fun h_57 => ?_)
        refine lv_aload_n hx hb dX13_skip_61 rfl (lv_at hl 0 rfl) ?_
        refine gf_tokenAt hx hb hj hown hK hP hI dX13_skip_62 (fun h_58 => ?_)
        refine xr_sub hx hb dX13_skip_65 ?_
        refine st_skipLong hx hb hK hP hD hS hI (by omega) (by omega) (by omega) (by omega) dX13_skip_66 (fun a_59 H locs e_60 e_61 hI hP hD hS => ?_)
        have haA : ∀ j, j ∉ ([7, 8] : List Nat) → a_59 j = a j := fun j h => (e_60 j (fun q => h (q ▸ (by decide : 8 ∈ ([7, 8] : List Nat))))).trans (haA j h)
        have t_62 : a_59 2 = a 2 := (e_60 2 (by decide)).trans t_49
        have t_63 : a_59 3 = a 3 := (e_60 3 (by decide)).trans t_50
        have t_64 : a_59 4 = a 4 := (e_60 4 (by decide)).trans t_51
        have t_65 : a_59 5 = a 5 := (e_60 5 (by decide)).trans t_52
        have t_66 : a_59 6 = a 6 := (e_60 6 (by decide)).trans t_53
        have t_67 : a_59 7 = up (a 7) (g 15) (g_10 4) := (e_60 7 (by decide)).trans t_54
        have t_68 : a_59 8 = up (a 8) (g 15) (((g_10 2)) - ((g_10 4))) := e_61.trans (up_c t_55 (by omega) (by omega))
        refine lv_aload_n hx hb dX13_skip_67 rfl (lv_at hl 0 rfl) ?_
        refine lv_dup hx hb dX13_skip_68 rfl ?_
        refine gf_skips hx hb hj hown hK hP hI dX13_skip_69 (fun h_69 => ?_)
        refine lv_iconst (v := iI 1) hx hb dX13_skip_72 rfl ?_
        refine xr_add hx hb dX13_skip_73 ?_
        refine pf_skips hx hb hj hown hK hP hD hS hI (by omega) (by omega) dX13_skip_74 (fun g_70 H locs e_71 e_72 hI hP hD hS => ?_)
        have hfA : ∀ j, j ∉ ([2, 3, 4, 5, 15] : List Nat) → g_70 j = g j := fun j h => (e_71 j (fun q => h (q ▸ (by decide : 15 ∈ ([2, 3, 4, 5, 15] : List Nat))))).trans (hfA j h)
        have b_73 := e_71 2 (by decide)
        have b_74 := e_71 3 (by decide)
        have b_75 := e_71 4 (by decide)
        have b_76 := e_71 5 (by decide)
        have b_77 : g_70 1 = g 1 := hfA 1 (by decide)
        have b_78 : g_70 7 = g 7 := hfA 7 (by decide)
        have b_79 : g_70 8 = g 8 := hfA 8 (by decide)
        have b_80 : g_70 9 = g 9 := hfA 9 (by decide)
        have b_81 : g_70 12 = g 12 := hfA 12 (by decide)
        have b_82 := e_71 1 (by decide)
        have b_83 := e_71 2 (by decide)
        have b_84 := e_71 3 (by decide)
        have b_85 := e_71 4 (by decide)
        have b_86 := e_71 7 (by decide)
        have b_87 := e_71 8 (by decide)
        have b_88 := e_71 9 (by decide)
        have b_89 := e_71 12 (by decide)
        have b_90 := e_71 5 (by decide)
        refine lv_aload_n hx hb dX13_skip_77 rfl (lv_at hl 0 rfl) ?_
        refine jcg_i (va_runV (As := []) (rest := []) ⟨hx, hb, hml, hown, hts⟩ (sX13_takes l dC dI _ ad ca sK sV g_70 a_59 tT tN  hI (by omega) (txR_t (hfA 1 (by decide)) (haA 1 (by decide)) hrTx)) (cwV 0 hts (jgoodV m_228 m_480 m_481 m_503 m_208) rfl rfl rfl (by decide +kernel) ⟨(Nat.le_of_ble_eq_true rfl), (Nat.le_of_ble_eq_true rfl)⟩) ⟨mP_blind, va_recv hK hP (ci := 13) (q0 := 0) rfl rfl, fun U hU hW => ⟨rfl, mP_of hU hW hP hK hD hXs hS (fun _ h => h) hA⟩⟩ rfl rfl hl.1 rfl (lv_room (Nat.le_of_ble_eq_true rfl)) dX13_skip_78 ⟨(Nat.le_of_ble_eq_true rfl), (Nat.le_of_ble_eq_true rfl)⟩) hD hS hA (fun r_91 u_104 H locs w_92 hP hK hD hS => ?_)
        obtain ⟨g_102, a_103⟩ := u_104
        obtain ⟨z_93, rfl, hI, hfr_105, hfr_106, h_94, h_95, h_96, h_97, h_98, h_99, h_100, h_101⟩ := w_92
        have hP : va_P (dC, dI) vwCl (mG ad ca g_102 a_103) H := hP
        have hD : va_D A (mG ad ca g_102 a_103) := hD
        have hfA : ∀ j, j ∉ ([2, 3, 4, 5, 15] : List Nat) → g_102 j = g j := fun j h => (hfr_105 j (fun q => h (by first | exact q | (simp only [List.mem_cons, List.not_mem_nil, or_false] at q ⊢ <;> omega)))).trans (hfA j h)
        have b_108 : g_102 1 = g 1 := hfA 1 (by decide)
        have b_109 : g_102 7 = g 7 := hfA 7 (by decide)
        have b_110 : g_102 8 = g 8 := hfA 8 (by decide)
        have b_111 : g_102 9 = g 9 := hfA 9 (by decide)
        have b_112 : g_102 12 = g 12 := hfA 12 (by decide)
        have b_113 := hfr_105 15 (by decide)
        have haA : ∀ j, j ∉ ([7, 8] : List Nat) → a_103 j = a j := fun j h => (hfr_106 j (fun q => h (by first | exact q | (simp only [List.mem_cons, List.not_mem_nil, or_false] at q ⊢ <;> omega)))).trans (haA j h)
        have h_96 : g_70 2 ≤ g_102 2 := h_96
        have h_97 : g_102 2 ≤ g_70 1 := h_97
        have h_98 : g_102 3 = 0 ∨ g_70 2 + 1 ≤ g_102 2 := h_98
        have h_99 : g_102 4 ≤ g_102 2 := h_99
        have h_100 : g_102 4 = scn (bB tT) tN (g_70 2) := h_100
        have h_101 : tkR tT tN g_102 a_103 := h_101
        have b_114 : g_102 1 = g_70 1 := hfr_105 1 (by decide)
        have b_115 : g_102 7 = g_70 7 := hfr_105 7 (by decide)
        have b_116 : g_102 8 = g_70 8 := hfr_105 8 (by decide)
        have b_117 : g_102 9 = g_70 9 := hfr_105 9 (by decide)
        have b_118 : g_102 12 = g_70 12 := hfr_105 12 (by decide)
        have b_119 : g_102 15 = g_70 15 := hfr_105 15 (by decide)
        have t_120 : a_103 2 = a 2 := (hfr_106 2 (by decide)).trans t_62
        have t_121 : a_103 3 = a 3 := (hfr_106 3 (by decide)).trans t_63
        have t_122 : a_103 4 = a 4 := (hfr_106 4 (by decide)).trans t_64
        have t_123 : a_103 5 = a 5 := (hfr_106 5 (by decide)).trans t_65
        have t_124 : a_103 6 = a 6 := (hfr_106 6 (by decide)).trans t_66
        have t_125 : a_103 7 = up (a 7) (g 15) (g_10 4) := (hfr_106 7 (by decide)).trans t_67
        have t_126 : a_103 8 = up (a 8) (g 15) (((g_10 2)) - ((g_10 4))) := (hfr_106 8 (by decide)).trans t_68
        have b_127 : 0 ≤ g_102 1 ∧ g_102 1 ≤ 600 := hI.1 1
        have b_128 : 0 ≤ g_102 2 ∧ g_102 2 ≤ 600 := hI.1 2
        have e8 : g_102 4 = scn (bB tT) tN (g_10 2) := by rw [show g_10 2 = g_70 2 by omega]; exact h_100
        rw [← hQ]
        exact W.zret (v := iI z_93) (ty := .boolean) hx hb hr (nb_bool (by omega) (by omega)) (fun t ht hW => ⟨⟨iI z_93, (g_102, a_103), rfl, ⟨z_93, rfl, hI, hfA, haA, by omega, by show z_93 = 0 ∨ (rPn g_102 a_103 (g_102 7) ∧ mz g_102 a_103 (g_102 7) ≤ mB g); first | exact Or.inl rfl | exact Or.inr (st_sk (g1 := g_10) hrM (by omega) (by omega) (by omega) (by omega) (by omega) (by omega) (by omega) t_121 t_122 t_123 t_124 t_125 t_126 (by omega) (by omega) ⟨by omega, by omega, by omega⟩ ⟨by omega, by omega, by omega⟩ t_120), by show tkR tT tN g_102 a_103; first | assumption | exact tkR_t (by omega) (by omega) (by omega) (by omega) h_101 | exact tkR_t (by omega) (by omega) (by omega) (by omega) hrTk, by show skR tT tN g a g_102 a_103 z_93; first | exact skR_y hrTk (by omega) e9 h_9 (by omega) (by omega) (by omega) e8 t_120 (by omega) (by omega) t_123 (by omega) (by omega) | exact skR_n hrTk (by omega) e9 h_9 (by omega) (by omega) (by omega)⟩, by rw [ht]; exact hP, va_K.moved hW.alike hK, hD⟩, hS.F ht⟩) hS.2.2 dX13_skip_81
      · refine lv_iconst (v := iI 0) hx hb dX13_skip_34 rfl ?_
        rw [← hQ]
        exact W.zret (v := iI 0) (ty := .boolean) hx hb hr (nb_bool (by omega) (by omega)) (fun t ht hW => ⟨⟨iI 0, (g_10, a_11), rfl, ⟨0, rfl, hI, hfA, haA, by omega, by show 0 = 0 ∨ (rPn g_10 a_11 (g_10 7) ∧ mz g_10 a_11 (g_10 7) ≤ mB g); first | exact Or.inl rfl | exact Or.inr (st_sk (g1 := g_10) hrM (by omega) (by omega) (by omega) (by omega) (by omega) (by omega) (by omega) t_29 t_30 t_31 t_32 t_33 t_34 (by omega) (by omega) ⟨by omega, by omega, by omega⟩ ⟨by omega, by omega, by omega⟩ t_28), by show tkR tT tN g_10 a_11; first | assumption | exact tkR_t (by omega) (by omega) (by omega) (by omega) h_9 | exact tkR_t (by omega) (by omega) (by omega) (by omega) hrTk, by show skR tT tN g a g_10 a_11 0; first | exact skR_y hrTk (by omega) e9 h_9 (by omega) (by omega) (by omega) e8 t_28 (by omega) (by omega) t_31 (by omega) (by omega) | exact skR_n hrTk (by omega) e9 h_9 (by omega) (by omega) (by omega)⟩, by rw [ht]; exact hP, va_K.moved hW.alike hK, hD⟩, hS.F ht⟩) hS.2.2 dX13_skip_35
set_option maxHeartbeats 2000000 in
set_option maxRecDepth 100000 in
theorem sX13_choice (l : Launch) (dC : Nat → ClassId) (dI : Nat → Nat → Nat) (sz : Nat) (ad : Nat → Nat) (ca : Nat → ClassId) (sK sV : Nat → Nat) (g : Nat → Int) (a : Nat → Int → Int) (tT : Int → Int) (tN : Int) (p1 : Int) (hI : mI g a) (q1 : rg p1) (k1 : p1 = 1 ∨ p1 = 2) (k2 : g 3 = 2) (hrM : rM g a) (hrTx : txR tT tN g a) (hrTk : tkR tT tN g a) : Met l yX13_choice (jk yX13_choice cX13_choice 5 (some .boolean)) ({ frames := 7, cells := 0, slots := 0, locals := 153 }) (va_Pc [.ref (ad 0), .int (iI p1)] (mP (dC, dI) (mG ad ca g a) (mT ca) sK sV sz)) (va_Qi (fun (r : Int32) (u : (Nat → Int) × (Nat → Int → Int)) => ∃ z : Int, r = iI z ∧ (mI u.1 u.2) ∧ (∀ j, j ∉ ([2, 3, 4, 5, 12] : List Nat) → u.1 j = g j) ∧ (∀ j, j ∉ ([3, 4, 5, 6] : List Nat) → u.2 j = a j) ∧ (0 ≤ z ∧ z ≤ 1) ∧ (z = 0 ∨ (rPn u.1 u.2 (u.1 7) ∧ mz u.1 u.2 (u.1 7) ≤ mB g)) ∧ (tkR tT tN u.1 u.2) ∧ (chR tT tN g a u.1 u.2 p1 z)) (fun u t => va_P (dC, dI) vwCl (mG ad ca u.1 u.2) t.heap ∧ va_K (dC, dI) vwCl (mT ca) t ∧ va_D (va_A (mG ad ca g a) sz) (mG ad ca u.1 u.2)) (va_A (mG ad ca g a) sz)) 0 0 (va_A (mG ad ca g a) sz) := by
  refine Met.ofW (cc := cX13_choice) (maxL := 5) (ret := (some .boolean)) (by decide) rfl ?_
  intro p e s m args below meth c s₁ B hml hv
  obtain ⟨rfl, ⟨hsz, hP, hK, hD0⟩, hX0⟩ := hv
  have hx := B.exec
  have hb := B.bytes
  have hr := B.returns
  have hts := atoms_spec (ws := (jk yX13_choice cX13_choice 5 (some .boolean))) B.pre
  have hj : ∀ w ∈ jw, w.before ([.ref (ad 0), .int (iI p1)] : List Value).toArray s = true := fun w h => hts w (jm h)
  have hown : s.vm.findClass RX13 = some m.cls := findClass_of_methodNamed B.named
  subst hsz
  have hD := hD0.self (sz := s.heap.size)
  have hXs := hX0
  generalize hAe : (va_A (mG ad ca g a) s.heap.size) = A at hD hXs ⊢
  have hA : ∀ q : Nat, s.heap.size ≤ q → A q := fun q h => by rw [← hAe]; exact Or.inr h
  have hS : va_S A s.heap s.heap [] := va_S.rf
  have hP : va_P (dC, dI) vwCl (mG ad ca g a) s.heap := hP
  have hfA : ∀ j, j ∉ ([2, 3, 4, 5, 12] : List Nat) → g j = g j := fun _ _ => rfl
  have haA : ∀ j, j ∉ ([3, 4, 5, 6] : List Nat) → a j = a j := fun _ _ => rfl
  have hl := lv_entry ([.ref (ad 0), .int (iI p1)]) (n := 5) (Nat.le_of_ble_eq_true rfl)
  rw [lg_entry_eq]
  generalize (lg_sl ([.ref (ad 0), .int (iI p1)]) ++ List.replicate (5 - (lg_sl ([.ref (ad 0), .int (iI p1)])).length) Slot.unset).toArray = ls at hl ⊢
  have hl : lv_has ls 5 [(0, .ref (ad 0)), (1, .int (iI p1))] := hl
  generalize hQ : MQ below (va_Qi (fun (r : Int32) (u : (Nat → Int) × (Nat → Int → Int)) => ∃ z : Int, r = iI z ∧ (mI u.1 u.2) ∧ (∀ j, j ∉ ([2, 3, 4, 5, 12] : List Nat) → u.1 j = g j) ∧ (∀ j, j ∉ ([3, 4, 5, 6] : List Nat) → u.2 j = a j) ∧ (0 ≤ z ∧ z ≤ 1) ∧ (z = 0 ∨ (rPn u.1 u.2 (u.1 7) ∧ mz u.1 u.2 (u.1 7) ≤ mB g)) ∧ (tkR tT tN u.1 u.2) ∧ (chR tT tN g a u.1 u.2 p1 z)) (fun u t => va_P (dC, dI) vwCl (mG ad ca u.1 u.2) t.heap ∧ va_K (dC, dI) vwCl (mT ca) t ∧ va_D A (mG ad ca u.1 u.2)) A) ([.ref (ad 0), .int (iI p1)] : List Value).toArray s 0 0 A = Q
  suffices ST : ∀ (H : Heap) (locs : List Loc), va_P (dC, dI) vwCl (mG ad ca g a) H → va_S A s.heap H locs → W p l e ({ frames := 7, cells := 0, slots := 0, locals := 153 }) s m ([.ref (ad 0), .int (iI p1)] : List Value).toArray below meth c H locs 0 0 Q (F0 m 0 ls []) from ST _ _ hP hS
  clear hP hS
  intro H locs hP hS
  obtain ⟨m1, m2, m3, m4, m5, m6, m7, m8, -, -⟩ := id hrM
  have b1_0 : 0 ≤ g 1 ∧ g 1 ≤ 600 := hI.1 1
  have b2_0 : 0 ≤ g 2 ∧ g 2 ≤ 600 := hI.1 2
  refine lv_iload_n hx hb dX13_choice_0 rfl (lv_at hl 1 rfl) ?_
  refine lv_iconst (v := iI 1) hx hb dX13_choice_1 rfl ?_
  have J10 : ∀ (s0_10 : Int) (H : Heap) (locs : List Loc) (ls : Array Slot), (0 ≤ s0_10 ∧ s0_10 ≤ 1) → ((s0_10 = 0 ∧ p1 = 1) ∨ (s0_10 = 1 ∧ p1 = 2)) → va_P (dC, dI) vwCl (mG ad ca g a) H → va_D A (mG ad ca g a) → va_S A s.heap H locs → lv_has ls 5 [(0, .ref (ad 0)), (1, .int (iI p1))] → W p l e ({ frames := 7, cells := 0, slots := 0, locals := 153 }) s m ([.ref (ad 0), .int (iI p1)] : List Value).toArray below meth c H locs 0 0 Q (F0 m 10 ls [.int (iI s0_10)]) := by
    intro s0_10 H locs ls h_1 h_2 hP hD hS hl
    refine lv_istore_n (lv' := [(2, .int (iI s0_10)), (0, .ref (ad 0)), (1, .int (iI p1))]) hx hb dX13_choice_10 rfl hl (by decide) rfl (fun ls hl => ?_)
    refine lv_aload_n hx hb dX13_choice_11 rfl (lv_at hl 1 rfl) ?_
    refine gf_slotBegin hx hb hj hown hK hP dX13_choice_12 ?_
    refine lv_iload_n hx hb dX13_choice_15 rfl (lv_at hl 0 rfl) ?_
    refine ld_slotBegin hx hb hK hP hI (by omega) (by omega) dX13_choice_16 (fun h_3 => ?_)
    refine lv_iconst (v := iI (-1)) hx hb dX13_choice_17 rfl ?_
    refine xr_icmp_eq (tgt := 23) hx hb dX13_choice_18 (by decide) (by omega) (by omega) (fun h_4 => ?_) (fun h_4 => ?_)
    · refine lv_aload_n hx hb dX13_choice_23 rfl (lv_at hl 1 rfl) ?_
      refine jcg_v (va_runV (As := []) (rest := []) ⟨hx, hb, hml, hown, hts⟩ (sX13_next l dC dI _ ad ca sK sV g a tT tN  hI (by omega) hrTx) (cwV 0 hts (jgoodV m_224 m_433 m_434 m_503 m_184) rfl rfl rfl (by decide +kernel) ⟨(Nat.le_of_ble_eq_true rfl), (Nat.le_of_ble_eq_true rfl)⟩) ⟨mP_blind, va_recv hK hP (ci := 13) (q0 := 0) rfl rfl, fun U hU hW => ⟨rfl, mP_of hU hW hP hK hD hXs hS (fun _ h => h) hA⟩⟩ rfl rfl hl.1 rfl (lv_room (Nat.le_of_ble_eq_true rfl)) dX13_choice_24 ⟨(Nat.le_of_ble_eq_true rfl), (Nat.le_of_ble_eq_true rfl)⟩) hD hS hA (fun u_16 H locs w_6 hP hK hD hS => ?_)
      obtain ⟨g_14, a_15⟩ := u_16
      obtain ⟨hI, hfr_17, hfr_18, h_8, h_9, h_10, h_11, h_12, h_13⟩ := w_6
      have hP : va_P (dC, dI) vwCl (mG ad ca g_14 a_15) H := hP
      have hD : va_D A (mG ad ca g_14 a_15) := hD
      have hfA : ∀ j, j ∉ ([2, 3, 4, 5, 12] : List Nat) → g_14 j = g j := fun j h => (hfr_17 j (fun q => h (by first | exact q | (simp only [List.mem_cons, List.not_mem_nil, or_false] at q ⊢ <;> omega)))).trans (hfA j h)
      have b_20 : g_14 1 = g 1 := hfA 1 (by decide)
      have b_21 : g_14 7 = g 7 := hfA 7 (by decide)
      have b_22 : g_14 8 = g 8 := hfA 8 (by decide)
      have b_23 : g_14 9 = g 9 := hfA 9 (by decide)
      have b_24 : g_14 15 = g 15 := hfA 15 (by decide)
      have b_25 := hfr_17 12 (by decide)
      have haA : ∀ j, j ∉ ([3, 4, 5, 6] : List Nat) → a_15 j = a j := fun j h => (hfr_18 j (fun q => h (by first | exact q | (simp only [List.mem_cons, List.not_mem_nil, or_false] at q ⊢ <;> omega)))).trans (haA j h)
      have h_8 : g 2 ≤ g_14 2 := h_8
      have h_9 : g_14 2 ≤ g 1 := h_9
      have h_10 : g_14 3 = 0 ∨ g 2 + 1 ≤ g_14 2 := h_10
      have h_11 : g_14 4 ≤ g_14 2 := h_11
      have h_12 : g_14 4 = scn (bB tT) tN (g 2) := h_12
      have h_13 : tkR tT tN g_14 a_15 := h_13
      have b_26 : g_14 1 = g 1 := hfr_17 1 (by decide)
      have b_27 : g_14 7 = g 7 := hfr_17 7 (by decide)
      have b_28 : g_14 8 = g 8 := hfr_17 8 (by decide)
      have b_29 : g_14 9 = g 9 := hfr_17 9 (by decide)
      have b_30 : g_14 12 = g 12 := hfr_17 12 (by decide)
      have b_31 : g_14 15 = g 15 := hfr_17 15 (by decide)
      have t_32 : a_15 2 = a 2 := (hfr_18 2 (by decide)).trans rfl
      have t_33 : a_15 3 = a 3 := (hfr_18 3 (by decide)).trans rfl
      have t_34 : a_15 4 = a 4 := (hfr_18 4 (by decide)).trans rfl
      have t_35 : a_15 5 = a 5 := (hfr_18 5 (by decide)).trans rfl
      have t_36 : a_15 6 = a 6 := (hfr_18 6 (by decide)).trans rfl
      have t_37 : a_15 7 = a 7 := (hfr_18 7 (by decide)).trans rfl
      have t_38 : a_15 8 = a 8 := (hfr_18 8 (by decide)).trans rfl
      have b_39 : 0 ≤ g_14 1 ∧ g_14 1 ≤ 600 := hI.1 1
      have b_40 : 0 ≤ g_14 2 ∧ g_14 2 ≤ 600 := hI.1 2
      have e9 : g_14 4 = scn (bB tT) tN (g 2) := h_12
      refine lv_iload_n hx hb dX13_choice_27 rfl (lv_at hl 2 rfl) ?_
      refine lv_iconst (v := iI 1) hx hb dX13_choice_28 rfl ?_
      have J39 : ∀ (s0_39 : Int) (H : Heap) (locs : List Loc) (ls : Array Slot), (9 ≤ s0_39 ∧ s0_39 ≤ 11) → ((p1 = 1 ∧ s0_39 = 9) ∨ (p1 ≠ 1 ∧ s0_39 = 11)) → va_P (dC, dI) vwCl (mG ad ca g_14 a_15) H → va_D A (mG ad ca g_14 a_15) → va_S A s.heap H locs → lv_has ls 5 [(2, .int (iI s0_10)), (0, .ref (ad 0)), (1, .int (iI p1))] → W p l e ({ frames := 7, cells := 0, slots := 0, locals := 153 }) s m ([.ref (ad 0), .int (iI p1)] : List Value).toArray below meth c H locs 0 0 Q (F0 m 39 ls [.int (iI s0_39)]) := by
        intro s0_39 H locs ls h_41 h_42 hP hD hS hl
        refine lv_istore_n (lv' := [(3, .int (iI s0_39)), (2, .int (iI s0_10)), (0, .ref (ad 0)), (1, .int (iI p1))]) hx hb dX13_choice_39 rfl hl (by decide) rfl (fun ls hl => ?_)
        refine lv_iload_n hx hb dX13_choice_40 rfl (lv_at hl 3 rfl) ?_
        refine lv_iconst (v := iI 1) hx hb dX13_choice_41 rfl ?_
        have J52 : ∀ (s0_52 : Int) (H : Heap) (locs : List Loc) (ls : Array Slot), (10 ≤ s0_52 ∧ s0_52 ≤ 12) → ((p1 = 1 ∧ s0_52 = 10) ∨ (p1 ≠ 1 ∧ s0_52 = 12)) → va_P (dC, dI) vwCl (mG ad ca g_14 a_15) H → va_D A (mG ad ca g_14 a_15) → va_S A s.heap H locs → lv_has ls 5 [(3, .int (iI s0_39)), (2, .int (iI s0_10)), (0, .ref (ad 0)), (1, .int (iI p1))] → W p l e ({ frames := 7, cells := 0, slots := 0, locals := 153 }) s m ([.ref (ad 0), .int (iI p1)] : List Value).toArray below meth c H locs 0 0 Q (F0 m 52 ls [.int (iI s0_52)]) := by
          intro s0_52 H locs ls h_43 h_44 hP hD hS hl
          refine lv_istore (lv' := [(4, .int (iI s0_52)), (3, .int (iI s0_39)), (2, .int (iI s0_10)), (0, .ref (ad 0)), (1, .int (iI p1))]) hx hb dX13_choice_52 hl (by decide) rfl (fun ls hl => ?_)
          refine lv_aload_n hx hb dX13_choice_54 rfl (lv_at hl 3 rfl) ?_
          refine lv_iload_n hx hb dX13_choice_55 rfl (lv_at hl 1 rfl) ?_
          refine jc_i (va_runV (As := [.int (iI s0_39)]) (rest := []) ⟨hx, hb, hml, hown, hts⟩ (sX13_isWord l dC dI _ ad ca g_14 a_15 s0_39 hI (by omega)) (cwV 1 hts (jgoodV m_236 m_396 m_397 m_503 m_165) rfl rfl rfl (by decide +kernel) ⟨(Nat.le_of_ble_eq_true rfl), (Nat.le_of_ble_eq_true rfl)⟩) ⟨jw_blind, va_recv hK hP (ci := 13) (q0 := 0) rfl rfl, fun U hU hW => ⟨rfl, jw_of hU hW hP hK hD⟩⟩ rfl rfl hl.1 rfl (lv_room (Nat.le_of_ble_eq_true rfl)) dX13_choice_56 ⟨(Nat.le_of_ble_eq_true rfl), (Nat.le_of_ble_eq_true rfl)⟩) hP hS hA (fun r_45 H locs w_46 hP hS => ?_)
          obtain ⟨z_47, rfl, h_48, h_49⟩ := w_46
          have b_50 : 0 ≤ g_14 3 ∧ g_14 3 ≤ 4 := hI.1 3
          have J73 : ∀ (H : Heap) (locs : List Loc) (ls : Array Slot), (g_14 3 = 2) → ((p1 = 1 ∧ (g_14 5 = 9 ∨ g_14 5 = 10)) ∨ (p1 = 2 ∧ (g_14 5 = 11 ∨ g_14 5 = 12))) → va_P (dC, dI) vwCl (mG ad ca g_14 a_15) H → va_D A (mG ad ca g_14 a_15) → va_S A s.heap H locs → lv_has ls 5 [(4, .int (iI s0_52)), (3, .int (iI s0_39)), (2, .int (iI s0_10)), (0, .ref (ad 0)), (1, .int (iI p1))] → W p l e ({ frames := 7, cells := 0, slots := 0, locals := 153 }) s m ([.ref (ad 0), .int (iI p1)] : List Value).toArray below meth c H locs 0 0 Q (F0 m 73 ls []) := by
            intro H locs ls h_51 h_52 hP hD hS hl
            refine lv_aload_n hx hb dX13_choice_73 rfl (lv_at hl 3 rfl) ?_
            refine gf_slotBegin hx hb hj hown hK hP dX13_choice_74 ?_
            refine lv_iload_n hx hb dX13_choice_77 rfl (lv_at hl 2 rfl) ?_
            refine lv_aload_n hx hb dX13_choice_78 rfl (lv_at hl 3 rfl) ?_
            refine gf_doing hx hb hj hown hK hP hI dX13_choice_79 (fun h_53 => ?_)
            refine st_slotBegin hx hb hK hP hD hS hI (by omega) (by omega) (by omega) (by omega) dX13_choice_82 (fun a_54 H locs e_55 e_56 hI hP hD hS => ?_)
            have haA : ∀ j, j ∉ ([3, 4, 5, 6] : List Nat) → a_54 j = a j := fun j h => (e_55 j (fun q => h (q ▸ (by decide : 5 ∈ ([3, 4, 5, 6] : List Nat))))).trans (haA j h)
            have t_57 : a_54 2 = a 2 := (e_55 2 (by decide)).trans t_32
            have t_58 : a_54 3 = a 3 := (e_55 3 (by decide)).trans t_33
            have t_59 : a_54 4 = a 4 := (e_55 4 (by decide)).trans t_34
            have t_60 : a_54 5 = up (a 5) s0_10 (g 12) := e_56.trans (up_c t_35 (by omega) (by omega))
            have t_61 : a_54 6 = a 6 := (e_55 6 (by decide)).trans t_36
            have t_62 : a_54 7 = a 7 := (e_55 7 (by decide)).trans t_37
            have t_63 : a_54 8 = a 8 := (e_55 8 (by decide)).trans t_38
            refine lv_aload_n hx hb dX13_choice_83 rfl (lv_at hl 3 rfl) ?_
            refine lv_iconst (v := iI 0) hx hb dX13_choice_84 rfl ?_
            refine lv_aload_n hx hb dX13_choice_85 rfl (lv_at hl 3 rfl) ?_
            refine lv_iload_n hx hb dX13_choice_86 rfl (lv_at hl 1 rfl) ?_
            refine jc_i (va_runV (As := [.int (iI s0_39)]) (rest := [.int (iI 0), .ref (ad 0)]) ⟨hx, hb, hml, hown, hts⟩ (sX13_isWord l dC dI _ ad ca g_14 a_54 s0_39 hI (by omega)) (cwV 1 hts (jgoodV m_236 m_396 m_397 m_503 m_165) rfl rfl rfl (by decide +kernel) ⟨(Nat.le_of_ble_eq_true rfl), (Nat.le_of_ble_eq_true rfl)⟩) ⟨jw_blind, va_recv hK hP (ci := 13) (q0 := 0) rfl rfl, fun U hU hW => ⟨rfl, jw_of hU hW hP hK hD⟩⟩ rfl rfl hl.1 rfl (lv_room (Nat.le_of_ble_eq_true rfl)) dX13_choice_87 ⟨(Nat.le_of_ble_eq_true rfl), (Nat.le_of_ble_eq_true rfl)⟩) hP hS hA (fun r_64 H locs w_65 hP hS => ?_)
            obtain ⟨z_66, rfl, h_67, h_68⟩ := w_65
            have b_69 : 0 ≤ g_14 3 ∧ g_14 3 ≤ 4 := hI.1 3
            have J98 : ∀ (s0_98 : Int) (H : Heap) (locs : List Loc) (ls : Array Slot), (0 ≤ s0_98 ∧ s0_98 ≤ 1) → va_P (dC, dI) vwCl (mG ad ca g_14 a_54) H → va_D A (mG ad ca g_14 a_54) → va_S A s.heap H locs → lv_has ls 5 [(4, .int (iI s0_52)), (3, .int (iI s0_39)), (2, .int (iI s0_10)), (0, .ref (ad 0)), (1, .int (iI p1))] → W p l e ({ frames := 7, cells := 0, slots := 0, locals := 153 }) s m ([.ref (ad 0), .int (iI p1)] : List Value).toArray below meth c H locs 0 0 Q (F0 m 98 ls [.int (iI s0_98), .int (iI 0), .ref (ad 0)]) := by
              intro s0_98 H locs ls h_70 hP hD hS hl
              refine jcg_v (va_runV (As := [.int (iI 0), .int (iI s0_98)]) (rest := []) ⟨hx, hb, hml, hown, hts⟩ (sX13_emits l dC dI _ ad ca g_14 a_54 0 s0_98 hI (by omega) (by omega) (by omega)) (cwV 2 hts (jgoodV m_226 m_322 m_323 m_503 m_126) rfl rfl rfl (by decide +kernel) ⟨(Nat.le_of_ble_eq_true rfl), (Nat.le_of_ble_eq_true rfl)⟩) ⟨jw_blind, va_recv hK hP (ci := 13) (q0 := 0) rfl rfl, fun U hU hW => ⟨rfl, jw_of hU hW hP hK hD⟩⟩ rfl rfl hl.1 rfl (lv_room (Nat.le_of_ble_eq_true rfl)) dX13_choice_98 ⟨(Nat.le_of_ble_eq_true rfl), (Nat.le_of_ble_eq_true rfl)⟩) hD hS hA (fun u_79 H locs w_72 hP hK hD hS => ?_)
              obtain ⟨g_77, a_78⟩ := u_79
              obtain ⟨hI, hfr_80, hfr_81, h_74, h_75, h_76⟩ := w_72
              have hP : va_P (dC, dI) vwCl (mG ad ca g_77 a_78) H := hP
              have hD : va_D A (mG ad ca g_77 a_78) := hD
              have hfA : ∀ j, j ∉ ([2, 3, 4, 5, 12] : List Nat) → g_77 j = g j := fun j h => (hfr_80 j (fun q => h (by first | exact q | (simp only [List.mem_cons, List.not_mem_nil, or_false] at q ⊢ <;> omega)))).trans (hfA j h)
              have b_83 : g_77 1 = g 1 := hfA 1 (by decide)
              have b_84 : g_77 7 = g 7 := hfA 7 (by decide)
              have b_85 : g_77 8 = g 8 := hfA 8 (by decide)
              have b_86 : g_77 9 = g 9 := hfA 9 (by decide)
              have b_87 : g_77 15 = g 15 := hfA 15 (by decide)
              have b_88 := hfr_80 2 (by decide)
              have b_89 := hfr_80 3 (by decide)
              have b_90 := hfr_80 4 (by decide)
              have b_91 := hfr_80 5 (by decide)
              have haA : ∀ j, j ∉ ([3, 4, 5, 6] : List Nat) → a_78 j = a j := fun j h => (hfr_81 j (fun q => h (by first | exact q | (simp only [List.mem_cons, List.not_mem_nil, or_false] at q ⊢ <;> omega)))).trans (haA j h)
              have h_74 : g_77 12 = g_14 12 + 1 := h_74
              have h_75 : a_78 3 = up (a_54 3) (g_14 12) 0 := h_75
              have h_76 : a_78 4 = up (a_54 4) (g_14 12) s0_98 := h_76
              have b_92 : g_77 1 = g_14 1 := hfr_80 1 (by decide)
              have b_93 : g_77 2 = g_14 2 := hfr_80 2 (by decide)
              have b_94 : g_77 3 = g_14 3 := hfr_80 3 (by decide)
              have b_95 : g_77 4 = g_14 4 := hfr_80 4 (by decide)
              have b_96 : g_77 7 = g_14 7 := hfr_80 7 (by decide)
              have b_97 : g_77 8 = g_14 8 := hfr_80 8 (by decide)
              have b_98 : g_77 9 = g_14 9 := hfr_80 9 (by decide)
              have b_99 : g_77 15 = g_14 15 := hfr_80 15 (by decide)
              have b_100 : g_77 5 = g_14 5 := hfr_80 5 (by decide)
              have t_101 : a_78 2 = a 2 := (hfr_81 2 (by decide)).trans t_57
              have t_102 : a_78 3 = up (a 3) (g 12) 0 := h_75.trans (up_c t_58 (by omega) (by omega))
              have t_103 : a_78 4 = up (a 4) (g 12) s0_98 := h_76.trans (up_c t_59 (by omega) (by omega))
              have t_104 : a_78 5 = up (a 5) s0_10 (g 12) := (hfr_81 5 (by decide)).trans t_60
              have t_105 : a_78 6 = a 6 := (hfr_81 6 (by decide)).trans t_61
              have t_106 : a_78 7 = a 7 := (hfr_81 7 (by decide)).trans t_62
              have t_107 : a_78 8 = a 8 := (hfr_81 8 (by decide)).trans t_63
              have b_108 : 0 ≤ g_77 12 ∧ g_77 12 ≤ 600 := hI.1 12
              refine lv_aload_n hx hb dX13_choice_101 rfl (lv_at hl 3 rfl) ?_
              refine gf_slotEnd hx hb hj hown hK hP dX13_choice_102 ?_
              refine lv_iload_n hx hb dX13_choice_105 rfl (lv_at hl 2 rfl) ?_
              refine lv_aload_n hx hb dX13_choice_106 rfl (lv_at hl 3 rfl) ?_
              refine gf_doing hx hb hj hown hK hP hI dX13_choice_107 (fun h_109 => ?_)
              refine st_slotEnd hx hb hK hP hD hS hI (by omega) (by omega) (by omega) (by omega) dX13_choice_110 (fun a_110 H locs e_111 e_112 hI hP hD hS => ?_)
              have haA : ∀ j, j ∉ ([3, 4, 5, 6] : List Nat) → a_110 j = a j := fun j h => (e_111 j (fun q => h (q ▸ (by decide : 6 ∈ ([3, 4, 5, 6] : List Nat))))).trans (haA j h)
              have t_113 : a_110 2 = a 2 := (e_111 2 (by decide)).trans t_101
              have t_114 : a_110 3 = up (a 3) (g 12) 0 := (e_111 3 (by decide)).trans t_102
              have t_115 : a_110 4 = up (a 4) (g 12) s0_98 := (e_111 4 (by decide)).trans t_103
              have t_116 : a_110 5 = up (a 5) s0_10 (g 12) := (e_111 5 (by decide)).trans t_104
              have t_117 : a_110 6 = up (a 6) s0_10 (g 12 + 1) := e_112.trans (up_c t_105 (by omega) (by omega))
              have t_118 : a_110 7 = a 7 := (e_111 7 (by decide)).trans t_106
              have t_119 : a_110 8 = a 8 := (e_111 8 (by decide)).trans t_107
              refine lv_aload_n hx hb dX13_choice_111 rfl (lv_at hl 3 rfl) ?_
              refine jcg_i (va_runV (As := []) (rest := []) ⟨hx, hb, hml, hown, hts⟩ (sX13_takes l dC dI _ ad ca sK sV g_77 a_110 tT tN  hI (by omega) (txR_t (hfA 1 (by decide)) (haA 1 (by decide)) hrTx)) (cwV 0 hts (jgoodV m_228 m_480 m_481 m_503 m_208) rfl rfl rfl (by decide +kernel) ⟨(Nat.le_of_ble_eq_true rfl), (Nat.le_of_ble_eq_true rfl)⟩) ⟨mP_blind, va_recv hK hP (ci := 13) (q0 := 0) rfl rfl, fun U hU hW => ⟨rfl, mP_of hU hW hP hK hD hXs hS (fun _ h => h) hA⟩⟩ rfl rfl hl.1 rfl (lv_room (Nat.le_of_ble_eq_true rfl)) dX13_choice_112 ⟨(Nat.le_of_ble_eq_true rfl), (Nat.le_of_ble_eq_true rfl)⟩) hD hS hA (fun r_120 u_133 H locs w_121 hP hK hD hS => ?_)
              obtain ⟨g_131, a_132⟩ := u_133
              obtain ⟨z_122, rfl, hI, hfr_134, hfr_135, h_123, h_124, h_125, h_126, h_127, h_128, h_129, h_130⟩ := w_121
              have hP : va_P (dC, dI) vwCl (mG ad ca g_131 a_132) H := hP
              have hD : va_D A (mG ad ca g_131 a_132) := hD
              have hfA : ∀ j, j ∉ ([2, 3, 4, 5, 12] : List Nat) → g_131 j = g j := fun j h => (hfr_134 j (fun q => h (by first | exact q | (simp only [List.mem_cons, List.not_mem_nil, or_false] at q ⊢ <;> omega)))).trans (hfA j h)
              have b_137 : g_131 1 = g 1 := hfA 1 (by decide)
              have b_138 : g_131 7 = g 7 := hfA 7 (by decide)
              have b_139 : g_131 8 = g 8 := hfA 8 (by decide)
              have b_140 : g_131 9 = g 9 := hfA 9 (by decide)
              have b_141 : g_131 15 = g 15 := hfA 15 (by decide)
              have b_142 := hfr_134 12 (by decide)
              have haA : ∀ j, j ∉ ([3, 4, 5, 6] : List Nat) → a_132 j = a j := fun j h => (hfr_135 j (fun q => h (by first | exact q | (simp only [List.mem_cons, List.not_mem_nil, or_false] at q ⊢ <;> omega)))).trans (haA j h)
              have h_125 : g_77 2 ≤ g_131 2 := h_125
              have h_126 : g_131 2 ≤ g_77 1 := h_126
              have h_127 : g_131 3 = 0 ∨ g_77 2 + 1 ≤ g_131 2 := h_127
              have h_128 : g_131 4 ≤ g_131 2 := h_128
              have h_129 : g_131 4 = scn (bB tT) tN (g_77 2) := h_129
              have h_130 : tkR tT tN g_131 a_132 := h_130
              have b_143 : g_131 1 = g_77 1 := hfr_134 1 (by decide)
              have b_144 : g_131 7 = g_77 7 := hfr_134 7 (by decide)
              have b_145 : g_131 8 = g_77 8 := hfr_134 8 (by decide)
              have b_146 : g_131 9 = g_77 9 := hfr_134 9 (by decide)
              have b_147 : g_131 12 = g_77 12 := hfr_134 12 (by decide)
              have b_148 : g_131 15 = g_77 15 := hfr_134 15 (by decide)
              have t_149 : a_132 2 = a 2 := (hfr_135 2 (by decide)).trans t_113
              have t_150 : a_132 3 = up (a 3) (g 12) 0 := (hfr_135 3 (by decide)).trans t_114
              have t_151 : a_132 4 = up (a 4) (g 12) s0_98 := (hfr_135 4 (by decide)).trans t_115
              have t_152 : a_132 5 = up (a 5) s0_10 (g 12) := (hfr_135 5 (by decide)).trans t_116
              have t_153 : a_132 6 = up (a 6) s0_10 (g 12 + 1) := (hfr_135 6 (by decide)).trans t_117
              have t_154 : a_132 7 = a 7 := (hfr_135 7 (by decide)).trans t_118
              have t_155 : a_132 8 = a 8 := (hfr_135 8 (by decide)).trans t_119
              have b_156 : 0 ≤ g_131 1 ∧ g_131 1 ≤ 600 := hI.1 1
              have b_157 : 0 ≤ g_131 2 ∧ g_131 2 ≤ 600 := hI.1 2
              have e8 : g_131 4 = scn (bB tT) tN (g_14 2) := by rw [show g_14 2 = g_77 2 by omega]; exact h_129
              rw [← hQ]
              exact W.zret (v := iI z_122) (ty := .boolean) hx hb hr (nb_bool (by omega) (by omega)) (fun t ht hW => ⟨⟨iI z_122, (g_131, a_132), rfl, ⟨z_122, rfl, hI, hfA, haA, by omega, by show z_122 = 0 ∨ (rPn g_131 a_132 (g_131 7) ∧ mz g_131 a_132 (g_131 7) ≤ mB g); first | exact Or.inl rfl | exact Or.inr (st_ch (g1 := g_14) hrM (by omega) (by omega) (by omega) (by omega) (by omega) (by omega) (by omega) (by omega) (by omega) t_150 t_151 t_152 t_153 t_154 t_155 (by omega) (by omega) ⟨by omega, by omega, by omega⟩ ⟨by omega, by omega, by omega⟩ t_149), by show tkR tT tN g_131 a_132; first | assumption | exact tkR_t (by omega) (by omega) (by omega) (by omega) h_130 | exact tkR_t (by omega) (by omega) (by omega) (by omega) hrTk, by show chR tT tN g a g_131 a_132 p1 z_122; first | exact chR_b (c := s0_10) (by omega) (by omega) (by omega) (by omega) (by omega) | exact chR_n (c := s0_10) (by omega) (by omega) (by omega) hrTk (by omega) e9 h_13 (by omega) (by omega) (by omega) | exact chR_y (c := s0_10) (by omega) (by omega) (by omega) hrTk (by omega) e9 h_13 (by omega) e8 t_149 (by omega) (by omega) (by omega) t_152 (by omega) (by omega)⟩, by rw [ht]; exact hP, va_K.moved hW.alike hK, hD⟩, hS.F ht⟩) hS.2.2 dX13_choice_115
            refine xr_if_eq (tgt := 97) hx hb dX13_choice_90 (by decide) (by omega) (fun h_158 => ?_) (fun h_158 => ?_)
            · refine lv_iconst (v := iI 0) hx hb dX13_choice_97 rfl ?_
              exact J98 0 H locs ls (by omega) hP hD hS hl
            · refine lv_iconst (v := iI 1) hx hb dX13_choice_93 rfl ?_
              refine lv_goto (tgt := 98) hx hb dX13_choice_94 (by decide) ?_
              exact J98 1 H locs ls (by omega) hP hD hS hl
          refine xr_if_ne (tgt := 73) hx hb dX13_choice_59 (by decide) (by omega) (fun h_159 => ?_) (fun h_159 => ?_)
          · exact J73 H locs ls (by omega) (by omega) hP hD hS hl
          · refine lv_aload_n hx hb dX13_choice_62 rfl (lv_at hl 3 rfl) ?_
            refine lv_iload hx hb dX13_choice_63 (lv_at hl 0 rfl) ?_
            refine jc_i (va_runV (As := [.int (iI s0_52)]) (rest := []) ⟨hx, hb, hml, hown, hts⟩ (sX13_isWord l dC dI _ ad ca g_14 a_15 s0_52 hI (by omega)) (cwV 1 hts (jgoodV m_236 m_396 m_397 m_503 m_165) rfl rfl rfl (by decide +kernel) ⟨(Nat.le_of_ble_eq_true rfl), (Nat.le_of_ble_eq_true rfl)⟩) ⟨jw_blind, va_recv hK hP (ci := 13) (q0 := 0) rfl rfl, fun U hU hW => ⟨rfl, jw_of hU hW hP hK hD⟩⟩ rfl rfl hl.1 rfl (lv_room (Nat.le_of_ble_eq_true rfl)) dX13_choice_65 ⟨(Nat.le_of_ble_eq_true rfl), (Nat.le_of_ble_eq_true rfl)⟩) hP hS hA (fun r_160 H locs w_161 hP hS => ?_)
            obtain ⟨z_162, rfl, h_163, h_164⟩ := w_161
            have b_165 : 0 ≤ g_14 3 ∧ g_14 3 ≤ 4 := hI.1 3
            refine xr_if_ne (tgt := 73) hx hb dX13_choice_68 (by decide) (by omega) (fun h_166 => ?_) (fun h_166 => ?_)
            · exact J73 H locs ls (by omega) (by omega) hP hD hS hl
            · refine lv_iconst (v := iI 0) hx hb dX13_choice_71 rfl ?_
              rw [← hQ]
              exact W.zret (v := iI 0) (ty := .boolean) hx hb hr (nb_bool (by omega) (by omega)) (fun t ht hW => ⟨⟨iI 0, (g_14, a_15), rfl, ⟨0, rfl, hI, hfA, haA, by omega, by show 0 = 0 ∨ (rPn g_14 a_15 (g_14 7) ∧ mz g_14 a_15 (g_14 7) ≤ mB g); first | exact Or.inl rfl | exact Or.inr (st_ch (g1 := g_14) hrM (by omega) (by omega) (by omega) (by omega) (by omega) (by omega) (by omega) (by omega) (by omega) t_33 t_34 t_35 t_36 t_37 t_38 (by omega) (by omega) ⟨by omega, by omega, by omega⟩ ⟨by omega, by omega, by omega⟩ t_32), by show tkR tT tN g_14 a_15; first | assumption | exact tkR_t (by omega) (by omega) (by omega) (by omega) h_13 | exact tkR_t (by omega) (by omega) (by omega) (by omega) hrTk, by show chR tT tN g a g_14 a_15 p1 0; first | exact chR_b (c := s0_10) (by omega) (by omega) (by omega) (by omega) (by omega) | exact chR_n (c := s0_10) (by omega) (by omega) (by omega) hrTk (by omega) e9 h_13 (by omega) (by omega) (by omega) | exact chR_y (c := s0_10) (by omega) (by omega) (by omega) hrTk (by omega) e9 h_13 (by omega) e8 t_32 (by omega) (by omega) (by omega) t_35 (by omega) (by omega)⟩, by rw [ht]; exact hP, va_K.moved hW.alike hK, hD⟩, hS.F ht⟩) hS.2.2 dX13_choice_72
        refine xr_icmp_ne (tgt := 50) hx hb dX13_choice_42 (by decide) (by omega) (by omega) (fun h_167 => ?_) (fun h_167 => ?_)
        · refine lv_bipush (v := iI 12) hx hb dX13_choice_50 rfl ?_
          exact J52 12 H locs ls (by omega) (by omega) hP hD hS hl
        · refine lv_bipush (v := iI 10) hx hb dX13_choice_45 rfl ?_
          refine lv_goto (tgt := 52) hx hb dX13_choice_47 (by decide) ?_
          exact J52 10 H locs ls (by omega) (by omega) hP hD hS hl
      refine xr_icmp_ne (tgt := 37) hx hb dX13_choice_29 (by decide) (by omega) (by omega) (fun h_168 => ?_) (fun h_168 => ?_)
      · refine lv_bipush (v := iI 11) hx hb dX13_choice_37 rfl ?_
        exact J39 11 H locs ls (by omega) (by omega) hP hD hS hl
      · refine lv_bipush (v := iI 9) hx hb dX13_choice_32 rfl ?_
        refine lv_goto (tgt := 39) hx hb dX13_choice_34 (by decide) ?_
        exact J39 9 H locs ls (by omega) (by omega) hP hD hS hl
    · refine lv_iconst (v := iI 0) hx hb dX13_choice_21 rfl ?_
      rw [← hQ]
      exact W.zret (v := iI 0) (ty := .boolean) hx hb hr (nb_bool (by omega) (by omega)) (fun t ht hW => ⟨⟨iI 0, (g, a), rfl, ⟨0, rfl, hI, hfA, haA, by omega, by show 0 = 0 ∨ (rPn g a (g 7) ∧ mz g a (g 7) ≤ mB g); first | exact Or.inl rfl | exact Or.inr (st_ch (g1 := _) hrM (by omega) (by omega) (by omega) (by omega) (by omega) (by omega) (by omega) (by omega) (by omega) rfl rfl rfl rfl rfl rfl (by omega) (by omega) ⟨by omega, by omega, by omega⟩ ⟨by omega, by omega, by omega⟩ rfl), by show tkR tT tN g a; first | assumption | exact tkR_t (by omega) (by omega) (by omega) (by omega) _ | exact tkR_t (by omega) (by omega) (by omega) (by omega) hrTk, by show chR tT tN g a g a p1 0; first | exact chR_b (c := s0_10) (by omega) (by omega) (by omega) (by omega) (by omega) | exact chR_n (c := s0_10) (by omega) (by omega) (by omega) hrTk (by omega) e9 _ (by omega) (by omega) (by omega) | exact chR_y (c := s0_10) (by omega) (by omega) (by omega) hrTk (by omega) e9 _ (by omega) e8 rfl (by omega) (by omega) (by omega) rfl (by omega) (by omega)⟩, by rw [ht]; exact hP, va_K.moved hW.alike hK, hD⟩, hS.F ht⟩) hS.2.2 dX13_choice_22
  refine xr_icmp_ne (tgt := 9) hx hb dX13_choice_2 (by decide) (by omega) (by omega) (fun h_169 => ?_) (fun h_169 => ?_)
  · refine lv_iconst (v := iI 1) hx hb dX13_choice_9 rfl ?_
    exact J10 1 H locs ls (by omega) (by omega) hP hD hS hl
  · refine lv_iconst (v := iI 0) hx hb dX13_choice_5 rfl ?_
    refine lv_goto (tgt := 10) hx hb dX13_choice_6 (by decide) ?_
    exact J10 0 H locs ls (by omega) (by omega) hP hD hS hl
