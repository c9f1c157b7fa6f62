set_option maxHeartbeats 2000000 in
set_option maxRecDepth 100000 in
theorem sX13_article (l : Launch) (dC : Nat → ClassId) (dI : Nat → Nat → Nat) (sz : Nat) (ad : Nat → Nat) (ca : Nat → ClassId) (g : Nat → Int) (a : Nat → Int → Int) (p1 : Int) (p2 : Int) (p3 : Int) (p4 : Int) (hI : mI g a) (q1 : rg p1) (q2 : rg p2) (q3 : rg p3) (q4 : rg p4) (hrLead : rLead g a) : Met l yX13_article (jk yX13_article cX13_article 7 (some .int)) ({ frames := 2, cells := 0, slots := 0, locals := 48 }) (va_Pc [.ref (ad 0), .int (iI p1), .int (iI p2), .int (iI p3), .int (iI p4)] (jw_P (dC, dI) (mG ad ca g a) (mT ca) sz)) (va_Qi (fun (r : Int32) (u : (Nat → Int) × (Nat → Int → Int)) => ∃ z : Int, r = iI z ∧ (mI u.1 u.2) ∧ (∀ j, j ∉ ([37] : List Nat) → u.1 j = g j) ∧ (∀ j, j ∉ ([25, 26, 27, 28, 29, 30, 31, 32, 35, 36, 66] : List Nat) → u.2 j = a j) ∧ (rg z) ∧ (rLead u.1 u.2)) (fun u t => va_P (dC, dI) vwCl (mG ad ca u.1 u.2) t.heap ∧ va_K (dC, dI) vwCl (mT ca) t ∧ va_D (va_A (mG ad ca g a) sz) (mG ad ca u.1 u.2)) (va_A (mG ad ca g a) sz)) 0 0 (va_A (mG ad ca g a) sz) := by
  refine Met.ofW (cc := cX13_article) (maxL := 7) (ret := (some .int)) (by decide) rfl ?_
  intro p e s m args below meth c s₁ B hml hv
  obtain ⟨rfl, hsz, hP, hK, hD0⟩ := hv
  have hx := B.exec
  have hb := B.bytes
  have hr := B.returns
  have hts := atoms_spec (ws := (jk yX13_article cX13_article 7 (some .int))) B.pre
  have hj : ∀ w ∈ jw, w.before ([.ref (ad 0), .int (iI p1), .int (iI p2), .int (iI p3), .int (iI p4)] : List Value).toArray s = true := fun w h => hts w (jm h)
  have hown : s.vm.findClass RX13 = some m.cls := findClass_of_methodNamed B.named
  subst hsz
  have hD := hD0.self (sz := s.heap.size)
  generalize hAe : (va_A (mG ad ca g a) s.heap.size) = A at hD ⊢
  have hA : ∀ q : Nat, s.heap.size ≤ q → A q := fun q h => by rw [← hAe]; exact Or.inr h
  have hS : va_S A s.heap s.heap [] := va_S.rf
  have hP : va_P (dC, dI) vwCl (mG ad ca g a) s.heap := hP
  have hfA : ∀ j, j ∉ ([37] : List Nat) → g j = g j := fun _ _ => rfl
  have haA : ∀ j, j ∉ ([25, 26, 27, 28, 29, 30, 31, 32, 35, 36, 66] : List Nat) → a j = a j := fun _ _ => rfl
  have hl := lv_entry ([.ref (ad 0), .int (iI p1), .int (iI p2), .int (iI p3), .int (iI p4)]) (n := 7) (Nat.le_of_ble_eq_true rfl)
  rw [lg_entry_eq]
  generalize (lg_sl ([.ref (ad 0), .int (iI p1), .int (iI p2), .int (iI p3), .int (iI p4)]) ++ List.replicate (7 - (lg_sl ([.ref (ad 0), .int (iI p1), .int (iI p2), .int (iI p3), .int (iI p4)])).length) Slot.unset).toArray = ls at hl ⊢
  have hl : lv_has ls 7 [(0, .ref (ad 0)), (1, .int (iI p1)), (2, .int (iI p2)), (3, .int (iI p3)), (4, .int (iI p4))] := hl
  generalize hQ : MQ below (va_Qi (fun (r : Int32) (u : (Nat → Int) × (Nat → Int → Int)) => ∃ z : Int, r = iI z ∧ (mI u.1 u.2) ∧ (∀ j, j ∉ ([37] : List Nat) → u.1 j = g j) ∧ (∀ j, j ∉ ([25, 26, 27, 28, 29, 30, 31, 32, 35, 36, 66] : List Nat) → u.2 j = a j) ∧ (rg z) ∧ (rLead u.1 u.2)) (fun u t => va_P (dC, dI) vwCl (mG ad ca u.1 u.2) t.heap ∧ va_K (dC, dI) vwCl (mT ca) t ∧ va_D A (mG ad ca u.1 u.2)) A) ([.ref (ad 0), .int (iI p1), .int (iI p2), .int (iI p3), .int (iI p4)] : List Value).toArray s 0 0 A = Q
  suffices ST : ∀ (H : Heap) (locs : List Loc), va_P (dC, dI) vwCl (mG ad ca g a) H → va_S A s.heap H locs → W p l e ({ frames := 2, cells := 0, slots := 0, locals := 48 }) s m ([.ref (ad 0), .int (iI p1), .int (iI p2), .int (iI p3), .int (iI p4)] : List Value).toArray below meth c H locs 0 0 Q (F0 m 0 ls []) from ST _ _ hP hS
  clear hP hS
  intro H locs hP hS
  have b37_0 : 0 ≤ g 37 ∧ g 37 ≤ 60 := hI.1 37
  refine lv_aload_n hx hb dX13_article_0 rfl (lv_at hl 0 rfl) ?_
  refine lv_iload_n hx hb dX13_article_1 rfl (lv_at hl 1 rfl) ?_
  refine lv_iload_n hx hb dX13_article_2 rfl (lv_at hl 2 rfl) ?_
  refine lv_iload_n hx hb dX13_article_3 rfl (lv_at hl 3 rfl) ?_
  refine jcg_i (va_runV (As := [.int (iI p1), .int (iI p2), .int (iI p3)]) (rest := []) ⟨hx, hb, hml, hown, hts⟩ (sX13_headingOf l dC dI _ ad ca g a p1 p2 p3 hI (by omega) (by omega) (by omega)) (cwV 3 hts (jgoodV m_254 m_360 m_361 m_503 m_145) rfl rfl rfl (by decide +kernel) ⟨(Nat.le_of_ble_eq_true rfl), (Nat.le_of_ble_eq_true rfl)⟩) ⟨jw_blind, va_recv hK hP (ci := 13) (q0 := 0) rfl rfl, fun U hU hW => ⟨rfl, jw_of hU hW hP hK hD⟩⟩ rfl rfl hl.1 rfl (lv_room (Nat.le_of_ble_eq_true rfl)) dX13_article_4 ⟨(Nat.le_of_ble_eq_true rfl), (Nat.le_of_ble_eq_true rfl)⟩) hD hS hA (fun r_1 u_7 H locs w_2 hP hK hD hS => ?_)
  obtain ⟨g_5, a_6⟩ := u_7
  obtain ⟨z_3, rfl, e_9, hI, hfr_8, h_4⟩ := w_2
  have hP : va_P (dC, dI) vwCl (mG ad ca g_5 a_6) H := hP
  have hD : va_D A (mG ad ca g_5 a_6) := hD
  have e_9 : g = g_5 := e_9.symm
  subst e_9
  have haA : ∀ j, j ∉ ([25, 26, 27, 28, 29, 30, 31, 32, 35, 36, 66] : List Nat) → a_6 j = a j := fun j h => (hfr_8 j (fun q => h (by first | exact q | (simp only [List.mem_cons, List.not_mem_nil, or_false] at q ⊢ <;> omega)))).trans (haA j h)
  have t_10 : a_6 27 = a 27 := (hfr_8 27 (by decide)).trans rfl
  have t_11 : a_6 31 = a 31 := (hfr_8 31 (by decide)).trans rfl
  refine lv_istore (lv' := [(5, .int (iI z_3)), (0, .ref (ad 0)), (1, .int (iI p1)), (2, .int (iI p2)), (3, .int (iI p3)), (4, .int (iI p4))]) hx hb dX13_article_7 hl (by decide) rfl (fun ls hl => ?_)
  refine lv_iload hx hb dX13_article_9 (lv_at hl 0 rfl) ?_
  refine xr_if_eq (tgt := 59) hx hb dX13_article_11 (by decide) (by omega) (fun h_12 => ?_) (fun h_12 => ?_)
  · refine lv_iconst (v := iI (-1)) hx hb dX13_article_59 rfl ?_
    rw [← hQ]
    exact W.iret (v := iI (-1)) hx hb hr (fun t ht hW => ⟨⟨iI (-1), (g, a_6), rfl, ⟨(-1), rfl, hI, hfA, haA, by omega, by show rLead g a_6; first | exact rLead_t (by omega) t_10 t_11 hrLead | (rcases (_) with ⟨q1, q2, q3, q4⟩ | ⟨q1, q2, q3, q4⟩; exact rLead_t (by omega) ((t_10).trans (q3.trans _)) ((t_11).trans (q4.trans _)) hrLead; exact rLead_new hrLead (by omega) ((t_10).trans (q3.trans (up_c _ rfl rfl))) ((t_11).trans (q4.trans (up_c _ rfl rfl))) (by omega))⟩, by rw [ht]; exact hP, va_K.moved hW.alike hK, hD⟩, hS.F ht⟩) hS.2.2 dX13_article_60
  · refine lv_iload hx hb dX13_article_14 (lv_at hl 5 rfl) ?_
    refine xr_if_lt (tgt := 59) hx hb dX13_article_16 (by decide) (by omega) (fun h_13 => ?_) (fun h_13 => ?_)
    · refine lv_iconst (v := iI (-1)) hx hb dX13_article_59 rfl ?_
      rw [← hQ]
      exact W.iret (v := iI (-1)) hx hb hr (fun t ht hW => ⟨⟨iI (-1), (g, a_6), rfl, ⟨(-1), rfl, hI, hfA, haA, by omega, by show rLead g a_6; first | exact rLead_t (by omega) t_10 t_11 hrLead | (rcases (_) with ⟨q1, q2, q3, q4⟩ | ⟨q1, q2, q3, q4⟩; exact rLead_t (by omega) ((t_10).trans (q3.trans _)) ((t_11).trans (q4.trans _)) hrLead; exact rLead_new hrLead (by omega) ((t_10).trans (q3.trans (up_c _ rfl rfl))) ((t_11).trans (q4.trans (up_c _ rfl rfl))) (by omega))⟩, by rw [ht]; exact hP, va_K.moved hW.alike hK, hD⟩, hS.F ht⟩) hS.2.2 dX13_article_60
    · refine lv_iload hx hb dX13_article_19 (lv_at hl 5 rfl) ?_
      refine lv_sipush (v := iI 10000) hx hb dX13_article_21 rfl ?_
      refine xr_div hx hb dX13_article_24 (by omega) (by omega) (by omega) (by omega) ?_
      refine lv_iconst (v := iI 2) hx hb dX13_article_25 rfl ?_
      refine xr_icmp_gt (tgt := 59) hx hb dX13_article_26 (by decide) (by omega) (by omega) (fun h_14 => ?_) (fun h_14 => ?_)
      · refine lv_iconst (v := iI (-1)) hx hb dX13_article_59 rfl ?_
        rw [← hQ]
        exact W.iret (v := iI (-1)) hx hb hr (fun t ht hW => ⟨⟨iI (-1), (g, a_6), rfl, ⟨(-1), rfl, hI, hfA, haA, by omega, by show rLead g a_6; first | exact rLead_t (by omega) t_10 t_11 hrLead | (rcases (_) with ⟨q1, q2, q3, q4⟩ | ⟨q1, q2, q3, q4⟩; exact rLead_t (by omega) ((t_10).trans (q3.trans _)) ((t_11).trans (q4.trans _)) hrLead; exact rLead_new hrLead (by omega) ((t_10).trans (q3.trans (up_c _ rfl rfl))) ((t_11).trans (q4.trans (up_c _ rfl rfl))) (by omega))⟩, by rw [ht]; exact hP, va_K.moved hW.alike hK, hD⟩, hS.F ht⟩) hS.2.2 dX13_article_60
      · refine lv_iload hx hb dX13_article_29 (lv_at hl 5 rfl) ?_
        refine lv_sipush (v := iI 1000) hx hb dX13_article_31 rfl ?_
        refine xr_div hx hb dX13_article_34 (by omega) (by omega) (by omega) (by omega) ?_
        refine lv_bipush (v := iI 10) hx hb dX13_article_35 rfl ?_
        refine xr_rem hx hb dX13_article_37 (by omega) (by omega) (by omega) (by omega) ?_
        refine lv_bipush (v := iI 8) hx hb dX13_article_38 rfl ?_
        refine xr_icmp_ge (tgt := 59) hx hb dX13_article_40 (by decide) (by omega) (by omega) (fun h_15 => ?_) (fun h_15 => ?_)
        · refine lv_iconst (v := iI (-1)) hx hb dX13_article_59 rfl ?_
          rw [← hQ]
          exact W.iret (v := iI (-1)) hx hb hr (fun t ht hW => ⟨⟨iI (-1), (g, a_6), rfl, ⟨(-1), rfl, hI, hfA, haA, by omega, by show rLead g a_6; first | exact rLead_t (by omega) t_10 t_11 hrLead | (rcases (_) with ⟨q1, q2, q3, q4⟩ | ⟨q1, q2, q3, q4⟩; exact rLead_t (by omega) ((t_10).trans (q3.trans _)) ((t_11).trans (q4.trans _)) hrLead; exact rLead_new hrLead (by omega) ((t_10).trans (q3.trans (up_c _ rfl rfl))) ((t_11).trans (q4.trans (up_c _ rfl rfl))) (by omega))⟩, by rw [ht]; exact hP, va_K.moved hW.alike hK, hD⟩, hS.F ht⟩) hS.2.2 dX13_article_60
        · refine lv_iload hx hb dX13_article_43 (lv_at hl 5 rfl) ?_
          refine lv_sipush (v := iI 1000) hx hb dX13_article_45 rfl ?_
          refine xr_rem hx hb dX13_article_48 (by omega) (by omega) (by omega) (by omega) ?_
          refine lv_iconst (v := iI 1) hx hb dX13_article_49 rfl ?_
          refine lv_sipush (v := iI 200) hx hb dX13_article_50 rfl ?_
          refine jc_i (va_runS (As := [.int (iI (p4 % 1000)), .int (iI 1), .int (iI 200)]) (rest := []) ⟨hx, hb, hml, hown, hts⟩ (sX13_in l dC dI _ (p4 % 1000) 1 200 (by omega) (by omega) (by omega)) (va_cwS 3 hts (jgoodS m_220 m_364 m_503 m_147) rfl rfl rfl (by decide +kernel) ⟨(Nat.le_of_ble_eq_true rfl), (Nat.le_of_ble_eq_true rfl)⟩) ⟨jw_blind0, fun U hU hW => ⟨rfl, congrArg Array.size hU⟩⟩ rfl rfl hl.1 rfl (lv_room (Nat.le_of_ble_eq_true rfl)) dX13_article_53 ⟨(Nat.le_of_ble_eq_true rfl), (Nat.le_of_ble_eq_true rfl)⟩) hP hS hA (fun r_16 H locs w_17 hP hS => ?_)
          obtain ⟨z_18, rfl, h_19, h_20⟩ := w_17
          refine xr_if_ne (tgt := 61) hx hb dX13_article_56 (by decide) (by omega) (fun h_21 => ?_) (fun h_21 => ?_)
          · refine lv_aload_n hx hb dX13_article_61 rfl (lv_at hl 1 rfl) ?_
            refine lv_iconst (v := iI 0) hx hb dX13_article_62 rfl ?_
            refine lv_iload hx hb dX13_article_63 (lv_at hl 0 rfl) ?_
            refine jcg_i (va_runV (As := [.int (iI 0), .int (iI z_3)]) (rest := []) ⟨hx, hb, hml, hown, hts⟩ (sX13_newEntry l dC dI _ ad ca g a_6 0 z_3 hI (by omega) (by omega) (by omega) (by omega)) (cwV 2 hts (jgoodV m_255 m_431 m_432 m_503 m_183) rfl rfl rfl (by decide +kernel) ⟨(Nat.le_of_ble_eq_true rfl), (Nat.le_of_ble_eq_true rfl)⟩) ⟨jw_blind, va_recv hK hP (ci := 13) (q0 := 0) rfl rfl, fun U hU hW => ⟨rfl, jw_of hU hW hP hK hD⟩⟩ rfl rfl hl.1 rfl (lv_room (Nat.le_of_ble_eq_true rfl)) dX13_article_65 ⟨(Nat.le_of_ble_eq_true rfl), (Nat.le_of_ble_eq_true rfl)⟩) hD hS hA (fun r_22 u_29 H locs w_23 hP hK hD hS => ?_)
            obtain ⟨g_27, a_28⟩ := u_29
            obtain ⟨z_24, rfl, hI, hfr_30, hfr_31, h_25, h_26⟩ := w_23
            have hP : va_P (dC, dI) vwCl (mG ad ca g_27 a_28) H := hP
            have hD : va_D A (mG ad ca g_27 a_28) := hD
            have hfA : ∀ j, j ∉ ([37] : List Nat) → g_27 j = g j := fun j h => (hfr_30 j (fun q => h (by first | exact q | (simp only [List.mem_cons, List.not_mem_nil, or_false] at q ⊢ <;> omega)))).trans (hfA j h)
            have haA : ∀ j, j ∉ ([25, 26, 27, 28, 29, 30, 31, 32, 35, 36, 66] : List Nat) → a_28 j = a j := fun j h => (hfr_31 j (fun q => h (by first | exact q | (simp only [List.mem_cons, List.not_mem_nil, or_false] at q ⊢ <;> omega)))).trans (haA j h)
            have h_26 : (z_24 = -1 ∧ g_27 37 = g 37 ∧ a_28 27 = a_6 27 ∧ a_28 31 = a_6 31) ∨ (z_24 = g 37 ∧ g_27 37 = g 37 + 1 ∧ a_28 27 = up (a_6 27) (g 37) 0 ∧ a_28 31 = up (a_6 31) (g 37) (-1)) := h_26
            have b_33 : 0 ≤ g_27 37 ∧ g_27 37 ≤ 60 := hI.1 37
            refine lv_istore (lv' := [(6, .int (iI z_24)), (5, .int (iI z_3)), (0, .ref (ad 0)), (1, .int (iI p1)), (2, .int (iI p2)), (3, .int (iI p3)), (4, .int (iI p4))]) hx hb dX13_article_68 hl (by decide) rfl (fun ls hl => ?_)
            refine lv_iload hx hb dX13_article_70 (lv_at hl 0 rfl) ?_
            refine lv_iconst (v := iI (-1)) hx hb dX13_article_72 rfl ?_
            refine xr_icmp_ne (tgt := 78) hx hb dX13_article_73 (by decide) (by omega) (by omega) (fun h_34 => ?_) (fun h_34 => ?_)
            · refine lv_aload_n hx hb dX13_article_78 rfl (lv_at hl 2 rfl) ?_
              refine gf_sort hx hb hj hown hK hP dX13_article_79 ?_
              refine lv_iload hx hb dX13_article_82 (lv_at hl 0 rfl) ?_
              refine lv_iload hx hb dX13_article_84 (lv_at hl 6 rfl) ?_
              refine lv_sipush (v := iI 10000) hx hb dX13_article_86 rfl ?_
              refine xr_div hx hb dX13_article_89 (by omega) (by omega) (by omega) (by omega) ?_
              refine st_sort hx hb hK hP hD hS hI (by omega) (by omega) (by omega) (by omega) dX13_article_90 (fun a_35 H locs e_36 e_37 hI hP hD hS => ?_)
              have haA : ∀ j, j ∉ ([25, 26, 27, 28, 29, 30, 31, 32, 35, 36, 66] : List Nat) → a_35 j = a j := fun j h => (e_36 j (fun q => h (q ▸ (by decide : 28 ∈ ([25, 26, 27, 28, 29, 30, 31, 32, 35, 36, 66] : List Nat))))).trans (haA j h)
              have t_38 : a_35 27 = a_28 27 := (e_36 27 (by decide)).trans rfl
              have t_39 : a_35 31 = a_28 31 := (e_36 31 (by decide)).trans rfl
              refine lv_aload_n hx hb dX13_article_91 rfl (lv_at hl 2 rfl) ?_
              refine gf_field hx hb hj hown hK hP dX13_article_92 ?_
              refine lv_iload hx hb dX13_article_95 (lv_at hl 0 rfl) ?_
              refine lv_iload hx hb dX13_article_97 (lv_at hl 6 rfl) ?_
              refine lv_sipush (v := iI 1000) hx hb dX13_article_99 rfl ?_
              refine xr_div hx hb dX13_article_102 (by omega) (by omega) (by omega) (by omega) ?_
              refine lv_bipush (v := iI 10) hx hb dX13_article_103 rfl ?_
              refine xr_rem hx hb dX13_article_105 (by omega) (by omega) (by omega) (by omega) ?_
              refine st_field hx hb hK hP hD hS hI (by omega) (by omega) (by omega) (by omega) dX13_article_106 (fun a_40 H locs e_41 e_42 hI hP hD hS => ?_)
              have haA : ∀ j, j ∉ ([25, 26, 27, 28, 29, 30, 31, 32, 35, 36, 66] : List Nat) → a_40 j = a j := fun j h => (e_41 j (fun q => h (q ▸ (by decide : 29 ∈ ([25, 26, 27, 28, 29, 30, 31, 32, 35, 36, 66] : List Nat))))).trans (haA j h)
              have t_43 : a_40 27 = a_28 27 := (e_41 27 (by decide)).trans t_38
              have t_44 : a_40 31 = a_28 31 := (e_41 31 (by decide)).trans t_39
              refine lv_aload_n hx hb dX13_article_107 rfl (lv_at hl 2 rfl) ?_
              refine gf_asked hx hb hj hown hK hP dX13_article_108 ?_
              refine lv_iload hx hb dX13_article_111 (lv_at hl 0 rfl) ?_
              refine lv_iload hx hb dX13_article_113 (lv_at hl 6 rfl) ?_
              refine lv_sipush (v := iI 1000) hx hb dX13_article_115 rfl ?_
              refine xr_rem hx hb dX13_article_118 (by omega) (by omega) (by omega) (by omega) ?_
              refine st_asked hx hb hK hP hD hS hI (by omega) (by omega) (by omega) (by omega) dX13_article_119 (fun a_45 H locs e_46 e_47 hI hP hD hS => ?_)
              have haA : ∀ j, j ∉ ([25, 26, 27, 28, 29, 30, 31, 32, 35, 36, 66] : List Nat) → a_45 j = a j := fun j h => (e_46 j (fun q => h (q ▸ (by decide : 30 ∈ ([25, 26, 27, 28, 29, 30, 31, 32, 35, 36, 66] : List Nat))))).trans (haA j h)
              have t_48 : a_45 27 = a_28 27 := (e_46 27 (by decide)).trans t_43
              have t_49 : a_45 31 = a_28 31 := (e_46 31 (by decide)).trans t_44
              refine lv_iload hx hb dX13_article_120 (lv_at hl 0 rfl) ?_
              rw [← hQ]
              exact W.iret (v := iI z_24) hx hb hr (fun t ht hW => ⟨⟨iI z_24, (g_27, a_45), rfl, ⟨z_24, rfl, hI, hfA, haA, by omega, by show rLead g_27 a_45; first | exact rLead_t (by omega) t_48 t_49 hrLead | (rcases (h_26) with ⟨q1, q2, q3, q4⟩ | ⟨q1, q2, q3, q4⟩; exact rLead_t (by omega) ((t_48).trans (q3.trans t_10)) ((t_49).trans (q4.trans t_11)) hrLead; exact rLead_new hrLead (by omega) ((t_48).trans (q3.trans (up_c t_10 rfl rfl))) ((t_49).trans (q4.trans (up_c t_11 rfl rfl))) (by omega))⟩, by rw [ht]; exact hP, va_K.moved hW.alike hK, hD⟩, hS.F ht⟩) hS.2.2 dX13_article_122
            · refine lv_iconst (v := iI (-1)) hx hb dX13_article_76 rfl ?_
              rw [← hQ]
              exact W.iret (v := iI (-1)) hx hb hr (fun t ht hW => ⟨⟨iI (-1), (g_27, a_28), rfl, ⟨(-1), rfl, hI, hfA, haA, by omega, by show rLead g_27 a_28; first | exact rLead_t (by omega) rfl rfl hrLead | (rcases (h_26) with ⟨q1, q2, q3, q4⟩ | ⟨q1, q2, q3, q4⟩; exact rLead_t (by omega) ((rfl).trans (q3.trans t_10)) ((rfl).trans (q4.trans t_11)) hrLead; exact rLead_new hrLead (by omega) ((rfl).trans (q3.trans (up_c t_10 rfl rfl))) ((rfl).trans (q4.trans (up_c t_11 rfl rfl))) (by omega))⟩, by rw [ht]; exact hP, va_K.moved hW.alike hK, hD⟩, hS.F ht⟩) hS.2.2 dX13_article_77
          · refine lv_iconst (v := iI (-1)) hx hb dX13_article_59 rfl ?_
            rw [← hQ]
            exact W.iret (v := iI (-1)) hx hb hr (fun t ht hW => ⟨⟨iI (-1), (g, a_6), rfl, ⟨(-1), rfl, hI, hfA, haA, by omega, by show rLead g a_6; first | exact rLead_t (by omega) t_10 t_11 hrLead | (rcases (_) with ⟨q1, q2, q3, q4⟩ | ⟨q1, q2, q3, q4⟩; exact rLead_t (by omega) ((t_10).trans (q3.trans _)) ((t_11).trans (q4.trans _)) hrLead; exact rLead_new hrLead (by omega) ((t_10).trans (q3.trans (up_c _ rfl rfl))) ((t_11).trans (q4.trans (up_c _ rfl rfl))) (by omega))⟩, by rw [ht]; exact hP, va_K.moved hW.alike hK, hD⟩, hS.F ht⟩) hS.2.2 dX13_article_60
set_option maxHeartbeats 2000000 in
set_option maxRecDepth 100000 in
theorem sX13_pointer (l : Launch) (dC : Nat → ClassId) (dI : Nat → Nat → Nat) (sz : Nat) (ad : Nat → Nat) (ca : Nat → ClassId) (g : Nat → Int) (a : Nat → Int → Int) (p1 : Int) (p2 : Int) (p3 : Int) (p4 : Int) (hI : mI g a) (q1 : rg p1) (q2 : rg p2) (q3 : rg p3) (q4 : rg p4) (hrLead : rLead g a) : Met l yX13_pointer (jk yX13_pointer cX13_pointer 7 (some .int)) ({ frames := 2, cells := 0, slots := 0, locals := 48 }) (va_Pc [.ref (ad 0), .int (iI p1), .int (iI p2), .int (iI p3), .int (iI p4)] (jw_P (dC, dI) (mG ad ca g a) (mT ca) sz)) (va_Qi (fun (r : Int32) (u : (Nat → Int) × (Nat → Int → Int)) => ∃ z : Int, r = iI z ∧ (mI u.1 u.2) ∧ (∀ j, j ∉ ([37] : List Nat) → u.1 j = g j) ∧ (∀ j, j ∉ ([25, 26, 27, 31, 32, 35, 36, 66] : List Nat) → u.2 j = a j) ∧ (rg z) ∧ (rLead u.1 u.2)) (fun u t => va_P (dC, dI) vwCl (mG ad ca u.1 u.2) t.heap ∧ va_K (dC, dI) vwCl (mT ca) t ∧ va_D (va_A (mG ad ca g a) sz) (mG ad ca u.1 u.2)) (va_A (mG ad ca g a) sz)) 0 0 (va_A (mG ad ca g a) sz) := by
  refine Met.ofW (cc := cX13_pointer) (maxL := 7) (ret := (some .int)) (by decide) rfl ?_
  intro p e s m args below meth c s₁ B hml hv
  obtain ⟨rfl, hsz, hP, hK, hD0⟩ := hv
  have hx := B.exec
  have hb := B.bytes
  have hr := B.returns
  have hts := atoms_spec (ws := (jk yX13_pointer cX13_pointer 7 (some .int))) B.pre
  have hj : ∀ w ∈ jw, w.before ([.ref (ad 0), .int (iI p1), .int (iI p2), .int (iI p3), .int (iI p4)] : List Value).toArray s = true := fun w h => hts w (jm h)
  have hown : s.vm.findClass RX13 = some m.cls := findClass_of_methodNamed B.named
  subst hsz
  have hD := hD0.self (sz := s.heap.size)
  generalize hAe : (va_A (mG ad ca g a) s.heap.size) = A at hD ⊢
  have hA : ∀ q : Nat, s.heap.size ≤ q → A q := fun q h => by rw [← hAe]; exact Or.inr h
  have hS : va_S A s.heap s.heap [] := va_S.rf
  have hP : va_P (dC, dI) vwCl (mG ad ca g a) s.heap := hP
  have hfA : ∀ j, j ∉ ([37] : List Nat) → g j = g j := fun _ _ => rfl
  have haA : ∀ j, j ∉ ([25, 26, 27, 31, 32, 35, 36, 66] : List Nat) → a j = a j := fun _ _ => rfl
  have hl := lv_entry ([.ref (ad 0), .int (iI p1), .int (iI p2), .int (iI p3), .int (iI p4)]) (n := 7) (Nat.le_of_ble_eq_true rfl)
  rw [lg_entry_eq]
  generalize (lg_sl ([.ref (ad 0), .int (iI p1), .int (iI p2), .int (iI p3), .int (iI p4)]) ++ List.replicate (7 - (lg_sl ([.ref (ad 0), .int (iI p1), .int (iI p2), .int (iI p3), .int (iI p4)])).length) Slot.unset).toArray = ls at hl ⊢
  have hl : lv_has ls 7 [(0, .ref (ad 0)), (1, .int (iI p1)), (2, .int (iI p2)), (3, .int (iI p3)), (4, .int (iI p4))] := hl
  generalize hQ : MQ below (va_Qi (fun (r : Int32) (u : (Nat → Int) × (Nat → Int → Int)) => ∃ z : Int, r = iI z ∧ (mI u.1 u.2) ∧ (∀ j, j ∉ ([37] : List Nat) → u.1 j = g j) ∧ (∀ j, j ∉ ([25, 26, 27, 31, 32, 35, 36, 66] : List Nat) → u.2 j = a j) ∧ (rg z) ∧ (rLead u.1 u.2)) (fun u t => va_P (dC, dI) vwCl (mG ad ca u.1 u.2) t.heap ∧ va_K (dC, dI) vwCl (mT ca) t ∧ va_D A (mG ad ca u.1 u.2)) A) ([.ref (ad 0), .int (iI p1), .int (iI p2), .int (iI p3), .int (iI p4)] : List Value).toArray s 0 0 A = Q
  suffices ST : ∀ (H : Heap) (locs : List Loc), va_P (dC, dI) vwCl (mG ad ca g a) H → va_S A s.heap H locs → W p l e ({ frames := 2, cells := 0, slots := 0, locals := 48 }) s m ([.ref (ad 0), .int (iI p1), .int (iI p2), .int (iI p3), .int (iI p4)] : List Value).toArray below meth c H locs 0 0 Q (F0 m 0 ls []) from ST _ _ hP hS
  clear hP hS
  intro H locs hP hS
  have b37_0 : 0 ≤ g 37 ∧ g 37 ≤ 60 := hI.1 37
  refine lv_aload_n hx hb dX13_pointer_0 rfl (lv_at hl 0 rfl) ?_
  refine lv_iload_n hx hb dX13_pointer_1 rfl (lv_at hl 1 rfl) ?_
  refine lv_iload_n hx hb dX13_pointer_2 rfl (lv_at hl 2 rfl) ?_
  refine lv_iload_n hx hb dX13_pointer_3 rfl (lv_at hl 3 rfl) ?_
  refine jcg_i (va_runV (As := [.int (iI p1), .int (iI p2), .int (iI p3)]) (rest := []) ⟨hx, hb, hml, hown, hts⟩ (sX13_headingOf l dC dI _ ad ca g a p1 p2 p3 hI (by omega) (by omega) (by omega)) (cwV 3 hts (jgoodV m_254 m_360 m_361 m_503 m_145) rfl rfl rfl (by decide +kernel) ⟨(Nat.le_of_ble_eq_true rfl), (Nat.le_of_ble_eq_true rfl)⟩) ⟨jw_blind, va_recv hK hP (ci := 13) (q0 := 0) rfl rfl, fun U hU hW => ⟨rfl, jw_of hU hW hP hK hD⟩⟩ rfl rfl hl.1 rfl (lv_room (Nat.le_of_ble_eq_true rfl)) dX13_pointer_4 ⟨(Nat.le_of_ble_eq_true rfl), (Nat.le_of_ble_eq_true rfl)⟩) hD hS hA (fun r_1 u_7 H locs w_2 hP hK hD hS => ?_)
  obtain ⟨g_5, a_6⟩ := u_7
  obtain ⟨z_3, rfl, e_9, hI, hfr_8, h_4⟩ := w_2
  have hP : va_P (dC, dI) vwCl (mG ad ca g_5 a_6) H := hP
  have hD : va_D A (mG ad ca g_5 a_6) := hD
  have e_9 : g = g_5 := e_9.symm
  subst e_9
  have haA : ∀ j, j ∉ ([25, 26, 27, 31, 32, 35, 36, 66] : List Nat) → a_6 j = a j := fun j h => (hfr_8 j (fun q => h (by first | exact q | (simp only [List.mem_cons, List.not_mem_nil, or_false] at q ⊢ <;> omega)))).trans (haA j h)
  have t_10 : a_6 27 = a 27 := (hfr_8 27 (by decide)).trans rfl
  have t_11 : a_6 31 = a 31 := (hfr_8 31 (by decide)).trans rfl
  refine lv_istore (lv' := [(5, .int (iI z_3)), (0, .ref (ad 0)), (1, .int (iI p1)), (2, .int (iI p2)), (3, .int (iI p3)), (4, .int (iI p4))]) hx hb dX13_pointer_7 hl (by decide) rfl (fun ls hl => ?_)
  refine lv_iload hx hb dX13_pointer_9 (lv_at hl 0 rfl) ?_
  refine xr_if_eq (tgt := 23) hx hb dX13_pointer_11 (by decide) (by omega) (fun h_12 => ?_) (fun h_12 => ?_)
  · refine lv_iconst (v := iI (-1)) hx hb dX13_pointer_23 rfl ?_
    rw [← hQ]
    exact W.iret (v := iI (-1)) hx hb hr (fun t ht hW => ⟨⟨iI (-1), (g, a_6), rfl, ⟨(-1), rfl, hI, hfA, haA, by omega, by show rLead g a_6; first | exact rLead_t (by omega) t_10 t_11 hrLead | (rcases (_) with ⟨q1, q2, q3, q4⟩ | ⟨q1, q2, q3, q4⟩; (first | exact rLead_t (by omega) ((t_10).trans (q3.trans _)) ((t_11).trans (q4.trans _)) hrLead | (exfalso; omega)); (first | exact rLead_new hrLead (by omega) ((t_10).trans (q3.trans (up_c _ rfl rfl))) ((t_11).trans ((up_c (q4.trans (up_c _ rfl rfl)) (by omega) rfl).trans up_up)) (by omega) | (exfalso; omega)))⟩, by rw [ht]; exact hP, va_K.moved hW.alike hK, hD⟩, hS.F ht⟩) hS.2.2 dX13_pointer_24
  · refine lv_aload_n hx hb dX13_pointer_14 rfl (lv_at hl 1 rfl) ?_
    refine lv_iload hx hb dX13_pointer_15 (lv_at hl 5 rfl) ?_
    refine jc_i (va_runV (As := [.int (iI p4)]) (rest := []) ⟨hx, hb, hml, hown, hts⟩ (sX13_isEntry l dC dI _ ad ca g a_6 p4 hI (by omega)) (cwV 1 hts (jgoodV m_253 m_378 m_379 m_503 m_155) rfl rfl rfl (by decide +kernel) ⟨(Nat.le_of_ble_eq_true rfl), (Nat.le_of_ble_eq_true rfl)⟩) ⟨jw_blind, va_recv hK hP (ci := 13) (q0 := 0) rfl rfl, fun U hU hW => ⟨rfl, jw_of hU hW hP hK hD⟩⟩ rfl rfl hl.1 rfl (lv_room (Nat.le_of_ble_eq_true rfl)) dX13_pointer_17 ⟨(Nat.le_of_ble_eq_true rfl), (Nat.le_of_ble_eq_true rfl)⟩) hP hS hA (fun r_13 H locs w_14 hP hS => ?_)
    obtain ⟨z_15, rfl, h_16, h_17⟩ := w_14
    have b_18 : 0 ≤ g 37 ∧ g 37 ≤ 60 := hI.1 37
    refine xr_if_ne (tgt := 25) hx hb dX13_pointer_20 (by decide) (by omega) (fun h_19 => ?_) (fun h_19 => ?_)
    · refine lv_aload_n hx hb dX13_pointer_25 rfl (lv_at hl 1 rfl) ?_
      refine lv_iconst (v := iI 1) hx hb dX13_pointer_26 rfl ?_
      refine lv_iload hx hb dX13_pointer_27 (lv_at hl 0 rfl) ?_
      refine jcg_i (va_runV (As := [.int (iI 1), .int (iI z_3)]) (rest := []) ⟨hx, hb, hml, hown, hts⟩ (sX13_newEntry l dC dI _ ad ca g a_6 1 z_3 hI (by omega) (by omega) (by omega) (by omega)) (cwV 2 hts (jgoodV m_255 m_431 m_432 m_503 m_183) rfl rfl rfl (by decide +kernel) ⟨(Nat.le_of_ble_eq_true rfl), (Nat.le_of_ble_eq_true rfl)⟩) ⟨jw_blind, va_recv hK hP (ci := 13) (q0 := 0) rfl rfl, fun U hU hW => ⟨rfl, jw_of hU hW hP hK hD⟩⟩ rfl rfl hl.1 rfl (lv_room (Nat.le_of_ble_eq_true rfl)) dX13_pointer_29 ⟨(Nat.le_of_ble_eq_true rfl), (Nat.le_of_ble_eq_true rfl)⟩) hD hS hA (fun r_20 u_27 H locs w_21 hP hK hD hS => ?_)
      obtain ⟨g_25, a_26⟩ := u_27
      obtain ⟨z_22, rfl, hI, hfr_28, hfr_29, h_23, h_24⟩ := w_21
      have hP : va_P (dC, dI) vwCl (mG ad ca g_25 a_26) H := hP
      have hD : va_D A (mG ad ca g_25 a_26) := hD
      have hfA : ∀ j, j ∉ ([37] : List Nat) → g_25 j = g j := fun j h => (hfr_28 j (fun q => h (by first | exact q | (simp only [List.mem_cons, List.not_mem_nil, or_false] at q ⊢ <;> omega)))).trans (hfA j h)
      have haA : ∀ j, j ∉ ([25, 26, 27, 31, 32, 35, 36, 66] : List Nat) → a_26 j = a j := fun j h => (hfr_29 j (fun q => h (by first | exact q | (simp only [List.mem_cons, List.not_mem_nil, or_false] at q ⊢ <;> omega)))).trans (haA j h)
      have h_24 : (z_22 = -1 ∧ g_25 37 = g 37 ∧ a_26 27 = a_6 27 ∧ a_26 31 = a_6 31) ∨ (z_22 = g 37 ∧ g_25 37 = g 37 + 1 ∧ a_26 27 = up (a_6 27) (g 37) 1 ∧ a_26 31 = up (a_6 31) (g 37) (-1)) := h_24
      have b_31 : 0 ≤ g_25 37 ∧ g_25 37 ≤ 60 := hI.1 37
      refine lv_istore (lv' := [(6, .int (iI z_22)), (5, .int (iI z_3)), (0, .ref (ad 0)), (1, .int (iI p1)), (2, .int (iI p2)), (3, .int (iI p3)), (4, .int (iI p4))]) hx hb dX13_pointer_32 hl (by decide) rfl (fun ls hl => ?_)
      refine lv_iload hx hb dX13_pointer_34 (lv_at hl 0 rfl) ?_
      refine lv_iconst (v := iI (-1)) hx hb dX13_pointer_36 rfl ?_
      refine xr_icmp_eq (tgt := 49) hx hb dX13_pointer_37 (by decide) (by omega) (by omega) (fun h_32 => ?_) (fun h_32 => ?_)
      · refine lv_iload hx hb dX13_pointer_49 (lv_at hl 0 rfl) ?_
        rw [← hQ]
        exact W.iret (v := iI z_22) hx hb hr (fun t ht hW => ⟨⟨iI z_22, (g_25, a_26), rfl, ⟨z_22, rfl, hI, hfA, haA, by omega, by show rLead g_25 a_26; first | exact rLead_t (by omega) rfl rfl hrLead | (rcases (h_24) with ⟨q1, q2, q3, q4⟩ | ⟨q1, q2, q3, q4⟩; (first | exact rLead_t (by omega) ((rfl).trans (q3.trans t_10)) ((rfl).trans (q4.trans t_11)) hrLead | (exfalso; omega)); (first | exact rLead_new hrLead (by omega) ((rfl).trans (q3.trans (up_c t_10 rfl rfl))) ((rfl).trans ((up_c (q4.trans (up_c t_11 rfl rfl)) (by omega) rfl).trans up_up)) (by omega) | (exfalso; omega)))⟩, by rw [ht]; exact hP, va_K.moved hW.alike hK, hD⟩, hS.F ht⟩) hS.2.2 dX13_pointer_51
      · refine lv_aload_n hx hb dX13_pointer_40 rfl (lv_at hl 2 rfl) ?_
        refine gf_leads hx hb hj hown hK hP dX13_pointer_41 ?_
        refine lv_iload hx hb dX13_pointer_44 (lv_at hl 0 rfl) ?_
        refine lv_iload hx hb dX13_pointer_46 (lv_at hl 6 rfl) ?_
        refine st_leads hx hb hK hP hD hS hI (by omega) (by omega) (by omega) (by omega) dX13_pointer_48 (fun a_33 H locs e_34 e_35 hI hP hD hS => ?_)
        have haA : ∀ j, j ∉ ([25, 26, 27, 31, 32, 35, 36, 66] : List Nat) → a_33 j = a j := fun j h => (e_34 j (fun q => h (q ▸ (by decide : 31 ∈ ([25, 26, 27, 31, 32, 35, 36, 66] : List Nat))))).trans (haA j h)
        have t_36 : a_33 27 = a_26 27 := (e_34 27 (by decide)).trans rfl
        have t_37 : a_33 31 = up (a_26 31) z_22 p4 := e_35.trans (up_c rfl (by omega) (by omega))
        refine lv_iload hx hb dX13_pointer_49 (lv_at hl 0 rfl) ?_
        rw [← hQ]
        exact W.iret (v := iI z_22) hx hb hr (fun t ht hW => ⟨⟨iI z_22, (g_25, a_33), rfl, ⟨z_22, rfl, hI, hfA, haA, by omega, by show rLead g_25 a_33; first | exact rLead_t (by omega) t_36 t_37 hrLead | (rcases (h_24) with ⟨q1, q2, q3, q4⟩ | ⟨q1, q2, q3, q4⟩; (first | exact rLead_t (by omega) ((t_36).trans (q3.trans t_10)) ((t_37).trans (q4.trans t_11)) hrLead | (exfalso; omega)); (first | exact rLead_new hrLead (by omega) ((t_36).trans (q3.trans (up_c t_10 rfl rfl))) ((t_37).trans ((up_c (q4.trans (up_c t_11 rfl rfl)) (by omega) rfl).trans up_up)) (by omega) | (exfalso; omega)))⟩, by rw [ht]; exact hP, va_K.moved hW.alike hK, hD⟩, hS.F ht⟩) hS.2.2 dX13_pointer_51
    · refine lv_iconst (v := iI (-1)) hx hb dX13_pointer_23 rfl ?_
      rw [← hQ]
      exact W.iret (v := iI (-1)) hx hb hr (fun t ht hW => ⟨⟨iI (-1), (g, a_6), rfl, ⟨(-1), rfl, hI, hfA, haA, by omega, by show rLead g a_6; first | exact rLead_t (by omega) t_10 t_11 hrLead | (rcases (_) with ⟨q1, q2, q3, q4⟩ | ⟨q1, q2, q3, q4⟩; (first | exact rLead_t (by omega) ((t_10).trans (q3.trans _)) ((t_11).trans (q4.trans _)) hrLead | (exfalso; omega)); (first | exact rLead_new hrLead (by omega) ((t_10).trans (q3.trans (up_c _ rfl rfl))) ((t_11).trans ((up_c (q4.trans (up_c _ rfl rfl)) (by omega) rfl).trans up_up)) (by omega) | (exfalso; omega)))⟩, by rw [ht]; exact hP, va_K.moved hW.alike hK, hD⟩, hS.F ht⟩) hS.2.2 dX13_pointer_24
set_option maxHeartbeats 2000000 in
set_option maxRecDepth 100000 in
theorem sX13_plate (l : Launch) (dC : Nat → ClassId) (dI : Nat → Nat → Nat) (sz : Nat) (ad : Nat → Nat) (ca : Nat → ClassId) (g : Nat → Int) (a : Nat → Int → Int) (p1 : Int) (p2 : Int) (p3 : Int) (p4 : Int) (p5 : Int) (hI : mI g a) (q1 : rg p1) (q2 : rg p2) (q3 : rg p3) (q4 : rg p4) (q5 : rg p5) (hrLead : rLead g a) : Met l yX13_plate (jk yX13_plate cX13_plate 11 (some .int)) ({ frames := 2, cells := 0, slots := 0, locals := 48 }) (va_Pc [.ref (ad 0), .int (iI p1), .int (iI p2), .int (iI p3), .int (iI p4), .int (iI p5)] (jw_P (dC, dI) (mG ad ca g a) (mT ca) sz)) (va_Qi (fun (r : Int32) (u : (Nat → Int) × (Nat → Int → Int)) => ∃ z : Int, r = iI z ∧ (mI u.1 u.2) ∧ (∀ j, j ∉ ([37] : List Nat) → u.1 j = g j) ∧ (∀ j, j ∉ ([25, 26, 27, 31, 32, 35, 36, 66] : List Nat) → u.2 j = a j) ∧ (rg z) ∧ (rLead u.1 u.2)) (fun u t => va_P (dC, dI) vwCl (mG ad ca u.1 u.2) t.heap ∧ va_K (dC, dI) vwCl (mT ca) t ∧ va_D (va_A (mG ad ca g a) sz) (mG ad ca u.1 u.2)) (va_A (mG ad ca g a) sz)) 0 0 (va_A (mG ad ca g a) sz) := by
  refine Met.ofW (cc := cX13_plate) (maxL := 11) (ret := (some .int)) (by decide) rfl ?_
  intro p e s m args below meth c s₁ B hml hv
  obtain ⟨rfl, hsz, hP, hK, hD0⟩ := hv
  have hx := B.exec
  have hb := B.bytes
  have hr := B.returns
  have hts := atoms_spec (ws := (jk yX13_plate cX13_plate 11 (some .int))) B.pre
  have hj : ∀ w ∈ jw, w.before ([.ref (ad 0), .int (iI p1), .int (iI p2), .int (iI p3), .int (iI p4), .int (iI p5)] : List Value).toArray s = true := fun w h => hts w (jm h)
  have hown : s.vm.findClass RX13 = some m.cls := findClass_of_methodNamed B.named
  subst hsz
  have hD := hD0.self (sz := s.heap.size)
  generalize hAe : (va_A (mG ad ca g a) s.heap.size) = A at hD ⊢
  have hA : ∀ q : Nat, s.heap.size ≤ q → A q := fun q h => by rw [← hAe]; exact Or.inr h
  have hS : va_S A s.heap s.heap [] := va_S.rf
  have hP : va_P (dC, dI) vwCl (mG ad ca g a) s.heap := hP
  have hfA : ∀ j, j ∉ ([37] : List Nat) → g j = g j := fun _ _ => rfl
  have haA : ∀ j, j ∉ ([25, 26, 27, 31, 32, 35, 36, 66] : List Nat) → a j = a j := fun _ _ => rfl
  have hl := lv_entry ([.ref (ad 0), .int (iI p1), .int (iI p2), .int (iI p3), .int (iI p4), .int (iI p5)]) (n := 11) (Nat.le_of_ble_eq_true rfl)
  rw [lg_entry_eq]
  generalize (lg_sl ([.ref (ad 0), .int (iI p1), .int (iI p2), .int (iI p3), .int (iI p4), .int (iI p5)]) ++ List.replicate (11 - (lg_sl ([.ref (ad 0), .int (iI p1), .int (iI p2), .int (iI p3), .int (iI p4), .int (iI p5)])).length) Slot.unset).toArray = ls at hl ⊢
  have hl : lv_has ls 11 [(0, .ref (ad 0)), (1, .int (iI p1)), (2, .int (iI p2)), (3, .int (iI p3)), (4, .int (iI p4)), (5, .int (iI p5))] := hl
  generalize hQ : MQ below (va_Qi (fun (r : Int32) (u : (Nat → Int) × (Nat → Int → Int)) => ∃ z : Int, r = iI z ∧ (mI u.1 u.2) ∧ (∀ j, j ∉ ([37] : List Nat) → u.1 j = g j) ∧ (∀ j, j ∉ ([25, 26, 27, 31, 32, 35, 36, 66] : List Nat) → u.2 j = a j) ∧ (rg z) ∧ (rLead u.1 u.2)) (fun u t => va_P (dC, dI) vwCl (mG ad ca u.1 u.2) t.heap ∧ va_K (dC, dI) vwCl (mT ca) t ∧ va_D A (mG ad ca u.1 u.2)) A) ([.ref (ad 0), .int (iI p1), .int (iI p2), .int (iI p3), .int (iI p4), .int (iI p5)] : List Value).toArray s 0 0 A = Q
  suffices ST : ∀ (H : Heap) (locs : List Loc), va_P (dC, dI) vwCl (mG ad ca g a) H → va_S A s.heap H locs → W p l e ({ frames := 2, cells := 0, slots := 0, locals := 48 }) s m ([.ref (ad 0), .int (iI p1), .int (iI p2), .int (iI p3), .int (iI p4), .int (iI p5)] : List Value).toArray below meth c H locs 0 0 Q (F0 m 0 ls []) from ST _ _ hP hS
  clear hP hS
  intro H locs hP hS
  have b37_0 : 0 ≤ g 37 ∧ g 37 ≤ 60 := hI.1 37
  refine lv_aload_n hx hb dX13_plate_0 rfl (lv_at hl 0 rfl) ?_
  refine lv_iload_n hx hb dX13_plate_1 rfl (lv_at hl 1 rfl) ?_
  refine lv_iload_n hx hb dX13_plate_2 rfl (lv_at hl 2 rfl) ?_
  refine lv_iload_n hx hb dX13_plate_3 rfl (lv_at hl 3 rfl) ?_
  refine jcg_i (va_runV (As := [.int (iI p1), .int (iI p2), .int (iI p3)]) (rest := []) ⟨hx, hb, hml, hown, hts⟩ (sX13_headingOf l dC dI _ ad ca g a p1 p2 p3 hI (by omega) (by omega) (by omega)) (cwV 3 hts (jgoodV m_254 m_360 m_361 m_503 m_145) rfl rfl rfl (by decide +kernel) ⟨(Nat.le_of_ble_eq_true rfl), (Nat.le_of_ble_eq_true rfl)⟩) ⟨jw_blind, va_recv hK hP (ci := 13) (q0 := 0) rfl rfl, fun U hU hW => ⟨rfl, jw_of hU hW hP hK hD⟩⟩ rfl rfl hl.1 rfl (lv_room (Nat.le_of_ble_eq_true rfl)) dX13_plate_4 ⟨(Nat.le_of_ble_eq_true rfl), (Nat.le_of_ble_eq_true rfl)⟩) hD hS hA (fun r_1 u_7 H locs w_2 hP hK hD hS => ?_)
  obtain ⟨g_5, a_6⟩ := u_7
  obtain ⟨z_3, rfl, e_9, hI, hfr_8, h_4⟩ := w_2
  have hP : va_P (dC, dI) vwCl (mG ad ca g_5 a_6) H := hP
  have hD : va_D A (mG ad ca g_5 a_6) := hD
  have e_9 : g = g_5 := e_9.symm
  subst e_9
  have haA : ∀ j, j ∉ ([25, 26, 27, 31, 32, 35, 36, 66] : List Nat) → a_6 j = a j := fun j h => (hfr_8 j (fun q => h (by first | exact q | (simp only [List.mem_cons, List.not_mem_nil, or_false] at q ⊢ <;> omega)))).trans (haA j h)
  have t_10 : a_6 27 = a 27 := (hfr_8 27 (by decide)).trans rfl
  have t_11 : a_6 31 = a 31 := (hfr_8 31 (by decide)).trans rfl
  refine lv_istore (lv' := [(6, .int (iI z_3)), (0, .ref (ad 0)), (1, .int (iI p1)), (2, .int (iI p2)), (3, .int (iI p3)), (4, .int (iI p4)), (5, .int (iI p5))]) hx hb dX13_plate_7 hl (by decide) rfl (fun ls hl => ?_)
  refine lv_iload hx hb dX13_plate_9 (lv_at hl 0 rfl) ?_
  refine xr_if_eq (tgt := 29) hx hb dX13_plate_11 (by decide) (by omega) (fun h_12 => ?_) (fun h_12 => ?_)
  · refine lv_iconst (v := iI (-1)) hx hb dX13_plate_29 rfl ?_
    rw [← hQ]
    exact W.iret (v := iI (-1)) hx hb hr (fun t ht hW => ⟨⟨iI (-1), (g, a_6), rfl, ⟨(-1), rfl, hI, hfA, haA, by omega, by show rLead g a_6; first | exact rLead_t (by omega) t_10 t_11 hrLead | (rcases (_) with ⟨q1, q2, q3, q4⟩ | ⟨q1, q2, q3, q4⟩; exact rLead_t (by omega) ((t_10).trans (q3.trans _)) ((t_11).trans (q4.trans _)) hrLead; exact rLead_new hrLead (by omega) ((t_10).trans (q3.trans (up_c _ rfl rfl))) ((t_11).trans (q4.trans (up_c _ rfl rfl))) (by omega))⟩, by rw [ht]; exact hP, va_K.moved hW.alike hK, hD⟩, hS.F ht⟩) hS.2.2 dX13_plate_30
  · refine lv_iload hx hb dX13_plate_14 (lv_at hl 5 rfl) ?_
    refine xr_if_lt (tgt := 29) hx hb dX13_plate_16 (by decide) (by omega) (fun h_13 => ?_) (fun h_13 => ?_)
    · refine lv_iconst (v := iI (-1)) hx hb dX13_plate_29 rfl ?_
      rw [← hQ]
      exact W.iret (v := iI (-1)) hx hb hr (fun t ht hW => ⟨⟨iI (-1), (g, a_6), rfl, ⟨(-1), rfl, hI, hfA, haA, by omega, by show rLead g a_6; first | exact rLead_t (by omega) t_10 t_11 hrLead | (rcases (_) with ⟨q1, q2, q3, q4⟩ | ⟨q1, q2, q3, q4⟩; exact rLead_t (by omega) ((t_10).trans (q3.trans _)) ((t_11).trans (q4.trans _)) hrLead; exact rLead_new hrLead (by omega) ((t_10).trans (q3.trans (up_c _ rfl rfl))) ((t_11).trans (q4.trans (up_c _ rfl rfl))) (by omega))⟩, by rw [ht]; exact hP, va_K.moved hW.alike hK, hD⟩, hS.F ht⟩) hS.2.2 dX13_plate_30
    · refine lv_iload hx hb dX13_plate_19 (lv_at hl 6 rfl) ?_
      refine lv_iconst (v := iI 1) hx hb dX13_plate_21 rfl ?_
      refine lv_iconst (v := iI 4) hx hb dX13_plate_22 rfl ?_
      refine jc_i (va_runS (As := [.int (iI p5), .int (iI 1), .int (iI 4)]) (rest := []) ⟨hx, hb, hml, hown, hts⟩ (sX13_in l dC dI _ p5 1 4 (by omega) (by omega) (by omega)) (va_cwS 3 hts (jgoodS m_220 m_364 m_503 m_147) rfl rfl rfl (by decide +kernel) ⟨(Nat.le_of_ble_eq_true rfl), (Nat.le_of_ble_eq_true rfl)⟩) ⟨jw_blind0, fun U hU hW => ⟨rfl, congrArg Array.size hU⟩⟩ rfl rfl hl.1 rfl (lv_room (Nat.le_of_ble_eq_true rfl)) dX13_plate_23 ⟨(Nat.le_of_ble_eq_true rfl), (Nat.le_of_ble_eq_true rfl)⟩) hP hS hA (fun r_14 H locs w_15 hP hS => ?_)
      obtain ⟨z_16, rfl, h_17, h_18⟩ := w_15
      refine xr_if_ne (tgt := 31) hx hb dX13_plate_26 (by decide) (by omega) (fun h_19 => ?_) (fun h_19 => ?_)
      · refine lv_iload hx hb dX13_plate_31 (lv_at hl 5 rfl) ?_
        refine lv_istore (lv' := [(7, .int (iI p4)), (6, .int (iI z_3)), (0, .ref (ad 0)), (1, .int (iI p1)), (2, .int (iI p2)), (3, .int (iI p3)), (4, .int (iI p4)), (5, .int (iI p5))]) hx hb dX13_plate_33 hl (by decide) rfl (fun ls hl => ?_)
        refine lv_iconst (v := iI 0) hx hb dX13_plate_35 rfl ?_
        refine lv_istore (lv' := [(8, .int (iI 0)), (7, .int (iI p4)), (6, .int (iI z_3)), (0, .ref (ad 0)), (1, .int (iI p1)), (2, .int (iI p2)), (3, .int (iI p3)), (4, .int (iI p4)), (5, .int (iI p5))]) hx hb dX13_plate_36 hl (by decide) rfl (fun ls hl => ?_)
        have L38 : ∀ (n38 : Nat) (v8_38 v7_38 : Int) (H : Heap) (locs : List Loc) (ls : Array Slot), (0 ≤ v8_38 ∧ v8_38 ≤ 2147483647) → (0 ≤ v7_38 ∧ v7_38 ≤ 2147483647) → (0 < (n38 : Int) ∧ p5 - v8_38 < (n38 : Int)) → va_P (dC, dI) vwCl (mG ad ca g a_6) H → va_D A (mG ad ca g a_6) → va_S A s.heap H locs → lv_has ls 11 [(8, .int (iI v8_38)), (7, .int (iI v7_38)), (6, .int (iI z_3)), (0, .ref (ad 0)), (1, .int (iI p1)), (2, .int (iI p2)), (3, .int (iI p3)), (4, .int (iI p4)), (5, .int (iI p5))] → W p l e ({ frames := 2, cells := 0, slots := 0, locals := 48 }) s m ([.ref (ad 0), .int (iI p1), .int (iI p2), .int (iI p3), .int (iI p4), .int (iI p5)] : List Value).toArray below meth c H locs 0 0 Q (F0 m 38 ls []) := by
          intro n38
          induction n38 with
          | zero =>
            intro v8_38 v7_38 H locs ls h_20 h_21 hm38 hP hD hS hl
            exfalso; omega
          | succ n38 ih38 =>
            intro v8_38 v7_38 H locs ls h_22 h_23 hm38 hP hD hS hl
            refine lv_iload hx hb dX13_plate_38 (lv_at hl 0 rfl) ?_
            refine lv_iload hx hb dX13_plate_40 (lv_at hl 8 rfl) ?_
            refine xr_icmp_ge (tgt := 120) hx hb dX13_plate_42 (by decide) (by omega) (by omega) (fun h_24 => ?_) (fun h_24 => ?_)
            · refine lv_iload hx hb dX13_plate_120 (lv_at hl 1 rfl) ?_
              refine xr_if_le (tgt := 129) hx hb dX13_plate_122 (by decide) (by omega) (fun h_25 => ?_) (fun h_25 => ?_)
              · refine lv_aload_n hx hb dX13_plate_129 rfl (lv_at hl 3 rfl) ?_
                refine lv_iconst (v := iI 2) hx hb dX13_plate_130 rfl ?_
                refine lv_iload hx hb dX13_plate_131 (lv_at hl 2 rfl) ?_
                refine jcg_i (va_runV (As := [.int (iI 2), .int (iI z_3)]) (rest := []) ⟨hx, hb, hml, hown, hts⟩ (sX13_newEntry l dC dI _ ad ca g a_6 2 z_3 hI (by omega) (by omega) (by omega) (by omega)) (cwV 2 hts (jgoodV m_255 m_431 m_432 m_503 m_183) rfl rfl rfl (by decide +kernel) ⟨(Nat.le_of_ble_eq_true rfl), (Nat.le_of_ble_eq_true rfl)⟩) ⟨jw_blind, va_recv hK hP (ci := 13) (q0 := 0) rfl rfl, fun U hU hW => ⟨rfl, jw_of hU hW hP hK hD⟩⟩ rfl rfl hl.1 rfl (lv_room (Nat.le_of_ble_eq_true rfl)) dX13_plate_133 ⟨(Nat.le_of_ble_eq_true rfl), (Nat.le_of_ble_eq_true rfl)⟩) hD hS hA (fun r_26 u_33 H locs w_27 hP hK hD hS => ?_)
                obtain ⟨g_31, a_32⟩ := u_33
                obtain ⟨z_28, rfl, hI, hfr_34, hfr_35, h_29, h_30⟩ := w_27
                have hP : va_P (dC, dI) vwCl (mG ad ca g_31 a_32) H := hP
                have hD : va_D A (mG ad ca g_31 a_32) := hD
                have hfA : ∀ j, j ∉ ([37] : List Nat) → g_31 j = g j := fun j h => (hfr_34 j (fun q => h (by first | exact q | (simp only [List.mem_cons, List.not_mem_nil, or_false] at q ⊢ <;> omega)))).trans (hfA j h)
                have haA : ∀ j, j ∉ ([25, 26, 27, 31, 32, 35, 36, 66] : List Nat) → a_32 j = a j := fun j h => (hfr_35 j (fun q => h (by first | exact q | (simp only [List.mem_cons, List.not_mem_nil, or_false] at q ⊢ <;> omega)))).trans (haA j h)
                have h_30 : (z_28 = -1 ∧ g_31 37 = g 37 ∧ a_32 27 = a_6 27 ∧ a_32 31 = a_6 31) ∨ (z_28 = g 37 ∧ g_31 37 = g 37 + 1 ∧ a_32 27 = up (a_6 27) (g 37) 2 ∧ a_32 31 = up (a_6 31) (g 37) (-1)) := h_30
                have b_37 : 0 ≤ g_31 37 ∧ g_31 37 ≤ 60 := hI.1 37
                rw [← hQ]
                exact W.iret (v := iI z_28) hx hb hr (fun t ht hW => ⟨⟨iI z_28, (g_31, a_32), rfl, ⟨z_28, rfl, hI, hfA, haA, by omega, by show rLead g_31 a_32; first | exact rLead_t (by omega) rfl rfl hrLead | (rcases (h_30) with ⟨q1, q2, q3, q4⟩ | ⟨q1, q2, q3, q4⟩; exact rLead_t (by omega) ((rfl).trans (q3.trans t_10)) ((rfl).trans (q4.trans t_11)) hrLead; exact rLead_new hrLead (by omega) ((rfl).trans (q3.trans (up_c t_10 rfl rfl))) ((rfl).trans (q4.trans (up_c t_11 rfl rfl))) (by omega))⟩, by rw [ht]; exact hP, va_K.moved hW.alike hK, hD⟩, hS.F ht⟩) hS.2.2 dX13_plate_136
              · refine lv_iconst (v := iI (-1)) hx hb dX13_plate_125 rfl ?_
                refine lv_goto (tgt := 136) hx hb dX13_plate_126 (by decide) ?_
                rw [← hQ]
                exact W.iret (v := iI (-1)) hx hb hr (fun t ht hW => ⟨⟨iI (-1), (g, a_6), rfl, ⟨(-1), rfl, hI, hfA, haA, by omega, by show rLead g a_6; first | exact rLead_t (by omega) t_10 t_11 hrLead | (rcases (_) with ⟨q1, q2, q3, q4⟩ | ⟨q1, q2, q3, q4⟩; exact rLead_t (by omega) ((t_10).trans (q3.trans _)) ((t_11).trans (q4.trans _)) hrLead; exact rLead_new hrLead (by omega) ((t_10).trans (q3.trans (up_c _ rfl rfl))) ((t_11).trans (q4.trans (up_c _ rfl rfl))) (by omega))⟩, by rw [ht]; exact hP, va_K.moved hW.alike hK, hD⟩, hS.F ht⟩) hS.2.2 dX13_plate_136
            · refine lv_aload_n hx hb dX13_plate_45 rfl (lv_at hl 3 rfl) ?_
              refine lv_iload hx hb dX13_plate_46 (lv_at hl 1 rfl) ?_
              refine lv_bipush (v := iI 100) hx hb dX13_plate_48 rfl ?_
              refine xr_rem hx hb dX13_plate_50 (by omega) (by omega) (by omega) (by omega) ?_
              refine jc_i (va_runV (As := [.int (iI (v7_38 % 100))]) (rest := []) ⟨hx, hb, hml, hown, hts⟩ (sX13_isEntry l dC dI _ ad ca g a_6 (v7_38 % 100) hI (by omega)) (cwV 1 hts (jgoodV m_253 m_378 m_379 m_503 m_155) rfl rfl rfl (by decide +kernel) ⟨(Nat.le_of_ble_eq_true rfl), (Nat.le_of_ble_eq_true rfl)⟩) ⟨jw_blind, va_recv hK hP (ci := 13) (q0 := 0) rfl rfl, fun U hU hW => ⟨rfl, jw_of hU hW hP hK hD⟩⟩ rfl rfl hl.1 rfl (lv_room (Nat.le_of_ble_eq_true rfl)) dX13_plate_51 ⟨(Nat.le_of_ble_eq_true rfl), (Nat.le_of_ble_eq_true rfl)⟩) hP hS hA (fun r_38 H locs w_39 hP hS => ?_)
              obtain ⟨z_40, rfl, h_41, h_42⟩ := w_39
              have b_43 : 0 ≤ g 37 ∧ g 37 ≤ 60 := hI.1 37
              refine xr_if_ne (tgt := 59) hx hb dX13_plate_54 (by decide) (by omega) (fun h_44 => ?_) (fun h_44 => ?_)
              · refine lv_iload hx hb dX13_plate_59 (lv_at hl 1 rfl) ?_
                refine lv_bipush (v := iI 100) hx hb dX13_plate_61 rfl ?_
                refine xr_div hx hb dX13_plate_63 (by omega) (by omega) (by omega) (by omega) ?_
                refine lv_istore (lv' := [(9, .int (iI (v7_38 / 100))), (8, .int (iI v8_38)), (7, .int (iI v7_38)), (6, .int (iI z_3)), (0, .ref (ad 0)), (1, .int (iI p1)), (2, .int (iI p2)), (3, .int (iI p3)), (4, .int (iI p4)), (5, .int (iI p5))]) hx hb dX13_plate_64 hl (by decide) rfl (fun ls hl => ?_)
                refine lv_iload hx hb dX13_plate_66 (lv_at hl 1 rfl) ?_
                refine lv_iconst (v := iI 1) hx hb dX13_plate_68 rfl ?_
                refine xr_add hx hb dX13_plate_69 ?_
                refine lv_istore (lv' := [(10, .int (iI (v8_38 + 1))), (9, .int (iI (v7_38 / 100))), (8, .int (iI v8_38)), (7, .int (iI v7_38)), (6, .int (iI z_3)), (0, .ref (ad 0)), (1, .int (iI p1)), (2, .int (iI p2)), (3, .int (iI p3)), (4, .int (iI p4)), (5, .int (iI p5))]) hx hb dX13_plate_70 hl (by decide) rfl (fun ls hl => ?_)
                have L72 : ∀ (n72 : Nat) (v10_72 v9_72 : Int) (H : Heap) (locs : List Loc) (ls : Array Slot), (1 ≤ v10_72 ∧ v10_72 ≤ 2147483647) → (0 ≤ v9_72 ∧ v9_72 ≤ 21474836) → (0 < (n72 : Int) ∧ p5 - v10_72 < (n72 : Int)) → va_P (dC, dI) vwCl (mG ad ca g a_6) H → va_D A (mG ad ca g a_6) → va_S A s.heap H locs → lv_has ls 11 [(10, .int (iI v10_72)), (9, .int (iI v9_72)), (8, .int (iI v8_38)), (7, .int (iI v7_38)), (6, .int (iI z_3)), (0, .ref (ad 0)), (1, .int (iI p1)), (2, .int (iI p2)), (3, .int (iI p3)), (4, .int (iI p4)), (5, .int (iI p5))] → W p l e ({ frames := 2, cells := 0, slots := 0, locals := 48 }) s m ([.ref (ad 0), .int (iI p1), .int (iI p2), .int (iI p3), .int (iI p4), .int (iI p5)] : List Value).toArray below meth c H locs 0 0 Q (F0 m 72 ls []) := by
                  intro n72
                  induction n72 with
                  | zero =>
                    intro v10_72 v9_72 H locs ls h_45 h_46 hm72 hP hD hS hl
                    exfalso; omega
                  | succ n72 ih72 =>
                    intro v10_72 v9_72 H locs ls h_47 h_48 hm72 hP hD hS hl
                    refine lv_iload hx hb dX13_plate_72 (lv_at hl 0 rfl) ?_
                    refine lv_iload hx hb dX13_plate_74 (lv_at hl 10 rfl) ?_
                    refine xr_icmp_ge (tgt := 107) hx hb dX13_plate_76 (by decide) (by omega) (by omega) (fun h_49 => ?_) (fun h_49 => ?_)
                    · refine lv_iload hx hb dX13_plate_107 (lv_at hl 3 rfl) ?_
                      refine lv_bipush (v := iI 100) hx hb dX13_plate_109 rfl ?_
                      refine xr_div hx hb dX13_plate_111 (by omega) (by omega) (by omega) (by omega) ?_
                      refine lv_istore (lv' := [(7, .int (iI (v7_38 / 100))), (10, .int (iI v10_72)), (9, .int (iI v9_72)), (8, .int (iI v8_38)), (6, .int (iI z_3)), (0, .ref (ad 0)), (1, .int (iI p1)), (2, .int (iI p2)), (3, .int (iI p3)), (4, .int (iI p4)), (5, .int (iI p5))]) hx hb dX13_plate_112 hl (by decide) rfl (fun ls hl => ?_)
                      refine lv_iinc (v := iI (v8_38 + 1)) (lv' := [(8, .int (iI (v8_38 + 1))), (7, .int (iI (v7_38 / 100))), (10, .int (iI v10_72)), (9, .int (iI v9_72)), (6, .int (iI z_3)), (0, .ref (ad 0)), (1, .int (iI p1)), (2, .int (iI p2)), (3, .int (iI p3)), (4, .int (iI p4)), (5, .int (iI p5))]) hx hb dX13_plate_114 hl (k := 3) rfl (iI_add _ _) (by decide) rfl (fun ls hl => ?_)
                      refine lv_goto (tgt := 38) hx hb dX13_plate_117 (by decide) ?_
                      exact ih38 (v8_38 + 1) (v7_38 / 100) H locs ls (by omega) (by omega) (by omega) hP hD hS (lv_sub hl [0, 1, 4, 5, 6, 7, 8, 9, 10] rfl)
                    · refine lv_iload hx hb dX13_plate_79 (lv_at hl 1 rfl) ?_
                      refine lv_bipush (v := iI 100) hx hb dX13_plate_81 rfl ?_
                      refine xr_rem hx hb dX13_plate_83 (by omega) (by omega) (by omega) (by omega) ?_
                      refine lv_iload hx hb dX13_plate_84 (lv_at hl 3 rfl) ?_
                      refine lv_bipush (v := iI 100) hx hb dX13_plate_86 rfl ?_
                      refine xr_rem hx hb dX13_plate_88 (by omega) (by omega) (by omega) (by omega) ?_
                      refine xr_icmp_ne (tgt := 94) hx hb dX13_plate_89 (by decide) (by omega) (by omega) (fun h_50 => ?_) (fun h_50 => ?_)
                      · refine lv_iload hx hb dX13_plate_94 (lv_at hl 1 rfl) ?_
                        refine lv_bipush (v := iI 100) hx hb dX13_plate_96 rfl ?_
                        refine xr_div hx hb dX13_plate_98 (by omega) (by omega) (by omega) (by omega) ?_
                        refine lv_istore (lv' := [(9, .int (iI (v9_72 / 100))), (10, .int (iI v10_72)), (8, .int (iI v8_38)), (7, .int (iI v7_38)), (6, .int (iI z_3)), (0, .ref (ad 0)), (1, .int (iI p1)), (2, .int (iI p2)), (3, .int (iI p3)), (4, .int (iI p4)), (5, .int (iI p5))]) hx hb dX13_plate_99 hl (by decide) rfl (fun ls hl => ?_)
                        refine lv_iinc (v := iI (v10_72 + 1)) (lv' := [(10, .int (iI (v10_72 + 1))), (9, .int (iI (v9_72 / 100))), (8, .int (iI v8_38)), (7, .int (iI v7_38)), (6, .int (iI z_3)), (0, .ref (ad 0)), (1, .int (iI p1)), (2, .int (iI p2)), (3, .int (iI p3)), (4, .int (iI p4)), (5, .int (iI p5))]) hx hb dX13_plate_101 hl (k := 1) rfl (iI_add _ _) (by decide) rfl (fun ls hl => ?_)
                        refine lv_goto (tgt := 72) hx hb dX13_plate_104 (by decide) ?_
                        exact ih72 (v10_72 + 1) (v9_72 / 100) H locs ls (by omega) (by omega) (by omega) hP hD hS hl
                      · refine lv_iconst (v := iI (-1)) hx hb dX13_plate_92 rfl ?_
                        rw [← hQ]
                        exact W.iret (v := iI (-1)) hx hb hr (fun t ht hW => ⟨⟨iI (-1), (g, a_6), rfl, ⟨(-1), rfl, hI, hfA, haA, by omega, by show rLead g a_6; first | exact rLead_t (by omega) t_10 t_11 hrLead | (rcases (_) with ⟨q1, q2, q3, q4⟩ | ⟨q1, q2, q3, q4⟩; exact rLead_t (by omega) ((t_10).trans (q3.trans _)) ((t_11).trans (q4.trans _)) hrLead; exact rLead_new hrLead (by omega) ((t_10).trans (q3.trans (up_c _ rfl rfl))) ((t_11).trans (q4.trans (up_c _ rfl rfl))) (by omega))⟩, by rw [ht]; exact hP, va_K.moved hW.alike hK, hD⟩, hS.F ht⟩) hS.2.2 dX13_plate_93
                exact L72 (((p5 - (v8_38 + 1) : Int)).toNat + 1) (v8_38 + 1) (v7_38 / 100) H locs ls (by omega) (by omega) (by omega) hP hD hS hl
              · refine lv_iconst (v := iI (-1)) hx hb dX13_plate_57 rfl ?_
                rw [← hQ]
                exact W.iret (v := iI (-1)) hx hb hr (fun t ht hW => ⟨⟨iI (-1), (g, a_6), rfl, ⟨(-1), rfl, hI, hfA, haA, by omega, by show rLead g a_6; first | exact rLead_t (by omega) t_10 t_11 hrLead | (rcases (_) with ⟨q1, q2, q3, q4⟩ | ⟨q1, q2, q3, q4⟩; exact rLead_t (by omega) ((t_10).trans (q3.trans _)) ((t_11).trans (q4.trans _)) hrLead; exact rLead_new hrLead (by omega) ((t_10).trans (q3.trans (up_c _ rfl rfl))) ((t_11).trans (q4.trans (up_c _ rfl rfl))) (by omega))⟩, by rw [ht]; exact hP, va_K.moved hW.alike hK, hD⟩, hS.F ht⟩) hS.2.2 dX13_plate_58
        exact L38 (((p5 - 0 : Int)).toNat + 1) 0 p4 H locs ls (by omega) (by omega) (by omega) hP hD hS hl
      · refine lv_iconst (v := iI (-1)) hx hb dX13_plate_29 rfl ?_
        rw [← hQ]
        exact W.iret (v := iI (-1)) hx hb hr (fun t ht hW => ⟨⟨iI (-1), (g, a_6), rfl, ⟨(-1), rfl, hI, hfA, haA, by omega, by show rLead g a_6; first | exact rLead_t (by omega) t_10 t_11 hrLead | (rcases (_) with ⟨q1, q2, q3, q4⟩ | ⟨q1, q2, q3, q4⟩; exact rLead_t (by omega) ((t_10).trans (q3.trans _)) ((t_11).trans (q4.trans _)) hrLead; exact rLead_new hrLead (by omega) ((t_10).trans (q3.trans (up_c _ rfl rfl))) ((t_11).trans (q4.trans (up_c _ rfl rfl))) (by omega))⟩, by rw [ht]; exact hP, va_K.moved hW.alike hK, hD⟩, hS.F ht⟩) hS.2.2 dX13_plate_30
set_option maxHeartbeats 2000000 in
set_option maxRecDepth 100000 in
theorem sX13_points (l : Launch) (dC : Nat → ClassId) (dI : Nat → Nat → Nat) (sz : Nat) (ad : Nat → Nat) (ca : Nat → ClassId) (g : Nat → Int) (a : Nat → Int → Int) (p1 : Int) (p2 : Int) (hI : mI g a) (q1 : rg p1) (q2 : rg p2) (hrLead : rLead g a) : Met l yX13_points (jk yX13_points cX13_points 3 (some .boolean)) ({ frames := 2, cells := 0, slots := 0, locals := 43 }) (va_Pc [.ref (ad 0), .int (iI p1), .int (iI p2)] (jw_P (dC, dI) (mG ad ca g a) (mT ca) sz)) (va_Qi (fun (r : Int32) (u : (Nat → Int) × (Nat → Int → Int)) => ∃ z : Int, r = iI z ∧ (u.1 = g) ∧ (mI u.1 u.2) ∧ (∀ j, j ∉ ([31] : List Nat) → u.2 j = a j) ∧ (0 ≤ z ∧ z ≤ 1) ∧ (rLead u.1 u.2)) (fun u t => va_P (dC, dI) vwCl (mG ad ca u.1 u.2) t.heap ∧ va_K (dC, dI) vwCl (mT ca) t ∧ va_D (va_A (mG ad ca g a) sz) (mG ad ca u.1 u.2)) (va_A (mG ad ca g a) sz)) 0 0 (va_A (mG ad ca g a) sz) := by
  refine Met.ofW (cc := cX13_points) (maxL := 3) (ret := (some .boolean)) (by decide) rfl ?_
  intro p e s m args below meth c s₁ B hml hv
  obtain ⟨rfl, hsz, hP, hK, hD0⟩ := hv
  have hx := B.exec
  have hb := B.bytes
  have hr := B.returns
  have hts := atoms_spec (ws := (jk yX13_points cX13_points 3 (some .boolean))) B.pre
  have hj : ∀ w ∈ jw, w.before ([.ref (ad 0), .int (iI p1), .int (iI p2)] : List Value).toArray s = true := fun w h => hts w (jm h)
  have hown : s.vm.findClass RX13 = some m.cls := findClass_of_methodNamed B.named
  subst hsz
  have hD := hD0.self (sz := s.heap.size)
  generalize hAe : (va_A (mG ad ca g a) s.heap.size) = A at hD ⊢
  have hA : ∀ q : Nat, s.heap.size ≤ q → A q := fun q h => by rw [← hAe]; exact Or.inr h
  have hS : va_S A s.heap s.heap [] := va_S.rf
  have hP : va_P (dC, dI) vwCl (mG ad ca g a) s.heap := hP
  have haA : ∀ j, j ∉ ([31] : List Nat) → a j = a j := fun _ _ => rfl
  have hl := lv_entry ([.ref (ad 0), .int (iI p1), .int (iI p2)]) (n := 3) (Nat.le_of_ble_eq_true rfl)
  rw [lg_entry_eq]
  generalize (lg_sl ([.ref (ad 0), .int (iI p1), .int (iI p2)]) ++ List.replicate (3 - (lg_sl ([.ref (ad 0), .int (iI p1), .int (iI p2)])).length) Slot.unset).toArray = ls at hl ⊢
  have hl : lv_has ls 3 [(0, .ref (ad 0)), (1, .int (iI p1)), (2, .int (iI p2))] := hl
  generalize hQ : MQ below (va_Qi (fun (r : Int32) (u : (Nat → Int) × (Nat → Int → Int)) => ∃ z : Int, r = iI z ∧ (u.1 = g) ∧ (mI u.1 u.2) ∧ (∀ j, j ∉ ([31] : List Nat) → u.2 j = a j) ∧ (0 ≤ z ∧ z ≤ 1) ∧ (rLead u.1 u.2)) (fun u t => va_P (dC, dI) vwCl (mG ad ca u.1 u.2) t.heap ∧ va_K (dC, dI) vwCl (mT ca) t ∧ va_D A (mG ad ca u.1 u.2)) A) ([.ref (ad 0), .int (iI p1), .int (iI p2)] : List Value).toArray s 0 0 A = Q
  suffices ST : ∀ (H : Heap) (locs : List Loc), va_P (dC, dI) vwCl (mG ad ca g a) H → va_S A s.heap H locs → W p l e ({ frames := 2, cells := 0, slots := 0, locals := 43 }) s m ([.ref (ad 0), .int (iI p1), .int (iI p2)] : List Value).toArray below meth c H locs 0 0 Q (F0 m 0 ls []) from ST _ _ hP hS
  clear hP hS
  intro H locs hP hS
  have b37_0 : 0 ≤ g 37 ∧ g 37 ≤ 60 := hI.1 37
  refine lv_aload_n hx hb dX13_points_0 rfl (lv_at hl 0 rfl) ?_
  refine lv_iload_n hx hb dX13_points_1 rfl (lv_at hl 1 rfl) ?_
  refine jc_i (va_runV (As := [.int (iI p1)]) (rest := []) ⟨hx, hb, hml, hown, hts⟩ (sX13_isEntry l dC dI _ ad ca g a p1 hI (by omega)) (cwV 1 hts (jgoodV m_253 m_378 m_379 m_503 m_155) rfl rfl rfl (by decide +kernel) ⟨(Nat.le_of_ble_eq_true rfl), (Nat.le_of_ble_eq_true rfl)⟩) ⟨jw_blind, va_recv hK hP (ci := 13) (q0 := 0) rfl rfl, fun U hU hW => ⟨rfl, jw_of hU hW hP hK hD⟩⟩ rfl rfl hl.1 rfl (lv_room (Nat.le_of_ble_eq_true rfl)) dX13_points_2 ⟨(Nat.le_of_ble_eq_true rfl), (Nat.le_of_ble_eq_true rfl)⟩) hP hS hA (fun r_1 H locs w_2 hP hS => ?_)
  obtain ⟨z_3, rfl, h_4, h_5⟩ := w_2
  have b_6 : 0 ≤ g 37 ∧ g 37 ≤ 60 := hI.1 37
  refine xr_if_eq (tgt := 36) hx hb dX13_points_5 (by decide) (by omega) (fun h_7 => ?_) (fun h_7 => ?_)
  · refine lv_iconst (v := iI 0) hx hb dX13_points_36 rfl ?_
    rw [← hQ]
    exact W.zret (v := iI 0) (ty := .boolean) hx hb hr (nb_bool (by omega) (by omega)) (fun t ht hW => ⟨⟨iI 0, (g, a), rfl, ⟨0, rfl, rfl, hI, haA, by omega, by show rLead g a; first | exact rLead_t (by omega) rfl rfl hrLead | exact rLead_pt hrLead (by omega) rfl rfl (by omega)⟩, by rw [ht]; exact hP, va_K.moved hW.alike hK, hD⟩, hS.F ht⟩) hS.2.2 dX13_points_37
  · refine lv_aload_n hx hb dX13_points_8 rfl (lv_at hl 0 rfl) ?_
    refine gf_kind hx hb hj hown hK hP dX13_points_9 ?_
    refine lv_iload_n hx hb dX13_points_12 rfl (lv_at hl 1 rfl) ?_
    refine ld_kind hx hb hK hP hI (by omega) (by omega) dX13_points_13 (fun h_8 => ?_)
    refine lv_iconst (v := iI 1) hx hb dX13_points_14 rfl ?_
    refine xr_icmp_ne (tgt := 36) hx hb dX13_points_15 (by decide) (by omega) (by omega) (fun h_9 => ?_) (fun h_9 => ?_)
    · refine lv_iconst (v := iI 0) hx hb dX13_points_36 rfl ?_
      rw [← hQ]
      exact W.zret (v := iI 0) (ty := .boolean) hx hb hr (nb_bool (by omega) (by omega)) (fun t ht hW => ⟨⟨iI 0, (g, a), rfl, ⟨0, rfl, rfl, hI, haA, by omega, by show rLead g a; first | exact rLead_t (by omega) rfl rfl hrLead | exact rLead_pt hrLead (by omega) rfl rfl (by omega)⟩, by rw [ht]; exact hP, va_K.moved hW.alike hK, hD⟩, hS.F ht⟩) hS.2.2 dX13_points_37
    · refine lv_aload_n hx hb dX13_points_18 rfl (lv_at hl 0 rfl) ?_
      refine gf_setWith hx hb hj hown hK hP dX13_points_19 ?_
      refine lv_iload_n hx hb dX13_points_22 rfl (lv_at hl 1 rfl) ?_
      refine ld_setWith hx hb hK hP hI (by omega) (by omega) dX13_points_23 (fun h_10 => ?_)
      refine lv_iconst (v := iI (-1)) hx hb dX13_points_24 rfl ?_
      refine xr_icmp_ne (tgt := 36) hx hb dX13_points_25 (by decide) (by omega) (by omega) (fun h_11 => ?_) (fun h_11 => ?_)
      · refine lv_iconst (v := iI 0) hx hb dX13_points_36 rfl ?_
        rw [← hQ]
        exact W.zret (v := iI 0) (ty := .boolean) hx hb hr (nb_bool (by omega) (by omega)) (fun t ht hW => ⟨⟨iI 0, (g, a), rfl, ⟨0, rfl, rfl, hI, haA, by omega, by show rLead g a; first | exact rLead_t (by omega) rfl rfl hrLead | exact rLead_pt hrLead (by omega) rfl rfl (by omega)⟩, by rw [ht]; exact hP, va_K.moved hW.alike hK, hD⟩, hS.F ht⟩) hS.2.2 dX13_points_37
      · refine lv_aload_n hx hb dX13_points_28 rfl (lv_at hl 0 rfl) ?_
        refine lv_iload_n hx hb dX13_points_29 rfl (lv_at hl 2 rfl) ?_
        refine jc_i (va_runV (As := [.int (iI p2)]) (rest := []) ⟨hx, hb, hml, hown, hts⟩ (sX13_isEntry l dC dI _ ad ca g a p2 hI (by omega)) (cwV 1 hts (jgoodV m_253 m_378 m_379 m_503 m_155) rfl rfl rfl (by decide +kernel) ⟨(Nat.le_of_ble_eq_true rfl), (Nat.le_of_ble_eq_true rfl)⟩) ⟨jw_blind, va_recv hK hP (ci := 13) (q0 := 0) rfl rfl, fun U hU hW => ⟨rfl, jw_of hU hW hP hK hD⟩⟩ rfl rfl hl.1 rfl (lv_room (Nat.le_of_ble_eq_true rfl)) dX13_points_30 ⟨(Nat.le_of_ble_eq_true rfl), (Nat.le_of_ble_eq_true rfl)⟩) hP hS hA (fun r_12 H locs w_13 hP hS => ?_)
        obtain ⟨z_14, rfl, h_15, h_16⟩ := w_13
        have b_17 : 0 ≤ g 37 ∧ g 37 ≤ 60 := hI.1 37
        refine xr_if_ne (tgt := 38) hx hb dX13_points_33 (by decide) (by omega) (fun h_18 => ?_) (fun h_18 => ?_)
        · refine lv_aload_n hx hb dX13_points_38 rfl (lv_at hl 0 rfl) ?_
          refine gf_leads hx hb hj hown hK hP dX13_points_39 ?_
          refine lv_iload_n hx hb dX13_points_42 rfl (lv_at hl 1 rfl) ?_
          refine lv_iload_n hx hb dX13_points_43 rfl (lv_at hl 2 rfl) ?_
          refine st_leads hx hb hK hP hD hS hI (by omega) (by omega) (by omega) (by omega) dX13_points_44 (fun a_19 H locs e_20 e_21 hI hP hD hS => ?_)
          have haA : ∀ j, j ∉ ([31] : List Nat) → a_19 j = a j := fun j h => (e_20 j (fun q => h (q ▸ (by decide : 31 ∈ ([31] : List Nat))))).trans (haA j h)
          have t_22 : a_19 27 = a 27 := (e_20 27 (by decide)).trans rfl
          have t_23 : a_19 31 = up (a 31) p1 p2 := e_21.trans (up_c rfl (by omega) (by omega))
          refine lv_iconst (v := iI 1) hx hb dX13_points_45 rfl ?_
          rw [← hQ]
          exact W.zret (v := iI 1) (ty := .boolean) hx hb hr (nb_bool (by omega) (by omega)) (fun t ht hW => ⟨⟨iI 1, (g, a_19), rfl, ⟨1, rfl, rfl, hI, haA, by omega, by show rLead g a_19; first | exact rLead_t (by omega) t_22 t_23 hrLead | exact rLead_pt hrLead (by omega) t_22 t_23 (by omega)⟩, by rw [ht]; exact hP, va_K.moved hW.alike hK, hD⟩, hS.F ht⟩) hS.2.2 dX13_points_46
        · refine lv_iconst (v := iI 0) hx hb dX13_points_36 rfl ?_
          rw [← hQ]
          exact W.zret (v := iI 0) (ty := .boolean) hx hb hr (nb_bool (by omega) (by omega)) (fun t ht hW => ⟨⟨iI 0, (g, a), rfl, ⟨0, rfl, rfl, hI, haA, by omega, by show rLead g a; first | exact rLead_t (by omega) rfl rfl hrLead | exact rLead_pt hrLead (by omega) rfl rfl (by omega)⟩, by rw [ht]; exact hP, va_K.moved hW.alike hK, hD⟩, hS.F ht⟩) hS.2.2 dX13_points_37
