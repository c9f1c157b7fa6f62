set_option maxHeartbeats 2000000 in
set_option maxRecDepth 100000 in
theorem sX13_push (l : Launch) (dC : Nat → ClassId) (dI : Nat → Nat → Nat) (sz : Nat) (ad : Nat → Nat) (ca : Nat → ClassId) (g : Nat → Int) (a : Nat → Int → Int) (p1 : Int) (hI : mI g a) (q1 : rg p1) (k1 : g 7 < 1200) : Met l yX13_push (jk yX13_push cX13_push 2 none) ({ frames := 0, cells := 0, slots := 0, locals := 0 }) (va_Pc [.ref (ad 0), .int (iI p1)] (jw_P (dC, dI) (mG ad ca g a) (mT ca) sz)) (va_Qv (fun (u : (Nat → Int) × (Nat → Int → Int)) => (mI u.1 u.2) ∧ (∀ j, j ∉ ([7] : List Nat) → u.1 j = g j) ∧ (∀ j, j ∉ ([2] : List Nat) → u.2 j = a j) ∧ (u.1 7 = g 7 + 1) ∧ (u.2 2 = up (a 2) (g 7) p1)) (fun u t => va_P (dC, dI) vwCl (mG ad ca u.1 u.2) t.heap ∧ va_K (dC, dI) vwCl (mT ca) t ∧ va_D (va_A (mG ad ca g a) sz) (mG ad ca u.1 u.2)) (va_A (mG ad ca g a) sz)) 0 0 (va_A (mG ad ca g a) sz) := by
  refine Met.ofW (cc := cX13_push) (maxL := 2) (ret := none) (by decide) rfl ?_
  intro p e s m args below meth c s₁ B hml hv
  obtain ⟨rfl, hsz, hP, hK, hD0⟩ := hv
  have hx := B.exec
  have hb := B.bytes
  have hr := B.returns
  have hts := atoms_spec (ws := (jk yX13_push cX13_push 2 none)) B.pre
  have hj : ∀ w ∈ jw, w.before ([.ref (ad 0), .int (iI p1)] : List Value).toArray s = true := fun w h => hts w (jm h)
  have hown : s.vm.findClass RX13 = some m.cls := findClass_of_methodNamed B.named
  subst hsz
  have hD := hD0.self (sz := s.heap.size)
  generalize hAe : (va_A (mG ad ca g a) s.heap.size) = A at hD ⊢
  have hA : ∀ q : Nat, s.heap.size ≤ q → A q := fun q h => by rw [← hAe]; exact Or.inr h
  have hS : va_S A s.heap s.heap [] := va_S.rf
  have hP : va_P (dC, dI) vwCl (mG ad ca g a) s.heap := hP
  have hfA : ∀ j, j ∉ ([7] : List Nat) → g j = g j := fun _ _ => rfl
  have haA : ∀ j, j ∉ ([2] : List Nat) → a j = a j := fun _ _ => rfl
  have hl := lv_entry ([.ref (ad 0), .int (iI p1)]) (n := 2) (Nat.le_of_ble_eq_true rfl)
  rw [lg_entry_eq]
  generalize (lg_sl ([.ref (ad 0), .int (iI p1)]) ++ List.replicate (2 - (lg_sl ([.ref (ad 0), .int (iI p1)])).length) Slot.unset).toArray = ls at hl ⊢
  have hl : lv_has ls 2 [(0, .ref (ad 0)), (1, .int (iI p1))] := hl
  generalize hQ : MQ below (va_Qv (fun (u : (Nat → Int) × (Nat → Int → Int)) => (mI u.1 u.2) ∧ (∀ j, j ∉ ([7] : List Nat) → u.1 j = g j) ∧ (∀ j, j ∉ ([2] : List Nat) → u.2 j = a j) ∧ (u.1 7 = g 7 + 1) ∧ (u.2 2 = up (a 2) (g 7) p1)) (fun u t => va_P (dC, dI) vwCl (mG ad ca u.1 u.2) t.heap ∧ va_K (dC, dI) vwCl (mT ca) t ∧ va_D A (mG ad ca u.1 u.2)) A) ([.ref (ad 0), .int (iI p1)] : List Value).toArray s 0 0 A = Q
  suffices ST : ∀ (H : Heap) (locs : List Loc), va_P (dC, dI) vwCl (mG ad ca g a) H → va_S A s.heap H locs → W p l e ({ frames := 0, cells := 0, slots := 0, locals := 0 }) s m ([.ref (ad 0), .int (iI p1)] : List Value).toArray below meth c H locs 0 0 Q (F0 m 0 ls []) from ST _ _ hP hS
  clear hP hS
  intro H locs hP hS
  refine lv_aload_n hx hb dX13_push_0 rfl (lv_at hl 0 rfl) ?_
  refine gf_toCome hx hb hj hown hK hP dX13_push_1 ?_
  refine lv_aload_n hx hb dX13_push_4 rfl (lv_at hl 0 rfl) ?_
  refine gf_coming hx hb hj hown hK hP hI dX13_push_5 (fun h_1 => ?_)
  refine lv_iload_n hx hb dX13_push_8 rfl (lv_at hl 1 rfl) ?_
  refine sa_toCome hx hb hK hP hD hS hI (by omega) (by omega) dX13_push_9 (fun a_2 z_5 H locs h_6 h_7 e_3 e_4 hI hP hD hS => ?_)
  have haA : ∀ j, j ∉ ([2] : List Nat) → a_2 j = a j := fun j h => (e_3 j (fun q => h (q ▸ (by decide : 2 ∈ ([2] : List Nat))))).trans (haA j h)
  have t_8 : a_2 2 = up (a 2) (g 7) p1 := e_4.trans (up_c rfl (by omega) (by omega))
  refine lv_aload_n hx hb dX13_push_10 rfl (lv_at hl 0 rfl) ?_
  refine lv_dup hx hb dX13_push_11 rfl ?_
  refine gf_coming hx hb hj hown hK hP hI dX13_push_12 (fun h_9 => ?_)
  refine lv_iconst (v := iI 1) hx hb dX13_push_15 rfl ?_
  refine xr_add hx hb dX13_push_16 ?_
  refine pf_coming hx hb hj hown hK hP hD hS hI (by omega) (by omega) dX13_push_17 (fun g_10 H locs e_11 e_12 hI hP hD hS => ?_)
  have hfA : ∀ j, j ∉ ([7] : List Nat) → g_10 j = g j := fun j h => (e_11 j (fun q => h (q ▸ (by decide : 7 ∈ ([7] : List Nat))))).trans (hfA j h)
  rw [← hQ]
  exact W.vret hx hb hr (fun t ht hW => ⟨⟨(g_10, a_2), rfl, ⟨hI, hfA, haA, by show g_10 7 = g 7 + 1; omega, by show a_2 2 = up (a 2) (g 7) p1; exact t_8⟩, by rw [ht]; exact hP, va_K.moved hW.alike hK, hD⟩, hS.F ht⟩) hS.2.2 dX13_push_20
set_option maxHeartbeats 2000000 in
set_option maxRecDepth 100000 in
theorem sX13_emits (l : Launch) (dC : Nat → ClassId) (dI : Nat → Nat → Nat) (sz : Nat) (ad : Nat → Nat) (ca : Nat → ClassId) (g : Nat → Int) (a : Nat → Int → Int) (p1 : Int) (p2 : Int) (hI : mI g a) (q1 : rg p1) (q2 : rg p2) (k1 : g 12 < 600) : Met l yX13_emits (jk yX13_emits cX13_emits 3 none) ({ frames := 0, cells := 0, slots := 0, locals := 0 }) (va_Pc [.ref (ad 0), .int (iI p1), .int (iI p2)] (jw_P (dC, dI) (mG ad ca g a) (mT ca) sz)) (va_Qv (fun (u : (Nat → Int) × (Nat → Int → Int)) => (mI u.1 u.2) ∧ (∀ j, j ∉ ([12] : List Nat) → u.1 j = g j) ∧ (∀ j, j ∉ ([3, 4] : List Nat) → u.2 j = a j) ∧ (u.1 12 = g 12 + 1) ∧ (u.2 3 = up (a 3) (g 12) p1) ∧ (u.2 4 = up (a 4) (g 12) p2)) (fun u t => va_P (dC, dI) vwCl (mG ad ca u.1 u.2) t.heap ∧ va_K (dC, dI) vwCl (mT ca) t ∧ va_D (va_A (mG ad ca g a) sz) (mG ad ca u.1 u.2)) (va_A (mG ad ca g a) sz)) 0 0 (va_A (mG ad ca g a) sz) := by
  refine Met.ofW (cc := cX13_emits) (maxL := 3) (ret := none) (by decide) rfl ?_
  intro p e s m args below meth c s₁ B hml hv
  obtain ⟨rfl, hsz, hP, hK, hD0⟩ := hv
  have hx := B.exec
  have hb := B.bytes
  have hr := B.returns
  have hts := atoms_spec (ws := (jk yX13_emits cX13_emits 3 none)) B.pre
  have hj : ∀ w ∈ jw, w.before ([.ref (ad 0), .int (iI p1), .int (iI p2)] : List Value).toArray s = true := fun w h => hts w (jm h)
  have hown : s.vm.findClass RX13 = some m.cls := findClass_of_methodNamed B.named
  subst hsz
  have hD := hD0.self (sz := s.heap.size)
  generalize hAe : (va_A (mG ad ca g a) s.heap.size) = A at hD ⊢
  have hA : ∀ q : Nat, s.heap.size ≤ q → A q := fun q h => by rw [← hAe]; exact Or.inr h
  have hS : va_S A s.heap s.heap [] := va_S.rf
  have hP : va_P (dC, dI) vwCl (mG ad ca g a) s.heap := hP
  have hfA : ∀ j, j ∉ ([12] : List Nat) → g j = g j := fun _ _ => rfl
  have haA : ∀ j, j ∉ ([3, 4] : List Nat) → a j = a j := fun _ _ => rfl
  have hl := lv_entry ([.ref (ad 0), .int (iI p1), .int (iI p2)]) (n := 3) (Nat.le_of_ble_eq_true rfl)
  rw [lg_entry_eq]
  generalize (lg_sl ([.ref (ad 0), .int (iI p1), .int (iI p2)]) ++ List.replicate (3 - (lg_sl ([.ref (ad 0), .int (iI p1), .int (iI p2)])).length) Slot.unset).toArray = ls at hl ⊢
  have hl : lv_has ls 3 [(0, .ref (ad 0)), (1, .int (iI p1)), (2, .int (iI p2))] := hl
  generalize hQ : MQ below (va_Qv (fun (u : (Nat → Int) × (Nat → Int → Int)) => (mI u.1 u.2) ∧ (∀ j, j ∉ ([12] : List Nat) → u.1 j = g j) ∧ (∀ j, j ∉ ([3, 4] : List Nat) → u.2 j = a j) ∧ (u.1 12 = g 12 + 1) ∧ (u.2 3 = up (a 3) (g 12) p1) ∧ (u.2 4 = up (a 4) (g 12) p2)) (fun u t => va_P (dC, dI) vwCl (mG ad ca u.1 u.2) t.heap ∧ va_K (dC, dI) vwCl (mT ca) t ∧ va_D A (mG ad ca u.1 u.2)) A) ([.ref (ad 0), .int (iI p1), .int (iI p2)] : List Value).toArray s 0 0 A = Q
  suffices ST : ∀ (H : Heap) (locs : List Loc), va_P (dC, dI) vwCl (mG ad ca g a) H → va_S A s.heap H locs → W p l e ({ frames := 0, cells := 0, slots := 0, locals := 0 }) s m ([.ref (ad 0), .int (iI p1), .int (iI p2)] : List Value).toArray below meth c H locs 0 0 Q (F0 m 0 ls []) from ST _ _ hP hS
  clear hP hS
  intro H locs hP hS
  refine lv_aload_n hx hb dX13_emits_0 rfl (lv_at hl 0 rfl) ?_
  refine gf_does hx hb hj hown hK hP dX13_emits_1 ?_
  refine lv_aload_n hx hb dX13_emits_4 rfl (lv_at hl 0 rfl) ?_
  refine gf_doing hx hb hj hown hK hP hI dX13_emits_5 (fun h_1 => ?_)
  refine lv_iload_n hx hb dX13_emits_8 rfl (lv_at hl 1 rfl) ?_
  refine sa_does hx hb hK hP hD hS hI (by omega) (by omega) dX13_emits_9 (fun a_2 z_5 H locs h_6 h_7 e_3 e_4 hI hP hD hS => ?_)
  have haA : ∀ j, j ∉ ([3, 4] : List Nat) → a_2 j = a j := fun j h => (e_3 j (fun q => h (q ▸ (by decide : 3 ∈ ([3, 4] : List Nat))))).trans (haA j h)
  have t_8 : a_2 3 = up (a 3) (g 12) p1 := e_4.trans (up_c rfl (by omega) (by omega))
  have t_9 : a_2 4 = a 4 := (e_3 4 (by decide)).trans rfl
  refine lv_aload_n hx hb dX13_emits_10 rfl (lv_at hl 0 rfl) ?_
  refine gf_doesWith hx hb hj hown hK hP dX13_emits_11 ?_
  refine lv_aload_n hx hb dX13_emits_14 rfl (lv_at hl 0 rfl) ?_
  refine gf_doing hx hb hj hown hK hP hI dX13_emits_15 (fun h_10 => ?_)
  refine lv_iload_n hx hb dX13_emits_18 rfl (lv_at hl 2 rfl) ?_
  refine sa_doesWith hx hb hK hP hD hS hI (by omega) (by omega) dX13_emits_19 (fun a_11 z_14 H locs h_15 h_16 e_12 e_13 hI hP hD hS => ?_)
  have haA : ∀ j, j ∉ ([3, 4] : List Nat) → a_11 j = a j := fun j h => (e_12 j (fun q => h (q ▸ (by decide : 4 ∈ ([3, 4] : List Nat))))).trans (haA j h)
  have t_17 : a_11 3 = up (a 3) (g 12) p1 := (e_12 3 (by decide)).trans t_8
  have t_18 : a_11 4 = up (a 4) (g 12) p2 := e_13.trans (up_c t_9 (by omega) (by omega))
  refine lv_aload_n hx hb dX13_emits_20 rfl (lv_at hl 0 rfl) ?_
  refine lv_dup hx hb dX13_emits_21 rfl ?_
  refine gf_doing hx hb hj hown hK hP hI dX13_emits_22 (fun h_19 => ?_)
  refine lv_iconst (v := iI 1) hx hb dX13_emits_25 rfl ?_
  refine xr_add hx hb dX13_emits_26 ?_
  refine pf_doing hx hb hj hown hK hP hD hS hI (by omega) (by omega) dX13_emits_27 (fun g_20 H locs e_21 e_22 hI hP hD hS => ?_)
  have hfA : ∀ j, j ∉ ([12] : List Nat) → g_20 j = g j := fun j h => (e_21 j (fun q => h (q ▸ (by decide : 12 ∈ ([12] : List Nat))))).trans (hfA j h)
  rw [← hQ]
  exact W.vret hx hb hr (fun t ht hW => ⟨⟨(g_20, a_11), rfl, ⟨hI, hfA, haA, by show g_20 12 = g 12 + 1; omega, by show a_11 3 = up (a 3) (g 12) p1; exact t_17, by show a_11 4 = up (a 4) (g 12) p2; exact t_18⟩, by rw [ht]; exact hP, va_K.moved hW.alike hK, hD⟩, hS.F ht⟩) hS.2.2 dX13_emits_30
set_option maxHeartbeats 2000000 in
set_option maxRecDepth 100000 in
theorem sX13_takes (l : Launch) (dC : Nat → ClassId) (dI : Nat → Nat → Nat) (sz : Nat) (ad : Nat → Nat) (ca : Nat → ClassId) (sK sV : Nat → Nat) (g : Nat → Int) (a : Nat → Int → Int) (tT : Int → Int) (tN : Int) (hI : mI g a) (k1 : g 2 ≤ g 1) (hrTx : txR tT tN g a) : Met l yX13_takes (jk yX13_takes cX13_takes 1 (some .boolean)) ({ frames := 6, cells := 0, slots := 0, locals := 133 }) (va_Pc [.ref (ad 0)] (mP (dC, dI) (mG ad ca g a) (mT ca) sK sV sz)) (va_Qi (fun (r : Int32) (u : (Nat → Int) × (Nat → Int → Int)) => ∃ z : Int, r = iI z ∧ (mI u.1 u.2) ∧ (∀ j, j ∉ ([2, 3, 4, 5] : List Nat) → u.1 j = g j) ∧ (∀ j, j ∉ ([] : List Nat) → u.2 j = a j) ∧ (0 ≤ z ∧ z ≤ 1) ∧ (z = 1) ∧ (g 2 ≤ u.1 2) ∧ (u.1 2 ≤ g 1) ∧ (u.1 3 = 0 ∨ g 2 + 1 ≤ u.1 2) ∧ (u.1 4 ≤ u.1 2) ∧ (u.1 4 = scn (bB tT) tN (g 2)) ∧ (tkR tT tN u.1 u.2)) (fun u t => va_P (dC, dI) vwCl (mG ad ca u.1 u.2) t.heap ∧ va_K (dC, dI) vwCl (mT ca) t ∧ va_D (va_A (mG ad ca g a) sz) (mG ad ca u.1 u.2)) (va_A (mG ad ca g a) sz)) 0 0 (va_A (mG ad ca g a) sz) := by
  refine Met.ofW (cc := cX13_takes) (maxL := 1) (ret := (some .boolean)) (by decide) rfl ?_
  intro p e s m args below meth c s₁ B hml hv
  obtain ⟨rfl, ⟨hsz, hP, hK, hD0⟩, hX0⟩ := hv
  have hx := B.exec
  have hb := B.bytes
  have hr := B.returns
  have hts := atoms_spec (ws := (jk yX13_takes cX13_takes 1 (some .boolean))) B.pre
  have hj : ∀ w ∈ jw, w.before ([.ref (ad 0)] : List Value).toArray s = true := fun w h => hts w (jm h)
  have hown : s.vm.findClass RX13 = some m.cls := findClass_of_methodNamed B.named
  subst hsz
  have hD := hD0.self (sz := s.heap.size)
  have hXs := hX0
  generalize hAe : (va_A (mG ad ca g a) s.heap.size) = A at hD hXs ⊢
  have hA : ∀ q : Nat, s.heap.size ≤ q → A q := fun q h => by rw [← hAe]; exact Or.inr h
  have hS : va_S A s.heap s.heap [] := va_S.rf
  have hP : va_P (dC, dI) vwCl (mG ad ca g a) s.heap := hP
  have hfA : ∀ j, j ∉ ([2, 3, 4, 5] : List Nat) → g j = g j := fun _ _ => rfl
  have haA : ∀ j, j ∉ ([] : List Nat) → a j = a j := fun _ _ => rfl
  have hl := lv_entry ([.ref (ad 0)]) (n := 1) (Nat.le_of_ble_eq_true rfl)
  rw [lg_entry_eq]
  generalize (lg_sl ([.ref (ad 0)]) ++ List.replicate (1 - (lg_sl ([.ref (ad 0)])).length) Slot.unset).toArray = ls at hl ⊢
  have hl : lv_has ls 1 [(0, .ref (ad 0))] := hl
  generalize hQ : MQ below (va_Qi (fun (r : Int32) (u : (Nat → Int) × (Nat → Int → Int)) => ∃ z : Int, r = iI z ∧ (mI u.1 u.2) ∧ (∀ j, j ∉ ([2, 3, 4, 5] : List Nat) → u.1 j = g j) ∧ (∀ j, j ∉ ([] : List Nat) → u.2 j = a j) ∧ (0 ≤ z ∧ z ≤ 1) ∧ (z = 1) ∧ (g 2 ≤ u.1 2) ∧ (u.1 2 ≤ g 1) ∧ (u.1 3 = 0 ∨ g 2 + 1 ≤ u.1 2) ∧ (u.1 4 ≤ u.1 2) ∧ (u.1 4 = scn (bB tT) tN (g 2)) ∧ (tkR tT tN u.1 u.2)) (fun u t => va_P (dC, dI) vwCl (mG ad ca u.1 u.2) t.heap ∧ va_K (dC, dI) vwCl (mT ca) t ∧ va_D A (mG ad ca u.1 u.2)) A) ([.ref (ad 0)] : List Value).toArray s 0 0 A = Q
  suffices ST : ∀ (H : Heap) (locs : List Loc), va_P (dC, dI) vwCl (mG ad ca g a) H → va_S A s.heap H locs → W p l e ({ frames := 6, cells := 0, slots := 0, locals := 133 }) s m ([.ref (ad 0)] : List Value).toArray below meth c H locs 0 0 Q (F0 m 0 ls []) from ST _ _ hP hS
  clear hP hS
  intro H locs hP hS
  refine lv_aload_n hx hb dX13_takes_0 rfl (lv_at hl 0 rfl) ?_
  refine jcg_v (va_runV (As := []) (rest := []) ⟨hx, hb, hml, hown, hts⟩ (sX13_next l dC dI _ ad ca sK sV g a tT tN  hI (by omega) hrTx) (cwV 0 hts (jgoodV m_224 m_433 m_434 m_503 m_184) rfl rfl rfl (by decide +kernel) ⟨(Nat.le_of_ble_eq_true rfl), (Nat.le_of_ble_eq_true rfl)⟩) ⟨mP_blind, va_recv hK hP (ci := 13) (q0 := 0) rfl rfl, fun U hU hW => ⟨rfl, mP_of hU hW hP hK hD hXs hS (fun _ h => h) hA⟩⟩ rfl rfl hl.1 rfl (lv_room (Nat.le_of_ble_eq_true rfl)) dX13_takes_1 ⟨(Nat.le_of_ble_eq_true rfl), (Nat.le_of_ble_eq_true rfl)⟩) hD hS hA (fun u_12 H locs w_2 hP hK hD hS => ?_)
  obtain ⟨g_10, a_11⟩ := u_12
  obtain ⟨hI, hfr_13, hfr_14, h_4, h_5, h_6, h_7, h_8, h_9⟩ := w_2
  have hP : va_P (dC, dI) vwCl (mG ad ca g_10 a_11) H := hP
  have hD : va_D A (mG ad ca g_10 a_11) := hD
  have hfA : ∀ j, j ∉ ([2, 3, 4, 5] : List Nat) → g_10 j = g j := fun j h => (hfr_13 j (fun q => h (by first | exact q | (simp only [List.mem_cons, List.not_mem_nil, or_false] at q ⊢ <;> omega)))).trans (hfA j h)
  have b_16 : g_10 1 = g 1 := hfA 1 (by decide)
  have haA : ∀ j, j ∉ ([] : List Nat) → a_11 j = a j := fun j h => (hfr_14 j (fun q => h (by first | exact q | (simp only [List.mem_cons, List.not_mem_nil, or_false] at q ⊢ <;> omega)))).trans (haA j h)
  have h_4 : g 2 ≤ g_10 2 := h_4
  have h_5 : g_10 2 ≤ g 1 := h_5
  have h_6 : g_10 3 = 0 ∨ g 2 + 1 ≤ g_10 2 := h_6
  have h_7 : g_10 4 ≤ g_10 2 := h_7
  have h_8 : g_10 4 = scn (bB tT) tN (g 2) := h_8
  have h_9 : tkR tT tN g_10 a_11 := h_9
  have b_17 : g_10 1 = g 1 := hfr_13 1 (by decide)
  have b_18 : 0 ≤ g_10 1 ∧ g_10 1 ≤ 600 := hI.1 1
  have b_19 : 0 ≤ g_10 2 ∧ g_10 2 ≤ 600 := hI.1 2
  refine lv_iconst (v := iI 1) hx hb dX13_takes_4 rfl ?_
  rw [← hQ]
  exact W.zret (v := iI 1) (ty := .boolean) hx hb hr (nb_bool (by omega) (by omega)) (fun t ht hW => ⟨⟨iI 1, (g_10, a_11), rfl, ⟨1, rfl, hI, hfA, haA, by omega, by omega, by show g 2 ≤ g_10 2; omega, by show g_10 2 ≤ g 1; omega, by show g_10 3 = 0 ∨ g 2 + 1 ≤ g_10 2; omega, by show g_10 4 ≤ g_10 2; omega, by show g_10 4 = scn (bB tT) tN (g 2); omega, by show tkR tT tN g_10 a_11; exact h_9⟩, by rw [ht]; exact hP, va_K.moved hW.alike hK, hD⟩, hS.F ht⟩) hS.2.2 dX13_takes_5
set_option maxHeartbeats 2000000 in
set_option maxRecDepth 100000 in
theorem sX13_deeper (l : Launch) (dC : Nat → ClassId) (dI : Nat → Nat → Nat) (sz : Nat) (ad : Nat → Nat) (ca : Nat → ClassId) (g : Nat → Int) (a : Nat → Int → Int) (hI : mI g a) (k1 : g 7 < 1200) (k2 : 0 ≤ g 8) (k3 : g 8 ≤ 8) : Met l yX13_deeper (jk yX13_deeper cX13_deeper 1 (some .boolean)) ({ frames := 1, cells := 0, slots := 0, locals := 21 }) (va_Pc [.ref (ad 0)] (jw_P (dC, dI) (mG ad ca g a) (mT ca) sz)) (va_Qi (fun (r : Int32) (u : (Nat → Int) × (Nat → Int → Int)) => ∃ z : Int, r = iI z ∧ (mI u.1 u.2) ∧ (∀ j, j ∉ ([7, 8] : List Nat) → u.1 j = g j) ∧ (∀ j, j ∉ ([2] : List Nat) → u.2 j = a j) ∧ (0 ≤ z ∧ z ≤ 1) ∧ ((z = 0 ∧ g 8 = 8 ∧ u.1 7 = g 7 ∧ u.1 8 = g 8) ∨ (z = 1 ∧ g 8 ≠ 8 ∧ u.1 7 = g 7 + 1 ∧ u.1 8 = g 8 + 1)) ∧ (z = 0 ∨ u.2 2 = up (a 2) (g 7) 12)) (fun u t => va_P (dC, dI) vwCl (mG ad ca u.1 u.2) t.heap ∧ va_K (dC, dI) vwCl (mT ca) t ∧ va_D (va_A (mG ad ca g a) sz) (mG ad ca u.1 u.2)) (va_A (mG ad ca g a) sz)) 0 0 (va_A (mG ad ca g a) sz) := by
  refine Met.ofW (cc := cX13_deeper) (maxL := 1) (ret := (some .boolean)) (by decide) rfl ?_
  intro p e s m args below meth c s₁ B hml hv
  obtain ⟨rfl, hsz, hP, hK, hD0⟩ := hv
  have hx := B.exec
  have hb := B.bytes
  have hr := B.returns
  have hts := atoms_spec (ws := (jk yX13_deeper cX13_deeper 1 (some .boolean))) B.pre
  have hj : ∀ w ∈ jw, w.before ([.ref (ad 0)] : List Value).toArray s = true := fun w h => hts w (jm h)
  have hown : s.vm.findClass RX13 = some m.cls := findClass_of_methodNamed B.named
  subst hsz
  have hD := hD0.self (sz := s.heap.size)
  generalize hAe : (va_A (mG ad ca g a) s.heap.size) = A at hD ⊢
  have hA : ∀ q : Nat, s.heap.size ≤ q → A q := fun q h => by rw [← hAe]; exact Or.inr h
  have hS : va_S A s.heap s.heap [] := va_S.rf
  have hP : va_P (dC, dI) vwCl (mG ad ca g a) s.heap := hP
  have hfA : ∀ j, j ∉ ([7, 8] : List Nat) → g j = g j := fun _ _ => rfl
  have haA : ∀ j, j ∉ ([2] : List Nat) → a j = a j := fun _ _ => rfl
  have hl := lv_entry ([.ref (ad 0)]) (n := 1) (Nat.le_of_ble_eq_true rfl)
  rw [lg_entry_eq]
  generalize (lg_sl ([.ref (ad 0)]) ++ List.replicate (1 - (lg_sl ([.ref (ad 0)])).length) Slot.unset).toArray = ls at hl ⊢
  have hl : lv_has ls 1 [(0, .ref (ad 0))] := hl
  generalize hQ : MQ below (va_Qi (fun (r : Int32) (u : (Nat → Int) × (Nat → Int → Int)) => ∃ z : Int, r = iI z ∧ (mI u.1 u.2) ∧ (∀ j, j ∉ ([7, 8] : List Nat) → u.1 j = g j) ∧ (∀ j, j ∉ ([2] : List Nat) → u.2 j = a j) ∧ (0 ≤ z ∧ z ≤ 1) ∧ ((z = 0 ∧ g 8 = 8 ∧ u.1 7 = g 7 ∧ u.1 8 = g 8) ∨ (z = 1 ∧ g 8 ≠ 8 ∧ u.1 7 = g 7 + 1 ∧ u.1 8 = g 8 + 1)) ∧ (z = 0 ∨ u.2 2 = up (a 2) (g 7) 12)) (fun u t => va_P (dC, dI) vwCl (mG ad ca u.1 u.2) t.heap ∧ va_K (dC, dI) vwCl (mT ca) t ∧ va_D A (mG ad ca u.1 u.2)) A) ([.ref (ad 0)] : List Value).toArray s 0 0 A = Q
  suffices ST : ∀ (H : Heap) (locs : List Loc), va_P (dC, dI) vwCl (mG ad ca g a) H → va_S A s.heap H locs → W p l e ({ frames := 1, cells := 0, slots := 0, locals := 21 }) s m ([.ref (ad 0)] : List Value).toArray below meth c H locs 0 0 Q (F0 m 0 ls []) from ST _ _ hP hS
  clear hP hS
  intro H locs hP hS
  refine lv_aload_n hx hb dX13_deeper_0 rfl (lv_at hl 0 rfl) ?_
  refine gf_deep hx hb hj hown hK hP hI dX13_deeper_1 (fun h_1 => ?_)
  refine lv_bipush (v := iI 8) hx hb dX13_deeper_4 rfl ?_
  refine xr_icmp_ne (tgt := 11) hx hb dX13_deeper_6 (by decide) (by omega) (by omega) (fun h_2 => ?_) (fun h_2 => ?_)
  · refine lv_aload_n hx hb dX13_deeper_11 rfl (lv_at hl 0 rfl) ?_
    refine lv_dup hx hb dX13_deeper_12 rfl ?_
    refine gf_deep hx hb hj hown hK hP hI dX13_deeper_13 (fun h_3 => ?_)
    refine lv_iconst (v := iI 1) hx hb dX13_deeper_16 rfl ?_
    refine xr_add hx hb dX13_deeper_17 ?_
    refine xr_kept (fun z_4 h_5 h_6 => ?_)
    refine pa_deep hx hb hj hown hK hP hD hS hI dX13_deeper_18 (fun g_7 z_10 H locs h_11 h_12 e_8 e_9 hI hP hD hS => ?_)
    have hfA : ∀ j, j ∉ ([7, 8] : List Nat) → g_7 j = g j := fun j h => (e_8 j (fun q => h (q ▸ (by decide : 8 ∈ ([7, 8] : List Nat))))).trans (hfA j h)
    have b_13 := e_8 7 (by decide)
    have b_14 := e_8 7 (by decide)
    refine lv_aload_n hx hb dX13_deeper_21 rfl (lv_at hl 0 rfl) ?_
    refine lv_bipush (v := iI 12) hx hb dX13_deeper_22 rfl ?_
    refine jcg_v (va_runV (As := [.int (iI 12)]) (rest := []) ⟨hx, hb, hml, hown, hts⟩ (sX13_push l dC dI _ ad ca g_7 a 12 hI (by omega) (by omega)) (cwV 1 hts (jgoodV m_225 m_452 m_453 m_503 m_194) rfl rfl rfl (by decide +kernel) ⟨(Nat.le_of_ble_eq_true rfl), (Nat.le_of_ble_eq_true rfl)⟩) ⟨jw_blind, va_recv hK hP (ci := 13) (q0 := 0) rfl rfl, fun U hU hW => ⟨rfl, jw_of hU hW hP hK hD⟩⟩ rfl rfl hl.1 rfl (lv_room (Nat.le_of_ble_eq_true rfl)) dX13_deeper_24 ⟨(Nat.le_of_ble_eq_true rfl), (Nat.le_of_ble_eq_true rfl)⟩) hD hS hA (fun u_22 H locs w_16 hP hK hD hS => ?_)
    obtain ⟨g_20, a_21⟩ := u_22
    obtain ⟨hI, hfr_23, hfr_24, h_18, h_19⟩ := w_16
    have hP : va_P (dC, dI) vwCl (mG ad ca g_20 a_21) H := hP
    have hD : va_D A (mG ad ca g_20 a_21) := hD
    have hfA : ∀ j, j ∉ ([7, 8] : List Nat) → g_20 j = g j := fun j h => (hfr_23 j (fun q => h (by first | exact q | (simp only [List.mem_cons, List.not_mem_nil, or_false] at q ⊢ <;> omega)))).trans (hfA j h)
    have b_26 := hfr_23 8 (by decide)
    have haA : ∀ j, j ∉ ([2] : List Nat) → a_21 j = a j := fun j h => (hfr_24 j (fun q => h (by first | exact q | (simp only [List.mem_cons, List.not_mem_nil, or_false] at q ⊢ <;> omega)))).trans (haA j h)
    have h_18 : g_20 7 = g_7 7 + 1 := h_18
    have h_19 : a_21 2 = up (a 2) (g_7 7) 12 := h_19
    have b_27 : g_20 8 = g_7 8 := hfr_23 8 (by decide)
    have t_28 : a_21 2 = up (a 2) (g 7) 12 := h_19.trans (up_c rfl (by omega) (by omega))
    have b_29 : 0 ≤ g_20 7 ∧ g_20 7 ≤ 1200 := hI.1 7
    refine lv_iconst (v := iI 1) hx hb dX13_deeper_27 rfl ?_
    rw [← hQ]
    exact W.zret (v := iI 1) (ty := .boolean) hx hb hr (nb_bool (by omega) (by omega)) (fun t ht hW => ⟨⟨iI 1, (g_20, a_21), rfl, ⟨1, rfl, hI, hfA, haA, by omega, by show (1 = 0 ∧ g 8 = 8 ∧ g_20 7 = g 7 ∧ g_20 8 = g 8) ∨ (1 = 1 ∧ g 8 ≠ 8 ∧ g_20 7 = g 7 + 1 ∧ g_20 8 = g 8 + 1); omega, by show 1 = 0 ∨ a_21 2 = up (a 2) (g 7) 12; first | exact Or.inl rfl | exact Or.inr t_28⟩, by rw [ht]; exact hP, va_K.moved hW.alike hK, hD⟩, hS.F ht⟩) hS.2.2 dX13_deeper_28
  · refine lv_iconst (v := iI 0) hx hb dX13_deeper_9 rfl ?_
    rw [← hQ]
    exact W.zret (v := iI 0) (ty := .boolean) hx hb hr (nb_bool (by omega) (by omega)) (fun t ht hW => ⟨⟨iI 0, (g, a), rfl, ⟨0, rfl, hI, hfA, haA, by omega, by show (0 = 0 ∧ g 8 = 8 ∧ g 7 = g 7 ∧ g 8 = g 8) ∨ (0 = 1 ∧ g 8 ≠ 8 ∧ g 7 = g 7 + 1 ∧ g 8 = g 8 + 1); omega, by show 0 = 0 ∨ a 2 = up (a 2) (g 7) 12; first | exact Or.inl rfl | exact Or.inr rfl⟩, by rw [ht]; exact hP, va_K.moved hW.alike hK, hD⟩, hS.F ht⟩) hS.2.2 dX13_deeper_10
set_option maxHeartbeats 2000000 in
set_option maxRecDepth 100000 in
theorem sX13_both (l : Launch) (dC : Nat → ClassId) (dI : Nat → Nat → Nat) (sz : Nat) (ad : Nat → Nat) (ca : Nat → ClassId) (g : Nat → Int) (a : Nat → Int → Int) (p1 : Int) (p2 : Int) (hI : mI g a) (q1 : rg p1) (q2 : rg p2) (k1 : g 7 < 1199) : Met l yX13_both (jk yX13_both cX13_both 3 (some .boolean)) ({ frames := 1, cells := 0, slots := 0, locals := 21 }) (va_Pc [.ref (ad 0), .int (iI p1), .int (iI p2)] (jw_P (dC, dI) (mG ad ca g a) (mT ca) sz)) (va_Qi (fun (r : Int32) (u : (Nat → Int) × (Nat → Int → Int)) => ∃ z : Int, r = iI z ∧ (mI u.1 u.2) ∧ (∀ j, j ∉ ([7] : List Nat) → u.1 j = g j) ∧ (∀ j, j ∉ ([2] : List Nat) → u.2 j = a j) ∧ (0 ≤ z ∧ z ≤ 1) ∧ (u.1 7 = g 7 + 2) ∧ (u.2 2 = up (up (a 2) (g 7) p1) (g 7 + 1) p2) ∧ (z = 1)) (fun u t => va_P (dC, dI) vwCl (mG ad ca u.1 u.2) t.heap ∧ va_K (dC, dI) vwCl (mT ca) t ∧ va_D (va_A (mG ad ca g a) sz) (mG ad ca u.1 u.2)) (va_A (mG ad ca g a) sz)) 0 0 (va_A (mG ad ca g a) sz) := by
  refine Met.ofW (cc := cX13_both) (maxL := 3) (ret := (some .boolean)) (by decide) rfl ?_
  intro p e s m args below meth c s₁ B hml hv
  obtain ⟨rfl, hsz, hP, hK, hD0⟩ := hv
  have hx := B.exec
  have hb := B.bytes
  have hr := B.returns
  have hts := atoms_spec (ws := (jk yX13_both cX13_both 3 (some .boolean))) B.pre
  have hj : ∀ w ∈ jw, w.before ([.ref (ad 0), .int (iI p1), .int (iI p2)] : List Value).toArray s = true := fun w h => hts w (jm h)
  have hown : s.vm.findClass RX13 = some m.cls := findClass_of_methodNamed B.named
  subst hsz
  have hD := hD0.self (sz := s.heap.size)
  generalize hAe : (va_A (mG ad ca g a) s.heap.size) = A at hD ⊢
  have hA : ∀ q : Nat, s.heap.size ≤ q → A q := fun q h => by rw [← hAe]; exact Or.inr h
  have hS : va_S A s.heap s.heap [] := va_S.rf
  have hP : va_P (dC, dI) vwCl (mG ad ca g a) s.heap := hP
  have hfA : ∀ j, j ∉ ([7] : List Nat) → g j = g j := fun _ _ => rfl
  have haA : ∀ j, j ∉ ([2] : List Nat) → a j = a j := fun _ _ => rfl
  have hl := lv_entry ([.ref (ad 0), .int (iI p1), .int (iI p2)]) (n := 3) (Nat.le_of_ble_eq_true rfl)
  rw [lg_entry_eq]
  generalize (lg_sl ([.ref (ad 0), .int (iI p1), .int (iI p2)]) ++ List.replicate (3 - (lg_sl ([.ref (ad 0), .int (iI p1), .int (iI p2)])).length) Slot.unset).toArray = ls at hl ⊢
  have hl : lv_has ls 3 [(0, .ref (ad 0)), (1, .int (iI p1)), (2, .int (iI p2))] := hl
  generalize hQ : MQ below (va_Qi (fun (r : Int32) (u : (Nat → Int) × (Nat → Int → Int)) => ∃ z : Int, r = iI z ∧ (mI u.1 u.2) ∧ (∀ j, j ∉ ([7] : List Nat) → u.1 j = g j) ∧ (∀ j, j ∉ ([2] : List Nat) → u.2 j = a j) ∧ (0 ≤ z ∧ z ≤ 1) ∧ (u.1 7 = g 7 + 2) ∧ (u.2 2 = up (up (a 2) (g 7) p1) (g 7 + 1) p2) ∧ (z = 1)) (fun u t => va_P (dC, dI) vwCl (mG ad ca u.1 u.2) t.heap ∧ va_K (dC, dI) vwCl (mT ca) t ∧ va_D A (mG ad ca u.1 u.2)) A) ([.ref (ad 0), .int (iI p1), .int (iI p2)] : List Value).toArray s 0 0 A = Q
  suffices ST : ∀ (H : Heap) (locs : List Loc), va_P (dC, dI) vwCl (mG ad ca g a) H → va_S A s.heap H locs → W p l e ({ frames := 1, cells := 0, slots := 0, locals := 21 }) s m ([.ref (ad 0), .int (iI p1), .int (iI p2)] : List Value).toArray below meth c H locs 0 0 Q (F0 m 0 ls []) from ST _ _ hP hS
  clear hP hS
  intro H locs hP hS
  refine lv_aload_n hx hb dX13_both_0 rfl (lv_at hl 0 rfl) ?_
  refine lv_iload_n hx hb dX13_both_1 rfl (lv_at hl 1 rfl) ?_
  refine jcg_v (va_runV (As := [.int (iI p1)]) (rest := []) ⟨hx, hb, hml, hown, hts⟩ (sX13_push l dC dI _ ad ca g a p1 hI (by omega) (by omega)) (cwV 1 hts (jgoodV m_225 m_452 m_453 m_503 m_194) rfl rfl rfl (by decide +kernel) ⟨(Nat.le_of_ble_eq_true rfl), (Nat.le_of_ble_eq_true rfl)⟩) ⟨jw_blind, va_recv hK hP (ci := 13) (q0 := 0) rfl rfl, fun U hU hW => ⟨rfl, jw_of hU hW hP hK hD⟩⟩ rfl rfl hl.1 rfl (lv_room (Nat.le_of_ble_eq_true rfl)) dX13_both_2 ⟨(Nat.le_of_ble_eq_true rfl), (Nat.le_of_ble_eq_true rfl)⟩) hD hS hA (fun u_8 H locs w_2 hP hK hD hS => ?_)
  obtain ⟨g_6, a_7⟩ := u_8
  obtain ⟨hI, hfr_9, hfr_10, h_4, h_5⟩ := w_2
  have hP : va_P (dC, dI) vwCl (mG ad ca g_6 a_7) H := hP
  have hD : va_D A (mG ad ca g_6 a_7) := hD
  have hfA : ∀ j, j ∉ ([7] : List Nat) → g_6 j = g j := fun j h => (hfr_9 j (fun q => h (by first | exact q | (simp only [List.mem_cons, List.not_mem_nil, or_false] at q ⊢ <;> omega)))).trans (hfA j h)
  have haA : ∀ j, j ∉ ([2] : List Nat) → a_7 j = a j := fun j h => (hfr_10 j (fun q => h (by first | exact q | (simp only [List.mem_cons, List.not_mem_nil, or_false] at q ⊢ <;> omega)))).trans (haA j h)
  have h_4 : g_6 7 = g 7 + 1 := h_4
  have h_5 : a_7 2 = up (a 2) (g 7) p1 := h_5
  have t_12 : a_7 2 = up (a 2) (g 7) p1 := h_5.trans (up_c rfl (by omega) (by omega))
  have b_13 : 0 ≤ g_6 7 ∧ g_6 7 ≤ 1200 := hI.1 7
  refine lv_aload_n hx hb dX13_both_5 rfl (lv_at hl 0 rfl) ?_
  refine lv_iload_n hx hb dX13_both_6 rfl (lv_at hl 2 rfl) ?_
  refine jcg_v (va_runV (As := [.int (iI p2)]) (rest := []) ⟨hx, hb, hml, hown, hts⟩ (sX13_push l dC dI _ ad ca g_6 a_7 p2 hI (by omega) (by omega)) (cwV 1 hts (jgoodV m_225 m_452 m_453 m_503 m_194) rfl rfl rfl (by decide +kernel) ⟨(Nat.le_of_ble_eq_true rfl), (Nat.le_of_ble_eq_true rfl)⟩) ⟨jw_blind, va_recv hK hP (ci := 13) (q0 := 0) rfl rfl, fun U hU hW => ⟨rfl, jw_of hU hW hP hK hD⟩⟩ rfl rfl hl.1 rfl (lv_room (Nat.le_of_ble_eq_true rfl)) dX13_both_7 ⟨(Nat.le_of_ble_eq_true rfl), (Nat.le_of_ble_eq_true rfl)⟩) hD hS hA (fun u_21 H locs w_15 hP hK hD hS => ?_)
  obtain ⟨g_19, a_20⟩ := u_21
  obtain ⟨hI, hfr_22, hfr_23, h_17, h_18⟩ := w_15
  have hP : va_P (dC, dI) vwCl (mG ad ca g_19 a_20) H := hP
  have hD : va_D A (mG ad ca g_19 a_20) := hD
  have hfA : ∀ j, j ∉ ([7] : List Nat) → g_19 j = g j := fun j h => (hfr_22 j (fun q => h (by first | exact q | (simp only [List.mem_cons, List.not_mem_nil, or_false] at q ⊢ <;> omega)))).trans (hfA j h)
  have haA : ∀ j, j ∉ ([2] : List Nat) → a_20 j = a j := fun j h => (hfr_23 j (fun q => h (by first | exact q | (simp only [List.mem_cons, List.not_mem_nil, or_false] at q ⊢ <;> omega)))).trans (haA j h)
  have h_17 : g_19 7 = g_6 7 + 1 := h_17
  have h_18 : a_20 2 = up (a_7 2) (g_6 7) p2 := h_18
  have t_25 : a_20 2 = up (up (a 2) (g 7) p1) ((g 7 + 1)) p2 := h_18.trans (up_c t_12 (by omega) (by omega))
  have b_26 : 0 ≤ g_19 7 ∧ g_19 7 ≤ 1200 := hI.1 7
  refine lv_iconst (v := iI 1) hx hb dX13_both_10 rfl ?_
  rw [← hQ]
  exact W.zret (v := iI 1) (ty := .boolean) hx hb hr (nb_bool (by omega) (by omega)) (fun t ht hW => ⟨⟨iI 1, (g_19, a_20), rfl, ⟨1, rfl, hI, hfA, haA, by omega, by show g_19 7 = g 7 + 2; omega, by show a_20 2 = up (up (a 2) (g 7) p1) (g 7 + 1) p2; exact t_25, by omega⟩, by rw [ht]; exact hP, va_K.moved hW.alike hK, hD⟩, hS.F ht⟩) hS.2.2 dX13_both_11
set_option maxHeartbeats 2000000 in
set_option maxRecDepth 100000 in
theorem sX13_more (l : Launch) (dC : Nat → ClassId) (dI : Nat → Nat → Nat) (sz : Nat) (ad : Nat → Nat) (ca : Nat → ClassId) (sK sV : Nat → Nat) (g : Nat → Int) (a : Nat → Int → Int) (tT : Int → Int) (tN : Int) (p1 : Int) (p2 : Int) (p3 : Int) (p4 : Int) (p5 : Int) (p6 : Int) (hI : mI g a) (q1 : rg p1) (q2 : rg p2) (q3 : rg p3) (q4 : rg p4) (q5 : rg p5) (q6 : rg p6) (k1 : (p1 = 43 ∧ p2 = 2 ∧ p3 = 45 ∧ p4 = 3 ∧ p5 = 2 ∧ p6 = 3 ∧ a 2 (g 7) = 2) ∨ (p1 = 42 ∧ p2 = 4 ∧ p3 = 47 ∧ p4 = 5 ∧ p5 = 4 ∧ p6 = 5 ∧ a 2 (g 7) = 4)) (hrP1 : rP1 g a) (hrTx : txR tT tN g a) (hrTk : tkR tT tN g a) : Met l yX13_more (jk yX13_more cX13_more 8 (some .boolean)) ({ frames := 6, cells := 0, slots := 0, locals := 133 }) (va_Pc [.ref (ad 0), .int (iI p1), .int (iI p2), .int (iI p3), .int (iI p4), .int (iI p5), .int (iI p6)] (mP (dC, dI) (mG ad ca g a) (mT ca) sK sV sz)) (va_Qi (fun (r : Int32) (u : (Nat → Int) × (Nat → Int → Int)) => ∃ z : Int, r = iI z ∧ (mI u.1 u.2) ∧ (∀ j, j ∉ ([2, 3, 4, 5, 7] : List Nat) → u.1 j = g j) ∧ (∀ j, j ∉ ([2] : List Nat) → u.2 j = a j) ∧ (0 ≤ z ∧ z ≤ 1) ∧ (z = 0 ∨ (rPn u.1 u.2 (u.1 7) ∧ mz u.1 u.2 (u.1 7) < mz g a (g 7 + 1))) ∧ (tkR tT tN u.1 u.2) ∧ (nst tT tN g a u.1 u.2 z)) (fun u t => va_P (dC, dI) vwCl (mG ad ca u.1 u.2) t.heap ∧ va_K (dC, dI) vwCl (mT ca) t ∧ va_D (va_A (mG ad ca g a) sz) (mG ad ca u.1 u.2)) (va_A (mG ad ca g a) sz)) 0 0 (va_A (mG ad ca g a) sz) := by
  refine Met.ofW (cc := cX13_more) (maxL := 8) (ret := (some .boolean)) (by decide) rfl ?_
  intro p e s m args below meth c s₁ B hml hv
  obtain ⟨rfl, ⟨hsz, hP, hK, hD0⟩, hX0⟩ := hv
  have hx := B.exec
  have hb := B.bytes
  have hr := B.returns
  have hts := atoms_spec (ws := (jk yX13_more cX13_more 8 (some .boolean))) B.pre
  have hj : ∀ w ∈ jw, w.before ([.ref (ad 0), .int (iI p1), .int (iI p2), .int (iI p3), .int (iI p4), .int (iI p5), .int (iI p6)] : List Value).toArray s = true := fun w h => hts w (jm h)
  have hown : s.vm.findClass RX13 = some m.cls := findClass_of_methodNamed B.named
  subst hsz
  have hD := hD0.self (sz := s.heap.size)
  have hXs := hX0
  generalize hAe : (va_A (mG ad ca g a) s.heap.size) = A at hD hXs ⊢
  have hA : ∀ q : Nat, s.heap.size ≤ q → A q := fun q h => by rw [← hAe]; exact Or.inr h
  have hS : va_S A s.heap s.heap [] := va_S.rf
  have hP : va_P (dC, dI) vwCl (mG ad ca g a) s.heap := hP
  have hfA : ∀ j, j ∉ ([2, 3, 4, 5, 7] : List Nat) → g j = g j := fun _ _ => rfl
  have haA : ∀ j, j ∉ ([2] : List Nat) → a j = a j := fun _ _ => rfl
  have hl := lv_entry ([.ref (ad 0), .int (iI p1), .int (iI p2), .int (iI p3), .int (iI p4), .int (iI p5), .int (iI p6)]) (n := 8) (Nat.le_of_ble_eq_true rfl)
  rw [lg_entry_eq]
  generalize (lg_sl ([.ref (ad 0), .int (iI p1), .int (iI p2), .int (iI p3), .int (iI p4), .int (iI p5), .int (iI p6)]) ++ List.replicate (8 - (lg_sl ([.ref (ad 0), .int (iI p1), .int (iI p2), .int (iI p3), .int (iI p4), .int (iI p5), .int (iI p6)])).length) Slot.unset).toArray = ls at hl ⊢
  have hl : lv_has ls 8 [(0, .ref (ad 0)), (1, .int (iI p1)), (2, .int (iI p2)), (3, .int (iI p3)), (4, .int (iI p4)), (5, .int (iI p5)), (6, .int (iI p6))] := hl
  generalize hQ : MQ below (va_Qi (fun (r : Int32) (u : (Nat → Int) × (Nat → Int → Int)) => ∃ z : Int, r = iI z ∧ (mI u.1 u.2) ∧ (∀ j, j ∉ ([2, 3, 4, 5, 7] : List Nat) → u.1 j = g j) ∧ (∀ j, j ∉ ([2] : List Nat) → u.2 j = a j) ∧ (0 ≤ z ∧ z ≤ 1) ∧ (z = 0 ∨ (rPn u.1 u.2 (u.1 7) ∧ mz u.1 u.2 (u.1 7) < mz g a (g 7 + 1))) ∧ (tkR tT tN u.1 u.2) ∧ (nst tT tN g a u.1 u.2 z)) (fun u t => va_P (dC, dI) vwCl (mG ad ca u.1 u.2) t.heap ∧ va_K (dC, dI) vwCl (mT ca) t ∧ va_D A (mG ad ca u.1 u.2)) A) ([.ref (ad 0), .int (iI p1), .int (iI p2), .int (iI p3), .int (iI p4), .int (iI p5), .int (iI p6)] : List Value).toArray s 0 0 A = Q
  suffices ST : ∀ (H : Heap) (locs : List Loc), va_P (dC, dI) vwCl (mG ad ca g a) H → va_S A s.heap H locs → W p l e ({ frames := 6, cells := 0, slots := 0, locals := 133 }) s m ([.ref (ad 0), .int (iI p1), .int (iI p2), .int (iI p3), .int (iI p4), .int (iI p5), .int (iI p6)] : List Value).toArray below meth c H locs 0 0 Q (F0 m 0 ls []) from ST _ _ hP hS
  clear hP hS
  intro H locs hP hS
  obtain ⟨bb1, bb2, bb3, bb4, bb5, bb6⟩ := bd_1 hrP1
  have bb7 := tkk_b (g 3)
  have b7_0 : 0 ≤ g 7 ∧ g 7 ≤ 1200 := hI.1 7
  have b1_0 : 0 ≤ g 1 ∧ g 1 ≤ 600 := hI.1 1
  have b2_0 : 0 ≤ g 2 ∧ g 2 ≤ 600 := hI.1 2
  refine lv_aload_n hx hb dX13_more_0 rfl (lv_at hl 0 rfl) ?_
  refine lv_iload_n hx hb dX13_more_1 rfl (lv_at hl 1 rfl) ?_
  refine jc_i (va_runV (As := [.int (iI p1)]) (rest := []) ⟨hx, hb, hml, hown, hts⟩ (sX13_isSign l dC dI _ ad ca g a p1 hI (by omega)) (cwV 1 hts (jgoodV m_227 m_389 m_390 m_503 m_161) rfl rfl rfl (by decide +kernel) ⟨(Nat.le_of_ble_eq_true rfl), (Nat.le_of_ble_eq_true rfl)⟩) ⟨jw_blind, va_recv hK hP (ci := 13) (q0 := 0) rfl rfl, fun U hU hW => ⟨rfl, jw_of hU hW hP hK hD⟩⟩ rfl rfl hl.1 rfl (lv_room (Nat.le_of_ble_eq_true rfl)) dX13_more_2 ⟨(Nat.le_of_ble_eq_true rfl), (Nat.le_of_ble_eq_true rfl)⟩) hP hS hA (fun r_1 H locs w_2 hP hS => ?_)
  obtain ⟨z_3, rfl, h_4, h_5⟩ := w_2
  have b_6 : 0 ≤ g 3 ∧ g 3 ≤ 4 := hI.1 3
  refine lv_istore (lv' := [(7, .int (iI z_3)), (0, .ref (ad 0)), (1, .int (iI p1)), (2, .int (iI p2)), (3, .int (iI p3)), (4, .int (iI p4)), (5, .int (iI p5)), (6, .int (iI p6))]) hx hb dX13_more_5 hl (by decide) rfl (fun ls hl => ?_)
  refine lv_iload hx hb dX13_more_7 (lv_at hl 0 rfl) ?_
  have J22 : ∀ (H : Heap) (locs : List Loc) (ls : Array Slot), (g 3 = 3) → (g 5 = p1 ∨ g 5 = p3) → va_P (dC, dI) vwCl (mG ad ca g a) H → va_D A (mG ad ca g a) → va_S A s.heap H locs → lv_has ls 8 [(7, .int (iI z_3)), (0, .ref (ad 0)), (1, .int (iI p1)), (2, .int (iI p2)), (3, .int (iI p3)), (4, .int (iI p4)), (5, .int (iI p5)), (6, .int (iI p6))] → W p l e ({ frames := 6, cells := 0, slots := 0, locals := 133 }) s m ([.ref (ad 0), .int (iI p1), .int (iI p2), .int (iI p3), .int (iI p4), .int (iI p5), .int (iI p6)] : List Value).toArray below meth c H locs 0 0 Q (F0 m 22 ls []) := by
    intro H locs ls h_7 h_8 hP hD hS hl
    refine lv_aload_n hx hb dX13_more_22 rfl (lv_at hl 1 rfl) ?_
    refine jcg_v (va_runV (As := []) (rest := []) ⟨hx, hb, hml, hown, hts⟩ (sX13_next l dC dI _ ad ca sK sV g a tT tN  hI (by omega) hrTx) (cwV 0 hts (jgoodV m_224 m_433 m_434 m_503 m_184) rfl rfl rfl (by decide +kernel) ⟨(Nat.le_of_ble_eq_true rfl), (Nat.le_of_ble_eq_true rfl)⟩) ⟨mP_blind, va_recv hK hP (ci := 13) (q0 := 0) rfl rfl, fun U hU hW => ⟨rfl, mP_of hU hW hP hK hD hXs hS (fun _ h => h) hA⟩⟩ rfl rfl hl.1 rfl (lv_room (Nat.le_of_ble_eq_true rfl)) dX13_more_23 ⟨(Nat.le_of_ble_eq_true rfl), (Nat.le_of_ble_eq_true rfl)⟩) hD hS hA (fun u_20 H locs w_10 hP hK hD hS => ?_)
    obtain ⟨g_18, a_19⟩ := u_20
    obtain ⟨hI, hfr_21, hfr_22, h_12, h_13, h_14, h_15, h_16, h_17⟩ := w_10
    have hP : va_P (dC, dI) vwCl (mG ad ca g_18 a_19) H := hP
    have hD : va_D A (mG ad ca g_18 a_19) := hD
    have hfA : ∀ j, j ∉ ([2, 3, 4, 5, 7] : List Nat) → g_18 j = g j := fun j h => (hfr_21 j (fun q => h (by first | exact q | (simp only [List.mem_cons, List.not_mem_nil, or_false] at q ⊢ <;> omega)))).trans (hfA j h)
    have b_24 : g_18 1 = g 1 := hfA 1 (by decide)
    have b_25 : g_18 8 = g 8 := hfA 8 (by decide)
    have b_26 : g_18 9 = g 9 := hfA 9 (by decide)
    have b_27 : g_18 12 = g 12 := hfA 12 (by decide)
    have b_28 : g_18 15 = g 15 := hfA 15 (by decide)
    have b_29 := hfr_21 7 (by decide)
    have haA : ∀ j, j ∉ ([2] : List Nat) → a_19 j = a j := fun j h => (hfr_22 j (fun q => h (by first | exact q | (simp only [List.mem_cons, List.not_mem_nil, or_false] at q ⊢ <;> omega)))).trans (haA j h)
    have h_12 : g 2 ≤ g_18 2 := h_12
    have h_13 : g_18 2 ≤ g 1 := h_13
    have h_14 : g_18 3 = 0 ∨ g 2 + 1 ≤ g_18 2 := h_14
    have h_15 : g_18 4 ≤ g_18 2 := h_15
    have h_16 : g_18 4 = scn (bB tT) tN (g 2) := h_16
    have h_17 : tkR tT tN g_18 a_19 := h_17
    have b_30 : g_18 1 = g 1 := hfr_21 1 (by decide)
    have b_31 : g_18 7 = g 7 := hfr_21 7 (by decide)
    have b_32 : g_18 8 = g 8 := hfr_21 8 (by decide)
    have b_33 : g_18 9 = g 9 := hfr_21 9 (by decide)
    have b_34 : g_18 12 = g 12 := hfr_21 12 (by decide)
    have b_35 : g_18 15 = g 15 := hfr_21 15 (by decide)
    have t_36 : a_19 2 = a 2 := (hfr_22 2 (by decide)).trans rfl
    have t_37 : a_19 3 = a 3 := (hfr_22 3 (by decide)).trans rfl
    have t_38 : a_19 4 = a 4 := (hfr_22 4 (by decide)).trans rfl
    have t_39 : a_19 5 = a 5 := (hfr_22 5 (by decide)).trans rfl
    have t_40 : a_19 6 = a 6 := (hfr_22 6 (by decide)).trans rfl
    have t_41 : a_19 7 = a 7 := (hfr_22 7 (by decide)).trans rfl
    have t_42 : a_19 8 = a 8 := (hfr_22 8 (by decide)).trans rfl
    have b_43 : 0 ≤ g_18 1 ∧ g_18 1 ≤ 600 := hI.1 1
    have b_44 : 0 ≤ g_18 2 ∧ g_18 2 ≤ 600 := hI.1 2
    have e9 : g_18 4 = scn (bB tT) tN (g 2) := h_16
    refine lv_aload_n hx hb dX13_more_26 rfl (lv_at hl 1 rfl) ?_
    refine lv_iload hx hb dX13_more_27 (lv_at hl 6 rfl) ?_
    refine jcg_v (va_runV (As := [.int (iI p5)]) (rest := []) ⟨hx, hb, hml, hown, hts⟩ (sX13_push l dC dI _ ad ca g_18 a_19 p5 hI (by omega) (by omega)) (cwV 1 hts (jgoodV m_225 m_452 m_453 m_503 m_194) rfl rfl rfl (by decide +kernel) ⟨(Nat.le_of_ble_eq_true rfl), (Nat.le_of_ble_eq_true rfl)⟩) ⟨jw_blind, va_recv hK hP (ci := 13) (q0 := 0) rfl rfl, fun U hU hW => ⟨rfl, jw_of hU hW hP hK hD⟩⟩ rfl rfl hl.1 rfl (lv_room (Nat.le_of_ble_eq_true rfl)) dX13_more_29 ⟨(Nat.le_of_ble_eq_true rfl), (Nat.le_of_ble_eq_true rfl)⟩) hD hS hA (fun u_52 H locs w_46 hP hK hD hS => ?_)
    obtain ⟨g_50, a_51⟩ := u_52
    obtain ⟨hI, hfr_53, hfr_54, h_48, h_49⟩ := w_46
    have hP : va_P (dC, dI) vwCl (mG ad ca g_50 a_51) H := hP
    have hD : va_D A (mG ad ca g_50 a_51) := hD
    have hfA : ∀ j, j ∉ ([2, 3, 4, 5, 7] : List Nat) → g_50 j = g j := fun j h => (hfr_53 j (fun q => h (by first | exact q | (simp only [List.mem_cons, List.not_mem_nil, or_false] at q ⊢ <;> omega)))).trans (hfA j h)
    have b_56 : g_50 1 = g 1 := hfA 1 (by decide)
    have b_57 : g_50 8 = g 8 := hfA 8 (by decide)
    have b_58 : g_50 9 = g 9 := hfA 9 (by decide)
    have b_59 : g_50 12 = g 12 := hfA 12 (by decide)
    have b_60 : g_50 15 = g 15 := hfA 15 (by decide)
    have b_61 := hfr_53 2 (by decide)
    have b_62 := hfr_53 3 (by decide)
    have b_63 := hfr_53 4 (by decide)
    have b_64 := hfr_53 5 (by decide)
    have haA : ∀ j, j ∉ ([2] : List Nat) → a_51 j = a j := fun j h => (hfr_54 j (fun q => h (by first | exact q | (simp only [List.mem_cons, List.not_mem_nil, or_false] at q ⊢ <;> omega)))).trans (haA j h)
    have h_48 : g_50 7 = g_18 7 + 1 := h_48
    have h_49 : a_51 2 = up (a_19 2) (g_18 7) p5 := h_49
    have b_65 : g_50 1 = g_18 1 := hfr_53 1 (by decide)
    have b_66 : g_50 2 = g_18 2 := hfr_53 2 (by decide)
    have b_67 : g_50 3 = g_18 3 := hfr_53 3 (by decide)
    have b_68 : g_50 4 = g_18 4 := hfr_53 4 (by decide)
    have b_69 : g_50 8 = g_18 8 := hfr_53 8 (by decide)
    have b_70 : g_50 9 = g_18 9 := hfr_53 9 (by decide)
    have b_71 : g_50 12 = g_18 12 := hfr_53 12 (by decide)
    have b_72 : g_50 15 = g_18 15 := hfr_53 15 (by decide)
    have b_73 : g_50 5 = g_18 5 := hfr_53 5 (by decide)
    have t_74 : a_51 2 = up (a 2) (g 7) p5 := h_49.trans (up_c t_36 (by omega) (by omega))
    have t_75 : a_51 3 = a 3 := (hfr_54 3 (by decide)).trans t_37
    have t_76 : a_51 4 = a 4 := (hfr_54 4 (by decide)).trans t_38
    have t_77 : a_51 5 = a 5 := (hfr_54 5 (by decide)).trans t_39
    have t_78 : a_51 6 = a 6 := (hfr_54 6 (by decide)).trans t_40
    have t_79 : a_51 7 = a 7 := (hfr_54 7 (by decide)).trans t_41
    have t_80 : a_51 8 = a 8 := (hfr_54 8 (by decide)).trans t_42
    have b_81 : 0 ≤ g_50 7 ∧ g_50 7 ≤ 1200 := hI.1 7
    refine lv_aload_n hx hb dX13_more_32 rfl (lv_at hl 1 rfl) ?_
    refine lv_sipush (v := iI 1000) hx hb dX13_more_33 rfl ?_
    refine lv_iload hx hb dX13_more_36 (lv_at hl 0 rfl) ?_
    have J47 : ∀ (s0_47 : Int) (H : Heap) (locs : List Loc) (ls : Array Slot), ((-2147483648) ≤ s0_47 ∧ s0_47 ≤ 2147483647) → (2 ≤ s0_47 ∧ s0_47 ≤ 10) → va_P (dC, dI) vwCl (mG ad ca g_50 a_51) H → va_D A (mG ad ca g_50 a_51) → va_S A s.heap H locs → lv_has ls 8 [(7, .int (iI z_3)), (0, .ref (ad 0)), (1, .int (iI p1)), (2, .int (iI p2)), (3, .int (iI p3)), (4, .int (iI p4)), (5, .int (iI p5)), (6, .int (iI p6))] → W p l e ({ frames := 6, cells := 0, slots := 0, locals := 133 }) s m ([.ref (ad 0), .int (iI p1), .int (iI p2), .int (iI p3), .int (iI p4), .int (iI p5), .int (iI p6)] : List Value).toArray below meth c H locs 0 0 Q (F0 m 47 ls [.int (iI s0_47), .int (iI 1000), .ref (ad 0)]) := by
      intro s0_47 H locs ls h_82 h_83 hP hD hS hl
      refine xr_add hx hb dX13_more_47 ?_
      refine xr_kept (fun z_84 h_85 h_86 => ?_)
      refine jcg_v (va_runV (As := [.int (iI z_84)]) (rest := []) ⟨hx, hb, hml, hown, hts⟩ (sX13_push l dC dI _ ad ca g_50 a_51 z_84 hI (by omega) (by omega)) (cwV 1 hts (jgoodV m_225 m_452 m_453 m_503 m_194) rfl rfl rfl (by decide +kernel) ⟨(Nat.le_of_ble_eq_true rfl), (Nat.le_of_ble_eq_true rfl)⟩) ⟨jw_blind, va_recv hK hP (ci := 13) (q0 := 0) rfl rfl, fun U hU hW => ⟨rfl, jw_of hU hW hP hK hD⟩⟩ rfl rfl hl.1 rfl (lv_room (Nat.le_of_ble_eq_true rfl)) dX13_more_48 ⟨(Nat.le_of_ble_eq_true rfl), (Nat.le_of_ble_eq_true rfl)⟩) hD hS hA (fun u_94 H locs w_88 hP hK hD hS => ?_)
      obtain ⟨g_92, a_93⟩ := u_94
      obtain ⟨hI, hfr_95, hfr_96, h_90, h_91⟩ := w_88
      have hP : va_P (dC, dI) vwCl (mG ad ca g_92 a_93) H := hP
      have hD : va_D A (mG ad ca g_92 a_93) := hD
      have hfA : ∀ j, j ∉ ([2, 3, 4, 5, 7] : List Nat) → g_92 j = g j := fun j h => (hfr_95 j (fun q => h (by first | exact q | (simp only [List.mem_cons, List.not_mem_nil, or_false] at q ⊢ <;> omega)))).trans (hfA j h)
      have b_98 : g_92 1 = g 1 := hfA 1 (by decide)
      have b_99 : g_92 8 = g 8 := hfA 8 (by decide)
      have b_100 : g_92 9 = g 9 := hfA 9 (by decide)
      have b_101 : g_92 12 = g 12 := hfA 12 (by decide)
      have b_102 : g_92 15 = g 15 := hfA 15 (by decide)
      have b_103 := hfr_95 2 (by decide)
      have b_104 := hfr_95 3 (by decide)
      have b_105 := hfr_95 4 (by decide)
      have b_106 := hfr_95 5 (by decide)
      have haA : ∀ j, j ∉ ([2] : List Nat) → a_93 j = a j := fun j h => (hfr_96 j (fun q => h (by first | exact q | (simp only [List.mem_cons, List.not_mem_nil, or_false] at q ⊢ <;> omega)))).trans (haA j h)
      have h_90 : g_92 7 = g_50 7 + 1 := h_90
      have h_91 : a_93 2 = up (a_51 2) (g_50 7) z_84 := h_91
      have b_107 : g_92 1 = g_50 1 := hfr_95 1 (by decide)
      have b_108 : g_92 2 = g_50 2 := hfr_95 2 (by decide)
      have b_109 : g_92 3 = g_50 3 := hfr_95 3 (by decide)
      have b_110 : g_92 4 = g_50 4 := hfr_95 4 (by decide)
      have b_111 : g_92 8 = g_50 8 := hfr_95 8 (by decide)
      have b_112 : g_92 9 = g_50 9 := hfr_95 9 (by decide)
      have b_113 : g_92 12 = g_50 12 := hfr_95 12 (by decide)
      have b_114 : g_92 15 = g_50 15 := hfr_95 15 (by decide)
      have b_115 : g_92 5 = g_50 5 := hfr_95 5 (by decide)
      have t_116 : a_93 2 = up (up (a 2) (g 7) p5) ((g 7 + 1)) z_84 := h_91.trans (up_c t_74 (by omega) (by omega))
      have t_117 : a_93 3 = a 3 := (hfr_96 3 (by decide)).trans t_75
      have t_118 : a_93 4 = a 4 := (hfr_96 4 (by decide)).trans t_76
      have t_119 : a_93 5 = a 5 := (hfr_96 5 (by decide)).trans t_77
      have t_120 : a_93 6 = a 6 := (hfr_96 6 (by decide)).trans t_78
      have t_121 : a_93 7 = a 7 := (hfr_96 7 (by decide)).trans t_79
      have t_122 : a_93 8 = a 8 := (hfr_96 8 (by decide)).trans t_80
      have b_123 : 0 ≤ g_92 7 ∧ g_92 7 ≤ 1200 := hI.1 7
      refine lv_aload_n hx hb dX13_more_51 rfl (lv_at hl 1 rfl) ?_
      refine lv_iload hx hb dX13_more_52 (lv_at hl 7 rfl) ?_
      refine jcg_v (va_runV (As := [.int (iI p6)]) (rest := []) ⟨hx, hb, hml, hown, hts⟩ (sX13_push l dC dI _ ad ca g_92 a_93 p6 hI (by omega) (by omega)) (cwV 1 hts (jgoodV m_225 m_452 m_453 m_503 m_194) rfl rfl rfl (by decide +kernel) ⟨(Nat.le_of_ble_eq_true rfl), (Nat.le_of_ble_eq_true rfl)⟩) ⟨jw_blind, va_recv hK hP (ci := 13) (q0 := 0) rfl rfl, fun U hU hW => ⟨rfl, jw_of hU hW hP hK hD⟩⟩ rfl rfl hl.1 rfl (lv_room (Nat.le_of_ble_eq_true rfl)) dX13_more_54 ⟨(Nat.le_of_ble_eq_true rfl), (Nat.le_of_ble_eq_true rfl)⟩) hD hS hA (fun u_131 H locs w_125 hP hK hD hS => ?_)
      obtain ⟨g_129, a_130⟩ := u_131
      obtain ⟨hI, hfr_132, hfr_133, h_127, h_128⟩ := w_125
      have hP : va_P (dC, dI) vwCl (mG ad ca g_129 a_130) H := hP
      have hD : va_D A (mG ad ca g_129 a_130) := hD
      have hfA : ∀ j, j ∉ ([2, 3, 4, 5, 7] : List Nat) → g_129 j = g j := fun j h => (hfr_132 j (fun q => h (by first | exact q | (simp only [List.mem_cons, List.not_mem_nil, or_false] at q ⊢ <;> omega)))).trans (hfA j h)
      have b_135 : g_129 1 = g 1 := hfA 1 (by decide)
      have b_136 : g_129 8 = g 8 := hfA 8 (by decide)
      have b_137 : g_129 9 = g 9 := hfA 9 (by decide)
      have b_138 : g_129 12 = g 12 := hfA 12 (by decide)
      have b_139 : g_129 15 = g 15 := hfA 15 (by decide)
      have b_140 := hfr_132 2 (by decide)
      have b_141 := hfr_132 3 (by decide)
      have b_142 := hfr_132 4 (by decide)
      have b_143 := hfr_132 5 (by decide)
      have haA : ∀ j, j ∉ ([2] : List Nat) → a_130 j = a j := fun j h => (hfr_133 j (fun q => h (by first | exact q | (simp only [List.mem_cons, List.not_mem_nil, or_false] at q ⊢ <;> omega)))).trans (haA j h)
      have h_127 : g_129 7 = g_92 7 + 1 := h_127
      have h_128 : a_130 2 = up (a_93 2) (g_92 7) p6 := h_128
      have b_144 : g_129 1 = g_92 1 := hfr_132 1 (by decide)
      have b_145 : g_129 2 = g_92 2 := hfr_132 2 (by decide)
      have b_146 : g_129 3 = g_92 3 := hfr_132 3 (by decide)
      have b_147 : g_129 4 = g_92 4 := hfr_132 4 (by decide)
      have b_148 : g_129 8 = g_92 8 := hfr_132 8 (by decide)
      have b_149 : g_129 9 = g_92 9 := hfr_132 9 (by decide)
      have b_150 : g_129 12 = g_92 12 := hfr_132 12 (by decide)
      have b_151 : g_129 15 = g_92 15 := hfr_132 15 (by decide)
      have b_152 : g_129 5 = g_92 5 := hfr_132 5 (by decide)
      have t_153 : a_130 2 = up (up (up (a 2) (g 7) p5) ((g 7 + 1)) z_84) (((g 7 + 1) + 1)) p6 := h_128.trans (up_c t_116 (by omega) (by omega))
      have t_154 : a_130 3 = a 3 := (hfr_133 3 (by decide)).trans t_117
      have t_155 : a_130 4 = a 4 := (hfr_133 4 (by decide)).trans t_118
      have t_156 : a_130 5 = a 5 := (hfr_133 5 (by decide)).trans t_119
      have t_157 : a_130 6 = a 6 := (hfr_133 6 (by decide)).trans t_120
      have t_158 : a_130 7 = a 7 := (hfr_133 7 (by decide)).trans t_121
      have t_159 : a_130 8 = a 8 := (hfr_133 8 (by decide)).trans t_122
      have b_160 : 0 ≤ g_129 7 ∧ g_129 7 ≤ 1200 := hI.1 7
      refine lv_iconst (v := iI 1) hx hb dX13_more_57 rfl ?_
      rw [← hQ]
      exact W.zret (v := iI 1) (ty := .boolean) hx hb hr (nb_bool (by omega) (by omega)) (fun t ht hW => ⟨⟨iI 1, (g_129, a_130), rfl, ⟨1, rfl, hI, hfA, haA, by omega, by show 1 = 0 ∨ (rPn g_129 a_130 (g_129 7) ∧ mz g_129 a_130 (g_129 7) < mz g a (g 7 + 1)); first | exact Or.inl rfl | (rcases k1 with ⟨-, -, -, -, -, -, q⟩ | ⟨-, -, -, -, -, -, q⟩; exact Or.inr (st_2n hrP1 (by omega) q ⟨by omega, by omega, by omega, by omega, t_154, t_155, t_156, t_157, t_158, t_159⟩ (by omega) (by omega) (by omega) (by omega) (by omega) t_153); exact Or.inr (st_4n hrP1 (by omega) q ⟨by omega, by omega, by omega, by omega, t_154, t_155, t_156, t_157, t_158, t_159⟩ (by omega) (by omega) (by omega) (by omega) (by omega) t_153)) | (rcases k1 with ⟨-, -, -, -, q5, q6, q⟩ | ⟨-, -, -, -, q5, q6, q⟩; exact Or.inr (st_2m (by omega) hrP1 (by omega) q ⟨by omega, by omega, by omega, by omega, t_154, t_155, t_156, t_157, t_158, t_159⟩ (by omega) (by omega) (by omega) (by omega) ⟨by omega, by omega, by omega⟩ ((t_153).trans (up_c (up_c (up_c rfl rfl q5) rfl rfl) (by omega) q6))); exact Or.inr (st_4m (by omega) hrP1 (by omega) q ⟨by omega, by omega, by omega, by omega, t_154, t_155, t_156, t_157, t_158, t_159⟩ (by omega) (by omega) (by omega) (by omega) ⟨by omega, by omega, by omega⟩ ((t_153).trans (up_c (up_c (up_c rfl rfl q5) rfl rfl) (by omega) q6)))), by show tkR tT tN g_129 a_130; first | assumption | exact tkR_t (by omega) (by omega) (by omega) (by omega) h_17 | exact tkR_t (by omega) (by omega) (by omega) (by omega) hrTk, by show nst tT tN g a g_129 a_130 1; first | (rcases k1 with ⟨q1, q2, q3, q4, q5, q6, q⟩ | ⟨q1, q2, q3, q4, q5, q6, q⟩; exact nst_y (by omega) (by omega) (nt_2n hrTk (by omega) (by omega) q (by omega) (by omega) (by omega) t_156 (by omega) t_153); exact nst_y (by omega) (by omega) (nt_4n hrTk (by omega) (by omega) q (by omega) (by omega) (by omega) t_156 (by omega) t_153)) | (rcases k1 with ⟨q1, q2, q3, q4, q5, q6, q⟩ | ⟨q1, q2, q3, q4, q5, q6, q⟩; exact nst_y (by omega) (by omega) (nt_2m (by omega) hrTk (by omega) (by omega) q (by omega) (by omega) (by omega) t_156 (by omega) ((t_153).trans (up_c (up_c (up_c rfl rfl q5) rfl rfl) (by omega) q6))); exact nst_y (by omega) (by omega) (nt_4m (by omega) hrTk (by omega) (by omega) q (by omega) (by omega) (by omega) t_156 (by omega) ((t_153).trans (up_c (up_c (up_c rfl rfl q5) rfl rfl) (by omega) q6))))⟩, by rw [ht]; exact hP, va_K.moved hW.alike hK, hD⟩, hS.F ht⟩) hS.2.2 dX13_more_58
    refine xr_if_eq (tgt := 45) hx hb dX13_more_38 (by decide) (by omega) (fun h_161 => ?_) (fun h_161 => ?_)
    · refine lv_iload hx hb dX13_more_45 (lv_at hl 5 rfl) ?_
      exact J47 p4 H locs ls (by omega) (by omega) hP hD hS hl
    · refine lv_iload_n hx hb dX13_more_41 rfl (lv_at hl 3 rfl) ?_
      refine lv_goto (tgt := 47) hx hb dX13_more_42 (by decide) ?_
      exact J47 p2 H locs ls (by omega) (by omega) hP hD hS hl
  refine xr_if_ne (tgt := 22) hx hb dX13_more_9 (by decide) (by omega) (fun h_162 => ?_) (fun h_162 => ?_)
  · exact J22 H locs ls (by omega) (by omega) hP hD hS hl
  · refine lv_aload_n hx hb dX13_more_12 rfl (lv_at hl 1 rfl) ?_
    refine lv_iload_n hx hb dX13_more_13 rfl (lv_at hl 4 rfl) ?_
    refine jc_i (va_runV (As := [.int (iI p3)]) (rest := []) ⟨hx, hb, hml, hown, hts⟩ (sX13_isSign l dC dI _ ad ca g a p3 hI (by omega)) (cwV 1 hts (jgoodV m_227 m_389 m_390 m_503 m_161) rfl rfl rfl (by decide +kernel) ⟨(Nat.le_of_ble_eq_true rfl), (Nat.le_of_ble_eq_true rfl)⟩) ⟨jw_blind, va_recv hK hP (ci := 13) (q0 := 0) rfl rfl, fun U hU hW => ⟨rfl, jw_of hU hW hP hK hD⟩⟩ rfl rfl hl.1 rfl (lv_room (Nat.le_of_ble_eq_true rfl)) dX13_more_14 ⟨(Nat.le_of_ble_eq_true rfl), (Nat.le_of_ble_eq_true rfl)⟩) hP hS hA (fun r_163 H locs w_164 hP hS => ?_)
    obtain ⟨z_165, rfl, h_166, h_167⟩ := w_164
    have b_168 : 0 ≤ g 3 ∧ g 3 ≤ 4 := hI.1 3
    refine xr_if_ne (tgt := 22) hx hb dX13_more_17 (by decide) (by omega) (fun h_169 => ?_) (fun h_169 => ?_)
    · exact J22 H locs ls (by omega) (by omega) hP hD hS hl
    · refine lv_iconst (v := iI 1) hx hb dX13_more_20 rfl ?_
      rw [← hQ]
      exact W.zret (v := iI 1) (ty := .boolean) hx hb hr (nb_bool (by omega) (by omega)) (fun t ht hW => ⟨⟨iI 1, (g, a), rfl, ⟨1, rfl, hI, hfA, haA, by omega, by show 1 = 0 ∨ (rPn g a (g 7) ∧ mz g a (g 7) < mz g a (g 7 + 1)); first | exact Or.inl rfl | (rcases k1 with ⟨-, -, -, -, -, -, q⟩ | ⟨-, -, -, -, -, -, q⟩; exact Or.inr (st_2n hrP1 (by omega) q ⟨by omega, by omega, by omega, by omega, rfl, rfl, rfl, rfl, rfl, rfl⟩ (by omega) (by omega) (by omega) (by omega) (by omega) rfl); exact Or.inr (st_4n hrP1 (by omega) q ⟨by omega, by omega, by omega, by omega, rfl, rfl, rfl, rfl, rfl, rfl⟩ (by omega) (by omega) (by omega) (by omega) (by omega) rfl)) | (rcases k1 with ⟨-, -, -, -, q5, q6, q⟩ | ⟨-, -, -, -, q5, q6, q⟩; exact Or.inr (st_2m (by omega) hrP1 (by omega) q ⟨by omega, by omega, by omega, by omega, rfl, rfl, rfl, rfl, rfl, rfl⟩ (by omega) (by omega) (by omega) (by omega) ⟨by omega, by omega, by omega⟩ ((rfl).trans (up_c (up_c (up_c rfl rfl q5) rfl rfl) (by omega) q6))); exact Or.inr (st_4m (by omega) hrP1 (by omega) q ⟨by omega, by omega, by omega, by omega, rfl, rfl, rfl, rfl, rfl, rfl⟩ (by omega) (by omega) (by omega) (by omega) ⟨by omega, by omega, by omega⟩ ((rfl).trans (up_c (up_c (up_c rfl rfl q5) rfl rfl) (by omega) q6)))), by show tkR tT tN g a; first | assumption | exact tkR_t (by omega) (by omega) (by omega) (by omega) _ | exact tkR_t (by omega) (by omega) (by omega) (by omega) hrTk, by show nst tT tN g a g a 1; first | (rcases k1 with ⟨q1, q2, q3, q4, q5, q6, q⟩ | ⟨q1, q2, q3, q4, q5, q6, q⟩; exact nst_y (by omega) (by omega) (nt_2n hrTk (by omega) (by omega) q (by omega) (by omega) (by omega) rfl (by omega) rfl); exact nst_y (by omega) (by omega) (nt_4n hrTk (by omega) (by omega) q (by omega) (by omega) (by omega) rfl (by omega) rfl)) | (rcases k1 with ⟨q1, q2, q3, q4, q5, q6, q⟩ | ⟨q1, q2, q3, q4, q5, q6, q⟩; exact nst_y (by omega) (by omega) (nt_2m (by omega) hrTk (by omega) (by omega) q (by omega) (by omega) (by omega) rfl (by omega) ((rfl).trans (up_c (up_c (up_c rfl rfl q5) rfl rfl) (by omega) q6))); exact nst_y (by omega) (by omega) (nt_4m (by omega) hrTk (by omega) (by omega) q (by omega) (by omega) (by omega) rfl (by omega) ((rfl).trans (up_c (up_c (up_c rfl rfl q5) rfl rfl) (by omega) q6))))⟩, by rw [ht]; exact hP, va_K.moved hW.alike hK, hD⟩, hS.F ht⟩) hS.2.2 dX13_more_21
