set_option maxHeartbeats 2000000 in
set_option maxRecDepth 100000 in
theorem sX13_push (l : Launch) (dC : Nat → ClassId) (dI : Nat → Nat → Nat) (sz : Nat) (ad : Nat → Nat) (ca : Nat → ClassId) (g : Nat → Int) (a : Nat → Int → Int) (p1 : Int) (hI : mI g a) (q1 : rg p1) (k1 : g 7 < 1200) : Met l yX13_push (jk yX13_push cX13_push 2 none) ({ frames := 0, cells := 0, slots := 0, locals := 0 }) (va_Pc [.ref (ad 0), .int (iI p1)] (jw_P (dC, dI) (mG ad ca g a) (mT ca) sz)) (va_Qv (fun (u : (Nat → Int) × (Nat → Int → Int)) => (mI u.1 u.2) ∧ (∀ j, j ∉ ([7] : List Nat) → u.1 j = g j) ∧ (∀ j, j ∉ ([2] : List Nat) → u.2 j = a j) ∧ (u.1 7 = g 7 + 1) ∧ (u.2 2 = up (a 2) (g 7) p1)) (fun u t => va_P (dC, dI) vwCl (mG ad ca u.1 u.2) t.heap ∧ va_K (dC, dI) vwCl (mT ca) t ∧ va_D (va_A (mG ad ca g a) sz) (mG ad ca u.1 u.2)) (va_A (mG ad ca g a) sz)) 0 0 (va_A (mG ad ca g a) sz) := by
  refine Met.ofW (cc := cX13_push) (maxL := 2) (ret := none) (by decide) rfl ?_
  intro p e s m args below meth c s₁ B hml hv
  obtain ⟨rfl, hsz, hP, hK, hD0⟩ := hv
  have hx := B.exec
  have hb := B.bytes
  have hr := B.returns
  have hts := atoms_spec (ws := (jk yX13_push cX13_push 2 none)) B.pre
  have hj : ∀ w ∈ jw, w.before ([.ref (ad 0), .int (iI p1)] : List Value).toArray s = true := fun w h => hts w (jm h)
  have hown : s.vm.findClass RX13 = some m.cls := findClass_of_methodNamed B.named
  subst hsz
  have hD := hD0.self (sz := s.heap.size)
  generalize hAe : (va_A (mG ad ca g a) s.heap.size) = A at hD ⊢
  have hA : ∀ q : Nat, s.heap.size ≤ q → A q := fun q h => by rw [← hAe]; exact Or.inr h
  have hS : va_S A s.heap s.heap [] := va_S.rf
  have hP : va_P (dC, dI) vwCl (mG ad ca g a) s.heap := hP
  have hfA : ∀ j, j ∉ ([7] : List Nat) → g j = g j := fun _ _ => rfl
  have haA : ∀ j, j ∉ ([2] : List Nat) → a j = a j := fun _ _ => rfl
  have hl := lv_entry ([.ref (ad 0), .int (iI p1)]) (n := 2) (Nat.le_of_ble_eq_true rfl)
  rw [lg_entry_eq]
  generalize (lg_sl ([.ref (ad 0), .int (iI p1)]) ++ List.replicate (2 - (lg_sl ([.ref (ad 0), .int (iI p1)])).length) Slot.unset).toArray = ls at hl ⊢
  have hl : lv_has ls 2 [(0, .ref (ad 0)), (1, .int (iI p1))] := hl
  generalize hQ : MQ below (va_Qv (fun (u : (Nat → Int) × (Nat → Int → Int)) => (mI u.1 u.2) ∧ (∀ j, j ∉ ([7] : List Nat) → u.1 j = g j) ∧ (∀ j, j ∉ ([2] : List Nat) → u.2 j = a j) ∧ (u.1 7 = g 7 + 1) ∧ (u.2 2 = up (a 2) (g 7) p1)) (fun u t => va_P (dC, dI) vwCl (mG ad ca u.1 u.2) t.heap ∧ va_K (dC, dI) vwCl (mT ca) t ∧ va_D A (mG ad ca u.1 u.2)) A) ([.ref (ad 0), .int (iI p1)] : List Value).toArray s 0 0 A = Q
  suffices ST : ∀ (H : Heap) (locs : List Loc), va_P (dC, dI) vwCl (mG ad ca g a) H → va_S A s.heap H locs → W p l e ({ frames := 0, cells := 0, slots := 0, locals := 0 }) s m ([.ref (ad 0), .int (iI p1)] : List Value).toArray below meth c H locs 0 0 Q (F0 m 0 ls []) from ST _ _ hP hS
  clear hP hS
  intro H locs hP hS
  refine lv_aload_n hx hb dX13_push_0 rfl (lv_at hl 0 rfl) ?_
  refine gf_toCome hx hb hj hown hK hP dX13_push_1 ?_
  refine lv_aload_n hx hb dX13_push_4 rfl (lv_at hl 0 rfl) ?_
  refine gf_coming hx hb hj hown hK hP hI dX13_push_5 (fun h_1 => ?_)
  refine lv_iload_n hx hb dX13_push_8 rfl (lv_at hl 1 rfl) ?_
  refine sa_toCome hx hb hK hP hD hS hI (by omega) (by omega) dX13_push_9 (fun a_2 z_5 H locs h_6 h_7 e_3 e_4 hI hP hD hS => ?_)
  have haA : ∀ j, j ∉ ([2] : List Nat) → a_2 j = a j := fun j h => (e_3 j (fun q => h (q ▸ (by decide : 2 ∈ ([2] : List Nat))))).trans (haA j h)
  have t_8 : a_2 2 = up (a 2) (g 7) p1 := e_4.trans (up_c rfl (by omega) (by omega))
  refine lv_aload_n hx hb dX13_push_10 rfl (lv_at hl 0 rfl) ?_
  refine lv_dup hx hb dX13_push_11 rfl ?_
  refine gf_coming hx hb hj hown hK hP hI dX13_push_12 (fun h_9 => ?_)
  refine lv_iconst (v := iI 1) hx hb dX13_push_15 rfl ?_
  refine xr_add hx hb dX13_push_16 ?_
  refine pf_coming hx hb hj hown hK hP hD hS hI (by omega) (by omega) dX13_push_17 (fun g_10 H locs e_11 e_12 hI hP hD hS => ?_)
  have hfA : ∀ j, j ∉ ([7] : List Nat) → g_10 j = g j := fun j h => (e_11 j (fun q => h (q ▸ (by decide : 7 ∈ ([7] : List Nat))))).trans (hfA j h)
  rw [← hQ]
  exact W.vret hx hb hr (fun t ht hW => ⟨⟨(g_10, a_2), rfl, ⟨hI, hfA, haA, by show g_10 7 = g 7 + 1; omega, by show a_2 2 = up (a 2) (g 7) p1; exact t_8⟩, by rw [ht]; exact hP, va_K.moved hW.alike hK, hD⟩, hS.F ht⟩) hS.2.2 dX13_push_20
set_option maxHeartbeats 2000000 in
set_option maxRecDepth 100000 in
theorem sX13_emits (l : Launch) (dC : Nat → ClassId) (dI : Nat → Nat → Nat) (sz : Nat) (ad : Nat → Nat) (ca : Nat → ClassId) (g : Nat → Int) (a : Nat → Int → Int) (p1 : Int) (p2 : Int) (hI : mI g a) (q1 : rg p1) (q2 : rg p2) (k1 : g 12 < 600) : Met l yX13_emits (jk yX13_emits cX13_emits 3 none) ({ frames := 0, cells := 0, slots := 0, locals := 0 }) (va_Pc [.ref (ad 0), .int (iI p1), .int (iI p2)] (jw_P (dC, dI) (mG ad ca g a) (mT ca) sz)) (va_Qv (fun (u : (Nat → Int) × (Nat → Int → Int)) => (mI u.1 u.2) ∧ (∀ j, j ∉ ([12] : List Nat) → u.1 j = g j) ∧ (∀ j, j ∉ ([3, 4] : List Nat) → u.2 j = a j) ∧ (u.1 12 = g 12 + 1) ∧ (u.2 3 = up (a 3) (g 12) p1) ∧ (u.2 4 = up (a 4) (g 12) p2)) (fun u t => va_P (dC, dI) vwCl (mG ad ca u.1 u.2) t.heap ∧ va_K (dC, dI) vwCl (mT ca) t ∧ va_D (va_A (mG ad ca g a) sz) (mG ad ca u.1 u.2)) (va_A (mG ad ca g a) sz)) 0 0 (va_A (mG ad ca g a) sz) := by
  refine Met.ofW (cc := cX13_emits) (maxL := 3) (ret := none) (by decide) rfl ?_
  intro p e s m args below meth c s₁ B hml hv
  obtain ⟨rfl, hsz, hP, hK, hD0⟩ := hv
  have hx := B.exec
  have hb := B.bytes
  have hr := B.returns
  have hts := atoms_spec (ws := (jk yX13_emits cX13_emits 3 none)) B.pre
  have hj : ∀ w ∈ jw, w.before ([.ref (ad 0), .int (iI p1), .int (iI p2)] : List Value).toArray s = true := fun w h => hts w (jm h)
  have hown : s.vm.findClass RX13 = some m.cls := findClass_of_methodNamed B.named
  subst hsz
  have hD := hD0.self (sz := s.heap.size)
  generalize hAe : (va_A (mG ad ca g a) s.heap.size) = A at hD ⊢
  have hA : ∀ q : Nat, s.heap.size ≤ q → A q := fun q h => by rw [← hAe]; exact Or.inr h
  have hS : va_S A s.heap s.heap [] := va_S.rf
  have hP : va_P (dC, dI) vwCl (mG ad ca g a) s.heap := hP
  have hfA : ∀ j, j ∉ ([12] : List Nat) → g j = g j := fun _ _ => rfl
  have haA : ∀ j, j ∉ ([3, 4] : List Nat) → a j = a j := fun _ _ => rfl
  have hl := lv_entry ([.ref (ad 0), .int (iI p1), .int (iI p2)]) (n := 3) (Nat.le_of_ble_eq_true rfl)
  rw [lg_entry_eq]
  generalize (lg_sl ([.ref (ad 0), .int (iI p1), .int (iI p2)]) ++ List.replicate (3 - (lg_sl ([.ref (ad 0), .int (iI p1), .int (iI p2)])).length) Slot.unset).toArray = ls at hl ⊢
  have hl : lv_has ls 3 [(0, .ref (ad 0)), (1, .int (iI p1)), (2, .int (iI p2))] := hl
  generalize hQ : MQ below (va_Qv (fun (u : (Nat → Int) × (Nat → Int → Int)) => (mI u.1 u.2) ∧ (∀ j, j ∉ ([12] : List Nat) → u.1 j = g j) ∧ (∀ j, j ∉ ([3, 4] : List Nat) → u.2 j = a j) ∧ (u.1 12 = g 12 + 1) ∧ (u.2 3 = up (a 3) (g 12) p1) ∧ (u.2 4 = up (a 4) (g 12) p2)) (fun u t => va_P (dC, dI) vwCl (mG ad ca u.1 u.2) t.heap ∧ va_K (dC, dI) vwCl (mT ca) t ∧ va_D A (mG ad ca u.1 u.2)) A) ([.ref (ad 0), .int (iI p1), .int (iI p2)] : List Value).toArray s 0 0 A = Q
  suffices ST : ∀ (H : Heap) (locs : List Loc), va_P (dC, dI) vwCl (mG ad ca g a) H → va_S A s.heap H locs → W p l e ({ frames := 0, cells := 0, slots := 0, locals := 0 }) s m ([.ref (ad 0), .int (iI p1), .int (iI p2)] : List Value).toArray below meth c H locs 0 0 Q (F0 m 0 ls []) from ST _ _ hP hS
  clear hP hS
  intro H locs hP hS
  refine lv_aload_n hx hb dX13_emits_0 rfl (lv_at hl 0 rfl) ?_
  refine gf_does hx hb hj hown hK hP dX13_emits_1 ?_
  refine lv_aload_n hx hb dX13_emits_4 rfl (lv_at hl 0 rfl) ?_
  refine gf_doing hx hb hj hown hK hP hI dX13_emits_5 (fun h_1 => ?_)
  refine lv_iload_n hx hb dX13_emits_8 rfl (lv_at hl 1 rfl) ?_
  refine sa_does hx hb hK hP hD hS hI (by omega) (by omega) dX13_emits_9 (fun a_2 z_5 H locs h_6 h_7 e_3 e_4 hI hP hD hS => ?_)
  have haA : ∀ j, j ∉ ([3, 4] : List Nat) → a_2 j = a j := fun j h => (e_3 j (fun q => h (q ▸ (by decide : 3 ∈ ([3, 4] : List Nat))))).trans (haA j h)
  have t_8 : a_2 3 = up (a 3) (g 12) p1 := e_4.trans (up_c rfl (by omega) (by omega))
  have t_9 : a_2 4 = a 4 := (e_3 4 (by decide)).trans rfl
  refine lv_aload_n hx hb dX13_emits_10 rfl (lv_at hl 0 rfl) ?_
  refine gf_doesWith hx hb hj hown hK hP dX13_emits_11 ?_
  refine lv_aload_n hx hb dX13_emits_14 rfl (lv_at hl 0 rfl) ?_
  refine gf_doing hx hb hj hown hK hP hI dX13_emits_15 (fun h_10 => ?_)
  refine lv_iload_n hx hb dX13_emits_18 rfl (lv_at hl 2 rfl) ?_
  refine sa_doesWith hx hb hK hP hD hS hI (by omega) (by omega) dX13_emits_19 (fun a_11 z_14 H locs h_15 h_16 e_12 e_13 hI hP hD hS => ?_)
  have haA : ∀ j, j ∉ ([3, 4] : List Nat) → a_11 j = a j := fun j h => (e_12 j (fun q => h (q ▸ (by decide : 4 ∈ ([3, 4] : List Nat))))).trans (haA j h)
  have t_17 : a_11 3 = up (a 3) (g 12) p1 := (e_12 3 (by decide)).trans t_8
  have t_18 : a_11 4 = up (a 4) (g 12) p2 := e_13.trans (up_c t_9 (by omega) (by omega))
  refine lv_aload_n hx hb dX13_emits_20 rfl (lv_at hl 0 rfl) ?_
  refine lv_dup hx hb dX13_emits_21 rfl ?_
  refine gf_doing hx hb hj hown hK hP hI dX13_emits_22 (fun h_19 => ?_)
  refine lv_iconst (v := iI 1) hx hb dX13_emits_25 rfl ?_
  refine xr_add hx hb dX13_emits_26 ?_
  refine pf_doing hx hb hj hown hK hP hD hS hI (by omega) (by omega) dX13_emits_27 (fun g_20 H locs e_21 e_22 hI hP hD hS => ?_)
  have hfA : ∀ j, j ∉ ([12] : List Nat) → g_20 j = g j := fun j h => (e_21 j (fun q => h (q ▸ (by decide : 12 ∈ ([12] : List Nat))))).trans (hfA j h)
  rw [← hQ]
  exact W.vret hx hb hr (fun t ht hW => ⟨⟨(g_20, a_11), rfl, ⟨hI, hfA, haA, by show g_20 12 = g 12 + 1; omega, by show a_11 3 = up (a 3) (g 12) p1; exact t_17, by show a_11 4 = up (a 4) (g 12) p2; exact t_18⟩, by rw [ht]; exact hP, va_K.moved hW.alike hK, hD⟩, hS.F ht⟩) hS.2.2 dX13_emits_30
set_option maxHeartbeats 2000000 in
set_option maxRecDepth 100000 in
theorem sX13_takes (l : Launch) (dC : Nat → ClassId) (dI : Nat → Nat → Nat) (sz : Nat) (ad : Nat → Nat) (ca : Nat → ClassId) (sK sV : Nat → Nat) (g : Nat → Int) (a : Nat → Int → Int) (hI : mI g a) (k1 : g 2 ≤ g 1) : Met l yX13_takes (jk yX13_takes cX13_takes 1 (some .boolean)) ({ frames := 6, cells := 0, slots := 0, locals := 133 }) (va_Pc [.ref (ad 0)] (mP (dC, dI) (mG ad ca g a) (mT ca) sK sV sz)) (va_Qi (fun (r : Int32) (u : (Nat → Int) × (Nat → Int → Int)) => ∃ z : Int, r = iI z ∧ (mI u.1 u.2) ∧ (∀ j, j ∉ ([2, 3, 4, 5] : List Nat) → u.1 j = g j) ∧ (∀ j, j ∉ ([] : List Nat) → u.2 j = a j) ∧ (0 ≤ z ∧ z ≤ 1) ∧ (z = 1) ∧ (g 2 ≤ u.1 2) ∧ (u.1 2 ≤ g 1) ∧ (u.1 3 = 0 ∨ g 2 + 1 ≤ u.1 2) ∧ (u.1 4 ≤ u.1 2)) (fun u t => va_P (dC, dI) vwCl (mG ad ca u.1 u.2) t.heap ∧ va_K (dC, dI) vwCl (mT ca) t ∧ va_D (va_A (mG ad ca g a) sz) (mG ad ca u.1 u.2)) (va_A (mG ad ca g a) sz)) 0 0 (va_A (mG ad ca g a) sz) := by
  refine Met.ofW (cc := cX13_takes) (maxL := 1) (ret := (some .boolean)) (by decide) rfl ?_
  intro p e s m args below meth c s₁ B hml hv
  obtain ⟨rfl, ⟨hsz, hP, hK, hD0⟩, hX0⟩ := hv
  have hx := B.exec
  have hb := B.bytes
  have hr := B.returns
  have hts := atoms_spec (ws := (jk yX13_takes cX13_takes 1 (some .boolean))) B.pre
  have hj : ∀ w ∈ jw, w.before ([.ref (ad 0)] : List Value).toArray s = true := fun w h => hts w (jm h)
  have hown : s.vm.findClass RX13 = some m.cls := findClass_of_methodNamed B.named
  subst hsz
  have hD := hD0.self (sz := s.heap.size)
  have hXs := hX0
  generalize hAe : (va_A (mG ad ca g a) s.heap.size) = A at hD hXs ⊢
  have hA : ∀ q : Nat, s.heap.size ≤ q → A q := fun q h => by rw [← hAe]; exact Or.inr h
  have hS : va_S A s.heap s.heap [] := va_S.rf
  have hP : va_P (dC, dI) vwCl (mG ad ca g a) s.heap := hP
  have hfA : ∀ j, j ∉ ([2, 3, 4, 5] : List Nat) → g j = g j := fun _ _ => rfl
  have haA : ∀ j, j ∉ ([] : List Nat) → a j = a j := fun _ _ => rfl
  have hl := lv_entry ([.ref (ad 0)]) (n := 1) (Nat.le_of_ble_eq_true rfl)
  rw [lg_entry_eq]
  generalize (lg_sl ([.ref (ad 0)]) ++ List.replicate (1 - (lg_sl ([.ref (ad 0)])).length) Slot.unset).toArray = ls at hl ⊢
  have hl : lv_has ls 1 [(0, .ref (ad 0))] := hl
  generalize hQ : MQ below (va_Qi (fun (r : Int32) (u : (Nat → Int) × (Nat → Int → Int)) => ∃ z : Int, r = iI z ∧ (mI u.1 u.2) ∧ (∀ j, j ∉ ([2, 3, 4, 5] : List Nat) → u.1 j = g j) ∧ (∀ j, j ∉ ([] : List Nat) → u.2 j = a j) ∧ (0 ≤ z ∧ z ≤ 1) ∧ (z = 1) ∧ (g 2 ≤ u.1 2) ∧ (u.1 2 ≤ g 1) ∧ (u.1 3 = 0 ∨ g 2 + 1 ≤ u.1 2) ∧ (u.1 4 ≤ u.1 2)) (fun u t => va_P (dC, dI) vwCl (mG ad ca u.1 u.2) t.heap ∧ va_K (dC, dI) vwCl (mT ca) t ∧ va_D A (mG ad ca u.1 u.2)) A) ([.ref (ad 0)] : List Value).toArray s 0 0 A = Q
  suffices ST : ∀ (H : Heap) (locs : List Loc), va_P (dC, dI) vwCl (mG ad ca g a) H → va_S A s.heap H locs → W p l e ({ frames := 6, cells := 0, slots := 0, locals := 133 }) s m ([.ref (ad 0)] : List Value).toArray below meth c H locs 0 0 Q (F0 m 0 ls []) from ST _ _ hP hS
  clear hP hS
  intro H locs hP hS
  refine lv_aload_n hx hb dX13_takes_0 rfl (lv_at hl 0 rfl) ?_
  refine jcg_v (va_runV (As := []) (rest := []) ⟨hx, hb, hml, hown, hts⟩ (sX13_next l dC dI _ ad ca sK sV g a  hI (by omega)) (cwV 0 hts (jgoodV m_224 m_433 m_434 m_503 m_184) rfl rfl rfl (by decide +kernel) ⟨(Nat.le_of_ble_eq_true rfl), (Nat.le_of_ble_eq_true rfl)⟩) ⟨mP_blind, va_recv hK hP (ci := 13) (q0 := 0) rfl rfl, fun U hU hW => ⟨rfl, mP_of hU hW hP hK hD hXs hS (fun _ h => h) hA⟩⟩ rfl rfl hl.1 rfl (lv_room (Nat.le_of_ble_eq_true rfl)) dX13_takes_1 ⟨(Nat.le_of_ble_eq_true rfl), (Nat.le_of_ble_eq_true rfl)⟩) hD hS hA (fun u_10 H locs w_2 hP hK hD hS => ?_)
  obtain ⟨g_8, a_9⟩ := u_10
  obtain ⟨hI, hfr_11, hfr_12, h_4, h_5, h_6, h_7⟩ := w_2
  have hP : va_P (dC, dI) vwCl (mG ad ca g_8 a_9) H := hP
  have hD : va_D A (mG ad ca g_8 a_9) := hD
  have hfA : ∀ j, j ∉ ([2, 3, 4, 5] : List Nat) → g_8 j = g j := fun j h => (hfr_11 j (fun q => h (by first | exact q | (simp only [List.mem_cons, List.not_mem_nil, or_false] at q ⊢ <;> omega)))).trans (hfA j h)
  have b_14 : g_8 1 = g 1 := hfA 1 (by decide)
  have haA : ∀ j, j ∉ ([] : List Nat) → a_9 j = a j := fun j h => (hfr_12 j (fun q => h (by first | exact q | (simp only [List.mem_cons, List.not_mem_nil, or_false] at q ⊢ <;> omega)))).trans (haA j h)
  have h_4 : g 2 ≤ g_8 2 := h_4
  have h_5 : g_8 2 ≤ g 1 := h_5
  have h_6 : g_8 3 = 0 ∨ g 2 + 1 ≤ g_8 2 := h_6
  have h_7 : g_8 4 ≤ g_8 2 := h_7
  have b_15 : g_8 1 = g 1 := hfr_11 1 (by decide)
  have b_16 : 0 ≤ g_8 1 ∧ g_8 1 ≤ 600 := hI.1 1
  have b_17 : 0 ≤ g_8 2 ∧ g_8 2 ≤ 600 := hI.1 2
  refine lv_iconst (v := iI 1) hx hb dX13_takes_4 rfl ?_
  rw [← hQ]
  exact W.zret (v := iI 1) (ty := .boolean) hx hb hr (nb_bool (by omega) (by omega)) (fun t ht hW => ⟨⟨iI 1, (g_8, a_9), rfl, ⟨1, rfl, hI, hfA, haA, by omega, by omega, by show g 2 ≤ g_8 2; omega, by show g_8 2 ≤ g 1; omega, by show g_8 3 = 0 ∨ g 2 + 1 ≤ g_8 2; omega, by show g_8 4 ≤ g_8 2; omega⟩, by rw [ht]; exact hP, va_K.moved hW.alike hK, hD⟩, hS.F ht⟩) hS.2.2 dX13_takes_5
set_option maxHeartbeats 2000000 in
set_option maxRecDepth 100000 in
theorem sX13_deeper (l : Launch) (dC : Nat → ClassId) (dI : Nat → Nat → Nat) (sz : Nat) (ad : Nat → Nat) (ca : Nat → ClassId) (g : Nat → Int) (a : Nat → Int → Int) (hI : mI g a) (k1 : g 7 < 1200) (k2 : 0 ≤ g 8) (k3 : g 8 ≤ 8) : Met l yX13_deeper (jk yX13_deeper cX13_deeper 1 (some .boolean)) ({ frames := 1, cells := 0, slots := 0, locals := 21 }) (va_Pc [.ref (ad 0)] (jw_P (dC, dI) (mG ad ca g a) (mT ca) sz)) (va_Qi (fun (r : Int32) (u : (Nat → Int) × (Nat → Int → Int)) => ∃ z : Int, r = iI z ∧ (mI u.1 u.2) ∧ (∀ j, j ∉ ([7, 8] : List Nat) → u.1 j = g j) ∧ (∀ j, j ∉ ([2] : List Nat) → u.2 j = a j) ∧ (0 ≤ z ∧ z ≤ 1) ∧ ((z = 0 ∧ u.1 7 = g 7 ∧ u.1 8 = g 8) ∨ (z = 1 ∧ g 8 ≠ 8 ∧ u.1 7 = g 7 + 1 ∧ u.1 8 = g 8 + 1)) ∧ (z = 0 ∨ u.2 2 = up (a 2) (g 7) 12)) (fun u t => va_P (dC, dI) vwCl (mG ad ca u.1 u.2) t.heap ∧ va_K (dC, dI) vwCl (mT ca) t ∧ va_D (va_A (mG ad ca g a) sz) (mG ad ca u.1 u.2)) (va_A (mG ad ca g a) sz)) 0 0 (va_A (mG ad ca g a) sz) := by
  refine Met.ofW (cc := cX13_deeper) (maxL := 1) (ret := (some .boolean)) (by decide) rfl ?_
  intro p e s m args below meth c s₁ B hml hv
  obtain ⟨rfl, hsz, hP, hK, hD0⟩ := hv
  have hx := B.exec
  have hb := B.bytes
  have hr := B.returns
  have hts := atoms_spec (ws := (jk yX13_deeper cX13_deeper 1 (some .boolean))) B.pre
  have hj : ∀ w ∈ jw, w.before ([.ref (ad 0)] : List Value).toArray s = true := fun w h => hts w (jm h)
  have hown : s.vm.findClass RX13 = some m.cls := findClass_of_methodNamed B.named
  subst hsz
  have hD := hD0.self (sz := s.heap.size)
  generalize hAe : (va_A (mG ad ca g a) s.heap.size) = A at hD ⊢
  have hA : ∀ q : Nat, s.heap.size ≤ q → A q := fun q h => by rw [← hAe]; exact Or.inr h
  have hS : va_S A s.heap s.heap [] := va_S.rf
  have hP : va_P (dC, dI) vwCl (mG ad ca g a) s.heap := hP
  have hfA : ∀ j, j ∉ ([7, 8] : List Nat) → g j = g j := fun _ _ => rfl
  have haA : ∀ j, j ∉ ([2] : List Nat) → a j = a j := fun _ _ => rfl
  have hl := lv_entry ([.ref (ad 0)]) (n := 1) (Nat.le_of_ble_eq_true rfl)
  rw [lg_entry_eq]
  generalize (lg_sl ([.ref (ad 0)]) ++ List.replicate (1 - (lg_sl ([.ref (ad 0)])).length) Slot.unset).toArray = ls at hl ⊢
  have hl : lv_has ls 1 [(0, .ref (ad 0))] := hl
  generalize hQ : MQ below (va_Qi (fun (r : Int32) (u : (Nat → Int) × (Nat → Int → Int)) => ∃ z : Int, r = iI z ∧ (mI u.1 u.2) ∧ (∀ j, j ∉ ([7, 8] : List Nat) → u.1 j = g j) ∧ (∀ j, j ∉ ([2] : List Nat) → u.2 j = a j) ∧ (0 ≤ z ∧ z ≤ 1) ∧ ((z = 0 ∧ u.1 7 = g 7 ∧ u.1 8 = g 8) ∨ (z = 1 ∧ g 8 ≠ 8 ∧ u.1 7 = g 7 + 1 ∧ u.1 8 = g 8 + 1)) ∧ (z = 0 ∨ u.2 2 = up (a 2) (g 7) 12)) (fun u t => va_P (dC, dI) vwCl (mG ad ca u.1 u.2) t.heap ∧ va_K (dC, dI) vwCl (mT ca) t ∧ va_D A (mG ad ca u.1 u.2)) A) ([.ref (ad 0)] : List Value).toArray s 0 0 A = Q
  suffices ST : ∀ (H : Heap) (locs : List Loc), va_P (dC, dI) vwCl (mG ad ca g a) H → va_S A s.heap H locs → W p l e ({ frames := 1, cells := 0, slots := 0, locals := 21 }) s m ([.ref (ad 0)] : List Value).toArray below meth c H locs 0 0 Q (F0 m 0 ls []) from ST _ _ hP hS
  clear hP hS
  intro H locs hP hS
  refine lv_aload_n hx hb dX13_deeper_0 rfl (lv_at hl 0 rfl) ?_
  refine gf_deep hx hb hj hown hK hP hI dX13_deeper_1 (fun h_1 => ?_)
  refine lv_bipush (v := iI 8) hx hb dX13_deeper_4 rfl ?_
  refine xr_icmp_ne (tgt := 11) hx hb dX13_deeper_6 (by decide) (by omega) (by omega) (fun h_2 => ?_) (fun h_2 => ?_)
  · refine lv_aload_n hx hb dX13_deeper_11 rfl (lv_at hl 0 rfl) ?_
    refine lv_dup hx hb dX13_deeper_12 rfl ?_
    refine gf_deep hx hb hj hown hK hP hI dX13_deeper_13 (fun h_3 => ?_)
    refine lv_iconst (v := iI 1) hx hb dX13_deeper_16 rfl ?_
    refine xr_add hx hb dX13_deeper_17 ?_
    refine xr_kept (fun z_4 h_5 h_6 => ?_)
    refine pa_deep hx hb hj hown hK hP hD hS hI dX13_deeper_18 (fun g_7 z_10 H locs h_11 h_12 e_8 e_9 hI hP hD hS => ?_)
    have hfA : ∀ j, j ∉ ([7, 8] : List Nat) → g_7 j = g j := fun j h => (e_8 j (fun q => h (q ▸ (by decide : 8 ∈ ([7, 8] : List Nat))))).trans (hfA j h)
    have b_13 := e_8 7 (by decide)
    have b_14 := e_8 7 (by decide)
    refine lv_aload_n hx hb dX13_deeper_21 rfl (lv_at hl 0 rfl) ?_
    refine lv_bipush (v := iI 12) hx hb dX13_deeper_22 rfl ?_
    refine jcg_v (va_runV (As := [.int (iI 12)]) (rest := []) ⟨hx, hb, hml, hown, hts⟩ (sX13_push l dC dI _ ad ca g_7 a 12 hI (by omega) (by omega)) (cwV 1 hts (jgoodV m_225 m_452 m_453 m_503 m_194) rfl rfl rfl (by decide +kernel) ⟨(Nat.le_of_ble_eq_true rfl), (Nat.le_of_ble_eq_true rfl)⟩) ⟨jw_blind, va_recv hK hP (ci := 13) (q0 := 0) rfl rfl, fun U hU hW => ⟨rfl, jw_of hU hW hP hK hD⟩⟩ rfl rfl hl.1 rfl (lv_room (Nat.le_of_ble_eq_true rfl)) dX13_deeper_24 ⟨(Nat.le_of_ble_eq_true rfl), (Nat.le_of_ble_eq_true rfl)⟩) hD hS hA (fun u_22 H locs w_16 hP hK hD hS => ?_)
    obtain ⟨g_20, a_21⟩ := u_22
    obtain ⟨hI, hfr_23, hfr_24, h_18, h_19⟩ := w_16
    have hP : va_P (dC, dI) vwCl (mG ad ca g_20 a_21) H := hP
    have hD : va_D A (mG ad ca g_20 a_21) := hD
    have hfA : ∀ j, j ∉ ([7, 8] : List Nat) → g_20 j = g j := fun j h => (hfr_23 j (fun q => h (by first | exact q | (simp only [List.mem_cons, List.not_mem_nil, or_false] at q ⊢ <;> omega)))).trans (hfA j h)
    have b_26 := hfr_23 8 (by decide)
    have haA : ∀ j, j ∉ ([2] : List Nat) → a_21 j = a j := fun j h => (hfr_24 j (fun q => h (by first | exact q | (simp only [List.mem_cons, List.not_mem_nil, or_false] at q ⊢ <;> omega)))).trans (haA j h)
    have h_18 : g_20 7 = g_7 7 + 1 := h_18
    have h_19 : a_21 2 = up (a 2) (g_7 7) 12 := h_19
    have b_27 : g_20 8 = g_7 8 := hfr_23 8 (by decide)
    have t_28 : a_21 2 = up (a 2) (g 7) 12 := h_19.trans (up_c rfl (by omega) (by omega))
    have b_29 : 0 ≤ g_20 7 ∧ g_20 7 ≤ 1200 := hI.1 7
    refine lv_iconst (v := iI 1) hx hb dX13_deeper_27 rfl ?_
    rw [← hQ]
    exact W.zret (v := iI 1) (ty := .boolean) hx hb hr (nb_bool (by omega) (by omega)) (fun t ht hW => ⟨⟨iI 1, (g_20, a_21), rfl, ⟨1, rfl, hI, hfA, haA, by omega, by show (1 = 0 ∧ g_20 7 = g 7 ∧ g_20 8 = g 8) ∨ (1 = 1 ∧ g 8 ≠ 8 ∧ g_20 7 = g 7 + 1 ∧ g_20 8 = g 8 + 1); omega, by show 1 = 0 ∨ a_21 2 = up (a 2) (g 7) 12; first | exact Or.inl rfl | exact Or.inr t_28⟩, by rw [ht]; exact hP, va_K.moved hW.alike hK, hD⟩, hS.F ht⟩) hS.2.2 dX13_deeper_28
  · refine lv_iconst (v := iI 0) hx hb dX13_deeper_9 rfl ?_
    rw [← hQ]
    exact W.zret (v := iI 0) (ty := .boolean) hx hb hr (nb_bool (by omega) (by omega)) (fun t ht hW => ⟨⟨iI 0, (g, a), rfl, ⟨0, rfl, hI, hfA, haA, by omega, by show (0 = 0 ∧ g 7 = g 7 ∧ g 8 = g 8) ∨ (0 = 1 ∧ g 8 ≠ 8 ∧ g 7 = g 7 + 1 ∧ g 8 = g 8 + 1); omega, by show 0 = 0 ∨ a 2 = up (a 2) (g 7) 12; first | exact Or.inl rfl | exact Or.inr rfl⟩, by rw [ht]; exact hP, va_K.moved hW.alike hK, hD⟩, hS.F ht⟩) hS.2.2 dX13_deeper_10
set_option maxHeartbeats 2000000 in
set_option maxRecDepth 100000 in
theorem sX13_both (l : Launch) (dC : Nat → ClassId) (dI : Nat → Nat → Nat) (sz : Nat) (ad : Nat → Nat) (ca : Nat → ClassId) (g : Nat → Int) (a : Nat → Int → Int) (p1 : Int) (p2 : Int) (hI : mI g a) (q1 : rg p1) (q2 : rg p2) (k1 : g 7 < 1199) : Met l yX13_both (jk yX13_both cX13_both 3 (some .boolean)) ({ frames := 1, cells := 0, slots := 0, locals := 21 }) (va_Pc [.ref (ad 0), .int (iI p1), .int (iI p2)] (jw_P (dC, dI) (mG ad ca g a) (mT ca) sz)) (va_Qi (fun (r : Int32) (u : (Nat → Int) × (Nat → Int → Int)) => ∃ z : Int, r = iI z ∧ (mI u.1 u.2) ∧ (∀ j, j ∉ ([7] : List Nat) → u.1 j = g j) ∧ (∀ j, j ∉ ([2] : List Nat) → u.2 j = a j) ∧ (0 ≤ z ∧ z ≤ 1) ∧ (u.1 7 = g 7 + 2) ∧ (u.2 2 = up (up (a 2) (g 7) p1) (g 7 + 1) p2) ∧ (z = 1)) (fun u t => va_P (dC, dI) vwCl (mG ad ca u.1 u.2) t.heap ∧ va_K (dC, dI) vwCl (mT ca) t ∧ va_D (va_A (mG ad ca g a) sz) (mG ad ca u.1 u.2)) (va_A (mG ad ca g a) sz)) 0 0 (va_A (mG ad ca g a) sz) := by
  refine Met.ofW (cc := cX13_both) (maxL := 3) (ret := (some .boolean)) (by decide) rfl ?_
  intro p e s m args below meth c s₁ B hml hv
  obtain ⟨rfl, hsz, hP, hK, hD0⟩ := hv
  have hx := B.exec
  have hb := B.bytes
  have hr := B.returns
  have hts := atoms_spec (ws := (jk yX13_both cX13_both 3 (some .boolean))) B.pre
  have hj : ∀ w ∈ jw, w.before ([.ref (ad 0), .int (iI p1), .int (iI p2)] : List Value).toArray s = true := fun w h => hts w (jm h)
  have hown : s.vm.findClass RX13 = some m.cls := findClass_of_methodNamed B.named
  subst hsz
  have hD := hD0.self (sz := s.heap.size)
  generalize hAe : (va_A (mG ad ca g a) s.heap.size) = A at hD ⊢
  have hA : ∀ q : Nat, s.heap.size ≤ q → A q := fun q h => by rw [← hAe]; exact Or.inr h
  have hS : va_S A s.heap s.heap [] := va_S.rf
  have hP : va_P (dC, dI) vwCl (mG ad ca g a) s.heap := hP
  have hfA : ∀ j, j ∉ ([7] : List Nat) → g j = g j := fun _ _ => rfl
  have haA : ∀ j, j ∉ ([2] : List Nat) → a j = a j := fun _ _ => rfl
  have hl := lv_entry ([.ref (ad 0), .int (iI p1), .int (iI p2)]) (n := 3) (Nat.le_of_ble_eq_true rfl)
  rw [lg_entry_eq]
  generalize (lg_sl ([.ref (ad 0), .int (iI p1), .int (iI p2)]) ++ List.replicate (3 - (lg_sl ([.ref (ad 0), .int (iI p1), .int (iI p2)])).length) Slot.unset).toArray = ls at hl ⊢
  have hl : lv_has ls 3 [(0, .ref (ad 0)), (1, .int (iI p1)), (2, .int (iI p2))] := hl
  generalize hQ : MQ below (va_Qi (fun (r : Int32) (u : (Nat → Int) × (Nat → Int → Int)) => ∃ z : Int, r = iI z ∧ (mI u.1 u.2) ∧ (∀ j, j ∉ ([7] : List Nat) → u.1 j = g j) ∧ (∀ j, j ∉ ([2] : List Nat) → u.2 j = a j) ∧ (0 ≤ z ∧ z ≤ 1) ∧ (u.1 7 = g 7 + 2) ∧ (u.2 2 = up (up (a 2) (g 7) p1) (g 7 + 1) p2) ∧ (z = 1)) (fun u t => va_P (dC, dI) vwCl (mG ad ca u.1 u.2) t.heap ∧ va_K (dC, dI) vwCl (mT ca) t ∧ va_D A (mG ad ca u.1 u.2)) A) ([.ref (ad 0), .int (iI p1), .int (iI p2)] : List Value).toArray s 0 0 A = Q
  suffices ST : ∀ (H : Heap) (locs : List Loc), va_P (dC, dI) vwCl (mG ad ca g a) H → va_S A s.heap H locs → W p l e ({ frames := 1, cells := 0, slots := 0, locals := 21 }) s m ([.ref (ad 0), .int (iI p1), .int (iI p2)] : List Value).toArray below meth c H locs 0 0 Q (F0 m 0 ls []) from ST _ _ hP hS
  clear hP hS
  intro H locs hP hS
  refine lv_aload_n hx hb dX13_both_0 rfl (lv_at hl 0 rfl) ?_
  refine lv_iload_n hx hb dX13_both_1 rfl (lv_at hl 1 rfl) ?_
  refine jcg_v (va_runV (As := [.int (iI p1)]) (rest := []) ⟨hx, hb, hml, hown, hts⟩ (sX13_push l dC dI _ ad ca g a p1 hI (by omega) (by omega)) (cwV 1 hts (jgoodV m_225 m_452 m_453 m_503 m_194) rfl rfl rfl (by decide +kernel) ⟨(Nat.le_of_ble_eq_true rfl), (Nat.le_of_ble_eq_true rfl)⟩) ⟨jw_blind, va_recv hK hP (ci := 13) (q0 := 0) rfl rfl, fun U hU hW => ⟨rfl, jw_of hU hW hP hK hD⟩⟩ rfl rfl hl.1 rfl (lv_room (Nat.le_of_ble_eq_true rfl)) dX13_both_2 ⟨(Nat.le_of_ble_eq_true rfl), (Nat.le_of_ble_eq_true rfl)⟩) hD hS hA (fun u_8 H locs w_2 hP hK hD hS => ?_)
  obtain ⟨g_6, a_7⟩ := u_8
  obtain ⟨hI, hfr_9, hfr_10, h_4, h_5⟩ := w_2
  have hP : va_P (dC, dI) vwCl (mG ad ca g_6 a_7) H := hP
  have hD : va_D A (mG ad ca g_6 a_7) := hD
  have hfA : ∀ j, j ∉ ([7] : List Nat) → g_6 j = g j := fun j h => (hfr_9 j (fun q => h (by first | exact q | (simp only [List.mem_cons, List.not_mem_nil, or_false] at q ⊢ <;> omega)))).trans (hfA j h)
  have haA : ∀ j, j ∉ ([2] : List Nat) → a_7 j = a j := fun j h => (hfr_10 j (fun q => h (by first | exact q | (simp only [List.mem_cons, List.not_mem_nil, or_false] at q ⊢ <;> omega)))).trans (haA j h)
  have h_4 : g_6 7 = g 7 + 1 := h_4
  have h_5 : a_7 2 = up (a 2) (g 7) p1 := h_5
  have t_12 : a_7 2 = up (a 2) (g 7) p1 := h_5.trans (up_c rfl (by omega) (by omega))
  have b_13 : 0 ≤ g_6 7 ∧ g_6 7 ≤ 1200 := hI.1 7
  refine lv_aload_n hx hb dX13_both_5 rfl (lv_at hl 0 rfl) ?_
  refine lv_iload_n hx hb dX13_both_6 rfl (lv_at hl 2 rfl) ?_
  refine jcg_v (va_runV (As := [.int (iI p2)]) (rest := []) ⟨hx, hb, hml, hown, hts⟩ (sX13_push l dC dI _ ad ca g_6 a_7 p2 hI (by omega) (by omega)) (cwV 1 hts (jgoodV m_225 m_452 m_453 m_503 m_194) rfl rfl rfl (by decide +kernel) ⟨(Nat.le_of_ble_eq_true rfl), (Nat.le_of_ble_eq_true rfl)⟩) ⟨jw_blind, va_recv hK hP (ci := 13) (q0 := 0) rfl rfl, fun U hU hW => ⟨rfl, jw_of hU hW hP hK hD⟩⟩ rfl rfl hl.1 rfl (lv_room (Nat.le_of_ble_eq_true rfl)) dX13_both_7 ⟨(Nat.le_of_ble_eq_true rfl), (Nat.le_of_ble_eq_true rfl)⟩) hD hS hA (fun u_21 H locs w_15 hP hK hD hS => ?_)
  obtain ⟨g_19, a_20⟩ := u_21
  obtain ⟨hI, hfr_22, hfr_23, h_17, h_18⟩ := w_15
  have hP : va_P (dC, dI) vwCl (mG ad ca g_19 a_20) H := hP
  have hD : va_D A (mG ad ca g_19 a_20) := hD
  have hfA : ∀ j, j ∉ ([7] : List Nat) → g_19 j = g j := fun j h => (hfr_22 j (fun q => h (by first | exact q | (simp only [List.mem_cons, List.not_mem_nil, or_false] at q ⊢ <;> omega)))).trans (hfA j h)
  have haA : ∀ j, j ∉ ([2] : List Nat) → a_20 j = a j := fun j h => (hfr_23 j (fun q => h (by first | exact q | (simp only [List.mem_cons, List.not_mem_nil, or_false] at q ⊢ <;> omega)))).trans (haA j h)
  have h_17 : g_19 7 = g_6 7 + 1 := h_17
  have h_18 : a_20 2 = up (a_7 2) (g_6 7) p2 := h_18
  have t_25 : a_20 2 = up (up (a 2) (g 7) p1) ((g 7 + 1)) p2 := h_18.trans (up_c t_12 (by omega) (by omega))
  have b_26 : 0 ≤ g_19 7 ∧ g_19 7 ≤ 1200 := hI.1 7
  refine lv_iconst (v := iI 1) hx hb dX13_both_10 rfl ?_
  rw [← hQ]
  exact W.zret (v := iI 1) (ty := .boolean) hx hb hr (nb_bool (by omega) (by omega)) (fun t ht hW => ⟨⟨iI 1, (g_19, a_20), rfl, ⟨1, rfl, hI, hfA, haA, by omega, by show g_19 7 = g 7 + 2; omega, by show a_20 2 = up (up (a 2) (g 7) p1) (g 7 + 1) p2; exact t_25, by omega⟩, by rw [ht]; exact hP, va_K.moved hW.alike hK, hD⟩, hS.F ht⟩) hS.2.2 dX13_both_11
set_option maxHeartbeats 2000000 in
set_option maxRecDepth 100000 in
theorem sX13_more (l : Launch) (dC : Nat → ClassId) (dI : Nat → Nat → Nat) (sz : Nat) (ad : Nat → Nat) (ca : Nat → ClassId) (sK sV : Nat → Nat) (g : Nat → Int) (a : Nat → Int → Int) (p1 : Int) (p2 : Int) (p3 : Int) (p4 : Int) (p5 : Int) (p6 : Int) (hI : mI g a) (q1 : rg p1) (q2 : rg p2) (q3 : rg p3) (q4 : rg p4) (q5 : rg p5) (q6 : rg p6) (k1 : (p1 = 43 ∧ p2 = 2 ∧ p3 = 45 ∧ p4 = 3 ∧ p5 = 2 ∧ p6 = 3 ∧ a 2 (g 7) = 2) ∨ (p1 = 42 ∧ p2 = 4 ∧ p3 = 47 ∧ p4 = 5 ∧ p5 = 4 ∧ p6 = 5 ∧ a 2 (g 7) = 4)) (hrP1 : rP1 g a) : Met l yX13_more (jk yX13_more cX13_more 8 (some .boolean)) ({ frames := 6, cells := 0, slots := 0, locals := 133 }) (va_Pc [.ref (ad 0), .int (iI p1), .int (iI p2), .int (iI p3), .int (iI p4), .int (iI p5), .int (iI p6)] (mP (dC, dI) (mG ad ca g a) (mT ca) sK sV sz)) (va_Qi (fun (r : Int32) (u : (Nat → Int) × (Nat → Int → Int)) => ∃ z : Int, r = iI z ∧ (mI u.1 u.2) ∧ (∀ j, j ∉ ([2, 3, 4, 5, 7] : List Nat) → u.1 j = g j) ∧ (∀ j, j ∉ ([2] : List Nat) → u.2 j = a j) ∧ (0 ≤ z ∧ z ≤ 1) ∧ (z = 0 ∨ (rPn u.1 u.2 (u.1 7) ∧ mz u.1 u.2 (u.1 7) < mz g a (g 7 + 1)))) (fun u t => va_P (dC, dI) vwCl (mG ad ca u.1 u.2) t.heap ∧ va_K (dC, dI) vwCl (mT ca) t ∧ va_D (va_A (mG ad ca g a) sz) (mG ad ca u.1 u.2)) (va_A (mG ad ca g a) sz)) 0 0 (va_A (mG ad ca g a) sz) := by
  refine Met.ofW (cc := cX13_more) (maxL := 8) (ret := (some .boolean)) (by decide) rfl ?_
  intro p e s m args below meth c s₁ B hml hv
  obtain ⟨rfl, ⟨hsz, hP, hK, hD0⟩, hX0⟩ := hv
  have hx := B.exec
  have hb := B.bytes
  have hr := B.returns
  have hts := atoms_spec (ws := (jk yX13_more cX13_more 8 (some .boolean))) B.pre
  have hj : ∀ w ∈ jw, w.before ([.ref (ad 0), .int (iI p1), .int (iI p2), .int (iI p3), .int (iI p4), .int (iI p5), .int (iI p6)] : List Value).toArray s = true := fun w h => hts w (jm h)
  have hown : s.vm.findClass RX13 = some m.cls := findClass_of_methodNamed B.named
  subst hsz
  have hD := hD0.self (sz := s.heap.size)
  have hXs := hX0
  generalize hAe : (va_A (mG ad ca g a) s.heap.size) = A at hD hXs ⊢
  have hA : ∀ q : Nat, s.heap.size ≤ q → A q := fun q h => by rw [← hAe]; exact Or.inr h
  have hS : va_S A s.heap s.heap [] := va_S.rf
  have hP : va_P (dC, dI) vwCl (mG ad ca g a) s.heap := hP
  have hfA : ∀ j, j ∉ ([2, 3, 4, 5, 7] : List Nat) → g j = g j := fun _ _ => rfl
  have haA : ∀ j, j ∉ ([2] : List Nat) → a j = a j := fun _ _ => rfl
  have hl := lv_entry ([.ref (ad 0), .int (iI p1), .int (iI p2), .int (iI p3), .int (iI p4), .int (iI p5), .int (iI p6)]) (n := 8) (Nat.le_of_ble_eq_true rfl)
  rw [lg_entry_eq]
  generalize (lg_sl ([.ref (ad 0), .int (iI p1), .int (iI p2), .int (iI p3), .int (iI p4), .int (iI p5), .int (iI p6)]) ++ List.replicate (8 - (lg_sl ([.ref (ad 0), .int (iI p1), .int (iI p2), .int (iI p3), .int (iI p4), .int (iI p5), .int (iI p6)])).length) Slot.unset).toArray = ls at hl ⊢
  have hl : lv_has ls 8 [(0, .ref (ad 0)), (1, .int (iI p1)), (2, .int (iI p2)), (3, .int (iI p3)), (4, .int (iI p4)), (5, .int (iI p5)), (6, .int (iI p6))] := hl
  generalize hQ : MQ below (va_Qi (fun (r : Int32) (u : (Nat → Int) × (Nat → Int → Int)) => ∃ z : Int, r = iI z ∧ (mI u.1 u.2) ∧ (∀ j, j ∉ ([2, 3, 4, 5, 7] : List Nat) → u.1 j = g j) ∧ (∀ j, j ∉ ([2] : List Nat) → u.2 j = a j) ∧ (0 ≤ z ∧ z ≤ 1) ∧ (z = 0 ∨ (rPn u.1 u.2 (u.1 7) ∧ mz u.1 u.2 (u.1 7) < mz g a (g 7 + 1)))) (fun u t => va_P (dC, dI) vwCl (mG ad ca u.1 u.2) t.heap ∧ va_K (dC, dI) vwCl (mT ca) t ∧ va_D A (mG ad ca u.1 u.2)) A) ([.ref (ad 0), .int (iI p1), .int (iI p2), .int (iI p3), .int (iI p4), .int (iI p5), .int (iI p6)] : List Value).toArray s 0 0 A = Q
  suffices ST : ∀ (H : Heap) (locs : List Loc), va_P (dC, dI) vwCl (mG ad ca g a) H → va_S A s.heap H locs → W p l e ({ frames := 6, cells := 0, slots := 0, locals := 133 }) s m ([.ref (ad 0), .int (iI p1), .int (iI p2), .int (iI p3), .int (iI p4), .int (iI p5), .int (iI p6)] : List Value).toArray below meth c H locs 0 0 Q (F0 m 0 ls []) from ST _ _ hP hS
  clear hP hS
  intro H locs hP hS
  obtain ⟨bb1, bb2, bb3, bb4, bb5, bb6⟩ := bd_1 hrP1
  have bb7 := tkk_b (g 3)
  have b7_0 : 0 ≤ g 7 ∧ g 7 ≤ 1200 := hI.1 7
  have b1_0 : 0 ≤ g 1 ∧ g 1 ≤ 600 := hI.1 1
  have b2_0 : 0 ≤ g 2 ∧ g 2 ≤ 600 := hI.1 2
  refine lv_aload_n hx hb dX13_more_0 rfl (lv_at hl 0 rfl) ?_
  refine lv_iload_n hx hb dX13_more_1 rfl (lv_at hl 1 rfl) ?_
  refine jc_i (va_runV (As := [.int (iI p1)]) (rest := []) ⟨hx, hb, hml, hown, hts⟩ (sX13_isSign l dC dI _ ad ca g a p1 hI (by omega)) (cwV 1 hts (jgoodV m_227 m_389 m_390 m_503 m_161) rfl rfl rfl (by decide +kernel) ⟨(Nat.le_of_ble_eq_true rfl), (Nat.le_of_ble_eq_true rfl)⟩) ⟨jw_blind, va_recv hK hP (ci := 13) (q0 := 0) rfl rfl, fun U hU hW => ⟨rfl, jw_of hU hW hP hK hD⟩⟩ rfl rfl hl.1 rfl (lv_room (Nat.le_of_ble_eq_true rfl)) dX13_more_2 ⟨(Nat.le_of_ble_eq_true rfl), (Nat.le_of_ble_eq_true rfl)⟩) hP hS hA (fun r_1 H locs w_2 hP hS => ?_)
  obtain ⟨z_3, rfl, h_4, h_5⟩ := w_2
  have b_6 : 0 ≤ g 3 ∧ g 3 ≤ 4 := hI.1 3
  refine lv_istore (lv' := [(7, .int (iI z_3)), (0, .ref (ad 0)), (1, .int (iI p1)), (2, .int (iI p2)), (3, .int (iI p3)), (4, .int (iI p4)), (5, .int (iI p5)), (6, .int (iI p6))]) hx hb dX13_more_5 hl (by decide) rfl (fun ls hl => ?_)
  refine lv_iload hx hb dX13_more_7 (lv_at hl 0 rfl) ?_
  have J22 : ∀ (H : Heap) (locs : List Loc) (ls : Array Slot), (g 3 = 3) → va_P (dC, dI) vwCl (mG ad ca g a) H → va_D A (mG ad ca g a) → va_S A s.heap H locs → lv_has ls 8 [(7, .int (iI z_3)), (0, .ref (ad 0)), (1, .int (iI p1)), (2, .int (iI p2)), (3, .int (iI p3)), (4, .int (iI p4)), (5, .int (iI p5)), (6, .int (iI p6))] → W p l e ({ frames := 6, cells := 0, slots := 0, locals := 133 }) s m ([.ref (ad 0), .int (iI p1), .int (iI p2), .int (iI p3), .int (iI p4), .int (iI p5), .int (iI p6)] : List Value).toArray below meth c H locs 0 0 Q (F0 m 22 ls []) := by
    intro H locs ls h_7 hP hD hS hl
    refine lv_aload_n hx hb dX13_more_22 rfl (lv_at hl 1 rfl) ?_
    refine jcg_v (va_runV (As := []) (rest := []) ⟨hx, hb, hml, hown, hts⟩ (sX13_next l dC dI _ ad ca sK sV g a  hI (by omega)) (cwV 0 hts (jgoodV m_224 m_433 m_434 m_503 m_184) rfl rfl rfl (by decide +kernel) ⟨(Nat.le_of_ble_eq_true rfl), (Nat.le_of_ble_eq_true rfl)⟩) ⟨mP_blind, va_recv hK hP (ci := 13) (q0 := 0) rfl rfl, fun U hU hW => ⟨rfl, mP_of hU hW hP hK hD hXs hS (fun _ h => h) hA⟩⟩ rfl rfl hl.1 rfl (lv_room (Nat.le_of_ble_eq_true rfl)) dX13_more_23 ⟨(Nat.le_of_ble_eq_true rfl), (Nat.le_of_ble_eq_true rfl)⟩) hD hS hA (fun u_17 H locs w_9 hP hK hD hS => ?_)
    obtain ⟨g_15, a_16⟩ := u_17
    obtain ⟨hI, hfr_18, hfr_19, h_11, h_12, h_13, h_14⟩ := w_9
    have hP : va_P (dC, dI) vwCl (mG ad ca g_15 a_16) H := hP
    have hD : va_D A (mG ad ca g_15 a_16) := hD
    have hfA : ∀ j, j ∉ ([2, 3, 4, 5, 7] : List Nat) → g_15 j = g j := fun j h => (hfr_18 j (fun q => h (by first | exact q | (simp only [List.mem_cons, List.not_mem_nil, or_false] at q ⊢ <;> omega)))).trans (hfA j h)
    have b_21 : g_15 1 = g 1 := hfA 1 (by decide)
    have b_22 : g_15 8 = g 8 := hfA 8 (by decide)
    have b_23 : g_15 9 = g 9 := hfA 9 (by decide)
    have b_24 : g_15 12 = g 12 := hfA 12 (by decide)
    have b_25 : g_15 15 = g 15 := hfA 15 (by decide)
    have b_26 := hfr_18 7 (by decide)
    have haA : ∀ j, j ∉ ([2] : List Nat) → a_16 j = a j := fun j h => (hfr_19 j (fun q => h (by first | exact q | (simp only [List.mem_cons, List.not_mem_nil, or_false] at q ⊢ <;> omega)))).trans (haA j h)
    have h_11 : g 2 ≤ g_15 2 := h_11
    have h_12 : g_15 2 ≤ g 1 := h_12
    have h_13 : g_15 3 = 0 ∨ g 2 + 1 ≤ g_15 2 := h_13
    have h_14 : g_15 4 ≤ g_15 2 := h_14
    have b_27 : g_15 1 = g 1 := hfr_18 1 (by decide)
    have b_28 : g_15 7 = g 7 := hfr_18 7 (by decide)
    have b_29 : g_15 8 = g 8 := hfr_18 8 (by decide)
    have b_30 : g_15 9 = g 9 := hfr_18 9 (by decide)
    have b_31 : g_15 12 = g 12 := hfr_18 12 (by decide)
    have b_32 : g_15 15 = g 15 := hfr_18 15 (by decide)
    have t_33 : a_16 2 = a 2 := (hfr_19 2 (by decide)).trans rfl
    have t_34 : a_16 3 = a 3 := (hfr_19 3 (by decide)).trans rfl
    have t_35 : a_16 4 = a 4 := (hfr_19 4 (by decide)).trans rfl
    have t_36 : a_16 5 = a 5 := (hfr_19 5 (by decide)).trans rfl
    have t_37 : a_16 6 = a 6 := (hfr_19 6 (by decide)).trans rfl
    have t_38 : a_16 7 = a 7 := (hfr_19 7 (by decide)).trans rfl
    have t_39 : a_16 8 = a 8 := (hfr_19 8 (by decide)).trans rfl
    have b_40 : 0 ≤ g_15 1 ∧ g_15 1 ≤ 600 := hI.1 1
    have b_41 : 0 ≤ g_15 2 ∧ g_15 2 ≤ 600 := hI.1 2
    refine lv_aload_n hx hb dX13_more_26 rfl (lv_at hl 1 rfl) ?_
    refine lv_iload hx hb dX13_more_27 (lv_at hl 6 rfl) ?_
    refine jcg_v (va_runV (As := [.int (iI p5)]) (rest := []) ⟨hx, hb, hml, hown, hts⟩ (sX13_push l dC dI _ ad ca g_15 a_16 p5 hI (by omega) (by omega)) (cwV 1 hts (jgoodV m_225 m_452 m_453 m_503 m_194) rfl rfl rfl (by decide +kernel) ⟨(Nat.le_of_ble_eq_true rfl), (Nat.le_of_ble_eq_true rfl)⟩) ⟨jw_blind, va_recv hK hP (ci := 13) (q0 := 0) rfl rfl, fun U hU hW => ⟨rfl, jw_of hU hW hP hK hD⟩⟩ rfl rfl hl.1 rfl (lv_room (Nat.le_of_ble_eq_true rfl)) dX13_more_29 ⟨(Nat.le_of_ble_eq_true rfl), (Nat.le_of_ble_eq_true rfl)⟩) hD hS hA (fun u_49 H locs w_43 hP hK hD hS => ?_)
    obtain ⟨g_47, a_48⟩ := u_49
    obtain ⟨hI, hfr_50, hfr_51, h_45, h_46⟩ := w_43
    have hP : va_P (dC, dI) vwCl (mG ad ca g_47 a_48) H := hP
    have hD : va_D A (mG ad ca g_47 a_48) := hD
    have hfA : ∀ j, j ∉ ([2, 3, 4, 5, 7] : List Nat) → g_47 j = g j := fun j h => (hfr_50 j (fun q => h (by first | exact q | (simp only [List.mem_cons, List.not_mem_nil, or_false] at q ⊢ <;> omega)))).trans (hfA j h)
    have b_53 : g_47 1 = g 1 := hfA 1 (by decide)
    have b_54 : g_47 8 = g 8 := hfA 8 (by decide)
    have b_55 : g_47 9 = g 9 := hfA 9 (by decide)
    have b_56 : g_47 12 = g 12 := hfA 12 (by decide)
    have b_57 : g_47 15 = g 15 := hfA 15 (by decide)
    have b_58 := hfr_50 2 (by decide)
    have b_59 := hfr_50 3 (by decide)
    have haA : ∀ j, j ∉ ([2] : List Nat) → a_48 j = a j := fun j h => (hfr_51 j (fun q => h (by first | exact q | (simp only [List.mem_cons, List.not_mem_nil, or_false] at q ⊢ <;> omega)))).trans (haA j h)
    have h_45 : g_47 7 = g_15 7 + 1 := h_45
    have h_46 : a_48 2 = up (a_16 2) (g_15 7) p5 := h_46
    have b_60 : g_47 1 = g_15 1 := hfr_50 1 (by decide)
    have b_61 : g_47 2 = g_15 2 := hfr_50 2 (by decide)
    have b_62 : g_47 3 = g_15 3 := hfr_50 3 (by decide)
    have b_63 : g_47 4 = g_15 4 := hfr_50 4 (by decide)
    have b_64 : g_47 8 = g_15 8 := hfr_50 8 (by decide)
    have b_65 : g_47 9 = g_15 9 := hfr_50 9 (by decide)
    have b_66 : g_47 12 = g_15 12 := hfr_50 12 (by decide)
    have b_67 : g_47 15 = g_15 15 := hfr_50 15 (by decide)
    have t_68 : a_48 2 = up (a 2) (g 7) p5 := h_46.trans (up_c t_33 (by omega) (by omega))
    have t_69 : a_48 3 = a 3 := (hfr_51 3 (by decide)).trans t_34
    have t_70 : a_48 4 = a 4 := (hfr_51 4 (by decide)).trans t_35
    have t_71 : a_48 5 = a 5 := (hfr_51 5 (by decide)).trans t_36
    have t_72 : a_48 6 = a 6 := (hfr_51 6 (by decide)).trans t_37
    have t_73 : a_48 7 = a 7 := (hfr_51 7 (by decide)).trans t_38
    have t_74 : a_48 8 = a 8 := (hfr_51 8 (by decide)).trans t_39
    have b_75 : 0 ≤ g_47 7 ∧ g_47 7 ≤ 1200 := hI.1 7
    refine lv_aload_n hx hb dX13_more_32 rfl (lv_at hl 1 rfl) ?_
    refine lv_sipush (v := iI 1000) hx hb dX13_more_33 rfl ?_
    refine lv_iload hx hb dX13_more_36 (lv_at hl 0 rfl) ?_
    have J47 : ∀ (s0_47 : Int) (H : Heap) (locs : List Loc) (ls : Array Slot), ((-2147483648) ≤ s0_47 ∧ s0_47 ≤ 2147483647) → (2 ≤ s0_47 ∧ s0_47 ≤ 10) → va_P (dC, dI) vwCl (mG ad ca g_47 a_48) H → va_D A (mG ad ca g_47 a_48) → va_S A s.heap H locs → lv_has ls 8 [(7, .int (iI z_3)), (0, .ref (ad 0)), (1, .int (iI p1)), (2, .int (iI p2)), (3, .int (iI p3)), (4, .int (iI p4)), (5, .int (iI p5)), (6, .int (iI p6))] → W p l e ({ frames := 6, cells := 0, slots := 0, locals := 133 }) s m ([.ref (ad 0), .int (iI p1), .int (iI p2), .int (iI p3), .int (iI p4), .int (iI p5), .int (iI p6)] : List Value).toArray below meth c H locs 0 0 Q (F0 m 47 ls [.int (iI s0_47), .int (iI 1000), .ref (ad 0)]) := by
      intro s0_47 H locs ls h_76 h_77 hP hD hS hl
      refine xr_add hx hb dX13_more_47 ?_
      refine xr_kept (fun z_78 h_79 h_80 => ?_)
      refine jcg_v (va_runV (As := [.int (iI z_78)]) (rest := []) ⟨hx, hb, hml, hown, hts⟩ (sX13_push l dC dI _ ad ca g_47 a_48 z_78 hI (by omega) (by omega)) (cwV 1 hts (jgoodV m_225 m_452 m_453 m_503 m_194) rfl rfl rfl (by decide +kernel) ⟨(Nat.le_of_ble_eq_true rfl), (Nat.le_of_ble_eq_true rfl)⟩) ⟨jw_blind, va_recv hK hP (ci := 13) (q0 := 0) rfl rfl, fun U hU hW => ⟨rfl, jw_of hU hW hP hK hD⟩⟩ rfl rfl hl.1 rfl (lv_room (Nat.le_of_ble_eq_true rfl)) dX13_more_48 ⟨(Nat.le_of_ble_eq_true rfl), (Nat.le_of_ble_eq_true rfl)⟩) hD hS hA (fun u_88 H locs w_82 hP hK hD hS => ?_)
      obtain ⟨g_86, a_87⟩ := u_88
      obtain ⟨hI, hfr_89, hfr_90, h_84, h_85⟩ := w_82
      have hP : va_P (dC, dI) vwCl (mG ad ca g_86 a_87) H := hP
      have hD : va_D A (mG ad ca g_86 a_87) := hD
      have hfA : ∀ j, j ∉ ([2, 3, 4, 5, 7] : List Nat) → g_86 j = g j := fun j h => (hfr_89 j (fun q => h (by first | exact q | (simp only [List.mem_cons, List.not_mem_nil, or_false] at q ⊢ <;> omega)))).trans (hfA j h)
      have b_92 : g_86 1 = g 1 := hfA 1 (by decide)
      have b_93 : g_86 8 = g 8 := hfA 8 (by decide)
      have b_94 : g_86 9 = g 9 := hfA 9 (by decide)
      have b_95 : g_86 12 = g 12 := hfA 12 (by decide)
      have b_96 : g_86 15 = g 15 := hfA 15 (by decide)
      have b_97 := hfr_89 2 (by decide)
      have b_98 := hfr_89 3 (by decide)
      have haA : ∀ j, j ∉ ([2] : List Nat) → a_87 j = a j := fun j h => (hfr_90 j (fun q => h (by first | exact q | (simp only [List.mem_cons, List.not_mem_nil, or_false] at q ⊢ <;> omega)))).trans (haA j h)
      have h_84 : g_86 7 = g_47 7 + 1 := h_84
      have h_85 : a_87 2 = up (a_48 2) (g_47 7) z_78 := h_85
      have b_99 : g_86 1 = g_47 1 := hfr_89 1 (by decide)
      have b_100 : g_86 2 = g_47 2 := hfr_89 2 (by decide)
      have b_101 : g_86 3 = g_47 3 := hfr_89 3 (by decide)
      have b_102 : g_86 4 = g_47 4 := hfr_89 4 (by decide)
      have b_103 : g_86 8 = g_47 8 := hfr_89 8 (by decide)
      have b_104 : g_86 9 = g_47 9 := hfr_89 9 (by decide)
      have b_105 : g_86 12 = g_47 12 := hfr_89 12 (by decide)
      have b_106 : g_86 15 = g_47 15 := hfr_89 15 (by decide)
      have t_107 : a_87 2 = up (up (a 2) (g 7) p5) ((g 7 + 1)) z_78 := h_85.trans (up_c t_68 (by omega) (by omega))
      have t_108 : a_87 3 = a 3 := (hfr_90 3 (by decide)).trans t_69
      have t_109 : a_87 4 = a 4 := (hfr_90 4 (by decide)).trans t_70
      have t_110 : a_87 5 = a 5 := (hfr_90 5 (by decide)).trans t_71
      have t_111 : a_87 6 = a 6 := (hfr_90 6 (by decide)).trans t_72
      have t_112 : a_87 7 = a 7 := (hfr_90 7 (by decide)).trans t_73
      have t_113 : a_87 8 = a 8 := (hfr_90 8 (by decide)).trans t_74
      have b_114 : 0 ≤ g_86 7 ∧ g_86 7 ≤ 1200 := hI.1 7
      refine lv_aload_n hx hb dX13_more_51 rfl (lv_at hl 1 rfl) ?_
      refine lv_iload hx hb dX13_more_52 (lv_at hl 7 rfl) ?_
      refine jcg_v (va_runV (As := [.int (iI p6)]) (rest := []) ⟨hx, hb, hml, hown, hts⟩ (sX13_push l dC dI _ ad ca g_86 a_87 p6 hI (by omega) (by omega)) (cwV 1 hts (jgoodV m_225 m_452 m_453 m_503 m_194) rfl rfl rfl (by decide +kernel) ⟨(Nat.le_of_ble_eq_true rfl), (Nat.le_of_ble_eq_true rfl)⟩) ⟨jw_blind, va_recv hK hP (ci := 13) (q0 := 0) rfl rfl, fun U hU hW => ⟨rfl, jw_of hU hW hP hK hD⟩⟩ rfl rfl hl.1 rfl (lv_room (Nat.le_of_ble_eq_true rfl)) dX13_more_54 ⟨(Nat.le_of_ble_eq_true rfl), (Nat.le_of_ble_eq_true rfl)⟩) hD hS hA (fun u_122 H locs w_116 hP hK hD hS => ?_)
      obtain ⟨g_120, a_121⟩ := u_122
      obtain ⟨hI, hfr_123, hfr_124, h_118, h_119⟩ := w_116
      have hP : va_P (dC, dI) vwCl (mG ad ca g_120 a_121) H := hP
      have hD : va_D A (mG ad ca g_120 a_121) := hD
      have hfA : ∀ j, j ∉ ([2, 3, 4, 5, 7] : List Nat) → g_120 j = g j := fun j h => (hfr_123 j (fun q => h (by first | exact q | (simp only [List.mem_cons, List.not_mem_nil, or_false] at q ⊢ <;> omega)))).trans (hfA j h)
      have b_126 : g_120 1 = g 1 := hfA 1 (by decide)
      have b_127 : g_120 8 = g 8 := hfA 8 (by decide)
      have b_128 : g_120 9 = g 9 := hfA 9 (by decide)
      have b_129 : g_120 12 = g 12 := hfA 12 (by decide)
      have b_130 : g_120 15 = g 15 := hfA 15 (by decide)
      have b_131 := hfr_123 2 (by decide)
      have b_132 := hfr_123 3 (by decide)
      have haA : ∀ j, j ∉ ([2] : List Nat) → a_121 j = a j := fun j h => (hfr_124 j (fun q => h (by first | exact q | (simp only [List.mem_cons, List.not_mem_nil, or_false] at q ⊢ <;> omega)))).trans (haA j h)
      have h_118 : g_120 7 = g_86 7 + 1 := h_118
      have h_119 : a_121 2 = up (a_87 2) (g_86 7) p6 := h_119
      have b_133 : g_120 1 = g_86 1 := hfr_123 1 (by decide)
      have b_134 : g_120 2 = g_86 2 := hfr_123 2 (by decide)
      have b_135 : g_120 3 = g_86 3 := hfr_123 3 (by decide)
      have b_136 : g_120 4 = g_86 4 := hfr_123 4 (by decide)
      have b_137 : g_120 8 = g_86 8 := hfr_123 8 (by decide)
      have b_138 : g_120 9 = g_86 9 := hfr_123 9 (by decide)
      have b_139 : g_120 12 = g_86 12 := hfr_123 12 (by decide)
      have b_140 : g_120 15 = g_86 15 := hfr_123 15 (by decide)
      have t_141 : a_121 2 = up (up (up (a 2) (g 7) p5) ((g 7 + 1)) z_78) (((g 7 + 1) + 1)) p6 := h_119.trans (up_c t_107 (by omega) (by omega))
      have t_142 : a_121 3 = a 3 := (hfr_124 3 (by decide)).trans t_108
      have t_143 : a_121 4 = a 4 := (hfr_124 4 (by decide)).trans t_109
      have t_144 : a_121 5 = a 5 := (hfr_124 5 (by decide)).trans t_110
      have t_145 : a_121 6 = a 6 := (hfr_124 6 (by decide)).trans t_111
      have t_146 : a_121 7 = a 7 := (hfr_124 7 (by decide)).trans t_112
      have t_147 : a_121 8 = a 8 := (hfr_124 8 (by decide)).trans t_113
      have b_148 : 0 ≤ g_120 7 ∧ g_120 7 ≤ 1200 := hI.1 7
      refine lv_iconst (v := iI 1) hx hb dX13_more_57 rfl ?_
      rw [← hQ]
      exact W.zret (v := iI 1) (ty := .boolean) hx hb hr (nb_bool (by omega) (by omega)) (fun t ht hW => ⟨⟨iI 1, (g_120, a_121), rfl, ⟨1, rfl, hI, hfA, haA, by omega, by show 1 = 0 ∨ (rPn g_120 a_121 (g_120 7) ∧ mz g_120 a_121 (g_120 7) < mz g a (g 7 + 1)); first | exact Or.inl rfl | (rcases k1 with ⟨-, -, -, -, -, -, q⟩ | ⟨-, -, -, -, -, -, q⟩; exact Or.inr (st_2n hrP1 (by omega) q ⟨by omega, by omega, by omega, by omega, t_142, t_143, t_144, t_145, t_146, t_147⟩ (by omega) (by omega) (by omega) (by omega) (by omega) t_141); exact Or.inr (st_4n hrP1 (by omega) q ⟨by omega, by omega, by omega, by omega, t_142, t_143, t_144, t_145, t_146, t_147⟩ (by omega) (by omega) (by omega) (by omega) (by omega) t_141)) | (rcases k1 with ⟨-, -, -, -, q5, q6, q⟩ | ⟨-, -, -, -, q5, q6, q⟩; exact Or.inr (st_2m (by omega) hrP1 (by omega) q ⟨by omega, by omega, by omega, by omega, t_142, t_143, t_144, t_145, t_146, t_147⟩ (by omega) (by omega) (by omega) (by omega) ⟨by omega, by omega, by omega⟩ ((t_141).trans (up_c (up_c (up_c rfl rfl q5) rfl rfl) (by omega) q6))); exact Or.inr (st_4m (by omega) hrP1 (by omega) q ⟨by omega, by omega, by omega, by omega, t_142, t_143, t_144, t_145, t_146, t_147⟩ (by omega) (by omega) (by omega) (by omega) ⟨by omega, by omega, by omega⟩ ((t_141).trans (up_c (up_c (up_c rfl rfl q5) rfl rfl) (by omega) q6))))⟩, by rw [ht]; exact hP, va_K.moved hW.alike hK, hD⟩, hS.F ht⟩) hS.2.2 dX13_more_58
    refine xr_if_eq (tgt := 45) hx hb dX13_more_38 (by decide) (by omega) (fun h_149 => ?_) (fun h_149 => ?_)
    · refine lv_iload hx hb dX13_more_45 (lv_at hl 5 rfl) ?_
      exact J47 p4 H locs ls (by omega) (by omega) hP hD hS hl
    · refine lv_iload_n hx hb dX13_more_41 rfl (lv_at hl 3 rfl) ?_
      refine lv_goto (tgt := 47) hx hb dX13_more_42 (by decide) ?_
      exact J47 p2 H locs ls (by omega) (by omega) hP hD hS hl
  refine xr_if_ne (tgt := 22) hx hb dX13_more_9 (by decide) (by omega) (fun h_150 => ?_) (fun h_150 => ?_)
  · exact J22 H locs ls (by omega) hP hD hS hl
  · refine lv_aload_n hx hb dX13_more_12 rfl (lv_at hl 1 rfl) ?_
    refine lv_iload_n hx hb dX13_more_13 rfl (lv_at hl 4 rfl) ?_
    refine jc_i (va_runV (As := [.int (iI p3)]) (rest := []) ⟨hx, hb, hml, hown, hts⟩ (sX13_isSign l dC dI _ ad ca g a p3 hI (by omega)) (cwV 1 hts (jgoodV m_227 m_389 m_390 m_503 m_161) rfl rfl rfl (by decide +kernel) ⟨(Nat.le_of_ble_eq_true rfl), (Nat.le_of_ble_eq_true rfl)⟩) ⟨jw_blind, va_recv hK hP (ci := 13) (q0 := 0) rfl rfl, fun U hU hW => ⟨rfl, jw_of hU hW hP hK hD⟩⟩ rfl rfl hl.1 rfl (lv_room (Nat.le_of_ble_eq_true rfl)) dX13_more_14 ⟨(Nat.le_of_ble_eq_true rfl), (Nat.le_of_ble_eq_true rfl)⟩) hP hS hA (fun r_151 H locs w_152 hP hS => ?_)
    obtain ⟨z_153, rfl, h_154, h_155⟩ := w_152
    have b_156 : 0 ≤ g 3 ∧ g 3 ≤ 4 := hI.1 3
    refine xr_if_ne (tgt := 22) hx hb dX13_more_17 (by decide) (by omega) (fun h_157 => ?_) (fun h_157 => ?_)
    · exact J22 H locs ls (by omega) hP hD hS hl
    · refine lv_iconst (v := iI 1) hx hb dX13_more_20 rfl ?_
      rw [← hQ]
      exact W.zret (v := iI 1) (ty := .boolean) hx hb hr (nb_bool (by omega) (by omega)) (fun t ht hW => ⟨⟨iI 1, (g, a), rfl, ⟨1, rfl, hI, hfA, haA, by omega, by show 1 = 0 ∨ (rPn g a (g 7) ∧ mz g a (g 7) < mz g a (g 7 + 1)); first | exact Or.inl rfl | (rcases k1 with ⟨-, -, -, -, -, -, q⟩ | ⟨-, -, -, -, -, -, q⟩; exact Or.inr (st_2n hrP1 (by omega) q ⟨by omega, by omega, by omega, by omega, rfl, rfl, rfl, rfl, rfl, rfl⟩ (by omega) (by omega) (by omega) (by omega) (by omega) rfl); exact Or.inr (st_4n hrP1 (by omega) q ⟨by omega, by omega, by omega, by omega, rfl, rfl, rfl, rfl, rfl, rfl⟩ (by omega) (by omega) (by omega) (by omega) (by omega) rfl)) | (rcases k1 with ⟨-, -, -, -, q5, q6, q⟩ | ⟨-, -, -, -, q5, q6, q⟩; exact Or.inr (st_2m (by omega) hrP1 (by omega) q ⟨by omega, by omega, by omega, by omega, rfl, rfl, rfl, rfl, rfl, rfl⟩ (by omega) (by omega) (by omega) (by omega) ⟨by omega, by omega, by omega⟩ ((rfl).trans (up_c (up_c (up_c rfl rfl q5) rfl rfl) (by omega) q6))); exact Or.inr (st_4m (by omega) hrP1 (by omega) q ⟨by omega, by omega, by omega, by omega, rfl, rfl, rfl, rfl, rfl, rfl⟩ (by omega) (by omega) (by omega) (by omega) ⟨by omega, by omega, by omega⟩ ((rfl).trans (up_c (up_c (up_c rfl rfl q5) rfl rfl) (by omega) q6))))⟩, by rw [ht]; exact hP, va_K.moved hW.alike hK, hD⟩, hS.F ht⟩) hS.2.2 dX13_more_21
