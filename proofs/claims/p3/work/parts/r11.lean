set_option maxHeartbeats 2000000 in
set_option maxRecDepth 100000 in
theorem sX13_isLine (l : Launch) (dC : Nat → ClassId) (dI : Nat → Nat → Nat) (sz : Nat) (ad : Nat → Nat) (ca : Nat → ClassId) (g : Nat → Int) (a : Nat → Int → Int) (p1 : Int) (hI : mI g a) (q1 : rg p1) : Met l yX13_isLine (jk yX13_isLine cX13_isLine 2 (some .boolean)) ({ frames := 1, cells := 0, slots := 0, locals := 22 }) (va_Pc [.ref (ad 0), .int (iI p1)] (jw_P (dC, dI) (mG ad ca g a) (mT ca) sz)) (va_Qi (fun (r : Int32) (_ : Unit) => ∃ z : Int, r = iI z ∧ (0 ≤ z ∧ z ≤ 1) ∧ ((z = 1 ∧ 0 ≤ p1 ∧ p1 < g 56) ∨ (z = 0 ∧ (p1 < 0 ∨ g 56 ≤ p1)))) (fun _ _ => True) (va_A [] sz)) 0 0 (va_A [] sz) := by
  refine Met.ofW (cc := cX13_isLine) (maxL := 2) (ret := (some .boolean)) (by decide) rfl ?_
  intro p e s m args below meth c s₁ B hml hv
  obtain ⟨rfl, hsz, hP, hK, hD0⟩ := hv
  have hx := B.exec
  have hb := B.bytes
  have hr := B.returns
  have hts := atoms_spec (ws := (jk yX13_isLine cX13_isLine 2 (some .boolean))) B.pre
  have hj : ∀ w ∈ jw, w.before ([.ref (ad 0), .int (iI p1)] : List Value).toArray s = true := fun w h => hts w (jm h)
  have hown : s.vm.findClass RX13 = some m.cls := findClass_of_methodNamed B.named
  subst hsz
  have hD := hD0
  generalize hAe : (va_A [] s.heap.size) = A
  have hA : ∀ q : Nat, s.heap.size ≤ q → A q := fun q h => by rw [← hAe]; exact Or.inr h
  have hS : va_S A s.heap s.heap [] := va_S.rf
  have hP : va_P (dC, dI) vwCl (mG ad ca g a) s.heap := hP
  have hl := lv_entry ([.ref (ad 0), .int (iI p1)]) (n := 2) (Nat.le_of_ble_eq_true rfl)
  rw [lg_entry_eq]
  generalize (lg_sl ([.ref (ad 0), .int (iI p1)]) ++ List.replicate (2 - (lg_sl ([.ref (ad 0), .int (iI p1)])).length) Slot.unset).toArray = ls at hl ⊢
  have hl : lv_has ls 2 [(0, .ref (ad 0)), (1, .int (iI p1))] := hl
  generalize hQ : MQ below (va_Qi (fun (r : Int32) (_ : Unit) => ∃ z : Int, r = iI z ∧ (0 ≤ z ∧ z ≤ 1) ∧ ((z = 1 ∧ 0 ≤ p1 ∧ p1 < g 56) ∨ (z = 0 ∧ (p1 < 0 ∨ g 56 ≤ p1)))) (fun _ _ => True) A) ([.ref (ad 0), .int (iI p1)] : List Value).toArray s 0 0 A = Q
  suffices ST : ∀ (H : Heap) (locs : List Loc), va_P (dC, dI) vwCl (mG ad ca g a) H → va_S A s.heap H locs → W p l e ({ frames := 1, cells := 0, slots := 0, locals := 22 }) s m ([.ref (ad 0), .int (iI p1)] : List Value).toArray below meth c H locs 0 0 Q (F0 m 0 ls []) from ST _ _ hP hS
  clear hP hS
  intro H locs hP hS
  refine lv_iload_n hx hb dX13_isLine_0 rfl (lv_at hl 1 rfl) ?_
  refine lv_iconst (v := iI 0) hx hb dX13_isLine_1 rfl ?_
  refine lv_aload_n hx hb dX13_isLine_2 rfl (lv_at hl 0 rfl) ?_
  refine gf_lines hx hb hj hown hK hP hI dX13_isLine_3 (fun h_1 => ?_)
  refine lv_iconst (v := iI 1) hx hb dX13_isLine_6 rfl ?_
  refine xr_sub hx hb dX13_isLine_7 ?_
  refine jc_i (va_runS (As := [.int (iI p1), .int (iI 0), .int (iI ((g 56) - 1))]) (rest := []) ⟨hx, hb, hml, hown, hts⟩ (sX13_in l dC dI _ p1 0 ((g 56) - 1) (by omega) (by omega) (by omega)) (va_cwS 3 hts (jgoodS m_220 m_364 m_503 m_147) rfl rfl rfl (by decide +kernel) ⟨(Nat.le_of_ble_eq_true rfl), (Nat.le_of_ble_eq_true rfl)⟩) ⟨jw_blind0, fun U hU hW => ⟨rfl, congrArg Array.size hU⟩⟩ rfl rfl hl.1 rfl (lv_room (Nat.le_of_ble_eq_true rfl)) dX13_isLine_8 ⟨(Nat.le_of_ble_eq_true rfl), (Nat.le_of_ble_eq_true rfl)⟩) hP hS hA (fun r_2 H locs w_3 hP hS => ?_)
  obtain ⟨z_4, rfl, h_5, h_6⟩ := w_3
  rw [← hQ]
  exact W.zret (v := iI z_4) (ty := .boolean) hx hb hr (nb_bool (by omega) (by omega)) (fun t ht hW => ⟨⟨iI z_4, (), rfl, ⟨z_4, rfl, by omega, by omega⟩, trivial⟩, hS.F ht⟩) hS.2.2 dX13_isLine_11
set_option maxHeartbeats 2000000 in
set_option maxRecDepth 100000 in
theorem sX13_isSign (l : Launch) (dC : Nat → ClassId) (dI : Nat → Nat → Nat) (sz : Nat) (ad : Nat → Nat) (ca : Nat → ClassId) (g : Nat → Int) (a : Nat → Int → Int) (p1 : Int) (hI : mI g a) (q1 : rg p1) : Met l yX13_isSign (jk yX13_isSign cX13_isSign 2 (some .boolean)) ({ frames := 0, cells := 0, slots := 0, locals := 0 }) (va_Pc [.ref (ad 0), .int (iI p1)] (jw_P (dC, dI) (mG ad ca g a) (mT ca) sz)) (va_Qi (fun (r : Int32) (_ : Unit) => ∃ z : Int, r = iI z ∧ (0 ≤ z ∧ z ≤ 1) ∧ ((z = 1 ∧ g 3 = 3 ∧ g 5 = p1) ∨ (z = 0 ∧ (g 3 ≠ 3 ∨ g 5 ≠ p1)))) (fun _ _ => True) (va_A [] sz)) 0 0 (va_A [] sz) := by
  refine Met.ofW (cc := cX13_isSign) (maxL := 2) (ret := (some .boolean)) (by decide) rfl ?_
  intro p e s m args below meth c s₁ B hml hv
  obtain ⟨rfl, hsz, hP, hK, hD0⟩ := hv
  have hx := B.exec
  have hb := B.bytes
  have hr := B.returns
  have hts := atoms_spec (ws := (jk yX13_isSign cX13_isSign 2 (some .boolean))) B.pre
  have hj : ∀ w ∈ jw, w.before ([.ref (ad 0), .int (iI p1)] : List Value).toArray s = true := fun w h => hts w (jm h)
  have hown : s.vm.findClass RX13 = some m.cls := findClass_of_methodNamed B.named
  subst hsz
  have hD := hD0
  generalize hAe : (va_A [] s.heap.size) = A
  have hA : ∀ q : Nat, s.heap.size ≤ q → A q := fun q h => by rw [← hAe]; exact Or.inr h
  have hS : va_S A s.heap s.heap [] := va_S.rf
  have hP : va_P (dC, dI) vwCl (mG ad ca g a) s.heap := hP
  have hl := lv_entry ([.ref (ad 0), .int (iI p1)]) (n := 2) (Nat.le_of_ble_eq_true rfl)
  rw [lg_entry_eq]
  generalize (lg_sl ([.ref (ad 0), .int (iI p1)]) ++ List.replicate (2 - (lg_sl ([.ref (ad 0), .int (iI p1)])).length) Slot.unset).toArray = ls at hl ⊢
  have hl : lv_has ls 2 [(0, .ref (ad 0)), (1, .int (iI p1))] := hl
  generalize hQ : MQ below (va_Qi (fun (r : Int32) (_ : Unit) => ∃ z : Int, r = iI z ∧ (0 ≤ z ∧ z ≤ 1) ∧ ((z = 1 ∧ g 3 = 3 ∧ g 5 = p1) ∨ (z = 0 ∧ (g 3 ≠ 3 ∨ g 5 ≠ p1)))) (fun _ _ => True) A) ([.ref (ad 0), .int (iI p1)] : List Value).toArray s 0 0 A = Q
  suffices ST : ∀ (H : Heap) (locs : List Loc), va_P (dC, dI) vwCl (mG ad ca g a) H → va_S A s.heap H locs → W p l e ({ frames := 0, cells := 0, slots := 0, locals := 0 }) s m ([.ref (ad 0), .int (iI p1)] : List Value).toArray below meth c H locs 0 0 Q (F0 m 0 ls []) from ST _ _ hP hS
  clear hP hS
  intro H locs hP hS
  refine lv_aload_n hx hb dX13_isSign_0 rfl (lv_at hl 0 rfl) ?_
  refine gf_token hx hb hj hown hK hP hI dX13_isSign_1 (fun h_1 => ?_)
  refine lv_iconst (v := iI 3) hx hb dX13_isSign_4 rfl ?_
  refine xr_icmp_ne (tgt := 20) hx hb dX13_isSign_5 (by decide) (by omega) (by omega) (fun h_2 => ?_) (fun h_2 => ?_)
  · refine lv_iconst (v := iI 0) hx hb dX13_isSign_20 rfl ?_
    rw [← hQ]
    exact W.zret (v := iI 0) (ty := .boolean) hx hb hr (nb_bool (by omega) (by omega)) (fun t ht hW => ⟨⟨iI 0, (), rfl, ⟨0, rfl, by omega, by omega⟩, trivial⟩, hS.F ht⟩) hS.2.2 dX13_isSign_21
  · refine lv_aload_n hx hb dX13_isSign_8 rfl (lv_at hl 0 rfl) ?_
    refine gf_tokenValue hx hb hj hown hK hP hI dX13_isSign_9 (fun h_3 => ?_)
    refine lv_iload_n hx hb dX13_isSign_12 rfl (lv_at hl 1 rfl) ?_
    refine xr_icmp_ne (tgt := 20) hx hb dX13_isSign_13 (by decide) (by omega) (by omega) (fun h_4 => ?_) (fun h_4 => ?_)
    · refine lv_iconst (v := iI 0) hx hb dX13_isSign_20 rfl ?_
      rw [← hQ]
      exact W.zret (v := iI 0) (ty := .boolean) hx hb hr (nb_bool (by omega) (by omega)) (fun t ht hW => ⟨⟨iI 0, (), rfl, ⟨0, rfl, by omega, by omega⟩, trivial⟩, hS.F ht⟩) hS.2.2 dX13_isSign_21
    · refine lv_iconst (v := iI 1) hx hb dX13_isSign_16 rfl ?_
      refine lv_goto (tgt := 21) hx hb dX13_isSign_17 (by decide) ?_
      rw [← hQ]
      exact W.zret (v := iI 1) (ty := .boolean) hx hb hr (nb_bool (by omega) (by omega)) (fun t ht hW => ⟨⟨iI 1, (), rfl, ⟨1, rfl, by omega, by omega⟩, trivial⟩, hS.F ht⟩) hS.2.2 dX13_isSign_21
set_option maxHeartbeats 2000000 in
set_option maxRecDepth 100000 in
theorem sX13_isWord (l : Launch) (dC : Nat → ClassId) (dI : Nat → Nat → Nat) (sz : Nat) (ad : Nat → Nat) (ca : Nat → ClassId) (g : Nat → Int) (a : Nat → Int → Int) (p1 : Int) (hI : mI g a) (q1 : rg p1) : Met l yX13_isWord (jk yX13_isWord cX13_isWord 2 (some .boolean)) ({ frames := 0, cells := 0, slots := 0, locals := 0 }) (va_Pc [.ref (ad 0), .int (iI p1)] (jw_P (dC, dI) (mG ad ca g a) (mT ca) sz)) (va_Qi (fun (r : Int32) (_ : Unit) => ∃ z : Int, r = iI z ∧ (0 ≤ z ∧ z ≤ 1) ∧ ((z = 1 ∧ g 3 = 2 ∧ g 5 = p1) ∨ (z = 0 ∧ (g 3 ≠ 2 ∨ g 5 ≠ p1)))) (fun _ _ => True) (va_A [] sz)) 0 0 (va_A [] sz) := by
  refine Met.ofW (cc := cX13_isWord) (maxL := 2) (ret := (some .boolean)) (by decide) rfl ?_
  intro p e s m args below meth c s₁ B hml hv
  obtain ⟨rfl, hsz, hP, hK, hD0⟩ := hv
  have hx := B.exec
  have hb := B.bytes
  have hr := B.returns
  have hts := atoms_spec (ws := (jk yX13_isWord cX13_isWord 2 (some .boolean))) B.pre
  have hj : ∀ w ∈ jw, w.before ([.ref (ad 0), .int (iI p1)] : List Value).toArray s = true := fun w h => hts w (jm h)
  have hown : s.vm.findClass RX13 = some m.cls := findClass_of_methodNamed B.named
  subst hsz
  have hD := hD0
  generalize hAe : (va_A [] s.heap.size) = A
  have hA : ∀ q : Nat, s.heap.size ≤ q → A q := fun q h => by rw [← hAe]; exact Or.inr h
  have hS : va_S A s.heap s.heap [] := va_S.rf
  have hP : va_P (dC, dI) vwCl (mG ad ca g a) s.heap := hP
  have hl := lv_entry ([.ref (ad 0), .int (iI p1)]) (n := 2) (Nat.le_of_ble_eq_true rfl)
  rw [lg_entry_eq]
  generalize (lg_sl ([.ref (ad 0), .int (iI p1)]) ++ List.replicate (2 - (lg_sl ([.ref (ad 0), .int (iI p1)])).length) Slot.unset).toArray = ls at hl ⊢
  have hl : lv_has ls 2 [(0, .ref (ad 0)), (1, .int (iI p1))] := hl
  generalize hQ : MQ below (va_Qi (fun (r : Int32) (_ : Unit) => ∃ z : Int, r = iI z ∧ (0 ≤ z ∧ z ≤ 1) ∧ ((z = 1 ∧ g 3 = 2 ∧ g 5 = p1) ∨ (z = 0 ∧ (g 3 ≠ 2 ∨ g 5 ≠ p1)))) (fun _ _ => True) A) ([.ref (ad 0), .int (iI p1)] : List Value).toArray s 0 0 A = Q
  suffices ST : ∀ (H : Heap) (locs : List Loc), va_P (dC, dI) vwCl (mG ad ca g a) H → va_S A s.heap H locs → W p l e ({ frames := 0, cells := 0, slots := 0, locals := 0 }) s m ([.ref (ad 0), .int (iI p1)] : List Value).toArray below meth c H locs 0 0 Q (F0 m 0 ls []) from ST _ _ hP hS
  clear hP hS
  intro H locs hP hS
  refine lv_aload_n hx hb dX13_isWord_0 rfl (lv_at hl 0 rfl) ?_
  refine gf_token hx hb hj hown hK hP hI dX13_isWord_1 (fun h_1 => ?_)
  refine lv_iconst (v := iI 2) hx hb dX13_isWord_4 rfl ?_
  refine xr_icmp_ne (tgt := 20) hx hb dX13_isWord_5 (by decide) (by omega) (by omega) (fun h_2 => ?_) (fun h_2 => ?_)
  · refine lv_iconst (v := iI 0) hx hb dX13_isWord_20 rfl ?_
    rw [← hQ]
    exact W.zret (v := iI 0) (ty := .boolean) hx hb hr (nb_bool (by omega) (by omega)) (fun t ht hW => ⟨⟨iI 0, (), rfl, ⟨0, rfl, by omega, by omega⟩, trivial⟩, hS.F ht⟩) hS.2.2 dX13_isWord_21
  · refine lv_aload_n hx hb dX13_isWord_8 rfl (lv_at hl 0 rfl) ?_
    refine gf_tokenValue hx hb hj hown hK hP hI dX13_isWord_9 (fun h_3 => ?_)
    refine lv_iload_n hx hb dX13_isWord_12 rfl (lv_at hl 1 rfl) ?_
    refine xr_icmp_ne (tgt := 20) hx hb dX13_isWord_13 (by decide) (by omega) (by omega) (fun h_4 => ?_) (fun h_4 => ?_)
    · refine lv_iconst (v := iI 0) hx hb dX13_isWord_20 rfl ?_
      rw [← hQ]
      exact W.zret (v := iI 0) (ty := .boolean) hx hb hr (nb_bool (by omega) (by omega)) (fun t ht hW => ⟨⟨iI 0, (), rfl, ⟨0, rfl, by omega, by omega⟩, trivial⟩, hS.F ht⟩) hS.2.2 dX13_isWord_21
    · refine lv_iconst (v := iI 1) hx hb dX13_isWord_16 rfl ?_
      refine lv_goto (tgt := 21) hx hb dX13_isWord_17 (by decide) ?_
      rw [← hQ]
      exact W.zret (v := iI 1) (ty := .boolean) hx hb hr (nb_bool (by omega) (by omega)) (fun t ht hW => ⟨⟨iI 1, (), rfl, ⟨1, rfl, by omega, by omega⟩, trivial⟩, hS.F ht⟩) hS.2.2 dX13_isWord_21
set_option maxHeartbeats 2000000 in
set_option maxRecDepth 100000 in
theorem sX13_isSetLine (l : Launch) (dC : Nat → ClassId) (dI : Nat → Nat → Nat) (sz : Nat) (ad : Nat → Nat) (ca : Nat → ClassId) (g : Nat → Int) (a : Nat → Int → Int) (p1 : Int) (hI : mI g a) (q1 : rg p1) (k1 : 0 ≤ p1 ∧ p1 < 300) : Met l yX13_isSetLine (jk yX13_isSetLine cX13_isSetLine 2 (some .boolean)) ({ frames := 0, cells := 0, slots := 0, locals := 0 }) (va_Pc [.ref (ad 0), .int (iI p1)] (jw_P (dC, dI) (mG ad ca g a) (mT ca) sz)) (va_Qi (fun (r : Int32) (_ : Unit) => ∃ z : Int, r = iI z ∧ (0 ≤ z ∧ z ≤ 1)) (fun _ _ => True) (va_A [] sz)) 0 0 (va_A [] sz) := by
  refine Met.ofW (cc := cX13_isSetLine) (maxL := 2) (ret := (some .boolean)) (by decide) rfl ?_
  intro p e s m args below meth c s₁ B hml hv
  obtain ⟨rfl, hsz, hP, hK, hD0⟩ := hv
  have hx := B.exec
  have hb := B.bytes
  have hr := B.returns
  have hts := atoms_spec (ws := (jk yX13_isSetLine cX13_isSetLine 2 (some .boolean))) B.pre
  have hj : ∀ w ∈ jw, w.before ([.ref (ad 0), .int (iI p1)] : List Value).toArray s = true := fun w h => hts w (jm h)
  have hown : s.vm.findClass RX13 = some m.cls := findClass_of_methodNamed B.named
  subst hsz
  have hD := hD0
  generalize hAe : (va_A [] s.heap.size) = A
  have hA : ∀ q : Nat, s.heap.size ≤ q → A q := fun q h => by rw [← hAe]; exact Or.inr h
  have hS : va_S A s.heap s.heap [] := va_S.rf
  have hP : va_P (dC, dI) vwCl (mG ad ca g a) s.heap := hP
  have hl := lv_entry ([.ref (ad 0), .int (iI p1)]) (n := 2) (Nat.le_of_ble_eq_true rfl)
  rw [lg_entry_eq]
  generalize (lg_sl ([.ref (ad 0), .int (iI p1)]) ++ List.replicate (2 - (lg_sl ([.ref (ad 0), .int (iI p1)])).length) Slot.unset).toArray = ls at hl ⊢
  have hl : lv_has ls 2 [(0, .ref (ad 0)), (1, .int (iI p1))] := hl
  generalize hQ : MQ below (va_Qi (fun (r : Int32) (_ : Unit) => ∃ z : Int, r = iI z ∧ (0 ≤ z ∧ z ≤ 1)) (fun _ _ => True) A) ([.ref (ad 0), .int (iI p1)] : List Value).toArray s 0 0 A = Q
  suffices ST : ∀ (H : Heap) (locs : List Loc), va_P (dC, dI) vwCl (mG ad ca g a) H → va_S A s.heap H locs → W p l e ({ frames := 0, cells := 0, slots := 0, locals := 0 }) s m ([.ref (ad 0), .int (iI p1)] : List Value).toArray below meth c H locs 0 0 Q (F0 m 0 ls []) from ST _ _ hP hS
  clear hP hS
  intro H locs hP hS
  refine lv_aload_n hx hb dX13_isSetLine_0 rfl (lv_at hl 0 rfl) ?_
  refine gf_setWith hx hb hj hown hK hP dX13_isSetLine_1 ?_
  refine lv_aload_n hx hb dX13_isSetLine_4 rfl (lv_at hl 0 rfl) ?_
  refine gf_lineOf hx hb hj hown hK hP dX13_isSetLine_5 ?_
  refine lv_iload_n hx hb dX13_isSetLine_8 rfl (lv_at hl 1 rfl) ?_
  refine ld_lineOf hx hb hK hP hI (by omega) (by omega) dX13_isSetLine_9 (fun h_1 => ?_)
  refine ld_setWith hx hb hK hP hI (by omega) (by omega) dX13_isSetLine_10 (fun h_2 => ?_)
  refine lv_iconst (v := iI (-1)) hx hb dX13_isSetLine_11 rfl ?_
  refine xr_icmp_eq (tgt := 19) hx hb dX13_isSetLine_12 (by decide) (by omega) (by omega) (fun h_3 => ?_) (fun h_3 => ?_)
  · refine lv_iconst (v := iI 0) hx hb dX13_isSetLine_19 rfl ?_
    rw [← hQ]
    exact W.zret (v := iI 0) (ty := .boolean) hx hb hr (nb_bool (by omega) (by omega)) (fun t ht hW => ⟨⟨iI 0, (), rfl, ⟨0, rfl, by omega⟩, trivial⟩, hS.F ht⟩) hS.2.2 dX13_isSetLine_20
  · refine lv_iconst (v := iI 1) hx hb dX13_isSetLine_15 rfl ?_
    refine lv_goto (tgt := 20) hx hb dX13_isSetLine_16 (by decide) ?_
    rw [← hQ]
    exact W.zret (v := iI 1) (ty := .boolean) hx hb hr (nb_bool (by omega) (by omega)) (fun t ht hW => ⟨⟨iI 1, (), rfl, ⟨1, rfl, by omega⟩, trivial⟩, hS.F ht⟩) hS.2.2 dX13_isSetLine_20
set_option maxHeartbeats 2000000 in
set_option maxRecDepth 100000 in
theorem sX13_linesOf (l : Launch) (dC : Nat → ClassId) (dI : Nat → Nat → Nat) (sz : Nat) (ad : Nat → Nat) (ca : Nat → ClassId) (g : Nat → Int) (a : Nat → Int → Int) (p1 : Int) (hI : mI g a) (q1 : rg p1) : Met l yX13_linesOf (jk yX13_linesOf cX13_linesOf 4 (some .int)) ({ frames := 0, cells := 0, slots := 0, locals := 0 }) (va_Pc [.ref (ad 0), .int (iI p1)] (jw_P (dC, dI) (mG ad ca g a) (mT ca) sz)) (va_Qi (fun (r : Int32) (_ : Unit) => ∃ z : Int, r = iI z ∧ (rg z)) (fun _ _ => True) (va_A [] sz)) 0 0 (va_A [] sz) := by
  refine Met.ofW (cc := cX13_linesOf) (maxL := 4) (ret := (some .int)) (by decide) rfl ?_
  intro p e s m args below meth c s₁ B hml hv
  obtain ⟨rfl, hsz, hP, hK, hD0⟩ := hv
  have hx := B.exec
  have hb := B.bytes
  have hr := B.returns
  have hts := atoms_spec (ws := (jk yX13_linesOf cX13_linesOf 4 (some .int))) B.pre
  have hj : ∀ w ∈ jw, w.before ([.ref (ad 0), .int (iI p1)] : List Value).toArray s = true := fun w h => hts w (jm h)
  have hown : s.vm.findClass RX13 = some m.cls := findClass_of_methodNamed B.named
  subst hsz
  have hD := hD0
  generalize hAe : (va_A [] s.heap.size) = A
  have hA : ∀ q : Nat, s.heap.size ≤ q → A q := fun q h => by rw [← hAe]; exact Or.inr h
  have hS : va_S A s.heap s.heap [] := va_S.rf
  have hP : va_P (dC, dI) vwCl (mG ad ca g a) s.heap := hP
  have hl := lv_entry ([.ref (ad 0), .int (iI p1)]) (n := 4) (Nat.le_of_ble_eq_true rfl)
  rw [lg_entry_eq]
  generalize (lg_sl ([.ref (ad 0), .int (iI p1)]) ++ List.replicate (4 - (lg_sl ([.ref (ad 0), .int (iI p1)])).length) Slot.unset).toArray = ls at hl ⊢
  have hl : lv_has ls 4 [(0, .ref (ad 0)), (1, .int (iI p1))] := hl
  generalize hQ : MQ below (va_Qi (fun (r : Int32) (_ : Unit) => ∃ z : Int, r = iI z ∧ (rg z)) (fun _ _ => True) A) ([.ref (ad 0), .int (iI p1)] : List Value).toArray s 0 0 A = Q
  suffices ST : ∀ (H : Heap) (locs : List Loc), va_P (dC, dI) vwCl (mG ad ca g a) H → va_S A s.heap H locs → W p l e ({ frames := 0, cells := 0, slots := 0, locals := 0 }) s m ([.ref (ad 0), .int (iI p1)] : List Value).toArray below meth c H locs 0 0 Q (F0 m 0 ls []) from ST _ _ hP hS
  clear hP hS
  intro H locs hP hS
  refine lv_iconst (v := iI 0) hx hb dX13_linesOf_0 rfl ?_
  refine lv_istore_n (lv' := [(2, .int (iI 0)), (0, .ref (ad 0)), (1, .int (iI p1))]) hx hb dX13_linesOf_1 rfl hl (by decide) rfl (fun ls hl => ?_)
  refine lv_iconst (v := iI 0) hx hb dX13_linesOf_2 rfl ?_
  refine lv_istore_n (lv' := [(3, .int (iI 0)), (2, .int (iI 0)), (0, .ref (ad 0)), (1, .int (iI p1))]) hx hb dX13_linesOf_3 rfl hl (by decide) rfl (fun ls hl => ?_)
  have L4 : ∀ (n4 : Nat) (v3_4 v2_4 : Int) (H : Heap) (locs : List Loc) (ls : Array Slot), (0 ≤ v3_4 ∧ v3_4 ≤ 2147483647) → ((-2147483648) ≤ v2_4 ∧ v2_4 ≤ 2147483647) → (0 < (n4 : Int) ∧ (g 56) - v3_4 < (n4 : Int)) → va_P (dC, dI) vwCl (mG ad ca g a) H → va_S A s.heap H locs → lv_has ls 4 [(3, .int (iI v3_4)), (2, .int (iI v2_4)), (0, .ref (ad 0)), (1, .int (iI p1))] → W p l e ({ frames := 0, cells := 0, slots := 0, locals := 0 }) s m ([.ref (ad 0), .int (iI p1)] : List Value).toArray below meth c H locs 0 0 Q (F0 m 4 ls []) := by
    intro n4
    induction n4 with
    | zero =>
      intro v3_4 v2_4 H locs ls h_1 h_2 hm4 hP hS hl
      exfalso; omega
    | succ n4 ih4 =>
      intro v3_4 v2_4 H locs ls h_3 h_4 hm4 hP hS hl
      refine lv_iload_n hx hb dX13_linesOf_4 rfl (lv_at hl 0 rfl) ?_
      refine lv_aload_n hx hb dX13_linesOf_5 rfl (lv_at hl 2 rfl) ?_
      refine gf_lines hx hb hj hown hK hP hI dX13_linesOf_6 (fun h_5 => ?_)
      refine xr_icmp_ge (tgt := 36) hx hb dX13_linesOf_9 (by decide) (by omega) (by omega) (fun h_6 => ?_) (fun h_6 => ?_)
      · refine lv_iload_n hx hb dX13_linesOf_36 rfl (lv_at hl 1 rfl) ?_
        rw [← hQ]
        exact W.iret (v := iI v2_4) hx hb hr (fun t ht hW => ⟨⟨iI v2_4, (), rfl, ⟨v2_4, rfl, by omega⟩, trivial⟩, hS.F ht⟩) hS.2.2 dX13_linesOf_37
      · refine lv_iload_n hx hb dX13_linesOf_12 rfl (lv_at hl 1 rfl) ?_
        refine lv_aload_n hx hb dX13_linesOf_13 rfl (lv_at hl 2 rfl) ?_
        refine gf_lineOf hx hb hj hown hK hP dX13_linesOf_14 ?_
        refine lv_iload_n hx hb dX13_linesOf_17 rfl (lv_at hl 0 rfl) ?_
        refine ld_lineOf hx hb hK hP hI (by omega) (by omega) dX13_linesOf_18 (fun h_7 => ?_)
        refine lv_iload_n hx hb dX13_linesOf_19 rfl (lv_at hl 3 rfl) ?_
        have J28 : ∀ (s0_28 : Int) (H : Heap) (locs : List Loc) (ls : Array Slot), (0 ≤ s0_28 ∧ s0_28 ≤ 1) → va_P (dC, dI) vwCl (mG ad ca g a) H → va_S A s.heap H locs → lv_has ls 4 [(3, .int (iI v3_4)), (2, .int (iI v2_4)), (0, .ref (ad 0)), (1, .int (iI p1))] → W p l e ({ frames := 0, cells := 0, slots := 0, locals := 0 }) s m ([.ref (ad 0), .int (iI p1)] : List Value).toArray below meth c H locs 0 0 Q (F0 m 28 ls [.int (iI s0_28), .int (iI v2_4)]) := by
          intro s0_28 H locs ls h_8 hP hS hl
          refine xr_add hx hb dX13_linesOf_28 ?_
          refine xr_kept (fun z_9 h_10 h_11 => ?_)
          refine lv_istore_n (lv' := [(2, .int (iI z_9)), (3, .int (iI v3_4)), (0, .ref (ad 0)), (1, .int (iI p1))]) hx hb dX13_linesOf_29 rfl hl (by decide) rfl (fun ls hl => ?_)
          refine lv_iinc (v := iI (v3_4 + 1)) (lv' := [(3, .int (iI (v3_4 + 1))), (2, .int (iI z_9)), (0, .ref (ad 0)), (1, .int (iI p1))]) hx hb dX13_linesOf_30 hl (k := 1) rfl (iI_add _ _) (by decide) rfl (fun ls hl => ?_)
          refine lv_goto (tgt := 4) hx hb dX13_linesOf_33 (by decide) ?_
          exact ih4 (v3_4 + 1) z_9 H locs ls (by omega) (by omega) (by omega) hP hS hl
        refine xr_icmp_ne (tgt := 27) hx hb dX13_linesOf_20 (by decide) (by omega) (by omega) (fun h_12 => ?_) (fun h_12 => ?_)
        · refine lv_iconst (v := iI 0) hx hb dX13_linesOf_27 rfl ?_
          exact J28 0 H locs ls (by omega) hP hS hl
        · refine lv_iconst (v := iI 1) hx hb dX13_linesOf_23 rfl ?_
          refine lv_goto (tgt := 28) hx hb dX13_linesOf_24 (by decide) ?_
          exact J28 1 H locs ls (by omega) hP hS hl
  exact L4 ((((g 56) - 0 : Int)).toNat + 1) 0 0 H locs ls (by omega) (by omega) (by omega) hP hS hl
set_option maxHeartbeats 2000000 in
set_option maxRecDepth 100000 in
theorem sX13_isDone (l : Launch) (dC : Nat → ClassId) (dI : Nat → Nat → Nat) (sz : Nat) (ad : Nat → Nat) (ca : Nat → ClassId) (g : Nat → Int) (a : Nat → Int → Int) (p1 : Int) (hI : mI g a) (q1 : rg p1) (k1 : 0 ≤ p1 ∧ p1 < 60) : Met l yX13_isDone (jk yX13_isDone cX13_isDone 2 (some .boolean)) ({ frames := 1, cells := 0, slots := 0, locals := 23 }) (va_Pc [.ref (ad 0), .int (iI p1)] (jw_P (dC, dI) (mG ad ca g a) (mT ca) sz)) (va_Qi (fun (r : Int32) (_ : Unit) => ∃ z : Int, r = iI z ∧ (0 ≤ z ∧ z ≤ 1)) (fun _ _ => True) (va_A [] sz)) 0 0 (va_A [] sz) := by
  refine Met.ofW (cc := cX13_isDone) (maxL := 2) (ret := (some .boolean)) (by decide) rfl ?_
  intro p e s m args below meth c s₁ B hml hv
  obtain ⟨rfl, hsz, hP, hK, hD0⟩ := hv
  have hx := B.exec
  have hb := B.bytes
  have hr := B.returns
  have hts := atoms_spec (ws := (jk yX13_isDone cX13_isDone 2 (some .boolean))) B.pre
  have hj : ∀ w ∈ jw, w.before ([.ref (ad 0), .int (iI p1)] : List Value).toArray s = true := fun w h => hts w (jm h)
  have hown : s.vm.findClass RX13 = some m.cls := findClass_of_methodNamed B.named
  subst hsz
  have hD := hD0
  generalize hAe : (va_A [] s.heap.size) = A
  have hA : ∀ q : Nat, s.heap.size ≤ q → A q := fun q h => by rw [← hAe]; exact Or.inr h
  have hS : va_S A s.heap s.heap [] := va_S.rf
  have hP : va_P (dC, dI) vwCl (mG ad ca g a) s.heap := hP
  have hl := lv_entry ([.ref (ad 0), .int (iI p1)]) (n := 2) (Nat.le_of_ble_eq_true rfl)
  rw [lg_entry_eq]
  generalize (lg_sl ([.ref (ad 0), .int (iI p1)]) ++ List.replicate (2 - (lg_sl ([.ref (ad 0), .int (iI p1)])).length) Slot.unset).toArray = ls at hl ⊢
  have hl : lv_has ls 2 [(0, .ref (ad 0)), (1, .int (iI p1))] := hl
  generalize hQ : MQ below (va_Qi (fun (r : Int32) (_ : Unit) => ∃ z : Int, r = iI z ∧ (0 ≤ z ∧ z ≤ 1)) (fun _ _ => True) A) ([.ref (ad 0), .int (iI p1)] : List Value).toArray s 0 0 A = Q
  suffices ST : ∀ (H : Heap) (locs : List Loc), va_P (dC, dI) vwCl (mG ad ca g a) H → va_S A s.heap H locs → W p l e ({ frames := 1, cells := 0, slots := 0, locals := 23 }) s m ([.ref (ad 0), .int (iI p1)] : List Value).toArray below meth c H locs 0 0 Q (F0 m 0 ls []) from ST _ _ hP hS
  clear hP hS
  intro H locs hP hS
  refine lv_aload_n hx hb dX13_isDone_0 rfl (lv_at hl 0 rfl) ?_
  refine gf_kind hx hb hj hown hK hP dX13_isDone_1 ?_
  refine lv_iload_n hx hb dX13_isDone_4 rfl (lv_at hl 1 rfl) ?_
  refine ld_kind hx hb hK hP hI (by omega) (by omega) dX13_isDone_5 (fun h_1 => ?_)
  refine xr_if_ne (tgt := 27) hx hb dX13_isDone_6 (by decide) (by omega) (fun h_2 => ?_) (fun h_2 => ?_)
  · refine lv_iconst (v := iI 0) hx hb dX13_isDone_27 rfl ?_
    rw [← hQ]
    exact W.zret (v := iI 0) (ty := .boolean) hx hb hr (nb_bool (by omega) (by omega)) (fun t ht hW => ⟨⟨iI 0, (), rfl, ⟨0, rfl, by omega⟩, trivial⟩, hS.F ht⟩) hS.2.2 dX13_isDone_28
  · refine lv_aload_n hx hb dX13_isDone_9 rfl (lv_at hl 0 rfl) ?_
    refine lv_iload_n hx hb dX13_isDone_10 rfl (lv_at hl 1 rfl) ?_
    refine jc_i (va_runV (As := [.int (iI p1)]) (rest := []) ⟨hx, hb, hml, hown, hts⟩ (sX13_linesOf l dC dI _ ad ca g a p1 hI (by omega)) (cwV 1 hts (jgoodV m_262 m_418 m_419 m_503 m_176) rfl rfl rfl (by decide +kernel) ⟨(Nat.le_of_ble_eq_true rfl), (Nat.le_of_ble_eq_true rfl)⟩) ⟨jw_blind, va_recv hK hP (ci := 13) (q0 := 0) rfl rfl, fun U hU hW => ⟨rfl, jw_of hU hW hP hK hD⟩⟩ rfl rfl hl.1 rfl (lv_room (Nat.le_of_ble_eq_true rfl)) dX13_isDone_11 ⟨(Nat.le_of_ble_eq_true rfl), (Nat.le_of_ble_eq_true rfl)⟩) hP hS hA (fun r_3 H locs w_4 hP hS => ?_)
    obtain ⟨z_5, rfl, h_6⟩ := w_4
    refine lv_aload_n hx hb dX13_isDone_14 rfl (lv_at hl 0 rfl) ?_
    refine gf_asked hx hb hj hown hK hP dX13_isDone_15 ?_
    refine lv_iload_n hx hb dX13_isDone_18 rfl (lv_at hl 1 rfl) ?_
    refine ld_asked hx hb hK hP hI (by omega) (by omega) dX13_isDone_19 (fun h_7 => ?_)
    refine xr_icmp_ne (tgt := 27) hx hb dX13_isDone_20 (by decide) (by omega) (by omega) (fun h_8 => ?_) (fun h_8 => ?_)
    · refine lv_iconst (v := iI 0) hx hb dX13_isDone_27 rfl ?_
      rw [← hQ]
      exact W.zret (v := iI 0) (ty := .boolean) hx hb hr (nb_bool (by omega) (by omega)) (fun t ht hW => ⟨⟨iI 0, (), rfl, ⟨0, rfl, by omega⟩, trivial⟩, hS.F ht⟩) hS.2.2 dX13_isDone_28
    · refine lv_iconst (v := iI 1) hx hb dX13_isDone_23 rfl ?_
      refine lv_goto (tgt := 28) hx hb dX13_isDone_24 (by decide) ?_
      rw [← hQ]
      exact W.zret (v := iI 1) (ty := .boolean) hx hb hr (nb_bool (by omega) (by omega)) (fun t ht hW => ⟨⟨iI 1, (), rfl, ⟨1, rfl, by omega⟩, trivial⟩, hS.F ht⟩) hS.2.2 dX13_isDone_28
set_option maxHeartbeats 2000000 in
set_option maxRecDepth 100000 in
theorem sX13_factsOf (l : Launch) (dC : Nat → ClassId) (dI : Nat → Nat → Nat) (sz : Nat) (ad : Nat → Nat) (ca : Nat → ClassId) (g : Nat → Int) (a : Nat → Int → Int) (p1 : Int) (hI : mI g a) (q1 : rg p1) : Met l yX13_factsOf (jk yX13_factsOf cX13_factsOf 6 (some .int)) ({ frames := 0, cells := 0, slots := 0, locals := 0 }) (va_Pc [.ref (ad 0), .int (iI p1)] (jw_P (dC, dI) (mG ad ca g a) (mT ca) sz)) (va_Qi (fun (r : Int32) (_ : Unit) => ∃ z : Int, r = iI z ∧ (rg z)) (fun _ _ => True) (va_A [] sz)) 0 0 (va_A [] sz) := by
  refine Met.ofW (cc := cX13_factsOf) (maxL := 6) (ret := (some .int)) (by decide) rfl ?_
  intro p e s m args below meth c s₁ B hml hv
  obtain ⟨rfl, hsz, hP, hK, hD0⟩ := hv
  have hx := B.exec
  have hb := B.bytes
  have hr := B.returns
  have hts := atoms_spec (ws := (jk yX13_factsOf cX13_factsOf 6 (some .int))) B.pre
  have hj : ∀ w ∈ jw, w.before ([.ref (ad 0), .int (iI p1)] : List Value).toArray s = true := fun w h => hts w (jm h)
  have hown : s.vm.findClass RX13 = some m.cls := findClass_of_methodNamed B.named
  subst hsz
  have hD := hD0
  generalize hAe : (va_A [] s.heap.size) = A
  have hA : ∀ q : Nat, s.heap.size ≤ q → A q := fun q h => by rw [← hAe]; exact Or.inr h
  have hS : va_S A s.heap s.heap [] := va_S.rf
  have hP : va_P (dC, dI) vwCl (mG ad ca g a) s.heap := hP
  have hl := lv_entry ([.ref (ad 0), .int (iI p1)]) (n := 6) (Nat.le_of_ble_eq_true rfl)
  rw [lg_entry_eq]
  generalize (lg_sl ([.ref (ad 0), .int (iI p1)]) ++ List.replicate (6 - (lg_sl ([.ref (ad 0), .int (iI p1)])).length) Slot.unset).toArray = ls at hl ⊢
  have hl : lv_has ls 6 [(0, .ref (ad 0)), (1, .int (iI p1))] := hl
  generalize hQ : MQ below (va_Qi (fun (r : Int32) (_ : Unit) => ∃ z : Int, r = iI z ∧ (rg z)) (fun _ _ => True) A) ([.ref (ad 0), .int (iI p1)] : List Value).toArray s 0 0 A = Q
  suffices ST : ∀ (H : Heap) (locs : List Loc), va_P (dC, dI) vwCl (mG ad ca g a) H → va_S A s.heap H locs → W p l e ({ frames := 0, cells := 0, slots := 0, locals := 0 }) s m ([.ref (ad 0), .int (iI p1)] : List Value).toArray below meth c H locs 0 0 Q (F0 m 0 ls []) from ST _ _ hP hS
  clear hP hS
  intro H locs hP hS
  refine lv_iconst (v := iI 0) hx hb dX13_factsOf_0 rfl ?_
  refine lv_istore_n (lv' := [(2, .int (iI 0)), (0, .ref (ad 0)), (1, .int (iI p1))]) hx hb dX13_factsOf_1 rfl hl (by decide) rfl (fun ls hl => ?_)
  refine lv_iconst (v := iI 0) hx hb dX13_factsOf_2 rfl ?_
  refine lv_istore_n (lv' := [(3, .int (iI 0)), (2, .int (iI 0)), (0, .ref (ad 0)), (1, .int (iI p1))]) hx hb dX13_factsOf_3 rfl hl (by decide) rfl (fun ls hl => ?_)
  have L4 : ∀ (n4 : Nat) (v3_4 v2_4 : Int) (H : Heap) (locs : List Loc) (ls : Array Slot), (0 ≤ v3_4 ∧ v3_4 ≤ 2147483647) → ((-2147483648) ≤ v2_4 ∧ v2_4 ≤ 2147483647) → (0 < (n4 : Int) ∧ 40 - v3_4 < (n4 : Int)) → va_P (dC, dI) vwCl (mG ad ca g a) H → va_S A s.heap H locs → lv_has ls 6 [(3, .int (iI v3_4)), (2, .int (iI v2_4)), (0, .ref (ad 0)), (1, .int (iI p1))] → W p l e ({ frames := 0, cells := 0, slots := 0, locals := 0 }) s m ([.ref (ad 0), .int (iI p1)] : List Value).toArray below meth c H locs 0 0 Q (F0 m 4 ls []) := by
    intro n4
    induction n4 with
    | zero =>
      intro v3_4 v2_4 H locs ls h_1 h_2 hm4 hP hS hl
      exfalso; omega
    | succ n4 ih4 =>
      intro v3_4 v2_4 H locs ls h_3 h_4 hm4 hP hS hl
      refine lv_iload_n hx hb dX13_factsOf_4 rfl (lv_at hl 0 rfl) ?_
      refine lv_bipush (v := iI 40) hx hb dX13_factsOf_5 rfl ?_
      refine xr_icmp_ge (tgt := 84) hx hb dX13_factsOf_7 (by decide) (by omega) (by omega) (fun h_5 => ?_) (fun h_5 => ?_)
      · refine lv_iload_n hx hb dX13_factsOf_84 rfl (lv_at hl 1 rfl) ?_
        rw [← hQ]
        exact W.iret (v := iI v2_4) hx hb hr (fun t ht hW => ⟨⟨iI v2_4, (), rfl, ⟨v2_4, rfl, by omega⟩, trivial⟩, hS.F ht⟩) hS.2.2 dX13_factsOf_85
      · refine lv_iconst (v := iI 0) hx hb dX13_factsOf_10 rfl ?_
        refine lv_istore (lv' := [(4, .int (iI 0)), (3, .int (iI v3_4)), (2, .int (iI v2_4)), (0, .ref (ad 0)), (1, .int (iI p1))]) hx hb dX13_factsOf_11 hl (by decide) rfl (fun ls hl => ?_)
        refine lv_iconst (v := iI 0) hx hb dX13_factsOf_13 rfl ?_
        refine lv_istore (lv' := [(5, .int (iI 0)), (4, .int (iI 0)), (3, .int (iI v3_4)), (2, .int (iI v2_4)), (0, .ref (ad 0)), (1, .int (iI p1))]) hx hb dX13_factsOf_14 hl (by decide) rfl (fun ls hl => ?_)
        have L16 : ∀ (n16 : Nat) (v5_16 v4_16 : Int) (H : Heap) (locs : List Loc) (ls : Array Slot), (0 ≤ v5_16 ∧ v5_16 ≤ 2147483647) → (0 ≤ v4_16 ∧ v4_16 ≤ 1) → (0 < (n16 : Int) ∧ (g 56) - v5_16 < (n16 : Int)) → va_P (dC, dI) vwCl (mG ad ca g a) H → va_S A s.heap H locs → lv_has ls 6 [(5, .int (iI v5_16)), (4, .int (iI v4_16)), (3, .int (iI v3_4)), (2, .int (iI v2_4)), (0, .ref (ad 0)), (1, .int (iI p1))] → W p l e ({ frames := 0, cells := 0, slots := 0, locals := 0 }) s m ([.ref (ad 0), .int (iI p1)] : List Value).toArray below meth c H locs 0 0 Q (F0 m 16 ls []) := by
          intro n16
          induction n16 with
          | zero =>
            intro v5_16 v4_16 H locs ls h_6 h_7 hm16 hP hS hl
            exfalso; omega
          | succ n16 ih16 =>
            intro v5_16 v4_16 H locs ls h_8 h_9 hm16 hP hS hl
            refine lv_iload hx hb dX13_factsOf_16 (lv_at hl 0 rfl) ?_
            refine lv_aload_n hx hb dX13_factsOf_18 rfl (lv_at hl 4 rfl) ?_
            refine gf_lines hx hb hj hown hK hP hI dX13_factsOf_19 (fun h_10 => ?_)
            have J65 : ∀ (H : Heap) (locs : List Loc) (ls : Array Slot), va_P (dC, dI) vwCl (mG ad ca g a) H → va_S A s.heap H locs → lv_has ls 6 [(5, .int (iI v5_16)), (4, .int (iI v4_16)), (3, .int (iI v3_4)), (2, .int (iI v2_4)), (0, .ref (ad 0)), (1, .int (iI p1))] → W p l e ({ frames := 0, cells := 0, slots := 0, locals := 0 }) s m ([.ref (ad 0), .int (iI p1)] : List Value).toArray below meth c H locs 0 0 Q (F0 m 65 ls []) := by
              intro H locs ls hP hS hl
              refine lv_iload_n hx hb dX13_factsOf_65 rfl (lv_at hl 3 rfl) ?_
              refine lv_iload hx hb dX13_factsOf_66 (lv_at hl 1 rfl) ?_
              have J76 : ∀ (s0_76 : Int) (H : Heap) (locs : List Loc) (ls : Array Slot), (0 ≤ s0_76 ∧ s0_76 ≤ 1) → va_P (dC, dI) vwCl (mG ad ca g a) H → va_S A s.heap H locs → lv_has ls 6 [(5, .int (iI v5_16)), (4, .int (iI v4_16)), (3, .int (iI v3_4)), (2, .int (iI v2_4)), (0, .ref (ad 0)), (1, .int (iI p1))] → W p l e ({ frames := 0, cells := 0, slots := 0, locals := 0 }) s m ([.ref (ad 0), .int (iI p1)] : List Value).toArray below meth c H locs 0 0 Q (F0 m 76 ls [.int (iI s0_76), .int (iI v2_4)]) := by
                intro s0_76 H locs ls h_11 hP hS hl
                refine xr_add hx hb dX13_factsOf_76 ?_
                refine xr_kept (fun z_12 h_13 h_14 => ?_)
                refine lv_istore_n (lv' := [(2, .int (iI z_12)), (5, .int (iI v5_16)), (4, .int (iI v4_16)), (3, .int (iI v3_4)), (0, .ref (ad 0)), (1, .int (iI p1))]) hx hb dX13_factsOf_77 rfl hl (by decide) rfl (fun ls hl => ?_)
                refine lv_iinc (v := iI (v3_4 + 1)) (lv' := [(3, .int (iI (v3_4 + 1))), (2, .int (iI z_12)), (5, .int (iI v5_16)), (4, .int (iI v4_16)), (0, .ref (ad 0)), (1, .int (iI p1))]) hx hb dX13_factsOf_78 hl (k := 3) rfl (iI_add _ _) (by decide) rfl (fun ls hl => ?_)
                refine lv_goto (tgt := 4) hx hb dX13_factsOf_81 (by decide) ?_
                exact ih4 (v3_4 + 1) z_12 H locs ls (by omega) (by omega) (by omega) hP hS (lv_sub hl [0, 1, 4, 5] rfl)
              refine xr_if_eq (tgt := 75) hx hb dX13_factsOf_68 (by decide) (by omega) (fun h_15 => ?_) (fun h_15 => ?_)
              · refine lv_iconst (v := iI 0) hx hb dX13_factsOf_75 rfl ?_
                exact J76 0 H locs ls (by omega) hP hS hl
              · refine lv_iconst (v := iI 1) hx hb dX13_factsOf_71 rfl ?_
                refine lv_goto (tgt := 76) hx hb dX13_factsOf_72 (by decide) ?_
                exact J76 1 H locs ls (by omega) hP hS hl
            refine xr_icmp_ge (tgt := 65) hx hb dX13_factsOf_22 (by decide) (by omega) (by omega) (fun h_16 => ?_) (fun h_16 => ?_)
            · exact J65 H locs ls hP hS hl
            · refine lv_iload hx hb dX13_factsOf_25 (lv_at hl 1 rfl) ?_
              refine xr_if_ne (tgt := 65) hx hb dX13_factsOf_27 (by decide) (by omega) (fun h_17 => ?_) (fun h_17 => ?_)
              · exact J65 H locs ls hP hS hl
              · refine lv_aload_n hx hb dX13_factsOf_30 rfl (lv_at hl 4 rfl) ?_
                refine gf_lineOf hx hb hj hown hK hP dX13_factsOf_31 ?_
                refine lv_iload hx hb dX13_factsOf_34 (lv_at hl 0 rfl) ?_
                refine ld_lineOf hx hb hK hP hI (by omega) (by omega) dX13_factsOf_36 (fun h_18 => ?_)
                refine lv_iload_n hx hb dX13_factsOf_37 rfl (lv_at hl 5 rfl) ?_
                have J57 : ∀ (s0_57 : Int) (H : Heap) (locs : List Loc) (ls : Array Slot), (0 ≤ s0_57 ∧ s0_57 ≤ 1) → va_P (dC, dI) vwCl (mG ad ca g a) H → va_S A s.heap H locs → lv_has ls 6 [(5, .int (iI v5_16)), (4, .int (iI v4_16)), (3, .int (iI v3_4)), (2, .int (iI v2_4)), (0, .ref (ad 0)), (1, .int (iI p1))] → W p l e ({ frames := 0, cells := 0, slots := 0, locals := 0 }) s m ([.ref (ad 0), .int (iI p1)] : List Value).toArray below meth c H locs 0 0 Q (F0 m 57 ls [.int (iI s0_57)]) := by
                  intro s0_57 H locs ls h_19 hP hS hl
                  refine lv_istore (lv' := [(4, .int (iI s0_57)), (5, .int (iI v5_16)), (3, .int (iI v3_4)), (2, .int (iI v2_4)), (0, .ref (ad 0)), (1, .int (iI p1))]) hx hb dX13_factsOf_57 hl (by decide) rfl (fun ls hl => ?_)
                  refine lv_iinc (v := iI (v5_16 + 1)) (lv' := [(5, .int (iI (v5_16 + 1))), (4, .int (iI s0_57)), (3, .int (iI v3_4)), (2, .int (iI v2_4)), (0, .ref (ad 0)), (1, .int (iI p1))]) hx hb dX13_factsOf_59 hl (k := 1) rfl (iI_add _ _) (by decide) rfl (fun ls hl => ?_)
                  refine lv_goto (tgt := 16) hx hb dX13_factsOf_62 (by decide) ?_
                  exact ih16 (v5_16 + 1) s0_57 H locs ls (by omega) (by omega) (by omega) hP hS hl
                have J56 : ∀ (H : Heap) (locs : List Loc) (ls : Array Slot), va_P (dC, dI) vwCl (mG ad ca g a) H → va_S A s.heap H locs → lv_has ls 6 [(5, .int (iI v5_16)), (4, .int (iI v4_16)), (3, .int (iI v3_4)), (2, .int (iI v2_4)), (0, .ref (ad 0)), (1, .int (iI p1))] → W p l e ({ frames := 0, cells := 0, slots := 0, locals := 0 }) s m ([.ref (ad 0), .int (iI p1)] : List Value).toArray below meth c H locs 0 0 Q (F0 m 56 ls []) := by
                  intro H locs ls hP hS hl
                  refine lv_iconst (v := iI 0) hx hb dX13_factsOf_56 rfl ?_
                  exact J57 0 H locs ls (by omega) hP hS hl
                refine xr_icmp_ne (tgt := 56) hx hb dX13_factsOf_38 (by decide) (by omega) (by omega) (fun h_20 => ?_) (fun h_20 => ?_)
                · exact J56 H locs ls hP hS hl
                · refine lv_aload_n hx hb dX13_factsOf_41 rfl (lv_at hl 4 rfl) ?_
                  refine gf_lineFact hx hb hj hown hK hP dX13_factsOf_42 ?_
                  refine lv_iload hx hb dX13_factsOf_45 (lv_at hl 0 rfl) ?_
                  refine ld_lineFact hx hb hK hP hI (by omega) (by omega) dX13_factsOf_47 (fun h_21 => ?_)
                  refine lv_iload_n hx hb dX13_factsOf_48 rfl (lv_at hl 2 rfl) ?_
                  refine xr_icmp_ne (tgt := 56) hx hb dX13_factsOf_49 (by decide) (by omega) (by omega) (fun h_22 => ?_) (fun h_22 => ?_)
                  · exact J56 H locs ls hP hS hl
                  · refine lv_iconst (v := iI 1) hx hb dX13_factsOf_52 rfl ?_
                    refine lv_goto (tgt := 57) hx hb dX13_factsOf_53 (by decide) ?_
                    exact J57 1 H locs ls (by omega) hP hS hl
        exact L16 ((((g 56) - 0 : Int)).toNat + 1) 0 0 H locs ls (by omega) (by omega) (by omega) hP hS hl
  exact L4 (((40 - 0 : Int)).toNat + 1) 0 0 H locs ls (by omega) (by omega) (by omega) hP hS hl
