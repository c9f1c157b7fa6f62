set_option maxHeartbeats 2000000 in
set_option maxRecDepth 100000 in
theorem sX12_erratum (l : Launch) (dC : Nat → ClassId) (dI : Nat → Nat → Nat) (sz : Nat) (L : List Nat) (cid : Nat → ClassId) (K : Int → Nat) (N : Int → Int) (tW : Nat) (sK sV : Nat → Nat) (v : Int → Int → Int) (p0 : Int) (p1 : Int) (p2 : Int) (p3 : Int) (hI : xI L K N v) (q0 : ok L K p0 12) (q1 : rg p1) (q2 : rg p2) (q3 : rg p3) : Met l yX12_erratum (jk yX12_erratum cX12_erratum 6 (some .int)) ({ frames := 2, cells := 0, slots := 0, locals := 43 }) (va_Pc [.ref p0.toNat, .int (iI p1), .int (iI p2), .int (iI p3)] (xP (dC, dI) (xG L cid K N v) (xT cid) tW sK sV sz)) (va_Qi (fun (r : Int32) (u : (Int → Int → Int)) => ∃ z : Int, r = iI z ∧ (xI L K N u) ∧ (fr K [(5, 11), (47, (-1)), (48, (-1)), (49, (-1)), (50, (-1)), (51, (-1))] u v) ∧ (rg z)) (fun u t => va_P (dC, dI) vwCl (xG L cid K N u) t.heap ∧ va_K (dC, dI) vwCl (xT cid) t ∧ va_D (va_A (xG L cid K N v) sz) (xG L cid K N u)) (va_A (xG L cid K N v) sz)) 0 0 (va_A (xG L cid K N v) sz) := by
  sorry
set_option maxHeartbeats 2000000 in
set_option maxRecDepth 100000 in
theorem sX12_misses (l : Launch) (dC : Nat → ClassId) (dI : Nat → Nat → Nat) (sz : Nat) (L : List Nat) (cid : Nat → ClassId) (K : Int → Nat) (N : Int → Int) (tW : Nat) (sK sV : Nat → Nat) (v : Int → Int → Int) (p0 : Int) (p1 : Int) (hI : xI L K N v) (q0 : ok L K p0 12) (q1 : rg p1) : Met l yX12_misses (jk yX12_misses cX12_misses 2 (some .int)) ({ frames := 1, cells := 0, slots := 0, locals := 21 }) (va_Pc [.ref p0.toNat, .int (iI p1)] (xP (dC, dI) (xG L cid K N v) (xT cid) tW sK sV sz)) (va_Qi (fun (r : Int32) (_ : Unit) => ∃ z : Int, r = iI z ∧ (rg z)) (fun _ _ => True) (va_A [] sz)) 0 0 (va_A [] sz) := by
  sorry
set_option maxHeartbeats 2000000 in
set_option maxRecDepth 100000 in
theorem sX12_pageOf (l : Launch) (dC : Nat → ClassId) (dI : Nat → Nat → Nat) (sz : Nat) (p0 : Int) (p1 : Int) (q1 : rg p1) : Met l yX12_pageOf (jk yX12_pageOf cX12_pageOf 2 (some .int)) ({ frames := 0, cells := 0, slots := 0, locals := 0 }) (va_Pc [.ref p0.toNat, .int (iI p1)] (fun U => U.heap.size = sz)) (va_Qi (fun (r : Int32) (_ : Unit) => ∃ z : Int, r = iI z ∧ (rg z)) (fun _ _ => True) (va_A [] sz)) 0 0 (va_A [] sz) := by
  sorry
set_option maxHeartbeats 2000000 in
set_option maxRecDepth 100000 in
theorem sX12_told (l : Launch) (dC : Nat → ClassId) (dI : Nat → Nat → Nat) (sz : Nat) (L : List Nat) (cid : Nat → ClassId) (K : Int → Nat) (N : Int → Int) (tW : Nat) (sK sV : Nat → Nat) (v : Int → Int → Int) (p0 : Int) (p1 : Int) (p2 : Int) (hI : xI L K N v) (q0 : ok L K p0 12) (q1 : rg p1) (q2 : rg p2) : Met l yX12_told (jk yX12_told cX12_told 4 (some .int)) ({ frames := 1, cells := 0, slots := 0, locals := 25 }) (va_Pc [.ref p0.toNat, .int (iI p1), .int (iI p2)] (xP (dC, dI) (xG L cid K N v) (xT cid) tW sK sV sz)) (va_Qi (fun (r : Int32) (_ : Unit) => ∃ z : Int, r = iI z ∧ (rg z)) (fun _ _ => True) (va_A [] sz)) 0 0 (va_A [] sz) := by
  sorry
set_option maxHeartbeats 2000000 in
set_option maxRecDepth 100000 in
theorem sX12_rowMayBeSet (l : Launch) (dC : Nat → ClassId) (dI : Nat → Nat → Nat) (sz : Nat) (L : List Nat) (cid : Nat → ClassId) (K : Int → Nat) (N : Int → Int) (tW : Nat) (sK sV : Nat → Nat) (v : Int → Int → Int) (p0 : Int) (hI : xI L K N v) (q0 : ok L K p0 12) : Met l yX12_rowMayBeSet (jk yX12_rowMayBeSet cX12_rowMayBeSet 3 (some .boolean)) ({ frames := 5, cells := 0, slots := 0, locals := 139 }) (va_Pc [.ref p0.toNat] (xP (dC, dI) (xG L cid K N v) (xT cid) tW sK sV sz)) (va_Qi (fun (r : Int32) (u : (Int → Int → Int)) => ∃ z : Int, r = iI z ∧ (xI L K N u) ∧ (fr K [(33, (-1)), (34, (-1))] u v) ∧ (0 ≤ z ∧ z ≤ 1)) (fun u t => va_P (dC, dI) vwCl (xG L cid K N u) t.heap ∧ va_K (dC, dI) vwCl (xT cid) t ∧ va_D (va_A (xG L cid K N v) sz) (xG L cid K N u)) (va_A (xG L cid K N v) sz)) 0 0 (va_A (xG L cid K N v) sz) := by
  sorry
set_option maxHeartbeats 2000000 in
set_option maxRecDepth 100000 in
theorem sX12_linesInRow (l : Launch) (dC : Nat → ClassId) (dI : Nat → Nat → Nat) (sz : Nat) (L : List Nat) (cid : Nat → ClassId) (K : Int → Nat) (N : Int → Int) (tW : Nat) (sK sV : Nat → Nat) (v : Int → Int → Int) (p0 : Int) (hI : xI L K N v) (q0 : ok L K p0 12) : Met l yX12_linesInRow (jk yX12_linesInRow cX12_linesInRow 4 (some .int)) ({ frames := 2, cells := 0, slots := 0, locals := 42 }) (va_Pc [.ref p0.toNat] (xP (dC, dI) (xG L cid K N v) (xT cid) tW sK sV sz)) (va_Qi (fun (r : Int32) (_ : Unit) => ∃ z : Int, r = iI z ∧ (0 ≤ z ∧ z ≤ 12000)) (fun _ _ => True) (va_A [] sz)) 0 0 (va_A [] sz) := by
  sorry
set_option maxHeartbeats 2000000 in
set_option maxRecDepth 100000 in
theorem sX12_layLines (l : Launch) (dC : Nat → ClassId) (dI : Nat → Nat → Nat) (sz : Nat) (L : List Nat) (cid : Nat → ClassId) (K : Int → Nat) (N : Int → Int) (tW : Nat) (sK sV : Nat → Nat) (v : Int → Int → Int) (p0 : Int) (p1 : Int) (p2 : Int) (hI : xI L K N v) (q0 : ok L K p0 12) (q1 : ok L K p1 11) (q2 : ok L K p2 0) : Met l yX12_layLines (jk yX12_layLines cX12_layLines 6 none) ({ frames := 1, cells := 0, slots := 0, locals := 21 }) (va_Pc [.ref p0.toNat, .ref p1.toNat, .ref p2.toNat] (xP (dC, dI) (xG L cid K N v) (xT cid) tW sK sV sz)) (va_Qv (fun (u : (Int → Int → Int)) => (xI L K N u) ∧ (fr K [(4, 7), (11, 4), (64, (-1))] u v)) (fun u t => va_P (dC, dI) vwCl (xG L cid K N u) t.heap ∧ va_K (dC, dI) vwCl (xT cid) t ∧ va_D (va_A (xG L cid K N v) sz) (xG L cid K N u)) (va_A (xG L cid K N v) sz)) 0 0 (va_A (xG L cid K N v) sz) := by
  sorry
set_option maxHeartbeats 2000000 in
set_option maxRecDepth 100000 in
theorem sX12_takenLines (l : Launch) (dC : Nat → ClassId) (dI : Nat → Nat → Nat) (sz : Nat) (L : List Nat) (cid : Nat → ClassId) (K : Int → Nat) (N : Int → Int) (tW : Nat) (sK sV : Nat → Nat) (v : Int → Int → Int) (p0 : Int) (p1 : Int) (hI : xI L K N v) (q0 : ok L K p0 12) (q1 : ok L K p1 0) : Met l yX12_takenLines (jk yX12_takenLines cX12_takenLines 2 (some .int)) ({ frames := 0, cells := 0, slots := 0, locals := 0 }) (va_Pc [.ref p0.toNat, .ref p1.toNat] (xP (dC, dI) (xG L cid K N v) (xT cid) tW sK sV sz)) (va_Qi (fun (r : Int32) (_ : Unit) => ∃ z : Int, r = iI z ∧ (rg z)) (fun _ _ => True) (va_A [] sz)) 0 0 (va_A [] sz) := by
  sorry
set_option maxHeartbeats 2000000 in
set_option maxRecDepth 100000 in
theorem sX12_page (l : Launch) (dC : Nat → ClassId) (dI : Nat → Nat → Nat) (sz : Nat) (L : List Nat) (cid : Nat → ClassId) (K : Int → Nat) (N : Int → Int) (tW : Nat) (sK sV : Nat → Nat) (v : Int → Int → Int) (p0 : Int) (p1 : Int) (hI : xI L K N v) (q0 : ok L K p0 12) (q1 : rg p1) : Met l yX12_page (jk yX12_page cX12_page 3 (some .int)) ({ frames := 1, cells := 0, slots := 0, locals := 21 }) (va_Pc [.ref p0.toNat, .int (iI p1)] (xP (dC, dI) (xG L cid K N v) (xT cid) tW sK sV sz)) (va_Qi (fun (r : Int32) (_ : Unit) => ∃ z : Int, r = iI z ∧ (rg z)) (fun _ _ => True) (va_A [] sz)) 0 0 (va_A [] sz) := by
  sorry
set_option maxHeartbeats 2000000 in
set_option maxRecDepth 100000 in
theorem sX12_isAway (l : Launch) (dC : Nat → ClassId) (dI : Nat → Nat → Nat) (sz : Nat) (L : List Nat) (cid : Nat → ClassId) (K : Int → Nat) (N : Int → Int) (tW : Nat) (sK sV : Nat → Nat) (v : Int → Int → Int) (p0 : Int) (p1 : Int) (hI : xI L K N v) (q0 : ok L K p0 12) (q1 : ok L K p1 0) : Met l yX12_isAway (jk yX12_isAway cX12_isAway 2 (some .boolean)) ({ frames := 2, cells := 0, slots := 0, locals := 42 }) (va_Pc [.ref p0.toNat, .ref p1.toNat] (xP (dC, dI) (xG L cid K N v) (xT cid) tW sK sV sz)) (va_Qi (fun (r : Int32) (_ : Unit) => ∃ z : Int, r = iI z ∧ (0 ≤ z ∧ z ≤ 1)) (fun _ _ => True) (va_A [] sz)) 0 0 (va_A [] sz) := by
  sorry
set_option maxHeartbeats 2000000 in
set_option maxRecDepth 100000 in
theorem sX12_endOf (l : Launch) (dC : Nat → ClassId) (dI : Nat → Nat → Nat) (sz : Nat) (L : List Nat) (cid : Nat → ClassId) (K : Int → Nat) (N : Int → Int) (tW : Nat) (sK sV : Nat → Nat) (v : Int → Int → Int) (p0 : Int) (p1 : Int) (hI : xI L K N v) (q0 : ok L K p0 12) (q1 : ok L K p1 0) : Met l yX12_endOf (jk yX12_endOf cX12_endOf 4 (some (.object "BookOfAll$Entry"))) ({ frames := 1, cells := 0, slots := 0, locals := 21 }) (va_Pc [.ref p0.toNat, .ref p1.toNat] (xP (dC, dI) (xG L cid K N v) (xT cid) tW sK sV sz)) (va_Qq (fun (r : Option Nat) (_ : Unit) => ∃ z : Int, r = opt z ∧ (z < 0 ∨ ok L K z 0)) (fun _ _ => True) (va_A [] sz)) 0 0 (va_A [] sz) := by
  sorry
set_option maxHeartbeats 2000000 in
set_option maxRecDepth 100000 in
theorem sX12_isBrokenOnTheWay (l : Launch) (dC : Nat → ClassId) (dI : Nat → Nat → Nat) (sz : Nat) (L : List Nat) (cid : Nat → ClassId) (K : Int → Nat) (N : Int → Int) (tW : Nat) (sK sV : Nat → Nat) (v : Int → Int → Int) (p0 : Int) (p1 : Int) (hI : xI L K N v) (q0 : ok L K p0 12) (q1 : ok L K p1 0) : Met l yX12_isBrokenOnTheWay (jk yX12_isBrokenOnTheWay cX12_isBrokenOnTheWay 4 (some .boolean)) ({ frames := 3, cells := 0, slots := 0, locals := 63 }) (va_Pc [.ref p0.toNat, .ref p1.toNat] (xP (dC, dI) (xG L cid K N v) (xT cid) tW sK sV sz)) (va_Qi (fun (r : Int32) (_ : Unit) => ∃ z : Int, r = iI z ∧ (0 ≤ z ∧ z ≤ 1)) (fun _ _ => True) (va_A [] sz)) 0 0 (va_A [] sz) := by
  sorry
set_option maxHeartbeats 2000000 in
set_option maxRecDepth 100000 in
theorem sX12_promise (l : Launch) (dC : Nat → ClassId) (dI : Nat → Nat → Nat) (sz : Nat) (L : List Nat) (cid : Nat → ClassId) (K : Int → Nat) (N : Int → Int) (tW : Nat) (sK sV : Nat → Nat) (v : Int → Int → Int) (p0 : Int) (p1 : Int) (hI : xI L K N v) (q0 : ok L K p0 12) (q1 : rg p1) : Met l yX12_promise (jk yX12_promise cX12_promise 4 (some .int)) ({ frames := 4, cells := 0, slots := 0, locals := 86 }) (va_Pc [.ref p0.toNat, .int (iI p1)] (xP (dC, dI) (xG L cid K N v) (xT cid) tW sK sV sz)) (va_Qi (fun (r : Int32) (_ : Unit) => ∃ z : Int, r = iI z ∧ (rg z)) (fun _ _ => True) (va_A [] sz)) 0 0 (va_A [] sz) := by
  sorry
set_option maxHeartbeats 2000000 in
set_option maxRecDepth 100000 in
theorem sX12_ends (l : Launch) (dC : Nat → ClassId) (dI : Nat → Nat → Nat) (sz : Nat) (L : List Nat) (cid : Nat → ClassId) (K : Int → Nat) (N : Int → Int) (tW : Nat) (sK sV : Nat → Nat) (v : Int → Int → Int) (p0 : Int) (p1 : Int) (hI : xI L K N v) (q0 : ok L K p0 12) (q1 : rg p1) : Met l yX12_ends (jk yX12_ends cX12_ends 4 (some .int)) ({ frames := 2, cells := 0, slots := 0, locals := 44 }) (va_Pc [.ref p0.toNat, .int (iI p1)] (xP (dC, dI) (xG L cid K N v) (xT cid) tW sK sV sz)) (va_Qi (fun (r : Int32) (_ : Unit) => ∃ z : Int, r = iI z ∧ (rg z)) (fun _ _ => True) (va_A [] sz)) 0 0 (va_A [] sz) := by
  sorry
set_option maxHeartbeats 2000000 in
set_option maxRecDepth 100000 in
theorem sX12_promised (l : Launch) (dC : Nat → ClassId) (dI : Nat → Nat → Nat) (sz : Nat) (L : List Nat) (cid : Nat → ClassId) (K : Int → Nat) (N : Int → Int) (tW : Nat) (sK sV : Nat → Nat) (v : Int → Int → Int) (p0 : Int) (p1 : Int) (hI : xI L K N v) (q0 : ok L K p0 12) (q1 : rg p1) : Met l yX12_promised (jk yX12_promised cX12_promised 6 (some .int)) ({ frames := 2, cells := 0, slots := 0, locals := 44 }) (va_Pc [.ref p0.toNat, .int (iI p1)] (xP (dC, dI) (xG L cid K N v) (xT cid) tW sK sV sz)) (va_Qi (fun (r : Int32) (_ : Unit) => ∃ z : Int, r = iI z ∧ (rg z)) (fun _ _ => True) (va_A [] sz)) 0 0 (va_A [] sz) := by
  refine Met.ofW (cc := cX12_promised) (maxL := 6) (ret := (some .int)) (by decide) rfl ?_
  intro p e s m args below meth c s₁ B hml hv
  obtain ⟨rfl, ⟨hsz, hP, hK, hD0⟩, hX⟩ := hv
  have hx := B.exec
  have hb := B.bytes
  have hr := B.returns
  have hts := atoms_spec (ws := (jk yX12_promised cX12_promised 6 (some .int))) B.pre
  have hj : ∀ w ∈ jw, w.before ([.ref p0.toNat, .int (iI p1)] : List Value).toArray s = true := fun w h => hts w (jm h)
  have hown : s.vm.findClass RX12 = some m.cls := findClass_of_methodNamed B.named
  subst hsz
  have hDw := hD0.self (sz := s.heap.size)
  have hAA : ∀ q : Nat, s.heap.size ≤ q → va_A (xG L cid K N v) s.heap.size q := fun q h => Or.inr h
  have hAw : ∀ q, va_A [] s.heap.size q → va_A (xG L cid K N v) s.heap.size q := ja_nil va_S.rf hAA
  generalize hAe : (va_A [] s.heap.size) = A at hAw ⊢
  have hA : ∀ q : Nat, s.heap.size ≤ q → A q := fun q h => by rw [← hAe]; exact Or.inr h
  have hS : va_S A s.heap s.heap [] := va_S.rf
  have hXa := hX.nar hAw
  have hP : va_P (dC, dI) vwCl (xG L cid K N v) s.heap := hP
  have hl := lv_entry ([.ref p0.toNat, .int (iI p1)]) (n := 6) (Nat.le_of_ble_eq_true rfl)
  rw [lg_entry_eq]
  generalize (lg_sl ([.ref p0.toNat, .int (iI p1)]) ++ List.replicate (6 - (lg_sl ([.ref p0.toNat, .int (iI p1)])).length) Slot.unset).toArray = ls at hl ⊢
  have hl : lv_has ls 6 [(0, .ref p0.toNat), (1, .int (iI p1))] := hl
  generalize hQ : MQ below (va_Qi (fun (r : Int32) (_ : Unit) => ∃ z : Int, r = iI z ∧ (rg z)) (fun _ _ => True) A) ([.ref p0.toNat, .int (iI p1)] : List Value).toArray s 0 0 A = Q
  suffices ST : ∀ (H : Heap) (locs : List Loc), va_P (dC, dI) vwCl (xG L cid K N v) H → va_S A s.heap H locs → W p l e ({ frames := 2, cells := 0, slots := 0, locals := 44 }) s m ([.ref p0.toNat, .int (iI p1)] : List Value).toArray below meth c H locs 0 0 Q (F0 m 0 ls []) from ST _ _ hP hS
  clear hP hS
  intro H locs hP hS
  refine lv_aload_n hx hb dX12_promised_0 rfl (lv_at hl 0 rfl) ?_
  refine lv_iload_n hx hb dX12_promised_1 rfl (lv_at hl 1 rfl) ?_
  refine jc_q (va_runV (As := [.int (iI p1)]) (rest := []) ⟨hx, hb, hml, hown, hts⟩ (sX12_handAt l dC dI _ L cid K N tW sK sV v p0 p1 hI q0 (by omega)) (cwV 1 hts (jgoodV m_1056 m_1057 m_1058 m_873 m_1059) rfl rfl rfl (by decide +kernel) ⟨(Nat.le_of_ble_eq_true rfl), (Nat.le_of_ble_eq_true rfl)⟩) ⟨xP_blind, xrecv hK hP q0 rfl rfl, fun U hU hW => ⟨rfl, xP_of hU hW hP hK hDw hX hS hAw hAA⟩⟩ rfl rfl hl.1 rfl (lv_room (Nat.le_of_ble_eq_true rfl)) dX12_promised_2 ⟨(Nat.le_of_ble_eq_true rfl), (Nat.le_of_ble_eq_true rfl)⟩) hP hS hA (fun r_1 H locs w_2 hP hS => ?_)
  obtain ⟨z_3, rfl, h_4, h_5⟩ := w_2
  have h_6 : 0 ≤ v p0 11 ∧ v p0 11 ≤ 12 := xf_12_11 hI q0
  have h_7 : ok L K (v p0 10) 38 := xf_12_10 hI q0
  have h_8 : N (v p0 10) = 12 := xn_38 hI h_7
  refine jt_q (rv z_3) rfl ?_
  refine xq_ifnonnull (tgt := 10) hx hb dX12_promised_5 (by decide) (fun h_9 => ?_) (fun h_9 => ?_)
  · have h_10 : ok L K z_3 2 := h_4.resolve_left (by omega)
    refine lv_iconst (v := iI 0) hx hb dX12_promised_10 rfl ?_
    refine lv_istore_n (i := 2) (lv' := [(2, .int (iI 0)), (0, .ref p0.toNat), (1, .int (iI p1))]) hx hb dX12_promised_11 rfl hl (by decide) rfl (fun ls hl => ?_)
    refine lv_iconst (v := iI 0) hx hb dX12_promised_12 rfl ?_
    refine lv_istore_n (i := 3) (lv' := [(3, .int (iI 0)), (2, .int (iI 0)), (0, .ref p0.toNat), (1, .int (iI p1))]) hx hb dX12_promised_13 rfl hl (by decide) rfl (fun ls hl => ?_)
    have L14 : ∀ (n14 : Nat) (a3_14 a2_14 : Int) (H : Heap) (locs : List Loc) (ls : Array Slot), (0 ≤ a3_14 ∧ a3_14 ≤ 2147483647) → ((-2147483648) ≤ a2_14 ∧ a2_14 ≤ 2147483647) → (0 < (n14 : Int) ∧ (v p0 7) - a3_14 < (n14 : Int)) → va_P (dC, dI) vwCl (xG L cid K N v) H → va_S A s.heap H locs → lv_has ls 6 [(3, .int (iI a3_14)), (2, .int (iI a2_14)), (0, .ref p0.toNat), (1, .int (iI p1))] → W p l e ({ frames := 2, cells := 0, slots := 0, locals := 44 }) s m ([.ref p0.toNat, .int (iI p1)] : List Value).toArray below meth c H locs 0 0 Q (F0 m 14 ls []) := by
      intro n14
      induction n14 with
      | zero =>
        intro a3_14 a2_14 H locs ls h_11 h_12 hm14 hP hS hl
        exfalso; omega
      | succ n14 ih14 =>
        intro a3_14 a2_14 H locs ls h_13 h_14 hm14 hP hS hl
        refine lv_iload_n hx hb dX12_promised_14 rfl (lv_at hl 0 rfl) ?_
        refine lv_aload_n hx hb dX12_promised_15 rfl (lv_at hl 2 rfl) ?_
        have h_15 : 0 ≤ v p0 7 ∧ v p0 7 ≤ 60 := xf_12_7 hI q0
        refine gx_RX12_203 (y := v p0 7) hx hb hj hown hK hP q0 rfl dX12_promised_16 ?_
        refine xr_icmp_ge (tgt := 87) hx hb dX12_promised_19 (by decide) (by omega) (by omega) (fun h_16 => ?_) (fun h_16 => ?_)
        · refine lv_iload_n hx hb dX12_promised_87 rfl (lv_at hl 1 rfl) ?_
          rw [← hQ]
          exact W.iret (v := iI a2_14) hx hb hr (fun t ht hW => ⟨⟨iI a2_14, (), rfl, ⟨a2_14, rfl, by omega⟩, trivial⟩, hS.F ht⟩) hS.2.2 dX12_promised_88
        · refine lv_aload_n hx hb dX12_promised_22 rfl (lv_at hl 2 rfl) ?_
          refine lv_iload_n hx hb dX12_promised_23 rfl (lv_at hl 0 rfl) ?_
          refine lv_iconst (v := iI 1) hx hb dX12_promised_24 rfl ?_
          refine jc_q (va_runV (As := [.int (iI a3_14), .int (iI 1)]) (rest := []) ⟨hx, hb, hml, hown, hts⟩ (sX12_entryOfKind l dC dI _ L cid K N tW sK sV v p0 a3_14 1 hI q0 (by omega) (by omega)) (cwV 2 hts (jgoodV m_1027 m_1028 m_1029 m_873 m_1030) rfl rfl rfl (by decide +kernel) ⟨(Nat.le_of_ble_eq_true rfl), (Nat.le_of_ble_eq_true rfl)⟩) ⟨xP_blind, xrecv hK hP q0 rfl rfl, fun U hU hW => ⟨rfl, xP_of hU hW hP hK hDw hX hS hAw hAA⟩⟩ rfl rfl hl.1 rfl (lv_room (Nat.le_of_ble_eq_true rfl)) dX12_promised_25 ⟨(Nat.le_of_ble_eq_true rfl), (Nat.le_of_ble_eq_true rfl)⟩) hP hS hA (fun r_17 H locs w_18 hP hS => ?_)
          obtain ⟨z_19, rfl, h_20⟩ := w_18
          refine jt_q (rv z_19) rfl ?_
          refine xq_astore (i := 4) (lv' := [(4, rv z_19), (3, .int (iI a3_14)), (2, .int (iI a2_14)), (0, .ref p0.toNat), (1, .int (iI p1))]) hx hb dX12_promised_28 hl (by decide) rfl (fun ls hl => ?_)
          refine xq_aload hx hb dX12_promised_30 (lv_at hl 0 rfl) ?_
          have J81 : ∀ (a2_81 : Int) (H : Heap) (locs : List Loc) (ls : Array Slot), ((-2147483648) ≤ a2_81 ∧ a2_81 ≤ 2147483647) → va_P (dC, dI) vwCl (xG L cid K N v) H → va_S A s.heap H locs → lv_has ls 6 [(4, rv z_19), (3, .int (iI a3_14)), (2, .int (iI a2_81)), (0, .ref p0.toNat), (1, .int (iI p1))] → W p l e ({ frames := 2, cells := 0, slots := 0, locals := 44 }) s m ([.ref p0.toNat, .int (iI p1)] : List Value).toArray below meth c H locs 0 0 Q (F0 m 81 ls []) := by
            intro a2_81 H locs ls h_21 hP hS hl
            refine lv_iinc (v := iI (a3_14 + 1)) (lv' := [(3, .int (iI (a3_14 + 1))), (4, rv z_19), (2, .int (iI a2_81)), (0, .ref p0.toNat), (1, .int (iI p1))]) hx hb dX12_promised_81 hl (k := 1) rfl (iI_add _ _) (by decide) rfl (fun ls hl => ?_)
            refine lv_goto (tgt := 14) hx hb dX12_promised_84 (by decide) ?_
            exact ih14 (a3_14 + 1) a2_81 H locs ls (by omega) (by omega) (by omega) hP hS (lv_sub hl [0, 2, 3, 4] rfl)
          refine xq_ifnull (tgt := 81) hx hb dX12_promised_32 (by decide) (fun h_22 => ?_) (fun h_22 => ?_)
          · exact J81 a2_14 H locs ls (by omega) hP hS hl
          · have h_23 : ok L K z_19 0 := h_20.resolve_left (by omega)
            refine lv_aload_n hx hb dX12_promised_35 rfl (lv_at hl 3 rfl) ?_
            refine xq_aload hx hb dX12_promised_36 (lv_at hl 0 rfl) ?_
            refine jt_q (.ref z_19.toNat) (rv_ref (h_23).1) ?_
            refine jc_i (va_runV (As := [.ref z_19.toNat]) (rest := []) ⟨hx, hb, hml, hown, hts⟩ (sX12_isStruck l dC dI _ L cid K N tW sK sV v p0 z_19 hI q0 h_23) (cwV 1 hts (jgoodV m_1060 m_1061 m_1062 m_873 m_1063) rfl rfl rfl (by decide +kernel) ⟨(Nat.le_of_ble_eq_true rfl), (Nat.le_of_ble_eq_true rfl)⟩) ⟨xP_blind, xrecv hK hP q0 rfl rfl, fun U hU hW => ⟨rfl, xP_of hU hW hP hK hDw hX hS hAw hAA⟩⟩ rfl rfl hl.1 rfl (lv_room (Nat.le_of_ble_eq_true rfl)) dX12_promised_38 ⟨(Nat.le_of_ble_eq_true rfl), (Nat.le_of_ble_eq_true rfl)⟩) hP hS hA (fun r_24 H locs w_25 hP hS => ?_)
            obtain ⟨z_26, rfl, h_27⟩ := w_25
            refine xr_if_eq (tgt := 47) hx hb dX12_promised_41 (by decide) (by omega) (fun h_28 => ?_) (fun h_28 => ?_)
            · refine lv_aload_n hx hb dX12_promised_47 rfl (lv_at hl 3 rfl) ?_
              refine xq_aload hx hb dX12_promised_48 (lv_at hl 0 rfl) ?_
              refine jt_q (.ref z_19.toNat) (rv_ref (h_23).1) ?_
              refine jc_q (va_runV (As := [.ref z_19.toNat]) (rest := []) ⟨hx, hb, hml, hown, hts⟩ (sX12_endOf l dC dI _ L cid K N tW sK sV v p0 z_19 hI q0 h_23) (cwV 1 hts (jgoodV m_1162 m_1163 m_1164 m_873 m_1165) rfl rfl rfl (by decide +kernel) ⟨(Nat.le_of_ble_eq_true rfl), (Nat.le_of_ble_eq_true rfl)⟩) ⟨xP_blind, xrecv hK hP q0 rfl rfl, fun U hU hW => ⟨rfl, xP_of hU hW hP hK hDw hX hS hAw hAA⟩⟩ rfl rfl hl.1 rfl (lv_room (Nat.le_of_ble_eq_true rfl)) dX12_promised_50 ⟨(Nat.le_of_ble_eq_true rfl), (Nat.le_of_ble_eq_true rfl)⟩) hP hS hA (fun r_29 H locs w_30 hP hS => ?_)
              obtain ⟨z_31, rfl, h_32⟩ := w_30
              refine jt_q (rv z_31) rfl ?_
              refine xq_astore (i := 5) (lv' := [(5, rv z_31), (4, rv z_19), (3, .int (iI a3_14)), (2, .int (iI a2_14)), (0, .ref p0.toNat), (1, .int (iI p1))]) hx hb dX12_promised_53 hl (by decide) (by simp [rv_cat]) (fun ls hl => ?_)
              refine xq_aload hx hb dX12_promised_55 (lv_at hl 0 rfl) ?_
              refine xq_ifnull (tgt := 81) hx hb dX12_promised_57 (by decide) (fun h_33 => ?_) (fun h_33 => ?_)
              · exact J81 a2_14 H locs ls (by omega) hP hS (lv_sub hl [1, 2, 3, 4, 5] rfl)
              · have h_34 : ok L K z_31 0 := h_32.resolve_left (by omega)
                refine xq_aload hx hb dX12_promised_60 (lv_at hl 0 rfl) ?_
                refine jt_q (.ref z_31.toNat) (rv_ref (h_34).1) ?_
                have h_35 : (-2147483648) ≤ v z_31 14 ∧ v z_31 14 ≤ 2147483647 := xf_0_14 hI h_34
                refine gx_RX12_313 (y := v z_31 14) hx hb hj hown hK hP h_34 rfl dX12_promised_62 ?_
                refine lv_iload_n hx hb dX12_promised_65 rfl (lv_at hl 5 rfl) ?_
                refine xr_icmp_ne (tgt := 81) hx hb dX12_promised_66 (by decide) (by omega) (by omega) (fun h_36 => ?_) (fun h_36 => ?_)
                · exact J81 a2_14 H locs ls (by omega) hP hS (lv_sub hl [1, 2, 3, 4, 5] rfl)
                · refine lv_aload_n hx hb dX12_promised_69 rfl (lv_at hl 4 rfl) ?_
                  refine xq_aload hx hb dX12_promised_70 (lv_at hl 0 rfl) ?_
                  refine jt_q (.ref z_31.toNat) (rv_ref (h_34).1) ?_
                  refine jc_i (va_runV (As := [.ref z_31.toNat]) (rest := []) ⟨hx, hb, hml, hown, hts⟩ (sX12_hangs l dC dI _ L cid K N tW sK sV v p0 z_31 hI q0 h_34) (cwV 1 hts (jgoodV m_1113 m_1114 m_1115 m_873 m_1116) rfl rfl rfl (by decide +kernel) ⟨(Nat.le_of_ble_eq_true rfl), (Nat.le_of_ble_eq_true rfl)⟩) ⟨xP_blind, xrecv hK hP q0 rfl rfl, fun U hU hW => ⟨rfl, xP_of hU hW hP hK hDw hX hS hAw hAA⟩⟩ rfl rfl hl.1 rfl (lv_room (Nat.le_of_ble_eq_true rfl)) dX12_promised_72 ⟨(Nat.le_of_ble_eq_true rfl), (Nat.le_of_ble_eq_true rfl)⟩) hP hS hA (fun r_37 H locs w_38 hP hS => ?_)
                  obtain ⟨z_39, rfl, h_40⟩ := w_38
                  refine xr_if_eq (tgt := 81) hx hb dX12_promised_75 (by decide) (by omega) (fun h_41 => ?_) (fun h_41 => ?_)
                  · exact J81 a2_14 H locs ls (by omega) hP hS (lv_sub hl [1, 2, 3, 4, 5] rfl)
                  · refine lv_iinc (v := iI (a2_14 + 1)) (lv' := [(2, .int (iI (a2_14 + 1))), (5, rv z_31), (4, rv z_19), (3, .int (iI a3_14)), (0, .ref p0.toNat), (1, .int (iI p1))]) hx hb dX12_promised_78 hl (k := 3) rfl (iI_add _ _) (by decide) rfl (fun ls hl => ?_)
                    obtain ⟨z_42, h_43, h_44, e9⟩ := xr_keep (a2_14 + 1)
                    rw [e9] at hl
                    exact J81 z_42 H locs ls (by omega) hP hS (lv_sub hl [2, 3, 0, 4, 5] rfl)
            · refine lv_goto (tgt := 81) hx hb dX12_promised_44 (by decide) ?_
              exact J81 a2_14 H locs ls (by omega) hP hS hl
    exact L14 ((((v p0 7) - 0 : Int)).toNat + 1) 0 0 H locs ls (by omega) (by omega) (by omega) hP hS hl
  · refine lv_iconst (v := iI (-1)) hx hb dX12_promised_8 rfl ?_
    rw [← hQ]
    exact W.iret (v := iI (-1)) hx hb hr (fun t ht hW => ⟨⟨iI (-1), (), rfl, ⟨(-1), rfl, by omega⟩, trivial⟩, hS.F ht⟩) hS.2.2 dX12_promised_9
set_option maxHeartbeats 2000000 in
set_option maxRecDepth 100000 in
theorem sX12_subscribe (l : Launch) (dC : Nat → ClassId) (dI : Nat → Nat → Nat) (sz : Nat) (L : List Nat) (cid : Nat → ClassId) (K : Int → Nat) (N : Int → Int) (tW : Nat) (sK sV : Nat → Nat) (v : Int → Int → Int) (p0 : Int) (p1 : Int) (p2 : Int) (p3 : Int) (hI : xI L K N v) (q0 : ok L K p0 12) (q1 : rg p1) (q2 : rg p2) (q3 : rg p3) : Met l yX12_subscribe (jk yX12_subscribe cX12_subscribe 4 (some .boolean)) ({ frames := 1, cells := 0, slots := 0, locals := 21 }) (va_Pc [.ref p0.toNat, .int (iI p1), .int (iI p2), .int (iI p3)] (xP (dC, dI) (xG L cid K N v) (xT cid) tW sK sV sz)) (va_Qi (fun (r : Int32) (u : (Int → Int → Int)) => ∃ z : Int, r = iI z ∧ (xI L K N u) ∧ (fr K [(40, (-1)), (41, (-1))] u v) ∧ (0 ≤ z ∧ z ≤ 1) ∧ ((z = 0 ∧ (p1 < 0 ∨ 9 < p1 ∨ p2 < 0 ∨ 5 < p2 ∨ p3 < 1 ∨ 999 < p3 ∨ v (v p0 15) p1 ≠ -1)) ∨ (z = 1 ∧ 0 ≤ p1 ∧ p1 ≤ 9 ∧ 0 ≤ p2 ∧ p2 ≤ 5 ∧ 1 ≤ p3 ∧ p3 ≤ 999 ∧ v (v p0 15) p1 = -1)) ∧ (z = 0 → u = v) ∧ (z = 1 → u = vu (vu v (v p0 15) p1 p2) (v p0 16) p1 p3)) (fun u t => va_P (dC, dI) vwCl (xG L cid K N u) t.heap ∧ va_K (dC, dI) vwCl (xT cid) t ∧ va_D (va_A (xG L cid K N v) sz) (xG L cid K N u)) (va_A (xG L cid K N v) sz)) 0 0 (va_A (xG L cid K N v) sz) := by
  refine Met.ofW (cc := cX12_subscribe) (maxL := 4) (ret := (some .boolean)) (by decide) rfl ?_
  intro p e s m args below meth c s₁ B hml hv
  obtain ⟨rfl, ⟨hsz, hP, hK, hD0⟩, hX⟩ := hv
  have hx := B.exec
  have hb := B.bytes
  have hr := B.returns
  have hts := atoms_spec (ws := (jk yX12_subscribe cX12_subscribe 4 (some .boolean))) B.pre
  have hj : ∀ w ∈ jw, w.before ([.ref p0.toNat, .int (iI p1), .int (iI p2), .int (iI p3)] : List Value).toArray s = true := fun w h => hts w (jm h)
  have hown : s.vm.findClass RX12 = some m.cls := findClass_of_methodNamed B.named
  subst hsz
  have hD := hD0.self (sz := s.heap.size)
  generalize hAe : (va_A (xG L cid K N v) s.heap.size) = A at hD hX ⊢
  have hA : ∀ q : Nat, s.heap.size ≤ q → A q := fun q h => by rw [← hAe]; exact Or.inr h
  have hS : va_S A s.heap s.heap [] := va_S.rf
  have hXa := hX
  have hP : va_P (dC, dI) vwCl (xG L cid K N v) s.heap := hP
  have hl := lv_entry ([.ref p0.toNat, .int (iI p1), .int (iI p2), .int (iI p3)]) (n := 4) (Nat.le_of_ble_eq_true rfl)
  rw [lg_entry_eq]
  generalize (lg_sl ([.ref p0.toNat, .int (iI p1), .int (iI p2), .int (iI p3)]) ++ List.replicate (4 - (lg_sl ([.ref p0.toNat, .int (iI p1), .int (iI p2), .int (iI p3)])).length) Slot.unset).toArray = ls at hl ⊢
  have hl : lv_has ls 4 [(0, .ref p0.toNat), (1, .int (iI p1)), (2, .int (iI p2)), (3, .int (iI p3))] := hl
  generalize hQ : MQ below (va_Qi (fun (r : Int32) (u : (Int → Int → Int)) => ∃ z : Int, r = iI z ∧ (xI L K N u) ∧ (fr K [(40, (-1)), (41, (-1))] u v) ∧ (0 ≤ z ∧ z ≤ 1) ∧ ((z = 0 ∧ (p1 < 0 ∨ 9 < p1 ∨ p2 < 0 ∨ 5 < p2 ∨ p3 < 1 ∨ 999 < p3 ∨ v (v p0 15) p1 ≠ -1)) ∨ (z = 1 ∧ 0 ≤ p1 ∧ p1 ≤ 9 ∧ 0 ≤ p2 ∧ p2 ≤ 5 ∧ 1 ≤ p3 ∧ p3 ≤ 999 ∧ v (v p0 15) p1 = -1)) ∧ (z = 0 → u = v) ∧ (z = 1 → u = vu (vu v (v p0 15) p1 p2) (v p0 16) p1 p3)) (fun u t => va_P (dC, dI) vwCl (xG L cid K N u) t.heap ∧ va_K (dC, dI) vwCl (xT cid) t ∧ va_D A (xG L cid K N u)) A) ([.ref p0.toNat, .int (iI p1), .int (iI p2), .int (iI p3)] : List Value).toArray s 0 0 A = Q
  suffices ST : ∀ (H : Heap) (locs : List Loc), va_P (dC, dI) vwCl (xG L cid K N v) H → va_S A s.heap H locs → W p l e ({ frames := 1, cells := 0, slots := 0, locals := 21 }) s m ([.ref p0.toNat, .int (iI p1), .int (iI p2), .int (iI p3)] : List Value).toArray below meth c H locs 0 0 Q (F0 m 0 ls []) from ST _ _ hP hS
  clear hP hS
  intro H locs hP hS
  refine lv_aload_n hx hb dX12_subscribe_0 rfl (lv_at hl 0 rfl) ?_
  refine lv_iload_n hx hb dX12_subscribe_1 rfl (lv_at hl 1 rfl) ?_
  refine jc_i (va_runV (As := [.int (iI p1)]) (rest := []) ⟨hx, hb, hml, hown, hts⟩ (sX12_isSubscriber l dC dI _ p0 p1 (by omega)) (cwV 1 hts (jgoodV m_1170 m_1171 m_1172 m_873 m_1173) rfl rfl rfl (by decide +kernel) ⟨(Nat.le_of_ble_eq_true rfl), (Nat.le_of_ble_eq_true rfl)⟩) ⟨jw_blind0, xrecv hK hP q0 rfl rfl, fun U hU hW => ⟨rfl, congrArg Array.size hU⟩⟩ rfl rfl hl.1 rfl (lv_room (Nat.le_of_ble_eq_true rfl)) dX12_subscribe_2 ⟨(Nat.le_of_ble_eq_true rfl), (Nat.le_of_ble_eq_true rfl)⟩) hP hS hA (fun r_1 H locs w_2 hP hS => ?_)
  obtain ⟨z_3, rfl, h_4, h_5⟩ := w_2
  refine xr_if_eq (tgt := 38) hx hb dX12_subscribe_5 (by decide) (by omega) (fun h_6 => ?_) (fun h_6 => ?_)
  · refine lv_iconst (v := iI 0) hx hb dX12_subscribe_38 rfl ?_
    have h_7 : ok L K (v p0 15) 40 := xf_12_15 hI q0
    have h_8 : N (v p0 15) = 10 := xn_40 hI h_7
    have h_9 : 0 ≤ p1 → (-2147483648) ≤ v (v p0 15) p1 ∧ v (v p0 15) p1 ≤ 2147483647 := fun h9 => xe_40 hI h_7 h9
    have h_10 : ok L K (v p0 16) 41 := xf_12_16 hI q0
    have h_11 : N (v p0 16) = 10 := xn_41 hI h_10
    rw [← hQ]
    exact W.zret (v := iI 0) (ty := .boolean) hx hb hr (nb_bool (by omega) (by omega)) (fun t ht hW => ⟨⟨iI 0, v, rfl, ⟨0, rfl, hI, fr_rf, by omega, by omega, fun hz9 => by first | (exfalso; omega) | (rfl), fun hz9 => by first | (exfalso; omega) | (rfl)⟩, by rw [ht]; exact hP, va_K.moved hW.alike hK, hD⟩, hS.F ht⟩) hS.2.2 dX12_subscribe_39
  · refine lv_aload_n hx hb dX12_subscribe_8 rfl (lv_at hl 0 rfl) ?_
    refine lv_iload_n hx hb dX12_subscribe_9 rfl (lv_at hl 2 rfl) ?_
    refine jc_i (va_runV (As := [.int (iI p2)]) (rest := []) ⟨hx, hb, hml, hown, hts⟩ (sX12_isVolume l dC dI _ p0 p2 (by omega)) (cwV 1 hts (jgoodV m_985 m_986 m_987 m_873 m_988) rfl rfl rfl (by decide +kernel) ⟨(Nat.le_of_ble_eq_true rfl), (Nat.le_of_ble_eq_true rfl)⟩) ⟨jw_blind0, xrecv hK hP q0 rfl rfl, fun U hU hW => ⟨rfl, congrArg Array.size hU⟩⟩ rfl rfl hl.1 rfl (lv_room (Nat.le_of_ble_eq_true rfl)) dX12_subscribe_10 ⟨(Nat.le_of_ble_eq_true rfl), (Nat.le_of_ble_eq_true rfl)⟩) hP hS hA (fun r_12 H locs w_13 hP hS => ?_)
    obtain ⟨z_14, rfl, h_15, h_16⟩ := w_13
    refine xr_if_eq (tgt := 38) hx hb dX12_subscribe_13 (by decide) (by omega) (fun h_17 => ?_) (fun h_17 => ?_)
    · refine lv_iconst (v := iI 0) hx hb dX12_subscribe_38 rfl ?_
      have h_18 : ok L K (v p0 15) 40 := xf_12_15 hI q0
      have h_19 : N (v p0 15) = 10 := xn_40 hI h_18
      have h_20 : 0 ≤ p1 → (-2147483648) ≤ v (v p0 15) p1 ∧ v (v p0 15) p1 ≤ 2147483647 := fun h9 => xe_40 hI h_18 h9
      have h_21 : ok L K (v p0 16) 41 := xf_12_16 hI q0
      have h_22 : N (v p0 16) = 10 := xn_41 hI h_21
      rw [← hQ]
      exact W.zret (v := iI 0) (ty := .boolean) hx hb hr (nb_bool (by omega) (by omega)) (fun t ht hW => ⟨⟨iI 0, v, rfl, ⟨0, rfl, hI, fr_rf, by omega, by omega, fun hz9 => by first | (exfalso; omega) | (rfl), fun hz9 => by first | (exfalso; omega) | (rfl)⟩, by rw [ht]; exact hP, va_K.moved hW.alike hK, hD⟩, hS.F ht⟩) hS.2.2 dX12_subscribe_39
    · refine lv_iload_n hx hb dX12_subscribe_16 rfl (lv_at hl 3 rfl) ?_
      refine lv_iconst (v := iI 1) hx hb dX12_subscribe_17 rfl ?_
      refine xr_icmp_lt (tgt := 38) hx hb dX12_subscribe_18 (by decide) (by omega) (by omega) (fun h_23 => ?_) (fun h_23 => ?_)
      · refine lv_iconst (v := iI 0) hx hb dX12_subscribe_38 rfl ?_
        have h_24 : ok L K (v p0 15) 40 := xf_12_15 hI q0
        have h_25 : N (v p0 15) = 10 := xn_40 hI h_24
        have h_26 : 0 ≤ p1 → (-2147483648) ≤ v (v p0 15) p1 ∧ v (v p0 15) p1 ≤ 2147483647 := fun h9 => xe_40 hI h_24 h9
        have h_27 : ok L K (v p0 16) 41 := xf_12_16 hI q0
        have h_28 : N (v p0 16) = 10 := xn_41 hI h_27
        rw [← hQ]
        exact W.zret (v := iI 0) (ty := .boolean) hx hb hr (nb_bool (by omega) (by omega)) (fun t ht hW => ⟨⟨iI 0, v, rfl, ⟨0, rfl, hI, fr_rf, by omega, by omega, fun hz9 => by first | (exfalso; omega) | (rfl), fun hz9 => by first | (exfalso; omega) | (rfl)⟩, by rw [ht]; exact hP, va_K.moved hW.alike hK, hD⟩, hS.F ht⟩) hS.2.2 dX12_subscribe_39
      · refine lv_iload_n hx hb dX12_subscribe_21 rfl (lv_at hl 3 rfl) ?_
        refine lv_sipush (v := iI 999) hx hb dX12_subscribe_22 rfl ?_
        refine xr_icmp_gt (tgt := 38) hx hb dX12_subscribe_25 (by decide) (by omega) (by omega) (fun h_29 => ?_) (fun h_29 => ?_)
        · refine lv_iconst (v := iI 0) hx hb dX12_subscribe_38 rfl ?_
          have h_30 : ok L K (v p0 15) 40 := xf_12_15 hI q0
          have h_31 : N (v p0 15) = 10 := xn_40 hI h_30
          have h_32 : 0 ≤ p1 → (-2147483648) ≤ v (v p0 15) p1 ∧ v (v p0 15) p1 ≤ 2147483647 := fun h9 => xe_40 hI h_30 h9
          have h_33 : ok L K (v p0 16) 41 := xf_12_16 hI q0
          have h_34 : N (v p0 16) = 10 := xn_41 hI h_33
          rw [← hQ]
          exact W.zret (v := iI 0) (ty := .boolean) hx hb hr (nb_bool (by omega) (by omega)) (fun t ht hW => ⟨⟨iI 0, v, rfl, ⟨0, rfl, hI, fr_rf, by omega, by omega, fun hz9 => by first | (exfalso; omega) | (rfl), fun hz9 => by first | (exfalso; omega) | (rfl)⟩, by rw [ht]; exact hP, va_K.moved hW.alike hK, hD⟩, hS.F ht⟩) hS.2.2 dX12_subscribe_39
        · refine lv_aload_n hx hb dX12_subscribe_28 rfl (lv_at hl 0 rfl) ?_
          have h_35 : ok L K (v p0 15) 40 := xf_12_15 hI q0
          have h_36 : N (v p0 15) = 10 := xn_40 hI h_35
          refine gx_RX12_70 (y := v p0 15) hx hb hj hown hK hP q0 ((xf_12_15 hI q0).1) rfl dX12_subscribe_29 ?_
          refine lv_iload_n hx hb dX12_subscribe_32 rfl (lv_at hl 1 rfl) ?_
          have h_37 : (-2147483648) ≤ v (v p0 15) p1 ∧ v (v p0 15) p1 ≤ 2147483647 := xe_40 hI h_35 (by omega)
          refine ax_40 (y := v (v p0 15) p1) hx hb hK hP h_35 (by omega) (by omega) (by omega) rfl dX12_subscribe_33 ?_
          refine lv_iconst (v := iI (-1)) hx hb dX12_subscribe_34 rfl ?_
          refine xr_icmp_eq (tgt := 40) hx hb dX12_subscribe_35 (by decide) (by omega) (by omega) (fun h_38 => ?_) (fun h_38 => ?_)
          · refine lv_aload_n hx hb dX12_subscribe_40 rfl (lv_at hl 0 rfl) ?_
            refine gx_RX12_70 (y := v p0 15) hx hb hj hown hK hP q0 ((xf_12_15 hI q0).1) rfl dX12_subscribe_41 ?_
            refine lv_iload_n hx hb dX12_subscribe_44 rfl (lv_at hl 1 rfl) ?_
            refine lv_iload_n hx hb dX12_subscribe_45 rfl (lv_at hl 2 rfl) ?_
            refine sx_40 (y := p2) hx hb hK hP hD hS hI h_35 (by omega) (by omega) (by omega) ⟨by omega, by omega⟩ dX12_subscribe_46 (fun v_39 H locs f_40 e_41 o_42 I_43 hP hD hS => ?_)
            refine lv_aload_n hx hb dX12_subscribe_47 rfl (lv_at hl 0 rfl) ?_
            have h_44 : ok L K (v p0 16) 41 := xf_12_16 hI q0
            have h_45 : N (v p0 16) = 10 := xn_41 hI h_44
            refine gx_RX12_73 (y := v p0 16) hx hb hj hown hK hP q0 ((xf_12_16 I_43 q0).1) (fr_use q0 f_40 rfl) dX12_subscribe_48 ?_
            refine lv_iload_n hx hb dX12_subscribe_51 rfl (lv_at hl 1 rfl) ?_
            refine lv_iload_n hx hb dX12_subscribe_52 rfl (lv_at hl 3 rfl) ?_
            refine sx_41 (y := p3) hx hb hK hP hD hS I_43 h_44 (by omega) (by omega) (by omega) ⟨by omega, by omega⟩ dX12_subscribe_53 (fun v_46 H locs f_47 e_48 o_49 I_50 hP hD hS => ?_)
            refine lv_iconst (v := iI 1) hx hb dX12_subscribe_54 rfl ?_
            rw [← hQ]
            exact W.zret (v := iI 1) (ty := .boolean) hx hb hr (nb_bool (by omega) (by omega)) (fun t ht hW => ⟨⟨iI 1, v_46, rfl, ⟨1, rfl, I_50, (fr_tr f_47 rfl (fr_tr f_40 rfl fr_rf)), by omega, by omega, fun hz9 => by first | (exfalso; omega) | (rw [vu_of e_48 o_49]; rw [vu_of e_41 o_42]), fun hz9 => by first | (exfalso; omega) | (rw [vu_of e_48 o_49]; rw [vu_of e_41 o_42])⟩, by rw [ht]; exact hP, va_K.moved hW.alike hK, hD⟩, hS.F ht⟩) hS.2.2 dX12_subscribe_55
          · refine lv_iconst (v := iI 0) hx hb dX12_subscribe_38 rfl ?_
            have h_51 : ok L K (v p0 16) 41 := xf_12_16 hI q0
            have h_52 : N (v p0 16) = 10 := xn_41 hI h_51
            rw [← hQ]
            exact W.zret (v := iI 0) (ty := .boolean) hx hb hr (nb_bool (by omega) (by omega)) (fun t ht hW => ⟨⟨iI 0, v, rfl, ⟨0, rfl, hI, fr_rf, by omega, by omega, fun hz9 => by first | (exfalso; omega) | (rfl), fun hz9 => by first | (exfalso; omega) | (rfl)⟩, by rw [ht]; exact hP, va_K.moved hW.alike hK, hD⟩, hS.F ht⟩) hS.2.2 dX12_subscribe_39
set_option maxHeartbeats 2000000 in
set_option maxRecDepth 100000 in
theorem sX12_owed (l : Launch) (dC : Nat → ClassId) (dI : Nat → Nat → Nat) (sz : Nat) (L : List Nat) (cid : Nat → ClassId) (K : Int → Nat) (N : Int → Int) (tW : Nat) (sK sV : Nat → Nat) (v : Int → Int → Int) (p0 : Int) (p1 : Int) (p2 : Int) (hI : xI L K N v) (q0 : ok L K p0 12) (q1 : rg p1) (q2 : rg p2) : Met l yX12_owed (jk yX12_owed cX12_owed 5 (some .int)) ({ frames := 4, cells := 0, slots := 0, locals := 115 }) (va_Pc [.ref p0.toNat, .int (iI p1), .int (iI p2)] (xP (dC, dI) (xG L cid K N v) (xT cid) tW sK sV sz)) (va_Qi (fun (r : Int32) (u : (Int → Int → Int)) => ∃ z : Int, r = iI z ∧ (xI L K N u) ∧ (fr K [(33, (-1)), (34, (-1))] u v) ∧ (rg z)) (fun u t => va_P (dC, dI) vwCl (xG L cid K N u) t.heap ∧ va_K (dC, dI) vwCl (xT cid) t ∧ va_D (va_A (xG L cid K N v) sz) (xG L cid K N u)) (va_A (xG L cid K N v) sz)) 0 0 (va_A (xG L cid K N v) sz) := by
  sorry
set_option maxHeartbeats 2000000 in
set_option maxRecDepth 100000 in
theorem sX12_lengthWithin (l : Launch) (dC : Nat → ClassId) (dI : Nat → Nat → Nat) (sz : Nat) (p0 : Int) (p1 : Int) (q1 : rg p1) : Met l yX12_lengthWithin (jk yX12_lengthWithin cX12_lengthWithin 2 (some .int)) ({ frames := 1, cells := 0, slots := 0, locals := 40 }) (va_Pc [.ref p0.toNat, .int (iI p1)] (fun U => U.heap.size = sz)) (va_Qi (fun (r : Int32) (_ : Unit) => ∃ z : Int, r = iI z ∧ (rg z)) (fun _ _ => True) (va_A [] sz)) 0 0 (va_A [] sz) := by
  sorry
set_option maxHeartbeats 2000000 in
set_option maxRecDepth 100000 in
theorem sX12_addToFitting (l : Launch) (dC : Nat → ClassId) (dI : Nat → Nat → Nat) (sz : Nat) (L : List Nat) (cid : Nat → ClassId) (K : Int → Nat) (N : Int → Int) (tW : Nat) (sK sV : Nat → Nat) (v : Int → Int → Int) (p0 : Int) (p1 : Int) (hI : xI L K N v) (q0 : ok L K p0 12) (q1 : ok L K p1 0) : Met l yX12_addToFitting (jk yX12_addToFitting cX12_addToFitting 4 none) ({ frames := 5, cells := 0, slots := 0, locals := 139 }) (va_Pc [.ref p0.toNat, .ref p1.toNat] (xP (dC, dI) (xG L cid K N v) (xT cid) tW sK sV sz)) (va_Qv (fun (u : (Int → Int → Int)) => (xI L K N u) ∧ (fr K [(3, 5), (3, 6), (33, (-1)), (34, (-1)), (52, (-1))] u v)) (fun u t => va_P (dC, dI) vwCl (xG L cid K N u) t.heap ∧ va_K (dC, dI) vwCl (xT cid) t ∧ va_D (va_A (xG L cid K N v) sz) (xG L cid K N u)) (va_A (xG L cid K N v) sz)) 0 0 (va_A (xG L cid K N v) sz) := by
  sorry
set_option maxHeartbeats 2000000 in
set_option maxRecDepth 100000 in
theorem sX12_fit (l : Launch) (dC : Nat → ClassId) (dI : Nat → Nat → Nat) (sz : Nat) (L : List Nat) (cid : Nat → ClassId) (K : Int → Nat) (N : Int → Int) (tW : Nat) (sK sV : Nat → Nat) (v : Int → Int → Int) (p0 : Int) (p1 : Int) (p2 : Int) (hI : xI L K N v) (q0 : ok L K p0 12) (q1 : rg p1) (q2 : rg p2) : Met l yX12_fit (jk yX12_fit cX12_fit 5 (some .boolean)) ({ frames := 6, cells := 0, slots := 0, locals := 162 }) (va_Pc [.ref p0.toNat, .int (iI p1), .int (iI p2)] (xP (dC, dI) (xG L cid K N v) (xT cid) tW sK sV sz)) (va_Qi (fun (r : Int32) (u : (Int → Int → Int)) => ∃ z : Int, r = iI z ∧ (xI L K N u) ∧ (fr K [(0, 5), (3, 5), (3, 6), (6, 1), (6, 2), (6, 3), (6, 4), (6, 5), (12, 9), (33, (-1)), (34, (-1)), (37, (-1)), (52, (-1))] u v) ∧ (0 ≤ z ∧ z ≤ 1)) (fun u t => va_P (dC, dI) vwCl (xG L cid K N u) t.heap ∧ va_K (dC, dI) vwCl (xT cid) t ∧ va_D (va_A (xG L cid K N v) sz) (xG L cid K N u)) (va_A (xG L cid K N v) sz)) 0 0 (va_A (xG L cid K N v) sz) := by
  sorry
set_option maxHeartbeats 2000000 in
set_option maxRecDepth 100000 in
theorem sX12_lengths (l : Launch) (dC : Nat → ClassId) (dI : Nat → Nat → Nat) (sz : Nat) (L : List Nat) (cid : Nat → ClassId) (K : Int → Nat) (N : Int → Int) (tW : Nat) (sK sV : Nat → Nat) (v : Int → Int → Int) (p0 : Int) (p1 : Int) (p2 : Int) (hI : xI L K N v) (q0 : ok L K p0 12) (q1 : rg p1) (q2 : rg p2) : Met l yX12_lengths (jk yX12_lengths cX12_lengths 3 (some .int)) ({ frames := 7, cells := 0, slots := 0, locals := 186 }) (va_Pc [.ref p0.toNat, .int (iI p1), .int (iI p2)] (xP (dC, dI) (xG L cid K N v) (xT cid) tW sK sV sz)) (va_Qi (fun (r : Int32) (u : (Int → Int → Int)) => ∃ z : Int, r = iI z ∧ (xI L K N u) ∧ (fr K [(0, 5), (3, 5), (3, 6), (6, 1), (6, 2), (6, 3), (6, 4), (6, 5), (12, 9), (33, (-1)), (34, (-1)), (37, (-1)), (52, (-1))] u v) ∧ (rg z)) (fun u t => va_P (dC, dI) vwCl (xG L cid K N u) t.heap ∧ va_K (dC, dI) vwCl (xT cid) t ∧ va_D (va_A (xG L cid K N v) sz) (xG L cid K N u)) (va_A (xG L cid K N v) sz)) 0 0 (va_A (xG L cid K N v) sz) := by
  sorry
set_option maxHeartbeats 2000000 in
set_option maxRecDepth 100000 in
theorem sX12_length (l : Launch) (dC : Nat → ClassId) (dI : Nat → Nat → Nat) (sz : Nat) (L : List Nat) (cid : Nat → ClassId) (K : Int → Nat) (N : Int → Int) (tW : Nat) (sK sV : Nat → Nat) (v : Int → Int → Int) (p0 : Int) (p1 : Int) (p2 : Int) (hI : xI L K N v) (q0 : ok L K p0 12) (q1 : rg p1) (q2 : rg p2) : Met l yX12_length (jk yX12_length cX12_length 4 (some .int)) ({ frames := 7, cells := 0, slots := 0, locals := 186 }) (va_Pc [.ref p0.toNat, .int (iI p1), .int (iI p2)] (xP (dC, dI) (xG L cid K N v) (xT cid) tW sK sV sz)) (va_Qi (fun (r : Int32) (u : (Int → Int → Int)) => ∃ z : Int, r = iI z ∧ (xI L K N u) ∧ (fr K [(0, 5), (3, 5), (3, 6), (6, 1), (6, 2), (6, 3), (6, 4), (6, 5), (12, 9), (33, (-1)), (34, (-1)), (37, (-1)), (52, (-1))] u v) ∧ (rg z)) (fun u t => va_P (dC, dI) vwCl (xG L cid K N u) t.heap ∧ va_K (dC, dI) vwCl (xT cid) t ∧ va_D (va_A (xG L cid K N v) sz) (xG L cid K N u)) (va_A (xG L cid K N v) sz)) 0 0 (va_A (xG L cid K N v) sz) := by
  sorry
set_option maxHeartbeats 2000000 in
set_option maxRecDepth 100000 in
theorem sX12_canGive (l : Launch) (dC : Nat → ClassId) (dI : Nat → Nat → Nat) (sz : Nat) (p0 : Int) (p1 : Int) (p2 : Int) (p3 : Int) (q1 : rg p1) (q2 : rg p2) (q3 : rg p3) : Met l yX12_canGive (jk yX12_canGive cX12_canGive 6 (some .boolean)) ({ frames := 1, cells := 0, slots := 0, locals := 20 }) (va_Pc [.ref p0.toNat, .int (iI p1), .int (iI p2), .int (iI p3)] (fun U => U.heap.size = sz)) (va_Qi (fun (r : Int32) (_ : Unit) => ∃ z : Int, r = iI z ∧ (0 ≤ z ∧ z ≤ 1)) (fun _ _ => True) (va_A [] sz)) 0 0 (va_A [] sz) := by
  sorry
set_option maxHeartbeats 2000000 in
set_option maxRecDepth 100000 in
theorem sX12_addHands (l : Launch) (dC : Nat → ClassId) (dI : Nat → Nat → Nat) (sz : Nat) (L : List Nat) (cid : Nat → ClassId) (K : Int → Nat) (N : Int → Int) (tW : Nat) (sK sV : Nat → Nat) (v : Int → Int → Int) (p0 : Int) (p1 : Int) (p2 : Int) (hI : xI L K N v) (q0 : ok L K p0 12) (q1 : rg p1) (q2 : rg p2) : Met l yX12_addHands (jk yX12_addHands cX12_addHands 5 (some .boolean)) ({ frames := 2, cells := 0, slots := 0, locals := 43 }) (va_Pc [.ref p0.toNat, .int (iI p1), .int (iI p2)] (xP (dC, dI) (xG L cid K N v) (xT cid) tW sK sV sz)) (va_Qi (fun (r : Int32) (u : (Int → Int → Int)) => ∃ z : Int, r = iI z ∧ (xI L K N u) ∧ (fr K [(1, 3), (1, 7), (56, (-1)), (57, (-1)), (58, (-1))] u v) ∧ (0 ≤ z ∧ z ≤ 1)) (fun u t => va_P (dC, dI) vwCl (xG L cid K N u) t.heap ∧ va_K (dC, dI) vwCl (xT cid) t ∧ va_D (va_A (xG L cid K N v) sz) (xG L cid K N u)) (va_A (xG L cid K N v) sz)) 0 0 (va_A (xG L cid K N v) sz) := by
  sorry
set_option maxHeartbeats 2000000 in
set_option maxRecDepth 100000 in
theorem sX12_addArticles (l : Launch) (dC : Nat → ClassId) (dI : Nat → Nat → Nat) (sz : Nat) (L : List Nat) (cid : Nat → ClassId) (K : Int → Nat) (N : Int → Int) (tW : Nat) (sK sV : Nat → Nat) (v : Int → Int → Int) (p0 : Int) (p1 : Int) (hI : xI L K N v) (q0 : ok L K p0 12) (q1 : rg p1) : Met l yX12_addArticles (jk yX12_addArticles cX12_addArticles 5 (some .boolean)) ({ frames := 6, cells := 0, slots := 0, locals := 162 }) (va_Pc [.ref p0.toNat, .int (iI p1)] (xP (dC, dI) (xG L cid K N v) (xT cid) tW sK sV sz)) (va_Qi (fun (r : Int32) (u : (Int → Int → Int)) => ∃ z : Int, r = iI z ∧ (xI L K N u) ∧ (fr K [(1, 3), (33, (-1)), (34, (-1)), (53, (-1)), (54, (-1)), (55, (-1)), (58, (-1))] u v) ∧ (0 ≤ z ∧ z ≤ 1)) (fun u t => va_P (dC, dI) vwCl (xG L cid K N u) t.heap ∧ va_K (dC, dI) vwCl (xT cid) t ∧ va_D (va_A (xG L cid K N v) sz) (xG L cid K N u)) (va_A (xG L cid K N v) sz)) 0 0 (va_A (xG L cid K N v) sz) := by
  sorry
set_option maxHeartbeats 2000000 in
set_option maxRecDepth 100000 in
theorem sX12_giving (l : Launch) (dC : Nat → ClassId) (dI : Nat → Nat → Nat) (sz : Nat) (L : List Nat) (cid : Nat → ClassId) (K : Int → Nat) (N : Int → Int) (tW : Nat) (sK sV : Nat → Nat) (v : Int → Int → Int) (p0 : Int) (p1 : Int) (p2 : Int) (p3 : Int) (hI : xI L K N v) (q0 : ok L K p0 12) (q1 : rg p1) (q2 : rg p2) (q3 : rg p3) : Met l yX12_giving (jk yX12_giving cX12_giving 4 (some .int)) ({ frames := 7, cells := 0, slots := 0, locals := 186 }) (va_Pc [.ref p0.toNat, .int (iI p1), .int (iI p2), .int (iI p3)] (xP (dC, dI) (xG L cid K N v) (xT cid) tW sK sV sz)) (va_Qi (fun (r : Int32) (u : (Int → Int → Int)) => ∃ z : Int, r = iI z ∧ (xI L K N u) ∧ (fr K [(1, 3), (1, 7), (33, (-1)), (34, (-1)), (53, (-1)), (54, (-1)), (55, (-1)), (56, (-1)), (57, (-1)), (58, (-1)), (59, (-1)), (60, (-1))] u v) ∧ (rg z)) (fun u t => va_P (dC, dI) vwCl (xG L cid K N u) t.heap ∧ va_K (dC, dI) vwCl (xT cid) t ∧ va_D (va_A (xG L cid K N v) sz) (xG L cid K N u)) (va_A (xG L cid K N v) sz)) 0 0 (va_A (xG L cid K N v) sz) := by
  sorry
set_option maxHeartbeats 2000000 in
set_option maxRecDepth 100000 in
theorem sX12_given (l : Launch) (dC : Nat → ClassId) (dI : Nat → Nat → Nat) (sz : Nat) (L : List Nat) (cid : Nat → ClassId) (K : Int → Nat) (N : Int → Int) (tW : Nat) (sK sV : Nat → Nat) (v : Int → Int → Int) (p0 : Int) (p1 : Int) (p2 : Int) (p3 : Int) (p4 : Int) (hI : xI L K N v) (q0 : ok L K p0 12) (q1 : rg p1) (q2 : rg p2) (q3 : rg p3) (q4 : rg p4) : Met l yX12_given (jk yX12_given cX12_given 6 (some .int)) ({ frames := 7, cells := 0, slots := 0, locals := 186 }) (va_Pc [.ref p0.toNat, .int (iI p1), .int (iI p2), .int (iI p3), .int (iI p4)] (xP (dC, dI) (xG L cid K N v) (xT cid) tW sK sV sz)) (va_Qi (fun (r : Int32) (u : (Int → Int → Int)) => ∃ z : Int, r = iI z ∧ (xI L K N u) ∧ (fr K [(1, 3), (1, 7), (33, (-1)), (34, (-1)), (53, (-1)), (54, (-1)), (55, (-1)), (56, (-1)), (57, (-1)), (58, (-1)), (59, (-1)), (60, (-1))] u v) ∧ (rg z)) (fun u t => va_P (dC, dI) vwCl (xG L cid K N u) t.heap ∧ va_K (dC, dI) vwCl (xT cid) t ∧ va_D (va_A (xG L cid K N v) sz) (xG L cid K N u)) (va_A (xG L cid K N v) sz)) 0 0 (va_A (xG L cid K N v) sz) := by
  sorry
set_option maxHeartbeats 2000000 in
set_option maxRecDepth 100000 in
theorem sX12_index (l : Launch) (dC : Nat → ClassId) (dI : Nat → Nat → Nat) (sz : Nat) (L : List Nat) (cid : Nat → ClassId) (K : Int → Nat) (N : Int → Int) (tW : Nat) (sK sV : Nat → Nat) (v : Int → Int → Int) (p0 : Int) (p1 : Int) (p2 : Int) (p3 : Int) (hI : xI L K N v) (q0 : ok L K p0 12) (q1 : rg p1) (q2 : rg p2) (q3 : rg p3) : Met l yX12_index (jk yX12_index cX12_index 9 (some .int)) ({ frames := 3, cells := 0, slots := 0, locals := 64 }) (va_Pc [.ref p0.toNat, .int (iI p1), .int (iI p2), .int (iI p3)] (xP (dC, dI) (xG L cid K N v) (xT cid) tW sK sV sz)) (va_Qi (fun (r : Int32) (_ : Unit) => ∃ z : Int, r = iI z ∧ (rg z)) (fun _ _ => True) (va_A [] sz)) 0 0 (va_A [] sz) := by
  sorry
set_option maxHeartbeats 2000000 in
set_option maxRecDepth 100000 in
theorem sX12_steal (l : Launch) (dC : Nat → ClassId) (dI : Nat → Nat → Nat) (sz : Nat) (L : List Nat) (cid : Nat → ClassId) (K : Int → Nat) (N : Int → Int) (tW : Nat) (sK sV : Nat → Nat) (v : Int → Int → Int) (p0 : Int) (p1 : Int) (hI : xI L K N v) (q0 : ok L K p0 12) (q1 : rg p1) : Met l yX12_steal (jk yX12_steal cX12_steal 2 (some .int)) ({ frames := 1, cells := 0, slots := 0, locals := 21 }) (va_Pc [.ref p0.toNat, .int (iI p1)] (xP (dC, dI) (xG L cid K N v) (xT cid) tW sK sV sz)) (va_Qi (fun (r : Int32) (u : (Int → Int → Int)) => ∃ z : Int, r = iI z ∧ (xI L K N u) ∧ (fr K [(10, 1), (61, (-1))] u v) ∧ (rg z) ∧ ((z = -1 ∧ u (u p0 19) 1 = v (v p0 19) 1 ∧ (p1 < 0 ∨ 999 < p1 ∨ 30 ≤ v (v p0 19) 1)) ∨ (z = v (v p0 19) 1 + 1 ∧ u (u p0 19) 1 = v (v p0 19) 1 + 1 ∧ 0 ≤ p1 ∧ p1 ≤ 999 ∧ v (v p0 19) 1 < 30))) (fun u t => va_P (dC, dI) vwCl (xG L cid K N u) t.heap ∧ va_K (dC, dI) vwCl (xT cid) t ∧ va_D (va_A (xG L cid K N v) sz) (xG L cid K N u)) (va_A (xG L cid K N v) sz)) 0 0 (va_A (xG L cid K N v) sz) := by
  refine Met.ofW (cc := cX12_steal) (maxL := 2) (ret := (some .int)) (by decide) rfl ?_
  intro p e s m args below meth c s₁ B hml hv
  obtain ⟨rfl, ⟨hsz, hP, hK, hD0⟩, hX⟩ := hv
  have hx := B.exec
  have hb := B.bytes
  have hr := B.returns
  have hts := atoms_spec (ws := (jk yX12_steal cX12_steal 2 (some .int))) B.pre
  have hj : ∀ w ∈ jw, w.before ([.ref p0.toNat, .int (iI p1)] : List Value).toArray s = true := fun w h => hts w (jm h)
  have hown : s.vm.findClass RX12 = some m.cls := findClass_of_methodNamed B.named
  subst hsz
  have hD := hD0.self (sz := s.heap.size)
  generalize hAe : (va_A (xG L cid K N v) s.heap.size) = A at hD hX ⊢
  have hA : ∀ q : Nat, s.heap.size ≤ q → A q := fun q h => by rw [← hAe]; exact Or.inr h
  have hS : va_S A s.heap s.heap [] := va_S.rf
  have hXa := hX
  have hP : va_P (dC, dI) vwCl (xG L cid K N v) s.heap := hP
  have hl := lv_entry ([.ref p0.toNat, .int (iI p1)]) (n := 2) (Nat.le_of_ble_eq_true rfl)
  rw [lg_entry_eq]
  generalize (lg_sl ([.ref p0.toNat, .int (iI p1)]) ++ List.replicate (2 - (lg_sl ([.ref p0.toNat, .int (iI p1)])).length) Slot.unset).toArray = ls at hl ⊢
  have hl : lv_has ls 2 [(0, .ref p0.toNat), (1, .int (iI p1))] := hl
  generalize hQ : MQ below (va_Qi (fun (r : Int32) (u : (Int → Int → Int)) => ∃ z : Int, r = iI z ∧ (xI L K N u) ∧ (fr K [(10, 1), (61, (-1))] u v) ∧ (rg z) ∧ ((z = -1 ∧ u (u p0 19) 1 = v (v p0 19) 1 ∧ (p1 < 0 ∨ 999 < p1 ∨ 30 ≤ v (v p0 19) 1)) ∨ (z = v (v p0 19) 1 + 1 ∧ u (u p0 19) 1 = v (v p0 19) 1 + 1 ∧ 0 ≤ p1 ∧ p1 ≤ 999 ∧ v (v p0 19) 1 < 30))) (fun u t => va_P (dC, dI) vwCl (xG L cid K N u) t.heap ∧ va_K (dC, dI) vwCl (xT cid) t ∧ va_D A (xG L cid K N u)) A) ([.ref p0.toNat, .int (iI p1)] : List Value).toArray s 0 0 A = Q
  suffices ST : ∀ (H : Heap) (locs : List Loc), va_P (dC, dI) vwCl (xG L cid K N v) H → va_S A s.heap H locs → W p l e ({ frames := 1, cells := 0, slots := 0, locals := 21 }) s m ([.ref p0.toNat, .int (iI p1)] : List Value).toArray below meth c H locs 0 0 Q (F0 m 0 ls []) from ST _ _ hP hS
  clear hP hS
  intro H locs hP hS
  refine lv_iload_n hx hb dX12_steal_0 rfl (lv_at hl 1 rfl) ?_
  refine xr_if_lt (tgt := 11) hx hb dX12_steal_1 (by decide) (by omega) (fun h_1 => ?_) (fun h_1 => ?_)
  · refine lv_iconst (v := iI (-1)) hx hb dX12_steal_11 rfl ?_
    refine lv_goto (tgt := 23) hx hb dX12_steal_12 (by decide) ?_
    have h_2 : ok L K (v p0 19) 10 := xf_12_19 hI q0
    have h_3 : 0 ≤ v (v p0 19) 1 ∧ v (v p0 19) 1 ≤ 30 := xf_10_1 hI h_2
    rw [← hQ]
    exact W.iret (v := iI (-1)) hx hb hr (fun t ht hW => ⟨⟨iI (-1), v, rfl, ⟨(-1), rfl, hI, fr_rf, by omega, by omega⟩, by rw [ht]; exact hP, va_K.moved hW.alike hK, hD⟩, hS.F ht⟩) hS.2.2 dX12_steal_23
  · refine lv_iload_n hx hb dX12_steal_4 rfl (lv_at hl 1 rfl) ?_
    refine lv_sipush (v := iI 999) hx hb dX12_steal_5 rfl ?_
    refine xr_icmp_le (tgt := 15) hx hb dX12_steal_8 (by decide) (by omega) (by omega) (fun h_4 => ?_) (fun h_4 => ?_)
    · refine lv_aload_n hx hb dX12_steal_15 rfl (lv_at hl 0 rfl) ?_
      have h_5 : ok L K (v p0 19) 10 := xf_12_19 hI q0
      refine gx_RX12_99 (y := v p0 19) hx hb hj hown hK hP q0 ((xf_12_19 hI q0).1) rfl dX12_steal_16 ?_
      refine lv_iload_n hx hb dX12_steal_19 rfl (lv_at hl 1 rfl) ?_
      refine jcg_i (va_runV (As := [.int (iI p1)]) (rest := []) ⟨hx, hb, hml, hown, hts⟩ (sX10_add l dC dI _ L cid K N tW sK sV v (v p0 19) p1 hI h_5 (by omega)) (cwV 1 hts (jgoodV m_1262 m_1263 m_1264 m_971 m_1265) rfl rfl rfl (by decide +kernel) ⟨(Nat.le_of_ble_eq_true rfl), (Nat.le_of_ble_eq_true rfl)⟩) ⟨xP_blind, xrecv hK hP h_5 rfl rfl, fun U hU hW => ⟨rfl, xP_of hU hW hP hK hD hX hS (fun _ h => h) hA⟩⟩ rfl rfl hl.1 rfl (lv_room (Nat.le_of_ble_eq_true rfl)) dX12_steal_20 ⟨(Nat.le_of_ble_eq_true rfl), (Nat.le_of_ble_eq_true rfl)⟩) hD hS hA (fun r_6 v_11 H locs w_7 hP hK hD hS => ?_)
      obtain ⟨z_8, rfl, I_13, f_12, h_9, h_10⟩ := w_7
      have hP : va_P (dC, dI) vwCl (xG L cid K N v_11) H := hP
      have hD : va_D A (xG L cid K N v_11) := hD
      have h_14 : 0 ≤ v_11 (v p0 19) 1 ∧ v_11 (v p0 19) 1 ≤ 30 := xf_10_1 I_13 h_5
      have h_15 : 0 ≤ v (v p0 19) 1 ∧ v (v p0 19) 1 ≤ 30 := xf_10_1 hI h_5
      have b_16 : v_11 p0 19 = v p0 19 := (fr_use q0 f_12 rfl)
      have b_17 : v_11 (v_11 p0 19) 1 = v_11 (v p0 19) 1 := by rw [b_16]
      rw [← hQ]
      exact W.iret (v := iI z_8) hx hb hr (fun t ht hW => ⟨⟨iI z_8, v_11, rfl, ⟨z_8, rfl, I_13, (fr_tr f_12 rfl fr_rf), by omega, by omega⟩, by rw [ht]; exact hP, va_K.moved hW.alike hK, hD⟩, hS.F ht⟩) hS.2.2 dX12_steal_23
    · refine lv_iconst (v := iI (-1)) hx hb dX12_steal_11 rfl ?_
      refine lv_goto (tgt := 23) hx hb dX12_steal_12 (by decide) ?_
      have h_18 : ok L K (v p0 19) 10 := xf_12_19 hI q0
      have h_19 : 0 ≤ v (v p0 19) 1 ∧ v (v p0 19) 1 ≤ 30 := xf_10_1 hI h_18
      rw [← hQ]
      exact W.iret (v := iI (-1)) hx hb hr (fun t ht hW => ⟨⟨iI (-1), v, rfl, ⟨(-1), rfl, hI, fr_rf, by omega, by omega⟩, by rw [ht]; exact hP, va_K.moved hW.alike hK, hD⟩, hS.F ht⟩) hS.2.2 dX12_steal_23
