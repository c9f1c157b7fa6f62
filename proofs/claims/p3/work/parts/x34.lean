set_option maxHeartbeats 2000000 in
set_option maxRecDepth 100000 in
theorem sJ7_fill_53178_from (l : Launch) (dC : Nat → ClassId) (dI : Nat → Nat → Nat) (sz : Nat) (L : List Nat) (cid : Nat → ClassId) (K : Int → Nat) (N : Int → Int) (tW : Nat) (sK sV : Nat → Nat) (v : Int → Int → Int) (p1 : Int) (p2 : Int) (hI : xI L K N v) (q1 : ok L K p1 26) (q2 : rg p2) : Met l yJ7_fill_53178 (jk yJ7_fill_53178 cJ7_fill_53178 4 none) ({ frames := 0, cells := 0, slots := 0, locals := 0 }) (va_Pc [.ref p1.toNat, .int (iI p2)] (xP (dC, dI) (xG L cid K N v) (xT cid) tW sK sV sz)) (va_Qv (fun (u : (Int → Int → Int)) => (xI L K N u) ∧ (fr K [(26, (-1))] u v) ∧ (∀ i : Int, 0 ≤ i → i < 14 → u p1 i = p2)) (fun u t => va_P (dC, dI) vwCl (xG L cid K N u) t.heap ∧ va_K (dC, dI) vwCl (xT cid) t ∧ va_D (va_A (xG L cid K N v) sz) (xG L cid K N u)) (va_A (xG L cid K N v) sz)) 0 0 (va_A (xG L cid K N v) sz) := by
  refine Met.ofW (cc := cJ7_fill_53178) (maxL := 4) (ret := none) (by decide) rfl ?_
  intro p e s m args below meth c s₁ B hml hv
  obtain ⟨rfl, ⟨hsz, hP, hK, hD0⟩, hX⟩ := hv
  have hx := B.exec
  have hb := B.bytes
  have hr := B.returns
  have hts := atoms_spec (ws := (jk yJ7_fill_53178 cJ7_fill_53178 4 none)) B.pre
  have hj : ∀ w ∈ jw, w.before ([.ref p1.toNat, .int (iI p2)] : List Value).toArray s = true := fun w h => hts w (jm h)
  have hown : s.vm.findClass RJ7 = some m.cls := findClass_of_methodNamed B.named
  subst hsz
  have hD := hD0.self (sz := s.heap.size)
  generalize hAe : (va_A (xG L cid K N v) s.heap.size) = A at hD hX ⊢
  have hA : ∀ q : Nat, s.heap.size ≤ q → A q := fun q h => by rw [← hAe]; exact Or.inr h
  have hS : va_S A s.heap s.heap [] := va_S.rf
  have hXa := hX
  have hP : va_P (dC, dI) vwCl (xG L cid K N v) s.heap := hP
  have hl := lv_entry ([.ref p1.toNat, .int (iI p2)]) (n := 4) (Nat.le_of_ble_eq_true rfl)
  rw [lg_entry_eq]
  generalize (lg_sl ([.ref p1.toNat, .int (iI p2)]) ++ List.replicate (4 - (lg_sl ([.ref p1.toNat, .int (iI p2)])).length) Slot.unset).toArray = ls at hl ⊢
  have hl : lv_has ls 4 [(0, .ref p1.toNat), (1, .int (iI p2))] := hl
  generalize hQ : MQ below (va_Qv (fun (u : (Int → Int → Int)) => (xI L K N u) ∧ (fr K [(26, (-1))] u v) ∧ (∀ i : Int, 0 ≤ i → i < 14 → u p1 i = p2)) (fun u t => va_P (dC, dI) vwCl (xG L cid K N u) t.heap ∧ va_K (dC, dI) vwCl (xT cid) t ∧ va_D A (xG L cid K N u)) A) ([.ref p1.toNat, .int (iI p2)] : List Value).toArray s 0 0 A = Q
  suffices ST : ∀ (H : Heap) (locs : List Loc), va_P (dC, dI) vwCl (xG L cid K N v) H → va_S A s.heap H locs → W p l e ({ frames := 0, cells := 0, slots := 0, locals := 0 }) s m ([.ref p1.toNat, .int (iI p2)] : List Value).toArray below meth c H locs 0 0 Q (F0 m 0 ls []) from ST _ _ hP hS
  clear hP hS
  intro H locs hP hS
  have h_1 : N p1 = 14 := xn_26 hI q1
  refine lv_iconst (v := iI 0) hx hb dJ7_fill_53178_0 rfl ?_
  refine lv_istore_n (i := 2) (lv' := [(2, .int (iI 0)), (0, .ref p1.toNat), (1, .int (iI p2))]) hx hb dJ7_fill_53178_1 rfl hl (by decide) rfl (fun ls hl => ?_)
  refine lv_aload_n hx hb dJ7_fill_53178_2 rfl (lv_at hl 1 rfl) ?_
  refine lx_26 (y := 14) hx hb hK hP q1 (by omega) (by omega) dJ7_fill_53178_3 ?_
  refine lv_istore_n (i := 3) (lv' := [(3, .int (iI 14)), (2, .int (iI 0)), (0, .ref p1.toNat), (1, .int (iI p2))]) hx hb dJ7_fill_53178_4 rfl hl (by decide) rfl (fun ls hl => ?_)
  have L5 : ∀ (n5 : Nat) (a2_5 : Int) (vc5 : Int → Int → Int) (H : Heap) (locs : List Loc) (ls : Array Slot), (0 ≤ a2_5 ∧ a2_5 ≤ 2147483647) → (0 ≤ a2_5) → (∀ i : Int, 0 ≤ i → i < a2_5 → vc5 p1 i = p2) → (0 < (n5 : Int) ∧ 14 - a2_5 < (n5 : Int)) → fr K [(26, (-1))] vc5 v → xI L K N vc5 → va_P (dC, dI) vwCl (xG L cid K N vc5) H → va_D A (xG L cid K N vc5) → va_S A s.heap H locs → lv_has ls 4 [(3, .int (iI 14)), (2, .int (iI a2_5)), (0, .ref p1.toNat), (1, .int (iI p2))] → W p l e ({ frames := 0, cells := 0, slots := 0, locals := 0 }) s m ([.ref p1.toNat, .int (iI p2)] : List Value).toArray below meth c H locs 0 0 Q (F0 m 5 ls []) := by
    intro n5
    induction n5 with
    | zero =>
      intro a2_5 vc5 H locs ls h_2 h_3 h_4 hm5 f_5 I_6 hP hD hS hl
      exfalso; omega
    | succ n5 ih5 =>
      intro a2_5 vc5 H locs ls h_7 h_8 h_9 hm5 f_10 I_11 hP hD hS hl
      refine lv_iload_n hx hb dJ7_fill_53178_5 rfl (lv_at hl 1 rfl) ?_
      refine lv_iload_n hx hb dJ7_fill_53178_6 rfl (lv_at hl 0 rfl) ?_
      refine xr_icmp_ge (tgt := 20) hx hb dJ7_fill_53178_7 (by decide) (by omega) (by omega) (fun h_12 => ?_) (fun h_12 => ?_)
      · rw [← hQ]
        exact W.vret hx hb hr (fun t ht hW => ⟨⟨vc5, rfl, ⟨I_11, (fr_tr f_10 rfl fr_rf), by exact fun i h0 h1 => (show ∀ i : Int, 0 ≤ i → i < a2_5 → vc5 p1 i = p2 by assumption) i h0 (by omega)⟩, by rw [ht]; exact hP, va_K.moved hW.alike hK, hD⟩, hS.F ht⟩) hS.2.2 dJ7_fill_53178_20
      · refine lv_aload_n hx hb dJ7_fill_53178_10 rfl (lv_at hl 2 rfl) ?_
        refine lv_iload_n hx hb dJ7_fill_53178_11 rfl (lv_at hl 1 rfl) ?_
        refine lv_iload_n hx hb dJ7_fill_53178_12 rfl (lv_at hl 3 rfl) ?_
        refine sx_26 (y := p2) hx hb hK hP hD hS I_11 q1 (by omega) (by omega) (by omega) ⟨by omega, by omega⟩ dJ7_fill_53178_13 (fun v_13 H locs f_14 e_15 o_16 I_17 hP hD hS => ?_)
        have hA9 : ∀ i : Int, 0 ≤ i → i < a2_5 + 1 → v_13 p1 i = p2 := fun i h0 h1 => by
          rw [vu_of e_15 o_16]
          by_cases c : i = a2_5
          · rw [c, vu_self]
          · rw [vu_ne _ (fun d => c d.2)]; exact (show ∀ i : Int, 0 ≤ i → i < a2_5 → vc5 p1 i = p2 by assumption) i h0 (by omega)
        refine lv_iinc (v := iI (a2_5 + 1)) (lv' := [(2, .int (iI (a2_5 + 1))), (3, .int (iI 14)), (0, .ref p1.toNat), (1, .int (iI p2))]) hx hb dJ7_fill_53178_14 hl (k := 1) rfl (iI_add _ _) (by decide) rfl (fun ls hl => ?_)
        refine lv_goto (tgt := 5) hx hb dJ7_fill_53178_17 (by decide) ?_
        exact ih5 (a2_5 + 1) v_13 H locs ls (by omega) (by omega) (by first | exact hA9 | exact fun i h0 h1 => absurd h1 (by omega)) (by omega) (fr_tr f_14 rfl (fr_tr f_10 rfl fr_rf)) I_17 hP hD hS (lv_sub hl [1, 0, 2, 3] rfl)
  exact L5 (((14 - 0 : Int)).toNat + 1) 0 v H locs ls (by omega) (by omega) (by first | exact hA9 | exact fun i h0 h1 => absurd h1 (by omega)) (by omega) fr_rf hI hP hD hS hl
set_option maxHeartbeats 2000000 in
set_option maxRecDepth 100000 in
theorem sJ7_fill_53178_names (l : Launch) (dC : Nat → ClassId) (dI : Nat → Nat → Nat) (sz : Nat) (L : List Nat) (cid : Nat → ClassId) (K : Int → Nat) (N : Int → Int) (tW : Nat) (sK sV : Nat → Nat) (v : Int → Int → Int) (p1 : Int) (p2 : Int) (hI : xI L K N v) (q1 : ok L K p1 33) (q2 : rg p2) : Met l yJ7_fill_53178 (jk yJ7_fill_53178 cJ7_fill_53178 4 none) ({ frames := 0, cells := 0, slots := 0, locals := 0 }) (va_Pc [.ref p1.toNat, .int (iI p2)] (xP (dC, dI) (xG L cid K N v) (xT cid) tW sK sV sz)) (va_Qv (fun (u : (Int → Int → Int)) => (xI L K N u) ∧ (fr K [(33, (-1))] u v)) (fun u t => va_P (dC, dI) vwCl (xG L cid K N u) t.heap ∧ va_K (dC, dI) vwCl (xT cid) t ∧ va_D (va_A (xG L cid K N v) sz) (xG L cid K N u)) (va_A (xG L cid K N v) sz)) 0 0 (va_A (xG L cid K N v) sz) := by
  refine Met.ofW (cc := cJ7_fill_53178) (maxL := 4) (ret := none) (by decide) rfl ?_
  intro p e s m args below meth c s₁ B hml hv
  obtain ⟨rfl, ⟨hsz, hP, hK, hD0⟩, hX⟩ := hv
  have hx := B.exec
  have hb := B.bytes
  have hr := B.returns
  have hts := atoms_spec (ws := (jk yJ7_fill_53178 cJ7_fill_53178 4 none)) B.pre
  have hj : ∀ w ∈ jw, w.before ([.ref p1.toNat, .int (iI p2)] : List Value).toArray s = true := fun w h => hts w (jm h)
  have hown : s.vm.findClass RJ7 = some m.cls := findClass_of_methodNamed B.named
  subst hsz
  have hD := hD0.self (sz := s.heap.size)
  generalize hAe : (va_A (xG L cid K N v) s.heap.size) = A at hD hX ⊢
  have hA : ∀ q : Nat, s.heap.size ≤ q → A q := fun q h => by rw [← hAe]; exact Or.inr h
  have hS : va_S A s.heap s.heap [] := va_S.rf
  have hXa := hX
  have hP : va_P (dC, dI) vwCl (xG L cid K N v) s.heap := hP
  have hl := lv_entry ([.ref p1.toNat, .int (iI p2)]) (n := 4) (Nat.le_of_ble_eq_true rfl)
  rw [lg_entry_eq]
  generalize (lg_sl ([.ref p1.toNat, .int (iI p2)]) ++ List.replicate (4 - (lg_sl ([.ref p1.toNat, .int (iI p2)])).length) Slot.unset).toArray = ls at hl ⊢
  have hl : lv_has ls 4 [(0, .ref p1.toNat), (1, .int (iI p2))] := hl
  generalize hQ : MQ below (va_Qv (fun (u : (Int → Int → Int)) => (xI L K N u) ∧ (fr K [(33, (-1))] u v)) (fun u t => va_P (dC, dI) vwCl (xG L cid K N u) t.heap ∧ va_K (dC, dI) vwCl (xT cid) t ∧ va_D A (xG L cid K N u)) A) ([.ref p1.toNat, .int (iI p2)] : List Value).toArray s 0 0 A = Q
  suffices ST : ∀ (H : Heap) (locs : List Loc), va_P (dC, dI) vwCl (xG L cid K N v) H → va_S A s.heap H locs → W p l e ({ frames := 0, cells := 0, slots := 0, locals := 0 }) s m ([.ref p1.toNat, .int (iI p2)] : List Value).toArray below meth c H locs 0 0 Q (F0 m 0 ls []) from ST _ _ hP hS
  clear hP hS
  intro H locs hP hS
  have h_1 : N p1 = 9 := xn_33 hI q1
  refine lv_iconst (v := iI 0) hx hb dJ7_fill_53178_0 rfl ?_
  refine lv_istore_n (i := 2) (lv' := [(2, .int (iI 0)), (0, .ref p1.toNat), (1, .int (iI p2))]) hx hb dJ7_fill_53178_1 rfl hl (by decide) rfl (fun ls hl => ?_)
  refine lv_aload_n hx hb dJ7_fill_53178_2 rfl (lv_at hl 1 rfl) ?_
  refine lx_33 (y := 9) hx hb hK hP q1 (by omega) (by omega) dJ7_fill_53178_3 ?_
  refine lv_istore_n (i := 3) (lv' := [(3, .int (iI 9)), (2, .int (iI 0)), (0, .ref p1.toNat), (1, .int (iI p2))]) hx hb dJ7_fill_53178_4 rfl hl (by decide) rfl (fun ls hl => ?_)
  have L5 : ∀ (n5 : Nat) (a2_5 : Int) (vc5 : Int → Int → Int) (H : Heap) (locs : List Loc) (ls : Array Slot), (0 ≤ a2_5 ∧ a2_5 ≤ 2147483647) → (0 < (n5 : Int) ∧ 9 - a2_5 < (n5 : Int)) → fr K [(33, (-1))] vc5 v → xI L K N vc5 → va_P (dC, dI) vwCl (xG L cid K N vc5) H → va_D A (xG L cid K N vc5) → va_S A s.heap H locs → lv_has ls 4 [(3, .int (iI 9)), (2, .int (iI a2_5)), (0, .ref p1.toNat), (1, .int (iI p2))] → W p l e ({ frames := 0, cells := 0, slots := 0, locals := 0 }) s m ([.ref p1.toNat, .int (iI p2)] : List Value).toArray below meth c H locs 0 0 Q (F0 m 5 ls []) := by
    intro n5
    induction n5 with
    | zero =>
      intro a2_5 vc5 H locs ls h_2 hm5 f_3 I_4 hP hD hS hl
      exfalso; omega
    | succ n5 ih5 =>
      intro a2_5 vc5 H locs ls h_5 hm5 f_6 I_7 hP hD hS hl
      refine lv_iload_n hx hb dJ7_fill_53178_5 rfl (lv_at hl 1 rfl) ?_
      refine lv_iload_n hx hb dJ7_fill_53178_6 rfl (lv_at hl 0 rfl) ?_
      refine xr_icmp_ge (tgt := 20) hx hb dJ7_fill_53178_7 (by decide) (by omega) (by omega) (fun h_8 => ?_) (fun h_8 => ?_)
      · rw [← hQ]
        exact W.vret hx hb hr (fun t ht hW => ⟨⟨vc5, rfl, ⟨I_7, (fr_tr f_6 rfl fr_rf)⟩, by rw [ht]; exact hP, va_K.moved hW.alike hK, hD⟩, hS.F ht⟩) hS.2.2 dJ7_fill_53178_20
      · refine lv_aload_n hx hb dJ7_fill_53178_10 rfl (lv_at hl 2 rfl) ?_
        refine lv_iload_n hx hb dJ7_fill_53178_11 rfl (lv_at hl 1 rfl) ?_
        refine lv_iload_n hx hb dJ7_fill_53178_12 rfl (lv_at hl 3 rfl) ?_
        refine sx_33 (y := p2) hx hb hK hP hD hS I_7 q1 (by omega) (by omega) (by omega) ⟨by omega, by omega⟩ dJ7_fill_53178_13 (fun v_9 H locs f_10 e_11 o_12 I_13 hP hD hS => ?_)
        refine lv_iinc (v := iI (a2_5 + 1)) (lv' := [(2, .int (iI (a2_5 + 1))), (3, .int (iI 9)), (0, .ref p1.toNat), (1, .int (iI p2))]) hx hb dJ7_fill_53178_14 hl (k := 1) rfl (iI_add _ _) (by decide) rfl (fun ls hl => ?_)
        refine lv_goto (tgt := 5) hx hb dJ7_fill_53178_17 (by decide) ?_
        exact ih5 (a2_5 + 1) v_9 H locs ls (by omega) (by omega) (fr_tr f_10 rfl (fr_tr f_6 rfl fr_rf)) I_13 hP hD hS (lv_sub hl [1, 0, 2, 3] rfl)
  exact L5 (((9 - 0 : Int)).toNat + 1) 0 v H locs ls (by omega) (by omega) fr_rf hI hP hD hS hl
set_option maxHeartbeats 2000000 in
set_option maxRecDepth 100000 in
theorem sX7_isLetter (l : Launch) (dC : Nat → ClassId) (dI : Nat → Nat → Nat) (sz : Nat) (p1 : Int) (q1 : rg p1) : Met l yX7_isLetter (jk yX7_isLetter cX7_isLetter 1 (some .boolean)) ({ frames := 0, cells := 0, slots := 0, locals := 0 }) (va_Pc [.int (iI p1)] (fun U => U.heap.size = sz)) (va_Qi (fun (r : Int32) (_ : Unit) => ∃ z : Int, r = iI z ∧ (0 ≤ z ∧ z ≤ 1) ∧ ((z = 1 ∧ 97 ≤ p1 ∧ p1 ≤ 122) ∨ (z = 0 ∧ (p1 < 97 ∨ 122 < p1)))) (fun _ _ => True) (va_A [] sz)) 0 0 (va_A [] sz) := by
  refine Met.ofW (cc := cX7_isLetter) (maxL := 1) (ret := (some .boolean)) (by decide) rfl ?_
  intro p e s m args below meth c s₁ B hml hv
  obtain ⟨rfl, hsz⟩ := hv
  have hx := B.exec
  have hb := B.bytes
  have hr := B.returns
  have hts := atoms_spec (ws := (jk yX7_isLetter cX7_isLetter 1 (some .boolean))) B.pre
  have hj : ∀ w ∈ jw, w.before ([.int (iI p1)] : List Value).toArray s = true := fun w h => hts w (jm h)
  have hown : s.vm.findClass RX7 = some m.cls := findClass_of_methodNamed B.named
  subst hsz
  have hP : va_P (dC, dI) vwCl [] s.heap := fun k q h => by simp at h
  generalize hAe : (va_A [] s.heap.size) = A
  have hA : ∀ q : Nat, s.heap.size ≤ q → A q := fun q h => by rw [← hAe]; exact Or.inr h
  have hS : va_S A s.heap s.heap [] := va_S.rf
  have hl := lv_entry ([.int (iI p1)]) (n := 1) (Nat.le_of_ble_eq_true rfl)
  rw [lg_entry_eq]
  generalize (lg_sl ([.int (iI p1)]) ++ List.replicate (1 - (lg_sl ([.int (iI p1)])).length) Slot.unset).toArray = ls at hl ⊢
  have hl : lv_has ls 1 [(0, .int (iI p1))] := hl
  generalize hQ : MQ below (va_Qi (fun (r : Int32) (_ : Unit) => ∃ z : Int, r = iI z ∧ (0 ≤ z ∧ z ≤ 1) ∧ ((z = 1 ∧ 97 ≤ p1 ∧ p1 ≤ 122) ∨ (z = 0 ∧ (p1 < 97 ∨ 122 < p1)))) (fun _ _ => True) A) ([.int (iI p1)] : List Value).toArray s 0 0 A = Q
  suffices ST : ∀ (H : Heap) (locs : List Loc), va_P (dC, dI) vwCl [] H → va_S A s.heap H locs → W p l e ({ frames := 0, cells := 0, slots := 0, locals := 0 }) s m ([.int (iI p1)] : List Value).toArray below meth c H locs 0 0 Q (F0 m 0 ls []) from ST _ _ hP hS
  clear hP hS
  intro H locs hP hS
  refine lv_iload_n hx hb dX7_isLetter_0 rfl (lv_at hl 0 rfl) ?_
  refine lv_bipush (v := iI 97) hx hb dX7_isLetter_1 rfl ?_
  refine xr_icmp_lt (tgt := 16) hx hb dX7_isLetter_3 (by decide) (by omega) (by omega) (fun h_1 => ?_) (fun h_1 => ?_)
  · refine lv_iconst (v := iI 0) hx hb dX7_isLetter_16 rfl ?_
    rw [← hQ]
    exact W.zret (v := iI 0) (ty := .boolean) hx hb hr (nb_bool (by omega) (by omega)) (fun t ht hW => ⟨⟨iI 0, (), rfl, ⟨0, rfl, by omega, by omega⟩, trivial⟩, hS.F ht⟩) hS.2.2 dX7_isLetter_17
  · refine lv_iload_n hx hb dX7_isLetter_6 rfl (lv_at hl 0 rfl) ?_
    refine lv_bipush (v := iI 122) hx hb dX7_isLetter_7 rfl ?_
    refine xr_icmp_gt (tgt := 16) hx hb dX7_isLetter_9 (by decide) (by omega) (by omega) (fun h_2 => ?_) (fun h_2 => ?_)
    · refine lv_iconst (v := iI 0) hx hb dX7_isLetter_16 rfl ?_
      rw [← hQ]
      exact W.zret (v := iI 0) (ty := .boolean) hx hb hr (nb_bool (by omega) (by omega)) (fun t ht hW => ⟨⟨iI 0, (), rfl, ⟨0, rfl, by omega, by omega⟩, trivial⟩, hS.F ht⟩) hS.2.2 dX7_isLetter_17
    · refine lv_iconst (v := iI 1) hx hb dX7_isLetter_12 rfl ?_
      refine lv_goto (tgt := 17) hx hb dX7_isLetter_13 (by decide) ?_
      rw [← hQ]
      exact W.zret (v := iI 1) (ty := .boolean) hx hb hr (nb_bool (by omega) (by omega)) (fun t ht hW => ⟨⟨iI 1, (), rfl, ⟨1, rfl, by omega, by omega⟩, trivial⟩, hS.F ht⟩) hS.2.2 dX7_isLetter_17
set_option maxHeartbeats 2000000 in
set_option maxRecDepth 100000 in
theorem sX7_isSign (l : Launch) (dC : Nat → ClassId) (dI : Nat → Nat → Nat) (sz : Nat) (L : List Nat) (cid : Nat → ClassId) (K : Int → Nat) (N : Int → Int) (tW : Nat) (sK sV : Nat → Nat) (v : Int → Int → Int) (p1 : Int) (hI : xI L K N v) (q1 : rg p1) (k1 : 0 ≤ p1 ∧ p1 ≤ 255) : Met l yX7_isSign (jk yX7_isSign cX7_isSign 1 (some .boolean)) ({ frames := 4, cells := 0, slots := 0, locals := 106 }) (va_Pc [.int (iI p1)] (xP (dC, dI) (xG L cid K N v) (xT cid) tW sK sV sz)) (va_Qi (fun (r : Int32) (_ : Unit) => ∃ z : Int, r = iI z ∧ (0 ≤ z ∧ z ≤ 1) ∧ ((z = 1 ∧ (p1 = 43 ∨ p1 = 45 ∨ p1 = 42 ∨ p1 = 47 ∨ p1 = 40 ∨ p1 = 41 ∨ p1 = 91 ∨ p1 = 93 ∨ p1 = 44 ∨ p1 = 60 ∨ p1 = 62 ∨ p1 = 61 ∨ p1 = 59)) ∨ (z = 0 ∧ p1 ≠ 43 ∧ p1 ≠ 45 ∧ p1 ≠ 42 ∧ p1 ≠ 47 ∧ p1 ≠ 40 ∧ p1 ≠ 41 ∧ p1 ≠ 91 ∧ p1 ≠ 93 ∧ p1 ≠ 44 ∧ p1 ≠ 60 ∧ p1 ≠ 62 ∧ p1 ≠ 61 ∧ p1 ≠ 59))) (fun _ _ => True) (va_A [] sz)) 0 0 (va_A [] sz) := by
  refine Met.ofW (cc := cX7_isSign) (maxL := 1) (ret := (some .boolean)) (by decide) rfl ?_
  intro p e s m args below meth c s₁ B hml hv
  obtain ⟨rfl, ⟨hsz, hP, hK, hD0⟩, hX⟩ := hv
  have hx := B.exec
  have hb := B.bytes
  have hr := B.returns
  have hts := atoms_spec (ws := (jk yX7_isSign cX7_isSign 1 (some .boolean))) B.pre
  have hj : ∀ w ∈ jw, w.before ([.int (iI p1)] : List Value).toArray s = true := fun w h => hts w (jm h)
  have hown : s.vm.findClass RX7 = some m.cls := findClass_of_methodNamed B.named
  subst hsz
  have hDw := hD0.self (sz := s.heap.size)
  have hAA : ∀ q : Nat, s.heap.size ≤ q → va_A (xG L cid K N v) s.heap.size q := fun q h => Or.inr h
  have hAw : ∀ q, va_A [] s.heap.size q → va_A (xG L cid K N v) s.heap.size q := ja_nil va_S.rf hAA
  generalize hAe : (va_A [] s.heap.size) = A at hAw ⊢
  have hA : ∀ q : Nat, s.heap.size ≤ q → A q := fun q h => by rw [← hAe]; exact Or.inr h
  have hS : va_S A s.heap s.heap [] := va_S.rf
  have hXa := hX.nar hAw
  have hP : va_P (dC, dI) vwCl (xG L cid K N v) s.heap := hP
  have hl := lv_entry ([.int (iI p1)]) (n := 1) (Nat.le_of_ble_eq_true rfl)
  rw [lg_entry_eq]
  generalize (lg_sl ([.int (iI p1)]) ++ List.replicate (1 - (lg_sl ([.int (iI p1)])).length) Slot.unset).toArray = ls at hl ⊢
  have hl : lv_has ls 1 [(0, .int (iI p1))] := hl
  generalize hQ : MQ below (va_Qi (fun (r : Int32) (_ : Unit) => ∃ z : Int, r = iI z ∧ (0 ≤ z ∧ z ≤ 1) ∧ ((z = 1 ∧ (p1 = 43 ∨ p1 = 45 ∨ p1 = 42 ∨ p1 = 47 ∨ p1 = 40 ∨ p1 = 41 ∨ p1 = 91 ∨ p1 = 93 ∨ p1 = 44 ∨ p1 = 60 ∨ p1 = 62 ∨ p1 = 61 ∨ p1 = 59)) ∨ (z = 0 ∧ p1 ≠ 43 ∧ p1 ≠ 45 ∧ p1 ≠ 42 ∧ p1 ≠ 47 ∧ p1 ≠ 40 ∧ p1 ≠ 41 ∧ p1 ≠ 91 ∧ p1 ≠ 93 ∧ p1 ≠ 44 ∧ p1 ≠ 60 ∧ p1 ≠ 62 ∧ p1 ≠ 61 ∧ p1 ≠ 59))) (fun _ _ => True) A) ([.int (iI p1)] : List Value).toArray s 0 0 A = Q
  suffices ST : ∀ (H : Heap) (locs : List Loc), va_P (dC, dI) vwCl (xG L cid K N v) H → va_S A s.heap H locs → W p l e ({ frames := 4, cells := 0, slots := 0, locals := 106 }) s m ([.int (iI p1)] : List Value).toArray below meth c H locs 0 0 Q (F0 m 0 ls []) from ST _ _ hP hS
  clear hP hS
  intro H locs hP hS
  refine lv_iload_n hx hb dX7_isSign_0 rfl (lv_at hl 0 rfl) ?_
  refine xr_if_le (tgt := 18) hx hb dX7_isSign_1 (by decide) (by omega) (fun h_1 => ?_) (fun h_1 => ?_)
  · refine lv_iconst (v := iI 0) hx hb dX7_isSign_18 rfl ?_
    rw [← hQ]
    exact W.zret (v := iI 0) (ty := .boolean) hx hb hr (nb_bool (by omega) (by omega)) (fun t ht hW => ⟨⟨iI 0, (), rfl, ⟨0, rfl, by omega, by omega⟩, trivial⟩, hS.F ht⟩) hS.2.2 dX7_isSign_19
  · refine va_ldcS hx hb hown hXa.2.2.2.1.1 dX7_isSign_4 ?_
    refine lv_iload_n hx hb dX7_isSign_6 rfl (lv_at hl 0 rfl) ?_
    refine xr_i2cE hx hb (by omega) (by omega) dX7_isSign_7 ?_
    have h_2 : sx_n 0 = 13 := rfl
    refine jc_i (va_runV (As := [.int (iI p1)]) (rest := []) ⟨hx, hb, hml, hown, hts⟩ (sJ0_indexOf_0f7a4 l dC dI _ sK sV 0 p1 (by decide) (by omega) (by omega)) (cwV 1 hts (jgoodV m_785 m_786 m_787 m_754 m_788) rfl rfl rfl (by decide +kernel) ⟨(Nat.le_of_ble_eq_true rfl), (Nat.le_of_ble_eq_true rfl)⟩) ⟨xS_blind, vk_recv hXa.2.2.1 (by decide) hS, fun U hU hW => ⟨rfl, xS_of hU hW hXa.2.2 hS hA⟩⟩ rfl rfl hl.1 rfl (lv_room (Nat.le_of_ble_eq_true rfl)) dX7_isSign_8 ⟨(Nat.le_of_ble_eq_true rfl), (Nat.le_of_ble_eq_true rfl)⟩) hP hS hA (fun r_3 H locs w_4 hP hS => ?_)
    obtain ⟨z_5, rfl, h_6, h_7, h_8⟩ := w_4
    have s9 := sg_tie h_7 h_8
    refine xr_if_lt (tgt := 18) hx hb dX7_isSign_11 (by decide) (by omega) (fun h_9 => ?_) (fun h_9 => ?_)
    · refine lv_iconst (v := iI 0) hx hb dX7_isSign_18 rfl ?_
      rw [← hQ]
      exact W.zret (v := iI 0) (ty := .boolean) hx hb hr (nb_bool (by omega) (by omega)) (fun t ht hW => ⟨⟨iI 0, (), rfl, ⟨0, rfl, by omega, by omega⟩, trivial⟩, hS.F ht⟩) hS.2.2 dX7_isSign_19
    · refine lv_iconst (v := iI 1) hx hb dX7_isSign_14 rfl ?_
      refine lv_goto (tgt := 19) hx hb dX7_isSign_15 (by decide) ?_
      rw [← hQ]
      exact W.zret (v := iI 1) (ty := .boolean) hx hb hr (nb_bool (by omega) (by omega)) (fun t ht hW => ⟨⟨iI 1, (), rfl, ⟨1, rfl, by omega, by omega⟩, trivial⟩, hS.F ht⟩) hS.2.2 dX7_isSign_19
set_option maxHeartbeats 2000000 in
set_option maxRecDepth 100000 in
theorem sX7_kindAt (l : Launch) (dC : Nat → ClassId) (dI : Nat → Nat → Nat) (sz : Nat) (L : List Nat) (cid : Nat → ClassId) (K : Int → Nat) (N : Int → Int) (tW : Nat) (sK sV : Nat → Nat) (v : Int → Int → Int) (tT : Int → Int) (tN : Int) (p0 : Int) (p1 : Int) (hI : xI L K N v) (q0 : ok L K p0 7) (q1 : rg p1) (k1 : txt tT tN v p0) (k2 : 0 ≤ p1 ∧ p1 ≤ 600) : Met l yX7_kindAt (jk yX7_kindAt cX7_kindAt 3 (some .int)) ({ frames := 5, cells := 0, slots := 0, locals := 126 }) (va_Pc [.ref p0.toNat, .int (iI p1)] (xP (dC, dI) (xG L cid K N v) (xT cid) tW sK sV sz)) (va_Qi (fun (r : Int32) (_ : Unit) => ∃ z : Int, r = iI z ∧ (0 ≤ z ∧ z ≤ 255) ∧ (z = tkd tT tN p1)) (fun _ _ => True) (va_A [] sz)) 0 0 (va_A [] sz) := by
  refine Met.ofW (cc := cX7_kindAt) (maxL := 3) (ret := (some .int)) (by decide) rfl ?_
  intro p e s m args below meth c s₁ B hml hv
  obtain ⟨rfl, ⟨hsz, hP, hK, hD0⟩, hX⟩ := hv
  have hx := B.exec
  have hb := B.bytes
  have hr := B.returns
  have hts := atoms_spec (ws := (jk yX7_kindAt cX7_kindAt 3 (some .int))) B.pre
  have hj : ∀ w ∈ jw, w.before ([.ref p0.toNat, .int (iI p1)] : List Value).toArray s = true := fun w h => hts w (jm h)
  have hown : s.vm.findClass RX7 = some m.cls := findClass_of_methodNamed B.named
  subst hsz
  have hDw := hD0.self (sz := s.heap.size)
  have hAA : ∀ q : Nat, s.heap.size ≤ q → va_A (xG L cid K N v) s.heap.size q := fun q h => Or.inr h
  have hAw : ∀ q, va_A [] s.heap.size q → va_A (xG L cid K N v) s.heap.size q := ja_nil va_S.rf hAA
  generalize hAe : (va_A [] s.heap.size) = A at hAw ⊢
  have hA : ∀ q : Nat, s.heap.size ≤ q → A q := fun q h => by rw [← hAe]; exact Or.inr h
  have hS : va_S A s.heap s.heap [] := va_S.rf
  have hXa := hX.nar hAw
  have hP : va_P (dC, dI) vwCl (xG L cid K N v) s.heap := hP
  have hl := lv_entry ([.ref p0.toNat, .int (iI p1)]) (n := 3) (Nat.le_of_ble_eq_true rfl)
  rw [lg_entry_eq]
  generalize (lg_sl ([.ref p0.toNat, .int (iI p1)]) ++ List.replicate (3 - (lg_sl ([.ref p0.toNat, .int (iI p1)])).length) Slot.unset).toArray = ls at hl ⊢
  have hl : lv_has ls 3 [(0, .ref p0.toNat), (1, .int (iI p1))] := hl
  generalize hQ : MQ below (va_Qi (fun (r : Int32) (_ : Unit) => ∃ z : Int, r = iI z ∧ (0 ≤ z ∧ z ≤ 255) ∧ (z = tkd tT tN p1)) (fun _ _ => True) A) ([.ref p0.toNat, .int (iI p1)] : List Value).toArray s 0 0 A = Q
  suffices ST : ∀ (H : Heap) (locs : List Loc), va_P (dC, dI) vwCl (xG L cid K N v) H → va_S A s.heap H locs → W p l e ({ frames := 5, cells := 0, slots := 0, locals := 126 }) s m ([.ref p0.toNat, .int (iI p1)] : List Value).toArray below meth c H locs 0 0 Q (F0 m 0 ls []) from ST _ _ hP hS
  clear hP hS
  intro H locs hP hS
  have t2 : tN = v p0 1 := k1.1
  refine lv_aload_n hx hb dX7_kindAt_0 rfl (lv_at hl 0 rfl) ?_
  refine lv_iload_n hx hb dX7_kindAt_1 rfl (lv_at hl 1 rfl) ?_
  refine jc_i (va_runV (As := [.int (iI p1)]) (rest := []) ⟨hx, hb, hml, hown, hts⟩ (sX7_byteAt l dC dI _ L cid K N tW sK sV v tT tN p0 p1 hI q0 (by omega) k1) (cwV 1 hts (jgoodV m_728 m_729 m_730 m_677 m_731) rfl rfl rfl (by decide +kernel) ⟨(Nat.le_of_ble_eq_true rfl), (Nat.le_of_ble_eq_true rfl)⟩) ⟨xP_blind, xrecv hK hP q0 rfl rfl, fun U hU hW => ⟨rfl, xP_of hU hW hP hK hDw hX hS hAw hAA⟩⟩ rfl rfl hl.1 rfl (lv_room (Nat.le_of_ble_eq_true rfl)) dX7_kindAt_2 ⟨(Nat.le_of_ble_eq_true rfl), (Nat.le_of_ble_eq_true rfl)⟩) hP hS hA (fun r_1 H locs w_2 hP hS => ?_)
  obtain ⟨z_3, rfl, h_4, h_5⟩ := w_2
  refine lv_istore_n (i := 2) (lv' := [(2, .int (iI z_3)), (0, .ref p0.toNat), (1, .int (iI p1))]) hx hb dX7_kindAt_5 rfl hl (by decide) rfl (fun ls hl => ?_)
  refine lv_iload_n hx hb dX7_kindAt_6 rfl (lv_at hl 2 rfl) ?_
  refine lv_aload_n hx hb dX7_kindAt_7 rfl (lv_at hl 1 rfl) ?_
  have h_6 : 0 ≤ v p0 1 ∧ v p0 1 ≤ 600 := xf_7_1 hI q0
  refine gx_RX7_43 (y := v p0 1) hx hb hj hown hK hP q0 rfl dX7_kindAt_8 ?_
  refine xr_icmp_lt (tgt := 16) hx hb dX7_kindAt_11 (by decide) (by omega) (by omega) (fun h_7 => ?_) (fun h_7 => ?_)
  · refine lv_iload_n hx hb dX7_kindAt_16 rfl (lv_at hl 0 rfl) ?_
    refine jc_i (va_runS (As := [.int (iI z_3)]) (rest := []) ⟨hx, hb, hml, hown, hts⟩ (sX7_isLetter l dC dI _ z_3 (by omega)) (va_cwS 1 hts (jgoodS m_789 m_790 m_677 m_791) rfl rfl rfl (by decide +kernel) ⟨(Nat.le_of_ble_eq_true rfl), (Nat.le_of_ble_eq_true rfl)⟩) ⟨jw_blind0, fun U hU hW => ⟨rfl, congrArg Array.size hU⟩⟩ rfl rfl hl.1 rfl (lv_room (Nat.le_of_ble_eq_true rfl)) dX7_kindAt_17 ⟨(Nat.le_of_ble_eq_true rfl), (Nat.le_of_ble_eq_true rfl)⟩) hP hS hA (fun r_8 H locs w_9 hP hS => ?_)
    obtain ⟨z_10, rfl, h_11, h_12⟩ := w_9
    refine xr_if_eq (tgt := 25) hx hb dX7_kindAt_20 (by decide) (by omega) (fun h_13 => ?_) (fun h_13 => ?_)
    · refine lv_iload_n hx hb dX7_kindAt_25 rfl (lv_at hl 0 rfl) ?_
      refine jc_i (va_runS (As := [.int (iI z_3)]) (rest := []) ⟨hx, hb, hml, hown, hts⟩ (sX0_isDigit l dC dI _ z_3 (by omega)) (va_cwS 1 hts (jgoodS m_792 m_665 m_666 m_667) rfl rfl rfl (by decide +kernel) ⟨(Nat.le_of_ble_eq_true rfl), (Nat.le_of_ble_eq_true rfl)⟩) ⟨jw_blind0, fun U hU hW => ⟨rfl, congrArg Array.size hU⟩⟩ rfl rfl hl.1 rfl (lv_room (Nat.le_of_ble_eq_true rfl)) dX7_kindAt_26 ⟨(Nat.le_of_ble_eq_true rfl), (Nat.le_of_ble_eq_true rfl)⟩) hP hS hA (fun r_14 H locs w_15 hP hS => ?_)
      obtain ⟨z_16, rfl, h_17, h_18⟩ := w_15
      refine xr_if_eq (tgt := 34) hx hb dX7_kindAt_29 (by decide) (by omega) (fun h_19 => ?_) (fun h_19 => ?_)
      · refine lv_iload_n hx hb dX7_kindAt_34 rfl (lv_at hl 0 rfl) ?_
        refine jc_i (va_runS (As := [.int (iI z_3)]) (rest := []) ⟨hx, hb, hml, hown, hts⟩ (sX7_isSign l dC dI _ L cid K N tW sK sV v z_3 hI (by omega) (by omega)) (va_cwS 1 hts (jgoodS m_793 m_794 m_677 m_795) rfl rfl rfl (by decide +kernel) ⟨(Nat.le_of_ble_eq_true rfl), (Nat.le_of_ble_eq_true rfl)⟩) ⟨xP_blind, fun U hU hW => ⟨rfl, xP_of hU hW hP hK hDw hX hS hAw hAA⟩⟩ rfl rfl hl.1 rfl (lv_room (Nat.le_of_ble_eq_true rfl)) dX7_kindAt_35 ⟨(Nat.le_of_ble_eq_true rfl), (Nat.le_of_ble_eq_true rfl)⟩) hP hS hA (fun r_20 H locs w_21 hP hS => ?_)
        obtain ⟨z_22, rfl, h_23, h_24⟩ := w_21
        refine xr_if_eq (tgt := 45) hx hb dX7_kindAt_38 (by decide) (by omega) (fun h_25 => ?_) (fun h_25 => ?_)
        · refine lv_iconst (v := iI 3) hx hb dX7_kindAt_45 rfl ?_
          rw [← hQ]
          exact W.iret (v := iI 3) hx hb hr (fun t ht hW => ⟨⟨iI 3, (), rfl, ⟨3, rfl, by omega, by first | exact (tkd_0 (by omega)).symm | exact (tkd_1 (by omega) (by omega)).symm | exact (tkd_2 (by omega) (by omega)).symm | exact (tkd_3 (by omega) (by omega) (by omega) (by omega)).symm | exact (show _ = tT p1 by omega).trans (tkd_s (by omega) (by omega)).symm⟩, trivial⟩, hS.F ht⟩) hS.2.2 dX7_kindAt_46
        · refine lv_iload_n hx hb dX7_kindAt_41 rfl (lv_at hl 0 rfl) ?_
          refine lv_goto (tgt := 46) hx hb dX7_kindAt_42 (by decide) ?_
          rw [← hQ]
          exact W.iret (v := iI z_3) hx hb hr (fun t ht hW => ⟨⟨iI z_3, (), rfl, ⟨z_3, rfl, by omega, by first | exact (tkd_0 (by omega)).symm | exact (tkd_1 (by omega) (by omega)).symm | exact (tkd_2 (by omega) (by omega)).symm | exact (tkd_3 (by omega) (by omega) (by omega) (by omega)).symm | exact (show _ = tT p1 by omega).trans (tkd_s (by omega) (by omega)).symm⟩, trivial⟩, hS.F ht⟩) hS.2.2 dX7_kindAt_46
      · refine lv_iconst (v := iI 2) hx hb dX7_kindAt_32 rfl ?_
        rw [← hQ]
        exact W.iret (v := iI 2) hx hb hr (fun t ht hW => ⟨⟨iI 2, (), rfl, ⟨2, rfl, by omega, by first | exact (tkd_0 (by omega)).symm | exact (tkd_1 (by omega) (by omega)).symm | exact (tkd_2 (by omega) (by omega)).symm | exact (tkd_3 (by omega) (by omega) (by omega) (by omega)).symm | exact (show _ = tT p1 by omega).trans (tkd_s (by omega) (by omega)).symm⟩, trivial⟩, hS.F ht⟩) hS.2.2 dX7_kindAt_33
    · refine lv_iconst (v := iI 1) hx hb dX7_kindAt_23 rfl ?_
      rw [← hQ]
      exact W.iret (v := iI 1) hx hb hr (fun t ht hW => ⟨⟨iI 1, (), rfl, ⟨1, rfl, by omega, by first | exact (tkd_0 (by omega)).symm | exact (tkd_1 (by omega) (by omega)).symm | exact (tkd_2 (by omega) (by omega)).symm | exact (tkd_3 (by omega) (by omega) (by omega) (by omega)).symm | exact (show _ = tT p1 by omega).trans (tkd_s (by omega) (by omega)).symm⟩, trivial⟩, hS.F ht⟩) hS.2.2 dX7_kindAt_24
  · refine lv_iconst (v := iI 0) hx hb dX7_kindAt_14 rfl ?_
    rw [← hQ]
    exact W.iret (v := iI 0) hx hb hr (fun t ht hW => ⟨⟨iI 0, (), rfl, ⟨0, rfl, by omega, by first | exact (tkd_0 (by omega)).symm | exact (tkd_1 (by omega) (by omega)).symm | exact (tkd_2 (by omega) (by omega)).symm | exact (tkd_3 (by omega) (by omega) (by omega) (by omega)).symm | exact (show _ = tT p1 by omega).trans (tkd_s (by omega) (by omega)).symm⟩, trivial⟩, hS.F ht⟩) hS.2.2 dX7_kindAt_15
set_option maxHeartbeats 2000000 in
set_option maxRecDepth 100000 in
theorem sX7_stopAt (l : Launch) (dC : Nat → ClassId) (dI : Nat → Nat → Nat) (sz : Nat) (L : List Nat) (cid : Nat → ClassId) (K : Int → Nat) (N : Int → Int) (tW : Nat) (sK sV : Nat → Nat) (v : Int → Int → Int) (tT : Int → Int) (tN : Int) (p0 : Int) (p1 : Int) (p2 : Int) (hI : xI L K N v) (q0 : ok L K p0 7) (q1 : rg p1) (q2 : rg p2) (k1 : txt tT tN v p0) (k2 : 0 ≤ p1 ∧ p1 ≤ 600) : Met l yX7_stopAt (jk yX7_stopAt cX7_stopAt 4 (some .int)) ({ frames := 1, cells := 0, slots := 0, locals := 21 }) (va_Pc [.ref p0.toNat, .int (iI p1), .int (iI p2)] (xP (dC, dI) (xG L cid K N v) (xT cid) tW sK sV sz)) (va_Qi (fun (r : Int32) (_ : Unit) => ∃ z : Int, r = iI z ∧ (1 ≤ z ∧ z ≤ 602) ∧ (p1 + 1 ≤ z) ∧ (p2 ≠ tkd tT tN p1 ∨ z = ten tT tN p1)) (fun _ _ => True) (va_A [] sz)) 0 0 (va_A [] sz) := by
  refine Met.ofW (cc := cX7_stopAt) (maxL := 4) (ret := (some .int)) (by decide) rfl ?_
  intro p e s m args below meth c s₁ B hml hv
  obtain ⟨rfl, ⟨hsz, hP, hK, hD0⟩, hX⟩ := hv
  have hx := B.exec
  have hb := B.bytes
  have hr := B.returns
  have hts := atoms_spec (ws := (jk yX7_stopAt cX7_stopAt 4 (some .int))) B.pre
  have hj : ∀ w ∈ jw, w.before ([.ref p0.toNat, .int (iI p1), .int (iI p2)] : List Value).toArray s = true := fun w h => hts w (jm h)
  have hown : s.vm.findClass RX7 = some m.cls := findClass_of_methodNamed B.named
  subst hsz
  have hDw := hD0.self (sz := s.heap.size)
  have hAA : ∀ q : Nat, s.heap.size ≤ q → va_A (xG L cid K N v) s.heap.size q := fun q h => Or.inr h
  have hAw : ∀ q, va_A [] s.heap.size q → va_A (xG L cid K N v) s.heap.size q := ja_nil va_S.rf hAA
  generalize hAe : (va_A [] s.heap.size) = A at hAw ⊢
  have hA : ∀ q : Nat, s.heap.size ≤ q → A q := fun q h => by rw [← hAe]; exact Or.inr h
  have hS : va_S A s.heap s.heap [] := va_S.rf
  have hXa := hX.nar hAw
  have hP : va_P (dC, dI) vwCl (xG L cid K N v) s.heap := hP
  have hl := lv_entry ([.ref p0.toNat, .int (iI p1), .int (iI p2)]) (n := 4) (Nat.le_of_ble_eq_true rfl)
  rw [lg_entry_eq]
  generalize (lg_sl ([.ref p0.toNat, .int (iI p1), .int (iI p2)]) ++ List.replicate (4 - (lg_sl ([.ref p0.toNat, .int (iI p1), .int (iI p2)])).length) Slot.unset).toArray = ls at hl ⊢
  have hl : lv_has ls 4 [(0, .ref p0.toNat), (1, .int (iI p1)), (2, .int (iI p2))] := hl
  generalize hQ : MQ below (va_Qi (fun (r : Int32) (_ : Unit) => ∃ z : Int, r = iI z ∧ (1 ≤ z ∧ z ≤ 602) ∧ (p1 + 1 ≤ z) ∧ (p2 ≠ tkd tT tN p1 ∨ z = ten tT tN p1)) (fun _ _ => True) A) ([.ref p0.toNat, .int (iI p1), .int (iI p2)] : List Value).toArray s 0 0 A = Q
  suffices ST : ∀ (H : Heap) (locs : List Loc), va_P (dC, dI) vwCl (xG L cid K N v) H → va_S A s.heap H locs → W p l e ({ frames := 1, cells := 0, slots := 0, locals := 21 }) s m ([.ref p0.toNat, .int (iI p1), .int (iI p2)] : List Value).toArray below meth c H locs 0 0 Q (F0 m 0 ls []) from ST _ _ hP hS
  clear hP hS
  intro H locs hP hS
  have t2 : tN = v p0 1 := k1.1
  have t1 := xf_7_1 hI q0
  refine lv_iload_n hx hb dX7_stopAt_0 rfl (lv_at hl 1 rfl) ?_
  refine lv_iconst (v := iI 1) hx hb dX7_stopAt_1 rfl ?_
  refine xr_add hx hb dX7_stopAt_2 ?_
  refine lv_istore_n (i := 3) (lv' := [(3, .int (iI (p1 + 1))), (0, .ref p0.toNat), (1, .int (iI p1)), (2, .int (iI p2))]) hx hb dX7_stopAt_3 rfl hl (by decide) rfl (fun ls hl => ?_)
  have L4 : ∀ (n4 : Nat) (a3_4 : Int) (H : Heap) (locs : List Loc) (ls : Array Slot), (1 ≤ a3_4 ∧ a3_4 ≤ 601) → (p1 + 1 ≤ a3_4 ∧ a3_4 ≤ 601) → (p2 = 1 ∨ a3_4 = p1 + 1) → (scn (bL tT) tN (p1 + 1) = scn (bL tT) tN (a3_4)) → (0 < (n4 : Int) ∧ (v p0 1) - a3_4 < (n4 : Int)) → va_P (dC, dI) vwCl (xG L cid K N v) H → va_S A s.heap H locs → lv_has ls 4 [(3, .int (iI a3_4)), (0, .ref p0.toNat), (1, .int (iI p1)), (2, .int (iI p2))] → W p l e ({ frames := 1, cells := 0, slots := 0, locals := 21 }) s m ([.ref p0.toNat, .int (iI p1), .int (iI p2)] : List Value).toArray below meth c H locs 0 0 Q (F0 m 4 ls []) := by
    intro n4
    induction n4 with
    | zero =>
      intro a3_4 H locs ls h_1 h_2 h_3 h_4 hm4 hP hS hl
      exfalso; omega
    | succ n4 ih4 =>
      intro a3_4 H locs ls h_5 h_6 h_7 h_8 hm4 hP hS hl
      refine lv_iload_n hx hb dX7_stopAt_4 rfl (lv_at hl 0 rfl) ?_
      refine lv_aload_n hx hb dX7_stopAt_5 rfl (lv_at hl 1 rfl) ?_
      have h_9 : 0 ≤ v p0 1 ∧ v p0 1 ≤ 600 := xf_7_1 hI q0
      refine gx_RX7_43 (y := v p0 1) hx hb hj hown hK hP q0 rfl dX7_stopAt_6 ?_
      refine xr_icmp_ge (tgt := 34) hx hb dX7_stopAt_9 (by decide) (by omega) (by omega) (fun h_10 => ?_) (fun h_10 => ?_)
      · have L34 : ∀ (n34 : Nat) (a3_34 : Int) (H : Heap) (locs : List Loc) (ls : Array Slot), (1 ≤ a3_34 ∧ a3_34 ≤ 601) → (p1 + 1 ≤ a3_34 ∧ a3_34 ≤ 602) → (p2 = 2 ∨ a3_34 = a3_4) → (p2 ≠ 1 ∨ a3_4 = scn (bL tT) tN (p1 + 1)) → (scn (bD tT) tN a3_4 = scn (bD tT) tN (a3_34)) → (0 < (n34 : Int) ∧ (v p0 1) - a3_34 < (n34 : Int)) → va_P (dC, dI) vwCl (xG L cid K N v) H → va_S A s.heap H locs → lv_has ls 4 [(3, .int (iI a3_34)), (0, .ref p0.toNat), (1, .int (iI p1)), (2, .int (iI p2))] → W p l e ({ frames := 1, cells := 0, slots := 0, locals := 21 }) s m ([.ref p0.toNat, .int (iI p1), .int (iI p2)] : List Value).toArray below meth c H locs 0 0 Q (F0 m 34 ls []) := by
          intro n34
          induction n34 with
          | zero =>
            intro a3_34 H locs ls h_11 h_12 h_13 h_14 h_15 hm34 hP hS hl
            exfalso; omega
          | succ n34 ih34 =>
            intro a3_34 H locs ls h_16 h_17 h_18 h_19 h_20 hm34 hP hS hl
            refine lv_iload_n hx hb dX7_stopAt_34 rfl (lv_at hl 0 rfl) ?_
            refine lv_aload_n hx hb dX7_stopAt_35 rfl (lv_at hl 1 rfl) ?_
            refine gx_RX7_43 (y := v p0 1) hx hb hj hown hK hP q0 rfl dX7_stopAt_36 ?_
            refine xr_icmp_ge (tgt := 64) hx hb dX7_stopAt_39 (by decide) (by omega) (by omega) (fun h_21 => ?_) (fun h_21 => ?_)
            · refine lv_iload_n hx hb dX7_stopAt_64 rfl (lv_at hl 0 rfl) ?_
              rw [← hQ]
              exact W.iret (v := iI a3_34) hx hb hr (fun t ht hW => ⟨⟨iI a3_34, (), rfl, ⟨a3_34, rfl, by omega, by omega, by exact ten_of (a4 := a3_4) (by assumption) (by omega) (by omega) (by assumption) (by omega)⟩, trivial⟩, hS.F ht⟩) hS.2.2 dX7_stopAt_65
            · refine lv_iload_n hx hb dX7_stopAt_42 rfl (lv_at hl 3 rfl) ?_
              refine lv_iconst (v := iI 2) hx hb dX7_stopAt_43 rfl ?_
              refine xr_icmp_ne (tgt := 64) hx hb dX7_stopAt_44 (by decide) (by omega) (by omega) (fun h_22 => ?_) (fun h_22 => ?_)
              · refine lv_iload_n hx hb dX7_stopAt_64 rfl (lv_at hl 0 rfl) ?_
                rw [← hQ]
                exact W.iret (v := iI a3_34) hx hb hr (fun t ht hW => ⟨⟨iI a3_34, (), rfl, ⟨a3_34, rfl, by omega, by omega, by exact ten_of (a4 := a3_4) (by assumption) (by omega) (by omega) (by assumption) (by omega)⟩, trivial⟩, hS.F ht⟩) hS.2.2 dX7_stopAt_65
              · refine lv_aload_n hx hb dX7_stopAt_47 rfl (lv_at hl 1 rfl) ?_
                refine lv_iload_n hx hb dX7_stopAt_48 rfl (lv_at hl 0 rfl) ?_
                refine jc_i (va_runV (As := [.int (iI a3_34)]) (rest := []) ⟨hx, hb, hml, hown, hts⟩ (sX7_byteAt l dC dI _ L cid K N tW sK sV v tT tN p0 a3_34 hI q0 (by omega) k1) (cwV 1 hts (jgoodV m_728 m_729 m_730 m_677 m_731) rfl rfl rfl (by decide +kernel) ⟨(Nat.le_of_ble_eq_true rfl), (Nat.le_of_ble_eq_true rfl)⟩) ⟨xP_blind, xrecv hK hP q0 rfl rfl, fun U hU hW => ⟨rfl, xP_of hU hW hP hK hDw hX hS hAw hAA⟩⟩ rfl rfl hl.1 rfl (lv_room (Nat.le_of_ble_eq_true rfl)) dX7_stopAt_49 ⟨(Nat.le_of_ble_eq_true rfl), (Nat.le_of_ble_eq_true rfl)⟩) hP hS hA (fun r_23 H locs w_24 hP hS => ?_)
                obtain ⟨z_25, rfl, h_26, h_27⟩ := w_24
                refine jc_i (va_runS (As := [.int (iI z_25)]) (rest := []) ⟨hx, hb, hml, hown, hts⟩ (sX0_isDigit l dC dI _ z_25 (by omega)) (va_cwS 1 hts (jgoodS m_792 m_665 m_666 m_667) rfl rfl rfl (by decide +kernel) ⟨(Nat.le_of_ble_eq_true rfl), (Nat.le_of_ble_eq_true rfl)⟩) ⟨jw_blind0, fun U hU hW => ⟨rfl, congrArg Array.size hU⟩⟩ rfl rfl hl.1 rfl (lv_room (Nat.le_of_ble_eq_true rfl)) dX7_stopAt_52 ⟨(Nat.le_of_ble_eq_true rfl), (Nat.le_of_ble_eq_true rfl)⟩) hP hS hA (fun r_28 H locs w_29 hP hS => ?_)
                obtain ⟨z_30, rfl, h_31, h_32⟩ := w_29
                refine xr_if_eq (tgt := 64) hx hb dX7_stopAt_55 (by decide) (by omega) (fun h_33 => ?_) (fun h_33 => ?_)
                · refine lv_iload_n hx hb dX7_stopAt_64 rfl (lv_at hl 0 rfl) ?_
                  rw [← hQ]
                  exact W.iret (v := iI a3_34) hx hb hr (fun t ht hW => ⟨⟨iI a3_34, (), rfl, ⟨a3_34, rfl, by omega, by omega, by exact ten_of (a4 := a3_4) (by assumption) (by omega) (by omega) (by assumption) (by omega)⟩, trivial⟩, hS.F ht⟩) hS.2.2 dX7_stopAt_65
                · refine lv_iinc (v := iI (a3_34 + 1)) (lv' := [(3, .int (iI (a3_34 + 1))), (0, .ref p0.toNat), (1, .int (iI p1)), (2, .int (iI p2))]) hx hb dX7_stopAt_58 hl (k := 0) rfl (iI_add _ _) (by decide) rfl (fun ls hl => ?_)
                  refine lv_goto (tgt := 34) hx hb dX7_stopAt_61 (by decide) ?_
                  exact ih34 (a3_34 + 1) H locs ls (by omega) (by omega) (by omega) (by first | assumption | exact Or.inl (by omega) | exact Or.inr (ls_2 (by assumption) (by omega))) (by first | exact rfl | exact ds_1 (by assumption) (by omega) (by omega)) (by omega) hP hS hl
        exact L34 ((((v p0 1) - a3_4 : Int)).toNat + 1) a3_4 H locs ls (by omega) (by omega) (by omega) (by first | assumption | exact Or.inl (by omega) | exact Or.inr (ls_2 (by assumption) (by omega))) (by first | exact rfl | exact ds_1 (by assumption) (by omega) (by omega)) (by omega) hP hS hl
      · refine lv_iload_n hx hb dX7_stopAt_12 rfl (lv_at hl 3 rfl) ?_
        refine lv_iconst (v := iI 1) hx hb dX7_stopAt_13 rfl ?_
        refine xr_icmp_ne (tgt := 34) hx hb dX7_stopAt_14 (by decide) (by omega) (by omega) (fun h_34 => ?_) (fun h_34 => ?_)
        · have L34 : ∀ (n34 : Nat) (a3_34 : Int) (H : Heap) (locs : List Loc) (ls : Array Slot), (1 ≤ a3_34 ∧ a3_34 ≤ 601) → (p1 + 1 ≤ a3_34 ∧ a3_34 ≤ 602) → (p2 = 2 ∨ a3_34 = a3_4) → (p2 ≠ 1 ∨ a3_4 = scn (bL tT) tN (p1 + 1)) → (scn (bD tT) tN a3_4 = scn (bD tT) tN (a3_34)) → (0 < (n34 : Int) ∧ (v p0 1) - a3_34 < (n34 : Int)) → va_P (dC, dI) vwCl (xG L cid K N v) H → va_S A s.heap H locs → lv_has ls 4 [(3, .int (iI a3_34)), (0, .ref p0.toNat), (1, .int (iI p1)), (2, .int (iI p2))] → W p l e ({ frames := 1, cells := 0, slots := 0, locals := 21 }) s m ([.ref p0.toNat, .int (iI p1), .int (iI p2)] : List Value).toArray below meth c H locs 0 0 Q (F0 m 34 ls []) := by
            intro n34
            induction n34 with
            | zero =>
              intro a3_34 H locs ls h_35 h_36 h_37 h_38 h_39 hm34 hP hS hl
              exfalso; omega
            | succ n34 ih34 =>
              intro a3_34 H locs ls h_40 h_41 h_42 h_43 h_44 hm34 hP hS hl
              refine lv_iload_n hx hb dX7_stopAt_34 rfl (lv_at hl 0 rfl) ?_
              refine lv_aload_n hx hb dX7_stopAt_35 rfl (lv_at hl 1 rfl) ?_
              refine gx_RX7_43 (y := v p0 1) hx hb hj hown hK hP q0 rfl dX7_stopAt_36 ?_
              refine xr_icmp_ge (tgt := 64) hx hb dX7_stopAt_39 (by decide) (by omega) (by omega) (fun h_45 => ?_) (fun h_45 => ?_)
              · refine lv_iload_n hx hb dX7_stopAt_64 rfl (lv_at hl 0 rfl) ?_
                rw [← hQ]
                exact W.iret (v := iI a3_34) hx hb hr (fun t ht hW => ⟨⟨iI a3_34, (), rfl, ⟨a3_34, rfl, by omega, by omega, by exact ten_of (a4 := a3_4) (by assumption) (by omega) (by omega) (by assumption) (by omega)⟩, trivial⟩, hS.F ht⟩) hS.2.2 dX7_stopAt_65
              · refine lv_iload_n hx hb dX7_stopAt_42 rfl (lv_at hl 3 rfl) ?_
                refine lv_iconst (v := iI 2) hx hb dX7_stopAt_43 rfl ?_
                refine xr_icmp_ne (tgt := 64) hx hb dX7_stopAt_44 (by decide) (by omega) (by omega) (fun h_46 => ?_) (fun h_46 => ?_)
                · refine lv_iload_n hx hb dX7_stopAt_64 rfl (lv_at hl 0 rfl) ?_
                  rw [← hQ]
                  exact W.iret (v := iI a3_34) hx hb hr (fun t ht hW => ⟨⟨iI a3_34, (), rfl, ⟨a3_34, rfl, by omega, by omega, by exact ten_of (a4 := a3_4) (by assumption) (by omega) (by omega) (by assumption) (by omega)⟩, trivial⟩, hS.F ht⟩) hS.2.2 dX7_stopAt_65
                · refine lv_aload_n hx hb dX7_stopAt_47 rfl (lv_at hl 1 rfl) ?_
                  refine lv_iload_n hx hb dX7_stopAt_48 rfl (lv_at hl 0 rfl) ?_
                  refine jc_i (va_runV (As := [.int (iI a3_34)]) (rest := []) ⟨hx, hb, hml, hown, hts⟩ (sX7_byteAt l dC dI _ L cid K N tW sK sV v tT tN p0 a3_34 hI q0 (by omega) k1) (cwV 1 hts (jgoodV m_728 m_729 m_730 m_677 m_731) rfl rfl rfl (by decide +kernel) ⟨(Nat.le_of_ble_eq_true rfl), (Nat.le_of_ble_eq_true rfl)⟩) ⟨xP_blind, xrecv hK hP q0 rfl rfl, fun U hU hW => ⟨rfl, xP_of hU hW hP hK hDw hX hS hAw hAA⟩⟩ rfl rfl hl.1 rfl (lv_room (Nat.le_of_ble_eq_true rfl)) dX7_stopAt_49 ⟨(Nat.le_of_ble_eq_true rfl), (Nat.le_of_ble_eq_true rfl)⟩) hP hS hA (fun r_47 H locs w_48 hP hS => ?_)
                  obtain ⟨z_49, rfl, h_50, h_51⟩ := w_48
                  refine jc_i (va_runS (As := [.int (iI z_49)]) (rest := []) ⟨hx, hb, hml, hown, hts⟩ (sX0_isDigit l dC dI _ z_49 (by omega)) (va_cwS 1 hts (jgoodS m_792 m_665 m_666 m_667) rfl rfl rfl (by decide +kernel) ⟨(Nat.le_of_ble_eq_true rfl), (Nat.le_of_ble_eq_true rfl)⟩) ⟨jw_blind0, fun U hU hW => ⟨rfl, congrArg Array.size hU⟩⟩ rfl rfl hl.1 rfl (lv_room (Nat.le_of_ble_eq_true rfl)) dX7_stopAt_52 ⟨(Nat.le_of_ble_eq_true rfl), (Nat.le_of_ble_eq_true rfl)⟩) hP hS hA (fun r_52 H locs w_53 hP hS => ?_)
                  obtain ⟨z_54, rfl, h_55, h_56⟩ := w_53
                  refine xr_if_eq (tgt := 64) hx hb dX7_stopAt_55 (by decide) (by omega) (fun h_57 => ?_) (fun h_57 => ?_)
                  · refine lv_iload_n hx hb dX7_stopAt_64 rfl (lv_at hl 0 rfl) ?_
                    rw [← hQ]
                    exact W.iret (v := iI a3_34) hx hb hr (fun t ht hW => ⟨⟨iI a3_34, (), rfl, ⟨a3_34, rfl, by omega, by omega, by exact ten_of (a4 := a3_4) (by assumption) (by omega) (by omega) (by assumption) (by omega)⟩, trivial⟩, hS.F ht⟩) hS.2.2 dX7_stopAt_65
                  · refine lv_iinc (v := iI (a3_34 + 1)) (lv' := [(3, .int (iI (a3_34 + 1))), (0, .ref p0.toNat), (1, .int (iI p1)), (2, .int (iI p2))]) hx hb dX7_stopAt_58 hl (k := 0) rfl (iI_add _ _) (by decide) rfl (fun ls hl => ?_)
                    refine lv_goto (tgt := 34) hx hb dX7_stopAt_61 (by decide) ?_
                    exact ih34 (a3_34 + 1) H locs ls (by omega) (by omega) (by omega) (by first | assumption | exact Or.inl (by omega) | exact Or.inr (ls_2 (by assumption) (by omega))) (by first | exact rfl | exact ds_1 (by assumption) (by omega) (by omega)) (by omega) hP hS hl
          exact L34 ((((v p0 1) - a3_4 : Int)).toNat + 1) a3_4 H locs ls (by omega) (by omega) (by omega) (by first | assumption | exact Or.inl (by omega) | exact Or.inr (ls_2 (by assumption) (by omega))) (by first | exact rfl | exact ds_1 (by assumption) (by omega) (by omega)) (by omega) hP hS hl
        · refine lv_aload_n hx hb dX7_stopAt_17 rfl (lv_at hl 1 rfl) ?_
          refine lv_iload_n hx hb dX7_stopAt_18 rfl (lv_at hl 0 rfl) ?_
          refine jc_i (va_runV (As := [.int (iI a3_4)]) (rest := []) ⟨hx, hb, hml, hown, hts⟩ (sX7_byteAt l dC dI _ L cid K N tW sK sV v tT tN p0 a3_4 hI q0 (by omega) k1) (cwV 1 hts (jgoodV m_728 m_729 m_730 m_677 m_731) rfl rfl rfl (by decide +kernel) ⟨(Nat.le_of_ble_eq_true rfl), (Nat.le_of_ble_eq_true rfl)⟩) ⟨xP_blind, xrecv hK hP q0 rfl rfl, fun U hU hW => ⟨rfl, xP_of hU hW hP hK hDw hX hS hAw hAA⟩⟩ rfl rfl hl.1 rfl (lv_room (Nat.le_of_ble_eq_true rfl)) dX7_stopAt_19 ⟨(Nat.le_of_ble_eq_true rfl), (Nat.le_of_ble_eq_true rfl)⟩) hP hS hA (fun r_58 H locs w_59 hP hS => ?_)
          obtain ⟨z_60, rfl, h_61, h_62⟩ := w_59
          refine jc_i (va_runS (As := [.int (iI z_60)]) (rest := []) ⟨hx, hb, hml, hown, hts⟩ (sX7_isLetter l dC dI _ z_60 (by omega)) (va_cwS 1 hts (jgoodS m_789 m_790 m_677 m_791) rfl rfl rfl (by decide +kernel) ⟨(Nat.le_of_ble_eq_true rfl), (Nat.le_of_ble_eq_true rfl)⟩) ⟨jw_blind0, fun U hU hW => ⟨rfl, congrArg Array.size hU⟩⟩ rfl rfl hl.1 rfl (lv_room (Nat.le_of_ble_eq_true rfl)) dX7_stopAt_22 ⟨(Nat.le_of_ble_eq_true rfl), (Nat.le_of_ble_eq_true rfl)⟩) hP hS hA (fun r_63 H locs w_64 hP hS => ?_)
          obtain ⟨z_65, rfl, h_66, h_67⟩ := w_64
          refine xr_if_eq (tgt := 34) hx hb dX7_stopAt_25 (by decide) (by omega) (fun h_68 => ?_) (fun h_68 => ?_)
          · have L34 : ∀ (n34 : Nat) (a3_34 : Int) (H : Heap) (locs : List Loc) (ls : Array Slot), (1 ≤ a3_34 ∧ a3_34 ≤ 601) → (p1 + 1 ≤ a3_34 ∧ a3_34 ≤ 602) → (p2 = 2 ∨ a3_34 = a3_4) → (p2 ≠ 1 ∨ a3_4 = scn (bL tT) tN (p1 + 1)) → (scn (bD tT) tN a3_4 = scn (bD tT) tN (a3_34)) → (0 < (n34 : Int) ∧ (v p0 1) - a3_34 < (n34 : Int)) → va_P (dC, dI) vwCl (xG L cid K N v) H → va_S A s.heap H locs → lv_has ls 4 [(3, .int (iI a3_34)), (0, .ref p0.toNat), (1, .int (iI p1)), (2, .int (iI p2))] → W p l e ({ frames := 1, cells := 0, slots := 0, locals := 21 }) s m ([.ref p0.toNat, .int (iI p1), .int (iI p2)] : List Value).toArray below meth c H locs 0 0 Q (F0 m 34 ls []) := by
              intro n34
              induction n34 with
              | zero =>
                intro a3_34 H locs ls h_69 h_70 h_71 h_72 h_73 hm34 hP hS hl
                exfalso; omega
              | succ n34 ih34 =>
                intro a3_34 H locs ls h_74 h_75 h_76 h_77 h_78 hm34 hP hS hl
                refine lv_iload_n hx hb dX7_stopAt_34 rfl (lv_at hl 0 rfl) ?_
                refine lv_aload_n hx hb dX7_stopAt_35 rfl (lv_at hl 1 rfl) ?_
                refine gx_RX7_43 (y := v p0 1) hx hb hj hown hK hP q0 rfl dX7_stopAt_36 ?_
                refine xr_icmp_ge (tgt := 64) hx hb dX7_stopAt_39 (by decide) (by omega) (by omega) (fun h_79 => ?_) (fun h_79 => ?_)
                · refine lv_iload_n hx hb dX7_stopAt_64 rfl (lv_at hl 0 rfl) ?_
                  rw [← hQ]
                  exact W.iret (v := iI a3_34) hx hb hr (fun t ht hW => ⟨⟨iI a3_34, (), rfl, ⟨a3_34, rfl, by omega, by omega, by exact ten_of (a4 := a3_4) (by assumption) (by omega) (by omega) (by assumption) (by omega)⟩, trivial⟩, hS.F ht⟩) hS.2.2 dX7_stopAt_65
                · refine lv_iload_n hx hb dX7_stopAt_42 rfl (lv_at hl 3 rfl) ?_
                  refine lv_iconst (v := iI 2) hx hb dX7_stopAt_43 rfl ?_
                  refine xr_icmp_ne (tgt := 64) hx hb dX7_stopAt_44 (by decide) (by omega) (by omega) (fun h_80 => ?_) (fun h_80 => ?_)
                  · refine lv_iload_n hx hb dX7_stopAt_64 rfl (lv_at hl 0 rfl) ?_
                    rw [← hQ]
                    exact W.iret (v := iI a3_34) hx hb hr (fun t ht hW => ⟨⟨iI a3_34, (), rfl, ⟨a3_34, rfl, by omega, by omega, by exact ten_of (a4 := a3_4) (by assumption) (by omega) (by omega) (by assumption) (by omega)⟩, trivial⟩, hS.F ht⟩) hS.2.2 dX7_stopAt_65
                  · refine lv_aload_n hx hb dX7_stopAt_47 rfl (lv_at hl 1 rfl) ?_
                    refine lv_iload_n hx hb dX7_stopAt_48 rfl (lv_at hl 0 rfl) ?_
                    refine jc_i (va_runV (As := [.int (iI a3_34)]) (rest := []) ⟨hx, hb, hml, hown, hts⟩ (sX7_byteAt l dC dI _ L cid K N tW sK sV v tT tN p0 a3_34 hI q0 (by omega) k1) (cwV 1 hts (jgoodV m_728 m_729 m_730 m_677 m_731) rfl rfl rfl (by decide +kernel) ⟨(Nat.le_of_ble_eq_true rfl), (Nat.le_of_ble_eq_true rfl)⟩) ⟨xP_blind, xrecv hK hP q0 rfl rfl, fun U hU hW => ⟨rfl, xP_of hU hW hP hK hDw hX hS hAw hAA⟩⟩ rfl rfl hl.1 rfl (lv_room (Nat.le_of_ble_eq_true rfl)) dX7_stopAt_49 ⟨(Nat.le_of_ble_eq_true rfl), (Nat.le_of_ble_eq_true rfl)⟩) hP hS hA (fun r_81 H locs w_82 hP hS => ?_)
                    obtain ⟨z_83, rfl, h_84, h_85⟩ := w_82
                    refine jc_i (va_runS (As := [.int (iI z_83)]) (rest := []) ⟨hx, hb, hml, hown, hts⟩ (sX0_isDigit l dC dI _ z_83 (by omega)) (va_cwS 1 hts (jgoodS m_792 m_665 m_666 m_667) rfl rfl rfl (by decide +kernel) ⟨(Nat.le_of_ble_eq_true rfl), (Nat.le_of_ble_eq_true rfl)⟩) ⟨jw_blind0, fun U hU hW => ⟨rfl, congrArg Array.size hU⟩⟩ rfl rfl hl.1 rfl (lv_room (Nat.le_of_ble_eq_true rfl)) dX7_stopAt_52 ⟨(Nat.le_of_ble_eq_true rfl), (Nat.le_of_ble_eq_true rfl)⟩) hP hS hA (fun r_86 H locs w_87 hP hS => ?_)
                    obtain ⟨z_88, rfl, h_89, h_90⟩ := w_87
                    refine xr_if_eq (tgt := 64) hx hb dX7_stopAt_55 (by decide) (by omega) (fun h_91 => ?_) (fun h_91 => ?_)
                    · refine lv_iload_n hx hb dX7_stopAt_64 rfl (lv_at hl 0 rfl) ?_
                      rw [← hQ]
                      exact W.iret (v := iI a3_34) hx hb hr (fun t ht hW => ⟨⟨iI a3_34, (), rfl, ⟨a3_34, rfl, by omega, by omega, by exact ten_of (a4 := a3_4) (by assumption) (by omega) (by omega) (by assumption) (by omega)⟩, trivial⟩, hS.F ht⟩) hS.2.2 dX7_stopAt_65
                    · refine lv_iinc (v := iI (a3_34 + 1)) (lv' := [(3, .int (iI (a3_34 + 1))), (0, .ref p0.toNat), (1, .int (iI p1)), (2, .int (iI p2))]) hx hb dX7_stopAt_58 hl (k := 0) rfl (iI_add _ _) (by decide) rfl (fun ls hl => ?_)
                      refine lv_goto (tgt := 34) hx hb dX7_stopAt_61 (by decide) ?_
                      exact ih34 (a3_34 + 1) H locs ls (by omega) (by omega) (by omega) (by first | assumption | exact Or.inl (by omega) | exact Or.inr (ls_2 (by assumption) (by omega))) (by first | exact rfl | exact ds_1 (by assumption) (by omega) (by omega)) (by omega) hP hS hl
            exact L34 ((((v p0 1) - a3_4 : Int)).toNat + 1) a3_4 H locs ls (by omega) (by omega) (by omega) (by first | assumption | exact Or.inl (by omega) | exact Or.inr (ls_2 (by assumption) (by omega))) (by first | exact rfl | exact ds_1 (by assumption) (by omega) (by omega)) (by omega) hP hS hl
          · refine lv_iinc (v := iI (a3_4 + 1)) (lv' := [(3, .int (iI (a3_4 + 1))), (0, .ref p0.toNat), (1, .int (iI p1)), (2, .int (iI p2))]) hx hb dX7_stopAt_28 hl (k := 0) rfl (iI_add _ _) (by decide) rfl (fun ls hl => ?_)
            refine lv_goto (tgt := 4) hx hb dX7_stopAt_31 (by decide) ?_
            exact ih4 (a3_4 + 1) H locs ls (by omega) (by omega) (by omega) (by first | exact rfl | exact ls_1 (by assumption) (by omega) (by omega)) (by omega) hP hS hl
  exact L4 ((((v p0 1) - (p1 + 1) : Int)).toNat + 1) (p1 + 1) H locs ls (by omega) (by omega) (by omega) (by first | exact rfl | exact ls_1 (by assumption) (by omega) (by omega)) (by omega) hP hS hl
