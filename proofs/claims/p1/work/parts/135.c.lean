set_option maxHeartbeats 500000 in
set_option maxRecDepth 100000 in
theorem kX12_canGive_1 (l : Launch) (dC : Nat → ClassId) (dI : Nat → Nat → Nat) (sz : Nat) (h0 : Nat) (p1 : Int32) (p2 : Int32) (p3 : Int32) : Met l yX12_canGive (jk yX12_canGive cX12_canGive 6 (some .boolean)) ({ frames := 1, cells := 0, slots := 0, locals := 20 }) (va_Pc [.ref h0, .int p1, .int p2, .int p3] (fun U => U.heap.size = sz)) (va_Qi (fun (r : Int32) (_ : Unit) => (r = 0) ∨ (¬ (p1 ≤ 0) ∧ ¬ (1073741824 ≤ p1) ∧ ¬ (p2 ≤ 0) ∧ ¬ (4096 ≤ p2) ∧ ¬ (7 < ((((((((p1 - (((Int32.toUInt32 p1 >>> (Int32.toUInt32 1 &&& Int32.toUInt32 31)).toInt32) &&& 1431655765)) &&& 858993459) + (((Int32.toUInt32 (p1 - (((Int32.toUInt32 p1 >>> (Int32.toUInt32 1 &&& Int32.toUInt32 31)).toInt32) &&& 1431655765)) >>> (Int32.toUInt32 2 &&& Int32.toUInt32 31)).toInt32) &&& 858993459)) + ((Int32.toUInt32 (((p1 - (((Int32.toUInt32 p1 >>> (Int32.toUInt32 1 &&& Int32.toUInt32 31)).toInt32) &&& 1431655765)) &&& 858993459) + (((Int32.toUInt32 (p1 - (((Int32.toUInt32 p1 >>> (Int32.toUInt32 1 &&& Int32.toUInt32 31)).toInt32) &&& 1431655765)) >>> (Int32.toUInt32 2 &&& Int32.toUInt32 31)).toInt32) &&& 858993459)) >>> (Int32.toUInt32 4 &&& Int32.toUInt32 31)).toInt32)) &&& 252645135) + ((Int32.toUInt32 (((((p1 - (((Int32.toUInt32 p1 >>> (Int32.toUInt32 1 &&& Int32.toUInt32 31)).toInt32) &&& 1431655765)) &&& 858993459) + (((Int32.toUInt32 (p1 - (((Int32.toUInt32 p1 >>> (Int32.toUInt32 1 &&& Int32.toUInt32 31)).toInt32) &&& 1431655765)) >>> (Int32.toUInt32 2 &&& Int32.toUInt32 31)).toInt32) &&& 858993459)) + ((Int32.toUInt32 (((p1 - (((Int32.toUInt32 p1 >>> (Int32.toUInt32 1 &&& Int32.toUInt32 31)).toInt32) &&& 1431655765)) &&& 858993459) + (((Int32.toUInt32 (p1 - (((Int32.toUInt32 p1 >>> (Int32.toUInt32 1 &&& Int32.toUInt32 31)).toInt32) &&& 1431655765)) >>> (Int32.toUInt32 2 &&& Int32.toUInt32 31)).toInt32) &&& 858993459)) >>> (Int32.toUInt32 4 &&& Int32.toUInt32 31)).toInt32)) &&& 252645135) >>> (Int32.toUInt32 8 &&& Int32.toUInt32 31)).toInt32)) + ((Int32.toUInt32 ((((((p1 - (((Int32.toUInt32 p1 >>> (Int32.toUInt32 1 &&& Int32.toUInt32 31)).toInt32) &&& 1431655765)) &&& 858993459) + (((Int32.toUInt32 (p1 - (((Int32.toUInt32 p1 >>> (Int32.toUInt32 1 &&& Int32.toUInt32 31)).toInt32) &&& 1431655765)) >>> (Int32.toUInt32 2 &&& Int32.toUInt32 31)).toInt32) &&& 858993459)) + ((Int32.toUInt32 (((p1 - (((Int32.toUInt32 p1 >>> (Int32.toUInt32 1 &&& Int32.toUInt32 31)).toInt32) &&& 1431655765)) &&& 858993459) + (((Int32.toUInt32 (p1 - (((Int32.toUInt32 p1 >>> (Int32.toUInt32 1 &&& Int32.toUInt32 31)).toInt32) &&& 1431655765)) >>> (Int32.toUInt32 2 &&& Int32.toUInt32 31)).toInt32) &&& 858993459)) >>> (Int32.toUInt32 4 &&& Int32.toUInt32 31)).toInt32)) &&& 252645135) + ((Int32.toUInt32 (((((p1 - (((Int32.toUInt32 p1 >>> (Int32.toUInt32 1 &&& Int32.toUInt32 31)).toInt32) &&& 1431655765)) &&& 858993459) + (((Int32.toUInt32 (p1 - (((Int32.toUInt32 p1 >>> (Int32.toUInt32 1 &&& Int32.toUInt32 31)).toInt32) &&& 1431655765)) >>> (Int32.toUInt32 2 &&& Int32.toUInt32 31)).toInt32) &&& 858993459)) + ((Int32.toUInt32 (((p1 - (((Int32.toUInt32 p1 >>> (Int32.toUInt32 1 &&& Int32.toUInt32 31)).toInt32) &&& 1431655765)) &&& 858993459) + (((Int32.toUInt32 (p1 - (((Int32.toUInt32 p1 >>> (Int32.toUInt32 1 &&& Int32.toUInt32 31)).toInt32) &&& 1431655765)) >>> (Int32.toUInt32 2 &&& Int32.toUInt32 31)).toInt32) &&& 858993459)) >>> (Int32.toUInt32 4 &&& Int32.toUInt32 31)).toInt32)) &&& 252645135) >>> (Int32.toUInt32 8 &&& Int32.toUInt32 31)).toInt32)) >>> (Int32.toUInt32 16 &&& Int32.toUInt32 31)).toInt32)) &&& 63)) ∧ ¬ (6 < ((((((((p2 - (((Int32.toUInt32 p2 >>> (Int32.toUInt32 1 &&& Int32.toUInt32 31)).toInt32) &&& 1431655765)) &&& 858993459) + (((Int32.toUInt32 (p2 - (((Int32.toUInt32 p2 >>> (Int32.toUInt32 1 &&& Int32.toUInt32 31)).toInt32) &&& 1431655765)) >>> (Int32.toUInt32 2 &&& Int32.toUInt32 31)).toInt32) &&& 858993459)) + ((Int32.toUInt32 (((p2 - (((Int32.toUInt32 p2 >>> (Int32.toUInt32 1 &&& Int32.toUInt32 31)).toInt32) &&& 1431655765)) &&& 858993459) + (((Int32.toUInt32 (p2 - (((Int32.toUInt32 p2 >>> (Int32.toUInt32 1 &&& Int32.toUInt32 31)).toInt32) &&& 1431655765)) >>> (Int32.toUInt32 2 &&& Int32.toUInt32 31)).toInt32) &&& 858993459)) >>> (Int32.toUInt32 4 &&& Int32.toUInt32 31)).toInt32)) &&& 252645135) + ((Int32.toUInt32 (((((p2 - (((Int32.toUInt32 p2 >>> (Int32.toUInt32 1 &&& Int32.toUInt32 31)).toInt32) &&& 1431655765)) &&& 858993459) + (((Int32.toUInt32 (p2 - (((Int32.toUInt32 p2 >>> (Int32.toUInt32 1 &&& Int32.toUInt32 31)).toInt32) &&& 1431655765)) >>> (Int32.toUInt32 2 &&& Int32.toUInt32 31)).toInt32) &&& 858993459)) + ((Int32.toUInt32 (((p2 - (((Int32.toUInt32 p2 >>> (Int32.toUInt32 1 &&& Int32.toUInt32 31)).toInt32) &&& 1431655765)) &&& 858993459) + (((Int32.toUInt32 (p2 - (((Int32.toUInt32 p2 >>> (Int32.toUInt32 1 &&& Int32.toUInt32 31)).toInt32) &&& 1431655765)) >>> (Int32.toUInt32 2 &&& Int32.toUInt32 31)).toInt32) &&& 858993459)) >>> (Int32.toUInt32 4 &&& Int32.toUInt32 31)).toInt32)) &&& 252645135) >>> (Int32.toUInt32 8 &&& Int32.toUInt32 31)).toInt32)) + ((Int32.toUInt32 ((((((p2 - (((Int32.toUInt32 p2 >>> (Int32.toUInt32 1 &&& Int32.toUInt32 31)).toInt32) &&& 1431655765)) &&& 858993459) + (((Int32.toUInt32 (p2 - (((Int32.toUInt32 p2 >>> (Int32.toUInt32 1 &&& Int32.toUInt32 31)).toInt32) &&& 1431655765)) >>> (Int32.toUInt32 2 &&& Int32.toUInt32 31)).toInt32) &&& 858993459)) + ((Int32.toUInt32 (((p2 - (((Int32.toUInt32 p2 >>> (Int32.toUInt32 1 &&& Int32.toUInt32 31)).toInt32) &&& 1431655765)) &&& 858993459) + (((Int32.toUInt32 (p2 - (((Int32.toUInt32 p2 >>> (Int32.toUInt32 1 &&& Int32.toUInt32 31)).toInt32) &&& 1431655765)) >>> (Int32.toUInt32 2 &&& Int32.toUInt32 31)).toInt32) &&& 858993459)) >>> (Int32.toUInt32 4 &&& Int32.toUInt32 31)).toInt32)) &&& 252645135) + ((Int32.toUInt32 (((((p2 - (((Int32.toUInt32 p2 >>> (Int32.toUInt32 1 &&& Int32.toUInt32 31)).toInt32) &&& 1431655765)) &&& 858993459) + (((Int32.toUInt32 (p2 - (((Int32.toUInt32 p2 >>> (Int32.toUInt32 1 &&& Int32.toUInt32 31)).toInt32) &&& 1431655765)) >>> (Int32.toUInt32 2 &&& Int32.toUInt32 31)).toInt32) &&& 858993459)) + ((Int32.toUInt32 (((p2 - (((Int32.toUInt32 p2 >>> (Int32.toUInt32 1 &&& Int32.toUInt32 31)).toInt32) &&& 1431655765)) &&& 858993459) + (((Int32.toUInt32 (p2 - (((Int32.toUInt32 p2 >>> (Int32.toUInt32 1 &&& Int32.toUInt32 31)).toInt32) &&& 1431655765)) >>> (Int32.toUInt32 2 &&& Int32.toUInt32 31)).toInt32) &&& 858993459)) >>> (Int32.toUInt32 4 &&& Int32.toUInt32 31)).toInt32)) &&& 252645135) >>> (Int32.toUInt32 8 &&& Int32.toUInt32 31)).toInt32)) >>> (Int32.toUInt32 16 &&& Int32.toUInt32 31)).toInt32)) &&& 63)) ∧ ¬ (p3 < 1) ∧ ¬ (400 < p3) ∧ r = 1)) (fun _ _ => True) (va_A [] sz)) 0 0 (va_A [] sz) := by
  refine Met.ofW (cc := cX12_canGive) (maxL := 6) (ret := (some .boolean)) (by decide) rfl ?_
  intro p e s m args below meth c s₁ B hml hv
  obtain ⟨rfl, hsz⟩ := hv
  have hx := B.exec
  have hb := B.bytes
  have hr := B.returns
  have hts := atoms_spec (ws := (jk yX12_canGive cX12_canGive 6 (some .boolean))) B.pre
  have hown : s.vm.findClass RX12 = some m.cls := findClass_of_methodNamed B.named
  have hlocks := B.notSynchronized
  subst hsz
  have hP : va_P (dC, dI) vwCl [] s.heap := fun k q h => by simp at h
  generalize hAe : (va_A [] s.heap.size) = A
  have hA : ∀ q : Nat, s.heap.size ≤ q → A q := fun q h => by rw [← hAe]; exact Or.inr h
  have hS : va_S A s.heap s.heap [] := va_S.rf
  have hl := lv_entry ([.ref h0, .int p1, .int p2, .int p3]) (n := 6) (Nat.le_of_ble_eq_true rfl)
  rw [lg_entry_eq]
  generalize (lg_sl ([.ref h0, .int p1, .int p2, .int p3]) ++ List.replicate (6 - (lg_sl ([.ref h0, .int p1, .int p2, .int p3])).length) Slot.unset).toArray = ls at hl ⊢
  have hl : lv_has ls 6 [(0, .ref h0), (1, .int p1), (2, .int p2), (3, .int p3)] := hl
  refine lv_iload_n hx hb dX12_canGive_0 rfl (lv_at hl 1 rfl) ?_
  refine lv_if_le (tgt := 26) hx hb dX12_canGive_1 (by decide) (fun c_1 => ?_) (fun c_1 => ?_)
  · refine lv_iconst (v := 0) hx hb dX12_canGive_26 (by decide) ?_
    refine lv_istore (lv' := [(4, .int 0), (0, .ref h0), (1, .int p1), (2, .int p2), (3, .int p3)]) hx hb dX12_canGive_27 hl (by decide) rfl (fun ls hl => ?_)
    refine lv_iload_n hx hb dX12_canGive_29 rfl (lv_at hl 2 rfl) ?_
    refine jc_i (va_runS (As := [.int p1]) (rest := []) ⟨hx, hb, hml, hown, hts⟩ (kJ6_bitCount_0f7a4_1 l dC dI _ p1) (va_cwS 1 hts (jgoodS m_452 m_453 m_454 m_455) rfl rfl rfl (by decide +kernel) ⟨Nat.le_of_ble_eq_true rfl, Nat.le_of_ble_eq_true rfl⟩) ⟨jw_blind0, fun U hU hW => ⟨rfl, congrArg Array.size hU⟩⟩ rfl rfl hl.1 rfl (lv_room (Nat.le_of_ble_eq_true rfl)) dX12_canGive_30 ⟨Nat.le_of_ble_eq_true rfl, Nat.le_of_ble_eq_true rfl⟩) hP hS hA (fun r_2 H locs hw_2 hP hS => ?_)
    have hw_2 : ((((((((p1 - (((Int32.toUInt32 p1 >>> (Int32.toUInt32 1 &&& Int32.toUInt32 31)).toInt32) &&& 1431655765)) &&& 858993459) + (((Int32.toUInt32 (p1 - (((Int32.toUInt32 p1 >>> (Int32.toUInt32 1 &&& Int32.toUInt32 31)).toInt32) &&& 1431655765)) >>> (Int32.toUInt32 2 &&& Int32.toUInt32 31)).toInt32) &&& 858993459)) + ((Int32.toUInt32 (((p1 - (((Int32.toUInt32 p1 >>> (Int32.toUInt32 1 &&& Int32.toUInt32 31)).toInt32) &&& 1431655765)) &&& 858993459) + (((Int32.toUInt32 (p1 - (((Int32.toUInt32 p1 >>> (Int32.toUInt32 1 &&& Int32.toUInt32 31)).toInt32) &&& 1431655765)) >>> (Int32.toUInt32 2 &&& Int32.toUInt32 31)).toInt32) &&& 858993459)) >>> (Int32.toUInt32 4 &&& Int32.toUInt32 31)).toInt32)) &&& 252645135) + ((Int32.toUInt32 (((((p1 - (((Int32.toUInt32 p1 >>> (Int32.toUInt32 1 &&& Int32.toUInt32 31)).toInt32) &&& 1431655765)) &&& 858993459) + (((Int32.toUInt32 (p1 - (((Int32.toUInt32 p1 >>> (Int32.toUInt32 1 &&& Int32.toUInt32 31)).toInt32) &&& 1431655765)) >>> (Int32.toUInt32 2 &&& Int32.toUInt32 31)).toInt32) &&& 858993459)) + ((Int32.toUInt32 (((p1 - (((Int32.toUInt32 p1 >>> (Int32.toUInt32 1 &&& Int32.toUInt32 31)).toInt32) &&& 1431655765)) &&& 858993459) + (((Int32.toUInt32 (p1 - (((Int32.toUInt32 p1 >>> (Int32.toUInt32 1 &&& Int32.toUInt32 31)).toInt32) &&& 1431655765)) >>> (Int32.toUInt32 2 &&& Int32.toUInt32 31)).toInt32) &&& 858993459)) >>> (Int32.toUInt32 4 &&& Int32.toUInt32 31)).toInt32)) &&& 252645135) >>> (Int32.toUInt32 8 &&& Int32.toUInt32 31)).toInt32)) + ((Int32.toUInt32 ((((((p1 - (((Int32.toUInt32 p1 >>> (Int32.toUInt32 1 &&& Int32.toUInt32 31)).toInt32) &&& 1431655765)) &&& 858993459) + (((Int32.toUInt32 (p1 - (((Int32.toUInt32 p1 >>> (Int32.toUInt32 1 &&& Int32.toUInt32 31)).toInt32) &&& 1431655765)) >>> (Int32.toUInt32 2 &&& Int32.toUInt32 31)).toInt32) &&& 858993459)) + ((Int32.toUInt32 (((p1 - (((Int32.toUInt32 p1 >>> (Int32.toUInt32 1 &&& Int32.toUInt32 31)).toInt32) &&& 1431655765)) &&& 858993459) + (((Int32.toUInt32 (p1 - (((Int32.toUInt32 p1 >>> (Int32.toUInt32 1 &&& Int32.toUInt32 31)).toInt32) &&& 1431655765)) >>> (Int32.toUInt32 2 &&& Int32.toUInt32 31)).toInt32) &&& 858993459)) >>> (Int32.toUInt32 4 &&& Int32.toUInt32 31)).toInt32)) &&& 252645135) + ((Int32.toUInt32 (((((p1 - (((Int32.toUInt32 p1 >>> (Int32.toUInt32 1 &&& Int32.toUInt32 31)).toInt32) &&& 1431655765)) &&& 858993459) + (((Int32.toUInt32 (p1 - (((Int32.toUInt32 p1 >>> (Int32.toUInt32 1 &&& Int32.toUInt32 31)).toInt32) &&& 1431655765)) >>> (Int32.toUInt32 2 &&& Int32.toUInt32 31)).toInt32) &&& 858993459)) + ((Int32.toUInt32 (((p1 - (((Int32.toUInt32 p1 >>> (Int32.toUInt32 1 &&& Int32.toUInt32 31)).toInt32) &&& 1431655765)) &&& 858993459) + (((Int32.toUInt32 (p1 - (((Int32.toUInt32 p1 >>> (Int32.toUInt32 1 &&& Int32.toUInt32 31)).toInt32) &&& 1431655765)) >>> (Int32.toUInt32 2 &&& Int32.toUInt32 31)).toInt32) &&& 858993459)) >>> (Int32.toUInt32 4 &&& Int32.toUInt32 31)).toInt32)) &&& 252645135) >>> (Int32.toUInt32 8 &&& Int32.toUInt32 31)).toInt32)) >>> (Int32.toUInt32 16 &&& Int32.toUInt32 31)).toInt32)) &&& 63) = r_2 := Eq.symm hw_2
    subst hw_2
    refine lv_bipush (v := 7) hx hb dX12_canGive_33 (by decide) ?_
    refine lv_icmp_gt (tgt := 51) hx hb dX12_canGive_35 (by decide) (fun c_3 => ?_) (fun c_3 => ?_)
    · refine lv_iconst (v := 0) hx hb dX12_canGive_51 (by decide) ?_
      refine lv_istore (lv' := [(5, .int 0), (4, .int 0), (0, .ref h0), (1, .int p1), (2, .int p2), (3, .int p3)]) hx hb dX12_canGive_52 hl (by decide) rfl (fun ls hl => ?_)
      refine lv_iload hx hb dX12_canGive_54 (lv_at hl 1 rfl) ?_
      refine lv_if_eq (tgt := 80) hx hb dX12_canGive_56 (by decide) (fun _ => ?_) (fun z => absurd (by decide) z)
      refine lv_iconst (v := 0) hx hb dX12_canGive_80 (by decide) ?_
      exact W.zret (v := 0) (ty := .boolean) hx hb hr rfl (fun t ht hW => ⟨⟨0, (), rfl, (Or.inl rfl), trivial⟩, hS.F ht⟩) hS.2.2 dX12_canGive_81
    · refine lv_iload_n hx hb dX12_canGive_38 rfl (lv_at hl 3 rfl) ?_
      refine jc_i (va_runS (As := [.int p2]) (rest := []) ⟨hx, hb, hml, hown, hts⟩ (kJ6_bitCount_0f7a4_1 l dC dI _ p2) (va_cwS 1 hts (jgoodS m_452 m_453 m_454 m_455) rfl rfl rfl (by decide +kernel) ⟨Nat.le_of_ble_eq_true rfl, Nat.le_of_ble_eq_true rfl⟩) ⟨jw_blind0, fun U hU hW => ⟨rfl, congrArg Array.size hU⟩⟩ rfl rfl hl.1 rfl (lv_room (Nat.le_of_ble_eq_true rfl)) dX12_canGive_39 ⟨Nat.le_of_ble_eq_true rfl, Nat.le_of_ble_eq_true rfl⟩) hP hS hA (fun r_4 H locs hw_4 hP hS => ?_)
      have hw_4 : ((((((((p2 - (((Int32.toUInt32 p2 >>> (Int32.toUInt32 1 &&& Int32.toUInt32 31)).toInt32) &&& 1431655765)) &&& 858993459) + (((Int32.toUInt32 (p2 - (((Int32.toUInt32 p2 >>> (Int32.toUInt32 1 &&& Int32.toUInt32 31)).toInt32) &&& 1431655765)) >>> (Int32.toUInt32 2 &&& Int32.toUInt32 31)).toInt32) &&& 858993459)) + ((Int32.toUInt32 (((p2 - (((Int32.toUInt32 p2 >>> (Int32.toUInt32 1 &&& Int32.toUInt32 31)).toInt32) &&& 1431655765)) &&& 858993459) + (((Int32.toUInt32 (p2 - (((Int32.toUInt32 p2 >>> (Int32.toUInt32 1 &&& Int32.toUInt32 31)).toInt32) &&& 1431655765)) >>> (Int32.toUInt32 2 &&& Int32.toUInt32 31)).toInt32) &&& 858993459)) >>> (Int32.toUInt32 4 &&& Int32.toUInt32 31)).toInt32)) &&& 252645135) + ((Int32.toUInt32 (((((p2 - (((Int32.toUInt32 p2 >>> (Int32.toUInt32 1 &&& Int32.toUInt32 31)).toInt32) &&& 1431655765)) &&& 858993459) + (((Int32.toUInt32 (p2 - (((Int32.toUInt32 p2 >>> (Int32.toUInt32 1 &&& Int32.toUInt32 31)).toInt32) &&& 1431655765)) >>> (Int32.toUInt32 2 &&& Int32.toUInt32 31)).toInt32) &&& 858993459)) + ((Int32.toUInt32 (((p2 - (((Int32.toUInt32 p2 >>> (Int32.toUInt32 1 &&& Int32.toUInt32 31)).toInt32) &&& 1431655765)) &&& 858993459) + (((Int32.toUInt32 (p2 - (((Int32.toUInt32 p2 >>> (Int32.toUInt32 1 &&& Int32.toUInt32 31)).toInt32) &&& 1431655765)) >>> (Int32.toUInt32 2 &&& Int32.toUInt32 31)).toInt32) &&& 858993459)) >>> (Int32.toUInt32 4 &&& Int32.toUInt32 31)).toInt32)) &&& 252645135) >>> (Int32.toUInt32 8 &&& Int32.toUInt32 31)).toInt32)) + ((Int32.toUInt32 ((((((p2 - (((Int32.toUInt32 p2 >>> (Int32.toUInt32 1 &&& Int32.toUInt32 31)).toInt32) &&& 1431655765)) &&& 858993459) + (((Int32.toUInt32 (p2 - (((Int32.toUInt32 p2 >>> (Int32.toUInt32 1 &&& Int32.toUInt32 31)).toInt32) &&& 1431655765)) >>> (Int32.toUInt32 2 &&& Int32.toUInt32 31)).toInt32) &&& 858993459)) + ((Int32.toUInt32 (((p2 - (((Int32.toUInt32 p2 >>> (Int32.toUInt32 1 &&& Int32.toUInt32 31)).toInt32) &&& 1431655765)) &&& 858993459) + (((Int32.toUInt32 (p2 - (((Int32.toUInt32 p2 >>> (Int32.toUInt32 1 &&& Int32.toUInt32 31)).toInt32) &&& 1431655765)) >>> (Int32.toUInt32 2 &&& Int32.toUInt32 31)).toInt32) &&& 858993459)) >>> (Int32.toUInt32 4 &&& Int32.toUInt32 31)).toInt32)) &&& 252645135) + ((Int32.toUInt32 (((((p2 - (((Int32.toUInt32 p2 >>> (Int32.toUInt32 1 &&& Int32.toUInt32 31)).toInt32) &&& 1431655765)) &&& 858993459) + (((Int32.toUInt32 (p2 - (((Int32.toUInt32 p2 >>> (Int32.toUInt32 1 &&& Int32.toUInt32 31)).toInt32) &&& 1431655765)) >>> (Int32.toUInt32 2 &&& Int32.toUInt32 31)).toInt32) &&& 858993459)) + ((Int32.toUInt32 (((p2 - (((Int32.toUInt32 p2 >>> (Int32.toUInt32 1 &&& Int32.toUInt32 31)).toInt32) &&& 1431655765)) &&& 858993459) + (((Int32.toUInt32 (p2 - (((Int32.toUInt32 p2 >>> (Int32.toUInt32 1 &&& Int32.toUInt32 31)).toInt32) &&& 1431655765)) >>> (Int32.toUInt32 2 &&& Int32.toUInt32 31)).toInt32) &&& 858993459)) >>> (Int32.toUInt32 4 &&& Int32.toUInt32 31)).toInt32)) &&& 252645135) >>> (Int32.toUInt32 8 &&& Int32.toUInt32 31)).toInt32)) >>> (Int32.toUInt32 16 &&& Int32.toUInt32 31)).toInt32)) &&& 63) = r_4 := Eq.symm hw_4
      subst hw_4
      refine lv_bipush (v := 6) hx hb dX12_canGive_42 (by decide) ?_
      refine lv_icmp_gt (tgt := 51) hx hb dX12_canGive_44 (by decide) (fun c_5 => ?_) (fun c_5 => ?_)
      · refine lv_iconst (v := 0) hx hb dX12_canGive_51 (by decide) ?_
        refine lv_istore (lv' := [(5, .int 0), (4, .int 0), (0, .ref h0), (1, .int p1), (2, .int p2), (3, .int p3)]) hx hb dX12_canGive_52 hl (by decide) rfl (fun ls hl => ?_)
        refine lv_iload hx hb dX12_canGive_54 (lv_at hl 1 rfl) ?_
        refine lv_if_eq (tgt := 80) hx hb dX12_canGive_56 (by decide) (fun _ => ?_) (fun z => absurd (by decide) z)
        refine lv_iconst (v := 0) hx hb dX12_canGive_80 (by decide) ?_
        exact W.zret (v := 0) (ty := .boolean) hx hb hr rfl (fun t ht hW => ⟨⟨0, (), rfl, (Or.inl rfl), trivial⟩, hS.F ht⟩) hS.2.2 dX12_canGive_81
      · refine lv_iconst (v := 1) hx hb dX12_canGive_47 (by decide) ?_
        refine lv_goto (tgt := 52) hx hb dX12_canGive_48 (by decide) ?_
        refine lv_istore (lv' := [(5, .int 1), (4, .int 0), (0, .ref h0), (1, .int p1), (2, .int p2), (3, .int p3)]) hx hb dX12_canGive_52 hl (by decide) rfl (fun ls hl => ?_)
        refine lv_iload hx hb dX12_canGive_54 (lv_at hl 1 rfl) ?_
        refine lv_if_eq (tgt := 80) hx hb dX12_canGive_56 (by decide) (fun _ => ?_) (fun z => absurd (by decide) z)
        refine lv_iconst (v := 0) hx hb dX12_canGive_80 (by decide) ?_
        exact W.zret (v := 0) (ty := .boolean) hx hb hr rfl (fun t ht hW => ⟨⟨0, (), rfl, (Or.inl rfl), trivial⟩, hS.F ht⟩) hS.2.2 dX12_canGive_81
  · refine lv_iload_n hx hb dX12_canGive_4 rfl (lv_at hl 1 rfl) ?_
    refine lv_ldcw hx hb hown (hts (.constant RX12 544 1073741824) (jm m_456)) dX12_canGive_5 ?_
    refine lv_icmp_ge (tgt := 26) hx hb dX12_canGive_8 (by decide) (fun c_6 => ?_) (fun c_6 => ?_)
    · refine lv_iconst (v := 0) hx hb dX12_canGive_26 (by decide) ?_
      refine lv_istore (lv' := [(4, .int 0), (0, .ref h0), (1, .int p1), (2, .int p2), (3, .int p3)]) hx hb dX12_canGive_27 hl (by decide) rfl (fun ls hl => ?_)
      refine lv_iload_n hx hb dX12_canGive_29 rfl (lv_at hl 2 rfl) ?_
      refine jc_i (va_runS (As := [.int p1]) (rest := []) ⟨hx, hb, hml, hown, hts⟩ (kJ6_bitCount_0f7a4_1 l dC dI _ p1) (va_cwS 1 hts (jgoodS m_452 m_453 m_454 m_455) rfl rfl rfl (by decide +kernel) ⟨Nat.le_of_ble_eq_true rfl, Nat.le_of_ble_eq_true rfl⟩) ⟨jw_blind0, fun U hU hW => ⟨rfl, congrArg Array.size hU⟩⟩ rfl rfl hl.1 rfl (lv_room (Nat.le_of_ble_eq_true rfl)) dX12_canGive_30 ⟨Nat.le_of_ble_eq_true rfl, Nat.le_of_ble_eq_true rfl⟩) hP hS hA (fun r_7 H locs hw_7 hP hS => ?_)
      have hw_7 : ((((((((p1 - (((Int32.toUInt32 p1 >>> (Int32.toUInt32 1 &&& Int32.toUInt32 31)).toInt32) &&& 1431655765)) &&& 858993459) + (((Int32.toUInt32 (p1 - (((Int32.toUInt32 p1 >>> (Int32.toUInt32 1 &&& Int32.toUInt32 31)).toInt32) &&& 1431655765)) >>> (Int32.toUInt32 2 &&& Int32.toUInt32 31)).toInt32) &&& 858993459)) + ((Int32.toUInt32 (((p1 - (((Int32.toUInt32 p1 >>> (Int32.toUInt32 1 &&& Int32.toUInt32 31)).toInt32) &&& 1431655765)) &&& 858993459) + (((Int32.toUInt32 (p1 - (((Int32.toUInt32 p1 >>> (Int32.toUInt32 1 &&& Int32.toUInt32 31)).toInt32) &&& 1431655765)) >>> (Int32.toUInt32 2 &&& Int32.toUInt32 31)).toInt32) &&& 858993459)) >>> (Int32.toUInt32 4 &&& Int32.toUInt32 31)).toInt32)) &&& 252645135) + ((Int32.toUInt32 (((((p1 - (((Int32.toUInt32 p1 >>> (Int32.toUInt32 1 &&& Int32.toUInt32 31)).toInt32) &&& 1431655765)) &&& 858993459) + (((Int32.toUInt32 (p1 - (((Int32.toUInt32 p1 >>> (Int32.toUInt32 1 &&& Int32.toUInt32 31)).toInt32) &&& 1431655765)) >>> (Int32.toUInt32 2 &&& Int32.toUInt32 31)).toInt32) &&& 858993459)) + ((Int32.toUInt32 (((p1 - (((Int32.toUInt32 p1 >>> (Int32.toUInt32 1 &&& Int32.toUInt32 31)).toInt32) &&& 1431655765)) &&& 858993459) + (((Int32.toUInt32 (p1 - (((Int32.toUInt32 p1 >>> (Int32.toUInt32 1 &&& Int32.toUInt32 31)).toInt32) &&& 1431655765)) >>> (Int32.toUInt32 2 &&& Int32.toUInt32 31)).toInt32) &&& 858993459)) >>> (Int32.toUInt32 4 &&& Int32.toUInt32 31)).toInt32)) &&& 252645135) >>> (Int32.toUInt32 8 &&& Int32.toUInt32 31)).toInt32)) + ((Int32.toUInt32 ((((((p1 - (((Int32.toUInt32 p1 >>> (Int32.toUInt32 1 &&& Int32.toUInt32 31)).toInt32) &&& 1431655765)) &&& 858993459) + (((Int32.toUInt32 (p1 - (((Int32.toUInt32 p1 >>> (Int32.toUInt32 1 &&& Int32.toUInt32 31)).toInt32) &&& 1431655765)) >>> (Int32.toUInt32 2 &&& Int32.toUInt32 31)).toInt32) &&& 858993459)) + ((Int32.toUInt32 (((p1 - (((Int32.toUInt32 p1 >>> (Int32.toUInt32 1 &&& Int32.toUInt32 31)).toInt32) &&& 1431655765)) &&& 858993459) + (((Int32.toUInt32 (p1 - (((Int32.toUInt32 p1 >>> (Int32.toUInt32 1 &&& Int32.toUInt32 31)).toInt32) &&& 1431655765)) >>> (Int32.toUInt32 2 &&& Int32.toUInt32 31)).toInt32) &&& 858993459)) >>> (Int32.toUInt32 4 &&& Int32.toUInt32 31)).toInt32)) &&& 252645135) + ((Int32.toUInt32 (((((p1 - (((Int32.toUInt32 p1 >>> (Int32.toUInt32 1 &&& Int32.toUInt32 31)).toInt32) &&& 1431655765)) &&& 858993459) + (((Int32.toUInt32 (p1 - (((Int32.toUInt32 p1 >>> (Int32.toUInt32 1 &&& Int32.toUInt32 31)).toInt32) &&& 1431655765)) >>> (Int32.toUInt32 2 &&& Int32.toUInt32 31)).toInt32) &&& 858993459)) + ((Int32.toUInt32 (((p1 - (((Int32.toUInt32 p1 >>> (Int32.toUInt32 1 &&& Int32.toUInt32 31)).toInt32) &&& 1431655765)) &&& 858993459) + (((Int32.toUInt32 (p1 - (((Int32.toUInt32 p1 >>> (Int32.toUInt32 1 &&& Int32.toUInt32 31)).toInt32) &&& 1431655765)) >>> (Int32.toUInt32 2 &&& Int32.toUInt32 31)).toInt32) &&& 858993459)) >>> (Int32.toUInt32 4 &&& Int32.toUInt32 31)).toInt32)) &&& 252645135) >>> (Int32.toUInt32 8 &&& Int32.toUInt32 31)).toInt32)) >>> (Int32.toUInt32 16 &&& Int32.toUInt32 31)).toInt32)) &&& 63) = r_7 := Eq.symm hw_7
      subst hw_7
      refine lv_bipush (v := 7) hx hb dX12_canGive_33 (by decide) ?_
      refine lv_icmp_gt (tgt := 51) hx hb dX12_canGive_35 (by decide) (fun c_8 => ?_) (fun c_8 => ?_)
      · refine lv_iconst (v := 0) hx hb dX12_canGive_51 (by decide) ?_
        refine lv_istore (lv' := [(5, .int 0), (4, .int 0), (0, .ref h0), (1, .int p1), (2, .int p2), (3, .int p3)]) hx hb dX12_canGive_52 hl (by decide) rfl (fun ls hl => ?_)
        refine lv_iload hx hb dX12_canGive_54 (lv_at hl 1 rfl) ?_
        refine lv_if_eq (tgt := 80) hx hb dX12_canGive_56 (by decide) (fun _ => ?_) (fun z => absurd (by decide) z)
        refine lv_iconst (v := 0) hx hb dX12_canGive_80 (by decide) ?_
        exact W.zret (v := 0) (ty := .boolean) hx hb hr rfl (fun t ht hW => ⟨⟨0, (), rfl, (Or.inl rfl), trivial⟩, hS.F ht⟩) hS.2.2 dX12_canGive_81
      · refine lv_iload_n hx hb dX12_canGive_38 rfl (lv_at hl 3 rfl) ?_
        refine jc_i (va_runS (As := [.int p2]) (rest := []) ⟨hx, hb, hml, hown, hts⟩ (kJ6_bitCount_0f7a4_1 l dC dI _ p2) (va_cwS 1 hts (jgoodS m_452 m_453 m_454 m_455) rfl rfl rfl (by decide +kernel) ⟨Nat.le_of_ble_eq_true rfl, Nat.le_of_ble_eq_true rfl⟩) ⟨jw_blind0, fun U hU hW => ⟨rfl, congrArg Array.size hU⟩⟩ rfl rfl hl.1 rfl (lv_room (Nat.le_of_ble_eq_true rfl)) dX12_canGive_39 ⟨Nat.le_of_ble_eq_true rfl, Nat.le_of_ble_eq_true rfl⟩) hP hS hA (fun r_9 H locs hw_9 hP hS => ?_)
        have hw_9 : ((((((((p2 - (((Int32.toUInt32 p2 >>> (Int32.toUInt32 1 &&& Int32.toUInt32 31)).toInt32) &&& 1431655765)) &&& 858993459) + (((Int32.toUInt32 (p2 - (((Int32.toUInt32 p2 >>> (Int32.toUInt32 1 &&& Int32.toUInt32 31)).toInt32) &&& 1431655765)) >>> (Int32.toUInt32 2 &&& Int32.toUInt32 31)).toInt32) &&& 858993459)) + ((Int32.toUInt32 (((p2 - (((Int32.toUInt32 p2 >>> (Int32.toUInt32 1 &&& Int32.toUInt32 31)).toInt32) &&& 1431655765)) &&& 858993459) + (((Int32.toUInt32 (p2 - (((Int32.toUInt32 p2 >>> (Int32.toUInt32 1 &&& Int32.toUInt32 31)).toInt32) &&& 1431655765)) >>> (Int32.toUInt32 2 &&& Int32.toUInt32 31)).toInt32) &&& 858993459)) >>> (Int32.toUInt32 4 &&& Int32.toUInt32 31)).toInt32)) &&& 252645135) + ((Int32.toUInt32 (((((p2 - (((Int32.toUInt32 p2 >>> (Int32.toUInt32 1 &&& Int32.toUInt32 31)).toInt32) &&& 1431655765)) &&& 858993459) + (((Int32.toUInt32 (p2 - (((Int32.toUInt32 p2 >>> (Int32.toUInt32 1 &&& Int32.toUInt32 31)).toInt32) &&& 1431655765)) >>> (Int32.toUInt32 2 &&& Int32.toUInt32 31)).toInt32) &&& 858993459)) + ((Int32.toUInt32 (((p2 - (((Int32.toUInt32 p2 >>> (Int32.toUInt32 1 &&& Int32.toUInt32 31)).toInt32) &&& 1431655765)) &&& 858993459) + (((Int32.toUInt32 (p2 - (((Int32.toUInt32 p2 >>> (Int32.toUInt32 1 &&& Int32.toUInt32 31)).toInt32) &&& 1431655765)) >>> (Int32.toUInt32 2 &&& Int32.toUInt32 31)).toInt32) &&& 858993459)) >>> (Int32.toUInt32 4 &&& Int32.toUInt32 31)).toInt32)) &&& 252645135) >>> (Int32.toUInt32 8 &&& Int32.toUInt32 31)).toInt32)) + ((Int32.toUInt32 ((((((p2 - (((Int32.toUInt32 p2 >>> (Int32.toUInt32 1 &&& Int32.toUInt32 31)).toInt32) &&& 1431655765)) &&& 858993459) + (((Int32.toUInt32 (p2 - (((Int32.toUInt32 p2 >>> (Int32.toUInt32 1 &&& Int32.toUInt32 31)).toInt32) &&& 1431655765)) >>> (Int32.toUInt32 2 &&& Int32.toUInt32 31)).toInt32) &&& 858993459)) + ((Int32.toUInt32 (((p2 - (((Int32.toUInt32 p2 >>> (Int32.toUInt32 1 &&& Int32.toUInt32 31)).toInt32) &&& 1431655765)) &&& 858993459) + (((Int32.toUInt32 (p2 - (((Int32.toUInt32 p2 >>> (Int32.toUInt32 1 &&& Int32.toUInt32 31)).toInt32) &&& 1431655765)) >>> (Int32.toUInt32 2 &&& Int32.toUInt32 31)).toInt32) &&& 858993459)) >>> (Int32.toUInt32 4 &&& Int32.toUInt32 31)).toInt32)) &&& 252645135) + ((Int32.toUInt32 (((((p2 - (((Int32.toUInt32 p2 >>> (Int32.toUInt32 1 &&& Int32.toUInt32 31)).toInt32) &&& 1431655765)) &&& 858993459) + (((Int32.toUInt32 (p2 - (((Int32.toUInt32 p2 >>> (Int32.toUInt32 1 &&& Int32.toUInt32 31)).toInt32) &&& 1431655765)) >>> (Int32.toUInt32 2 &&& Int32.toUInt32 31)).toInt32) &&& 858993459)) + ((Int32.toUInt32 (((p2 - (((Int32.toUInt32 p2 >>> (Int32.toUInt32 1 &&& Int32.toUInt32 31)).toInt32) &&& 1431655765)) &&& 858993459) + (((Int32.toUInt32 (p2 - (((Int32.toUInt32 p2 >>> (Int32.toUInt32 1 &&& Int32.toUInt32 31)).toInt32) &&& 1431655765)) >>> (Int32.toUInt32 2 &&& Int32.toUInt32 31)).toInt32) &&& 858993459)) >>> (Int32.toUInt32 4 &&& Int32.toUInt32 31)).toInt32)) &&& 252645135) >>> (Int32.toUInt32 8 &&& Int32.toUInt32 31)).toInt32)) >>> (Int32.toUInt32 16 &&& Int32.toUInt32 31)).toInt32)) &&& 63) = r_9 := Eq.symm hw_9
        subst hw_9
        refine lv_bipush (v := 6) hx hb dX12_canGive_42 (by decide) ?_
        refine lv_icmp_gt (tgt := 51) hx hb dX12_canGive_44 (by decide) (fun c_10 => ?_) (fun c_10 => ?_)
        · refine lv_iconst (v := 0) hx hb dX12_canGive_51 (by decide) ?_
          refine lv_istore (lv' := [(5, .int 0), (4, .int 0), (0, .ref h0), (1, .int p1), (2, .int p2), (3, .int p3)]) hx hb dX12_canGive_52 hl (by decide) rfl (fun ls hl => ?_)
          refine lv_iload hx hb dX12_canGive_54 (lv_at hl 1 rfl) ?_
          refine lv_if_eq (tgt := 80) hx hb dX12_canGive_56 (by decide) (fun _ => ?_) (fun z => absurd (by decide) z)
          refine lv_iconst (v := 0) hx hb dX12_canGive_80 (by decide) ?_
          exact W.zret (v := 0) (ty := .boolean) hx hb hr rfl (fun t ht hW => ⟨⟨0, (), rfl, (Or.inl rfl), trivial⟩, hS.F ht⟩) hS.2.2 dX12_canGive_81
        · refine lv_iconst (v := 1) hx hb dX12_canGive_47 (by decide) ?_
          refine lv_goto (tgt := 52) hx hb dX12_canGive_48 (by decide) ?_
          refine lv_istore (lv' := [(5, .int 1), (4, .int 0), (0, .ref h0), (1, .int p1), (2, .int p2), (3, .int p3)]) hx hb dX12_canGive_52 hl (by decide) rfl (fun ls hl => ?_)
          refine lv_iload hx hb dX12_canGive_54 (lv_at hl 1 rfl) ?_
          refine lv_if_eq (tgt := 80) hx hb dX12_canGive_56 (by decide) (fun _ => ?_) (fun z => absurd (by decide) z)
          refine lv_iconst (v := 0) hx hb dX12_canGive_80 (by decide) ?_
          exact W.zret (v := 0) (ty := .boolean) hx hb hr rfl (fun t ht hW => ⟨⟨0, (), rfl, (Or.inl rfl), trivial⟩, hS.F ht⟩) hS.2.2 dX12_canGive_81
    · refine lv_iload_n hx hb dX12_canGive_11 rfl (lv_at hl 2 rfl) ?_
      refine lv_if_le (tgt := 26) hx hb dX12_canGive_12 (by decide) (fun c_11 => ?_) (fun c_11 => ?_)
      · refine lv_iconst (v := 0) hx hb dX12_canGive_26 (by decide) ?_
        refine lv_istore (lv' := [(4, .int 0), (0, .ref h0), (1, .int p1), (2, .int p2), (3, .int p3)]) hx hb dX12_canGive_27 hl (by decide) rfl (fun ls hl => ?_)
        refine lv_iload_n hx hb dX12_canGive_29 rfl (lv_at hl 2 rfl) ?_
        refine jc_i (va_runS (As := [.int p1]) (rest := []) ⟨hx, hb, hml, hown, hts⟩ (kJ6_bitCount_0f7a4_1 l dC dI _ p1) (va_cwS 1 hts (jgoodS m_452 m_453 m_454 m_455) rfl rfl rfl (by decide +kernel) ⟨Nat.le_of_ble_eq_true rfl, Nat.le_of_ble_eq_true rfl⟩) ⟨jw_blind0, fun U hU hW => ⟨rfl, congrArg Array.size hU⟩⟩ rfl rfl hl.1 rfl (lv_room (Nat.le_of_ble_eq_true rfl)) dX12_canGive_30 ⟨Nat.le_of_ble_eq_true rfl, Nat.le_of_ble_eq_true rfl⟩) hP hS hA (fun r_12 H locs hw_12 hP hS => ?_)
        have hw_12 : ((((((((p1 - (((Int32.toUInt32 p1 >>> (Int32.toUInt32 1 &&& Int32.toUInt32 31)).toInt32) &&& 1431655765)) &&& 858993459) + (((Int32.toUInt32 (p1 - (((Int32.toUInt32 p1 >>> (Int32.toUInt32 1 &&& Int32.toUInt32 31)).toInt32) &&& 1431655765)) >>> (Int32.toUInt32 2 &&& Int32.toUInt32 31)).toInt32) &&& 858993459)) + ((Int32.toUInt32 (((p1 - (((Int32.toUInt32 p1 >>> (Int32.toUInt32 1 &&& Int32.toUInt32 31)).toInt32) &&& 1431655765)) &&& 858993459) + (((Int32.toUInt32 (p1 - (((Int32.toUInt32 p1 >>> (Int32.toUInt32 1 &&& Int32.toUInt32 31)).toInt32) &&& 1431655765)) >>> (Int32.toUInt32 2 &&& Int32.toUInt32 31)).toInt32) &&& 858993459)) >>> (Int32.toUInt32 4 &&& Int32.toUInt32 31)).toInt32)) &&& 252645135) + ((Int32.toUInt32 (((((p1 - (((Int32.toUInt32 p1 >>> (Int32.toUInt32 1 &&& Int32.toUInt32 31)).toInt32) &&& 1431655765)) &&& 858993459) + (((Int32.toUInt32 (p1 - (((Int32.toUInt32 p1 >>> (Int32.toUInt32 1 &&& Int32.toUInt32 31)).toInt32) &&& 1431655765)) >>> (Int32.toUInt32 2 &&& Int32.toUInt32 31)).toInt32) &&& 858993459)) + ((Int32.toUInt32 (((p1 - (((Int32.toUInt32 p1 >>> (Int32.toUInt32 1 &&& Int32.toUInt32 31)).toInt32) &&& 1431655765)) &&& 858993459) + (((Int32.toUInt32 (p1 - (((Int32.toUInt32 p1 >>> (Int32.toUInt32 1 &&& Int32.toUInt32 31)).toInt32) &&& 1431655765)) >>> (Int32.toUInt32 2 &&& Int32.toUInt32 31)).toInt32) &&& 858993459)) >>> (Int32.toUInt32 4 &&& Int32.toUInt32 31)).toInt32)) &&& 252645135) >>> (Int32.toUInt32 8 &&& Int32.toUInt32 31)).toInt32)) + ((Int32.toUInt32 ((((((p1 - (((Int32.toUInt32 p1 >>> (Int32.toUInt32 1 &&& Int32.toUInt32 31)).toInt32) &&& 1431655765)) &&& 858993459) + (((Int32.toUInt32 (p1 - (((Int32.toUInt32 p1 >>> (Int32.toUInt32 1 &&& Int32.toUInt32 31)).toInt32) &&& 1431655765)) >>> (Int32.toUInt32 2 &&& Int32.toUInt32 31)).toInt32) &&& 858993459)) + ((Int32.toUInt32 (((p1 - (((Int32.toUInt32 p1 >>> (Int32.toUInt32 1 &&& Int32.toUInt32 31)).toInt32) &&& 1431655765)) &&& 858993459) + (((Int32.toUInt32 (p1 - (((Int32.toUInt32 p1 >>> (Int32.toUInt32 1 &&& Int32.toUInt32 31)).toInt32) &&& 1431655765)) >>> (Int32.toUInt32 2 &&& Int32.toUInt32 31)).toInt32) &&& 858993459)) >>> (Int32.toUInt32 4 &&& Int32.toUInt32 31)).toInt32)) &&& 252645135) + ((Int32.toUInt32 (((((p1 - (((Int32.toUInt32 p1 >>> (Int32.toUInt32 1 &&& Int32.toUInt32 31)).toInt32) &&& 1431655765)) &&& 858993459) + (((Int32.toUInt32 (p1 - (((Int32.toUInt32 p1 >>> (Int32.toUInt32 1 &&& Int32.toUInt32 31)).toInt32) &&& 1431655765)) >>> (Int32.toUInt32 2 &&& Int32.toUInt32 31)).toInt32) &&& 858993459)) + ((Int32.toUInt32 (((p1 - (((Int32.toUInt32 p1 >>> (Int32.toUInt32 1 &&& Int32.toUInt32 31)).toInt32) &&& 1431655765)) &&& 858993459) + (((Int32.toUInt32 (p1 - (((Int32.toUInt32 p1 >>> (Int32.toUInt32 1 &&& Int32.toUInt32 31)).toInt32) &&& 1431655765)) >>> (Int32.toUInt32 2 &&& Int32.toUInt32 31)).toInt32) &&& 858993459)) >>> (Int32.toUInt32 4 &&& Int32.toUInt32 31)).toInt32)) &&& 252645135) >>> (Int32.toUInt32 8 &&& Int32.toUInt32 31)).toInt32)) >>> (Int32.toUInt32 16 &&& Int32.toUInt32 31)).toInt32)) &&& 63) = r_12 := Eq.symm hw_12
        subst hw_12
        refine lv_bipush (v := 7) hx hb dX12_canGive_33 (by decide) ?_
        refine lv_icmp_gt (tgt := 51) hx hb dX12_canGive_35 (by decide) (fun c_13 => ?_) (fun c_13 => ?_)
        · refine lv_iconst (v := 0) hx hb dX12_canGive_51 (by decide) ?_
          refine lv_istore (lv' := [(5, .int 0), (4, .int 0), (0, .ref h0), (1, .int p1), (2, .int p2), (3, .int p3)]) hx hb dX12_canGive_52 hl (by decide) rfl (fun ls hl => ?_)
          refine lv_iload hx hb dX12_canGive_54 (lv_at hl 1 rfl) ?_
          refine lv_if_eq (tgt := 80) hx hb dX12_canGive_56 (by decide) (fun _ => ?_) (fun z => absurd (by decide) z)
          refine lv_iconst (v := 0) hx hb dX12_canGive_80 (by decide) ?_
          exact W.zret (v := 0) (ty := .boolean) hx hb hr rfl (fun t ht hW => ⟨⟨0, (), rfl, (Or.inl rfl), trivial⟩, hS.F ht⟩) hS.2.2 dX12_canGive_81
        · refine lv_iload_n hx hb dX12_canGive_38 rfl (lv_at hl 3 rfl) ?_
          refine jc_i (va_runS (As := [.int p2]) (rest := []) ⟨hx, hb, hml, hown, hts⟩ (kJ6_bitCount_0f7a4_1 l dC dI _ p2) (va_cwS 1 hts (jgoodS m_452 m_453 m_454 m_455) rfl rfl rfl (by decide +kernel) ⟨Nat.le_of_ble_eq_true rfl, Nat.le_of_ble_eq_true rfl⟩) ⟨jw_blind0, fun U hU hW => ⟨rfl, congrArg Array.size hU⟩⟩ rfl rfl hl.1 rfl (lv_room (Nat.le_of_ble_eq_true rfl)) dX12_canGive_39 ⟨Nat.le_of_ble_eq_true rfl, Nat.le_of_ble_eq_true rfl⟩) hP hS hA (fun r_14 H locs hw_14 hP hS => ?_)
          have hw_14 : ((((((((p2 - (((Int32.toUInt32 p2 >>> (Int32.toUInt32 1 &&& Int32.toUInt32 31)).toInt32) &&& 1431655765)) &&& 858993459) + (((Int32.toUInt32 (p2 - (((Int32.toUInt32 p2 >>> (Int32.toUInt32 1 &&& Int32.toUInt32 31)).toInt32) &&& 1431655765)) >>> (Int32.toUInt32 2 &&& Int32.toUInt32 31)).toInt32) &&& 858993459)) + ((Int32.toUInt32 (((p2 - (((Int32.toUInt32 p2 >>> (Int32.toUInt32 1 &&& Int32.toUInt32 31)).toInt32) &&& 1431655765)) &&& 858993459) + (((Int32.toUInt32 (p2 - (((Int32.toUInt32 p2 >>> (Int32.toUInt32 1 &&& Int32.toUInt32 31)).toInt32) &&& 1431655765)) >>> (Int32.toUInt32 2 &&& Int32.toUInt32 31)).toInt32) &&& 858993459)) >>> (Int32.toUInt32 4 &&& Int32.toUInt32 31)).toInt32)) &&& 252645135) + ((Int32.toUInt32 (((((p2 - (((Int32.toUInt32 p2 >>> (Int32.toUInt32 1 &&& Int32.toUInt32 31)).toInt32) &&& 1431655765)) &&& 858993459) + (((Int32.toUInt32 (p2 - (((Int32.toUInt32 p2 >>> (Int32.toUInt32 1 &&& Int32.toUInt32 31)).toInt32) &&& 1431655765)) >>> (Int32.toUInt32 2 &&& Int32.toUInt32 31)).toInt32) &&& 858993459)) + ((Int32.toUInt32 (((p2 - (((Int32.toUInt32 p2 >>> (Int32.toUInt32 1 &&& Int32.toUInt32 31)).toInt32) &&& 1431655765)) &&& 858993459) + (((Int32.toUInt32 (p2 - (((Int32.toUInt32 p2 >>> (Int32.toUInt32 1 &&& Int32.toUInt32 31)).toInt32) &&& 1431655765)) >>> (Int32.toUInt32 2 &&& Int32.toUInt32 31)).toInt32) &&& 858993459)) >>> (Int32.toUInt32 4 &&& Int32.toUInt32 31)).toInt32)) &&& 252645135) >>> (Int32.toUInt32 8 &&& Int32.toUInt32 31)).toInt32)) + ((Int32.toUInt32 ((((((p2 - (((Int32.toUInt32 p2 >>> (Int32.toUInt32 1 &&& Int32.toUInt32 31)).toInt32) &&& 1431655765)) &&& 858993459) + (((Int32.toUInt32 (p2 - (((Int32.toUInt32 p2 >>> (Int32.toUInt32 1 &&& Int32.toUInt32 31)).toInt32) &&& 1431655765)) >>> (Int32.toUInt32 2 &&& Int32.toUInt32 31)).toInt32) &&& 858993459)) + ((Int32.toUInt32 (((p2 - (((Int32.toUInt32 p2 >>> (Int32.toUInt32 1 &&& Int32.toUInt32 31)).toInt32) &&& 1431655765)) &&& 858993459) + (((Int32.toUInt32 (p2 - (((Int32.toUInt32 p2 >>> (Int32.toUInt32 1 &&& Int32.toUInt32 31)).toInt32) &&& 1431655765)) >>> (Int32.toUInt32 2 &&& Int32.toUInt32 31)).toInt32) &&& 858993459)) >>> (Int32.toUInt32 4 &&& Int32.toUInt32 31)).toInt32)) &&& 252645135) + ((Int32.toUInt32 (((((p2 - (((Int32.toUInt32 p2 >>> (Int32.toUInt32 1 &&& Int32.toUInt32 31)).toInt32) &&& 1431655765)) &&& 858993459) + (((Int32.toUInt32 (p2 - (((Int32.toUInt32 p2 >>> (Int32.toUInt32 1 &&& Int32.toUInt32 31)).toInt32) &&& 1431655765)) >>> (Int32.toUInt32 2 &&& Int32.toUInt32 31)).toInt32) &&& 858993459)) + ((Int32.toUInt32 (((p2 - (((Int32.toUInt32 p2 >>> (Int32.toUInt32 1 &&& Int32.toUInt32 31)).toInt32) &&& 1431655765)) &&& 858993459) + (((Int32.toUInt32 (p2 - (((Int32.toUInt32 p2 >>> (Int32.toUInt32 1 &&& Int32.toUInt32 31)).toInt32) &&& 1431655765)) >>> (Int32.toUInt32 2 &&& Int32.toUInt32 31)).toInt32) &&& 858993459)) >>> (Int32.toUInt32 4 &&& Int32.toUInt32 31)).toInt32)) &&& 252645135) >>> (Int32.toUInt32 8 &&& Int32.toUInt32 31)).toInt32)) >>> (Int32.toUInt32 16 &&& Int32.toUInt32 31)).toInt32)) &&& 63) = r_14 := Eq.symm hw_14
          subst hw_14
          refine lv_bipush (v := 6) hx hb dX12_canGive_42 (by decide) ?_
          refine lv_icmp_gt (tgt := 51) hx hb dX12_canGive_44 (by decide) (fun c_15 => ?_) (fun c_15 => ?_)
          · refine lv_iconst (v := 0) hx hb dX12_canGive_51 (by decide) ?_
            refine lv_istore (lv' := [(5, .int 0), (4, .int 0), (0, .ref h0), (1, .int p1), (2, .int p2), (3, .int p3)]) hx hb dX12_canGive_52 hl (by decide) rfl (fun ls hl => ?_)
            refine lv_iload hx hb dX12_canGive_54 (lv_at hl 1 rfl) ?_
            refine lv_if_eq (tgt := 80) hx hb dX12_canGive_56 (by decide) (fun _ => ?_) (fun z => absurd (by decide) z)
            refine lv_iconst (v := 0) hx hb dX12_canGive_80 (by decide) ?_
            exact W.zret (v := 0) (ty := .boolean) hx hb hr rfl (fun t ht hW => ⟨⟨0, (), rfl, (Or.inl rfl), trivial⟩, hS.F ht⟩) hS.2.2 dX12_canGive_81
          · refine lv_iconst (v := 1) hx hb dX12_canGive_47 (by decide) ?_
            refine lv_goto (tgt := 52) hx hb dX12_canGive_48 (by decide) ?_
            refine lv_istore (lv' := [(5, .int 1), (4, .int 0), (0, .ref h0), (1, .int p1), (2, .int p2), (3, .int p3)]) hx hb dX12_canGive_52 hl (by decide) rfl (fun ls hl => ?_)
            refine lv_iload hx hb dX12_canGive_54 (lv_at hl 1 rfl) ?_
            refine lv_if_eq (tgt := 80) hx hb dX12_canGive_56 (by decide) (fun _ => ?_) (fun z => absurd (by decide) z)
            refine lv_iconst (v := 0) hx hb dX12_canGive_80 (by decide) ?_
            exact W.zret (v := 0) (ty := .boolean) hx hb hr rfl (fun t ht hW => ⟨⟨0, (), rfl, (Or.inl rfl), trivial⟩, hS.F ht⟩) hS.2.2 dX12_canGive_81
      · refine lv_iload_n hx hb dX12_canGive_15 rfl (lv_at hl 2 rfl) ?_
        refine lv_sipush (v := 4096) hx hb dX12_canGive_16 (by decide) ?_
        refine lv_icmp_ge (tgt := 26) hx hb dX12_canGive_19 (by decide) (fun c_16 => ?_) (fun c_16 => ?_)
        · refine lv_iconst (v := 0) hx hb dX12_canGive_26 (by decide) ?_
          refine lv_istore (lv' := [(4, .int 0), (0, .ref h0), (1, .int p1), (2, .int p2), (3, .int p3)]) hx hb dX12_canGive_27 hl (by decide) rfl (fun ls hl => ?_)
          refine lv_iload_n hx hb dX12_canGive_29 rfl (lv_at hl 2 rfl) ?_
          refine jc_i (va_runS (As := [.int p1]) (rest := []) ⟨hx, hb, hml, hown, hts⟩ (kJ6_bitCount_0f7a4_1 l dC dI _ p1) (va_cwS 1 hts (jgoodS m_452 m_453 m_454 m_455) rfl rfl rfl (by decide +kernel) ⟨Nat.le_of_ble_eq_true rfl, Nat.le_of_ble_eq_true rfl⟩) ⟨jw_blind0, fun U hU hW => ⟨rfl, congrArg Array.size hU⟩⟩ rfl rfl hl.1 rfl (lv_room (Nat.le_of_ble_eq_true rfl)) dX12_canGive_30 ⟨Nat.le_of_ble_eq_true rfl, Nat.le_of_ble_eq_true rfl⟩) hP hS hA (fun r_17 H locs hw_17 hP hS => ?_)
          have hw_17 : ((((((((p1 - (((Int32.toUInt32 p1 >>> (Int32.toUInt32 1 &&& Int32.toUInt32 31)).toInt32) &&& 1431655765)) &&& 858993459) + (((Int32.toUInt32 (p1 - (((Int32.toUInt32 p1 >>> (Int32.toUInt32 1 &&& Int32.toUInt32 31)).toInt32) &&& 1431655765)) >>> (Int32.toUInt32 2 &&& Int32.toUInt32 31)).toInt32) &&& 858993459)) + ((Int32.toUInt32 (((p1 - (((Int32.toUInt32 p1 >>> (Int32.toUInt32 1 &&& Int32.toUInt32 31)).toInt32) &&& 1431655765)) &&& 858993459) + (((Int32.toUInt32 (p1 - (((Int32.toUInt32 p1 >>> (Int32.toUInt32 1 &&& Int32.toUInt32 31)).toInt32) &&& 1431655765)) >>> (Int32.toUInt32 2 &&& Int32.toUInt32 31)).toInt32) &&& 858993459)) >>> (Int32.toUInt32 4 &&& Int32.toUInt32 31)).toInt32)) &&& 252645135) + ((Int32.toUInt32 (((((p1 - (((Int32.toUInt32 p1 >>> (Int32.toUInt32 1 &&& Int32.toUInt32 31)).toInt32) &&& 1431655765)) &&& 858993459) + (((Int32.toUInt32 (p1 - (((Int32.toUInt32 p1 >>> (Int32.toUInt32 1 &&& Int32.toUInt32 31)).toInt32) &&& 1431655765)) >>> (Int32.toUInt32 2 &&& Int32.toUInt32 31)).toInt32) &&& 858993459)) + ((Int32.toUInt32 (((p1 - (((Int32.toUInt32 p1 >>> (Int32.toUInt32 1 &&& Int32.toUInt32 31)).toInt32) &&& 1431655765)) &&& 858993459) + (((Int32.toUInt32 (p1 - (((Int32.toUInt32 p1 >>> (Int32.toUInt32 1 &&& Int32.toUInt32 31)).toInt32) &&& 1431655765)) >>> (Int32.toUInt32 2 &&& Int32.toUInt32 31)).toInt32) &&& 858993459)) >>> (Int32.toUInt32 4 &&& Int32.toUInt32 31)).toInt32)) &&& 252645135) >>> (Int32.toUInt32 8 &&& Int32.toUInt32 31)).toInt32)) + ((Int32.toUInt32 ((((((p1 - (((Int32.toUInt32 p1 >>> (Int32.toUInt32 1 &&& Int32.toUInt32 31)).toInt32) &&& 1431655765)) &&& 858993459) + (((Int32.toUInt32 (p1 - (((Int32.toUInt32 p1 >>> (Int32.toUInt32 1 &&& Int32.toUInt32 31)).toInt32) &&& 1431655765)) >>> (Int32.toUInt32 2 &&& Int32.toUInt32 31)).toInt32) &&& 858993459)) + ((Int32.toUInt32 (((p1 - (((Int32.toUInt32 p1 >>> (Int32.toUInt32 1 &&& Int32.toUInt32 31)).toInt32) &&& 1431655765)) &&& 858993459) + (((Int32.toUInt32 (p1 - (((Int32.toUInt32 p1 >>> (Int32.toUInt32 1 &&& Int32.toUInt32 31)).toInt32) &&& 1431655765)) >>> (Int32.toUInt32 2 &&& Int32.toUInt32 31)).toInt32) &&& 858993459)) >>> (Int32.toUInt32 4 &&& Int32.toUInt32 31)).toInt32)) &&& 252645135) + ((Int32.toUInt32 (((((p1 - (((Int32.toUInt32 p1 >>> (Int32.toUInt32 1 &&& Int32.toUInt32 31)).toInt32) &&& 1431655765)) &&& 858993459) + (((Int32.toUInt32 (p1 - (((Int32.toUInt32 p1 >>> (Int32.toUInt32 1 &&& Int32.toUInt32 31)).toInt32) &&& 1431655765)) >>> (Int32.toUInt32 2 &&& Int32.toUInt32 31)).toInt32) &&& 858993459)) + ((Int32.toUInt32 (((p1 - (((Int32.toUInt32 p1 >>> (Int32.toUInt32 1 &&& Int32.toUInt32 31)).toInt32) &&& 1431655765)) &&& 858993459) + (((Int32.toUInt32 (p1 - (((Int32.toUInt32 p1 >>> (Int32.toUInt32 1 &&& Int32.toUInt32 31)).toInt32) &&& 1431655765)) >>> (Int32.toUInt32 2 &&& Int32.toUInt32 31)).toInt32) &&& 858993459)) >>> (Int32.toUInt32 4 &&& Int32.toUInt32 31)).toInt32)) &&& 252645135) >>> (Int32.toUInt32 8 &&& Int32.toUInt32 31)).toInt32)) >>> (Int32.toUInt32 16 &&& Int32.toUInt32 31)).toInt32)) &&& 63) = r_17 := Eq.symm hw_17
          subst hw_17
          refine lv_bipush (v := 7) hx hb dX12_canGive_33 (by decide) ?_
          refine lv_icmp_gt (tgt := 51) hx hb dX12_canGive_35 (by decide) (fun c_18 => ?_) (fun c_18 => ?_)
          · refine lv_iconst (v := 0) hx hb dX12_canGive_51 (by decide) ?_
            refine lv_istore (lv' := [(5, .int 0), (4, .int 0), (0, .ref h0), (1, .int p1), (2, .int p2), (3, .int p3)]) hx hb dX12_canGive_52 hl (by decide) rfl (fun ls hl => ?_)
            refine lv_iload hx hb dX12_canGive_54 (lv_at hl 1 rfl) ?_
            refine lv_if_eq (tgt := 80) hx hb dX12_canGive_56 (by decide) (fun _ => ?_) (fun z => absurd (by decide) z)
            refine lv_iconst (v := 0) hx hb dX12_canGive_80 (by decide) ?_
            exact W.zret (v := 0) (ty := .boolean) hx hb hr rfl (fun t ht hW => ⟨⟨0, (), rfl, (Or.inl rfl), trivial⟩, hS.F ht⟩) hS.2.2 dX12_canGive_81
          · refine lv_iload_n hx hb dX12_canGive_38 rfl (lv_at hl 3 rfl) ?_
            refine jc_i (va_runS (As := [.int p2]) (rest := []) ⟨hx, hb, hml, hown, hts⟩ (kJ6_bitCount_0f7a4_1 l dC dI _ p2) (va_cwS 1 hts (jgoodS m_452 m_453 m_454 m_455) rfl rfl rfl (by decide +kernel) ⟨Nat.le_of_ble_eq_true rfl, Nat.le_of_ble_eq_true rfl⟩) ⟨jw_blind0, fun U hU hW => ⟨rfl, congrArg Array.size hU⟩⟩ rfl rfl hl.1 rfl (lv_room (Nat.le_of_ble_eq_true rfl)) dX12_canGive_39 ⟨Nat.le_of_ble_eq_true rfl, Nat.le_of_ble_eq_true rfl⟩) hP hS hA (fun r_19 H locs hw_19 hP hS => ?_)
            have hw_19 : ((((((((p2 - (((Int32.toUInt32 p2 >>> (Int32.toUInt32 1 &&& Int32.toUInt32 31)).toInt32) &&& 1431655765)) &&& 858993459) + (((Int32.toUInt32 (p2 - (((Int32.toUInt32 p2 >>> (Int32.toUInt32 1 &&& Int32.toUInt32 31)).toInt32) &&& 1431655765)) >>> (Int32.toUInt32 2 &&& Int32.toUInt32 31)).toInt32) &&& 858993459)) + ((Int32.toUInt32 (((p2 - (((Int32.toUInt32 p2 >>> (Int32.toUInt32 1 &&& Int32.toUInt32 31)).toInt32) &&& 1431655765)) &&& 858993459) + (((Int32.toUInt32 (p2 - (((Int32.toUInt32 p2 >>> (Int32.toUInt32 1 &&& Int32.toUInt32 31)).toInt32) &&& 1431655765)) >>> (Int32.toUInt32 2 &&& Int32.toUInt32 31)).toInt32) &&& 858993459)) >>> (Int32.toUInt32 4 &&& Int32.toUInt32 31)).toInt32)) &&& 252645135) + ((Int32.toUInt32 (((((p2 - (((Int32.toUInt32 p2 >>> (Int32.toUInt32 1 &&& Int32.toUInt32 31)).toInt32) &&& 1431655765)) &&& 858993459) + (((Int32.toUInt32 (p2 - (((Int32.toUInt32 p2 >>> (Int32.toUInt32 1 &&& Int32.toUInt32 31)).toInt32) &&& 1431655765)) >>> (Int32.toUInt32 2 &&& Int32.toUInt32 31)).toInt32) &&& 858993459)) + ((Int32.toUInt32 (((p2 - (((Int32.toUInt32 p2 >>> (Int32.toUInt32 1 &&& Int32.toUInt32 31)).toInt32) &&& 1431655765)) &&& 858993459) + (((Int32.toUInt32 (p2 - (((Int32.toUInt32 p2 >>> (Int32.toUInt32 1 &&& Int32.toUInt32 31)).toInt32) &&& 1431655765)) >>> (Int32.toUInt32 2 &&& Int32.toUInt32 31)).toInt32) &&& 858993459)) >>> (Int32.toUInt32 4 &&& Int32.toUInt32 31)).toInt32)) &&& 252645135) >>> (Int32.toUInt32 8 &&& Int32.toUInt32 31)).toInt32)) + ((Int32.toUInt32 ((((((p2 - (((Int32.toUInt32 p2 >>> (Int32.toUInt32 1 &&& Int32.toUInt32 31)).toInt32) &&& 1431655765)) &&& 858993459) + (((Int32.toUInt32 (p2 - (((Int32.toUInt32 p2 >>> (Int32.toUInt32 1 &&& Int32.toUInt32 31)).toInt32) &&& 1431655765)) >>> (Int32.toUInt32 2 &&& Int32.toUInt32 31)).toInt32) &&& 858993459)) + ((Int32.toUInt32 (((p2 - (((Int32.toUInt32 p2 >>> (Int32.toUInt32 1 &&& Int32.toUInt32 31)).toInt32) &&& 1431655765)) &&& 858993459) + (((Int32.toUInt32 (p2 - (((Int32.toUInt32 p2 >>> (Int32.toUInt32 1 &&& Int32.toUInt32 31)).toInt32) &&& 1431655765)) >>> (Int32.toUInt32 2 &&& Int32.toUInt32 31)).toInt32) &&& 858993459)) >>> (Int32.toUInt32 4 &&& Int32.toUInt32 31)).toInt32)) &&& 252645135) + ((Int32.toUInt32 (((((p2 - (((Int32.toUInt32 p2 >>> (Int32.toUInt32 1 &&& Int32.toUInt32 31)).toInt32) &&& 1431655765)) &&& 858993459) + (((Int32.toUInt32 (p2 - (((Int32.toUInt32 p2 >>> (Int32.toUInt32 1 &&& Int32.toUInt32 31)).toInt32) &&& 1431655765)) >>> (Int32.toUInt32 2 &&& Int32.toUInt32 31)).toInt32) &&& 858993459)) + ((Int32.toUInt32 (((p2 - (((Int32.toUInt32 p2 >>> (Int32.toUInt32 1 &&& Int32.toUInt32 31)).toInt32) &&& 1431655765)) &&& 858993459) + (((Int32.toUInt32 (p2 - (((Int32.toUInt32 p2 >>> (Int32.toUInt32 1 &&& Int32.toUInt32 31)).toInt32) &&& 1431655765)) >>> (Int32.toUInt32 2 &&& Int32.toUInt32 31)).toInt32) &&& 858993459)) >>> (Int32.toUInt32 4 &&& Int32.toUInt32 31)).toInt32)) &&& 252645135) >>> (Int32.toUInt32 8 &&& Int32.toUInt32 31)).toInt32)) >>> (Int32.toUInt32 16 &&& Int32.toUInt32 31)).toInt32)) &&& 63) = r_19 := Eq.symm hw_19
            subst hw_19
            refine lv_bipush (v := 6) hx hb dX12_canGive_42 (by decide) ?_
            refine lv_icmp_gt (tgt := 51) hx hb dX12_canGive_44 (by decide) (fun c_20 => ?_) (fun c_20 => ?_)
            · refine lv_iconst (v := 0) hx hb dX12_canGive_51 (by decide) ?_
              refine lv_istore (lv' := [(5, .int 0), (4, .int 0), (0, .ref h0), (1, .int p1), (2, .int p2), (3, .int p3)]) hx hb dX12_canGive_52 hl (by decide) rfl (fun ls hl => ?_)
              refine lv_iload hx hb dX12_canGive_54 (lv_at hl 1 rfl) ?_
              refine lv_if_eq (tgt := 80) hx hb dX12_canGive_56 (by decide) (fun _ => ?_) (fun z => absurd (by decide) z)
              refine lv_iconst (v := 0) hx hb dX12_canGive_80 (by decide) ?_
              exact W.zret (v := 0) (ty := .boolean) hx hb hr rfl (fun t ht hW => ⟨⟨0, (), rfl, (Or.inl rfl), trivial⟩, hS.F ht⟩) hS.2.2 dX12_canGive_81
            · refine lv_iconst (v := 1) hx hb dX12_canGive_47 (by decide) ?_
              refine lv_goto (tgt := 52) hx hb dX12_canGive_48 (by decide) ?_
              refine lv_istore (lv' := [(5, .int 1), (4, .int 0), (0, .ref h0), (1, .int p1), (2, .int p2), (3, .int p3)]) hx hb dX12_canGive_52 hl (by decide) rfl (fun ls hl => ?_)
              refine lv_iload hx hb dX12_canGive_54 (lv_at hl 1 rfl) ?_
              refine lv_if_eq (tgt := 80) hx hb dX12_canGive_56 (by decide) (fun _ => ?_) (fun z => absurd (by decide) z)
              refine lv_iconst (v := 0) hx hb dX12_canGive_80 (by decide) ?_
              exact W.zret (v := 0) (ty := .boolean) hx hb hr rfl (fun t ht hW => ⟨⟨0, (), rfl, (Or.inl rfl), trivial⟩, hS.F ht⟩) hS.2.2 dX12_canGive_81
        · refine lv_iconst (v := 1) hx hb dX12_canGive_22 (by decide) ?_
          refine lv_goto (tgt := 27) hx hb dX12_canGive_23 (by decide) ?_
          refine lv_istore (lv' := [(4, .int 1), (0, .ref h0), (1, .int p1), (2, .int p2), (3, .int p3)]) hx hb dX12_canGive_27 hl (by decide) rfl (fun ls hl => ?_)
          refine lv_iload_n hx hb dX12_canGive_29 rfl (lv_at hl 2 rfl) ?_
          refine jc_i (va_runS (As := [.int p1]) (rest := []) ⟨hx, hb, hml, hown, hts⟩ (kJ6_bitCount_0f7a4_1 l dC dI _ p1) (va_cwS 1 hts (jgoodS m_452 m_453 m_454 m_455) rfl rfl rfl (by decide +kernel) ⟨Nat.le_of_ble_eq_true rfl, Nat.le_of_ble_eq_true rfl⟩) ⟨jw_blind0, fun U hU hW => ⟨rfl, congrArg Array.size hU⟩⟩ rfl rfl hl.1 rfl (lv_room (Nat.le_of_ble_eq_true rfl)) dX12_canGive_30 ⟨Nat.le_of_ble_eq_true rfl, Nat.le_of_ble_eq_true rfl⟩) hP hS hA (fun r_21 H locs hw_21 hP hS => ?_)
          have hw_21 : ((((((((p1 - (((Int32.toUInt32 p1 >>> (Int32.toUInt32 1 &&& Int32.toUInt32 31)).toInt32) &&& 1431655765)) &&& 858993459) + (((Int32.toUInt32 (p1 - (((Int32.toUInt32 p1 >>> (Int32.toUInt32 1 &&& Int32.toUInt32 31)).toInt32) &&& 1431655765)) >>> (Int32.toUInt32 2 &&& Int32.toUInt32 31)).toInt32) &&& 858993459)) + ((Int32.toUInt32 (((p1 - (((Int32.toUInt32 p1 >>> (Int32.toUInt32 1 &&& Int32.toUInt32 31)).toInt32) &&& 1431655765)) &&& 858993459) + (((Int32.toUInt32 (p1 - (((Int32.toUInt32 p1 >>> (Int32.toUInt32 1 &&& Int32.toUInt32 31)).toInt32) &&& 1431655765)) >>> (Int32.toUInt32 2 &&& Int32.toUInt32 31)).toInt32) &&& 858993459)) >>> (Int32.toUInt32 4 &&& Int32.toUInt32 31)).toInt32)) &&& 252645135) + ((Int32.toUInt32 (((((p1 - (((Int32.toUInt32 p1 >>> (Int32.toUInt32 1 &&& Int32.toUInt32 31)).toInt32) &&& 1431655765)) &&& 858993459) + (((Int32.toUInt32 (p1 - (((Int32.toUInt32 p1 >>> (Int32.toUInt32 1 &&& Int32.toUInt32 31)).toInt32) &&& 1431655765)) >>> (Int32.toUInt32 2 &&& Int32.toUInt32 31)).toInt32) &&& 858993459)) + ((Int32.toUInt32 (((p1 - (((Int32.toUInt32 p1 >>> (Int32.toUInt32 1 &&& Int32.toUInt32 31)).toInt32) &&& 1431655765)) &&& 858993459) + (((Int32.toUInt32 (p1 - (((Int32.toUInt32 p1 >>> (Int32.toUInt32 1 &&& Int32.toUInt32 31)).toInt32) &&& 1431655765)) >>> (Int32.toUInt32 2 &&& Int32.toUInt32 31)).toInt32) &&& 858993459)) >>> (Int32.toUInt32 4 &&& Int32.toUInt32 31)).toInt32)) &&& 252645135) >>> (Int32.toUInt32 8 &&& Int32.toUInt32 31)).toInt32)) + ((Int32.toUInt32 ((((((p1 - (((Int32.toUInt32 p1 >>> (Int32.toUInt32 1 &&& Int32.toUInt32 31)).toInt32) &&& 1431655765)) &&& 858993459) + (((Int32.toUInt32 (p1 - (((Int32.toUInt32 p1 >>> (Int32.toUInt32 1 &&& Int32.toUInt32 31)).toInt32) &&& 1431655765)) >>> (Int32.toUInt32 2 &&& Int32.toUInt32 31)).toInt32) &&& 858993459)) + ((Int32.toUInt32 (((p1 - (((Int32.toUInt32 p1 >>> (Int32.toUInt32 1 &&& Int32.toUInt32 31)).toInt32) &&& 1431655765)) &&& 858993459) + (((Int32.toUInt32 (p1 - (((Int32.toUInt32 p1 >>> (Int32.toUInt32 1 &&& Int32.toUInt32 31)).toInt32) &&& 1431655765)) >>> (Int32.toUInt32 2 &&& Int32.toUInt32 31)).toInt32) &&& 858993459)) >>> (Int32.toUInt32 4 &&& Int32.toUInt32 31)).toInt32)) &&& 252645135) + ((Int32.toUInt32 (((((p1 - (((Int32.toUInt32 p1 >>> (Int32.toUInt32 1 &&& Int32.toUInt32 31)).toInt32) &&& 1431655765)) &&& 858993459) + (((Int32.toUInt32 (p1 - (((Int32.toUInt32 p1 >>> (Int32.toUInt32 1 &&& Int32.toUInt32 31)).toInt32) &&& 1431655765)) >>> (Int32.toUInt32 2 &&& Int32.toUInt32 31)).toInt32) &&& 858993459)) + ((Int32.toUInt32 (((p1 - (((Int32.toUInt32 p1 >>> (Int32.toUInt32 1 &&& Int32.toUInt32 31)).toInt32) &&& 1431655765)) &&& 858993459) + (((Int32.toUInt32 (p1 - (((Int32.toUInt32 p1 >>> (Int32.toUInt32 1 &&& Int32.toUInt32 31)).toInt32) &&& 1431655765)) >>> (Int32.toUInt32 2 &&& Int32.toUInt32 31)).toInt32) &&& 858993459)) >>> (Int32.toUInt32 4 &&& Int32.toUInt32 31)).toInt32)) &&& 252645135) >>> (Int32.toUInt32 8 &&& Int32.toUInt32 31)).toInt32)) >>> (Int32.toUInt32 16 &&& Int32.toUInt32 31)).toInt32)) &&& 63) = r_21 := Eq.symm hw_21
          subst hw_21
          refine lv_bipush (v := 7) hx hb dX12_canGive_33 (by decide) ?_
          refine lv_icmp_gt (tgt := 51) hx hb dX12_canGive_35 (by decide) (fun c_22 => ?_) (fun c_22 => ?_)
          · refine lv_iconst (v := 0) hx hb dX12_canGive_51 (by decide) ?_
            refine lv_istore (lv' := [(5, .int 0), (4, .int 1), (0, .ref h0), (1, .int p1), (2, .int p2), (3, .int p3)]) hx hb dX12_canGive_52 hl (by decide) rfl (fun ls hl => ?_)
            refine lv_iload hx hb dX12_canGive_54 (lv_at hl 1 rfl) ?_
            refine lv_if_eq (tgt := 80) hx hb dX12_canGive_56 (by decide) (fun z => absurd z (by decide)) (fun _ => ?_)
            refine lv_iload hx hb dX12_canGive_59 (lv_at hl 0 rfl) ?_
            refine lv_if_eq (tgt := 80) hx hb dX12_canGive_61 (by decide) (fun _ => ?_) (fun z => absurd (by decide) z)
            refine lv_iconst (v := 0) hx hb dX12_canGive_80 (by decide) ?_
            exact W.zret (v := 0) (ty := .boolean) hx hb hr rfl (fun t ht hW => ⟨⟨0, (), rfl, (Or.inl rfl), trivial⟩, hS.F ht⟩) hS.2.2 dX12_canGive_81
          · refine lv_iload_n hx hb dX12_canGive_38 rfl (lv_at hl 3 rfl) ?_
            refine jc_i (va_runS (As := [.int p2]) (rest := []) ⟨hx, hb, hml, hown, hts⟩ (kJ6_bitCount_0f7a4_1 l dC dI _ p2) (va_cwS 1 hts (jgoodS m_452 m_453 m_454 m_455) rfl rfl rfl (by decide +kernel) ⟨Nat.le_of_ble_eq_true rfl, Nat.le_of_ble_eq_true rfl⟩) ⟨jw_blind0, fun U hU hW => ⟨rfl, congrArg Array.size hU⟩⟩ rfl rfl hl.1 rfl (lv_room (Nat.le_of_ble_eq_true rfl)) dX12_canGive_39 ⟨Nat.le_of_ble_eq_true rfl, Nat.le_of_ble_eq_true rfl⟩) hP hS hA (fun r_23 H locs hw_23 hP hS => ?_)
            have hw_23 : ((((((((p2 - (((Int32.toUInt32 p2 >>> (Int32.toUInt32 1 &&& Int32.toUInt32 31)).toInt32) &&& 1431655765)) &&& 858993459) + (((Int32.toUInt32 (p2 - (((Int32.toUInt32 p2 >>> (Int32.toUInt32 1 &&& Int32.toUInt32 31)).toInt32) &&& 1431655765)) >>> (Int32.toUInt32 2 &&& Int32.toUInt32 31)).toInt32) &&& 858993459)) + ((Int32.toUInt32 (((p2 - (((Int32.toUInt32 p2 >>> (Int32.toUInt32 1 &&& Int32.toUInt32 31)).toInt32) &&& 1431655765)) &&& 858993459) + (((Int32.toUInt32 (p2 - (((Int32.toUInt32 p2 >>> (Int32.toUInt32 1 &&& Int32.toUInt32 31)).toInt32) &&& 1431655765)) >>> (Int32.toUInt32 2 &&& Int32.toUInt32 31)).toInt32) &&& 858993459)) >>> (Int32.toUInt32 4 &&& Int32.toUInt32 31)).toInt32)) &&& 252645135) + ((Int32.toUInt32 (((((p2 - (((Int32.toUInt32 p2 >>> (Int32.toUInt32 1 &&& Int32.toUInt32 31)).toInt32) &&& 1431655765)) &&& 858993459) + (((Int32.toUInt32 (p2 - (((Int32.toUInt32 p2 >>> (Int32.toUInt32 1 &&& Int32.toUInt32 31)).toInt32) &&& 1431655765)) >>> (Int32.toUInt32 2 &&& Int32.toUInt32 31)).toInt32) &&& 858993459)) + ((Int32.toUInt32 (((p2 - (((Int32.toUInt32 p2 >>> (Int32.toUInt32 1 &&& Int32.toUInt32 31)).toInt32) &&& 1431655765)) &&& 858993459) + (((Int32.toUInt32 (p2 - (((Int32.toUInt32 p2 >>> (Int32.toUInt32 1 &&& Int32.toUInt32 31)).toInt32) &&& 1431655765)) >>> (Int32.toUInt32 2 &&& Int32.toUInt32 31)).toInt32) &&& 858993459)) >>> (Int32.toUInt32 4 &&& Int32.toUInt32 31)).toInt32)) &&& 252645135) >>> (Int32.toUInt32 8 &&& Int32.toUInt32 31)).toInt32)) + ((Int32.toUInt32 ((((((p2 - (((Int32.toUInt32 p2 >>> (Int32.toUInt32 1 &&& Int32.toUInt32 31)).toInt32) &&& 1431655765)) &&& 858993459) + (((Int32.toUInt32 (p2 - (((Int32.toUInt32 p2 >>> (Int32.toUInt32 1 &&& Int32.toUInt32 31)).toInt32) &&& 1431655765)) >>> (Int32.toUInt32 2 &&& Int32.toUInt32 31)).toInt32) &&& 858993459)) + ((Int32.toUInt32 (((p2 - (((Int32.toUInt32 p2 >>> (Int32.toUInt32 1 &&& Int32.toUInt32 31)).toInt32) &&& 1431655765)) &&& 858993459) + (((Int32.toUInt32 (p2 - (((Int32.toUInt32 p2 >>> (Int32.toUInt32 1 &&& Int32.toUInt32 31)).toInt32) &&& 1431655765)) >>> (Int32.toUInt32 2 &&& Int32.toUInt32 31)).toInt32) &&& 858993459)) >>> (Int32.toUInt32 4 &&& Int32.toUInt32 31)).toInt32)) &&& 252645135) + ((Int32.toUInt32 (((((p2 - (((Int32.toUInt32 p2 >>> (Int32.toUInt32 1 &&& Int32.toUInt32 31)).toInt32) &&& 1431655765)) &&& 858993459) + (((Int32.toUInt32 (p2 - (((Int32.toUInt32 p2 >>> (Int32.toUInt32 1 &&& Int32.toUInt32 31)).toInt32) &&& 1431655765)) >>> (Int32.toUInt32 2 &&& Int32.toUInt32 31)).toInt32) &&& 858993459)) + ((Int32.toUInt32 (((p2 - (((Int32.toUInt32 p2 >>> (Int32.toUInt32 1 &&& Int32.toUInt32 31)).toInt32) &&& 1431655765)) &&& 858993459) + (((Int32.toUInt32 (p2 - (((Int32.toUInt32 p2 >>> (Int32.toUInt32 1 &&& Int32.toUInt32 31)).toInt32) &&& 1431655765)) >>> (Int32.toUInt32 2 &&& Int32.toUInt32 31)).toInt32) &&& 858993459)) >>> (Int32.toUInt32 4 &&& Int32.toUInt32 31)).toInt32)) &&& 252645135) >>> (Int32.toUInt32 8 &&& Int32.toUInt32 31)).toInt32)) >>> (Int32.toUInt32 16 &&& Int32.toUInt32 31)).toInt32)) &&& 63) = r_23 := Eq.symm hw_23
            subst hw_23
            refine lv_bipush (v := 6) hx hb dX12_canGive_42 (by decide) ?_
            refine lv_icmp_gt (tgt := 51) hx hb dX12_canGive_44 (by decide) (fun c_24 => ?_) (fun c_24 => ?_)
            · refine lv_iconst (v := 0) hx hb dX12_canGive_51 (by decide) ?_
              refine lv_istore (lv' := [(5, .int 0), (4, .int 1), (0, .ref h0), (1, .int p1), (2, .int p2), (3, .int p3)]) hx hb dX12_canGive_52 hl (by decide) rfl (fun ls hl => ?_)
              refine lv_iload hx hb dX12_canGive_54 (lv_at hl 1 rfl) ?_
              refine lv_if_eq (tgt := 80) hx hb dX12_canGive_56 (by decide) (fun z => absurd z (by decide)) (fun _ => ?_)
              refine lv_iload hx hb dX12_canGive_59 (lv_at hl 0 rfl) ?_
              refine lv_if_eq (tgt := 80) hx hb dX12_canGive_61 (by decide) (fun _ => ?_) (fun z => absurd (by decide) z)
              refine lv_iconst (v := 0) hx hb dX12_canGive_80 (by decide) ?_
              exact W.zret (v := 0) (ty := .boolean) hx hb hr rfl (fun t ht hW => ⟨⟨0, (), rfl, (Or.inl rfl), trivial⟩, hS.F ht⟩) hS.2.2 dX12_canGive_81
            · refine lv_iconst (v := 1) hx hb dX12_canGive_47 (by decide) ?_
              refine lv_goto (tgt := 52) hx hb dX12_canGive_48 (by decide) ?_
              refine lv_istore (lv' := [(5, .int 1), (4, .int 1), (0, .ref h0), (1, .int p1), (2, .int p2), (3, .int p3)]) hx hb dX12_canGive_52 hl (by decide) rfl (fun ls hl => ?_)
              refine lv_iload hx hb dX12_canGive_54 (lv_at hl 1 rfl) ?_
              refine lv_if_eq (tgt := 80) hx hb dX12_canGive_56 (by decide) (fun z => absurd z (by decide)) (fun _ => ?_)
              refine lv_iload hx hb dX12_canGive_59 (lv_at hl 0 rfl) ?_
              refine lv_if_eq (tgt := 80) hx hb dX12_canGive_61 (by decide) (fun z => absurd z (by decide)) (fun _ => ?_)
              refine lv_iload_n hx hb dX12_canGive_64 rfl (lv_at hl 5 rfl) ?_
              refine lv_iconst (v := 1) hx hb dX12_canGive_65 (by decide) ?_
              refine lv_icmp_lt (tgt := 80) hx hb dX12_canGive_66 (by decide) (fun c_25 => ?_) (fun c_25 => ?_)
              · refine lv_iconst (v := 0) hx hb dX12_canGive_80 (by decide) ?_
                exact W.zret (v := 0) (ty := .boolean) hx hb hr rfl (fun t ht hW => ⟨⟨0, (), rfl, (Or.inl rfl), trivial⟩, hS.F ht⟩) hS.2.2 dX12_canGive_81
              · refine lv_iload_n hx hb dX12_canGive_69 rfl (lv_at hl 5 rfl) ?_
                refine lv_sipush (v := 400) hx hb dX12_canGive_70 (by decide) ?_
                refine lv_icmp_gt (tgt := 80) hx hb dX12_canGive_73 (by decide) (fun c_26 => ?_) (fun c_26 => ?_)
                · refine lv_iconst (v := 0) hx hb dX12_canGive_80 (by decide) ?_
                  exact W.zret (v := 0) (ty := .boolean) hx hb hr rfl (fun t ht hW => ⟨⟨0, (), rfl, (Or.inl rfl), trivial⟩, hS.F ht⟩) hS.2.2 dX12_canGive_81
                · refine lv_iconst (v := 1) hx hb dX12_canGive_76 (by decide) ?_
                  refine lv_goto (tgt := 81) hx hb dX12_canGive_77 (by decide) ?_
                  exact W.zret (v := 1) (ty := .boolean) hx hb hr rfl (fun t ht hW => ⟨⟨1, (), rfl, (Or.inr ⟨c_1, c_6, c_11, c_16, c_22, c_24, c_25, c_26, rfl⟩), trivial⟩, hS.F ht⟩) hS.2.2 dX12_canGive_81
set_option maxHeartbeats 500000 in
set_option maxRecDepth 100000 in
theorem kX1_begin_2 (l : Launch) (dC : Nat → ClassId) (dI : Nat → Nat → Nat) (sz : Nat) (ad : Nat → Nat) (ca : Nat → ClassId) : Met l yX1_begin (jk yX1_begin cX1_begin 1 none) ({ frames := 0, cells := 0, slots := 0, locals := 0 }) (va_Pc [.ref (ad 61)] (jw_P (dC, dI) (xW ad ca) (xT ca) sz)) (va_Qv (fun (_ : Unit) => True) (fun _ t => va_P (dC, dI) vwCl (xW ad ca) t.heap ∧ va_K (dC, dI) vwCl (xT ca) t ∧ va_D (va_A (xW ad ca) sz) (xW ad ca)) (va_A (xW ad ca) sz)) 0 0 (va_A (xW ad ca) sz) := by
  refine Met.ofW (cc := cX1_begin) (maxL := 1) (ret := none) (by decide) rfl ?_
  intro p e s m args below meth c s₁ B hml hv
  obtain ⟨rfl, hsz, hP, hK, hD0⟩ := hv
  have hx := B.exec
  have hb := B.bytes
  have hr := B.returns
  have hts := atoms_spec (ws := (jk yX1_begin cX1_begin 1 none)) B.pre
  have hown : s.vm.findClass RX1 = some m.cls := findClass_of_methodNamed B.named
  have hlocks := B.notSynchronized
  subst hsz
  have hD := hD0.self (sz := s.heap.size)
  generalize hAe : (va_A (xW ad ca) s.heap.size) = A at hD ⊢
  have hA : ∀ q : Nat, s.heap.size ≤ q → A q := fun q h => by rw [← hAe]; exact Or.inr h
  have hS : va_S A s.heap s.heap [] := va_S.rf
  have hP : va_P (dC, dI) vwCl (xW ad ca) s.heap := hP
  have hl := lv_entry ([.ref (ad 61)]) (n := 1) (Nat.le_of_ble_eq_true rfl)
  rw [lg_entry_eq]
  generalize (lg_sl ([.ref (ad 61)]) ++ List.replicate (1 - (lg_sl ([.ref (ad 61)])).length) Slot.unset).toArray = ls at hl ⊢
  have hl : lv_has ls 1 [(0, .ref (ad 61))] := hl
  refine lv_aload_n hx hb dX1_begin_0 rfl (lv_at hl 0 rfl) ?_
  refine lv_iconst (v := 0) hx hb dX1_begin_1 (by decide) ?_
  refine va_put (D := (dC, dI)) (ci := 1) (v := .int 0) (ty := .int) (C := RX1) (T := TX1) (N := 10) hx hb hts (jh hin_RX1) tyX1 tyX1_ok nmX1 hown hK hP hD hS 61 rfl rfl 3 (by decide) (hts (.fieldLink RX1 37 "BookOfAll$Giver" "articleCount" "I") (jm m_462)) (fun _ h9 => h9) rfl (by decide +kernel) rfl rfl (Nat.le_of_ble_eq_true rfl) dX1_begin_2 (fun H locs hP hD hS => ?_)
  refine lv_aload_n hx hb dX1_begin_5 rfl (lv_at hl 0 rfl) ?_
  refine lv_iconst (v := 0) hx hb dX1_begin_6 (by decide) ?_
  refine va_put (D := (dC, dI)) (ci := 1) (v := .int 0) (ty := .int) (C := RX1) (T := TX1) (N := 10) hx hb hts (jh hin_RX1) tyX1 tyX1_ok nmX1 hown hK hP hD hS 61 rfl rfl 7 (by decide) (hts (.fieldLink RX1 41 "BookOfAll$Giver" "handCount" "I") (jm m_463)) (fun _ h9 => h9) rfl (by decide +kernel) rfl rfl (Nat.le_of_ble_eq_true rfl) dX1_begin_7 (fun H locs hP hD hS => ?_)
  exact W.vret hx hb hr (fun t ht hW => ⟨⟨(), rfl, trivial, by rw [ht]; exact hP, va_K.moved hW.alike hK, hD⟩, hS.F ht⟩) hS.2.2 dX1_begin_10
set_option maxHeartbeats 500000 in
set_option maxRecDepth 100000 in
theorem kX12_handAt_4 (l : Launch) (dC : Nat → ClassId) (dI : Nat → Nat → Nat) (sz : Nat) (ad : Nat → Nat) (ca : Nat → ClassId) : Met l yX12_handAt (jk yX12_handAt cX12_handAt 2 (some (.object "BookOfAll$Hand"))) ({ frames := 0, cells := 0, slots := 0, locals := 0 }) (va_Pc [.ref (ad 0), .int 0] (jw_P (dC, dI) (xW ad ca) (xT ca) sz)) (va_Qq (fun (r : Option Nat) (_ : Unit) => (r = none)) (fun _ _ => True) (va_A [] sz)) 0 0 (va_A [] sz) := by
  refine Met.ofW (cc := cX12_handAt) (maxL := 2) (ret := (some (.object "BookOfAll$Hand"))) (by decide) rfl ?_
  intro p e s m args below meth c s₁ B hml hv
  obtain ⟨rfl, hsz, hP, hK, hD0⟩ := hv
  have hx := B.exec
  have hb := B.bytes
  have hr := B.returns
  have hts := atoms_spec (ws := (jk yX12_handAt cX12_handAt 2 (some (.object "BookOfAll$Hand")))) B.pre
  have hown : s.vm.findClass RX12 = some m.cls := findClass_of_methodNamed B.named
  have hlocks := B.notSynchronized
  subst hsz
  have hD := hD0
  generalize hAe : (va_A [] s.heap.size) = A
  have hA : ∀ q : Nat, s.heap.size ≤ q → A q := fun q h => by rw [← hAe]; exact Or.inr h
  have hS : va_S A s.heap s.heap [] := va_S.rf
  have hP : va_P (dC, dI) vwCl (xW ad ca) s.heap := hP
  have hl := lv_entry ([.ref (ad 0), .int 0]) (n := 2) (Nat.le_of_ble_eq_true rfl)
  rw [lg_entry_eq]
  generalize (lg_sl ([.ref (ad 0), .int 0]) ++ List.replicate (2 - (lg_sl ([.ref (ad 0), .int 0])).length) Slot.unset).toArray = ls at hl ⊢
  have hl : lv_has ls 2 [(0, .ref (ad 0)), (1, .int 0)] := hl
  refine lv_iload_n hx hb dX12_handAt_0 rfl (lv_at hl 1 rfl) ?_
  refine lv_if_lt (tgt := 27) hx hb dX12_handAt_1 (by decide) (fun z => absurd z (by decide)) (fun _ => ?_)
  refine lv_iload_n hx hb dX12_handAt_4 rfl (lv_at hl 1 rfl) ?_
  refine lv_aload_n hx hb dX12_handAt_5 rfl (lv_at hl 0 rfl) ?_
  refine va_get (D := (dC, dI)) (ci := 12) (v := .int 0) (C := RX12) (T := TX12) (N := 20) hx hb hts (jh hin_RX12) hown hK hP 0 rfl rfl 11 (by decide) (hts (.fieldLink RX12 292 "BookOfAll" "handCount" "I") (jm m_339)) (fun _ h9 => h9) rfl dX12_handAt_6 ?_
  refine lv_icmp_ge (tgt := 27) hx hb dX12_handAt_9 (by decide) (fun _ => ?_) (fun z => absurd (by decide) z)
  refine lv_null hx hb dX12_handAt_27 ?_
  exact W.aret (v := .null) hx hb hr (Or.inl ⟨_, rfl⟩) (Or.inl rfl) (fun t ht hW => ⟨⟨none, (), rfl, rfl, trivial⟩, hS.F ht⟩) hS.2.2 dX12_handAt_28
set_option maxHeartbeats 500000 in
set_option maxRecDepth 100000 in
theorem kX12_livingHandAt_4 (l : Launch) (dC : Nat → ClassId) (dI : Nat → Nat → Nat) (sz : Nat) (ad : Nat → Nat) (ca : Nat → ClassId) : Met l yX12_livingHandAt (jk yX12_livingHandAt cX12_livingHandAt 3 (some (.object "BookOfAll$Hand"))) ({ frames := 1, cells := 0, slots := 0, locals := 21 }) (va_Pc [.ref (ad 0), .int 0] (jw_P (dC, dI) (xW ad ca) (xT ca) sz)) (va_Qq (fun (r : Option Nat) (_ : Unit) => (r = none)) (fun _ _ => True) (va_A [] sz)) 0 0 (va_A [] sz) := by
  refine Met.ofW (cc := cX12_livingHandAt) (maxL := 3) (ret := (some (.object "BookOfAll$Hand"))) (by decide) rfl ?_
  intro p e s m args below meth c s₁ B hml hv
  obtain ⟨rfl, hsz, hP, hK, hD0⟩ := hv
  have hx := B.exec
  have hb := B.bytes
  have hr := B.returns
  have hts := atoms_spec (ws := (jk yX12_livingHandAt cX12_livingHandAt 3 (some (.object "BookOfAll$Hand")))) B.pre
  have hown : s.vm.findClass RX12 = some m.cls := findClass_of_methodNamed B.named
  have hlocks := B.notSynchronized
  subst hsz
  have hD := hD0
  generalize hAe : (va_A [] s.heap.size) = A
  have hA : ∀ q : Nat, s.heap.size ≤ q → A q := fun q h => by rw [← hAe]; exact Or.inr h
  have hS : va_S A s.heap s.heap [] := va_S.rf
  have hP : va_P (dC, dI) vwCl (xW ad ca) s.heap := hP
  have hl := lv_entry ([.ref (ad 0), .int 0]) (n := 3) (Nat.le_of_ble_eq_true rfl)
  rw [lg_entry_eq]
  generalize (lg_sl ([.ref (ad 0), .int 0]) ++ List.replicate (3 - (lg_sl ([.ref (ad 0), .int 0])).length) Slot.unset).toArray = ls at hl ⊢
  have hl : lv_has ls 3 [(0, .ref (ad 0)), (1, .int 0)] := hl
  refine lv_aload_n hx hb dX12_livingHandAt_0 rfl (lv_at hl 0 rfl) ?_
  refine lv_iload_n hx hb dX12_livingHandAt_1 rfl (lv_at hl 1 rfl) ?_
  refine jc_q (va_runV (As := [.int 0]) (rest := []) ⟨hx, hb, hml, hown, hts⟩ (kX12_handAt_4 l dC dI _ ad ca) (cwV 1 hts (jgoodV m_352 m_353 m_354 m_210 m_355) rfl rfl rfl (by decide +kernel) ⟨Nat.le_of_ble_eq_true rfl, Nat.le_of_ble_eq_true rfl⟩) ⟨jw_blind, va_recv hK hP (ci := 12) (q0 := 0) rfl rfl, fun U hU hW => ⟨rfl, jw_of hU hW hP hK hD⟩⟩ rfl rfl hl.1 rfl (lv_room (Nat.le_of_ble_eq_true rfl)) dX12_livingHandAt_2 ⟨Nat.le_of_ble_eq_true rfl, Nat.le_of_ble_eq_true rfl⟩) hP hS hA (fun r_1 H locs hw_1 hP hS => ?_)
  have hw_1 : none = r_1 := Eq.symm hw_1
  subst hw_1
  refine jt_q Value.null rfl ?_
  refine lv_astore_nN (lv' := [(2, .null), (0, .ref (ad 0)), (1, .int 0)]) hx hb dX12_livingHandAt_5 rfl hl (by decide) rfl (fun ls hl => ?_)
  refine lv_aload_nN hx hb dX12_livingHandAt_6 rfl (lv_at hl 0 rfl) ?_
  refine lv_ifnullN (tgt := 21) hx hb dX12_livingHandAt_7 (by decide) ?_
  refine lv_null hx hb dX12_livingHandAt_21 ?_
  exact W.aret (v := .null) hx hb hr (Or.inl ⟨_, rfl⟩) (Or.inl rfl) (fun t ht hW => ⟨⟨none, (), rfl, rfl, trivial⟩, hS.F ht⟩) hS.2.2 dX12_livingHandAt_22
set_option maxHeartbeats 500000 in
set_option maxRecDepth 100000 in
theorem kX12_handAt_6 (l : Launch) (dC : Nat → ClassId) (dI : Nat → Nat → Nat) (sz : Nat) (ad : Nat → Nat) (ca : Nat → ClassId) : Met l yX12_handAt (jk yX12_handAt cX12_handAt 2 (some (.object "BookOfAll$Hand"))) ({ frames := 0, cells := 0, slots := 0, locals := 0 }) (va_Pc [.ref (ad 0), .int 1] (jw_P (dC, dI) (xW ad ca) (xT ca) sz)) (va_Qq (fun (r : Option Nat) (_ : Unit) => (r = none)) (fun _ _ => True) (va_A [] sz)) 0 0 (va_A [] sz) := by
  refine Met.ofW (cc := cX12_handAt) (maxL := 2) (ret := (some (.object "BookOfAll$Hand"))) (by decide) rfl ?_
  intro p e s m args below meth c s₁ B hml hv
  obtain ⟨rfl, hsz, hP, hK, hD0⟩ := hv
  have hx := B.exec
  have hb := B.bytes
  have hr := B.returns
  have hts := atoms_spec (ws := (jk yX12_handAt cX12_handAt 2 (some (.object "BookOfAll$Hand")))) B.pre
  have hown : s.vm.findClass RX12 = some m.cls := findClass_of_methodNamed B.named
  have hlocks := B.notSynchronized
  subst hsz
  have hD := hD0
  generalize hAe : (va_A [] s.heap.size) = A
  have hA : ∀ q : Nat, s.heap.size ≤ q → A q := fun q h => by rw [← hAe]; exact Or.inr h
  have hS : va_S A s.heap s.heap [] := va_S.rf
  have hP : va_P (dC, dI) vwCl (xW ad ca) s.heap := hP
  have hl := lv_entry ([.ref (ad 0), .int 1]) (n := 2) (Nat.le_of_ble_eq_true rfl)
  rw [lg_entry_eq]
  generalize (lg_sl ([.ref (ad 0), .int 1]) ++ List.replicate (2 - (lg_sl ([.ref (ad 0), .int 1])).length) Slot.unset).toArray = ls at hl ⊢
  have hl : lv_has ls 2 [(0, .ref (ad 0)), (1, .int 1)] := hl
  refine lv_iload_n hx hb dX12_handAt_0 rfl (lv_at hl 1 rfl) ?_
  refine lv_if_lt (tgt := 27) hx hb dX12_handAt_1 (by decide) (fun z => absurd z (by decide)) (fun _ => ?_)
  refine lv_iload_n hx hb dX12_handAt_4 rfl (lv_at hl 1 rfl) ?_
  refine lv_aload_n hx hb dX12_handAt_5 rfl (lv_at hl 0 rfl) ?_
  refine va_get (D := (dC, dI)) (ci := 12) (v := .int 0) (C := RX12) (T := TX12) (N := 20) hx hb hts (jh hin_RX12) hown hK hP 0 rfl rfl 11 (by decide) (hts (.fieldLink RX12 292 "BookOfAll" "handCount" "I") (jm m_339)) (fun _ h9 => h9) rfl dX12_handAt_6 ?_
  refine lv_icmp_ge (tgt := 27) hx hb dX12_handAt_9 (by decide) (fun _ => ?_) (fun z => absurd (by decide) z)
  refine lv_null hx hb dX12_handAt_27 ?_
  exact W.aret (v := .null) hx hb hr (Or.inl ⟨_, rfl⟩) (Or.inl rfl) (fun t ht hW => ⟨⟨none, (), rfl, rfl, trivial⟩, hS.F ht⟩) hS.2.2 dX12_handAt_28
set_option maxHeartbeats 500000 in
set_option maxRecDepth 100000 in
theorem kX12_livingHandAt_6 (l : Launch) (dC : Nat → ClassId) (dI : Nat → Nat → Nat) (sz : Nat) (ad : Nat → Nat) (ca : Nat → ClassId) : Met l yX12_livingHandAt (jk yX12_livingHandAt cX12_livingHandAt 3 (some (.object "BookOfAll$Hand"))) ({ frames := 1, cells := 0, slots := 0, locals := 21 }) (va_Pc [.ref (ad 0), .int 1] (jw_P (dC, dI) (xW ad ca) (xT ca) sz)) (va_Qq (fun (r : Option Nat) (_ : Unit) => (r = none)) (fun _ _ => True) (va_A [] sz)) 0 0 (va_A [] sz) := by
  refine Met.ofW (cc := cX12_livingHandAt) (maxL := 3) (ret := (some (.object "BookOfAll$Hand"))) (by decide) rfl ?_
  intro p e s m args below meth c s₁ B hml hv
  obtain ⟨rfl, hsz, hP, hK, hD0⟩ := hv
  have hx := B.exec
  have hb := B.bytes
  have hr := B.returns
  have hts := atoms_spec (ws := (jk yX12_livingHandAt cX12_livingHandAt 3 (some (.object "BookOfAll$Hand")))) B.pre
  have hown : s.vm.findClass RX12 = some m.cls := findClass_of_methodNamed B.named
  have hlocks := B.notSynchronized
  subst hsz
  have hD := hD0
  generalize hAe : (va_A [] s.heap.size) = A
  have hA : ∀ q : Nat, s.heap.size ≤ q → A q := fun q h => by rw [← hAe]; exact Or.inr h
  have hS : va_S A s.heap s.heap [] := va_S.rf
  have hP : va_P (dC, dI) vwCl (xW ad ca) s.heap := hP
  have hl := lv_entry ([.ref (ad 0), .int 1]) (n := 3) (Nat.le_of_ble_eq_true rfl)
  rw [lg_entry_eq]
  generalize (lg_sl ([.ref (ad 0), .int 1]) ++ List.replicate (3 - (lg_sl ([.ref (ad 0), .int 1])).length) Slot.unset).toArray = ls at hl ⊢
  have hl : lv_has ls 3 [(0, .ref (ad 0)), (1, .int 1)] := hl
  refine lv_aload_n hx hb dX12_livingHandAt_0 rfl (lv_at hl 0 rfl) ?_
  refine lv_iload_n hx hb dX12_livingHandAt_1 rfl (lv_at hl 1 rfl) ?_
  refine jc_q (va_runV (As := [.int 1]) (rest := []) ⟨hx, hb, hml, hown, hts⟩ (kX12_handAt_6 l dC dI _ ad ca) (cwV 1 hts (jgoodV m_352 m_353 m_354 m_210 m_355) rfl rfl rfl (by decide +kernel) ⟨Nat.le_of_ble_eq_true rfl, Nat.le_of_ble_eq_true rfl⟩) ⟨jw_blind, va_recv hK hP (ci := 12) (q0 := 0) rfl rfl, fun U hU hW => ⟨rfl, jw_of hU hW hP hK hD⟩⟩ rfl rfl hl.1 rfl (lv_room (Nat.le_of_ble_eq_true rfl)) dX12_livingHandAt_2 ⟨Nat.le_of_ble_eq_true rfl, Nat.le_of_ble_eq_true rfl⟩) hP hS hA (fun r_1 H locs hw_1 hP hS => ?_)
  have hw_1 : none = r_1 := Eq.symm hw_1
  subst hw_1
  refine jt_q Value.null rfl ?_
  refine lv_astore_nN (lv' := [(2, .null), (0, .ref (ad 0)), (1, .int 1)]) hx hb dX12_livingHandAt_5 rfl hl (by decide) rfl (fun ls hl => ?_)
  refine lv_aload_nN hx hb dX12_livingHandAt_6 rfl (lv_at hl 0 rfl) ?_
  refine lv_ifnullN (tgt := 21) hx hb dX12_livingHandAt_7 (by decide) ?_
  refine lv_null hx hb dX12_livingHandAt_21 ?_
  exact W.aret (v := .null) hx hb hr (Or.inl ⟨_, rfl⟩) (Or.inl rfl) (fun t ht hW => ⟨⟨none, (), rfl, rfl, trivial⟩, hS.F ht⟩) hS.2.2 dX12_livingHandAt_22
set_option maxHeartbeats 500000 in
set_option maxRecDepth 100000 in
theorem kX12_handAt_8 (l : Launch) (dC : Nat → ClassId) (dI : Nat → Nat → Nat) (sz : Nat) (ad : Nat → Nat) (ca : Nat → ClassId) : Met l yX12_handAt (jk yX12_handAt cX12_handAt 2 (some (.object "BookOfAll$Hand"))) ({ frames := 0, cells := 0, slots := 0, locals := 0 }) (va_Pc [.ref (ad 0), .int 2] (jw_P (dC, dI) (xW ad ca) (xT ca) sz)) (va_Qq (fun (r : Option Nat) (_ : Unit) => (r = none)) (fun _ _ => True) (va_A [] sz)) 0 0 (va_A [] sz) := by
  refine Met.ofW (cc := cX12_handAt) (maxL := 2) (ret := (some (.object "BookOfAll$Hand"))) (by decide) rfl ?_
  intro p e s m args below meth c s₁ B hml hv
  obtain ⟨rfl, hsz, hP, hK, hD0⟩ := hv
  have hx := B.exec
  have hb := B.bytes
  have hr := B.returns
  have hts := atoms_spec (ws := (jk yX12_handAt cX12_handAt 2 (some (.object "BookOfAll$Hand")))) B.pre
  have hown : s.vm.findClass RX12 = some m.cls := findClass_of_methodNamed B.named
  have hlocks := B.notSynchronized
  subst hsz
  have hD := hD0
  generalize hAe : (va_A [] s.heap.size) = A
  have hA : ∀ q : Nat, s.heap.size ≤ q → A q := fun q h => by rw [← hAe]; exact Or.inr h
  have hS : va_S A s.heap s.heap [] := va_S.rf
  have hP : va_P (dC, dI) vwCl (xW ad ca) s.heap := hP
  have hl := lv_entry ([.ref (ad 0), .int 2]) (n := 2) (Nat.le_of_ble_eq_true rfl)
  rw [lg_entry_eq]
  generalize (lg_sl ([.ref (ad 0), .int 2]) ++ List.replicate (2 - (lg_sl ([.ref (ad 0), .int 2])).length) Slot.unset).toArray = ls at hl ⊢
  have hl : lv_has ls 2 [(0, .ref (ad 0)), (1, .int 2)] := hl
  refine lv_iload_n hx hb dX12_handAt_0 rfl (lv_at hl 1 rfl) ?_
  refine lv_if_lt (tgt := 27) hx hb dX12_handAt_1 (by decide) (fun z => absurd z (by decide)) (fun _ => ?_)
  refine lv_iload_n hx hb dX12_handAt_4 rfl (lv_at hl 1 rfl) ?_
  refine lv_aload_n hx hb dX12_handAt_5 rfl (lv_at hl 0 rfl) ?_
  refine va_get (D := (dC, dI)) (ci := 12) (v := .int 0) (C := RX12) (T := TX12) (N := 20) hx hb hts (jh hin_RX12) hown hK hP 0 rfl rfl 11 (by decide) (hts (.fieldLink RX12 292 "BookOfAll" "handCount" "I") (jm m_339)) (fun _ h9 => h9) rfl dX12_handAt_6 ?_
  refine lv_icmp_ge (tgt := 27) hx hb dX12_handAt_9 (by decide) (fun _ => ?_) (fun z => absurd (by decide) z)
  refine lv_null hx hb dX12_handAt_27 ?_
  exact W.aret (v := .null) hx hb hr (Or.inl ⟨_, rfl⟩) (Or.inl rfl) (fun t ht hW => ⟨⟨none, (), rfl, rfl, trivial⟩, hS.F ht⟩) hS.2.2 dX12_handAt_28
set_option maxHeartbeats 500000 in
set_option maxRecDepth 100000 in
theorem kX12_livingHandAt_8 (l : Launch) (dC : Nat → ClassId) (dI : Nat → Nat → Nat) (sz : Nat) (ad : Nat → Nat) (ca : Nat → ClassId) : Met l yX12_livingHandAt (jk yX12_livingHandAt cX12_livingHandAt 3 (some (.object "BookOfAll$Hand"))) ({ frames := 1, cells := 0, slots := 0, locals := 21 }) (va_Pc [.ref (ad 0), .int 2] (jw_P (dC, dI) (xW ad ca) (xT ca) sz)) (va_Qq (fun (r : Option Nat) (_ : Unit) => (r = none)) (fun _ _ => True) (va_A [] sz)) 0 0 (va_A [] sz) := by
  refine Met.ofW (cc := cX12_livingHandAt) (maxL := 3) (ret := (some (.object "BookOfAll$Hand"))) (by decide) rfl ?_
  intro p e s m args below meth c s₁ B hml hv
  obtain ⟨rfl, hsz, hP, hK, hD0⟩ := hv
  have hx := B.exec
  have hb := B.bytes
  have hr := B.returns
  have hts := atoms_spec (ws := (jk yX12_livingHandAt cX12_livingHandAt 3 (some (.object "BookOfAll$Hand")))) B.pre
  have hown : s.vm.findClass RX12 = some m.cls := findClass_of_methodNamed B.named
  have hlocks := B.notSynchronized
  subst hsz
  have hD := hD0
  generalize hAe : (va_A [] s.heap.size) = A
  have hA : ∀ q : Nat, s.heap.size ≤ q → A q := fun q h => by rw [← hAe]; exact Or.inr h
  have hS : va_S A s.heap s.heap [] := va_S.rf
  have hP : va_P (dC, dI) vwCl (xW ad ca) s.heap := hP
  have hl := lv_entry ([.ref (ad 0), .int 2]) (n := 3) (Nat.le_of_ble_eq_true rfl)
  rw [lg_entry_eq]
  generalize (lg_sl ([.ref (ad 0), .int 2]) ++ List.replicate (3 - (lg_sl ([.ref (ad 0), .int 2])).length) Slot.unset).toArray = ls at hl ⊢
  have hl : lv_has ls 3 [(0, .ref (ad 0)), (1, .int 2)] := hl
  refine lv_aload_n hx hb dX12_livingHandAt_0 rfl (lv_at hl 0 rfl) ?_
  refine lv_iload_n hx hb dX12_livingHandAt_1 rfl (lv_at hl 1 rfl) ?_
  refine jc_q (va_runV (As := [.int 2]) (rest := []) ⟨hx, hb, hml, hown, hts⟩ (kX12_handAt_8 l dC dI _ ad ca) (cwV 1 hts (jgoodV m_352 m_353 m_354 m_210 m_355) rfl rfl rfl (by decide +kernel) ⟨Nat.le_of_ble_eq_true rfl, Nat.le_of_ble_eq_true rfl⟩) ⟨jw_blind, va_recv hK hP (ci := 12) (q0 := 0) rfl rfl, fun U hU hW => ⟨rfl, jw_of hU hW hP hK hD⟩⟩ rfl rfl hl.1 rfl (lv_room (Nat.le_of_ble_eq_true rfl)) dX12_livingHandAt_2 ⟨Nat.le_of_ble_eq_true rfl, Nat.le_of_ble_eq_true rfl⟩) hP hS hA (fun r_1 H locs hw_1 hP hS => ?_)
  have hw_1 : none = r_1 := Eq.symm hw_1
  subst hw_1
  refine jt_q Value.null rfl ?_
  refine lv_astore_nN (lv' := [(2, .null), (0, .ref (ad 0)), (1, .int 2)]) hx hb dX12_livingHandAt_5 rfl hl (by decide) rfl (fun ls hl => ?_)
  refine lv_aload_nN hx hb dX12_livingHandAt_6 rfl (lv_at hl 0 rfl) ?_
  refine lv_ifnullN (tgt := 21) hx hb dX12_livingHandAt_7 (by decide) ?_
  refine lv_null hx hb dX12_livingHandAt_21 ?_
  exact W.aret (v := .null) hx hb hr (Or.inl ⟨_, rfl⟩) (Or.inl rfl) (fun t ht hW => ⟨⟨none, (), rfl, rfl, trivial⟩, hS.F ht⟩) hS.2.2 dX12_livingHandAt_22
