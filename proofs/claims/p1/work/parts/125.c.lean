set_option maxHeartbeats 1000000 in
set_option maxRecDepth 100000 in
theorem kX12_lay_12 (l : Launch) (dC : Nat → ClassId) (dI : Nat → Nat → Nat) (sz : Nat) (ad : Nat → Nat) (ca : Nat → ClassId) : Met l yX12_lay (jk yX12_lay cX12_lay 5 none) ({ frames := 2, cells := 2, slots := 0, locals := 102 }) (va_Pc [.ref (ad 0), .ref (ad 35), .int 5] (jw_P (dC, dI) ((jS (xW ad ca) 18 (ad 18, .inr (6, [.ref (ad 11), .int 5, .int 0, .int 1, .int 1, .int 1])))) (xT ca) sz)) (va_Qv (fun (u : Nat × (Nat → Nat) × (Nat → ClassId)) => (u.1 = 0)) (fun u t => va_P (dC, dI) vwCl ((fun (u : Nat × (Nat → Nat) × (Nat → ClassId)) => (jS (jS (jS (jS (jA (jS (jA (jS (xW ad ca) 18 (ad 18, .inr (6, [.ref (ad 11), .int 5, .int 0, .int 1, .int 1, .int 1]))) [((u.2.1 0), .inl ((u.2.2 0), 0, .inl (fun _ => 0)))]) 35 (ad 35, .inr (11, [.int 25, .int (-1), .ref (ad 36), .ref (u.2.1 0), .int 0, .int 0, .int 0]))) [((u.2.1 1), .inl ((u.2.2 1), 0, .inl (fun _ => 0)))]) 74 ((u.2.1 1), .inl ((u.2.2 1), 0, .inl (va_cpy (fun _ => 0) (fun _ => 0) 0 0 0)))) 35 (ad 35, .inr (11, [.int 25, .int (-1), .ref ((u.2.1 1)), .ref (u.2.1 0), .int 0, .int 0, .int 0]))) 35 (ad 35, .inr (11, [.int 25, .int 0, .ref ((u.2.1 1)), .ref (u.2.1 0), .int 0, .int 0, .int 0]))) 0 (ad 0, .inr (12, [.int 0, .int 32, .ref (ad 1), .ref (ad 11), .ref (ad 18), .ref (ad 19), .ref (ad 38), .int 0, .ref (ad 39), .int 0, .ref (ad 40), .int 0, .ref (ad 41), .int 0, .ref (ad 42), .ref (ad 53), .ref (ad 54), .ref (ad 55), .ref (ad 61), .ref (ad 70)])))) u) t.heap ∧ va_K (dC, dI) vwCl ((fun (u : Nat × (Nat → Nat) × (Nat → ClassId)) => (xT ca ++ [((u.2.2 0), .int), ((u.2.2 1), .int)])) u) t ∧ va_D (va_A ((jS (xW ad ca) 18 (ad 18, .inr (6, [.ref (ad 11), .int 5, .int 0, .int 1, .int 1, .int 1])))) sz) ((fun (u : Nat × (Nat → Nat) × (Nat → ClassId)) => (jS (jS (jS (jS (jA (jS (jA (jS (xW ad ca) 18 (ad 18, .inr (6, [.ref (ad 11), .int 5, .int 0, .int 1, .int 1, .int 1]))) [((u.2.1 0), .inl ((u.2.2 0), 0, .inl (fun _ => 0)))]) 35 (ad 35, .inr (11, [.int 25, .int (-1), .ref (ad 36), .ref (u.2.1 0), .int 0, .int 0, .int 0]))) [((u.2.1 1), .inl ((u.2.2 1), 0, .inl (fun _ => 0)))]) 74 ((u.2.1 1), .inl ((u.2.2 1), 0, .inl (va_cpy (fun _ => 0) (fun _ => 0) 0 0 0)))) 35 (ad 35, .inr (11, [.int 25, .int (-1), .ref ((u.2.1 1)), .ref (u.2.1 0), .int 0, .int 0, .int 0]))) 35 (ad 35, .inr (11, [.int 25, .int 0, .ref ((u.2.1 1)), .ref (u.2.1 0), .int 0, .int 0, .int 0]))) 0 (ad 0, .inr (12, [.int 0, .int 32, .ref (ad 1), .ref (ad 11), .ref (ad 18), .ref (ad 19), .ref (ad 38), .int 0, .ref (ad 39), .int 0, .ref (ad 40), .int 0, .ref (ad 41), .int 0, .ref (ad 42), .ref (ad 53), .ref (ad 54), .ref (ad 55), .ref (ad 61), .ref (ad 70)])))) u)) (va_A ((jS (xW ad ca) 18 (ad 18, .inr (6, [.ref (ad 11), .int 5, .int 0, .int 1, .int 1, .int 1])))) sz)) 2 0 (va_A ((jS (xW ad ca) 18 (ad 18, .inr (6, [.ref (ad 11), .int 5, .int 0, .int 1, .int 1, .int 1])))) sz) := by
  refine Met.ofW (cc := cX12_lay) (maxL := 5) (ret := none) (by decide) rfl ?_
  intro p e s m args below meth c s₁ B hml hv
  obtain ⟨rfl, hsz, hP, hK, hD0⟩ := hv
  have hx := B.exec
  have hb := B.bytes
  have hr := B.returns
  have hts := atoms_spec (ws := (jk yX12_lay cX12_lay 5 none)) B.pre
  have hown : s.vm.findClass RX12 = some m.cls := findClass_of_methodNamed B.named
  have hlocks := B.notSynchronized
  subst hsz
  have hD := hD0.self (sz := s.heap.size)
  generalize hAe : (va_A ((jS (xW ad ca) 18 (ad 18, .inr (6, [.ref (ad 11), .int 5, .int 0, .int 1, .int 1, .int 1])))) s.heap.size) = A at hD ⊢
  have hA : ∀ q : Nat, s.heap.size ≤ q → A q := fun q h => by rw [← hAe]; exact Or.inr h
  have hS : va_S A s.heap s.heap [] := va_S.rf
  have hP : va_P (dC, dI) vwCl ((jS (xW ad ca) 18 (ad 18, .inr (6, [.ref (ad 11), .int 5, .int 0, .int 1, .int 1, .int 1])))) s.heap := hP
  have hl := lv_entry ([.ref (ad 0), .ref (ad 35), .int 5]) (n := 5) (Nat.le_of_ble_eq_true rfl)
  rw [lg_entry_eq]
  generalize (lg_sl ([.ref (ad 0), .ref (ad 35), .int 5]) ++ List.replicate (5 - (lg_sl ([.ref (ad 0), .ref (ad 35), .int 5])).length) Slot.unset).toArray = ls at hl ⊢
  have hl : lv_has ls 5 [(0, .ref (ad 0)), (1, .ref (ad 35)), (2, .int 5)] := hl
  refine lv_aload_n hx hb dX12_lay_0 rfl (lv_at hl 1 rfl) ?_
  refine lv_aload_n hx hb dX12_lay_1 rfl (lv_at hl 0 rfl) ?_
  refine jc_i (va_runV (As := []) (rest := [.ref (ad 35)]) ⟨hx, hb, hml, hown, hts⟩ (kX12_linesInRow_7 l dC dI _ ad ca) (cwV 0 hts (jgoodV m_398 m_399 m_400 m_210 m_401) rfl rfl rfl (by decide +kernel) ⟨Nat.le_of_ble_eq_true rfl, Nat.le_of_ble_eq_true rfl⟩) ⟨jw_blind, va_recv hK hP (ci := 12) (q0 := 0) rfl rfl, fun U hU hW => ⟨rfl, jw_of hU hW hP hK hD⟩⟩ rfl rfl hl.1 rfl (lv_room (Nat.le_of_ble_eq_true rfl)) dX12_lay_2 ⟨Nat.le_of_ble_eq_true rfl, Nat.le_of_ble_eq_true rfl⟩) hP hS hA (fun r_1 H locs hw_1 hP hS => ?_)
  have hw_1 : 0 = r_1 := Eq.symm hw_1
  subst hw_1
  refine va_newa (atype := .int) (N' := 0) (a0 := (0, .inl (fun _ => 0))) (ty := .int) hx hb (hts (.arrayClass .int) (jm m_2)) rfl hK hP hD hS hA (fun _ => rfl) (by decide) (by decide) (by decide) (Nat.le_of_ble_eq_true rfl) (Nat.le_of_ble_eq_true rfl) dX12_lay_5 (fun q1 y1 H hK hP hD hS => ?_)
  refine W.widen (k := 1) (n := 0) (Nat.le_of_ble_eq_true rfl) (Nat.le_of_ble_eq_true rfl) ?_
  refine va_put (D := (dC, dI)) (ci := 11) (v := .ref q1) (ty := .array .int) (C := RX11) (T := TX11) (N := 7) hx hb hts (jh hin_RX11) tyX11 tyX11_ok nmX11 hown hK hP hD hS 35 (jg_l (jg_n (Nat.ne_of_beq_eq_false rfl) rfl)) rfl 3 (by decide) (hts (.fieldLink RX12 458 "BookOfAll$Volume" "laid" "[I") (jm m_402)) (fun _ h9 => h9) rfl (by decide +kernel) rfl rfl (Nat.le_of_ble_eq_true rfl) dX12_lay_7 (fun H locs hP hD hS => ?_)
  refine lv_aload_n hx hb dX12_lay_10 rfl (lv_at hl 1 rfl) ?_
  refine lv_aload_n hx hb dX12_lay_11 rfl (lv_at hl 0 rfl) ?_
  refine va_get (D := (dC, dI)) (ci := 12) (v := .ref (ad 39)) (C := RX12) (T := TX12) (N := 20) hx hb hts (jh hin_RX12) hown hK hP 0 (jg_n (Nat.ne_of_beq_eq_false rfl) (jg_l (jg_n (Nat.ne_of_beq_eq_false rfl) rfl))) rfl 8 (by decide) (hts (.fieldLink RX12 47 "BookOfAll" "row" "[I") (jm m_403)) (fun _ h9 => h9) rfl dX12_lay_12 ?_
  refine lv_iconst (v := 0) hx hb dX12_lay_15 (by decide) ?_
  refine lv_aload_n hx hb dX12_lay_16 rfl (lv_at hl 0 rfl) ?_
  refine va_get (D := (dC, dI)) (ci := 12) (v := .int 0) (C := RX12) (T := TX12) (N := 20) hx hb hts (jh hin_RX12) hown hK hP 0 (jg_n (Nat.ne_of_beq_eq_false rfl) (jg_l (jg_n (Nat.ne_of_beq_eq_false rfl) rfl))) rfl 9 (by decide) (hts (.fieldLink RX12 268 "BookOfAll" "rowSize" "I") (jm m_333)) (fun _ h9 => h9) rfl dX12_lay_17 ?_
  refine va_mmax hx hb (by rw [hml]; exact hl.1.symm) hown (hts (.methodLink RX12 379 Lib.Math.max.name) (jm m_404)) (hts (.static Lib.Math.max.name) (jm m_169)) (hts (.initialized "java/lang/Math") (jm m_170)) (hts (.code Lib.Math.max.name Lib.Math.max.code 2 (some .int)) (jm m_171)) (Nat.le_of_ble_eq_true rfl) (Nat.le_of_ble_eq_true rfl) (Nat.le_of_ble_eq_true rfl) (Nat.le_of_ble_eq_true rfl) dX12_lay_20 ?_
  refine jt_i 0 (by decide) ?_
  refine jcg_q (va_runS (As := [.ref (ad 39), .int 0]) (rest := [.ref (ad 35)]) ⟨hx, hb, hml, hown, hts⟩ (kJ7_copyOf_59c91_8 l dC dI _ ad ca q1 y1) (va_cwS 2 hts (jgoodS m_405 m_180 m_142 m_181) rfl rfl rfl (by decide +kernel) ⟨Nat.le_of_ble_eq_true rfl, Nat.le_of_ble_eq_true rfl⟩) ⟨jw_blind, fun U hU hW => ⟨rfl, jw_of hU hW hP hK hD⟩⟩ rfl rfl hl.1 rfl (lv_room (Nat.le_of_ble_eq_true rfl)) dX12_lay_23 ⟨Nat.le_of_ble_eq_true rfl, Nat.le_of_ble_eq_true rfl⟩) hD hS hA (fun r_2 u_2 H locs hw_2 hP hK hD hS => ?_)
  obtain ⟨w_2, a_2, y_2⟩ := u_2
  obtain ⟨rfl, rfl⟩ : w_2 = 0 ∧ r_2 = some ((a_2 0)) := hw_2
  have hP : va_P (dC, dI) vwCl ((jS (jA (jS (jA (jS (xW ad ca) 18 (ad 18, .inr (6, [.ref (ad 11), .int 5, .int 0, .int 1, .int 1, .int 1]))) [(q1, .inl (y1, 0, .inl (fun _ => 0)))]) 35 (ad 35, .inr (11, [.int 25, .int (-1), .ref (ad 36), .ref q1, .int 0, .int 0, .int 0]))) [((a_2 0), .inl ((y_2 0), 0, .inl (fun _ => 0)))]) 74 ((a_2 0), .inl ((y_2 0), 0, .inl (va_cpy (fun _ => 0) (fun _ => 0) 0 0 0))))) H := hP
  have hK : va_K (dC, dI) vwCl ((xT ca ++ [(y1, .int), ((y_2 0), .int)])) s := hK
  have hD : va_D A ((jS (jA (jS (jA (jS (xW ad ca) 18 (ad 18, .inr (6, [.ref (ad 11), .int 5, .int 0, .int 1, .int 1, .int 1]))) [(q1, .inl (y1, 0, .inl (fun _ => 0)))]) 35 (ad 35, .inr (11, [.int 25, .int (-1), .ref (ad 36), .ref q1, .int 0, .int 0, .int 0]))) [((a_2 0), .inl ((y_2 0), 0, .inl (fun _ => 0)))]) 74 ((a_2 0), .inl ((y_2 0), 0, .inl (va_cpy (fun _ => 0) (fun _ => 0) 0 0 0))))) := hD
  refine jt_q (Value.ref ((a_2 0))) rfl ?_
  refine va_put (D := (dC, dI)) (ci := 11) (v := .ref ((a_2 0))) (ty := .array .int) (C := RX11) (T := TX11) (N := 7) hx hb hts (jh hin_RX11) tyX11 tyX11_ok nmX11 hown hK hP hD hS 35 (jg_n (Nat.ne_of_beq_eq_false rfl) (jg_l (jg_s (n := 74) (jn_a (n := 73) (m := 1) (jn_s rfl) rfl) (Nat.le_of_ble_eq_true rfl)))) rfl 2 (by decide) (hts (.fieldLink RX12 263 "BookOfAll$Volume" "order" "[I") (jm m_406)) (fun _ h9 => h9) rfl (by decide +kernel) rfl rfl (Nat.le_of_ble_eq_true rfl) dX12_lay_26 (fun H locs hP hD hS => ?_)
  refine lv_aload_n hx hb dX12_lay_29 rfl (lv_at hl 1 rfl) ?_
  refine lv_aload_n hx hb dX12_lay_30 rfl (lv_at hl 0 rfl) ?_
  refine va_get (D := (dC, dI)) (ci := 12) (v := .int 0) (C := RX12) (T := TX12) (N := 20) hx hb hts (jh hin_RX12) hown hK hP 0 (jg_n (Nat.ne_of_beq_eq_false rfl) (jg_n (Nat.ne_of_beq_eq_false rfl) (jg_l (jg_n (Nat.ne_of_beq_eq_false rfl) (jg_l (jg_n (Nat.ne_of_beq_eq_false rfl) rfl)))))) rfl 0 (by decide) (hts (.fieldLink RX12 133 "BookOfAll" "now" "I") (jm m_217)) (fun _ h9 => h9) rfl dX12_lay_31 ?_
  refine va_put (D := (dC, dI)) (ci := 11) (v := .int 0) (ty := .int) (C := RX11) (T := TX11) (N := 7) hx hb hts (jh hin_RX11) tyX11 tyX11_ok nmX11 hown hK hP hD hS 35 (jg_s (n := 75) (jn_s (jn_a (n := 74) (m := 1) (jn_s (jn_a (n := 73) (m := 1) (jn_s rfl) rfl)) rfl)) (Nat.le_of_ble_eq_true rfl)) rfl 1 (by decide) (hts (.fieldLink RX12 170 "BookOfAll$Volume" "setDay" "I") (jm m_332)) (fun _ h9 => h9) rfl (by decide +kernel) rfl rfl (Nat.le_of_ble_eq_true rfl) dX12_lay_34 (fun H locs hP hD hS => ?_)
  refine lv_aload_n hx hb dX12_lay_37 rfl (lv_at hl 0 rfl) ?_
  refine lv_dup hx hb dX12_lay_38 rfl ?_
  refine va_get (D := (dC, dI)) (ci := 12) (v := .int 0) (C := RX12) (T := TX12) (N := 20) hx hb hts (jh hin_RX12) hown hK hP 0 (jg_n (Nat.ne_of_beq_eq_false rfl) (jg_n (Nat.ne_of_beq_eq_false rfl) (jg_n (Nat.ne_of_beq_eq_false rfl) (jg_l (jg_n (Nat.ne_of_beq_eq_false rfl) (jg_l (jg_n (Nat.ne_of_beq_eq_false rfl) rfl))))))) rfl 1 (by decide) (hts (.fieldLink RX12 158 "BookOfAll" "setBits" "I") (jm m_212)) (fun _ h9 => h9) rfl dX12_lay_39 ?_
  refine lv_iconst (v := 1) hx hb dX12_lay_42 (by decide) ?_
  refine lv_iload_n hx hb dX12_lay_43 rfl (lv_at hl 2 rfl) ?_
  refine lv_ishl hx hb dX12_lay_44 ?_
  refine jt_i 32 (by decide) ?_
  refine lv_ior hx hb dX12_lay_45 ?_
  refine jt_i 32 (by decide) ?_
  refine va_put (D := (dC, dI)) (ci := 12) (v := .int 32) (ty := .int) (C := RX12) (T := TX12) (N := 20) hx hb hts (jh hin_RX12) tyX12 tyX12_ok nmX12 hown hK hP hD hS 0 (jg_n (Nat.ne_of_beq_eq_false rfl) (jg_n (Nat.ne_of_beq_eq_false rfl) (jg_n (Nat.ne_of_beq_eq_false rfl) (jg_l (jg_n (Nat.ne_of_beq_eq_false rfl) (jg_l (jg_n (Nat.ne_of_beq_eq_false rfl) rfl))))))) rfl 1 (by decide) (hts (.fieldLink RX12 158 "BookOfAll" "setBits" "I") (jm m_212)) (fun _ h9 => h9) rfl (by decide +kernel) rfl rfl (Nat.le_of_ble_eq_true rfl) dX12_lay_46 (fun H locs hP hD hS => ?_)
  refine lv_iconst (v := 0) hx hb dX12_lay_49 (by decide) ?_
  refine lv_istore_n (lv' := [(3, .int 0), (0, .ref (ad 0)), (1, .ref (ad 35)), (2, .int 5)]) hx hb dX12_lay_50 rfl hl (by decide) rfl (fun ls hl => ?_)
  refine lv_iload_n hx hb dX12_lay_51 rfl (lv_at hl 0 rfl) ?_
  refine lv_aload_n hx hb dX12_lay_52 rfl (lv_at hl 1 rfl) ?_
  refine va_get (D := (dC, dI)) (ci := 12) (v := .int 0) (C := RX12) (T := TX12) (N := 20) hx hb hts (jh hin_RX12) hown hK hP 0 (jg_s (n := 75) (jn_s (jn_s (jn_s (jn_a (n := 74) (m := 1) (jn_s (jn_a (n := 73) (m := 1) (jn_s rfl) rfl)) rfl)))) (Nat.le_of_ble_eq_true rfl)) rfl 9 (by decide) (hts (.fieldLink RX12 268 "BookOfAll" "rowSize" "I") (jm m_333)) (fun _ h9 => h9) rfl dX12_lay_53 ?_
  refine lv_icmp_ge (tgt := 139) hx hb dX12_lay_56 (by decide) (fun _ => ?_) (fun z => absurd (by decide) z)
  refine W.widen (k := 2) (n := 0) (Nat.le_of_ble_eq_true rfl) (Nat.le_of_ble_eq_true rfl) ?_
  exact W.vret hx hb hr (fun t ht hW => ⟨⟨(0, fun k => [q1, (a_2 0)].getD k 0, fun k => [y1, (y_2 0)].getD k (dC 0)), rfl, rfl, by rw [ht]; exact hP, va_K.moved hW.alike hK, hD⟩, hS.F ht⟩) hS.2.2 dX12_lay_139
theorem s_tX12_set_v5_0  : 0 = sp_set 5 := by
  unfold sp_set
  rw [show (5 : Int32).toInt = 5 from rfl]
  split <;> first | rfl | (exfalso; omega)
set_option maxHeartbeats 1000000 in
set_option maxRecDepth 100000 in
theorem tX12_set_v5 (l : Launch) (dC : Nat → ClassId) (dI : Nat → Nat → Nat) (sz : Nat) (ad : Nat → Nat) (ca : Nat → ClassId) (tW : Nat) : Met l yX12_set (jk yX12_set cX12_set 3 (some .int)) ({ frames := 4, cells := 2, slots := 0, locals := 126 }) (va_Pc [.ref (ad 0), .int 5] (jw_PZ (dC, dI) (xW ad ca) (xT ca) sz tW)) (va_Qi (fun (r : Int32) (_ : Unit) => r = sp_set 5) (fun _ _ => True) (va_A (xW ad ca) sz)) 2 0 (va_A (xW ad ca) sz) := by
  refine Met.ofW (cc := cX12_set) (maxL := 3) (ret := (some .int)) (by decide) rfl ?_
  intro p e s m args below meth c s₁ B hml hv
  obtain ⟨rfl, ⟨hsz, hP, hK, hD0⟩, hZ, hT⟩ := hv
  have hx := B.exec
  have hb := B.bytes
  have hr := B.returns
  have hts := atoms_spec (ws := (jk yX12_set cX12_set 3 (some .int))) B.pre
  have hown : s.vm.findClass RX12 = some m.cls := findClass_of_methodNamed B.named
  have hlocks := B.notSynchronized
  subst hsz
  have hD := hD0.self (sz := s.heap.size)
  generalize hAe : (va_A (xW ad ca) s.heap.size) = A at hD hZ hT ⊢
  have hA : ∀ q : Nat, s.heap.size ≤ q → A q := fun q h => by rw [← hAe]; exact Or.inr h
  have hS : va_S A s.heap s.heap [] := va_S.rf
  have hP : va_P (dC, dI) vwCl (xW ad ca) s.heap := hP
  have hl := lv_entry ([.ref (ad 0), .int 5]) (n := 3) (Nat.le_of_ble_eq_true rfl)
  rw [lg_entry_eq]
  generalize (lg_sl ([.ref (ad 0), .int 5]) ++ List.replicate (3 - (lg_sl ([.ref (ad 0), .int 5])).length) Slot.unset).toArray = ls at hl ⊢
  have hl : lv_has ls 3 [(0, .ref (ad 0)), (1, .int 5)] := hl
  refine lv_aload_n hx hb dX12_set_0 rfl (lv_at hl 0 rfl) ?_
  refine lv_iload_n hx hb dX12_set_1 rfl (lv_at hl 1 rfl) ?_
  refine jc_q (va_runV (As := [.int 5]) (rest := []) ⟨hx, hb, hml, hown, hts⟩ (kX12_volumeAt_14 l dC dI _ ad ca) (cwV 1 hts (jgoodV m_232 m_233 m_234 m_210 m_235) rfl rfl rfl (by decide +kernel) ⟨Nat.le_of_ble_eq_true rfl, Nat.le_of_ble_eq_true rfl⟩) ⟨jw_blind, va_recv hK hP (ci := 12) (q0 := 0) rfl rfl, fun U hU hW => ⟨rfl, jw_of hU hW hP hK hD⟩⟩ rfl rfl hl.1 rfl (lv_room (Nat.le_of_ble_eq_true rfl)) dX12_set_2 ⟨Nat.le_of_ble_eq_true rfl, Nat.le_of_ble_eq_true rfl⟩) hP hS hA (fun r_1 H locs hw_1 hP hS => ?_)
  have hw_1 : some (ad 35) = r_1 := Eq.symm hw_1
  subst hw_1
  refine jt_q (Value.ref (ad 35)) rfl ?_
  refine lv_astore_n (lv' := [(2, .ref (ad 35)), (0, .ref (ad 0)), (1, .int 5)]) hx hb dX12_set_5 rfl hl (by decide) rfl (fun ls hl => ?_)
  refine lv_aload_n hx hb dX12_set_6 rfl (lv_at hl 0 rfl) ?_
  refine lv_ifnull hx hb dX12_set_7 ?_
  refine lv_aload_n hx hb dX12_set_10 rfl (lv_at hl 0 rfl) ?_
  refine va_get (D := (dC, dI)) (ci := 11) (v := .int (-1)) (C := RX11) (T := TX11) (N := 7) hx hb hts (jh hin_RX11) hown hK hP 35 rfl rfl 1 (by decide) (hts (.fieldLink RX12 170 "BookOfAll$Volume" "setDay" "I") (jm m_332)) (fun _ h9 => h9) rfl dX12_set_11 ?_
  refine lv_iconst (v := (-1)) hx hb dX12_set_14 (by decide) ?_
  refine lv_icmp_eq (tgt := 20) hx hb dX12_set_15 (by decide) (fun _ => ?_) (fun z => absurd (by decide) z)
  refine lv_aload_n hx hb dX12_set_20 rfl (lv_at hl 1 rfl) ?_
  refine lv_iload_n hx hb dX12_set_21 rfl (lv_at hl 2 rfl) ?_
  refine jcw_v (va_runV (As := [.int 5]) (rest := []) ⟨hx, hb, hml, hown, hts⟩ (kX12_arrange_12 l dC dI _ ad ca tW) (cwV 1 hts (jgoodV m_334 m_335 m_336 m_210 m_337) rfl rfl rfl (by decide +kernel) ⟨Nat.le_of_ble_eq_true rfl, Nat.le_of_ble_eq_true rfl⟩) ⟨jw_blindZ, va_recv hK hP (ci := 12) (q0 := 0) rfl rfl, fun U hU hW => ⟨rfl, jw_of hU hW hP hK hD, jz_of hU hW hD hS hA hZ hT⟩⟩ rfl rfl hl.1 rfl (lv_room (Nat.le_of_ble_eq_true rfl)) dX12_set_22 ⟨Nat.le_of_ble_eq_true rfl, Nat.le_of_ble_eq_true rfl⟩) hD hS hA (fun H locs hw_2 hP hK hD hS => ?_)
  refine lv_aload_n hx hb dX12_set_25 rfl (lv_at hl 1 rfl) ?_
  refine jc_i (va_runV (As := []) (rest := []) ⟨hx, hb, hml, hown, hts⟩ (kX12_rowMayBeSet_7 l dC dI _ ad ca) (cwV 0 hts (jgoodV m_394 m_395 m_396 m_210 m_397) rfl rfl rfl (by decide +kernel) ⟨Nat.le_of_ble_eq_true rfl, Nat.le_of_ble_eq_true rfl⟩) ⟨jw_blind, va_recv hK hP (ci := 12) (q0 := 0) rfl rfl, fun U hU hW => ⟨rfl, jw_of hU hW hP hK hD⟩⟩ rfl rfl hl.1 rfl (lv_room (Nat.le_of_ble_eq_true rfl)) dX12_set_26 ⟨Nat.le_of_ble_eq_true rfl, Nat.le_of_ble_eq_true rfl⟩) hP hS hA (fun r_3 H locs hw_3 hP hS => ?_)
  have hw_3 : 1 = r_3 := Eq.symm hw_3
  subst hw_3
  refine lv_if_ne (tgt := 34) hx hb dX12_set_29 (by decide) (fun _ => ?_) (fun z => absurd z (by decide))
  refine lv_aload_n hx hb dX12_set_34 rfl (lv_at hl 1 rfl) ?_
  refine lv_aload_n hx hb dX12_set_35 rfl (lv_at hl 0 rfl) ?_
  refine lv_iload_n hx hb dX12_set_36 rfl (lv_at hl 2 rfl) ?_
  refine jcg_v (va_runV (As := [.ref (ad 35), .int 5]) (rest := []) ⟨hx, hb, hml, hown, hts⟩ (kX12_lay_12 l dC dI _ ad ca) (cwV 2 hts (jgoodV m_407 m_408 m_409 m_210 m_410) rfl rfl rfl (by decide +kernel) ⟨Nat.le_of_ble_eq_true rfl, Nat.le_of_ble_eq_true rfl⟩) ⟨jw_blind, va_recv hK hP (ci := 12) (q0 := 0) rfl rfl, fun U hU hW => ⟨rfl, jw_of hU hW hP hK hD⟩⟩ rfl rfl hl.1 rfl (lv_room (Nat.le_of_ble_eq_true rfl)) dX12_set_37 ⟨Nat.le_of_ble_eq_true rfl, Nat.le_of_ble_eq_true rfl⟩) hD hS hA (fun u_4 H locs hw_4 hP hK hD hS => ?_)
  obtain ⟨w_4, a_4, y_4⟩ := u_4
  obtain rfl : w_4 = 0 := hw_4
  have hP : va_P (dC, dI) vwCl ((jS (jS (jS (jS (jA (jS (jA (jS (xW ad ca) 18 (ad 18, .inr (6, [.ref (ad 11), .int 5, .int 0, .int 1, .int 1, .int 1]))) [((a_4 0), .inl ((y_4 0), 0, .inl (fun _ => 0)))]) 35 (ad 35, .inr (11, [.int 25, .int (-1), .ref (ad 36), .ref (a_4 0), .int 0, .int 0, .int 0]))) [((a_4 1), .inl ((y_4 1), 0, .inl (fun _ => 0)))]) 74 ((a_4 1), .inl ((y_4 1), 0, .inl (va_cpy (fun _ => 0) (fun _ => 0) 0 0 0)))) 35 (ad 35, .inr (11, [.int 25, .int (-1), .ref ((a_4 1)), .ref (a_4 0), .int 0, .int 0, .int 0]))) 35 (ad 35, .inr (11, [.int 25, .int 0, .ref ((a_4 1)), .ref (a_4 0), .int 0, .int 0, .int 0]))) 0 (ad 0, .inr (12, [.int 0, .int 32, .ref (ad 1), .ref (ad 11), .ref (ad 18), .ref (ad 19), .ref (ad 38), .int 0, .ref (ad 39), .int 0, .ref (ad 40), .int 0, .ref (ad 41), .int 0, .ref (ad 42), .ref (ad 53), .ref (ad 54), .ref (ad 55), .ref (ad 61), .ref (ad 70)])))) H := hP
  have hK : va_K (dC, dI) vwCl ((xT ca ++ [((y_4 0), .int), ((y_4 1), .int)])) s := hK
  have hD : va_D A ((jS (jS (jS (jS (jA (jS (jA (jS (xW ad ca) 18 (ad 18, .inr (6, [.ref (ad 11), .int 5, .int 0, .int 1, .int 1, .int 1]))) [((a_4 0), .inl ((y_4 0), 0, .inl (fun _ => 0)))]) 35 (ad 35, .inr (11, [.int 25, .int (-1), .ref (ad 36), .ref (a_4 0), .int 0, .int 0, .int 0]))) [((a_4 1), .inl ((y_4 1), 0, .inl (fun _ => 0)))]) 74 ((a_4 1), .inl ((y_4 1), 0, .inl (va_cpy (fun _ => 0) (fun _ => 0) 0 0 0)))) 35 (ad 35, .inr (11, [.int 25, .int (-1), .ref ((a_4 1)), .ref (a_4 0), .int 0, .int 0, .int 0]))) 35 (ad 35, .inr (11, [.int 25, .int 0, .ref ((a_4 1)), .ref (a_4 0), .int 0, .int 0, .int 0]))) 0 (ad 0, .inr (12, [.int 0, .int 32, .ref (ad 1), .ref (ad 11), .ref (ad 18), .ref (ad 19), .ref (ad 38), .int 0, .ref (ad 39), .int 0, .ref (ad 40), .int 0, .ref (ad 41), .int 0, .ref (ad 42), .ref (ad 53), .ref (ad 54), .ref (ad 55), .ref (ad 61), .ref (ad 70)])))) := hD
  refine lv_aload_n hx hb dX12_set_40 rfl (lv_at hl 0 rfl) ?_
  refine va_get (D := (dC, dI)) (ci := 11) (v := .int 0) (C := RX11) (T := TX11) (N := 7) hx hb hts (jh hin_RX11) hown hK hP 35 (jg_n (Nat.ne_of_beq_eq_false rfl) (jg_s (n := 75) (jn_s (jn_s (jn_a (n := 74) (m := 1) (jn_s (jn_a (n := 73) (m := 1) (jn_s rfl) rfl)) rfl))) (Nat.le_of_ble_eq_true rfl))) rfl 5 (by decide) (hts (.fieldLink RX12 450 "BookOfAll$Volume" "lines" "I") (jm m_411)) (fun _ h9 => h9) rfl dX12_set_41 ?_
  refine lv_bipush (v := 40) hx hb dX12_set_44 (by decide) ?_
  refine lv_iadd hx hb dX12_set_46 ?_
  refine jt_i 40 (by decide) ?_
  refine lv_iconst (v := 1) hx hb dX12_set_47 (by decide) ?_
  refine lv_isub hx hb dX12_set_48 ?_
  refine jt_i 39 (by decide) ?_
  refine lv_bipush (v := 40) hx hb dX12_set_49 (by decide) ?_
  refine lv_idiv hx hb dX12_set_51 (by decide) ?_
  refine jt_i 0 (by decide) ?_
  refine W.widen (k := 2) (n := 0) (Nat.le_of_ble_eq_true rfl) (Nat.le_of_ble_eq_true rfl) ?_
  exact W.iret (v := 0) hx hb hr (fun t ht hW => ⟨⟨0, (), rfl, s_tX12_set_v5_0, trivial⟩, hS.F ht⟩) hS.2.2 dX12_set_52
theorem s_tX12_set_lo_0 {p1 : Int32} (fh_p1 : p1 ≤ (-1)) : (-1) = sp_set p1 := by
  unfold sp_set
  have g0 : p1.toInt ≤ (-1) := ji_le.mp fh_p1
  split <;> first | rfl | (exfalso; omega)
set_option maxHeartbeats 500000 in
set_option maxRecDepth 100000 in
theorem tX12_set_lo (l : Launch) (dC : Nat → ClassId) (dI : Nat → Nat → Nat) (sz : Nat) (ad : Nat → Nat) (ca : Nat → ClassId) (p1 : Int32) (fh_p1 : p1 ≤ (-1)) : Met l yX12_set (jk yX12_set cX12_set 3 (some .int)) ({ frames := 2, cells := 0, slots := 0, locals := 42 }) (va_Pc [.ref (ad 0), .int p1] (jw_P (dC, dI) (xW ad ca) (xT ca) sz)) (va_Qi (fun (r : Int32) (_ : Unit) => r = sp_set p1) (fun _ _ => True) (va_A [] sz)) 0 0 (va_A [] sz) := by
  refine Met.ofW (cc := cX12_set) (maxL := 3) (ret := (some .int)) (by decide) rfl ?_
  intro p e s m args below meth c s₁ B hml hv
  obtain ⟨rfl, hsz, hP, hK, hD0⟩ := hv
  have hx := B.exec
  have hb := B.bytes
  have hr := B.returns
  have hts := atoms_spec (ws := (jk yX12_set cX12_set 3 (some .int))) B.pre
  have hown : s.vm.findClass RX12 = some m.cls := findClass_of_methodNamed B.named
  have hlocks := B.notSynchronized
  subst hsz
  have hD := hD0
  generalize hAe : (va_A [] s.heap.size) = A
  have hA : ∀ q : Nat, s.heap.size ≤ q → A q := fun q h => by rw [← hAe]; exact Or.inr h
  have hS : va_S A s.heap s.heap [] := va_S.rf
  have hP : va_P (dC, dI) vwCl (xW ad ca) s.heap := hP
  have hl := lv_entry ([.ref (ad 0), .int p1]) (n := 3) (Nat.le_of_ble_eq_true rfl)
  rw [lg_entry_eq]
  generalize (lg_sl ([.ref (ad 0), .int p1]) ++ List.replicate (3 - (lg_sl ([.ref (ad 0), .int p1])).length) Slot.unset).toArray = ls at hl ⊢
  have hl : lv_has ls 3 [(0, .ref (ad 0)), (1, .int p1)] := hl
  refine lv_aload_n hx hb dX12_set_0 rfl (lv_at hl 0 rfl) ?_
  refine lv_iload_n hx hb dX12_set_1 rfl (lv_at hl 1 rfl) ?_
  refine jc_q (va_runV (As := [.int p1]) (rest := []) ⟨hx, hb, hml, hown, hts⟩ (kX12_volumeAt_23 l dC dI _ ad ca p1 fh_p1) (cwV 1 hts (jgoodV m_232 m_233 m_234 m_210 m_235) rfl rfl rfl (by decide +kernel) ⟨Nat.le_of_ble_eq_true rfl, Nat.le_of_ble_eq_true rfl⟩) ⟨jw_blind, va_recv hK hP (ci := 12) (q0 := 0) rfl rfl, fun U hU hW => ⟨rfl, jw_of hU hW hP hK hD⟩⟩ rfl rfl hl.1 rfl (lv_room (Nat.le_of_ble_eq_true rfl)) dX12_set_2 ⟨Nat.le_of_ble_eq_true rfl, Nat.le_of_ble_eq_true rfl⟩) hP hS hA (fun r_1 H locs hw_1 hP hS => ?_)
  have hw_1 : none = r_1 := Eq.symm hw_1
  subst hw_1
  refine jt_q Value.null rfl ?_
  refine lv_astore_nN (lv' := [(2, .null), (0, .ref (ad 0)), (1, .int p1)]) hx hb dX12_set_5 rfl hl (by decide) rfl (fun ls hl => ?_)
  refine lv_aload_nN hx hb dX12_set_6 rfl (lv_at hl 0 rfl) ?_
  refine lv_ifnullN (tgt := 18) hx hb dX12_set_7 (by decide) ?_
  refine lv_iconst (v := (-1)) hx hb dX12_set_18 (by decide) ?_
  exact W.iret (v := (-1)) hx hb hr (fun t ht hW => ⟨⟨(-1), (), rfl, (s_tX12_set_lo_0 (p1 := p1) fh_p1), trivial⟩, hS.F ht⟩) hS.2.2 dX12_set_19
theorem s_tX12_set_hi_0 {p1 : Int32} (fl_p1 : 6 ≤ p1) : (-1) = sp_set p1 := by
  unfold sp_set
  have g0 : 6 ≤ p1.toInt := ji_le.mp fl_p1
  split <;> first | rfl | (exfalso; omega)
set_option maxHeartbeats 500000 in
set_option maxRecDepth 100000 in
theorem tX12_set_hi (l : Launch) (dC : Nat → ClassId) (dI : Nat → Nat → Nat) (sz : Nat) (ad : Nat → Nat) (ca : Nat → ClassId) (p1 : Int32) (fl_p1 : 6 ≤ p1) : Met l yX12_set (jk yX12_set cX12_set 3 (some .int)) ({ frames := 2, cells := 0, slots := 0, locals := 42 }) (va_Pc [.ref (ad 0), .int p1] (jw_P (dC, dI) (xW ad ca) (xT ca) sz)) (va_Qi (fun (r : Int32) (_ : Unit) => r = sp_set p1) (fun _ _ => True) (va_A [] sz)) 0 0 (va_A [] sz) := by
  refine Met.ofW (cc := cX12_set) (maxL := 3) (ret := (some .int)) (by decide) rfl ?_
  intro p e s m args below meth c s₁ B hml hv
  obtain ⟨rfl, hsz, hP, hK, hD0⟩ := hv
  have hx := B.exec
  have hb := B.bytes
  have hr := B.returns
  have hts := atoms_spec (ws := (jk yX12_set cX12_set 3 (some .int))) B.pre
  have hown : s.vm.findClass RX12 = some m.cls := findClass_of_methodNamed B.named
  have hlocks := B.notSynchronized
  subst hsz
  have hD := hD0
  generalize hAe : (va_A [] s.heap.size) = A
  have hA : ∀ q : Nat, s.heap.size ≤ q → A q := fun q h => by rw [← hAe]; exact Or.inr h
  have hS : va_S A s.heap s.heap [] := va_S.rf
  have hP : va_P (dC, dI) vwCl (xW ad ca) s.heap := hP
  have hl := lv_entry ([.ref (ad 0), .int p1]) (n := 3) (Nat.le_of_ble_eq_true rfl)
  rw [lg_entry_eq]
  generalize (lg_sl ([.ref (ad 0), .int p1]) ++ List.replicate (3 - (lg_sl ([.ref (ad 0), .int p1])).length) Slot.unset).toArray = ls at hl ⊢
  have hl : lv_has ls 3 [(0, .ref (ad 0)), (1, .int p1)] := hl
  refine lv_aload_n hx hb dX12_set_0 rfl (lv_at hl 0 rfl) ?_
  refine lv_iload_n hx hb dX12_set_1 rfl (lv_at hl 1 rfl) ?_
  refine jc_q (va_runV (As := [.int p1]) (rest := []) ⟨hx, hb, hml, hown, hts⟩ (kX12_volumeAt_25 l dC dI _ ad ca p1 fl_p1) (cwV 1 hts (jgoodV m_232 m_233 m_234 m_210 m_235) rfl rfl rfl (by decide +kernel) ⟨Nat.le_of_ble_eq_true rfl, Nat.le_of_ble_eq_true rfl⟩) ⟨jw_blind, va_recv hK hP (ci := 12) (q0 := 0) rfl rfl, fun U hU hW => ⟨rfl, jw_of hU hW hP hK hD⟩⟩ rfl rfl hl.1 rfl (lv_room (Nat.le_of_ble_eq_true rfl)) dX12_set_2 ⟨Nat.le_of_ble_eq_true rfl, Nat.le_of_ble_eq_true rfl⟩) hP hS hA (fun r_1 H locs hw_1 hP hS => ?_)
  have hw_1 : none = r_1 := Eq.symm hw_1
  subst hw_1
  refine jt_q Value.null rfl ?_
  refine lv_astore_nN (lv' := [(2, .null), (0, .ref (ad 0)), (1, .int p1)]) hx hb dX12_set_5 rfl hl (by decide) rfl (fun ls hl => ?_)
  refine lv_aload_nN hx hb dX12_set_6 rfl (lv_at hl 0 rfl) ?_
  refine lv_ifnullN (tgt := 18) hx hb dX12_set_7 (by decide) ?_
  refine lv_iconst (v := (-1)) hx hb dX12_set_18 (by decide) ?_
  exact W.iret (v := (-1)) hx hb hr (fun t ht hW => ⟨⟨(-1), (), rfl, (s_tX12_set_hi_0 (p1 := p1) fl_p1), trivial⟩, hS.F ht⟩) hS.2.2 dX12_set_19
set_option maxHeartbeats 500000 in
set_option maxRecDepth 100000 in
theorem tX12_page (l : Launch) (dC : Nat → ClassId) (dI : Nat → Nat → Nat) (sz : Nat) (ad : Nat → Nat) (ca : Nat → ClassId) (p1 : Int32) : Met l yX12_page (jk yX12_page cX12_page 3 (some .int)) ({ frames := 1, cells := 0, slots := 0, locals := 21 }) (va_Pc [.ref (ad 0), .int p1] (jw_P (dC, dI) (xW ad ca) (xT ca) sz)) (va_Qi (fun (r : Int32) (_ : Unit) => (r = (-1))) (fun _ _ => True) (va_A [] sz)) 0 0 (va_A [] sz) := by
  refine Met.ofW (cc := cX12_page) (maxL := 3) (ret := (some .int)) (by decide) rfl ?_
  intro p e s m args below meth c s₁ B hml hv
  obtain ⟨rfl, hsz, hP, hK, hD0⟩ := hv
  have hx := B.exec
  have hb := B.bytes
  have hr := B.returns
  have hts := atoms_spec (ws := (jk yX12_page cX12_page 3 (some .int))) B.pre
  have hown : s.vm.findClass RX12 = some m.cls := findClass_of_methodNamed B.named
  have hlocks := B.notSynchronized
  subst hsz
  have hD := hD0
  generalize hAe : (va_A [] s.heap.size) = A
  have hA : ∀ q : Nat, s.heap.size ≤ q → A q := fun q h => by rw [← hAe]; exact Or.inr h
  have hS : va_S A s.heap s.heap [] := va_S.rf
  have hP : va_P (dC, dI) vwCl (xW ad ca) s.heap := hP
  have hl := lv_entry ([.ref (ad 0), .int p1]) (n := 3) (Nat.le_of_ble_eq_true rfl)
  rw [lg_entry_eq]
  generalize (lg_sl ([.ref (ad 0), .int p1]) ++ List.replicate (3 - (lg_sl ([.ref (ad 0), .int p1])).length) Slot.unset).toArray = ls at hl ⊢
  have hl : lv_has ls 3 [(0, .ref (ad 0)), (1, .int p1)] := hl
  refine lv_aload_n hx hb dX12_page_0 rfl (lv_at hl 0 rfl) ?_
  refine lv_iload_n hx hb dX12_page_1 rfl (lv_at hl 1 rfl) ?_
  refine jc_q (va_runV (As := [.int p1]) (rest := []) ⟨hx, hb, hml, hown, hts⟩ (kX12_entryAt_2 l dC dI _ ad ca p1) (cwV 1 hts (jgoodV m_316 m_317 m_318 m_210 m_319) rfl rfl rfl (by decide +kernel) ⟨Nat.le_of_ble_eq_true rfl, Nat.le_of_ble_eq_true rfl⟩) ⟨jw_blind, va_recv hK hP (ci := 12) (q0 := 0) rfl rfl, fun U hU hW => ⟨rfl, jw_of hU hW hP hK hD⟩⟩ rfl rfl hl.1 rfl (lv_room (Nat.le_of_ble_eq_true rfl)) dX12_page_2 ⟨Nat.le_of_ble_eq_true rfl, Nat.le_of_ble_eq_true rfl⟩) hP hS hA (fun r_1 H locs hw_1 hP hS => ?_)
  have hw_1 : none = r_1 := Eq.symm hw_1
  subst hw_1
  refine jt_q Value.null rfl ?_
  refine lv_astore_nN (lv' := [(2, .null), (0, .ref (ad 0)), (1, .int p1)]) hx hb dX12_page_5 rfl hl (by decide) rfl (fun ls hl => ?_)
  refine lv_aload_nN hx hb dX12_page_6 rfl (lv_at hl 0 rfl) ?_
  refine lv_ifnonnullN hx hb dX12_page_7 ?_
  refine lv_iconst (v := (-1)) hx hb dX12_page_10 (by decide) ?_
  refine lv_goto (tgt := 22) hx hb dX12_page_11 (by decide) ?_
  exact W.iret (v := (-1)) hx hb hr (fun t ht hW => ⟨⟨(-1), (), rfl, rfl, trivial⟩, hS.F ht⟩) hS.2.2 dX12_page_22
set_option maxHeartbeats 500000 in
set_option maxRecDepth 100000 in
theorem tX12_promise (l : Launch) (dC : Nat → ClassId) (dI : Nat → Nat → Nat) (sz : Nat) (ad : Nat → Nat) (ca : Nat → ClassId) (p1 : Int32) : Met l yX12_promise (jk yX12_promise cX12_promise 4 (some .int)) ({ frames := 2, cells := 0, slots := 0, locals := 44 }) (va_Pc [.ref (ad 0), .int p1] (jw_P (dC, dI) (xW ad ca) (xT ca) sz)) (va_Qi (fun (r : Int32) (_ : Unit) => (r = (-1))) (fun _ _ => True) (va_A [] sz)) 0 0 (va_A [] sz) := by
  refine Met.ofW (cc := cX12_promise) (maxL := 4) (ret := (some .int)) (by decide) rfl ?_
  intro p e s m args below meth c s₁ B hml hv
  obtain ⟨rfl, hsz, hP, hK, hD0⟩ := hv
  have hx := B.exec
  have hb := B.bytes
  have hr := B.returns
  have hts := atoms_spec (ws := (jk yX12_promise cX12_promise 4 (some .int))) B.pre
  have hown : s.vm.findClass RX12 = some m.cls := findClass_of_methodNamed B.named
  have hlocks := B.notSynchronized
  subst hsz
  have hD := hD0
  generalize hAe : (va_A [] s.heap.size) = A
  have hA : ∀ q : Nat, s.heap.size ≤ q → A q := fun q h => by rw [← hAe]; exact Or.inr h
  have hS : va_S A s.heap s.heap [] := va_S.rf
  have hP : va_P (dC, dI) vwCl (xW ad ca) s.heap := hP
  have hl := lv_entry ([.ref (ad 0), .int p1]) (n := 4) (Nat.le_of_ble_eq_true rfl)
  rw [lg_entry_eq]
  generalize (lg_sl ([.ref (ad 0), .int p1]) ++ List.replicate (4 - (lg_sl ([.ref (ad 0), .int p1])).length) Slot.unset).toArray = ls at hl ⊢
  have hl : lv_has ls 4 [(0, .ref (ad 0)), (1, .int p1)] := hl
  refine lv_aload_n hx hb dX12_promise_0 rfl (lv_at hl 0 rfl) ?_
  refine lv_iload_n hx hb dX12_promise_1 rfl (lv_at hl 1 rfl) ?_
  refine lv_iconst (v := 1) hx hb dX12_promise_2 (by decide) ?_
  refine jc_q (va_runV (As := [.int p1, .int 1]) (rest := []) ⟨hx, hb, hml, hown, hts⟩ (kX12_entryOfKind_2 l dC dI _ ad ca p1) (cwV 2 hts (jgoodV m_324 m_325 m_326 m_210 m_327) rfl rfl rfl (by decide +kernel) ⟨Nat.le_of_ble_eq_true rfl, Nat.le_of_ble_eq_true rfl⟩) ⟨jw_blind, va_recv hK hP (ci := 12) (q0 := 0) rfl rfl, fun U hU hW => ⟨rfl, jw_of hU hW hP hK hD⟩⟩ rfl rfl hl.1 rfl (lv_room (Nat.le_of_ble_eq_true rfl)) dX12_promise_3 ⟨Nat.le_of_ble_eq_true rfl, Nat.le_of_ble_eq_true rfl⟩) hP hS hA (fun r_1 H locs hw_1 hP hS => ?_)
  have hw_1 : none = r_1 := Eq.symm hw_1
  subst hw_1
  refine jt_q Value.null rfl ?_
  refine lv_astore_nN (lv' := [(2, .null), (0, .ref (ad 0)), (1, .int p1)]) hx hb dX12_promise_6 rfl hl (by decide) rfl (fun ls hl => ?_)
  refine lv_aload_nN hx hb dX12_promise_7 rfl (lv_at hl 0 rfl) ?_
  refine lv_ifnullN (tgt := 19) hx hb dX12_promise_8 (by decide) ?_
  refine lv_iconst (v := (-1)) hx hb dX12_promise_19 (by decide) ?_
  exact W.iret (v := (-1)) hx hb hr (fun t ht hW => ⟨⟨(-1), (), rfl, rfl, trivial⟩, hS.F ht⟩) hS.2.2 dX12_promise_20
set_option maxHeartbeats 500000 in
set_option maxRecDepth 100000 in
theorem tX12_ends (l : Launch) (dC : Nat → ClassId) (dI : Nat → Nat → Nat) (sz : Nat) (ad : Nat → Nat) (ca : Nat → ClassId) (p1 : Int32) : Met l yX12_ends (jk yX12_ends cX12_ends 4 (some .int)) ({ frames := 2, cells := 0, slots := 0, locals := 44 }) (va_Pc [.ref (ad 0), .int p1] (jw_P (dC, dI) (xW ad ca) (xT ca) sz)) (va_Qi (fun (r : Int32) (_ : Unit) => (r = (-1))) (fun _ _ => True) (va_A [] sz)) 0 0 (va_A [] sz) := by
  refine Met.ofW (cc := cX12_ends) (maxL := 4) (ret := (some .int)) (by decide) rfl ?_
  intro p e s m args below meth c s₁ B hml hv
  obtain ⟨rfl, hsz, hP, hK, hD0⟩ := hv
  have hx := B.exec
  have hb := B.bytes
  have hr := B.returns
  have hts := atoms_spec (ws := (jk yX12_ends cX12_ends 4 (some .int))) B.pre
  have hown : s.vm.findClass RX12 = some m.cls := findClass_of_methodNamed B.named
  have hlocks := B.notSynchronized
  subst hsz
  have hD := hD0
  generalize hAe : (va_A [] s.heap.size) = A
  have hA : ∀ q : Nat, s.heap.size ≤ q → A q := fun q h => by rw [← hAe]; exact Or.inr h
  have hS : va_S A s.heap s.heap [] := va_S.rf
  have hP : va_P (dC, dI) vwCl (xW ad ca) s.heap := hP
  have hl := lv_entry ([.ref (ad 0), .int p1]) (n := 4) (Nat.le_of_ble_eq_true rfl)
  rw [lg_entry_eq]
  generalize (lg_sl ([.ref (ad 0), .int p1]) ++ List.replicate (4 - (lg_sl ([.ref (ad 0), .int p1])).length) Slot.unset).toArray = ls at hl ⊢
  have hl : lv_has ls 4 [(0, .ref (ad 0)), (1, .int p1)] := hl
  refine lv_aload_n hx hb dX12_ends_0 rfl (lv_at hl 0 rfl) ?_
  refine lv_iload_n hx hb dX12_ends_1 rfl (lv_at hl 1 rfl) ?_
  refine lv_iconst (v := 1) hx hb dX12_ends_2 (by decide) ?_
  refine jc_q (va_runV (As := [.int p1, .int 1]) (rest := []) ⟨hx, hb, hml, hown, hts⟩ (kX12_entryOfKind_2 l dC dI _ ad ca p1) (cwV 2 hts (jgoodV m_324 m_325 m_326 m_210 m_327) rfl rfl rfl (by decide +kernel) ⟨Nat.le_of_ble_eq_true rfl, Nat.le_of_ble_eq_true rfl⟩) ⟨jw_blind, va_recv hK hP (ci := 12) (q0 := 0) rfl rfl, fun U hU hW => ⟨rfl, jw_of hU hW hP hK hD⟩⟩ rfl rfl hl.1 rfl (lv_room (Nat.le_of_ble_eq_true rfl)) dX12_ends_3 ⟨Nat.le_of_ble_eq_true rfl, Nat.le_of_ble_eq_true rfl⟩) hP hS hA (fun r_1 H locs hw_1 hP hS => ?_)
  have hw_1 : none = r_1 := Eq.symm hw_1
  subst hw_1
  refine jt_q Value.null rfl ?_
  refine lv_astore_nN (lv' := [(2, .null), (0, .ref (ad 0)), (1, .int p1)]) hx hb dX12_ends_6 rfl hl (by decide) rfl (fun ls hl => ?_)
  refine lv_aload_nN hx hb dX12_ends_7 rfl (lv_at hl 0 rfl) ?_
  refine lv_ifnonnullN hx hb dX12_ends_8 ?_
  refine lv_null hx hb dX12_ends_11 ?_
  refine lv_goto (tgt := 20) hx hb dX12_ends_12 (by decide) ?_
  refine lv_astore_nN (lv' := [(3, .null), (2, .null), (0, .ref (ad 0)), (1, .int p1)]) hx hb dX12_ends_20 rfl hl (by decide) rfl (fun ls hl => ?_)
  refine lv_aload_nN hx hb dX12_ends_21 rfl (lv_at hl 0 rfl) ?_
  refine lv_ifnonnullN hx hb dX12_ends_22 ?_
  refine lv_iconst (v := (-1)) hx hb dX12_ends_25 (by decide) ?_
  refine lv_goto (tgt := 33) hx hb dX12_ends_26 (by decide) ?_
  exact W.iret (v := (-1)) hx hb hr (fun t ht hW => ⟨⟨(-1), (), rfl, rfl, trivial⟩, hS.F ht⟩) hS.2.2 dX12_ends_33
set_option maxHeartbeats 500000 in
set_option maxRecDepth 100000 in
theorem tX12_promised (l : Launch) (dC : Nat → ClassId) (dI : Nat → Nat → Nat) (sz : Nat) (ad : Nat → Nat) (ca : Nat → ClassId) (p1 : Int32) : Met l yX12_promised (jk yX12_promised cX12_promised 6 (some .int)) ({ frames := 1, cells := 0, slots := 0, locals := 21 }) (va_Pc [.ref (ad 0), .int p1] (jw_P (dC, dI) (xW ad ca) (xT ca) sz)) (va_Qi (fun (r : Int32) (_ : Unit) => (r = (-1))) (fun _ _ => True) (va_A [] sz)) 0 0 (va_A [] sz) := by
  refine Met.ofW (cc := cX12_promised) (maxL := 6) (ret := (some .int)) (by decide) rfl ?_
  intro p e s m args below meth c s₁ B hml hv
  obtain ⟨rfl, hsz, hP, hK, hD0⟩ := hv
  have hx := B.exec
  have hb := B.bytes
  have hr := B.returns
  have hts := atoms_spec (ws := (jk yX12_promised cX12_promised 6 (some .int))) B.pre
  have hown : s.vm.findClass RX12 = some m.cls := findClass_of_methodNamed B.named
  have hlocks := B.notSynchronized
  subst hsz
  have hD := hD0
  generalize hAe : (va_A [] s.heap.size) = A
  have hA : ∀ q : Nat, s.heap.size ≤ q → A q := fun q h => by rw [← hAe]; exact Or.inr h
  have hS : va_S A s.heap s.heap [] := va_S.rf
  have hP : va_P (dC, dI) vwCl (xW ad ca) s.heap := hP
  have hl := lv_entry ([.ref (ad 0), .int p1]) (n := 6) (Nat.le_of_ble_eq_true rfl)
  rw [lg_entry_eq]
  generalize (lg_sl ([.ref (ad 0), .int p1]) ++ List.replicate (6 - (lg_sl ([.ref (ad 0), .int p1])).length) Slot.unset).toArray = ls at hl ⊢
  have hl : lv_has ls 6 [(0, .ref (ad 0)), (1, .int p1)] := hl
  refine lv_aload_n hx hb dX12_promised_0 rfl (lv_at hl 0 rfl) ?_
  refine lv_iload_n hx hb dX12_promised_1 rfl (lv_at hl 1 rfl) ?_
  refine jc_q (va_runV (As := [.int p1]) (rest := []) ⟨hx, hb, hml, hown, hts⟩ (kX12_handAt_2 l dC dI _ ad ca p1) (cwV 1 hts (jgoodV m_352 m_353 m_354 m_210 m_355) rfl rfl rfl (by decide +kernel) ⟨Nat.le_of_ble_eq_true rfl, Nat.le_of_ble_eq_true rfl⟩) ⟨jw_blind, va_recv hK hP (ci := 12) (q0 := 0) rfl rfl, fun U hU hW => ⟨rfl, jw_of hU hW hP hK hD⟩⟩ rfl rfl hl.1 rfl (lv_room (Nat.le_of_ble_eq_true rfl)) dX12_promised_2 ⟨Nat.le_of_ble_eq_true rfl, Nat.le_of_ble_eq_true rfl⟩) hP hS hA (fun r_1 H locs hw_1 hP hS => ?_)
  have hw_1 : none = r_1 := Eq.symm hw_1
  subst hw_1
  refine jt_q Value.null rfl ?_
  refine lv_ifnonnullN hx hb dX12_promised_5 ?_
  refine lv_iconst (v := (-1)) hx hb dX12_promised_8 (by decide) ?_
  exact W.iret (v := (-1)) hx hb hr (fun t ht hW => ⟨⟨(-1), (), rfl, rfl, trivial⟩, hS.F ht⟩) hS.2.2 dX12_promised_9
set_option maxHeartbeats 500000 in
set_option maxRecDepth 100000 in
theorem kX12_isSubscriber_1 (l : Launch) (dC : Nat → ClassId) (dI : Nat → Nat → Nat) (sz : Nat) (h0 : Nat) (p1 : Int32) : Met l yX12_isSubscriber (jk yX12_isSubscriber cX12_isSubscriber 2 (some .boolean)) ({ frames := 0, cells := 0, slots := 0, locals := 0 }) (va_Pc [.ref h0, .int p1] (fun U => U.heap.size = sz)) (va_Qi (fun (r : Int32) (_ : Unit) => (p1 < 0 ∧ r = 0) ∨ (¬ (p1 < 0) ∧ 10 ≤ p1 ∧ r = 0) ∨ (¬ (p1 < 0) ∧ ¬ (10 ≤ p1) ∧ r = 1)) (fun _ _ => True) (va_A [] sz)) 0 0 (va_A [] sz) := by
  refine Met.ofW (cc := cX12_isSubscriber) (maxL := 2) (ret := (some .boolean)) (by decide) rfl ?_
  intro p e s m args below meth c s₁ B hml hv
  obtain ⟨rfl, hsz⟩ := hv
  have hx := B.exec
  have hb := B.bytes
  have hr := B.returns
  have hts := atoms_spec (ws := (jk yX12_isSubscriber cX12_isSubscriber 2 (some .boolean))) B.pre
  have hown : s.vm.findClass RX12 = some m.cls := findClass_of_methodNamed B.named
  have hlocks := B.notSynchronized
  subst hsz
  have hP : va_P (dC, dI) vwCl [] s.heap := fun k q h => by simp at h
  generalize hAe : (va_A [] s.heap.size) = A
  have hA : ∀ q : Nat, s.heap.size ≤ q → A q := fun q h => by rw [← hAe]; exact Or.inr h
  have hS : va_S A s.heap s.heap [] := va_S.rf
  have hl := lv_entry ([.ref h0, .int p1]) (n := 2) (Nat.le_of_ble_eq_true rfl)
  rw [lg_entry_eq]
  generalize (lg_sl ([.ref h0, .int p1]) ++ List.replicate (2 - (lg_sl ([.ref h0, .int p1])).length) Slot.unset).toArray = ls at hl ⊢
  have hl : lv_has ls 2 [(0, .ref h0), (1, .int p1)] := hl
  refine lv_iload_n hx hb dX12_isSubscriber_0 rfl (lv_at hl 1 rfl) ?_
  refine lv_if_lt (tgt := 14) hx hb dX12_isSubscriber_1 (by decide) (fun c_1 => ?_) (fun c_1 => ?_)
  · refine lv_iconst (v := 0) hx hb dX12_isSubscriber_14 (by decide) ?_
    exact W.zret (v := 0) (ty := .boolean) hx hb hr rfl (fun t ht hW => ⟨⟨0, (), rfl, (Or.inl ⟨c_1, rfl⟩), trivial⟩, hS.F ht⟩) hS.2.2 dX12_isSubscriber_15
  · refine lv_iload_n hx hb dX12_isSubscriber_4 rfl (lv_at hl 1 rfl) ?_
    refine lv_bipush (v := 10) hx hb dX12_isSubscriber_5 (by decide) ?_
    refine lv_icmp_ge (tgt := 14) hx hb dX12_isSubscriber_7 (by decide) (fun c_2 => ?_) (fun c_2 => ?_)
    · refine lv_iconst (v := 0) hx hb dX12_isSubscriber_14 (by decide) ?_
      exact W.zret (v := 0) (ty := .boolean) hx hb hr rfl (fun t ht hW => ⟨⟨0, (), rfl, (Or.inr (Or.inl ⟨c_1, c_2, rfl⟩)), trivial⟩, hS.F ht⟩) hS.2.2 dX12_isSubscriber_15
    · refine lv_iconst (v := 1) hx hb dX12_isSubscriber_10 (by decide) ?_
      refine lv_goto (tgt := 15) hx hb dX12_isSubscriber_11 (by decide) ?_
      exact W.zret (v := 1) (ty := .boolean) hx hb hr rfl (fun t ht hW => ⟨⟨1, (), rfl, (Or.inr (Or.inr ⟨c_1, c_2, rfl⟩)), trivial⟩, hS.F ht⟩) hS.2.2 dX12_isSubscriber_15
theorem s_tX12_subscribe_0 {p1 p2 p3 : Int32} (c_2 : p1 < 0) : 0 = sp_subscribe p1 p2 p3 := by
  unfold sp_subscribe
  have g0 : p1.toInt < 0 := ji_lt.mp c_2
  split <;> first | rfl | (exfalso; omega)
theorem s_tX12_subscribe_1 {p1 p2 p3 : Int32} (c_3 : ¬ (p1 < 0)) (c_4 : 10 ≤ p1) : 0 = sp_subscribe p1 p2 p3 := by
  unfold sp_subscribe
  have g0 : ¬ (p1.toInt < 0) := fun z => c_3 (ji_lt.mpr z)
  have g1 : 10 ≤ p1.toInt := ji_le.mp c_4
  split <;> first | rfl | (exfalso; omega)
theorem s_tX12_subscribe_2 {p1 p2 p3 : Int32} (c_5 : ¬ (p1 < 0)) (c_6 : ¬ (10 ≤ p1)) (c_8 : p2 < 0) : 0 = sp_subscribe p1 p2 p3 := by
  unfold sp_subscribe
  have g0 : ¬ (p1.toInt < 0) := fun z => c_5 (ji_lt.mpr z)
  have g1 : ¬ (10 ≤ p1.toInt) := fun z => c_6 (ji_le.mpr z)
  have g2 : p2.toInt < 0 := ji_lt.mp c_8
  split <;> first | rfl | (exfalso; omega)
theorem s_tX12_subscribe_3 {p1 p2 p3 : Int32} (c_5 : ¬ (p1 < 0)) (c_6 : ¬ (10 ≤ p1)) (c_9 : ¬ (p2 < 0)) (c_10 : 6 ≤ p2) : 0 = sp_subscribe p1 p2 p3 := by
  unfold sp_subscribe
  have g0 : ¬ (p1.toInt < 0) := fun z => c_5 (ji_lt.mpr z)
  have g1 : ¬ (10 ≤ p1.toInt) := fun z => c_6 (ji_le.mpr z)
  have g2 : ¬ (p2.toInt < 0) := fun z => c_9 (ji_lt.mpr z)
  have g3 : 6 ≤ p2.toInt := ji_le.mp c_10
  split <;> first | rfl | (exfalso; omega)
theorem s_tX12_subscribe_4 {p1 p2 p3 : Int32} (c_5 : ¬ (p1 < 0)) (c_6 : ¬ (10 ≤ p1)) (c_11 : ¬ (p2 < 0)) (c_12 : ¬ (6 ≤ p2)) (c_13 : p3 < 1) : 0 = sp_subscribe p1 p2 p3 := by
  unfold sp_subscribe
  have g0 : ¬ (p1.toInt < 0) := fun z => c_5 (ji_lt.mpr z)
  have g1 : ¬ (10 ≤ p1.toInt) := fun z => c_6 (ji_le.mpr z)
  have g2 : ¬ (p2.toInt < 0) := fun z => c_11 (ji_lt.mpr z)
  have g3 : ¬ (6 ≤ p2.toInt) := fun z => c_12 (ji_le.mpr z)
  have g4 : p3.toInt < 1 := ji_lt.mp c_13
  split <;> first | rfl | (exfalso; omega)
theorem s_tX12_subscribe_5 {p1 p2 p3 : Int32} (c_5 : ¬ (p1 < 0)) (c_6 : ¬ (10 ≤ p1)) (c_11 : ¬ (p2 < 0)) (c_12 : ¬ (6 ≤ p2)) (c_13 : ¬ (p3 < 1)) (c_14 : 999 < p3) : 0 = sp_subscribe p1 p2 p3 := by
  unfold sp_subscribe
  have g0 : ¬ (p1.toInt < 0) := fun z => c_5 (ji_lt.mpr z)
  have g1 : ¬ (10 ≤ p1.toInt) := fun z => c_6 (ji_le.mpr z)
  have g2 : ¬ (p2.toInt < 0) := fun z => c_11 (ji_lt.mpr z)
  have g3 : ¬ (6 ≤ p2.toInt) := fun z => c_12 (ji_le.mpr z)
  have g4 : ¬ (p3.toInt < 1) := fun z => c_13 (ji_lt.mpr z)
  have g5 : 999 < p3.toInt := ji_lt.mp c_14
  split <;> first | rfl | (exfalso; omega)
theorem s_tX12_subscribe_6 {p1 p2 p3 : Int32} (c_5 : ¬ (p1 < 0)) (c_6 : ¬ (10 ≤ p1)) (c_11 : ¬ (p2 < 0)) (c_12 : ¬ (6 ≤ p2)) (c_13 : ¬ (p3 < 1)) (c_14 : ¬ (999 < p3)) : 1 = sp_subscribe p1 p2 p3 := by
  unfold sp_subscribe
  have g0 : ¬ (p1.toInt < 0) := fun z => c_5 (ji_lt.mpr z)
  have g1 : ¬ (10 ≤ p1.toInt) := fun z => c_6 (ji_le.mpr z)
  have g2 : ¬ (p2.toInt < 0) := fun z => c_11 (ji_lt.mpr z)
  have g3 : ¬ (6 ≤ p2.toInt) := fun z => c_12 (ji_le.mpr z)
  have g4 : ¬ (p3.toInt < 1) := fun z => c_13 (ji_lt.mpr z)
  have g5 : ¬ (999 < p3.toInt) := fun z => c_14 (ji_lt.mpr z)
  split <;> first | rfl | (exfalso; omega)
set_option maxHeartbeats 500000 in
set_option maxRecDepth 100000 in
theorem tX12_subscribe (l : Launch) (dC : Nat → ClassId) (dI : Nat → Nat → Nat) (sz : Nat) (ad : Nat → Nat) (ca : Nat → ClassId) (p1 : Int32) (p2 : Int32) (p3 : Int32) : Met l yX12_subscribe (jk yX12_subscribe cX12_subscribe 4 (some .boolean)) ({ frames := 1, cells := 0, slots := 0, locals := 21 }) (va_Pc [.ref (ad 0), .int p1, .int p2, .int p3] (jw_P (dC, dI) (xW ad ca) (xT ca) sz)) (va_Qi (fun (r : Int32) (_ : Unit) => r = sp_subscribe p1 p2 p3) (fun _ _ => True) (va_A (xW ad ca) sz)) 0 0 (va_A (xW ad ca) sz) := by
  refine Met.ofW (cc := cX12_subscribe) (maxL := 4) (ret := (some .boolean)) (by decide) rfl ?_
  intro p e s m args below meth c s₁ B hml hv
  obtain ⟨rfl, hsz, hP, hK, hD0⟩ := hv
  have hx := B.exec
  have hb := B.bytes
  have hr := B.returns
  have hts := atoms_spec (ws := (jk yX12_subscribe cX12_subscribe 4 (some .boolean))) B.pre
  have hown : s.vm.findClass RX12 = some m.cls := findClass_of_methodNamed B.named
  have hlocks := B.notSynchronized
  subst hsz
  have hD := hD0.self (sz := s.heap.size)
  generalize hAe : (va_A (xW ad ca) s.heap.size) = A at hD ⊢
  have hA : ∀ q : Nat, s.heap.size ≤ q → A q := fun q h => by rw [← hAe]; exact Or.inr h
  have hS : va_S A s.heap s.heap [] := va_S.rf
  have hP : va_P (dC, dI) vwCl (xW ad ca) s.heap := hP
  have hl := lv_entry ([.ref (ad 0), .int p1, .int p2, .int p3]) (n := 4) (Nat.le_of_ble_eq_true rfl)
  rw [lg_entry_eq]
  generalize (lg_sl ([.ref (ad 0), .int p1, .int p2, .int p3]) ++ List.replicate (4 - (lg_sl ([.ref (ad 0), .int p1, .int p2, .int p3])).length) Slot.unset).toArray = ls at hl ⊢
  have hl : lv_has ls 4 [(0, .ref (ad 0)), (1, .int p1), (2, .int p2), (3, .int p3)] := hl
  refine lv_aload_n hx hb dX12_subscribe_0 rfl (lv_at hl 0 rfl) ?_
  refine lv_iload_n hx hb dX12_subscribe_1 rfl (lv_at hl 1 rfl) ?_
  refine jc_i (va_runV (As := [.int p1]) (rest := []) ⟨hx, hb, hml, hown, hts⟩ (kX12_isSubscriber_1 l dC dI _ (ad 0) p1) (cwV 1 hts (jgoodV m_412 m_413 m_414 m_210 m_415) rfl rfl rfl (by decide +kernel) ⟨Nat.le_of_ble_eq_true rfl, Nat.le_of_ble_eq_true rfl⟩) ⟨jw_blind0, va_recv hK hP (ci := 12) (q0 := 0) rfl rfl, fun U hU hW => ⟨rfl, congrArg Array.size hU⟩⟩ rfl rfl hl.1 rfl (lv_room (Nat.le_of_ble_eq_true rfl)) dX12_subscribe_2 ⟨Nat.le_of_ble_eq_true rfl, Nat.le_of_ble_eq_true rfl⟩) hP hS hA (fun r_1 H locs hw_1 hP hS => ?_)
  rcases (show (p1 < 0 ∧ r_1 = 0) ∨ (¬ (p1 < 0) ∧ 10 ≤ p1 ∧ r_1 = 0) ∨ (¬ (p1 < 0) ∧ ¬ (10 ≤ p1) ∧ r_1 = 1) from hw_1) with ⟨c_2, e_2_0⟩ | ⟨c_3, c_4, e_4_1⟩ | ⟨c_5, c_6, e_6_2⟩
  · have e_2_0 := e_2_0.symm
    subst e_2_0
    refine lv_if_eq (tgt := 38) hx hb dX12_subscribe_5 (by decide) (fun _ => ?_) (fun z => absurd (by decide) z)
    refine lv_iconst (v := 0) hx hb dX12_subscribe_38 (by decide) ?_
    exact W.zret (v := 0) (ty := .boolean) hx hb hr rfl (fun t ht hW => ⟨⟨0, (), rfl, (s_tX12_subscribe_0 (p1 := p1) (p2 := p2) (p3 := p3) c_2), trivial⟩, hS.F ht⟩) hS.2.2 dX12_subscribe_39
  · have e_4_1 := e_4_1.symm
    subst e_4_1
    refine lv_if_eq (tgt := 38) hx hb dX12_subscribe_5 (by decide) (fun _ => ?_) (fun z => absurd (by decide) z)
    refine lv_iconst (v := 0) hx hb dX12_subscribe_38 (by decide) ?_
    exact W.zret (v := 0) (ty := .boolean) hx hb hr rfl (fun t ht hW => ⟨⟨0, (), rfl, (s_tX12_subscribe_1 (p1 := p1) (p2 := p2) (p3 := p3) c_3 c_4), trivial⟩, hS.F ht⟩) hS.2.2 dX12_subscribe_39
  · have e_6_2 := e_6_2.symm
    subst e_6_2
    refine lv_if_eq (tgt := 38) hx hb dX12_subscribe_5 (by decide) (fun z => absurd z (by decide)) (fun _ => ?_)
    refine lv_aload_n hx hb dX12_subscribe_8 rfl (lv_at hl 0 rfl) ?_
    refine lv_iload_n hx hb dX12_subscribe_9 rfl (lv_at hl 2 rfl) ?_
    refine jc_i (va_runV (As := [.int p2]) (rest := []) ⟨hx, hb, hml, hown, hts⟩ (kX12_isVolume_1 l dC dI _ (ad 0) p2) (cwV 1 hts (jgoodV m_207 m_208 m_209 m_210 m_211) rfl rfl rfl (by decide +kernel) ⟨Nat.le_of_ble_eq_true rfl, Nat.le_of_ble_eq_true rfl⟩) ⟨jw_blind0, va_recv hK hP (ci := 12) (q0 := 0) rfl rfl, fun U hU hW => ⟨rfl, congrArg Array.size hU⟩⟩ rfl rfl hl.1 rfl (lv_room (Nat.le_of_ble_eq_true rfl)) dX12_subscribe_10 ⟨Nat.le_of_ble_eq_true rfl, Nat.le_of_ble_eq_true rfl⟩) hP hS hA (fun r_7 H locs hw_7 hP hS => ?_)
    rcases (show (p2 < 0 ∧ r_7 = 0) ∨ (¬ (p2 < 0) ∧ 6 ≤ p2 ∧ r_7 = 0) ∨ (¬ (p2 < 0) ∧ ¬ (6 ≤ p2) ∧ r_7 = 1) from hw_7) with ⟨c_8, e_8_0⟩ | ⟨c_9, c_10, e_10_1⟩ | ⟨c_11, c_12, e_12_2⟩
    · have e_8_0 := e_8_0.symm
      subst e_8_0
      refine lv_if_eq (tgt := 38) hx hb dX12_subscribe_13 (by decide) (fun _ => ?_) (fun z => absurd (by decide) z)
      refine lv_iconst (v := 0) hx hb dX12_subscribe_38 (by decide) ?_
      exact W.zret (v := 0) (ty := .boolean) hx hb hr rfl (fun t ht hW => ⟨⟨0, (), rfl, (s_tX12_subscribe_2 (p1 := p1) (p2 := p2) (p3 := p3) c_5 c_6 c_8), trivial⟩, hS.F ht⟩) hS.2.2 dX12_subscribe_39
    · have e_10_1 := e_10_1.symm
      subst e_10_1
      refine lv_if_eq (tgt := 38) hx hb dX12_subscribe_13 (by decide) (fun _ => ?_) (fun z => absurd (by decide) z)
      refine lv_iconst (v := 0) hx hb dX12_subscribe_38 (by decide) ?_
      exact W.zret (v := 0) (ty := .boolean) hx hb hr rfl (fun t ht hW => ⟨⟨0, (), rfl, (s_tX12_subscribe_3 (p1 := p1) (p2 := p2) (p3 := p3) c_5 c_6 c_9 c_10), trivial⟩, hS.F ht⟩) hS.2.2 dX12_subscribe_39
    · have e_12_2 := e_12_2.symm
      subst e_12_2
      refine lv_if_eq (tgt := 38) hx hb dX12_subscribe_13 (by decide) (fun z => absurd z (by decide)) (fun _ => ?_)
      refine lv_iload_n hx hb dX12_subscribe_16 rfl (lv_at hl 3 rfl) ?_
      refine lv_iconst (v := 1) hx hb dX12_subscribe_17 (by decide) ?_
      refine lv_icmp_lt (tgt := 38) hx hb dX12_subscribe_18 (by decide) (fun c_13 => ?_) (fun c_13 => ?_)
      · refine lv_iconst (v := 0) hx hb dX12_subscribe_38 (by decide) ?_
        exact W.zret (v := 0) (ty := .boolean) hx hb hr rfl (fun t ht hW => ⟨⟨0, (), rfl, (s_tX12_subscribe_4 (p1 := p1) (p2 := p2) (p3 := p3) c_5 c_6 c_11 c_12 c_13), trivial⟩, hS.F ht⟩) hS.2.2 dX12_subscribe_39
      · refine lv_iload_n hx hb dX12_subscribe_21 rfl (lv_at hl 3 rfl) ?_
        refine lv_sipush (v := 999) hx hb dX12_subscribe_22 (by decide) ?_
        refine lv_icmp_gt (tgt := 38) hx hb dX12_subscribe_25 (by decide) (fun c_14 => ?_) (fun c_14 => ?_)
        · refine lv_iconst (v := 0) hx hb dX12_subscribe_38 (by decide) ?_
          exact W.zret (v := 0) (ty := .boolean) hx hb hr rfl (fun t ht hW => ⟨⟨0, (), rfl, (s_tX12_subscribe_5 (p1 := p1) (p2 := p2) (p3 := p3) c_5 c_6 c_11 c_12 c_13 c_14), trivial⟩, hS.F ht⟩) hS.2.2 dX12_subscribe_39
        · refine lv_aload_n hx hb dX12_subscribe_28 rfl (lv_at hl 0 rfl) ?_
          refine va_get (D := (dC, dI)) (ci := 12) (v := .ref (ad 53)) (C := RX12) (T := TX12) (N := 20) hx hb hts (jh hin_RX12) hown hK hP 0 rfl rfl 15 (by decide) (hts (.fieldLink RX12 70 "BookOfAll" "firstVolume" "[I") (jm m_416)) (fun _ h9 => h9) rfl dX12_subscribe_29 ?_
          refine lv_iload_n hx hb dX12_subscribe_32 rfl (lv_at hl 1 rfl) ?_
          refine va_iald hx hb hK hP 53 42 rfl rfl (jb_in (jl_nlt c_5) (jl_nge (d := 9) c_6 (by decide)) (by decide) (by decide)) dX12_subscribe_33 ?_
          refine jt_i (-1) (jfill_at (jl_nlt c_5) (jl_nge (d := 9) c_6 (by decide)) (by decide) (by decide)) ?_
          refine lv_iconst (v := (-1)) hx hb dX12_subscribe_34 (by decide) ?_
          refine lv_icmp_eq (tgt := 40) hx hb dX12_subscribe_35 (by decide) (fun _ => ?_) (fun z => absurd (by decide) z)
          refine lv_aload_n hx hb dX12_subscribe_40 rfl (lv_at hl 0 rfl) ?_
          refine va_get (D := (dC, dI)) (ci := 12) (v := .ref (ad 53)) (C := RX12) (T := TX12) (N := 20) hx hb hts (jh hin_RX12) hown hK hP 0 rfl rfl 15 (by decide) (hts (.fieldLink RX12 70 "BookOfAll" "firstVolume" "[I") (jm m_416)) (fun _ h9 => h9) rfl dX12_subscribe_41 ?_
          refine lv_iload_n hx hb dX12_subscribe_44 rfl (lv_at hl 1 rfl) ?_
          refine lv_iload_n hx hb dX12_subscribe_45 rfl (lv_at hl 2 rfl) ?_
          refine va_iast hx hb hK hP hD hS 53 42 rfl rfl (jb_in (jl_nlt c_5) (jl_nge (d := 9) c_6 (by decide)) (by decide) (by decide)) dX12_subscribe_46 (fun H locs hP hD hS => ?_)
          refine lv_aload_n hx hb dX12_subscribe_47 rfl (lv_at hl 0 rfl) ?_
          refine va_get (D := (dC, dI)) (ci := 12) (v := .ref (ad 54)) (C := RX12) (T := TX12) (N := 20) hx hb hts (jh hin_RX12) hown hK hP 0 rfl rfl 16 (by decide) (hts (.fieldLink RX12 73 "BookOfAll" "price" "[I") (jm m_417)) (fun _ h9 => h9) rfl dX12_subscribe_48 ?_
          refine lv_iload_n hx hb dX12_subscribe_51 rfl (lv_at hl 1 rfl) ?_
          refine lv_iload_n hx hb dX12_subscribe_52 rfl (lv_at hl 3 rfl) ?_
          refine va_iast hx hb hK hP hD hS 54 43 rfl rfl (jb_in (jl_nlt c_5) (jl_nge (d := 9) c_6 (by decide)) (by decide) (by decide)) dX12_subscribe_53 (fun H locs hP hD hS => ?_)
          refine lv_iconst (v := 1) hx hb dX12_subscribe_54 (by decide) ?_
          exact W.zret (v := 1) (ty := .boolean) hx hb hr rfl (fun t ht hW => ⟨⟨1, (), rfl, (s_tX12_subscribe_6 (p1 := p1) (p2 := p2) (p3 := p3) c_5 c_6 c_11 c_12 c_13 c_14), trivial⟩, hS.F ht⟩) hS.2.2 dX12_subscribe_55
