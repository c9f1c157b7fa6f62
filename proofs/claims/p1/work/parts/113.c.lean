set_option maxHeartbeats 1000000 in
set_option maxRecDepth 100000 in
theorem kX12_newEntry_2 (l : Launch) (dC : Nat → ClassId) (dI : Nat → Nat → Nat) (sz : Nat) (ad : Nat → Nat) (ca : Nat → ClassId) (p2 : Int32) (p3 : Int32) (p4 : Int32) (tW : Nat) : Met l yX12_newEntry (jk yX12_newEntry cX12_newEntry 7 (some (.object "BookOfAll$Entry"))) ({ frames := 4, cells := 2, slots := 30, locals := 151 }) (va_Pc [.ref (ad 0), .int 0, .int p2, .int p3, .int p4] (jw_PZ (dC, dI) (xW ad ca) (xT ca) sz tW)) (va_Qq (fun (r : Option Nat) (u : Nat × (Nat → Nat) × (Nat → ClassId) × (Int64 × Int32 × (Nat → Int32)) × (Int32)) => (u.1 = 0 ∧ jN p2 p3 p4 = 0 ∧ r = none) ∨ (u.1 = 1 ∧ ¬ (jN p2 p3 p4 = 0) ∧ r = some ((u.2.1 0)))) (fun u t => va_P (dC, dI) vwCl ((fun (u : Nat × (Nat → Nat) × (Nat → ClassId) × (Int64 × Int32 × (Nat → Int32)) × (Int32)) => match u.1 with | 0 => xW ad ca | _ => (jS (jS (jS (jS (jS (jS (jS (jS (jS (jA (xW ad ca) [((u.2.1 0), .inr (0, [.int 0, .int 0, .ref ((u.2.1 1)), .long (u.2.2.2.1).1, .int (u.2.2.2.1).2.1, .int 0, .int 0, .int 0, .int 0, .int 0, .int (-1), .int 0, .int (-1), .int (-1), .int (-1), .int 0, .long 0, .int 0])), ((u.2.1 1), .inl ((u.2.2.1 1), (jN p2 p3 p4), .inl (u.2.2.2.1).2.2))]) 38 (ad 38, .inl ((ca 38), 60, .inr (.inr (.inr (.inr (va_up (fun _ => none) 0 (some ((u.2.1 0)))))))))) 0 (ad 0, .inr (12, [.int 0, .int 0, .ref (ad 1), .ref (ad 11), .ref (ad 18), .ref (ad 19), .ref (ad 38), .int 1, .ref (ad 39), .int 0, .ref (ad 40), .int 0, .ref (ad 41), .int 0, .ref (ad 42), .ref (ad 53), .ref (ad 54), .ref (ad 55), .ref (ad 61), .ref (ad 70)]))) 18 (ad 18, .inr (6, [.ref (ad 11), .int (-1), .int 0, .int 0, .int 0, .int 0]))) 18 (ad 18, .inr (6, [.ref (ad 11), .int (-1), .int 0, .int 0, .int 0, .int 0]))) 18 (ad 18, .inr (6, [.ref (ad 11), .int (-1), .int 0, .int 1, .int 0, .int 0]))) 18 (ad 18, .inr (6, [.ref (ad 11), .int (-1), .int 0, .int 1, .int 1, .int 0]))) 18 (ad 18, .inr (6, [.ref (ad 11), .int (-1), .int 0, .int 1, .int 1, .int 1]))) 73 ((u.2.1 0), .inr (0, [.int 0, .int 0, .ref ((u.2.1 1)), .long (u.2.2.2.1).1, .int (u.2.2.2.1).2.1, .int 0, .int 0, .int 0, .int 0, .int 0, .int (-1), .int 0, .int (-1), .int (-1), .int (-1), .int 0, .long 0, .int 0]))) 73 ((u.2.1 0), .inr (0, [.int 0, .int 0, .ref ((u.2.1 1)), .long (u.2.2.2.1).1, .int (u.2.2.2.1).2.1, .int 0, .int (u.2.2.2.2), .int 0, .int 0, .int 0, .int (-1), .int 0, .int (-1), .int (-1), .int (-1), .int 0, .long 0, .int 0])))) u) t.heap ∧ va_K (dC, dI) vwCl ((fun (u : Nat × (Nat → Nat) × (Nat → ClassId) × (Int64 × Int32 × (Nat → Int32)) × (Int32)) => match u.1 with | 0 => xT ca | _ => (xT ca ++ [((u.2.2.1 1), .byte)])) u) t ∧ va_D (va_A (xW ad ca) sz) ((fun (u : Nat × (Nat → Nat) × (Nat → ClassId) × (Int64 × Int32 × (Nat → Int32)) × (Int32)) => match u.1 with | 0 => xW ad ca | _ => (jS (jS (jS (jS (jS (jS (jS (jS (jS (jA (xW ad ca) [((u.2.1 0), .inr (0, [.int 0, .int 0, .ref ((u.2.1 1)), .long (u.2.2.2.1).1, .int (u.2.2.2.1).2.1, .int 0, .int 0, .int 0, .int 0, .int 0, .int (-1), .int 0, .int (-1), .int (-1), .int (-1), .int 0, .long 0, .int 0])), ((u.2.1 1), .inl ((u.2.2.1 1), (jN p2 p3 p4), .inl (u.2.2.2.1).2.2))]) 38 (ad 38, .inl ((ca 38), 60, .inr (.inr (.inr (.inr (va_up (fun _ => none) 0 (some ((u.2.1 0)))))))))) 0 (ad 0, .inr (12, [.int 0, .int 0, .ref (ad 1), .ref (ad 11), .ref (ad 18), .ref (ad 19), .ref (ad 38), .int 1, .ref (ad 39), .int 0, .ref (ad 40), .int 0, .ref (ad 41), .int 0, .ref (ad 42), .ref (ad 53), .ref (ad 54), .ref (ad 55), .ref (ad 61), .ref (ad 70)]))) 18 (ad 18, .inr (6, [.ref (ad 11), .int (-1), .int 0, .int 0, .int 0, .int 0]))) 18 (ad 18, .inr (6, [.ref (ad 11), .int (-1), .int 0, .int 0, .int 0, .int 0]))) 18 (ad 18, .inr (6, [.ref (ad 11), .int (-1), .int 0, .int 1, .int 0, .int 0]))) 18 (ad 18, .inr (6, [.ref (ad 11), .int (-1), .int 0, .int 1, .int 1, .int 0]))) 18 (ad 18, .inr (6, [.ref (ad 11), .int (-1), .int 0, .int 1, .int 1, .int 1]))) 73 ((u.2.1 0), .inr (0, [.int 0, .int 0, .ref ((u.2.1 1)), .long (u.2.2.2.1).1, .int (u.2.2.2.1).2.1, .int 0, .int 0, .int 0, .int 0, .int 0, .int (-1), .int 0, .int (-1), .int (-1), .int (-1), .int 0, .long 0, .int 0]))) 73 ((u.2.1 0), .inr (0, [.int 0, .int 0, .ref ((u.2.1 1)), .long (u.2.2.2.1).1, .int (u.2.2.2.1).2.1, .int 0, .int (u.2.2.2.2), .int 0, .int 0, .int 0, .int (-1), .int 0, .int (-1), .int (-1), .int (-1), .int 0, .long 0, .int 0])))) u)) (va_A (xW ad ca) sz)) 2 30 (va_A (xW ad ca) sz) := by
  refine Met.ofW (cc := cX12_newEntry) (maxL := 7) (ret := (some (.object "BookOfAll$Entry"))) (by decide) rfl ?_
  intro p e s m args below meth c s₁ B hml hv
  obtain ⟨rfl, ⟨hsz, hP, hK, hD0⟩, hZ, hT⟩ := hv
  have hx := B.exec
  have hb := B.bytes
  have hr := B.returns
  have hts := atoms_spec (ws := (jk yX12_newEntry cX12_newEntry 7 (some (.object "BookOfAll$Entry")))) B.pre
  have hown : s.vm.findClass RX12 = some m.cls := findClass_of_methodNamed B.named
  have hlocks := B.notSynchronized
  subst hsz
  have hD := hD0.self (sz := s.heap.size)
  generalize hAe : (va_A (xW ad ca) s.heap.size) = A at hD hZ hT ⊢
  have hA : ∀ q : Nat, s.heap.size ≤ q → A q := fun q h => by rw [← hAe]; exact Or.inr h
  have hS : va_S A s.heap s.heap [] := va_S.rf
  have hP : va_P (dC, dI) vwCl (xW ad ca) s.heap := hP
  have hl := lv_entry ([.ref (ad 0), .int 0, .int p2, .int p3, .int p4]) (n := 7) (Nat.le_of_ble_eq_true rfl)
  rw [lg_entry_eq]
  generalize (lg_sl ([.ref (ad 0), .int 0, .int p2, .int p3, .int p4]) ++ List.replicate (7 - (lg_sl ([.ref (ad 0), .int 0, .int p2, .int p3, .int p4])).length) Slot.unset).toArray = ls at hl ⊢
  have hl : lv_has ls 7 [(0, .ref (ad 0)), (1, .int 0), (2, .int p2), (3, .int p3), (4, .int p4)] := hl
  refine lv_iload_n hx hb dX12_newEntry_0 rfl (lv_at hl 2 rfl) ?_
  refine lv_iload_n hx hb dX12_newEntry_1 rfl (lv_at hl 3 rfl) ?_
  refine lv_iload hx hb dX12_newEntry_2 (lv_at hl 4 rfl) ?_
  refine jc_i (va_runS (As := [.int p2, .int p3, .int p4]) (rest := []) ⟨hx, hb, hml, hown, hts⟩ (kX0_headingSize l dC dI _ p2 p3 p4) (va_cwS 3 hts (jgoodS m_264 m_265 m_83 m_266) rfl rfl rfl (by decide +kernel) ⟨Nat.le_of_ble_eq_true rfl, Nat.le_of_ble_eq_true rfl⟩) ⟨jw_blind0, fun U hU hW => ⟨rfl, congrArg Array.size hU⟩⟩ rfl rfl hl.1 rfl (lv_room (Nat.le_of_ble_eq_true rfl)) dX12_newEntry_4 ⟨Nat.le_of_ble_eq_true rfl, Nat.le_of_ble_eq_true rfl⟩) hP hS hA (fun r_1 H locs hw_1 hP hS => ?_)
  rcases (show (jN p2 p3 p4 = 0 ∧ r_1 = (-1)) ∨ (¬ (jN p2 p3 p4 = 0) ∧ r_1 = (nI (jN p2 p3 p4))) from hw_1) with ⟨c_2, e_2_0⟩ | ⟨c_3, e_3_1⟩
  · have e_2_0 := e_2_0.symm
    subst e_2_0
    refine lv_istore (lv' := [(5, .int (-1)), (0, .ref (ad 0)), (1, .int 0), (2, .int p2), (3, .int p3), (4, .int p4)]) hx hb dX12_newEntry_7 hl (by decide) rfl (fun ls hl => ?_)
    refine lv_iload hx hb dX12_newEntry_9 (lv_at hl 0 rfl) ?_
    refine lv_iconst (v := (-1)) hx hb dX12_newEntry_11 (by decide) ?_
    refine lv_icmp_eq (tgt := 24) hx hb dX12_newEntry_12 (by decide) (fun _ => ?_) (fun z => absurd (by decide) z)
    refine lv_null hx hb dX12_newEntry_24 ?_
    refine W.widen (k := 2) (n := 30) (Nat.le_of_ble_eq_true rfl) (Nat.le_of_ble_eq_true rfl) ?_
    exact W.aret (v := .null) hx hb hr (Or.inl ⟨_, rfl⟩) (Or.inl rfl) (fun t ht hW => ⟨⟨none, (0, fun k => [].getD k 0, fun k => [].getD k (dC 0), (0, 0, fun _ => 0), 0), rfl, (Or.inl ⟨rfl, c_2, rfl⟩), by rw [ht]; exact hP, va_K.moved hW.alike hK, hD⟩, hS.F ht⟩) hS.2.2 dX12_newEntry_25
  · have e_3_1 := e_3_1.symm
    subst e_3_1
    refine lv_istore (lv' := [(5, .int (nI (jN p2 p3 p4))), (0, .ref (ad 0)), (1, .int 0), (2, .int p2), (3, .int p3), (4, .int p4)]) hx hb dX12_newEntry_7 hl (by decide) rfl (fun ls hl => ?_)
    refine lv_iload hx hb dX12_newEntry_9 (lv_at hl 0 rfl) ?_
    refine lv_iconst (v := (-1)) hx hb dX12_newEntry_11 (by decide) ?_
    refine lv_icmp_eq (tgt := 24) hx hb dX12_newEntry_12 (by decide) (fun z => absurd z (jb_ne2 (jy_N1 c_3) (by decide))) (fun _ => ?_)
    refine lv_aload_n hx hb dX12_newEntry_15 rfl (lv_at hl 1 rfl) ?_
    refine va_get (D := (dC, dI)) (ci := 12) (v := .int 0) (C := RX12) (T := TX12) (N := 20) hx hb hts (jh hin_RX12) hown hK hP 0 rfl rfl 7 (by decide) (hts (.fieldLink RX12 203 "BookOfAll" "entryCount" "I") (jm m_259)) (fun _ h9 => h9) rfl dX12_newEntry_16 ?_
    refine lv_bipush (v := 60) hx hb dX12_newEntry_19 (by decide) ?_
    refine lv_icmp_lt (tgt := 26) hx hb dX12_newEntry_21 (by decide) (fun _ => ?_) (fun z => absurd (by decide) z)
    refine va_new (ci := 0) (fs := [.int 0, .int 0, .null, .long 0, .int 0, .int 0, .int 0, .int 0, .int 0, .int 0, .int 0, .int 0, .int 0, .int 0, .int 0, .int 0, .long 0, .int 0]) (C := RX0) (T := TX0) (N := 18) hx hb hts (jh hin_RX0) tyX0 tyX0_ok hown (hts (.classLink RX12 41 RX0) (jm m_267)) (hts (.instantiable RX0 18) (jm m_268)) (hts (.initialized RX0) (jm m_83)) hK hP hD hS hA rfl jd_RX0 (Nat.le_of_ble_eq_true rfl) (Nat.le_of_ble_eq_true rfl) dX12_newEntry_26 (fun q1 H hP hD hS => ?_)
    refine W.widen (k := 1) (n := 18) (Nat.le_of_ble_eq_true rfl) (Nat.le_of_ble_eq_true rfl) ?_
    refine lv_dup hx hb dX12_newEntry_29 rfl ?_
    refine lv_aload_n hx hb dX12_newEntry_30 rfl (lv_at hl 1 rfl) ?_
    refine va_get (D := (dC, dI)) (ci := 12) (v := .int 0) (C := RX12) (T := TX12) (N := 20) hx hb hts (jh hin_RX12) hown hK hP 0 (jg_l rfl) rfl 7 (by decide) (hts (.fieldLink RX12 203 "BookOfAll" "entryCount" "I") (jm m_259)) (fun _ h9 => h9) rfl dX12_newEntry_31 ?_
    refine lv_iload_n hx hb dX12_newEntry_34 rfl (lv_at hl 2 rfl) ?_
    refine lv_iload hx hb dX12_newEntry_35 (lv_at hl 0 rfl) ?_
    refine jci_v (va_runI (As := [.int 0, .int 0, .int (nI (jN p2 p3 p4))]) (rest := [.ref q1]) ⟨hx, hb, hml, hown, hts⟩ (iX0_init_1 l dC dI _ (q1) (jN p2 p3 p4) (jN_le _ _ _) (jy_N1 c_3)) (cwI 3 hts (jgoodI m_277) rfl rfl rfl (hts (.initialized RX0) (jm m_83)) (hts (.methodLink RX12 206 yX0_init) (jm m_278)) (hts (.instanceMethod yX0_init) (jm m_279)) rfl (by decide +kernel) ⟨(Nat.le_of_ble_eq_true rfl), (Nat.le_of_ble_eq_true rfl)⟩) ⟨jw_blind, fun U hU hW => ⟨rfl, jw_of hU hW (jp_last hP) (hK.sub [] rfl) (jd_last hD)⟩⟩ rfl rfl hl.1 rfl (lv_room (Nat.le_of_ble_eq_true rfl)) dX12_newEntry_37 ⟨(Nat.le_of_ble_eq_true rfl), (Nat.le_of_ble_eq_true rfl)⟩) hP hD hS hA (fun u_4 H locs hP hK2 hD hS => ?_)
    have hK := hK.app hK2
    refine W.widen (k := 2) (n := 30) (Nat.le_of_ble_eq_true rfl) (Nat.le_of_ble_eq_true rfl) ?_
    refine lv_astore (lv' := [(6, .ref q1), (5, .int (nI (jN p2 p3 p4))), (0, .ref (ad 0)), (1, .int 0), (2, .int p2), (3, .int p3), (4, .int p4)]) hx hb dX12_newEntry_40 hl (by decide) rfl (fun ls hl => ?_)
    refine lv_aload hx hb dX12_newEntry_42 (lv_at hl 0 rfl) ?_
    refine lv_iload_n hx hb dX12_newEntry_44 rfl (lv_at hl 4 rfl) ?_
    refine lv_iload_n hx hb dX12_newEntry_45 rfl (lv_at hl 5 rfl) ?_
    refine lv_iload hx hb dX12_newEntry_46 (lv_at hl 6 rfl) ?_
    refine jcl_v (va_runV (As := [.int p2, .int p3, .int p4]) (rest := []) ⟨hx, hb, hml, hown, hts⟩ (kX0_readHeading l dC dI _ (q1) ((u_4.1 1)) (jN p2 p3 p4) (u_4.2 1) 0 (jN_le _ _ _) p2 p3 p4) (cwV 3 hts (jgoodV m_280 m_281 m_282 m_83 m_283) rfl rfl rfl (by decide +kernel) ⟨(Nat.le_of_ble_eq_true rfl), (Nat.le_of_ble_eq_true rfl)⟩) ⟨jw_blind, va_recv hK hP (ci := 0) (q0 := 73) rfl (jg_r (n := 73) (i := 0) rfl rfl rfl), fun U hU hW => ⟨rfl, jw_of hU hW (jp_tail hP) (hK.sub [59] rfl) (jd_tail hD)⟩⟩ rfl rfl hl.1 rfl (lv_room (Nat.le_of_ble_eq_true rfl)) dX12_newEntry_48 ⟨(Nat.le_of_ble_eq_true rfl), (Nat.le_of_ble_eq_true rfl)⟩) hP hD hS hA (fun u_5 H locs hP hD hS => ?_)
    refine lv_aload_n hx hb dX12_newEntry_51 rfl (lv_at hl 2 rfl) ?_
    refine va_get (D := (dC, dI)) (ci := 12) (v := .ref (ad 38)) (C := RX12) (T := TX12) (N := 20) hx hb hts (jh hin_RX12) hown hK hP 0 (jg_l rfl) rfl 6 (by decide) (hts (.fieldLink RX12 43 "BookOfAll" "entries" "[LBookOfAll$Entry;") (jm m_284)) (fun _ h9 => h9) rfl dX12_newEntry_52 ?_
    refine lv_aload_n hx hb dX12_newEntry_55 rfl (lv_at hl 2 rfl) ?_
    refine va_get (D := (dC, dI)) (ci := 12) (v := .int 0) (C := RX12) (T := TX12) (N := 20) hx hb hts (jh hin_RX12) hown hK hP 0 (jg_l rfl) rfl 7 (by decide) (hts (.fieldLink RX12 203 "BookOfAll" "entryCount" "I") (jm m_259)) (fun _ h9 => h9) rfl dX12_newEntry_56 ?_
    refine lv_aload hx hb dX12_newEntry_59 (lv_at hl 0 rfl) ?_
    refine va_astq hx hb hK hP hD hS 38 28 73 0 (jg_l rfl) rfl (jg_r (n := 73) (i := 0) rfl rfl rfl) rfl (vp_in_nI (n := 0) (by decide) (by decide)) dX12_newEntry_61 (fun H locs hP hD hS => ?_)
    refine lv_aload_n hx hb dX12_newEntry_62 rfl (lv_at hl 2 rfl) ?_
    refine lv_dup hx hb dX12_newEntry_63 rfl ?_
    refine va_get (D := (dC, dI)) (ci := 12) (v := .int 0) (C := RX12) (T := TX12) (N := 20) hx hb hts (jh hin_RX12) hown hK hP 0 (jg_n (Nat.ne_of_beq_eq_false rfl) (jg_l rfl)) rfl 7 (by decide) (hts (.fieldLink RX12 203 "BookOfAll" "entryCount" "I") (jm m_259)) (fun _ h9 => h9) rfl dX12_newEntry_64 ?_
    refine lv_iconst (v := 1) hx hb dX12_newEntry_67 (by decide) ?_
    refine lv_iadd hx hb dX12_newEntry_68 ?_
    refine jt_i 1 (by decide) ?_
    refine va_put (D := (dC, dI)) (ci := 12) (v := .int 1) (ty := .int) (C := RX12) (T := TX12) (N := 20) hx hb hts (jh hin_RX12) tyX12 tyX12_ok nmX12 hown hK hP hD hS 0 (jg_n (Nat.ne_of_beq_eq_false rfl) (jg_l rfl)) rfl 7 (by decide) (hts (.fieldLink RX12 203 "BookOfAll" "entryCount" "I") (jm m_259)) (fun _ h9 => h9) rfl (by decide +kernel) rfl rfl (Nat.le_of_ble_eq_true rfl) dX12_newEntry_69 (fun H locs hP hD hS => ?_)
    refine lv_aload_n hx hb dX12_newEntry_72 rfl (lv_at hl 2 rfl) ?_
    refine va_get (D := (dC, dI)) (ci := 12) (v := .ref (ad 18)) (C := RX12) (T := TX12) (N := 20) hx hb hts (jh hin_RX12) hown hK hP 0 (jg_s (n := 75) (jn_s (jn_a (n := 73) (m := 2) rfl rfl)) (Nat.le_of_ble_eq_true rfl)) rfl 4 (by decide) (hts (.fieldLink RX12 28 "BookOfAll" "order" "LBookOfAll$Order;") (jm m_241)) (fun _ h9 => h9) rfl dX12_newEntry_73 ?_
    refine lv_iconst (v := (-1)) hx hb dX12_newEntry_76 (by decide) ?_
    refine lv_aload_n hx hb dX12_newEntry_77 rfl (lv_at hl 2 rfl) ?_
    refine va_get (D := (dC, dI)) (ci := 12) (v := .int 0) (C := RX12) (T := TX12) (N := 20) hx hb hts (jh hin_RX12) hown hK hP 0 (jg_s (n := 75) (jn_s (jn_a (n := 73) (m := 2) rfl rfl)) (Nat.le_of_ble_eq_true rfl)) rfl 0 (by decide) (hts (.fieldLink RX12 133 "BookOfAll" "now" "I") (jm m_217)) (fun _ h9 => h9) rfl dX12_newEntry_78 ?_
    refine jcw_v (va_runV (As := [.int (-1), .int 0]) (rest := []) ⟨hx, hb, hml, hown, hts⟩ (kX6_take_7 l dC dI _ ad ca p2 p3 p4 q1 u_4 u_5 (jy_N1 c_3) (jy_N12 _ _ _) tW) (cwV 2 hts (jgoodV m_254 m_255 m_256 m_257 m_258) rfl rfl rfl (by decide +kernel) ⟨Nat.le_of_ble_eq_true rfl, Nat.le_of_ble_eq_true rfl⟩) ⟨jw_blindZ, va_recv hK hP (ci := 6) (q0 := 18) rfl (jg_n (Nat.ne_of_beq_eq_false rfl) (jg_n (Nat.ne_of_beq_eq_false rfl) (jg_l rfl))), fun U hU hW => ⟨rfl, jw_of hU hW hP hK hD, jz_of hU hW hD hS hA hZ hT⟩⟩ rfl rfl hl.1 rfl (lv_room (Nat.le_of_ble_eq_true rfl)) dX12_newEntry_81 ⟨Nat.le_of_ble_eq_true rfl, Nat.le_of_ble_eq_true rfl⟩) hD hS hA (fun H locs hw_6 hP hK hD hS => ?_)
    refine lv_aload hx hb dX12_newEntry_84 (lv_at hl 0 rfl) ?_
    refine lv_aload_n hx hb dX12_newEntry_86 rfl (lv_at hl 2 rfl) ?_
    refine lv_aload hx hb dX12_newEntry_87 (lv_at hl 0 rfl) ?_
    refine jcw_i (va_runV (As := [.ref q1]) (rest := [.ref q1]) ⟨hx, hb, hml, hown, hts⟩ (kX12_volumeByKey_2 l dC dI _ ad ca p2 p3 p4 q1 u_4 u_5 (jy_N1 c_3) (jy_N12 _ _ _)) (cwV 1 hts (jgoodV m_303 m_304 m_305 m_210 m_306) rfl rfl rfl (by decide +kernel) ⟨Nat.le_of_ble_eq_true rfl, Nat.le_of_ble_eq_true rfl⟩) ⟨jw_blind, va_recv hK hP (ci := 12) (q0 := 0) rfl (jg_n (Nat.ne_of_beq_eq_false rfl) (jg_n (Nat.ne_of_beq_eq_false rfl) (jg_n (Nat.ne_of_beq_eq_false rfl) (jg_n (Nat.ne_of_beq_eq_false rfl) (jg_n (Nat.ne_of_beq_eq_false rfl) (jg_s (n := 75) (jn_s (jn_a (n := 73) (m := 2) rfl rfl)) (Nat.le_of_ble_eq_true rfl))))))), fun U hU hW => ⟨rfl, jw_of hU hW hP hK hD⟩⟩ rfl rfl hl.1 rfl (lv_room (Nat.le_of_ble_eq_true rfl)) dX12_newEntry_89 ⟨Nat.le_of_ble_eq_true rfl, Nat.le_of_ble_eq_true rfl⟩) hD hS hA (fun r_7 H locs hw_7 hP hK hD hS => ?_)
    refine va_put (D := (dC, dI)) (ci := 0) (v := .int r_7) (ty := .int) (C := RX0) (T := TX0) (N := 18) hx hb hts (jh hin_RX0) tyX0 tyX0_ok nmX0 hown hK hP hD hS 73 (jg_s (n := 75) (jn_s (jn_s (jn_s (jn_s (jn_s (jn_s (jn_s (jn_a (n := 73) (m := 2) rfl rfl)))))))) (Nat.le_of_ble_eq_true rfl)) rfl 6 (by decide) (hts (.fieldLink RX12 220 "BookOfAll$Entry" "keyVolume" "I") (jm m_307)) (fun _ h9 => h9) rfl (by decide +kernel) rfl rfl (Nat.le_of_ble_eq_true rfl) dX12_newEntry_92 (fun H locs hP hD hS => ?_)
    refine lv_aload hx hb dX12_newEntry_95 (lv_at hl 0 rfl) ?_
    refine W.widen (k := 2) (n := 30) (Nat.le_of_ble_eq_true rfl) (Nat.le_of_ble_eq_true rfl) ?_
    exact W.aret (v := .ref q1) hx hb hr (Or.inl ⟨_, rfl⟩) (Or.inr ⟨_, rfl⟩) (fun t ht hW => ⟨⟨some (q1), (1, fun k => [q1, (u_4.1 1)].getD k 0, fun k => [dC 0, (u_4.2 1)].getD k (dC 0), u_5, r_7), rfl, (Or.inr ⟨rfl, c_3, rfl⟩), by rw [ht]; exact hP, va_K.moved hW.alike hK, hD⟩, hS.F ht⟩) hS.2.2 dX12_newEntry_97
theorem s_tX12_article_0 {p1 p2 p3 p4 : Int32} (c_1 : p4 < 0) : (-1) = sp_article p1 p2 p3 p4 := by
  unfold sp_article
  have g0 : p4.toInt < 0 := ji_lt.mp c_1
  split <;> first | rfl | (exfalso; omega)
theorem s_tX12_article_1 {p1 p2 p3 p4 : Int32} (c_1 : ¬ (p4 < 0)) (c_2 : 2 < (p4 / 10000)) : (-1) = sp_article p1 p2 p3 p4 := by
  unfold sp_article
  have g0 : ¬ (p4.toInt < 0) := fun z => c_1 (ji_lt.mpr z)
  have g1 : 2 < (p4 / 10000).toInt := ji_lt.mp c_2
  split <;> first | rfl | (exfalso; omega)
theorem s_tX12_article_2 {p1 p2 p3 p4 : Int32} (c_1 : ¬ (p4 < 0)) (c_2 : ¬ (2 < (p4 / 10000))) (c_3 : 7 < ((p4 / 1000) - (p4 / 1000) / 10 * 10)) : (-1) = sp_article p1 p2 p3 p4 := by
  unfold sp_article
  have g0 : ¬ (p4.toInt < 0) := fun z => c_1 (ji_lt.mpr z)
  have g1 : ¬ (2 < (p4 / 10000).toInt) := fun z => c_2 (ji_lt.mpr z)
  have g2 : 7 < ((p4 / 1000) - (p4 / 1000) / 10 * 10).toInt := ji_lt.mp c_3
  split <;> first | rfl | (exfalso; omega)
theorem s_tX12_article_3 {p1 p2 p3 p4 : Int32} (c_1 : ¬ (p4 < 0)) (c_2 : ¬ (2 < (p4 / 10000))) (c_3 : ¬ (7 < ((p4 / 1000) - (p4 / 1000) / 10 * 10))) (c_4 : (p4 - p4 / 1000 * 1000) < 1) : (-1) = sp_article p1 p2 p3 p4 := by
  unfold sp_article
  have g0 : ¬ (p4.toInt < 0) := fun z => c_1 (ji_lt.mpr z)
  have g1 : ¬ (2 < (p4 / 10000).toInt) := fun z => c_2 (ji_lt.mpr z)
  have g2 : ¬ (7 < ((p4 / 1000) - (p4 / 1000) / 10 * 10).toInt) := fun z => c_3 (ji_lt.mpr z)
  have g3 : (p4 - p4 / 1000 * 1000).toInt < 1 := ji_lt.mp c_4
  split <;> first | rfl | (exfalso; omega)
theorem s_tX12_article_4 {p1 p2 p3 p4 : Int32} (c_1 : ¬ (p4 < 0)) (c_2 : ¬ (2 < (p4 / 10000))) (c_3 : ¬ (7 < ((p4 / 1000) - (p4 / 1000) / 10 * 10))) (c_4 : ¬ ((p4 - p4 / 1000 * 1000) < 1)) (c_5 : (p4 - p4 / 1000 * 1000) ≤ 200) (c_7 : jN p1 p2 p3 = 0) : (-1) = sp_article p1 p2 p3 p4 := by
  unfold sp_article
  have g0 : ¬ (p4.toInt < 0) := fun z => c_1 (ji_lt.mpr z)
  have g1 : ¬ (2 < (p4 / 10000).toInt) := fun z => c_2 (ji_lt.mpr z)
  have g2 : ¬ (7 < ((p4 / 1000) - (p4 / 1000) / 10 * 10).toInt) := fun z => c_3 (ji_lt.mpr z)
  have g3 : ¬ ((p4 - p4 / 1000 * 1000).toInt < 1) := fun z => c_4 (ji_lt.mpr z)
  have g4 : (p4 - p4 / 1000 * 1000).toInt ≤ 200 := ji_le.mp c_5
  have g5 := c_7
  split <;> first | rfl | (exfalso; omega)
theorem s_tX12_article_5 {p1 p2 p3 p4 : Int32} (c_1 : ¬ (p4 < 0)) (c_2 : ¬ (2 < (p4 / 10000))) (c_3 : ¬ (7 < ((p4 / 1000) - (p4 / 1000) / 10 * 10))) (c_4 : ¬ ((p4 - p4 / 1000 * 1000) < 1)) (c_5 : (p4 - p4 / 1000 * 1000) ≤ 200) (c_8 : ¬ (jN p1 p2 p3 = 0)) : 0 = sp_article p1 p2 p3 p4 := by
  unfold sp_article
  have g0 : ¬ (p4.toInt < 0) := fun z => c_1 (ji_lt.mpr z)
  have g1 : ¬ (2 < (p4 / 10000).toInt) := fun z => c_2 (ji_lt.mpr z)
  have g2 : ¬ (7 < ((p4 / 1000) - (p4 / 1000) / 10 * 10).toInt) := fun z => c_3 (ji_lt.mpr z)
  have g3 : ¬ ((p4 - p4 / 1000 * 1000).toInt < 1) := fun z => c_4 (ji_lt.mpr z)
  have g4 : (p4 - p4 / 1000 * 1000).toInt ≤ 200 := ji_le.mp c_5
  have g5 := c_8
  split <;> first | rfl | (exfalso; omega)
theorem s_tX12_article_6 {p1 p2 p3 p4 : Int32} (c_1 : ¬ (p4 < 0)) (c_2 : ¬ (2 < (p4 / 10000))) (c_3 : ¬ (7 < ((p4 / 1000) - (p4 / 1000) / 10 * 10))) (c_4 : ¬ ((p4 - p4 / 1000 * 1000) < 1)) (c_5 : ¬ ((p4 - p4 / 1000 * 1000) ≤ 200)) : (-1) = sp_article p1 p2 p3 p4 := by
  unfold sp_article
  have g0 : ¬ (p4.toInt < 0) := fun z => c_1 (ji_lt.mpr z)
  have g1 : ¬ (2 < (p4 / 10000).toInt) := fun z => c_2 (ji_lt.mpr z)
  have g2 : ¬ (7 < ((p4 / 1000) - (p4 / 1000) / 10 * 10).toInt) := fun z => c_3 (ji_lt.mpr z)
  have g3 : ¬ ((p4 - p4 / 1000 * 1000).toInt < 1) := fun z => c_4 (ji_lt.mpr z)
  have g4 : ¬ ((p4 - p4 / 1000 * 1000).toInt ≤ 200) := fun z => c_5 (ji_le.mpr z)
  split <;> first | rfl | (exfalso; omega)
set_option maxHeartbeats 1000000 in
set_option maxRecDepth 100000 in
theorem tX12_article (l : Launch) (dC : Nat → ClassId) (dI : Nat → Nat → Nat) (sz : Nat) (ad : Nat → Nat) (ca : Nat → ClassId) (p1 : Int32) (p2 : Int32) (p3 : Int32) (p4 : Int32) (tW : Nat) : Met l yX12_article (jk yX12_article cX12_article 9 (some .int)) ({ frames := 5, cells := 2, slots := 30, locals := 177 }) (va_Pc [.ref (ad 0), .int p1, .int p2, .int p3, .int p4] (jw_PZ (dC, dI) (xW ad ca) (xT ca) sz tW)) (va_Qi (fun (r : Int32) (_ : Unit) => r = sp_article p1 p2 p3 p4) (fun _ _ => True) (va_A (xW ad ca) sz)) 2 30 (va_A (xW ad ca) sz) := by
  refine Met.ofW (cc := cX12_article) (maxL := 9) (ret := (some .int)) (by decide) rfl ?_
  intro p e s m args below meth c s₁ B hml hv
  obtain ⟨rfl, ⟨hsz, hP, hK, hD0⟩, hZ, hT⟩ := hv
  have hx := B.exec
  have hb := B.bytes
  have hr := B.returns
  have hts := atoms_spec (ws := (jk yX12_article cX12_article 9 (some .int))) B.pre
  have hown : s.vm.findClass RX12 = some m.cls := findClass_of_methodNamed B.named
  have hlocks := B.notSynchronized
  subst hsz
  have hD := hD0.self (sz := s.heap.size)
  generalize hAe : (va_A (xW ad ca) s.heap.size) = A at hD hZ hT ⊢
  have hA : ∀ q : Nat, s.heap.size ≤ q → A q := fun q h => by rw [← hAe]; exact Or.inr h
  have hS : va_S A s.heap s.heap [] := va_S.rf
  have hP : va_P (dC, dI) vwCl (xW ad ca) s.heap := hP
  have hl := lv_entry ([.ref (ad 0), .int p1, .int p2, .int p3, .int p4]) (n := 9) (Nat.le_of_ble_eq_true rfl)
  rw [lg_entry_eq]
  generalize (lg_sl ([.ref (ad 0), .int p1, .int p2, .int p3, .int p4]) ++ List.replicate (9 - (lg_sl ([.ref (ad 0), .int p1, .int p2, .int p3, .int p4])).length) Slot.unset).toArray = ls at hl ⊢
  have hl : lv_has ls 9 [(0, .ref (ad 0)), (1, .int p1), (2, .int p2), (3, .int p3), (4, .int p4)] := hl
  refine lv_iload hx hb dX12_article_0 (lv_at hl 4 rfl) ?_
  refine lv_sipush (v := 10000) hx hb dX12_article_2 (by decide) ?_
  refine lv_idiv hx hb dX12_article_5 (by decide) ?_
  refine lv_istore (lv' := [(5, .int (p4 / 10000)), (0, .ref (ad 0)), (1, .int p1), (2, .int p2), (3, .int p3), (4, .int p4)]) hx hb dX12_article_6 hl (by decide) rfl (fun ls hl => ?_)
  refine lv_iload hx hb dX12_article_8 (lv_at hl 5 rfl) ?_
  refine lv_sipush (v := 1000) hx hb dX12_article_10 (by decide) ?_
  refine lv_idiv hx hb dX12_article_13 (by decide) ?_
  refine lv_bipush (v := 10) hx hb dX12_article_14 (by decide) ?_
  refine lv_irem hx hb dX12_article_16 (by decide) ?_
  refine lv_istore (lv' := [(6, .int ((p4 / 1000) - (p4 / 1000) / 10 * 10)), (5, .int (p4 / 10000)), (0, .ref (ad 0)), (1, .int p1), (2, .int p2), (3, .int p3), (4, .int p4)]) hx hb dX12_article_17 hl (by decide) rfl (fun ls hl => ?_)
  refine lv_iload hx hb dX12_article_19 (lv_at hl 6 rfl) ?_
  refine lv_sipush (v := 1000) hx hb dX12_article_21 (by decide) ?_
  refine lv_irem hx hb dX12_article_24 (by decide) ?_
  refine lv_istore (lv' := [(7, .int (p4 - p4 / 1000 * 1000)), (6, .int ((p4 / 1000) - (p4 / 1000) / 10 * 10)), (5, .int (p4 / 10000)), (0, .ref (ad 0)), (1, .int p1), (2, .int p2), (3, .int p3), (4, .int p4)]) hx hb dX12_article_25 hl (by decide) rfl (fun ls hl => ?_)
  refine lv_iload hx hb dX12_article_27 (lv_at hl 7 rfl) ?_
  refine lv_if_lt (tgt := 59) hx hb dX12_article_29 (by decide) (fun c_1 => ?_) (fun c_1 => ?_)
  · refine lv_iconst (v := (-1)) hx hb dX12_article_59 (by decide) ?_
    refine W.widen (k := 2) (n := 30) (Nat.le_of_ble_eq_true rfl) (Nat.le_of_ble_eq_true rfl) ?_
    exact W.iret (v := (-1)) hx hb hr (fun t ht hW => ⟨⟨(-1), (), rfl, (s_tX12_article_0 (p1 := p1) (p2 := p2) (p3 := p3) (p4 := p4) c_1), trivial⟩, hS.F ht⟩) hS.2.2 dX12_article_60
  · refine lv_iload hx hb dX12_article_32 (lv_at hl 2 rfl) ?_
    refine lv_iconst (v := 2) hx hb dX12_article_34 (by decide) ?_
    refine lv_icmp_gt (tgt := 59) hx hb dX12_article_35 (by decide) (fun c_2 => ?_) (fun c_2 => ?_)
    · refine lv_iconst (v := (-1)) hx hb dX12_article_59 (by decide) ?_
      refine W.widen (k := 2) (n := 30) (Nat.le_of_ble_eq_true rfl) (Nat.le_of_ble_eq_true rfl) ?_
      exact W.iret (v := (-1)) hx hb hr (fun t ht hW => ⟨⟨(-1), (), rfl, (s_tX12_article_1 (p1 := p1) (p2 := p2) (p3 := p3) (p4 := p4) c_1 c_2), trivial⟩, hS.F ht⟩) hS.2.2 dX12_article_60
    · refine lv_iload hx hb dX12_article_38 (lv_at hl 1 rfl) ?_
      refine lv_bipush (v := 7) hx hb dX12_article_40 (by decide) ?_
      refine lv_icmp_gt (tgt := 59) hx hb dX12_article_42 (by decide) (fun c_3 => ?_) (fun c_3 => ?_)
      · refine lv_iconst (v := (-1)) hx hb dX12_article_59 (by decide) ?_
        refine W.widen (k := 2) (n := 30) (Nat.le_of_ble_eq_true rfl) (Nat.le_of_ble_eq_true rfl) ?_
        exact W.iret (v := (-1)) hx hb hr (fun t ht hW => ⟨⟨(-1), (), rfl, (s_tX12_article_2 (p1 := p1) (p2 := p2) (p3 := p3) (p4 := p4) c_1 c_2 c_3), trivial⟩, hS.F ht⟩) hS.2.2 dX12_article_60
      · refine lv_iload hx hb dX12_article_45 (lv_at hl 0 rfl) ?_
        refine lv_iconst (v := 1) hx hb dX12_article_47 (by decide) ?_
        refine lv_icmp_lt (tgt := 59) hx hb dX12_article_48 (by decide) (fun c_4 => ?_) (fun c_4 => ?_)
        · refine lv_iconst (v := (-1)) hx hb dX12_article_59 (by decide) ?_
          refine W.widen (k := 2) (n := 30) (Nat.le_of_ble_eq_true rfl) (Nat.le_of_ble_eq_true rfl) ?_
          exact W.iret (v := (-1)) hx hb hr (fun t ht hW => ⟨⟨(-1), (), rfl, (s_tX12_article_3 (p1 := p1) (p2 := p2) (p3 := p3) (p4 := p4) c_1 c_2 c_3 c_4), trivial⟩, hS.F ht⟩) hS.2.2 dX12_article_60
        · refine lv_iload hx hb dX12_article_51 (lv_at hl 0 rfl) ?_
          refine lv_sipush (v := 200) hx hb dX12_article_53 (by decide) ?_
          refine lv_icmp_le (tgt := 61) hx hb dX12_article_56 (by decide) (fun c_5 => ?_) (fun c_5 => ?_)
          · refine lv_aload_n hx hb dX12_article_61 rfl (lv_at hl 3 rfl) ?_
            refine lv_iconst (v := 0) hx hb dX12_article_62 (by decide) ?_
            refine lv_iload_n hx hb dX12_article_63 rfl (lv_at hl 4 rfl) ?_
            refine lv_iload_n hx hb dX12_article_64 rfl (lv_at hl 5 rfl) ?_
            refine lv_iload_n hx hb dX12_article_65 rfl (lv_at hl 6 rfl) ?_
            refine jcg_q (va_runV (As := [.int 0, .int p1, .int p2, .int p3]) (rest := []) ⟨hx, hb, hml, hown, hts⟩ (kX12_newEntry_2 l dC dI _ ad ca p1 p2 p3 tW) (cwV 4 hts (jgoodV m_308 m_309 m_310 m_210 m_311) rfl rfl rfl (by decide +kernel) ⟨Nat.le_of_ble_eq_true rfl, Nat.le_of_ble_eq_true rfl⟩) ⟨jw_blindZ, va_recv hK hP (ci := 12) (q0 := 0) rfl rfl, fun U hU hW => ⟨rfl, jw_of hU hW hP hK hD, jz_of hU hW hD hS hA hZ hT⟩⟩ rfl rfl hl.1 rfl (lv_room (Nat.le_of_ble_eq_true rfl)) dX12_article_66 ⟨Nat.le_of_ble_eq_true rfl, Nat.le_of_ble_eq_true rfl⟩) hD hS hA (fun r_6 u_6 H locs hw_6 hP hK hD hS => ?_)
            obtain ⟨w_6, a_6, y_6, x_6_0, x_6_1⟩ := u_6
            rcases (show (w_6 = 0 ∧ jN p1 p2 p3 = 0 ∧ r_6 = none) ∨ (w_6 = 1 ∧ ¬ (jN p1 p2 p3 = 0) ∧ r_6 = some ((a_6 0))) from hw_6) with ⟨rfl, c_7, e_7_0⟩ | ⟨rfl, c_8, e_8_1⟩
            · have e_7_0 := e_7_0.symm
              subst e_7_0
              have hP : va_P (dC, dI) vwCl (xW ad ca) H := hP
              have hK : va_K (dC, dI) vwCl (xT ca) s := hK
              have hD : va_D A (xW ad ca) := hD
              refine jt_q Value.null rfl ?_
              refine lv_astoreN (lv' := [(8, .null), (7, .int (p4 - p4 / 1000 * 1000)), (6, .int ((p4 / 1000) - (p4 / 1000) / 10 * 10)), (5, .int (p4 / 10000)), (0, .ref (ad 0)), (1, .int p1), (2, .int p2), (3, .int p3), (4, .int p4)]) hx hb dX12_article_69 hl (by decide) rfl (fun ls hl => ?_)
              refine lv_aloadN hx hb dX12_article_71 (lv_at hl 0 rfl) ?_
              refine lv_ifnonnullN hx hb dX12_article_73 ?_
              refine lv_iconst (v := (-1)) hx hb dX12_article_76 (by decide) ?_
              refine W.widen (k := 2) (n := 30) (Nat.le_of_ble_eq_true rfl) (Nat.le_of_ble_eq_true rfl) ?_
              exact W.iret (v := (-1)) hx hb hr (fun t ht hW => ⟨⟨(-1), (), rfl, (s_tX12_article_4 (p1 := p1) (p2 := p2) (p3 := p3) (p4 := p4) c_1 c_2 c_3 c_4 c_5 c_7), trivial⟩, hS.F ht⟩) hS.2.2 dX12_article_77
            · have e_8_1 := e_8_1.symm
              subst e_8_1
              have hP : va_P (dC, dI) vwCl ((jS (jS (jS (jS (jS (jS (jS (jS (jS (jA (xW ad ca) [((a_6 0), .inr (0, [.int 0, .int 0, .ref ((a_6 1)), .long x_6_0.1, .int x_6_0.2.1, .int 0, .int 0, .int 0, .int 0, .int 0, .int (-1), .int 0, .int (-1), .int (-1), .int (-1), .int 0, .long 0, .int 0])), ((a_6 1), .inl ((y_6 1), (jN p1 p2 p3), .inl x_6_0.2.2))]) 38 (ad 38, .inl ((ca 38), 60, .inr (.inr (.inr (.inr (va_up (fun _ => none) 0 (some ((a_6 0)))))))))) 0 (ad 0, .inr (12, [.int 0, .int 0, .ref (ad 1), .ref (ad 11), .ref (ad 18), .ref (ad 19), .ref (ad 38), .int 1, .ref (ad 39), .int 0, .ref (ad 40), .int 0, .ref (ad 41), .int 0, .ref (ad 42), .ref (ad 53), .ref (ad 54), .ref (ad 55), .ref (ad 61), .ref (ad 70)]))) 18 (ad 18, .inr (6, [.ref (ad 11), .int (-1), .int 0, .int 0, .int 0, .int 0]))) 18 (ad 18, .inr (6, [.ref (ad 11), .int (-1), .int 0, .int 0, .int 0, .int 0]))) 18 (ad 18, .inr (6, [.ref (ad 11), .int (-1), .int 0, .int 1, .int 0, .int 0]))) 18 (ad 18, .inr (6, [.ref (ad 11), .int (-1), .int 0, .int 1, .int 1, .int 0]))) 18 (ad 18, .inr (6, [.ref (ad 11), .int (-1), .int 0, .int 1, .int 1, .int 1]))) 73 ((a_6 0), .inr (0, [.int 0, .int 0, .ref ((a_6 1)), .long x_6_0.1, .int x_6_0.2.1, .int 0, .int 0, .int 0, .int 0, .int 0, .int (-1), .int 0, .int (-1), .int (-1), .int (-1), .int 0, .long 0, .int 0]))) 73 ((a_6 0), .inr (0, [.int 0, .int 0, .ref ((a_6 1)), .long x_6_0.1, .int x_6_0.2.1, .int 0, .int x_6_1, .int 0, .int 0, .int 0, .int (-1), .int 0, .int (-1), .int (-1), .int (-1), .int 0, .long 0, .int 0])))) H := hP
              have hK : va_K (dC, dI) vwCl ((xT ca ++ [((y_6 1), .byte)])) s := hK
              have hD : va_D A ((jS (jS (jS (jS (jS (jS (jS (jS (jS (jA (xW ad ca) [((a_6 0), .inr (0, [.int 0, .int 0, .ref ((a_6 1)), .long x_6_0.1, .int x_6_0.2.1, .int 0, .int 0, .int 0, .int 0, .int 0, .int (-1), .int 0, .int (-1), .int (-1), .int (-1), .int 0, .long 0, .int 0])), ((a_6 1), .inl ((y_6 1), (jN p1 p2 p3), .inl x_6_0.2.2))]) 38 (ad 38, .inl ((ca 38), 60, .inr (.inr (.inr (.inr (va_up (fun _ => none) 0 (some ((a_6 0)))))))))) 0 (ad 0, .inr (12, [.int 0, .int 0, .ref (ad 1), .ref (ad 11), .ref (ad 18), .ref (ad 19), .ref (ad 38), .int 1, .ref (ad 39), .int 0, .ref (ad 40), .int 0, .ref (ad 41), .int 0, .ref (ad 42), .ref (ad 53), .ref (ad 54), .ref (ad 55), .ref (ad 61), .ref (ad 70)]))) 18 (ad 18, .inr (6, [.ref (ad 11), .int (-1), .int 0, .int 0, .int 0, .int 0]))) 18 (ad 18, .inr (6, [.ref (ad 11), .int (-1), .int 0, .int 0, .int 0, .int 0]))) 18 (ad 18, .inr (6, [.ref (ad 11), .int (-1), .int 0, .int 1, .int 0, .int 0]))) 18 (ad 18, .inr (6, [.ref (ad 11), .int (-1), .int 0, .int 1, .int 1, .int 0]))) 18 (ad 18, .inr (6, [.ref (ad 11), .int (-1), .int 0, .int 1, .int 1, .int 1]))) 73 ((a_6 0), .inr (0, [.int 0, .int 0, .ref ((a_6 1)), .long x_6_0.1, .int x_6_0.2.1, .int 0, .int 0, .int 0, .int 0, .int 0, .int (-1), .int 0, .int (-1), .int (-1), .int (-1), .int 0, .long 0, .int 0]))) 73 ((a_6 0), .inr (0, [.int 0, .int 0, .ref ((a_6 1)), .long x_6_0.1, .int x_6_0.2.1, .int 0, .int x_6_1, .int 0, .int 0, .int 0, .int (-1), .int 0, .int (-1), .int (-1), .int (-1), .int 0, .long 0, .int 0])))) := hD
              refine jt_q (Value.ref ((a_6 0))) rfl ?_
              refine lv_astore (lv' := [(8, .ref ((a_6 0))), (7, .int (p4 - p4 / 1000 * 1000)), (6, .int ((p4 / 1000) - (p4 / 1000) / 10 * 10)), (5, .int (p4 / 10000)), (0, .ref (ad 0)), (1, .int p1), (2, .int p2), (3, .int p3), (4, .int p4)]) hx hb dX12_article_69 hl (by decide) rfl (fun ls hl => ?_)
              refine lv_aload hx hb dX12_article_71 (lv_at hl 0 rfl) ?_
              refine lv_ifnonnull (tgt := 78) hx hb dX12_article_73 (by decide) ?_
              refine lv_aload hx hb dX12_article_78 (lv_at hl 0 rfl) ?_
              refine lv_iload hx hb dX12_article_80 (lv_at hl 3 rfl) ?_
              refine va_put (D := (dC, dI)) (ci := 0) (v := .int (p4 / 10000)) (ty := .int) (C := RX0) (T := TX0) (N := 18) hx hb hts (jh hin_RX0) tyX0 tyX0_ok nmX0 hown hK hP hD hS 73 (jg_s (n := 75) (jn_s (jn_s (jn_s (jn_s (jn_s (jn_s (jn_s (jn_s (jn_a (n := 73) (m := 2) rfl rfl))))))))) (Nat.le_of_ble_eq_true rfl)) rfl 7 (by decide) (hts (.fieldLink RX12 177 "BookOfAll$Entry" "k" "I") (jm m_312)) (fun _ h9 => h9) rfl (by decide +kernel) rfl rfl (Nat.le_of_ble_eq_true rfl) dX12_article_82 (fun H locs hP hD hS => ?_)
              refine lv_aload hx hb dX12_article_85 (lv_at hl 0 rfl) ?_
              refine lv_iload hx hb dX12_article_87 (lv_at hl 2 rfl) ?_
              refine va_put (D := (dC, dI)) (ci := 0) (v := .int ((p4 / 1000) - (p4 / 1000) / 10 * 10)) (ty := .int) (C := RX0) (T := TX0) (N := 18) hx hb hts (jh hin_RX0) tyX0 tyX0_ok nmX0 hown hK hP hD hS 73 (jg_s (n := 75) (jn_s (jn_s (jn_s (jn_s (jn_s (jn_s (jn_s (jn_s (jn_s (jn_a (n := 73) (m := 2) rfl rfl)))))))))) (Nat.le_of_ble_eq_true rfl)) rfl 8 (by decide) (hts (.fieldLink RX12 180 "BookOfAll$Entry" "field" "I") (jm m_313)) (fun _ h9 => h9) rfl (by decide +kernel) rfl rfl (Nat.le_of_ble_eq_true rfl) dX12_article_89 (fun H locs hP hD hS => ?_)
              refine lv_aload hx hb dX12_article_92 (lv_at hl 0 rfl) ?_
              refine lv_iload hx hb dX12_article_94 (lv_at hl 1 rfl) ?_
              refine va_put (D := (dC, dI)) (ci := 0) (v := .int (p4 - p4 / 1000 * 1000)) (ty := .int) (C := RX0) (T := TX0) (N := 18) hx hb hts (jh hin_RX0) tyX0 tyX0_ok nmX0 hown hK hP hD hS 73 (jg_s (n := 75) (jn_s (jn_s (jn_s (jn_s (jn_s (jn_s (jn_s (jn_s (jn_s (jn_s (jn_a (n := 73) (m := 2) rfl rfl))))))))))) (Nat.le_of_ble_eq_true rfl)) rfl 9 (by decide) (hts (.fieldLink RX12 183 "BookOfAll$Entry" "asked" "I") (jm m_314)) (fun _ h9 => h9) rfl (by decide +kernel) rfl rfl (Nat.le_of_ble_eq_true rfl) dX12_article_96 (fun H locs hP hD hS => ?_)
              refine lv_aload hx hb dX12_article_99 (lv_at hl 0 rfl) ?_
              refine va_get (D := (dC, dI)) (ci := 0) (v := .int 0) (C := RX0) (T := TX0) (N := 18) hx hb hts (jh hin_RX0) hown hK hP 73 (jg_s (n := 75) (jn_s (jn_s (jn_s (jn_s (jn_s (jn_s (jn_s (jn_s (jn_s (jn_s (jn_s (jn_a (n := 73) (m := 2) rfl rfl)))))))))))) (Nat.le_of_ble_eq_true rfl)) rfl 0 (by decide) (hts (.fieldLink RX12 186 "BookOfAll$Entry" "number" "I") (jm m_315)) (fun _ h9 => h9) rfl dX12_article_101 ?_
              refine W.widen (k := 2) (n := 30) (Nat.le_of_ble_eq_true rfl) (Nat.le_of_ble_eq_true rfl) ?_
              exact W.iret (v := 0) hx hb hr (fun t ht hW => ⟨⟨0, (), rfl, (s_tX12_article_5 (p1 := p1) (p2 := p2) (p3 := p3) (p4 := p4) c_1 c_2 c_3 c_4 c_5 c_8), trivial⟩, hS.F ht⟩) hS.2.2 dX12_article_104
          · refine lv_iconst (v := (-1)) hx hb dX12_article_59 (by decide) ?_
            refine W.widen (k := 2) (n := 30) (Nat.le_of_ble_eq_true rfl) (Nat.le_of_ble_eq_true rfl) ?_
            exact W.iret (v := (-1)) hx hb hr (fun t ht hW => ⟨⟨(-1), (), rfl, (s_tX12_article_6 (p1 := p1) (p2 := p2) (p3 := p3) (p4 := p4) c_1 c_2 c_3 c_4 c_5), trivial⟩, hS.F ht⟩) hS.2.2 dX12_article_60
set_option maxHeartbeats 500000 in
set_option maxRecDepth 100000 in
theorem kX12_entryAt_2 (l : Launch) (dC : Nat → ClassId) (dI : Nat → Nat → Nat) (sz : Nat) (ad : Nat → Nat) (ca : Nat → ClassId) (p1 : Int32) : Met l yX12_entryAt (jk yX12_entryAt cX12_entryAt 2 (some (.object "BookOfAll$Entry"))) ({ frames := 0, cells := 0, slots := 0, locals := 0 }) (va_Pc [.ref (ad 0), .int p1] (jw_P (dC, dI) (xW ad ca) (xT ca) sz)) (va_Qq (fun (r : Option Nat) (_ : Unit) => (r = none)) (fun _ _ => True) (va_A [] sz)) 0 0 (va_A [] sz) := by
  refine Met.ofW (cc := cX12_entryAt) (maxL := 2) (ret := (some (.object "BookOfAll$Entry"))) (by decide) rfl ?_
  intro p e s m args below meth c s₁ B hml hv
  obtain ⟨rfl, hsz, hP, hK, hD0⟩ := hv
  have hx := B.exec
  have hb := B.bytes
  have hr := B.returns
  have hts := atoms_spec (ws := (jk yX12_entryAt cX12_entryAt 2 (some (.object "BookOfAll$Entry")))) B.pre
  have hown : s.vm.findClass RX12 = some m.cls := findClass_of_methodNamed B.named
  have hlocks := B.notSynchronized
  subst hsz
  have hD := hD0
  generalize hAe : (va_A [] s.heap.size) = A
  have hA : ∀ q : Nat, s.heap.size ≤ q → A q := fun q h => by rw [← hAe]; exact Or.inr h
  have hS : va_S A s.heap s.heap [] := va_S.rf
  have hP : va_P (dC, dI) vwCl (xW ad ca) s.heap := hP
  have hl := lv_entry ([.ref (ad 0), .int p1]) (n := 2) (Nat.le_of_ble_eq_true rfl)
  rw [lg_entry_eq]
  generalize (lg_sl ([.ref (ad 0), .int p1]) ++ List.replicate (2 - (lg_sl ([.ref (ad 0), .int p1])).length) Slot.unset).toArray = ls at hl ⊢
  have hl : lv_has ls 2 [(0, .ref (ad 0)), (1, .int p1)] := hl
  refine lv_iload_n hx hb dX12_entryAt_0 rfl (lv_at hl 1 rfl) ?_
  refine lv_if_lt (tgt := 27) hx hb dX12_entryAt_1 (by decide) (fun c_1 => ?_) (fun c_1 => ?_)
  · refine lv_null hx hb dX12_entryAt_27 ?_
    exact W.aret (v := .null) hx hb hr (Or.inl ⟨_, rfl⟩) (Or.inl rfl) (fun t ht hW => ⟨⟨none, (), rfl, rfl, trivial⟩, hS.F ht⟩) hS.2.2 dX12_entryAt_28
  · refine lv_iload_n hx hb dX12_entryAt_4 rfl (lv_at hl 1 rfl) ?_
    refine lv_aload_n hx hb dX12_entryAt_5 rfl (lv_at hl 0 rfl) ?_
    refine va_get (D := (dC, dI)) (ci := 12) (v := .int 0) (C := RX12) (T := TX12) (N := 20) hx hb hts (jh hin_RX12) hown hK hP 0 rfl rfl 7 (by decide) (hts (.fieldLink RX12 203 "BookOfAll" "entryCount" "I") (jm m_259)) (fun _ h9 => h9) rfl dX12_entryAt_6 ?_
    refine lv_icmp_ge (tgt := 27) hx hb dX12_entryAt_9 (by decide) (fun _ => ?_) (fun z => absurd (jb_ge (jl_nlt c_1) (by decide)) z)
    refine lv_null hx hb dX12_entryAt_27 ?_
    exact W.aret (v := .null) hx hb hr (Or.inl ⟨_, rfl⟩) (Or.inl rfl) (fun t ht hW => ⟨⟨none, (), rfl, rfl, trivial⟩, hS.F ht⟩) hS.2.2 dX12_entryAt_28
set_option maxHeartbeats 500000 in
set_option maxRecDepth 100000 in
theorem tX12_pointer (l : Launch) (dC : Nat → ClassId) (dI : Nat → Nat → Nat) (sz : Nat) (ad : Nat → Nat) (ca : Nat → ClassId) (p1 : Int32) (p2 : Int32) (p3 : Int32) (p4 : Int32) : Met l yX12_pointer (jk yX12_pointer cX12_pointer 6 (some .int)) ({ frames := 1, cells := 0, slots := 0, locals := 21 }) (va_Pc [.ref (ad 0), .int p1, .int p2, .int p3, .int p4] (jw_P (dC, dI) (xW ad ca) (xT ca) sz)) (va_Qi (fun (r : Int32) (_ : Unit) => (r = (-1))) (fun _ _ => True) (va_A [] sz)) 0 0 (va_A [] sz) := by
  refine Met.ofW (cc := cX12_pointer) (maxL := 6) (ret := (some .int)) (by decide) rfl ?_
  intro p e s m args below meth c s₁ B hml hv
  obtain ⟨rfl, hsz, hP, hK, hD0⟩ := hv
  have hx := B.exec
  have hb := B.bytes
  have hr := B.returns
  have hts := atoms_spec (ws := (jk yX12_pointer cX12_pointer 6 (some .int))) B.pre
  have hown : s.vm.findClass RX12 = some m.cls := findClass_of_methodNamed B.named
  have hlocks := B.notSynchronized
  subst hsz
  have hD := hD0
  generalize hAe : (va_A [] s.heap.size) = A
  have hA : ∀ q : Nat, s.heap.size ≤ q → A q := fun q h => by rw [← hAe]; exact Or.inr h
  have hS : va_S A s.heap s.heap [] := va_S.rf
  have hP : va_P (dC, dI) vwCl (xW ad ca) s.heap := hP
  have hl := lv_entry ([.ref (ad 0), .int p1, .int p2, .int p3, .int p4]) (n := 6) (Nat.le_of_ble_eq_true rfl)
  rw [lg_entry_eq]
  generalize (lg_sl ([.ref (ad 0), .int p1, .int p2, .int p3, .int p4]) ++ List.replicate (6 - (lg_sl ([.ref (ad 0), .int p1, .int p2, .int p3, .int p4])).length) Slot.unset).toArray = ls at hl ⊢
  have hl : lv_has ls 6 [(0, .ref (ad 0)), (1, .int p1), (2, .int p2), (3, .int p3), (4, .int p4)] := hl
  refine lv_aload_n hx hb dX12_pointer_0 rfl (lv_at hl 0 rfl) ?_
  refine lv_iload hx hb dX12_pointer_1 (lv_at hl 4 rfl) ?_
  refine jc_q (va_runV (As := [.int p4]) (rest := []) ⟨hx, hb, hml, hown, hts⟩ (kX12_entryAt_2 l dC dI _ ad ca p4) (cwV 1 hts (jgoodV m_316 m_317 m_318 m_210 m_319) rfl rfl rfl (by decide +kernel) ⟨Nat.le_of_ble_eq_true rfl, Nat.le_of_ble_eq_true rfl⟩) ⟨jw_blind, va_recv hK hP (ci := 12) (q0 := 0) rfl rfl, fun U hU hW => ⟨rfl, jw_of hU hW hP hK hD⟩⟩ rfl rfl hl.1 rfl (lv_room (Nat.le_of_ble_eq_true rfl)) dX12_pointer_3 ⟨Nat.le_of_ble_eq_true rfl, Nat.le_of_ble_eq_true rfl⟩) hP hS hA (fun r_1 H locs hw_1 hP hS => ?_)
  have hw_1 : none = r_1 := Eq.symm hw_1
  subst hw_1
  refine jt_q Value.null rfl ?_
  refine lv_ifnonnullN hx hb dX12_pointer_6 ?_
  refine lv_iconst (v := (-1)) hx hb dX12_pointer_9 (by decide) ?_
  exact W.iret (v := (-1)) hx hb hr (fun t ht hW => ⟨⟨(-1), (), rfl, rfl, trivial⟩, hS.F ht⟩) hS.2.2 dX12_pointer_10
set_option maxHeartbeats 500000 in
set_option maxRecDepth 100000 in
theorem kX12_areEntries_2 (l : Launch) (dC : Nat → ClassId) (dI : Nat → Nat → Nat) (sz : Nat) (ad : Nat → Nat) (ca : Nat → ClassId) (p1 : Int32) (p2 : Int32) : Met l yX12_areEntries (jk yX12_areEntries cX12_areEntries 8 (some .boolean)) ({ frames := 1, cells := 0, slots := 0, locals := 21 }) (va_Pc [.ref (ad 0), .int p1, .int p2] (jw_P (dC, dI) (xW ad ca) (xT ca) sz)) (va_Qi (fun (r : Int32) (_ : Unit) => (r = 0)) (fun _ _ => True) (va_A [] sz)) 0 0 (va_A [] sz) := by
  refine Met.ofW (cc := cX12_areEntries) (maxL := 8) (ret := (some .boolean)) (by decide) rfl ?_
  intro p e s m args below meth c s₁ B hml hv
  obtain ⟨rfl, hsz, hP, hK, hD0⟩ := hv
  have hx := B.exec
  have hb := B.bytes
  have hr := B.returns
  have hts := atoms_spec (ws := (jk yX12_areEntries cX12_areEntries 8 (some .boolean))) B.pre
  have hown : s.vm.findClass RX12 = some m.cls := findClass_of_methodNamed B.named
  have hlocks := B.notSynchronized
  subst hsz
  have hD := hD0
  generalize hAe : (va_A [] s.heap.size) = A
  have hA : ∀ q : Nat, s.heap.size ≤ q → A q := fun q h => by rw [← hAe]; exact Or.inr h
  have hS : va_S A s.heap s.heap [] := va_S.rf
  have hP : va_P (dC, dI) vwCl (xW ad ca) s.heap := hP
  have hl := lv_entry ([.ref (ad 0), .int p1, .int p2]) (n := 8) (Nat.le_of_ble_eq_true rfl)
  rw [lg_entry_eq]
  generalize (lg_sl ([.ref (ad 0), .int p1, .int p2]) ++ List.replicate (8 - (lg_sl ([.ref (ad 0), .int p1, .int p2])).length) Slot.unset).toArray = ls at hl ⊢
  have hl : lv_has ls 8 [(0, .ref (ad 0)), (1, .int p1), (2, .int p2)] := hl
  refine lv_iload_n hx hb dX12_areEntries_0 rfl (lv_at hl 1 rfl) ?_
  refine lv_if_lt (tgt := 14) hx hb dX12_areEntries_1 (by decide) (fun c_1 => ?_) (fun c_1 => ?_)
  · refine lv_iconst (v := 0) hx hb dX12_areEntries_14 (by decide) ?_
    exact W.zret (v := 0) (ty := .boolean) hx hb hr rfl (fun t ht hW => ⟨⟨0, (), rfl, rfl, trivial⟩, hS.F ht⟩) hS.2.2 dX12_areEntries_15
  · refine lv_iload_n hx hb dX12_areEntries_4 rfl (lv_at hl 2 rfl) ?_
    refine lv_iconst (v := 1) hx hb dX12_areEntries_5 (by decide) ?_
    refine lv_icmp_lt (tgt := 14) hx hb dX12_areEntries_6 (by decide) (fun c_2 => ?_) (fun c_2 => ?_)
    · refine lv_iconst (v := 0) hx hb dX12_areEntries_14 (by decide) ?_
      exact W.zret (v := 0) (ty := .boolean) hx hb hr rfl (fun t ht hW => ⟨⟨0, (), rfl, rfl, trivial⟩, hS.F ht⟩) hS.2.2 dX12_areEntries_15
    · refine lv_iload_n hx hb dX12_areEntries_9 rfl (lv_at hl 2 rfl) ?_
      refine lv_iconst (v := 4) hx hb dX12_areEntries_10 (by decide) ?_
      refine lv_icmp_le (tgt := 16) hx hb dX12_areEntries_11 (by decide) (fun c_3 => ?_) (fun c_3 => ?_)
      · refine lv_lconst (v := 0) hx hb dX12_areEntries_16 (by decide) ?_
        refine lv_lstore_n (lv' := [(3, .long 0), (0, .ref (ad 0)), (1, .int p1), (2, .int p2)]) hx hb dX12_areEntries_17 rfl hl (by decide) rfl (fun ls hl => ?_)
        refine lv_iload_n hx hb dX12_areEntries_18 rfl (lv_at hl 2 rfl) ?_
        refine lv_istore (lv' := [(5, .int p1), (3, .long 0), (0, .ref (ad 0)), (1, .int p1), (2, .int p2)]) hx hb dX12_areEntries_19 hl (by decide) rfl (fun ls hl => ?_)
        refine lv_iconst (v := 0) hx hb dX12_areEntries_21 (by decide) ?_
        refine lv_istore (lv' := [(6, .int 0), (5, .int p1), (3, .long 0), (0, .ref (ad 0)), (1, .int p1), (2, .int p2)]) hx hb dX12_areEntries_22 hl (by decide) rfl (fun ls hl => ?_)
        refine lv_iload hx hb dX12_areEntries_24 (lv_at hl 0 rfl) ?_
        refine lv_iload_n hx hb dX12_areEntries_26 rfl (lv_at hl 5 rfl) ?_
        refine lv_icmp_ge (tgt := 79) hx hb dX12_areEntries_27 (by decide) (fun z => absurd z (jb_nle (jl_nlt c_2) (by decide))) (fun _ => ?_)
        refine lv_iload hx hb dX12_areEntries_30 (lv_at hl 1 rfl) ?_
        refine lv_bipush (v := 100) hx hb dX12_areEntries_32 (by decide) ?_
        refine lv_irem hx hb dX12_areEntries_34 (by decide) ?_
        refine lv_istore (lv' := [(7, .int (p1 - p1 / 100 * 100)), (6, .int 0), (5, .int p1), (3, .long 0), (0, .ref (ad 0)), (1, .int p1), (2, .int p2)]) hx hb dX12_areEntries_35 hl (by decide) rfl (fun ls hl => ?_)
        refine lv_aload_n hx hb dX12_areEntries_37 rfl (lv_at hl 4 rfl) ?_
        refine lv_iload hx hb dX12_areEntries_38 (lv_at hl 0 rfl) ?_
        refine jc_q (va_runV (As := [.int (p1 - p1 / 100 * 100)]) (rest := []) ⟨hx, hb, hml, hown, hts⟩ (kX12_entryAt_2 l dC dI _ ad ca (p1 - p1 / 100 * 100)) (cwV 1 hts (jgoodV m_316 m_317 m_318 m_210 m_319) rfl rfl rfl (by decide +kernel) ⟨Nat.le_of_ble_eq_true rfl, Nat.le_of_ble_eq_true rfl⟩) ⟨jw_blind, va_recv hK hP (ci := 12) (q0 := 0) rfl rfl, fun U hU hW => ⟨rfl, jw_of hU hW hP hK hD⟩⟩ rfl rfl hl.1 rfl (lv_room (Nat.le_of_ble_eq_true rfl)) dX12_areEntries_40 ⟨Nat.le_of_ble_eq_true rfl, Nat.le_of_ble_eq_true rfl⟩) hP hS hA (fun r_4 H locs hw_4 hP hS => ?_)
        have hw_4 : none = r_4 := Eq.symm hw_4
        subst hw_4
        refine jt_q Value.null rfl ?_
        refine lv_ifnullN (tgt := 57) hx hb dX12_areEntries_43 (by decide) ?_
        refine lv_iconst (v := 0) hx hb dX12_areEntries_57 (by decide) ?_
        exact W.zret (v := 0) (ty := .boolean) hx hb hr rfl (fun t ht hW => ⟨⟨0, (), rfl, rfl, trivial⟩, hS.F ht⟩) hS.2.2 dX12_areEntries_58
      · refine lv_iconst (v := 0) hx hb dX12_areEntries_14 (by decide) ?_
        exact W.zret (v := 0) (ty := .boolean) hx hb hr rfl (fun t ht hW => ⟨⟨0, (), rfl, rfl, trivial⟩, hS.F ht⟩) hS.2.2 dX12_areEntries_15
set_option maxHeartbeats 500000 in
set_option maxRecDepth 100000 in
theorem tX12_plate (l : Launch) (dC : Nat → ClassId) (dI : Nat → Nat → Nat) (sz : Nat) (ad : Nat → Nat) (ca : Nat → ClassId) (p1 : Int32) (p2 : Int32) (p3 : Int32) (p4 : Int32) (p5 : Int32) : Met l yX12_plate (jk yX12_plate cX12_plate 7 (some .int)) ({ frames := 2, cells := 0, slots := 0, locals := 48 }) (va_Pc [.ref (ad 0), .int p1, .int p2, .int p3, .int p4, .int p5] (jw_P (dC, dI) (xW ad ca) (xT ca) sz)) (va_Qi (fun (r : Int32) (_ : Unit) => (r = (-1))) (fun _ _ => True) (va_A [] sz)) 0 0 (va_A [] sz) := by
  refine Met.ofW (cc := cX12_plate) (maxL := 7) (ret := (some .int)) (by decide) rfl ?_
  intro p e s m args below meth c s₁ B hml hv
  obtain ⟨rfl, hsz, hP, hK, hD0⟩ := hv
  have hx := B.exec
  have hb := B.bytes
  have hr := B.returns
  have hts := atoms_spec (ws := (jk yX12_plate cX12_plate 7 (some .int))) B.pre
  have hown : s.vm.findClass RX12 = some m.cls := findClass_of_methodNamed B.named
  have hlocks := B.notSynchronized
  subst hsz
  have hD := hD0
  generalize hAe : (va_A [] s.heap.size) = A
  have hA : ∀ q : Nat, s.heap.size ≤ q → A q := fun q h => by rw [← hAe]; exact Or.inr h
  have hS : va_S A s.heap s.heap [] := va_S.rf
  have hP : va_P (dC, dI) vwCl (xW ad ca) s.heap := hP
  have hl := lv_entry ([.ref (ad 0), .int p1, .int p2, .int p3, .int p4, .int p5]) (n := 7) (Nat.le_of_ble_eq_true rfl)
  rw [lg_entry_eq]
  generalize (lg_sl ([.ref (ad 0), .int p1, .int p2, .int p3, .int p4, .int p5]) ++ List.replicate (7 - (lg_sl ([.ref (ad 0), .int p1, .int p2, .int p3, .int p4, .int p5])).length) Slot.unset).toArray = ls at hl ⊢
  have hl : lv_has ls 7 [(0, .ref (ad 0)), (1, .int p1), (2, .int p2), (3, .int p3), (4, .int p4), (5, .int p5)] := hl
  refine lv_aload_n hx hb dX12_plate_0 rfl (lv_at hl 0 rfl) ?_
  refine lv_iload hx hb dX12_plate_1 (lv_at hl 4 rfl) ?_
  refine lv_iload hx hb dX12_plate_3 (lv_at hl 5 rfl) ?_
  refine jc_i (va_runV (As := [.int p4, .int p5]) (rest := []) ⟨hx, hb, hml, hown, hts⟩ (kX12_areEntries_2 l dC dI _ ad ca p4 p5) (cwV 2 hts (jgoodV m_320 m_321 m_322 m_210 m_323) rfl rfl rfl (by decide +kernel) ⟨Nat.le_of_ble_eq_true rfl, Nat.le_of_ble_eq_true rfl⟩) ⟨jw_blind, va_recv hK hP (ci := 12) (q0 := 0) rfl rfl, fun U hU hW => ⟨rfl, jw_of hU hW hP hK hD⟩⟩ rfl rfl hl.1 rfl (lv_room (Nat.le_of_ble_eq_true rfl)) dX12_plate_5 ⟨Nat.le_of_ble_eq_true rfl, Nat.le_of_ble_eq_true rfl⟩) hP hS hA (fun r_1 H locs hw_1 hP hS => ?_)
  have hw_1 : 0 = r_1 := Eq.symm hw_1
  subst hw_1
  refine lv_if_ne (tgt := 13) hx hb dX12_plate_8 (by decide) (fun z => absurd (by decide) z) (fun _ => ?_)
  refine lv_iconst (v := (-1)) hx hb dX12_plate_11 (by decide) ?_
  exact W.iret (v := (-1)) hx hb hr (fun t ht hW => ⟨⟨(-1), (), rfl, rfl, trivial⟩, hS.F ht⟩) hS.2.2 dX12_plate_12
set_option maxHeartbeats 500000 in
set_option maxRecDepth 100000 in
theorem kX12_entryOfKind_2 (l : Launch) (dC : Nat → ClassId) (dI : Nat → Nat → Nat) (sz : Nat) (ad : Nat → Nat) (ca : Nat → ClassId) (p1 : Int32) : Met l yX12_entryOfKind (jk yX12_entryOfKind cX12_entryOfKind 4 (some (.object "BookOfAll$Entry"))) ({ frames := 1, cells := 0, slots := 0, locals := 21 }) (va_Pc [.ref (ad 0), .int p1, .int 1] (jw_P (dC, dI) (xW ad ca) (xT ca) sz)) (va_Qq (fun (r : Option Nat) (_ : Unit) => (r = none)) (fun _ _ => True) (va_A [] sz)) 0 0 (va_A [] sz) := by
  refine Met.ofW (cc := cX12_entryOfKind) (maxL := 4) (ret := (some (.object "BookOfAll$Entry"))) (by decide) rfl ?_
  intro p e s m args below meth c s₁ B hml hv
  obtain ⟨rfl, hsz, hP, hK, hD0⟩ := hv
  have hx := B.exec
  have hb := B.bytes
  have hr := B.returns
  have hts := atoms_spec (ws := (jk yX12_entryOfKind cX12_entryOfKind 4 (some (.object "BookOfAll$Entry")))) B.pre
  have hown : s.vm.findClass RX12 = some m.cls := findClass_of_methodNamed B.named
  have hlocks := B.notSynchronized
  subst hsz
  have hD := hD0
  generalize hAe : (va_A [] s.heap.size) = A
  have hA : ∀ q : Nat, s.heap.size ≤ q → A q := fun q h => by rw [← hAe]; exact Or.inr h
  have hS : va_S A s.heap s.heap [] := va_S.rf
  have hP : va_P (dC, dI) vwCl (xW ad ca) s.heap := hP
  have hl := lv_entry ([.ref (ad 0), .int p1, .int 1]) (n := 4) (Nat.le_of_ble_eq_true rfl)
  rw [lg_entry_eq]
  generalize (lg_sl ([.ref (ad 0), .int p1, .int 1]) ++ List.replicate (4 - (lg_sl ([.ref (ad 0), .int p1, .int 1])).length) Slot.unset).toArray = ls at hl ⊢
  have hl : lv_has ls 4 [(0, .ref (ad 0)), (1, .int p1), (2, .int 1)] := hl
  refine lv_aload_n hx hb dX12_entryOfKind_0 rfl (lv_at hl 0 rfl) ?_
  refine lv_iload_n hx hb dX12_entryOfKind_1 rfl (lv_at hl 1 rfl) ?_
  refine jc_q (va_runV (As := [.int p1]) (rest := []) ⟨hx, hb, hml, hown, hts⟩ (kX12_entryAt_2 l dC dI _ ad ca p1) (cwV 1 hts (jgoodV m_316 m_317 m_318 m_210 m_319) rfl rfl rfl (by decide +kernel) ⟨Nat.le_of_ble_eq_true rfl, Nat.le_of_ble_eq_true rfl⟩) ⟨jw_blind, va_recv hK hP (ci := 12) (q0 := 0) rfl rfl, fun U hU hW => ⟨rfl, jw_of hU hW hP hK hD⟩⟩ rfl rfl hl.1 rfl (lv_room (Nat.le_of_ble_eq_true rfl)) dX12_entryOfKind_2 ⟨Nat.le_of_ble_eq_true rfl, Nat.le_of_ble_eq_true rfl⟩) hP hS hA (fun r_1 H locs hw_1 hP hS => ?_)
  have hw_1 : none = r_1 := Eq.symm hw_1
  subst hw_1
  refine jt_q Value.null rfl ?_
  refine lv_astore_nN (lv' := [(3, .null), (0, .ref (ad 0)), (1, .int p1), (2, .int 1)]) hx hb dX12_entryOfKind_5 rfl hl (by decide) rfl (fun ls hl => ?_)
  refine lv_aload_nN hx hb dX12_entryOfKind_6 rfl (lv_at hl 0 rfl) ?_
  refine lv_ifnullN (tgt := 22) hx hb dX12_entryOfKind_7 (by decide) ?_
  refine lv_null hx hb dX12_entryOfKind_22 ?_
  exact W.aret (v := .null) hx hb hr (Or.inl ⟨_, rfl⟩) (Or.inl rfl) (fun t ht hW => ⟨⟨none, (), rfl, rfl, trivial⟩, hS.F ht⟩) hS.2.2 dX12_entryOfKind_23
