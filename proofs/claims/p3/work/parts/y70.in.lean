set_option maxHeartbeats 4000000 in
set_option maxRecDepth 100000 in
/-- Arrays.fill over one array of ints -/
theorem kfill (l : Launch) (dC : Nat → ClassId) (dI : Nat → Nat → Nat) (sz h0 n : Nat) (cA : ClassId) (f : Nat → Int32) (v : Int32) (hn : n < 2 ^ 31) : Met l yJ7_fill_53178 (jk yJ7_fill_53178 cJ7_fill_53178 4 none) ({ frames := 0, cells := 0, slots := 0, locals := 0 }) (va_Pc [.ref h0, .int v] (jw_P (dC, dI) [(h0, .inl (cA, n, .inl f))] [(cA, .int)] sz)) (va_Qv (fun (_ : Unit) => True) (fun _ t => va_P (dC, dI) vwCl [(h0, .inl (cA, n, .inl (jfill f n v)))] t.heap ∧ va_K (dC, dI) vwCl [(cA, .int)] t ∧ va_D (va_A [(h0, .inl (cA, n, .inl f))] sz) [(h0, .inl (cA, n, .inl (jfill f n v)))]) (va_A [(h0, .inl (cA, n, .inl f))] sz)) 0 0 (va_A [(h0, .inl (cA, n, .inl f))] sz) := by
  refine Met.ofW (cc := cJ7_fill_53178) (maxL := 4) (ret := none) (by decide) rfl ?_
  intro p e s m args below meth c s₁ B hml hv
  obtain ⟨rfl, hsz, hP, hK, hD0⟩ := hv
  have hx := B.exec
  have hb := B.bytes
  have hr := B.returns
  have hts := atoms_spec (ws := (jk yJ7_fill_53178 cJ7_fill_53178 4 none)) B.pre
  have hown : s.vm.findClass RJ7 = some m.cls := findClass_of_methodNamed B.named
  have hlocks := B.notSynchronized
  subst hsz
  have hD := hD0.self (sz := s.heap.size)
  generalize hAe : (va_A [(h0, .inl (cA, n, .inl f))] s.heap.size) = A at hD ⊢
  have hA : ∀ q : Nat, s.heap.size ≤ q → A q := fun q h => by rw [← hAe]; exact Or.inr h
  have hS : va_S A s.heap s.heap [] := va_S.rf
  have hP : va_P (dC, dI) vwCl [(h0, .inl (cA, n, .inl f))] s.heap := hP
  have hl := lv_entry ([.ref h0, .int v]) (n := 4) (Nat.le_of_ble_eq_true rfl)
  rw [lg_entry_eq]
  generalize (lg_sl ([.ref h0, .int v]) ++ List.replicate (4 - (lg_sl ([.ref h0, .int v])).length) Slot.unset).toArray = ls at hl ⊢
  have hl : lv_has ls 4 [(0, .ref h0), (1, .int v)] := hl
  refine lv_iconst (v := 0) hx hb dJ7_fill_53178_0 (by decide) ?_
  refine lv_istore_n (lv' := [(2, .int 0), (0, .ref h0), (1, .int v)]) hx hb dJ7_fill_53178_1 rfl hl (by decide) rfl (fun ls hl => ?_)
  refine lv_aload_n hx hb dJ7_fill_53178_2 rfl (lv_at hl 1 rfl) ?_
  refine va_alen (v := nI n) hx hb hK hP 0 0 rfl rfl rfl dJ7_fill_53178_3 ?_
  refine lv_istore_n (lv' := [(3, .int (nI n)), (2, .int 0), (0, .ref h0), (1, .int v)]) hx hb dJ7_fill_53178_4 rfl hl (by decide) rfl (fun ls hl => ?_)
  have key : ∀ (d i : Nat), i + d = n → ∀ (H : Heap) (locs : List Loc) (ls : Array Slot), va_P (dC, dI) vwCl [(h0, .inl (cA, n, .inl (jfill f i v)))] H → va_D A [(h0, .inl (cA, n, .inl (jfill f i v)))] → va_S A s.heap H locs → lv_has ls 4 [(2, .int (nI i)), (3, .int (nI n)), (0, .ref h0), (1, .int v)] → W p l e { frames := 0, cells := 0, slots := 0, locals := 0 } s m ([.ref h0, .int v] : List Value).toArray below meth c H locs 0 0 (MQ below (va_Qv (fun (_ : Unit) => True) (fun _ t => va_P (dC, dI) vwCl [(h0, .inl (cA, n, .inl (jfill f n v)))] t.heap ∧ va_K (dC, dI) vwCl [(cA, .int)] t ∧ va_D A [(h0, .inl (cA, n, .inl (jfill f n v)))]) A) ([.ref h0, .int v] : List Value).toArray s 0 0 A) (F0 m 5 ls []) := by
    intro d
    induction d with
    | zero =>
      intro i hi H locs ls hP hD hS hl
      obtain rfl : i = n := by omega
      refine lv_iload_n hx hb dJ7_fill_53178_5 rfl (lv_at hl 0 rfl) ?_
      refine lv_iload_n hx hb dJ7_fill_53178_6 rfl (lv_at hl 1 rfl) ?_
      refine lv_icmp_ge (tgt := 20) hx hb dJ7_fill_53178_7 (by decide) (fun _ => ?_) (fun z => absurd (nI_le (Nat.le_refl i) hn) z)
      exact W.vret hx hb hr (fun t ht hW => ⟨⟨(), rfl, trivial, by rw [ht]; exact hP, va_K.moved hW.alike hK, hD⟩, hS.F ht⟩) hS.2.2 dJ7_fill_53178_20
    | succ d ih =>
      intro i hi H locs ls hP hD hS hl
      have hlt : i < n := by omega
      refine lv_iload_n hx hb dJ7_fill_53178_5 rfl (lv_at hl 0 rfl) ?_
      refine lv_iload_n hx hb dJ7_fill_53178_6 rfl (lv_at hl 1 rfl) ?_
      refine lv_icmp_ge (tgt := 20) hx hb dJ7_fill_53178_7 (by decide) (fun z => absurd z (nI_ge hlt hn)) (fun _ => ?_)
      refine lv_aload_n hx hb dJ7_fill_53178_10 rfl (lv_at hl 2 rfl) ?_
      refine lv_iload_n hx hb dJ7_fill_53178_11 rfl (lv_at hl 0 rfl) ?_
      refine lv_iload_n hx hb dJ7_fill_53178_12 rfl (lv_at hl 3 rfl) ?_
      refine va_iast hx hb hK hP hD hS 0 0 rfl rfl (vp_in_nI hlt hn) dJ7_fill_53178_13 (fun H locs hP hD hS => ?_)
      rw [nI_clamp (by omega), jfill_s] at hP hD
      refine lv_iinc (v := nI (i + 1)) (lv' := [(2, .int (nI (i + 1))), (3, .int (nI n)), (0, .ref h0), (1, .int v)]) hx hb dJ7_fill_53178_14 hl (k := 0) rfl (nI_1 i) (by decide) rfl (fun ls hl => ?_)
      refine lv_goto (tgt := 5) hx hb dJ7_fill_53178_17 (by decide) ?_
      exact ih (i + 1) (by omega) H locs ls hP hD hS hl
  refine key n 0 (by omega) s.heap [] ls ?_ ?_ hS (lv_sub hl [1, 0, 2, 3] rfl)
  · rw [jfill_0]; exact hP
  · rw [jfill_0]; exact hD

theorem jx0 {α : Type} {w : List α} {i : Nat} {a b : α} : (w.set i a).set i b = w.set i b := List.set_set ..
theorem jx1 {α : Type} {w m : List α} {i j : Nat} {b c : α} (h : j ≠ i) (e : w.set i b = m) : (w.set j c).set i b = m.set j c := by rw [List.set_comm c b h, e]
theorem jrP {D : va_G} {cl : List vw_C} {w w' : va_W} {H : Heap} (h : va_P D cl w H) (e : w = w') : va_P D cl w' H := e ▸ h
theorem jrD {A : Nat → Prop} {w w' : va_W} (h : va_D A w) (e : w = w') : va_D A w' := e ▸ h
theorem jy3 {α : Type} {a : α} {r x : List α} : (a :: r) ++ x = a :: (r ++ x) := rfl
theorem jy4 {α : Type} {a c : α} {r : List α} : (a :: r).set 0 c = c :: r := rfl
theorem jy5 {α : Type} {a x : α} {r m : List α} {k : Nat} (e : r.set k x = m) : (a :: r).set (k + 1) x = a :: m := by rw [List.set_cons_succ, e]
theorem jy1 {α : Type} {w m x : List α} {k : Nat} {c : α} (h : k < w.length) (e : w.set k c = m) : (w ++ x).set k c = m ++ x := by rw [List.set_append_left _ _ h, e]
theorem jy2 {α : Type} {w x : List α} {n k i : Nat} {c : α} (hn : w.length = n) (hk : k = n + i) : (w ++ x).set k c = w ++ x.set i c := by
  subst hn; subst hk
  rw [List.set_append_right _ _ (Nat.le_add_right _ _), Nat.add_sub_cancel_left]
theorem jg_c0 {α : Type} {a : α} {r : List α} : (a :: r)[0]? = some a := rfl
theorem jg_c {α : Type} {a : α} {r : List α} {k : Nat} {e : Option α} (g : r[k]? = e) : (a :: r)[k + 1]? = e := by rw [List.getElem?_cons_succ]; exact g
theorem jn_c {α : Type} {a : α} {r : List α} {n : Nat} (h : r.length = n) : (a :: r).length = n + 1 := by rw [List.length_cons, h]
set_option maxHeartbeats 500000 in
set_option maxRecDepth 100000 in
theorem iX7_init_1 (l : Launch) (dC : Nat → ClassId) (dI : Nat → Nat → Nat) (sz h0 : Nat) : Met l yX7_init (jk yX7_init cX7_init 1 none) ({ frames := 1, cells := 9, slots := 3636, locals := 40 }) (va_Pc [.ref h0] (jw_P (dC, dI) [(h0, .inr (7, [.null, .int 0, .null, .null, .null, .null, .int 0, .int 0, .int 0, .null, .int 0, .null, .null, .null, .int 0]))] [] sz)) (va_Qv (fun (_ : ((Nat → Nat) × (Nat → ClassId))) => True) (fun u t => va_P (dC, dI) vwCl [(h0, .inr (7, [.ref (u.1 1), .int 0, .ref (u.1 2), .ref (u.1 3), .ref (u.1 4), .ref (u.1 5), .int 0, .int 0, .int 0, .ref (u.1 6), .int 0, .ref (u.1 7), .ref (u.1 8), .ref (u.1 9), .int 0])), ((u.1 1), .inl ((u.2 1), 600, .inl (fun _ => 0))), ((u.1 2), .inl ((u.2 2), 601, .inl (fun _ => 0))), ((u.1 3), .inl ((u.2 3), 601, .inl (fun _ => 0))), ((u.1 4), .inl ((u.2 4), 601, .inl (fun _ => 0))), ((u.1 5), .inl ((u.2 5), 601, .inl (fun _ => 0))), ((u.1 6), .inl ((u.2 6), 600, .inl (fun _ => 0))), ((u.1 7), .inl ((u.2 7), 14, .inl (fun _ => 0))), ((u.1 8), .inl ((u.2 8), 14, .inl (fun _ => 0))), ((u.1 9), .inl ((u.2 9), 4, .inr (.inl (fun _ => 0))))] t.heap ∧ va_K (dC, dI) vwCl [((u.2 1), .byte), ((u.2 2), .int), ((u.2 3), .int), ((u.2 4), .int), ((u.2 5), .int), ((u.2 6), .int), ((u.2 7), .int), ((u.2 8), .int), ((u.2 9), .long)] t ∧ va_D (va_A [(h0, .inr (7, [.null, .int 0, .null, .null, .null, .null, .int 0, .int 0, .int 0, .null, .int 0, .null, .null, .null, .int 0]))] sz) [(h0, .inr (7, [.ref (u.1 1), .int 0, .ref (u.1 2), .ref (u.1 3), .ref (u.1 4), .ref (u.1 5), .int 0, .int 0, .int 0, .ref (u.1 6), .int 0, .ref (u.1 7), .ref (u.1 8), .ref (u.1 9), .int 0])), ((u.1 1), .inl ((u.2 1), 600, .inl (fun _ => 0))), ((u.1 2), .inl ((u.2 2), 601, .inl (fun _ => 0))), ((u.1 3), .inl ((u.2 3), 601, .inl (fun _ => 0))), ((u.1 4), .inl ((u.2 4), 601, .inl (fun _ => 0))), ((u.1 5), .inl ((u.2 5), 601, .inl (fun _ => 0))), ((u.1 6), .inl ((u.2 6), 600, .inl (fun _ => 0))), ((u.1 7), .inl ((u.2 7), 14, .inl (fun _ => 0))), ((u.1 8), .inl ((u.2 8), 14, .inl (fun _ => 0))), ((u.1 9), .inl ((u.2 9), 4, .inr (.inl (fun _ => 0))))]) (va_A [(h0, .inr (7, [.null, .int 0, .null, .null, .null, .null, .int 0, .int 0, .int 0, .null, .int 0, .null, .null, .null, .int 0]))] sz)) 9 3636 (va_A [(h0, .inr (7, [.null, .int 0, .null, .null, .null, .null, .int 0, .int 0, .int 0, .null, .int 0, .null, .null, .null, .int 0]))] sz) := by
  refine Met.ofW (cc := cX7_init) (maxL := 1) (ret := none) (by decide) rfl ?_
  intro p e s m args below meth c s₁ B hml hv
  obtain ⟨rfl, hsz, hP, hK, hD0⟩ := hv
  have hx := B.exec
  have hb := B.bytes
  have hr := B.returns
  have hts := atoms_spec (ws := (jk yX7_init cX7_init 1 none)) B.pre
  have hown : s.vm.findClass RX7 = some m.cls := findClass_of_methodNamed B.named
  have hlocks := B.notSynchronized
  have hin : meth.name = "<init>" := (name_of_methodNamed B.named B.method).1
  subst hsz
  have hD := hD0.self (sz := s.heap.size)
  generalize hAe : (va_A [(h0, .inr (7, [.null, .int 0, .null, .null, .null, .null, .int 0, .int 0, .int 0, .null, .int 0, .null, .null, .null, .int 0]))] s.heap.size) = A at hD ⊢
  have hA : ∀ q : Nat, s.heap.size ≤ q → A q := fun q h => by rw [← hAe]; exact Or.inr h
  have hS : va_S A s.heap s.heap [] := va_S.rf
  have hP : va_P (dC, dI) vwCl [(h0, .inr (7, [.null, .int 0, .null, .null, .null, .null, .int 0, .int 0, .int 0, .null, .int 0, .null, .null, .null, .int 0]))] s.heap := hP
  have hl := lv_entry ([.ref h0]) (n := 1) (Nat.le_of_ble_eq_true rfl)
  rw [lg_entry_eq]
  generalize (lg_sl ([.ref h0]) ++ List.replicate (1 - (lg_sl ([.ref h0])).length) Slot.unset).toArray = ls at hl ⊢
  have hl : lv_has ls 1 [(0, .ref h0)] := hl
  refine lv_aload_n hx hb dX7_init_0 rfl (lv_at hl 0 rfl) ?_
  refine W.objInit hx hb hown (hts (.methodLink RX7 3 objectInit) (jm m_1658)) (hts (.instanceMethod objectInit) (jm m_1307)) (hts (.code objectInit ⟨#[0xb1]⟩ 1 none) (jm m_1308)) rfl (by rw [hml]; exact hl.1) rfl dX7_init_1 (Nat.le_of_ble_eq_true rfl) (Nat.le_of_ble_eq_true rfl) ?_
  refine W.eq (g2 := F0 m 4 ls []) rfl ?_
  refine lv_aload_n hx hb dX7_init_4 rfl (lv_at hl 0 rfl) ?_
  refine lv_sipush (v := 600) hx hb dX7_init_5 (by decide) ?_
  refine va_newa (atype := .byte) (N' := 600) (a0 := (600, .inl (fun _ => 0))) (ty := .byte) hx hb (hts (.arrayClass .byte) (jm m_0)) rfl hK hP hD hS hA (fun _ => rfl) (by decide) (by decide) (by decide) (Nat.le_of_ble_eq_true rfl) (Nat.le_of_ble_eq_true rfl) dX7_init_8 (fun q1 y1 H hK hP hD hS => ?_)
  refine W.widen (k := 1) (n := 600) (Nat.le_of_ble_eq_true rfl) (Nat.le_of_ble_eq_true rfl) ?_
  refine va_putF (D := (dC, dI)) (ci := 7) (v := .ref q1) (ty := .array .byte) (C := RX7) (T := TX7) (N := 15) hx hb hts (jh hin_RX7) tyX7 tyX7_ok nmX7 hown hK hP hD hS 0 (jg_l rfl) rfl 0 (by decide) (hts (.fieldLink RX7 11 "BookOfAll$Reader" "bytes" "[B") (jm m_624)) (fun _ h9 => h9) rfl hin rfl (by decide +kernel) rfl rfl (Nat.le_of_ble_eq_true rfl) dX7_init_10 (fun H locs hP hD hS => ?_)
  refine lv_aload_n hx hb dX7_init_13 rfl (lv_at hl 0 rfl) ?_
  refine lv_sipush (v := 601) hx hb dX7_init_14 (by decide) ?_
  refine va_newa (atype := .int) (N' := 601) (a0 := (601, .inl (fun _ => 0))) (ty := .int) hx hb (hts (.arrayClass .int) (jm m_2)) rfl hK hP hD hS hA (fun _ => rfl) (by decide) (by decide) (by decide) (Nat.le_of_ble_eq_true rfl) (Nat.le_of_ble_eq_true rfl) dX7_init_17 (fun q2 y2 H hK hP hD hS => ?_)
  refine W.widen (k := 2) (n := 1201) (Nat.le_of_ble_eq_true rfl) (Nat.le_of_ble_eq_true rfl) ?_
  refine va_putF (D := (dC, dI)) (ci := 7) (v := .ref q2) (ty := .array .int) (C := RX7) (T := TX7) (N := 15) hx hb hts (jh hin_RX7) tyX7 tyX7_ok nmX7 hown hK hP hD hS 0 (jg_l (jg_s (n := 2) (jn_a (n := 1) (m := 1) rfl rfl) (Nat.le_of_ble_eq_true rfl))) rfl 2 (by decide) (hts (.fieldLink RX7 15 "BookOfAll$Reader" "kinds" "[I") (jm m_625)) (fun _ h9 => h9) rfl hin rfl (by decide +kernel) rfl rfl (Nat.le_of_ble_eq_true rfl) dX7_init_19 (fun H locs hP hD hS => ?_)
  refine lv_aload_n hx hb dX7_init_22 rfl (lv_at hl 0 rfl) ?_
  refine lv_sipush (v := 601) hx hb dX7_init_23 (by decide) ?_
  refine va_newa (atype := .int) (N' := 601) (a0 := (601, .inl (fun _ => 0))) (ty := .int) hx hb (hts (.arrayClass .int) (jm m_2)) rfl hK hP hD hS hA (fun _ => rfl) (by decide) (by decide) (by decide) (Nat.le_of_ble_eq_true rfl) (Nat.le_of_ble_eq_true rfl) dX7_init_26 (fun q3 y3 H hK hP hD hS => ?_)
  refine W.widen (k := 3) (n := 1802) (Nat.le_of_ble_eq_true rfl) (Nat.le_of_ble_eq_true rfl) ?_
  refine va_putF (D := (dC, dI)) (ci := 7) (v := .ref q3) (ty := .array .int) (C := RX7) (T := TX7) (N := 15) hx hb hts (jh hin_RX7) tyX7 tyX7_ok nmX7 hown hK hP hD hS 0 (jg_l (jg_s (n := 3) (jn_a (n := 2) (m := 1) (jn_s (jn_a (n := 1) (m := 1) rfl rfl)) rfl) (Nat.le_of_ble_eq_true rfl))) rfl 3 (by decide) (hts (.fieldLink RX7 19 "BookOfAll$Reader" "starts" "[I") (jm m_626)) (fun _ h9 => h9) rfl hin rfl (by decide +kernel) rfl rfl (Nat.le_of_ble_eq_true rfl) dX7_init_28 (fun H locs hP hD hS => ?_)
  refine lv_aload_n hx hb dX7_init_31 rfl (lv_at hl 0 rfl) ?_
  refine lv_sipush (v := 601) hx hb dX7_init_32 (by decide) ?_
  refine va_newa (atype := .int) (N' := 601) (a0 := (601, .inl (fun _ => 0))) (ty := .int) hx hb (hts (.arrayClass .int) (jm m_2)) rfl hK hP hD hS hA (fun _ => rfl) (by decide) (by decide) (by decide) (Nat.le_of_ble_eq_true rfl) (Nat.le_of_ble_eq_true rfl) dX7_init_35 (fun q4 y4 H hK hP hD hS => ?_)
  refine W.widen (k := 4) (n := 2403) (Nat.le_of_ble_eq_true rfl) (Nat.le_of_ble_eq_true rfl) ?_
  refine va_putF (D := (dC, dI)) (ci := 7) (v := .ref q4) (ty := .array .int) (C := RX7) (T := TX7) (N := 15) hx hb hts (jh hin_RX7) tyX7 tyX7_ok nmX7 hown hK hP hD hS 0 (jg_l (jg_s (n := 4) (jn_a (n := 3) (m := 1) (jn_s (jn_a (n := 2) (m := 1) (jn_s (jn_a (n := 1) (m := 1) rfl rfl)) rfl)) rfl) (Nat.le_of_ble_eq_true rfl))) rfl 4 (by decide) (hts (.fieldLink RX7 22 "BookOfAll$Reader" "stops" "[I") (jm m_627)) (fun _ h9 => h9) rfl hin rfl (by decide +kernel) rfl rfl (Nat.le_of_ble_eq_true rfl) dX7_init_37 (fun H locs hP hD hS => ?_)
  refine lv_aload_n hx hb dX7_init_40 rfl (lv_at hl 0 rfl) ?_
  refine lv_sipush (v := 601) hx hb dX7_init_41 (by decide) ?_
  refine va_newa (atype := .int) (N' := 601) (a0 := (601, .inl (fun _ => 0))) (ty := .int) hx hb (hts (.arrayClass .int) (jm m_2)) rfl hK hP hD hS hA (fun _ => rfl) (by decide) (by decide) (by decide) (Nat.le_of_ble_eq_true rfl) (Nat.le_of_ble_eq_true rfl) dX7_init_44 (fun q5 y5 H hK hP hD hS => ?_)
  refine W.widen (k := 5) (n := 3004) (Nat.le_of_ble_eq_true rfl) (Nat.le_of_ble_eq_true rfl) ?_
  refine va_putF (D := (dC, dI)) (ci := 7) (v := .ref q5) (ty := .array .int) (C := RX7) (T := TX7) (N := 15) hx hb hts (jh hin_RX7) tyX7 tyX7_ok nmX7 hown hK hP hD hS 0 (jg_l (jg_s (n := 5) (jn_a (n := 4) (m := 1) (jn_s (jn_a (n := 3) (m := 1) (jn_s (jn_a (n := 2) (m := 1) (jn_s (jn_a (n := 1) (m := 1) rfl rfl)) rfl)) rfl)) rfl) (Nat.le_of_ble_eq_true rfl))) rfl 5 (by decide) (hts (.fieldLink RX7 25 "BookOfAll$Reader" "values" "[I") (jm m_628)) (fun _ h9 => h9) rfl hin rfl (by decide +kernel) rfl rfl (Nat.le_of_ble_eq_true rfl) dX7_init_46 (fun H locs hP hD hS => ?_)
  refine lv_aload_n hx hb dX7_init_49 rfl (lv_at hl 0 rfl) ?_
  refine lv_sipush (v := 600) hx hb dX7_init_50 (by decide) ?_
  refine va_newa (atype := .int) (N' := 600) (a0 := (600, .inl (fun _ => 0))) (ty := .int) hx hb (hts (.arrayClass .int) (jm m_2)) rfl hK hP hD hS hA (fun _ => rfl) (by decide) (by decide) (by decide) (Nat.le_of_ble_eq_true rfl) (Nat.le_of_ble_eq_true rfl) dX7_init_53 (fun q6 y6 H hK hP hD hS => ?_)
  refine W.widen (k := 6) (n := 3604) (Nat.le_of_ble_eq_true rfl) (Nat.le_of_ble_eq_true rfl) ?_
  refine va_putF (D := (dC, dI)) (ci := 7) (v := .ref q6) (ty := .array .int) (C := RX7) (T := TX7) (N := 15) hx hb hts (jh hin_RX7) tyX7 tyX7_ok nmX7 hown hK hP hD hS 0 (jg_l (jg_s (n := 6) (jn_a (n := 5) (m := 1) (jn_s (jn_a (n := 4) (m := 1) (jn_s (jn_a (n := 3) (m := 1) (jn_s (jn_a (n := 2) (m := 1) (jn_s (jn_a (n := 1) (m := 1) rfl rfl)) rfl)) rfl)) rfl)) rfl) (Nat.le_of_ble_eq_true rfl))) rfl 9 (by decide) (hts (.fieldLink RX7 28 "BookOfAll$Reader" "code" "[I") (jm m_629)) (fun _ h9 => h9) rfl hin rfl (by decide +kernel) rfl rfl (Nat.le_of_ble_eq_true rfl) dX7_init_55 (fun H locs hP hD hS => ?_)
  refine lv_aload_n hx hb dX7_init_58 rfl (lv_at hl 0 rfl) ?_
  refine lv_bipush (v := 14) hx hb dX7_init_59 (by decide) ?_
  refine va_newa (atype := .int) (N' := 14) (a0 := (14, .inl (fun _ => 0))) (ty := .int) hx hb (hts (.arrayClass .int) (jm m_2)) rfl hK hP hD hS hA (fun _ => rfl) (by decide) (by decide) (by decide) (Nat.le_of_ble_eq_true rfl) (Nat.le_of_ble_eq_true rfl) dX7_init_61 (fun q7 y7 H hK hP hD hS => ?_)
  refine W.widen (k := 7) (n := 3618) (Nat.le_of_ble_eq_true rfl) (Nat.le_of_ble_eq_true rfl) ?_
  refine va_putF (D := (dC, dI)) (ci := 7) (v := .ref q7) (ty := .array .int) (C := RX7) (T := TX7) (N := 15) hx hb hts (jh hin_RX7) tyX7 tyX7_ok nmX7 hown hK hP hD hS 0 (jg_l (jg_s (n := 7) (jn_a (n := 6) (m := 1) (jn_s (jn_a (n := 5) (m := 1) (jn_s (jn_a (n := 4) (m := 1) (jn_s (jn_a (n := 3) (m := 1) (jn_s (jn_a (n := 2) (m := 1) (jn_s (jn_a (n := 1) (m := 1) rfl rfl)) rfl)) rfl)) rfl)) rfl)) rfl) (Nat.le_of_ble_eq_true rfl))) rfl 11 (by decide) (hts (.fieldLink RX7 33 "BookOfAll$Reader" "from" "[I") (jm m_630)) (fun _ h9 => h9) rfl hin rfl (by decide +kernel) rfl rfl (Nat.le_of_ble_eq_true rfl) dX7_init_63 (fun H locs hP hD hS => ?_)
  refine lv_aload_n hx hb dX7_init_66 rfl (lv_at hl 0 rfl) ?_
  refine lv_bipush (v := 14) hx hb dX7_init_67 (by decide) ?_
  refine va_newa (atype := .int) (N' := 14) (a0 := (14, .inl (fun _ => 0))) (ty := .int) hx hb (hts (.arrayClass .int) (jm m_2)) rfl hK hP hD hS hA (fun _ => rfl) (by decide) (by decide) (by decide) (Nat.le_of_ble_eq_true rfl) (Nat.le_of_ble_eq_true rfl) dX7_init_69 (fun q8 y8 H hK hP hD hS => ?_)
  refine W.widen (k := 8) (n := 3632) (Nat.le_of_ble_eq_true rfl) (Nat.le_of_ble_eq_true rfl) ?_
  refine va_putF (D := (dC, dI)) (ci := 7) (v := .ref q8) (ty := .array .int) (C := RX7) (T := TX7) (N := 15) hx hb hts (jh hin_RX7) tyX7 tyX7_ok nmX7 hown hK hP hD hS 0 (jg_l (jg_s (n := 8) (jn_a (n := 7) (m := 1) (jn_s (jn_a (n := 6) (m := 1) (jn_s (jn_a (n := 5) (m := 1) (jn_s (jn_a (n := 4) (m := 1) (jn_s (jn_a (n := 3) (m := 1) (jn_s (jn_a (n := 2) (m := 1) (jn_s (jn_a (n := 1) (m := 1) rfl rfl)) rfl)) rfl)) rfl)) rfl)) rfl)) rfl) (Nat.le_of_ble_eq_true rfl))) rfl 12 (by decide) (hts (.fieldLink RX7 36 "BookOfAll$Reader" "to" "[I") (jm m_631)) (fun _ h9 => h9) rfl hin rfl (by decide +kernel) rfl rfl (Nat.le_of_ble_eq_true rfl) dX7_init_71 (fun H locs hP hD hS => ?_)
  refine lv_aload_n hx hb dX7_init_74 rfl (lv_at hl 0 rfl) ?_
  refine lv_iconst (v := 4) hx hb dX7_init_75 (by decide) ?_
  refine va_newa (atype := .long) (N' := 4) (a0 := (4, .inr (.inl (fun _ => 0)))) (ty := .long) hx hb (hts (.arrayClass .long) (jm m_1299)) rfl hK hP hD hS hA (fun _ => rfl) (by decide) (by decide) (by decide) (Nat.le_of_ble_eq_true rfl) (Nat.le_of_ble_eq_true rfl) dX7_init_76 (fun q9 y9 H hK hP hD hS => ?_)
  refine W.widen (k := 9) (n := 3636) (Nat.le_of_ble_eq_true rfl) (Nat.le_of_ble_eq_true rfl) ?_
  refine va_putF (D := (dC, dI)) (ci := 7) (v := .ref q9) (ty := .array .long) (C := RX7) (T := TX7) (N := 15) hx hb hts (jh hin_RX7) tyX7 tyX7_ok nmX7 hown hK hP hD hS 0 (jg_l (jg_s (n := 9) (jn_a (n := 8) (m := 1) (jn_s (jn_a (n := 7) (m := 1) (jn_s (jn_a (n := 6) (m := 1) (jn_s (jn_a (n := 5) (m := 1) (jn_s (jn_a (n := 4) (m := 1) (jn_s (jn_a (n := 3) (m := 1) (jn_s (jn_a (n := 2) (m := 1) (jn_s (jn_a (n := 1) (m := 1) rfl rfl)) rfl)) rfl)) rfl)) rfl)) rfl)) rfl)) rfl) (Nat.le_of_ble_eq_true rfl))) rfl 13 (by decide) (hts (.fieldLink RX7 39 "BookOfAll$Reader" "words" "[J") (jm m_632)) (fun _ h9 => h9) rfl hin rfl (by decide +kernel) rfl rfl (Nat.le_of_ble_eq_true rfl) dX7_init_78 (fun H locs hP hD hS => ?_)
  refine W.widen (k := 9) (n := 3636) (Nat.le_of_ble_eq_true rfl) (Nat.le_of_ble_eq_true rfl) ?_
  exact W.vret hx hb hr (fun t ht hW => ⟨⟨(fun k => [0, q1, q2, q3, q4, q5, q6, q7, q8, q9].getD k 0, fun k => [dC 0, y1, y2, y3, y4, y5, y6, y7, y8, y9].getD k (dC 0)), rfl, trivial, by rw [ht]; exact hP, va_K.moved hW.alike hK, hD⟩, hS.F ht⟩) hS.2.2 dX7_init_81
set_option maxHeartbeats 500000 in
set_option maxRecDepth 100000 in
theorem iX8_init_1 (l : Launch) (dC : Nat → ClassId) (dI : Nat → Nat → Nat) (sz h0 : Nat) : Met l yX8_init (jk yX8_init cX8_init 1 none) ({ frames := 1, cells := 6, slots := 145, locals := 40 }) (va_Pc [.ref h0] (jw_PE (dC, dI) [(h0, .inr (8, [.null, .int 0, .null, .null, .null, .int 0, .null, .null]))] [] sz)) (va_Qv (fun (_ : ((Nat → Nat) × (Nat → ClassId))) => True) (fun u t => va_P (dC, dI) vwCl [(h0, .inr (8, [.ref (u.1 1), .int 0, .ref (u.1 2), .ref (u.1 3), .ref (u.1 4), .int 0, .ref (u.1 5), .ref (u.1 6)])), ((u.1 1), .inl ((u.2 1), 12, .inr (.inr (.inr (.inr (fun _ => none)))))), ((u.1 2), .inl ((u.2 2), 20, .inl (fun _ => 0))), ((u.1 3), .inl ((u.2 3), 20, .inl (fun _ => 0))), ((u.1 4), .inl ((u.2 4), 20, .inl (fun _ => 0))), ((u.1 5), .inl ((u.2 5), 9, .inl (fun _ => 0))), ((u.1 6), .inl ((u.2 6), 64, .inl (fun _ => 0)))] t.heap ∧ va_K (dC, dI) vwCl [((u.2 1), .object RX9), ((u.2 2), .int), ((u.2 3), .int), ((u.2 4), .int), ((u.2 5), .int), ((u.2 6), .int)] t ∧ va_D (va_A [(h0, .inr (8, [.null, .int 0, .null, .null, .null, .int 0, .null, .null]))] sz) [(h0, .inr (8, [.ref (u.1 1), .int 0, .ref (u.1 2), .ref (u.1 3), .ref (u.1 4), .int 0, .ref (u.1 5), .ref (u.1 6)])), ((u.1 1), .inl ((u.2 1), 12, .inr (.inr (.inr (.inr (fun _ => none)))))), ((u.1 2), .inl ((u.2 2), 20, .inl (fun _ => 0))), ((u.1 3), .inl ((u.2 3), 20, .inl (fun _ => 0))), ((u.1 4), .inl ((u.2 4), 20, .inl (fun _ => 0))), ((u.1 5), .inl ((u.2 5), 9, .inl (fun _ => 0))), ((u.1 6), .inl ((u.2 6), 64, .inl (fun _ => 0)))]) (va_A [(h0, .inr (8, [.null, .int 0, .null, .null, .null, .int 0, .null, .null]))] sz)) 6 145 (va_A [(h0, .inr (8, [.null, .int 0, .null, .null, .null, .int 0, .null, .null]))] sz) := by
  refine Met.ofW (cc := cX8_init) (maxL := 1) (ret := none) (by decide) rfl ?_
  intro p e s m args below meth c s₁ B hml hv
  obtain ⟨rfl, ⟨hsz, hP, hK, hD0⟩, hE⟩ := hv
  have hx := B.exec
  have hb := B.bytes
  have hr := B.returns
  have hts := atoms_spec (ws := (jk yX8_init cX8_init 1 none)) B.pre
  have hown : s.vm.findClass RX8 = some m.cls := findClass_of_methodNamed B.named
  have hlocks := B.notSynchronized
  have hin : meth.name = "<init>" := (name_of_methodNamed B.named B.method).1
  subst hsz
  have hD := hD0.self (sz := s.heap.size)
  generalize hAe : (va_A [(h0, .inr (8, [.null, .int 0, .null, .null, .null, .int 0, .null, .null]))] s.heap.size) = A at hD ⊢
  have hA : ∀ q : Nat, s.heap.size ≤ q → A q := fun q h => by rw [← hAe]; exact Or.inr h
  have hS : va_S A s.heap s.heap [] := va_S.rf
  have hP : va_P (dC, dI) vwCl [(h0, .inr (8, [.null, .int 0, .null, .null, .null, .int 0, .null, .null]))] s.heap := hP
  have hl := lv_entry ([.ref h0]) (n := 1) (Nat.le_of_ble_eq_true rfl)
  rw [lg_entry_eq]
  generalize (lg_sl ([.ref h0]) ++ List.replicate (1 - (lg_sl ([.ref h0])).length) Slot.unset).toArray = ls at hl ⊢
  have hl : lv_has ls 1 [(0, .ref h0)] := hl
  refine lv_aload_n hx hb dX8_init_0 rfl (lv_at hl 0 rfl) ?_
  refine W.objInit hx hb hown (hts (.methodLink RX8 3 objectInit) (jm m_1663)) (hts (.instanceMethod objectInit) (jm m_1307)) (hts (.code objectInit ⟨#[0xb1]⟩ 1 none) (jm m_1308)) rfl (by rw [hml]; exact hl.1) rfl dX8_init_1 (Nat.le_of_ble_eq_true rfl) (Nat.le_of_ble_eq_true rfl) ?_
  refine W.eq (g2 := F0 m 4 ls []) rfl ?_
  refine lv_aload_n hx hb dX8_init_4 rfl (lv_at hl 0 rfl) ?_
  refine lv_bipush (v := 12) hx hb dX8_init_5 (by decide) ?_
  refine va_newq (N' := 12) hx hb hown (hts (.classLink RX8 11 RX9) (jm m_1664)) (hE.1 RX9 (by decide +kernel)) hK hP hD hS hA (by decide) (by decide) (by decide) (Nat.le_of_ble_eq_true rfl) (Nat.le_of_ble_eq_true rfl) dX8_init_7 (fun q1 y1 H hK hP hD hS => ?_)
  refine W.widen (k := 1) (n := 12) (Nat.le_of_ble_eq_true rfl) (Nat.le_of_ble_eq_true rfl) ?_
  refine va_putF (D := (dC, dI)) (ci := 8) (v := .ref q1) (ty := .array (.object "BookOfAll$Sheet")) (C := RX8) (T := TX8) (N := 8) hx hb hts (jh hin_RX8) tyX8 tyX8_ok nmX8 hown hK hP hD hS 0 (jg_l rfl) rfl 0 (by decide) (hts (.fieldLink RX8 13 "BookOfAll$Rules" "sheets" "[LBookOfAll$Sheet;") (jm m_639)) (fun _ h9 => h9) rfl hin rfl (by decide +kernel) rfl rfl (Nat.le_of_ble_eq_true rfl) dX8_init_10 (fun H locs hP hD hS => ?_)
  refine lv_aload_n hx hb dX8_init_13 rfl (lv_at hl 0 rfl) ?_
  refine lv_bipush (v := 20) hx hb dX8_init_14 (by decide) ?_
  refine va_newa (atype := .int) (N' := 20) (a0 := (20, .inl (fun _ => 0))) (ty := .int) hx hb (hts (.arrayClass .int) (jm m_2)) rfl hK hP hD hS hA (fun _ => rfl) (by decide) (by decide) (by decide) (Nat.le_of_ble_eq_true rfl) (Nat.le_of_ble_eq_true rfl) dX8_init_16 (fun q2 y2 H hK hP hD hS => ?_)
  refine W.widen (k := 2) (n := 32) (Nat.le_of_ble_eq_true rfl) (Nat.le_of_ble_eq_true rfl) ?_
  refine va_putF (D := (dC, dI)) (ci := 8) (v := .ref q2) (ty := .array .int) (C := RX8) (T := TX8) (N := 8) hx hb hts (jh hin_RX8) tyX8 tyX8_ok nmX8 hown hK hP hD hS 0 (jg_l (jg_s (n := 2) (jn_a (n := 1) (m := 1) rfl rfl) (Nat.le_of_ble_eq_true rfl))) rfl 2 (by decide) (hts (.fieldLink RX8 17 "BookOfAll$Rules" "putSheet" "[I") (jm m_640)) (fun _ h9 => h9) rfl hin rfl (by decide +kernel) rfl rfl (Nat.le_of_ble_eq_true rfl) dX8_init_18 (fun H locs hP hD hS => ?_)
  refine lv_aload_n hx hb dX8_init_21 rfl (lv_at hl 0 rfl) ?_
  refine lv_bipush (v := 20) hx hb dX8_init_22 (by decide) ?_
  refine va_newa (atype := .int) (N' := 20) (a0 := (20, .inl (fun _ => 0))) (ty := .int) hx hb (hts (.arrayClass .int) (jm m_2)) rfl hK hP hD hS hA (fun _ => rfl) (by decide) (by decide) (by decide) (Nat.le_of_ble_eq_true rfl) (Nat.le_of_ble_eq_true rfl) dX8_init_24 (fun q3 y3 H hK hP hD hS => ?_)
  refine W.widen (k := 3) (n := 52) (Nat.le_of_ble_eq_true rfl) (Nat.le_of_ble_eq_true rfl) ?_
  refine va_putF (D := (dC, dI)) (ci := 8) (v := .ref q3) (ty := .array .int) (C := RX8) (T := TX8) (N := 8) hx hb hts (jh hin_RX8) tyX8 tyX8_ok nmX8 hown hK hP hD hS 0 (jg_l (jg_s (n := 3) (jn_a (n := 2) (m := 1) (jn_s (jn_a (n := 1) (m := 1) rfl rfl)) rfl) (Nat.le_of_ble_eq_true rfl))) rfl 3 (by decide) (hts (.fieldLink RX8 21 "BookOfAll$Rules" "putVolume" "[I") (jm m_641)) (fun _ h9 => h9) rfl hin rfl (by decide +kernel) rfl rfl (Nat.le_of_ble_eq_true rfl) dX8_init_26 (fun H locs hP hD hS => ?_)
  refine lv_aload_n hx hb dX8_init_29 rfl (lv_at hl 0 rfl) ?_
  refine lv_bipush (v := 20) hx hb dX8_init_30 (by decide) ?_
  refine va_newa (atype := .int) (N' := 20) (a0 := (20, .inl (fun _ => 0))) (ty := .int) hx hb (hts (.arrayClass .int) (jm m_2)) rfl hK hP hD hS hA (fun _ => rfl) (by decide) (by decide) (by decide) (Nat.le_of_ble_eq_true rfl) (Nat.le_of_ble_eq_true rfl) dX8_init_32 (fun q4 y4 H hK hP hD hS => ?_)
  refine W.widen (k := 4) (n := 72) (Nat.le_of_ble_eq_true rfl) (Nat.le_of_ble_eq_true rfl) ?_
  refine va_putF (D := (dC, dI)) (ci := 8) (v := .ref q4) (ty := .array .int) (C := RX8) (T := TX8) (N := 8) hx hb hts (jh hin_RX8) tyX8 tyX8_ok nmX8 hown hK hP hD hS 0 (jg_l (jg_s (n := 4) (jn_a (n := 3) (m := 1) (jn_s (jn_a (n := 2) (m := 1) (jn_s (jn_a (n := 1) (m := 1) rfl rfl)) rfl)) rfl) (Nat.le_of_ble_eq_true rfl))) rfl 4 (by decide) (hts (.fieldLink RX8 24 "BookOfAll$Rules" "putDay" "[I") (jm m_642)) (fun _ h9 => h9) rfl hin rfl (by decide +kernel) rfl rfl (Nat.le_of_ble_eq_true rfl) dX8_init_34 (fun H locs hP hD hS => ?_)
  refine lv_aload_n hx hb dX8_init_37 rfl (lv_at hl 0 rfl) ?_
  refine lv_bipush (v := 9) hx hb dX8_init_38 (by decide) ?_
  refine va_newa (atype := .int) (N' := 9) (a0 := (9, .inl (fun _ => 0))) (ty := .int) hx hb (hts (.arrayClass .int) (jm m_2)) rfl hK hP hD hS hA (fun _ => rfl) (by decide) (by decide) (by decide) (Nat.le_of_ble_eq_true rfl) (Nat.le_of_ble_eq_true rfl) dX8_init_40 (fun q5 y5 H hK hP hD hS => ?_)
  refine W.widen (k := 5) (n := 81) (Nat.le_of_ble_eq_true rfl) (Nat.le_of_ble_eq_true rfl) ?_
  refine va_putF (D := (dC, dI)) (ci := 8) (v := .ref q5) (ty := .array .int) (C := RX8) (T := TX8) (N := 8) hx hb hts (jh hin_RX8) tyX8 tyX8_ok nmX8 hown hK hP hD hS 0 (jg_l (jg_s (n := 5) (jn_a (n := 4) (m := 1) (jn_s (jn_a (n := 3) (m := 1) (jn_s (jn_a (n := 2) (m := 1) (jn_s (jn_a (n := 1) (m := 1) rfl rfl)) rfl)) rfl)) rfl) (Nat.le_of_ble_eq_true rfl))) rfl 6 (by decide) (hts (.fieldLink RX8 27 "BookOfAll$Rules" "names" "[I") (jm m_643)) (fun _ h9 => h9) rfl hin rfl (by decide +kernel) rfl rfl (Nat.le_of_ble_eq_true rfl) dX8_init_42 (fun H locs hP hD hS => ?_)
  refine lv_aload_n hx hb dX8_init_45 rfl (lv_at hl 0 rfl) ?_
  refine lv_bipush (v := 64) hx hb dX8_init_46 (by decide) ?_
  refine va_newa (atype := .int) (N' := 64) (a0 := (64, .inl (fun _ => 0))) (ty := .int) hx hb (hts (.arrayClass .int) (jm m_2)) rfl hK hP hD hS hA (fun _ => rfl) (by decide) (by decide) (by decide) (Nat.le_of_ble_eq_true rfl) (Nat.le_of_ble_eq_true rfl) dX8_init_48 (fun q6 y6 H hK hP hD hS => ?_)
  refine W.widen (k := 6) (n := 145) (Nat.le_of_ble_eq_true rfl) (Nat.le_of_ble_eq_true rfl) ?_
  refine va_putF (D := (dC, dI)) (ci := 8) (v := .ref q6) (ty := .array .int) (C := RX8) (T := TX8) (N := 8) hx hb hts (jh hin_RX8) tyX8 tyX8_ok nmX8 hown hK hP hD hS 0 (jg_l (jg_s (n := 6) (jn_a (n := 5) (m := 1) (jn_s (jn_a (n := 4) (m := 1) (jn_s (jn_a (n := 3) (m := 1) (jn_s (jn_a (n := 2) (m := 1) (jn_s (jn_a (n := 1) (m := 1) rfl rfl)) rfl)) rfl)) rfl)) rfl) (Nat.le_of_ble_eq_true rfl))) rfl 7 (by decide) (hts (.fieldLink RX8 30 "BookOfAll$Rules" "stack" "[I") (jm m_644)) (fun _ h9 => h9) rfl hin rfl (by decide +kernel) rfl rfl (Nat.le_of_ble_eq_true rfl) dX8_init_50 (fun H locs hP hD hS => ?_)
  refine W.widen (k := 6) (n := 145) (Nat.le_of_ble_eq_true rfl) (Nat.le_of_ble_eq_true rfl) ?_
  exact W.vret hx hb hr (fun t ht hW => ⟨⟨(fun k => [0, q1, q2, q3, q4, q5, q6].getD k 0, fun k => [dC 0, y1, y2, y3, y4, y5, y6].getD k (dC 0)), rfl, trivial, by rw [ht]; exact hP, va_K.moved hW.alike hK, hD⟩, hS.F ht⟩) hS.2.2 dX8_init_53
set_option maxHeartbeats 500000 in
set_option maxRecDepth 100000 in
theorem iX6_init_1 (l : Launch) (dC : Nat → ClassId) (dI : Nat → Nat → Nat) (sz h0 : Nat) (g0 : Nat) : Met l yX6_init (jk yX6_init cX6_init 2 none) ({ frames := 1, cells := 0, slots := 0, locals := 40 }) (va_Pc [.ref h0, .ref g0] (jw_P (dC, dI) [(h0, .inr (6, [.null, .int 0, .int 0, .int 0, .int 0, .int 0]))] [] sz)) (va_Qv (fun (_ : ((Nat → Nat) × (Nat → ClassId))) => True) (fun u t => va_P (dC, dI) vwCl [(h0, .inr (6, [.ref g0, .int 0, .int 0, .int 0, .int 0, .int 0]))] t.heap ∧ va_K (dC, dI) vwCl [] t ∧ va_D (va_A [(h0, .inr (6, [.null, .int 0, .int 0, .int 0, .int 0, .int 0]))] sz) [(h0, .inr (6, [.ref g0, .int 0, .int 0, .int 0, .int 0, .int 0]))]) (va_A [(h0, .inr (6, [.null, .int 0, .int 0, .int 0, .int 0, .int 0]))] sz)) 0 0 (va_A [(h0, .inr (6, [.null, .int 0, .int 0, .int 0, .int 0, .int 0]))] sz) := by
  refine Met.ofW (cc := cX6_init) (maxL := 2) (ret := none) (by decide) rfl ?_
  intro p e s m args below meth c s₁ B hml hv
  obtain ⟨rfl, hsz, hP, hK, hD0⟩ := hv
  have hx := B.exec
  have hb := B.bytes
  have hr := B.returns
  have hts := atoms_spec (ws := (jk yX6_init cX6_init 2 none)) B.pre
  have hown : s.vm.findClass RX6 = some m.cls := findClass_of_methodNamed B.named
  have hlocks := B.notSynchronized
  have hin : meth.name = "<init>" := (name_of_methodNamed B.named B.method).1
  subst hsz
  have hD := hD0.self (sz := s.heap.size)
  generalize hAe : (va_A [(h0, .inr (6, [.null, .int 0, .int 0, .int 0, .int 0, .int 0]))] s.heap.size) = A at hD ⊢
  have hA : ∀ q : Nat, s.heap.size ≤ q → A q := fun q h => by rw [← hAe]; exact Or.inr h
  have hS : va_S A s.heap s.heap [] := va_S.rf
  have hP : va_P (dC, dI) vwCl [(h0, .inr (6, [.null, .int 0, .int 0, .int 0, .int 0, .int 0]))] s.heap := hP
  have hl := lv_entry ([.ref h0, .ref g0]) (n := 2) (Nat.le_of_ble_eq_true rfl)
  rw [lg_entry_eq]
  generalize (lg_sl ([.ref h0, .ref g0]) ++ List.replicate (2 - (lg_sl ([.ref h0, .ref g0])).length) Slot.unset).toArray = ls at hl ⊢
  have hl : lv_has ls 2 [(0, .ref h0), (1, .ref g0)] := hl
  refine lv_aload_n hx hb dX6_init_0 rfl (lv_at hl 0 rfl) ?_
  refine W.objInit hx hb hown (hts (.methodLink RX6 1 objectInit) (jm m_1669)) (hts (.instanceMethod objectInit) (jm m_1307)) (hts (.code objectInit ⟨#[0xb1]⟩ 1 none) (jm m_1308)) rfl (by rw [hml]; exact hl.1) rfl dX6_init_1 (Nat.le_of_ble_eq_true rfl) (Nat.le_of_ble_eq_true rfl) ?_
  refine W.eq (g2 := F0 m 4 ls []) rfl ?_
  refine lv_aload_n hx hb dX6_init_4 rfl (lv_at hl 0 rfl) ?_
  refine lv_aload_n hx hb dX6_init_5 rfl (lv_at hl 1 rfl) ?_
  refine va_putF (D := (dC, dI)) (ci := 6) (v := .ref g0) (ty := .object "BookOfAll$Rules") (C := RX6) (T := TX6) (N := 6) hx hb hts (jh hin_RX6) tyX6 tyX6_ok nmX6 hown hK hP hD hS 0 rfl rfl 0 (by decide) (hts (.fieldLink RX6 7 "BookOfAll$Order" "rules" "LBookOfAll$Rules;") (jm m_614)) (fun _ h9 => h9) rfl hin rfl (by decide +kernel) rfl rfl (Nat.le_of_ble_eq_true rfl) dX6_init_6 (fun H locs hP hD hS => ?_)
  exact W.vret hx hb hr (fun t ht hW => ⟨⟨(fun k => [0].getD k 0, fun k => [dC 0].getD k (dC 0)), rfl, trivial, by rw [ht]; exact hP, va_K.moved hW.alike hK, hD⟩, hS.F ht⟩) hS.2.2 dX6_init_9
set_option maxHeartbeats 500000 in
set_option maxRecDepth 100000 in
theorem iX11_init_1 (l : Launch) (dC : Nat → ClassId) (dI : Nat → Nat → Nat) (sz h0 : Nat) : Met l yX11_init (jk yX11_init cX11_init 2 none) ({ frames := 1, cells := 2, slots := 0, locals := 40 }) (va_Pc [.ref h0, .int 0] (jw_P (dC, dI) [(h0, .inr (11, [.int 0, .int 0, .null, .null, .int 0, .int 0, .int 0]))] [] sz)) (va_Qv (fun (_ : ((Nat → Nat) × (Nat → ClassId))) => True) (fun u t => va_P (dC, dI) vwCl [(h0, .inr (11, [.int 4, .int (-1), .ref (u.1 1), .ref (u.1 2), .int 0, .int 0, .int 0])), ((u.1 1), .inl ((u.2 1), 0, .inl (fun _ => 0))), ((u.1 2), .inl ((u.2 2), 0, .inl (fun _ => 0)))] t.heap ∧ va_K (dC, dI) vwCl [((u.2 1), .int), ((u.2 2), .int)] t ∧ va_D (va_A [(h0, .inr (11, [.int 0, .int 0, .null, .null, .int 0, .int 0, .int 0]))] sz) [(h0, .inr (11, [.int 4, .int (-1), .ref (u.1 1), .ref (u.1 2), .int 0, .int 0, .int 0])), ((u.1 1), .inl ((u.2 1), 0, .inl (fun _ => 0))), ((u.1 2), .inl ((u.2 2), 0, .inl (fun _ => 0)))]) (va_A [(h0, .inr (11, [.int 0, .int 0, .null, .null, .int 0, .int 0, .int 0]))] sz)) 2 0 (va_A [(h0, .inr (11, [.int 0, .int 0, .null, .null, .int 0, .int 0, .int 0]))] sz) := by
  refine Met.ofW (cc := cX11_init) (maxL := 2) (ret := none) (by decide) rfl ?_
  intro p e s m args below meth c s₁ B hml hv
  obtain ⟨rfl, hsz, hP, hK, hD0⟩ := hv
  have hx := B.exec
  have hb := B.bytes
  have hr := B.returns
  have hts := atoms_spec (ws := (jk yX11_init cX11_init 2 none)) B.pre
  have hown : s.vm.findClass RX11 = some m.cls := findClass_of_methodNamed B.named
  have hlocks := B.notSynchronized
  have hin : meth.name = "<init>" := (name_of_methodNamed B.named B.method).1
  subst hsz
  have hD := hD0.self (sz := s.heap.size)
  generalize hAe : (va_A [(h0, .inr (11, [.int 0, .int 0, .null, .null, .int 0, .int 0, .int 0]))] s.heap.size) = A at hD ⊢
  have hA : ∀ q : Nat, s.heap.size ≤ q → A q := fun q h => by rw [← hAe]; exact Or.inr h
  have hS : va_S A s.heap s.heap [] := va_S.rf
  have hP : va_P (dC, dI) vwCl [(h0, .inr (11, [.int 0, .int 0, .null, .null, .int 0, .int 0, .int 0]))] s.heap := hP
  have hl := lv_entry ([.ref h0, .int 0]) (n := 2) (Nat.le_of_ble_eq_true rfl)
  rw [lg_entry_eq]
  generalize (lg_sl ([.ref h0, .int 0]) ++ List.replicate (2 - (lg_sl ([.ref h0, .int 0])).length) Slot.unset).toArray = ls at hl ⊢
  have hl : lv_has ls 2 [(0, .ref h0), (1, .int 0)] := hl
  refine lv_aload_n hx hb dX11_init_0 rfl (lv_at hl 0 rfl) ?_
  refine W.objInit hx hb hown (hts (.methodLink RX11 3 objectInit) (jm m_1675)) (hts (.instanceMethod objectInit) (jm m_1307)) (hts (.code objectInit ⟨#[0xb1]⟩ 1 none) (jm m_1308)) rfl (by rw [hml]; exact hl.1) rfl dX11_init_1 (Nat.le_of_ble_eq_true rfl) (Nat.le_of_ble_eq_true rfl) ?_
  refine W.eq (g2 := F0 m 4 ls []) rfl ?_
  refine lv_aload_n hx hb dX11_init_4 rfl (lv_at hl 0 rfl) ?_
  refine lv_iconst (v := (-1)) hx hb dX11_init_5 (by decide) ?_
  refine va_put (D := (dC, dI)) (ci := 11) (v := .int (-1)) (ty := .int) (C := RX11) (T := TX11) (N := 7) hx hb hts (jh hin_RX11) tyX11 tyX11_ok nmX11 hown hK hP hD hS 0 rfl rfl 1 (by decide) (hts (.fieldLink RX11 9 "BookOfAll$Volume" "setDay" "I") (jm m_1676)) (fun _ h9 => h9) rfl (by decide +kernel) rfl rfl (Nat.le_of_ble_eq_true rfl) dX11_init_6 (fun H locs hP hD hS => ?_)
  refine lv_aload_n hx hb dX11_init_9 rfl (lv_at hl 0 rfl) ?_
  refine lv_iconst (v := 0) hx hb dX11_init_10 (by decide) ?_
  refine va_newa (atype := .int) (N' := 0) (a0 := (0, .inl (fun _ => 0))) (ty := .int) hx hb (hts (.arrayClass .int) (jm m_2)) rfl hK hP hD hS hA (fun _ => rfl) (by decide) (by decide) (by decide) (Nat.le_of_ble_eq_true rfl) (Nat.le_of_ble_eq_true rfl) dX11_init_11 (fun q1 y1 H hK hP hD hS => ?_)
  refine W.widen (k := 1) (n := 0) (Nat.le_of_ble_eq_true rfl) (Nat.le_of_ble_eq_true rfl) ?_
  refine va_put (D := (dC, dI)) (ci := 11) (v := .ref q1) (ty := .array .int) (C := RX11) (T := TX11) (N := 7) hx hb hts (jh hin_RX11) tyX11 tyX11_ok nmX11 hown hK hP hD hS 0 (jg_l (jg_s (n := 1) rfl (Nat.le_of_ble_eq_true rfl))) rfl 2 (by decide) (hts (.fieldLink RX11 15 "BookOfAll$Volume" "order" "[I") (jm m_1677)) (fun _ h9 => h9) rfl (by decide +kernel) rfl rfl (Nat.le_of_ble_eq_true rfl) dX11_init_13 (fun H locs hP hD hS => ?_)
  refine lv_aload_n hx hb dX11_init_16 rfl (lv_at hl 0 rfl) ?_
  refine lv_iconst (v := 0) hx hb dX11_init_17 (by decide) ?_
  refine va_newa (atype := .int) (N' := 0) (a0 := (0, .inl (fun _ => 0))) (ty := .int) hx hb (hts (.arrayClass .int) (jm m_2)) rfl hK hP hD hS hA (fun _ => rfl) (by decide) (by decide) (by decide) (Nat.le_of_ble_eq_true rfl) (Nat.le_of_ble_eq_true rfl) dX11_init_18 (fun q2 y2 H hK hP hD hS => ?_)
  refine W.widen (k := 2) (n := 0) (Nat.le_of_ble_eq_true rfl) (Nat.le_of_ble_eq_true rfl) ?_
  refine va_put (D := (dC, dI)) (ci := 11) (v := .ref q2) (ty := .array .int) (C := RX11) (T := TX11) (N := 7) hx hb hts (jh hin_RX11) tyX11 tyX11_ok nmX11 hown hK hP hD hS 0 (jg_l (jg_s (n := 2) (jn_a (n := 1) (m := 1) (jn_s rfl) rfl) (Nat.le_of_ble_eq_true rfl))) rfl 3 (by decide) (hts (.fieldLink RX11 19 "BookOfAll$Volume" "laid" "[I") (jm m_530)) (fun _ h9 => h9) rfl (by decide +kernel) rfl rfl (Nat.le_of_ble_eq_true rfl) dX11_init_20 (fun H locs hP hD hS => ?_)
  refine lv_aload_n hx hb dX11_init_23 rfl (lv_at hl 0 rfl) ?_
  refine lv_bipush (v := 25) hx hb dX11_init_24 (by decide) ?_
  refine lv_iconst (v := 5) hx hb dX11_init_26 (by decide) ?_
  refine lv_iload_n hx hb dX11_init_27 rfl (lv_at hl 1 rfl) ?_
  refine lv_imul hx hb dX11_init_28 ?_
  refine jt_i 0 (by decide) ?_
  refine lv_iconst (v := 4) hx hb dX11_init_29 (by decide) ?_
  refine lv_iadd hx hb dX11_init_30 ?_
  refine jt_i 4 (by decide) ?_
  refine va_mmin hx hb (by rw [hml]; exact hl.1.symm) hown (hts (.methodLink RX11 22 Lib.Math.min.name) (jm m_1678)) (hts (.static Lib.Math.min.name) (jm m_765)) (hts (.initialized "java/lang/Math") (jm m_1343)) (hts (.code Lib.Math.min.name Lib.Math.min.code 2 (some .int)) (jm m_766)) (Nat.le_of_ble_eq_true rfl) (Nat.le_of_ble_eq_true rfl) (Nat.le_of_ble_eq_true rfl) (Nat.le_of_ble_eq_true rfl) dX11_init_31 ?_
  refine jt_i 4 (by decide) ?_
  refine va_put (D := (dC, dI)) (ci := 11) (v := .int 4) (ty := .int) (C := RX11) (T := TX11) (N := 7) hx hb hts (jh hin_RX11) tyX11 tyX11_ok nmX11 hown hK hP hD hS 0 (jg_s (n := 3) (jn_a (n := 2) (m := 1) (jn_s (jn_a (n := 1) (m := 1) (jn_s rfl) rfl)) rfl) (Nat.le_of_ble_eq_true rfl)) rfl 0 (by decide) (hts (.fieldLink RX11 28 "BookOfAll$Volume" "lastLetter" "I") (jm m_1679)) (fun _ h9 => h9) rfl (by decide +kernel) rfl rfl (Nat.le_of_ble_eq_true rfl) dX11_init_34 (fun H locs hP hD hS => ?_)
  refine W.widen (k := 2) (n := 0) (Nat.le_of_ble_eq_true rfl) (Nat.le_of_ble_eq_true rfl) ?_
  exact W.vret hx hb hr (fun t ht hW => ⟨⟨(fun k => [0, q1, q2].getD k 0, fun k => [dC 0, y1, y2].getD k (dC 0)), rfl, trivial, by rw [ht]; exact hP, va_K.moved hW.alike hK, hD⟩, hS.F ht⟩) hS.2.2 dX11_init_37
set_option maxHeartbeats 500000 in
set_option maxRecDepth 100000 in
theorem iX11_init_2 (l : Launch) (dC : Nat → ClassId) (dI : Nat → Nat → Nat) (sz h0 : Nat) : Met l yX11_init (jk yX11_init cX11_init 2 none) ({ frames := 1, cells := 2, slots := 0, locals := 40 }) (va_Pc [.ref h0, .int 1] (jw_P (dC, dI) [(h0, .inr (11, [.int 0, .int 0, .null, .null, .int 0, .int 0, .int 0]))] [] sz)) (va_Qv (fun (_ : ((Nat → Nat) × (Nat → ClassId))) => True) (fun u t => va_P (dC, dI) vwCl [(h0, .inr (11, [.int 9, .int (-1), .ref (u.1 1), .ref (u.1 2), .int 0, .int 0, .int 0])), ((u.1 1), .inl ((u.2 1), 0, .inl (fun _ => 0))), ((u.1 2), .inl ((u.2 2), 0, .inl (fun _ => 0)))] t.heap ∧ va_K (dC, dI) vwCl [((u.2 1), .int), ((u.2 2), .int)] t ∧ va_D (va_A [(h0, .inr (11, [.int 0, .int 0, .null, .null, .int 0, .int 0, .int 0]))] sz) [(h0, .inr (11, [.int 9, .int (-1), .ref (u.1 1), .ref (u.1 2), .int 0, .int 0, .int 0])), ((u.1 1), .inl ((u.2 1), 0, .inl (fun _ => 0))), ((u.1 2), .inl ((u.2 2), 0, .inl (fun _ => 0)))]) (va_A [(h0, .inr (11, [.int 0, .int 0, .null, .null, .int 0, .int 0, .int 0]))] sz)) 2 0 (va_A [(h0, .inr (11, [.int 0, .int 0, .null, .null, .int 0, .int 0, .int 0]))] sz) := by
  refine Met.ofW (cc := cX11_init) (maxL := 2) (ret := none) (by decide) rfl ?_
  intro p e s m args below meth c s₁ B hml hv
  obtain ⟨rfl, hsz, hP, hK, hD0⟩ := hv
  have hx := B.exec
  have hb := B.bytes
  have hr := B.returns
  have hts := atoms_spec (ws := (jk yX11_init cX11_init 2 none)) B.pre
  have hown : s.vm.findClass RX11 = some m.cls := findClass_of_methodNamed B.named
  have hlocks := B.notSynchronized
  have hin : meth.name = "<init>" := (name_of_methodNamed B.named B.method).1
  subst hsz
  have hD := hD0.self (sz := s.heap.size)
  generalize hAe : (va_A [(h0, .inr (11, [.int 0, .int 0, .null, .null, .int 0, .int 0, .int 0]))] s.heap.size) = A at hD ⊢
  have hA : ∀ q : Nat, s.heap.size ≤ q → A q := fun q h => by rw [← hAe]; exact Or.inr h
  have hS : va_S A s.heap s.heap [] := va_S.rf
  have hP : va_P (dC, dI) vwCl [(h0, .inr (11, [.int 0, .int 0, .null, .null, .int 0, .int 0, .int 0]))] s.heap := hP
  have hl := lv_entry ([.ref h0, .int 1]) (n := 2) (Nat.le_of_ble_eq_true rfl)
  rw [lg_entry_eq]
  generalize (lg_sl ([.ref h0, .int 1]) ++ List.replicate (2 - (lg_sl ([.ref h0, .int 1])).length) Slot.unset).toArray = ls at hl ⊢
  have hl : lv_has ls 2 [(0, .ref h0), (1, .int 1)] := hl
  refine lv_aload_n hx hb dX11_init_0 rfl (lv_at hl 0 rfl) ?_
  refine W.objInit hx hb hown (hts (.methodLink RX11 3 objectInit) (jm m_1675)) (hts (.instanceMethod objectInit) (jm m_1307)) (hts (.code objectInit ⟨#[0xb1]⟩ 1 none) (jm m_1308)) rfl (by rw [hml]; exact hl.1) rfl dX11_init_1 (Nat.le_of_ble_eq_true rfl) (Nat.le_of_ble_eq_true rfl) ?_
  refine W.eq (g2 := F0 m 4 ls []) rfl ?_
  refine lv_aload_n hx hb dX11_init_4 rfl (lv_at hl 0 rfl) ?_
  refine lv_iconst (v := (-1)) hx hb dX11_init_5 (by decide) ?_
  refine va_put (D := (dC, dI)) (ci := 11) (v := .int (-1)) (ty := .int) (C := RX11) (T := TX11) (N := 7) hx hb hts (jh hin_RX11) tyX11 tyX11_ok nmX11 hown hK hP hD hS 0 rfl rfl 1 (by decide) (hts (.fieldLink RX11 9 "BookOfAll$Volume" "setDay" "I") (jm m_1676)) (fun _ h9 => h9) rfl (by decide +kernel) rfl rfl (Nat.le_of_ble_eq_true rfl) dX11_init_6 (fun H locs hP hD hS => ?_)
  refine lv_aload_n hx hb dX11_init_9 rfl (lv_at hl 0 rfl) ?_
  refine lv_iconst (v := 0) hx hb dX11_init_10 (by decide) ?_
  refine va_newa (atype := .int) (N' := 0) (a0 := (0, .inl (fun _ => 0))) (ty := .int) hx hb (hts (.arrayClass .int) (jm m_2)) rfl hK hP hD hS hA (fun _ => rfl) (by decide) (by decide) (by decide) (Nat.le_of_ble_eq_true rfl) (Nat.le_of_ble_eq_true rfl) dX11_init_11 (fun q1 y1 H hK hP hD hS => ?_)
  refine W.widen (k := 1) (n := 0) (Nat.le_of_ble_eq_true rfl) (Nat.le_of_ble_eq_true rfl) ?_
  refine va_put (D := (dC, dI)) (ci := 11) (v := .ref q1) (ty := .array .int) (C := RX11) (T := TX11) (N := 7) hx hb hts (jh hin_RX11) tyX11 tyX11_ok nmX11 hown hK hP hD hS 0 (jg_l (jg_s (n := 1) rfl (Nat.le_of_ble_eq_true rfl))) rfl 2 (by decide) (hts (.fieldLink RX11 15 "BookOfAll$Volume" "order" "[I") (jm m_1677)) (fun _ h9 => h9) rfl (by decide +kernel) rfl rfl (Nat.le_of_ble_eq_true rfl) dX11_init_13 (fun H locs hP hD hS => ?_)
  refine lv_aload_n hx hb dX11_init_16 rfl (lv_at hl 0 rfl) ?_
  refine lv_iconst (v := 0) hx hb dX11_init_17 (by decide) ?_
  refine va_newa (atype := .int) (N' := 0) (a0 := (0, .inl (fun _ => 0))) (ty := .int) hx hb (hts (.arrayClass .int) (jm m_2)) rfl hK hP hD hS hA (fun _ => rfl) (by decide) (by decide) (by decide) (Nat.le_of_ble_eq_true rfl) (Nat.le_of_ble_eq_true rfl) dX11_init_18 (fun q2 y2 H hK hP hD hS => ?_)
  refine W.widen (k := 2) (n := 0) (Nat.le_of_ble_eq_true rfl) (Nat.le_of_ble_eq_true rfl) ?_
  refine va_put (D := (dC, dI)) (ci := 11) (v := .ref q2) (ty := .array .int) (C := RX11) (T := TX11) (N := 7) hx hb hts (jh hin_RX11) tyX11 tyX11_ok nmX11 hown hK hP hD hS 0 (jg_l (jg_s (n := 2) (jn_a (n := 1) (m := 1) (jn_s rfl) rfl) (Nat.le_of_ble_eq_true rfl))) rfl 3 (by decide) (hts (.fieldLink RX11 19 "BookOfAll$Volume" "laid" "[I") (jm m_530)) (fun _ h9 => h9) rfl (by decide +kernel) rfl rfl (Nat.le_of_ble_eq_true rfl) dX11_init_20 (fun H locs hP hD hS => ?_)
  refine lv_aload_n hx hb dX11_init_23 rfl (lv_at hl 0 rfl) ?_
  refine lv_bipush (v := 25) hx hb dX11_init_24 (by decide) ?_
  refine lv_iconst (v := 5) hx hb dX11_init_26 (by decide) ?_
  refine lv_iload_n hx hb dX11_init_27 rfl (lv_at hl 1 rfl) ?_
  refine lv_imul hx hb dX11_init_28 ?_
  refine jt_i 5 (by decide) ?_
  refine lv_iconst (v := 4) hx hb dX11_init_29 (by decide) ?_
  refine lv_iadd hx hb dX11_init_30 ?_
  refine jt_i 9 (by decide) ?_
  refine va_mmin hx hb (by rw [hml]; exact hl.1.symm) hown (hts (.methodLink RX11 22 Lib.Math.min.name) (jm m_1678)) (hts (.static Lib.Math.min.name) (jm m_765)) (hts (.initialized "java/lang/Math") (jm m_1343)) (hts (.code Lib.Math.min.name Lib.Math.min.code 2 (some .int)) (jm m_766)) (Nat.le_of_ble_eq_true rfl) (Nat.le_of_ble_eq_true rfl) (Nat.le_of_ble_eq_true rfl) (Nat.le_of_ble_eq_true rfl) dX11_init_31 ?_
  refine jt_i 9 (by decide) ?_
  refine va_put (D := (dC, dI)) (ci := 11) (v := .int 9) (ty := .int) (C := RX11) (T := TX11) (N := 7) hx hb hts (jh hin_RX11) tyX11 tyX11_ok nmX11 hown hK hP hD hS 0 (jg_s (n := 3) (jn_a (n := 2) (m := 1) (jn_s (jn_a (n := 1) (m := 1) (jn_s rfl) rfl)) rfl) (Nat.le_of_ble_eq_true rfl)) rfl 0 (by decide) (hts (.fieldLink RX11 28 "BookOfAll$Volume" "lastLetter" "I") (jm m_1679)) (fun _ h9 => h9) rfl (by decide +kernel) rfl rfl (Nat.le_of_ble_eq_true rfl) dX11_init_34 (fun H locs hP hD hS => ?_)
  refine W.widen (k := 2) (n := 0) (Nat.le_of_ble_eq_true rfl) (Nat.le_of_ble_eq_true rfl) ?_
  exact W.vret hx hb hr (fun t ht hW => ⟨⟨(fun k => [0, q1, q2].getD k 0, fun k => [dC 0, y1, y2].getD k (dC 0)), rfl, trivial, by rw [ht]; exact hP, va_K.moved hW.alike hK, hD⟩, hS.F ht⟩) hS.2.2 dX11_init_37
set_option maxHeartbeats 500000 in
set_option maxRecDepth 100000 in
theorem iX11_init_3 (l : Launch) (dC : Nat → ClassId) (dI : Nat → Nat → Nat) (sz h0 : Nat) : Met l yX11_init (jk yX11_init cX11_init 2 none) ({ frames := 1, cells := 2, slots := 0, locals := 40 }) (va_Pc [.ref h0, .int 2] (jw_P (dC, dI) [(h0, .inr (11, [.int 0, .int 0, .null, .null, .int 0, .int 0, .int 0]))] [] sz)) (va_Qv (fun (_ : ((Nat → Nat) × (Nat → ClassId))) => True) (fun u t => va_P (dC, dI) vwCl [(h0, .inr (11, [.int 14, .int (-1), .ref (u.1 1), .ref (u.1 2), .int 0, .int 0, .int 0])), ((u.1 1), .inl ((u.2 1), 0, .inl (fun _ => 0))), ((u.1 2), .inl ((u.2 2), 0, .inl (fun _ => 0)))] t.heap ∧ va_K (dC, dI) vwCl [((u.2 1), .int), ((u.2 2), .int)] t ∧ va_D (va_A [(h0, .inr (11, [.int 0, .int 0, .null, .null, .int 0, .int 0, .int 0]))] sz) [(h0, .inr (11, [.int 14, .int (-1), .ref (u.1 1), .ref (u.1 2), .int 0, .int 0, .int 0])), ((u.1 1), .inl ((u.2 1), 0, .inl (fun _ => 0))), ((u.1 2), .inl ((u.2 2), 0, .inl (fun _ => 0)))]) (va_A [(h0, .inr (11, [.int 0, .int 0, .null, .null, .int 0, .int 0, .int 0]))] sz)) 2 0 (va_A [(h0, .inr (11, [.int 0, .int 0, .null, .null, .int 0, .int 0, .int 0]))] sz) := by
  refine Met.ofW (cc := cX11_init) (maxL := 2) (ret := none) (by decide) rfl ?_
  intro p e s m args below meth c s₁ B hml hv
  obtain ⟨rfl, hsz, hP, hK, hD0⟩ := hv
  have hx := B.exec
  have hb := B.bytes
  have hr := B.returns
  have hts := atoms_spec (ws := (jk yX11_init cX11_init 2 none)) B.pre
  have hown : s.vm.findClass RX11 = some m.cls := findClass_of_methodNamed B.named
  have hlocks := B.notSynchronized
  have hin : meth.name = "<init>" := (name_of_methodNamed B.named B.method).1
  subst hsz
  have hD := hD0.self (sz := s.heap.size)
  generalize hAe : (va_A [(h0, .inr (11, [.int 0, .int 0, .null, .null, .int 0, .int 0, .int 0]))] s.heap.size) = A at hD ⊢
  have hA : ∀ q : Nat, s.heap.size ≤ q → A q := fun q h => by rw [← hAe]; exact Or.inr h
  have hS : va_S A s.heap s.heap [] := va_S.rf
  have hP : va_P (dC, dI) vwCl [(h0, .inr (11, [.int 0, .int 0, .null, .null, .int 0, .int 0, .int 0]))] s.heap := hP
  have hl := lv_entry ([.ref h0, .int 2]) (n := 2) (Nat.le_of_ble_eq_true rfl)
  rw [lg_entry_eq]
  generalize (lg_sl ([.ref h0, .int 2]) ++ List.replicate (2 - (lg_sl ([.ref h0, .int 2])).length) Slot.unset).toArray = ls at hl ⊢
  have hl : lv_has ls 2 [(0, .ref h0), (1, .int 2)] := hl
  refine lv_aload_n hx hb dX11_init_0 rfl (lv_at hl 0 rfl) ?_
  refine W.objInit hx hb hown (hts (.methodLink RX11 3 objectInit) (jm m_1675)) (hts (.instanceMethod objectInit) (jm m_1307)) (hts (.code objectInit ⟨#[0xb1]⟩ 1 none) (jm m_1308)) rfl (by rw [hml]; exact hl.1) rfl dX11_init_1 (Nat.le_of_ble_eq_true rfl) (Nat.le_of_ble_eq_true rfl) ?_
  refine W.eq (g2 := F0 m 4 ls []) rfl ?_
  refine lv_aload_n hx hb dX11_init_4 rfl (lv_at hl 0 rfl) ?_
  refine lv_iconst (v := (-1)) hx hb dX11_init_5 (by decide) ?_
  refine va_put (D := (dC, dI)) (ci := 11) (v := .int (-1)) (ty := .int) (C := RX11) (T := TX11) (N := 7) hx hb hts (jh hin_RX11) tyX11 tyX11_ok nmX11 hown hK hP hD hS 0 rfl rfl 1 (by decide) (hts (.fieldLink RX11 9 "BookOfAll$Volume" "setDay" "I") (jm m_1676)) (fun _ h9 => h9) rfl (by decide +kernel) rfl rfl (Nat.le_of_ble_eq_true rfl) dX11_init_6 (fun H locs hP hD hS => ?_)
  refine lv_aload_n hx hb dX11_init_9 rfl (lv_at hl 0 rfl) ?_
  refine lv_iconst (v := 0) hx hb dX11_init_10 (by decide) ?_
  refine va_newa (atype := .int) (N' := 0) (a0 := (0, .inl (fun _ => 0))) (ty := .int) hx hb (hts (.arrayClass .int) (jm m_2)) rfl hK hP hD hS hA (fun _ => rfl) (by decide) (by decide) (by decide) (Nat.le_of_ble_eq_true rfl) (Nat.le_of_ble_eq_true rfl) dX11_init_11 (fun q1 y1 H hK hP hD hS => ?_)
  refine W.widen (k := 1) (n := 0) (Nat.le_of_ble_eq_true rfl) (Nat.le_of_ble_eq_true rfl) ?_
  refine va_put (D := (dC, dI)) (ci := 11) (v := .ref q1) (ty := .array .int) (C := RX11) (T := TX11) (N := 7) hx hb hts (jh hin_RX11) tyX11 tyX11_ok nmX11 hown hK hP hD hS 0 (jg_l (jg_s (n := 1) rfl (Nat.le_of_ble_eq_true rfl))) rfl 2 (by decide) (hts (.fieldLink RX11 15 "BookOfAll$Volume" "order" "[I") (jm m_1677)) (fun _ h9 => h9) rfl (by decide +kernel) rfl rfl (Nat.le_of_ble_eq_true rfl) dX11_init_13 (fun H locs hP hD hS => ?_)
  refine lv_aload_n hx hb dX11_init_16 rfl (lv_at hl 0 rfl) ?_
  refine lv_iconst (v := 0) hx hb dX11_init_17 (by decide) ?_
  refine va_newa (atype := .int) (N' := 0) (a0 := (0, .inl (fun _ => 0))) (ty := .int) hx hb (hts (.arrayClass .int) (jm m_2)) rfl hK hP hD hS hA (fun _ => rfl) (by decide) (by decide) (by decide) (Nat.le_of_ble_eq_true rfl) (Nat.le_of_ble_eq_true rfl) dX11_init_18 (fun q2 y2 H hK hP hD hS => ?_)
  refine W.widen (k := 2) (n := 0) (Nat.le_of_ble_eq_true rfl) (Nat.le_of_ble_eq_true rfl) ?_
  refine va_put (D := (dC, dI)) (ci := 11) (v := .ref q2) (ty := .array .int) (C := RX11) (T := TX11) (N := 7) hx hb hts (jh hin_RX11) tyX11 tyX11_ok nmX11 hown hK hP hD hS 0 (jg_l (jg_s (n := 2) (jn_a (n := 1) (m := 1) (jn_s rfl) rfl) (Nat.le_of_ble_eq_true rfl))) rfl 3 (by decide) (hts (.fieldLink RX11 19 "BookOfAll$Volume" "laid" "[I") (jm m_530)) (fun _ h9 => h9) rfl (by decide +kernel) rfl rfl (Nat.le_of_ble_eq_true rfl) dX11_init_20 (fun H locs hP hD hS => ?_)
  refine lv_aload_n hx hb dX11_init_23 rfl (lv_at hl 0 rfl) ?_
  refine lv_bipush (v := 25) hx hb dX11_init_24 (by decide) ?_
  refine lv_iconst (v := 5) hx hb dX11_init_26 (by decide) ?_
  refine lv_iload_n hx hb dX11_init_27 rfl (lv_at hl 1 rfl) ?_
  refine lv_imul hx hb dX11_init_28 ?_
  refine jt_i 10 (by decide) ?_
  refine lv_iconst (v := 4) hx hb dX11_init_29 (by decide) ?_
  refine lv_iadd hx hb dX11_init_30 ?_
  refine jt_i 14 (by decide) ?_
  refine va_mmin hx hb (by rw [hml]; exact hl.1.symm) hown (hts (.methodLink RX11 22 Lib.Math.min.name) (jm m_1678)) (hts (.static Lib.Math.min.name) (jm m_765)) (hts (.initialized "java/lang/Math") (jm m_1343)) (hts (.code Lib.Math.min.name Lib.Math.min.code 2 (some .int)) (jm m_766)) (Nat.le_of_ble_eq_true rfl) (Nat.le_of_ble_eq_true rfl) (Nat.le_of_ble_eq_true rfl) (Nat.le_of_ble_eq_true rfl) dX11_init_31 ?_
  refine jt_i 14 (by decide) ?_
  refine va_put (D := (dC, dI)) (ci := 11) (v := .int 14) (ty := .int) (C := RX11) (T := TX11) (N := 7) hx hb hts (jh hin_RX11) tyX11 tyX11_ok nmX11 hown hK hP hD hS 0 (jg_s (n := 3) (jn_a (n := 2) (m := 1) (jn_s (jn_a (n := 1) (m := 1) (jn_s rfl) rfl)) rfl) (Nat.le_of_ble_eq_true rfl)) rfl 0 (by decide) (hts (.fieldLink RX11 28 "BookOfAll$Volume" "lastLetter" "I") (jm m_1679)) (fun _ h9 => h9) rfl (by decide +kernel) rfl rfl (Nat.le_of_ble_eq_true rfl) dX11_init_34 (fun H locs hP hD hS => ?_)
  refine W.widen (k := 2) (n := 0) (Nat.le_of_ble_eq_true rfl) (Nat.le_of_ble_eq_true rfl) ?_
  exact W.vret hx hb hr (fun t ht hW => ⟨⟨(fun k => [0, q1, q2].getD k 0, fun k => [dC 0, y1, y2].getD k (dC 0)), rfl, trivial, by rw [ht]; exact hP, va_K.moved hW.alike hK, hD⟩, hS.F ht⟩) hS.2.2 dX11_init_37
set_option maxHeartbeats 500000 in
set_option maxRecDepth 100000 in
theorem iX11_init_4 (l : Launch) (dC : Nat → ClassId) (dI : Nat → Nat → Nat) (sz h0 : Nat) : Met l yX11_init (jk yX11_init cX11_init 2 none) ({ frames := 1, cells := 2, slots := 0, locals := 40 }) (va_Pc [.ref h0, .int 3] (jw_P (dC, dI) [(h0, .inr (11, [.int 0, .int 0, .null, .null, .int 0, .int 0, .int 0]))] [] sz)) (va_Qv (fun (_ : ((Nat → Nat) × (Nat → ClassId))) => True) (fun u t => va_P (dC, dI) vwCl [(h0, .inr (11, [.int 19, .int (-1), .ref (u.1 1), .ref (u.1 2), .int 0, .int 0, .int 0])), ((u.1 1), .inl ((u.2 1), 0, .inl (fun _ => 0))), ((u.1 2), .inl ((u.2 2), 0, .inl (fun _ => 0)))] t.heap ∧ va_K (dC, dI) vwCl [((u.2 1), .int), ((u.2 2), .int)] t ∧ va_D (va_A [(h0, .inr (11, [.int 0, .int 0, .null, .null, .int 0, .int 0, .int 0]))] sz) [(h0, .inr (11, [.int 19, .int (-1), .ref (u.1 1), .ref (u.1 2), .int 0, .int 0, .int 0])), ((u.1 1), .inl ((u.2 1), 0, .inl (fun _ => 0))), ((u.1 2), .inl ((u.2 2), 0, .inl (fun _ => 0)))]) (va_A [(h0, .inr (11, [.int 0, .int 0, .null, .null, .int 0, .int 0, .int 0]))] sz)) 2 0 (va_A [(h0, .inr (11, [.int 0, .int 0, .null, .null, .int 0, .int 0, .int 0]))] sz) := by
  refine Met.ofW (cc := cX11_init) (maxL := 2) (ret := none) (by decide) rfl ?_
  intro p e s m args below meth c s₁ B hml hv
  obtain ⟨rfl, hsz, hP, hK, hD0⟩ := hv
  have hx := B.exec
  have hb := B.bytes
  have hr := B.returns
  have hts := atoms_spec (ws := (jk yX11_init cX11_init 2 none)) B.pre
  have hown : s.vm.findClass RX11 = some m.cls := findClass_of_methodNamed B.named
  have hlocks := B.notSynchronized
  have hin : meth.name = "<init>" := (name_of_methodNamed B.named B.method).1
  subst hsz
  have hD := hD0.self (sz := s.heap.size)
  generalize hAe : (va_A [(h0, .inr (11, [.int 0, .int 0, .null, .null, .int 0, .int 0, .int 0]))] s.heap.size) = A at hD ⊢
  have hA : ∀ q : Nat, s.heap.size ≤ q → A q := fun q h => by rw [← hAe]; exact Or.inr h
  have hS : va_S A s.heap s.heap [] := va_S.rf
  have hP : va_P (dC, dI) vwCl [(h0, .inr (11, [.int 0, .int 0, .null, .null, .int 0, .int 0, .int 0]))] s.heap := hP
  have hl := lv_entry ([.ref h0, .int 3]) (n := 2) (Nat.le_of_ble_eq_true rfl)
  rw [lg_entry_eq]
  generalize (lg_sl ([.ref h0, .int 3]) ++ List.replicate (2 - (lg_sl ([.ref h0, .int 3])).length) Slot.unset).toArray = ls at hl ⊢
  have hl : lv_has ls 2 [(0, .ref h0), (1, .int 3)] := hl
  refine lv_aload_n hx hb dX11_init_0 rfl (lv_at hl 0 rfl) ?_
  refine W.objInit hx hb hown (hts (.methodLink RX11 3 objectInit) (jm m_1675)) (hts (.instanceMethod objectInit) (jm m_1307)) (hts (.code objectInit ⟨#[0xb1]⟩ 1 none) (jm m_1308)) rfl (by rw [hml]; exact hl.1) rfl dX11_init_1 (Nat.le_of_ble_eq_true rfl) (Nat.le_of_ble_eq_true rfl) ?_
  refine W.eq (g2 := F0 m 4 ls []) rfl ?_
  refine lv_aload_n hx hb dX11_init_4 rfl (lv_at hl 0 rfl) ?_
  refine lv_iconst (v := (-1)) hx hb dX11_init_5 (by decide) ?_
  refine va_put (D := (dC, dI)) (ci := 11) (v := .int (-1)) (ty := .int) (C := RX11) (T := TX11) (N := 7) hx hb hts (jh hin_RX11) tyX11 tyX11_ok nmX11 hown hK hP hD hS 0 rfl rfl 1 (by decide) (hts (.fieldLink RX11 9 "BookOfAll$Volume" "setDay" "I") (jm m_1676)) (fun _ h9 => h9) rfl (by decide +kernel) rfl rfl (Nat.le_of_ble_eq_true rfl) dX11_init_6 (fun H locs hP hD hS => ?_)
  refine lv_aload_n hx hb dX11_init_9 rfl (lv_at hl 0 rfl) ?_
  refine lv_iconst (v := 0) hx hb dX11_init_10 (by decide) ?_
  refine va_newa (atype := .int) (N' := 0) (a0 := (0, .inl (fun _ => 0))) (ty := .int) hx hb (hts (.arrayClass .int) (jm m_2)) rfl hK hP hD hS hA (fun _ => rfl) (by decide) (by decide) (by decide) (Nat.le_of_ble_eq_true rfl) (Nat.le_of_ble_eq_true rfl) dX11_init_11 (fun q1 y1 H hK hP hD hS => ?_)
  refine W.widen (k := 1) (n := 0) (Nat.le_of_ble_eq_true rfl) (Nat.le_of_ble_eq_true rfl) ?_
  refine va_put (D := (dC, dI)) (ci := 11) (v := .ref q1) (ty := .array .int) (C := RX11) (T := TX11) (N := 7) hx hb hts (jh hin_RX11) tyX11 tyX11_ok nmX11 hown hK hP hD hS 0 (jg_l (jg_s (n := 1) rfl (Nat.le_of_ble_eq_true rfl))) rfl 2 (by decide) (hts (.fieldLink RX11 15 "BookOfAll$Volume" "order" "[I") (jm m_1677)) (fun _ h9 => h9) rfl (by decide +kernel) rfl rfl (Nat.le_of_ble_eq_true rfl) dX11_init_13 (fun H locs hP hD hS => ?_)
  refine lv_aload_n hx hb dX11_init_16 rfl (lv_at hl 0 rfl) ?_
  refine lv_iconst (v := 0) hx hb dX11_init_17 (by decide) ?_
  refine va_newa (atype := .int) (N' := 0) (a0 := (0, .inl (fun _ => 0))) (ty := .int) hx hb (hts (.arrayClass .int) (jm m_2)) rfl hK hP hD hS hA (fun _ => rfl) (by decide) (by decide) (by decide) (Nat.le_of_ble_eq_true rfl) (Nat.le_of_ble_eq_true rfl) dX11_init_18 (fun q2 y2 H hK hP hD hS => ?_)
  refine W.widen (k := 2) (n := 0) (Nat.le_of_ble_eq_true rfl) (Nat.le_of_ble_eq_true rfl) ?_
  refine va_put (D := (dC, dI)) (ci := 11) (v := .ref q2) (ty := .array .int) (C := RX11) (T := TX11) (N := 7) hx hb hts (jh hin_RX11) tyX11 tyX11_ok nmX11 hown hK hP hD hS 0 (jg_l (jg_s (n := 2) (jn_a (n := 1) (m := 1) (jn_s rfl) rfl) (Nat.le_of_ble_eq_true rfl))) rfl 3 (by decide) (hts (.fieldLink RX11 19 "BookOfAll$Volume" "laid" "[I") (jm m_530)) (fun _ h9 => h9) rfl (by decide +kernel) rfl rfl (Nat.le_of_ble_eq_true rfl) dX11_init_20 (fun H locs hP hD hS => ?_)
  refine lv_aload_n hx hb dX11_init_23 rfl (lv_at hl 0 rfl) ?_
  refine lv_bipush (v := 25) hx hb dX11_init_24 (by decide) ?_
  refine lv_iconst (v := 5) hx hb dX11_init_26 (by decide) ?_
  refine lv_iload_n hx hb dX11_init_27 rfl (lv_at hl 1 rfl) ?_
  refine lv_imul hx hb dX11_init_28 ?_
  refine jt_i 15 (by decide) ?_
  refine lv_iconst (v := 4) hx hb dX11_init_29 (by decide) ?_
  refine lv_iadd hx hb dX11_init_30 ?_
  refine jt_i 19 (by decide) ?_
  refine va_mmin hx hb (by rw [hml]; exact hl.1.symm) hown (hts (.methodLink RX11 22 Lib.Math.min.name) (jm m_1678)) (hts (.static Lib.Math.min.name) (jm m_765)) (hts (.initialized "java/lang/Math") (jm m_1343)) (hts (.code Lib.Math.min.name Lib.Math.min.code 2 (some .int)) (jm m_766)) (Nat.le_of_ble_eq_true rfl) (Nat.le_of_ble_eq_true rfl) (Nat.le_of_ble_eq_true rfl) (Nat.le_of_ble_eq_true rfl) dX11_init_31 ?_
  refine jt_i 19 (by decide) ?_
  refine va_put (D := (dC, dI)) (ci := 11) (v := .int 19) (ty := .int) (C := RX11) (T := TX11) (N := 7) hx hb hts (jh hin_RX11) tyX11 tyX11_ok nmX11 hown hK hP hD hS 0 (jg_s (n := 3) (jn_a (n := 2) (m := 1) (jn_s (jn_a (n := 1) (m := 1) (jn_s rfl) rfl)) rfl) (Nat.le_of_ble_eq_true rfl)) rfl 0 (by decide) (hts (.fieldLink RX11 28 "BookOfAll$Volume" "lastLetter" "I") (jm m_1679)) (fun _ h9 => h9) rfl (by decide +kernel) rfl rfl (Nat.le_of_ble_eq_true rfl) dX11_init_34 (fun H locs hP hD hS => ?_)
  refine W.widen (k := 2) (n := 0) (Nat.le_of_ble_eq_true rfl) (Nat.le_of_ble_eq_true rfl) ?_
  exact W.vret hx hb hr (fun t ht hW => ⟨⟨(fun k => [0, q1, q2].getD k 0, fun k => [dC 0, y1, y2].getD k (dC 0)), rfl, trivial, by rw [ht]; exact hP, va_K.moved hW.alike hK, hD⟩, hS.F ht⟩) hS.2.2 dX11_init_37
set_option maxHeartbeats 500000 in
set_option maxRecDepth 100000 in
theorem iX11_init_5 (l : Launch) (dC : Nat → ClassId) (dI : Nat → Nat → Nat) (sz h0 : Nat) : Met l yX11_init (jk yX11_init cX11_init 2 none) ({ frames := 1, cells := 2, slots := 0, locals := 40 }) (va_Pc [.ref h0, .int 4] (jw_P (dC, dI) [(h0, .inr (11, [.int 0, .int 0, .null, .null, .int 0, .int 0, .int 0]))] [] sz)) (va_Qv (fun (_ : ((Nat → Nat) × (Nat → ClassId))) => True) (fun u t => va_P (dC, dI) vwCl [(h0, .inr (11, [.int 24, .int (-1), .ref (u.1 1), .ref (u.1 2), .int 0, .int 0, .int 0])), ((u.1 1), .inl ((u.2 1), 0, .inl (fun _ => 0))), ((u.1 2), .inl ((u.2 2), 0, .inl (fun _ => 0)))] t.heap ∧ va_K (dC, dI) vwCl [((u.2 1), .int), ((u.2 2), .int)] t ∧ va_D (va_A [(h0, .inr (11, [.int 0, .int 0, .null, .null, .int 0, .int 0, .int 0]))] sz) [(h0, .inr (11, [.int 24, .int (-1), .ref (u.1 1), .ref (u.1 2), .int 0, .int 0, .int 0])), ((u.1 1), .inl ((u.2 1), 0, .inl (fun _ => 0))), ((u.1 2), .inl ((u.2 2), 0, .inl (fun _ => 0)))]) (va_A [(h0, .inr (11, [.int 0, .int 0, .null, .null, .int 0, .int 0, .int 0]))] sz)) 2 0 (va_A [(h0, .inr (11, [.int 0, .int 0, .null, .null, .int 0, .int 0, .int 0]))] sz) := by
  refine Met.ofW (cc := cX11_init) (maxL := 2) (ret := none) (by decide) rfl ?_
  intro p e s m args below meth c s₁ B hml hv
  obtain ⟨rfl, hsz, hP, hK, hD0⟩ := hv
  have hx := B.exec
  have hb := B.bytes
  have hr := B.returns
  have hts := atoms_spec (ws := (jk yX11_init cX11_init 2 none)) B.pre
  have hown : s.vm.findClass RX11 = some m.cls := findClass_of_methodNamed B.named
  have hlocks := B.notSynchronized
  have hin : meth.name = "<init>" := (name_of_methodNamed B.named B.method).1
  subst hsz
  have hD := hD0.self (sz := s.heap.size)
  generalize hAe : (va_A [(h0, .inr (11, [.int 0, .int 0, .null, .null, .int 0, .int 0, .int 0]))] s.heap.size) = A at hD ⊢
  have hA : ∀ q : Nat, s.heap.size ≤ q → A q := fun q h => by rw [← hAe]; exact Or.inr h
  have hS : va_S A s.heap s.heap [] := va_S.rf
  have hP : va_P (dC, dI) vwCl [(h0, .inr (11, [.int 0, .int 0, .null, .null, .int 0, .int 0, .int 0]))] s.heap := hP
  have hl := lv_entry ([.ref h0, .int 4]) (n := 2) (Nat.le_of_ble_eq_true rfl)
  rw [lg_entry_eq]
  generalize (lg_sl ([.ref h0, .int 4]) ++ List.replicate (2 - (lg_sl ([.ref h0, .int 4])).length) Slot.unset).toArray = ls at hl ⊢
  have hl : lv_has ls 2 [(0, .ref h0), (1, .int 4)] := hl
  refine lv_aload_n hx hb dX11_init_0 rfl (lv_at hl 0 rfl) ?_
  refine W.objInit hx hb hown (hts (.methodLink RX11 3 objectInit) (jm m_1675)) (hts (.instanceMethod objectInit) (jm m_1307)) (hts (.code objectInit ⟨#[0xb1]⟩ 1 none) (jm m_1308)) rfl (by rw [hml]; exact hl.1) rfl dX11_init_1 (Nat.le_of_ble_eq_true rfl) (Nat.le_of_ble_eq_true rfl) ?_
  refine W.eq (g2 := F0 m 4 ls []) rfl ?_
  refine lv_aload_n hx hb dX11_init_4 rfl (lv_at hl 0 rfl) ?_
  refine lv_iconst (v := (-1)) hx hb dX11_init_5 (by decide) ?_
  refine va_put (D := (dC, dI)) (ci := 11) (v := .int (-1)) (ty := .int) (C := RX11) (T := TX11) (N := 7) hx hb hts (jh hin_RX11) tyX11 tyX11_ok nmX11 hown hK hP hD hS 0 rfl rfl 1 (by decide) (hts (.fieldLink RX11 9 "BookOfAll$Volume" "setDay" "I") (jm m_1676)) (fun _ h9 => h9) rfl (by decide +kernel) rfl rfl (Nat.le_of_ble_eq_true rfl) dX11_init_6 (fun H locs hP hD hS => ?_)
  refine lv_aload_n hx hb dX11_init_9 rfl (lv_at hl 0 rfl) ?_
  refine lv_iconst (v := 0) hx hb dX11_init_10 (by decide) ?_
  refine va_newa (atype := .int) (N' := 0) (a0 := (0, .inl (fun _ => 0))) (ty := .int) hx hb (hts (.arrayClass .int) (jm m_2)) rfl hK hP hD hS hA (fun _ => rfl) (by decide) (by decide) (by decide) (Nat.le_of_ble_eq_true rfl) (Nat.le_of_ble_eq_true rfl) dX11_init_11 (fun q1 y1 H hK hP hD hS => ?_)
  refine W.widen (k := 1) (n := 0) (Nat.le_of_ble_eq_true rfl) (Nat.le_of_ble_eq_true rfl) ?_
  refine va_put (D := (dC, dI)) (ci := 11) (v := .ref q1) (ty := .array .int) (C := RX11) (T := TX11) (N := 7) hx hb hts (jh hin_RX11) tyX11 tyX11_ok nmX11 hown hK hP hD hS 0 (jg_l (jg_s (n := 1) rfl (Nat.le_of_ble_eq_true rfl))) rfl 2 (by decide) (hts (.fieldLink RX11 15 "BookOfAll$Volume" "order" "[I") (jm m_1677)) (fun _ h9 => h9) rfl (by decide +kernel) rfl rfl (Nat.le_of_ble_eq_true rfl) dX11_init_13 (fun H locs hP hD hS => ?_)
  refine lv_aload_n hx hb dX11_init_16 rfl (lv_at hl 0 rfl) ?_
  refine lv_iconst (v := 0) hx hb dX11_init_17 (by decide) ?_
  refine va_newa (atype := .int) (N' := 0) (a0 := (0, .inl (fun _ => 0))) (ty := .int) hx hb (hts (.arrayClass .int) (jm m_2)) rfl hK hP hD hS hA (fun _ => rfl) (by decide) (by decide) (by decide) (Nat.le_of_ble_eq_true rfl) (Nat.le_of_ble_eq_true rfl) dX11_init_18 (fun q2 y2 H hK hP hD hS => ?_)
  refine W.widen (k := 2) (n := 0) (Nat.le_of_ble_eq_true rfl) (Nat.le_of_ble_eq_true rfl) ?_
  refine va_put (D := (dC, dI)) (ci := 11) (v := .ref q2) (ty := .array .int) (C := RX11) (T := TX11) (N := 7) hx hb hts (jh hin_RX11) tyX11 tyX11_ok nmX11 hown hK hP hD hS 0 (jg_l (jg_s (n := 2) (jn_a (n := 1) (m := 1) (jn_s rfl) rfl) (Nat.le_of_ble_eq_true rfl))) rfl 3 (by decide) (hts (.fieldLink RX11 19 "BookOfAll$Volume" "laid" "[I") (jm m_530)) (fun _ h9 => h9) rfl (by decide +kernel) rfl rfl (Nat.le_of_ble_eq_true rfl) dX11_init_20 (fun H locs hP hD hS => ?_)
  refine lv_aload_n hx hb dX11_init_23 rfl (lv_at hl 0 rfl) ?_
  refine lv_bipush (v := 25) hx hb dX11_init_24 (by decide) ?_
  refine lv_iconst (v := 5) hx hb dX11_init_26 (by decide) ?_
  refine lv_iload_n hx hb dX11_init_27 rfl (lv_at hl 1 rfl) ?_
  refine lv_imul hx hb dX11_init_28 ?_
  refine jt_i 20 (by decide) ?_
  refine lv_iconst (v := 4) hx hb dX11_init_29 (by decide) ?_
  refine lv_iadd hx hb dX11_init_30 ?_
  refine jt_i 24 (by decide) ?_
  refine va_mmin hx hb (by rw [hml]; exact hl.1.symm) hown (hts (.methodLink RX11 22 Lib.Math.min.name) (jm m_1678)) (hts (.static Lib.Math.min.name) (jm m_765)) (hts (.initialized "java/lang/Math") (jm m_1343)) (hts (.code Lib.Math.min.name Lib.Math.min.code 2 (some .int)) (jm m_766)) (Nat.le_of_ble_eq_true rfl) (Nat.le_of_ble_eq_true rfl) (Nat.le_of_ble_eq_true rfl) (Nat.le_of_ble_eq_true rfl) dX11_init_31 ?_
  refine jt_i 24 (by decide) ?_
  refine va_put (D := (dC, dI)) (ci := 11) (v := .int 24) (ty := .int) (C := RX11) (T := TX11) (N := 7) hx hb hts (jh hin_RX11) tyX11 tyX11_ok nmX11 hown hK hP hD hS 0 (jg_s (n := 3) (jn_a (n := 2) (m := 1) (jn_s (jn_a (n := 1) (m := 1) (jn_s rfl) rfl)) rfl) (Nat.le_of_ble_eq_true rfl)) rfl 0 (by decide) (hts (.fieldLink RX11 28 "BookOfAll$Volume" "lastLetter" "I") (jm m_1679)) (fun _ h9 => h9) rfl (by decide +kernel) rfl rfl (Nat.le_of_ble_eq_true rfl) dX11_init_34 (fun H locs hP hD hS => ?_)
  refine W.widen (k := 2) (n := 0) (Nat.le_of_ble_eq_true rfl) (Nat.le_of_ble_eq_true rfl) ?_
  exact W.vret hx hb hr (fun t ht hW => ⟨⟨(fun k => [0, q1, q2].getD k 0, fun k => [dC 0, y1, y2].getD k (dC 0)), rfl, trivial, by rw [ht]; exact hP, va_K.moved hW.alike hK, hD⟩, hS.F ht⟩) hS.2.2 dX11_init_37
set_option maxHeartbeats 500000 in
set_option maxRecDepth 100000 in
theorem iX11_init_6 (l : Launch) (dC : Nat → ClassId) (dI : Nat → Nat → Nat) (sz h0 : Nat) : Met l yX11_init (jk yX11_init cX11_init 2 none) ({ frames := 1, cells := 2, slots := 0, locals := 40 }) (va_Pc [.ref h0, .int 5] (jw_P (dC, dI) [(h0, .inr (11, [.int 0, .int 0, .null, .null, .int 0, .int 0, .int 0]))] [] sz)) (va_Qv (fun (_ : ((Nat → Nat) × (Nat → ClassId))) => True) (fun u t => va_P (dC, dI) vwCl [(h0, .inr (11, [.int 25, .int (-1), .ref (u.1 1), .ref (u.1 2), .int 0, .int 0, .int 0])), ((u.1 1), .inl ((u.2 1), 0, .inl (fun _ => 0))), ((u.1 2), .inl ((u.2 2), 0, .inl (fun _ => 0)))] t.heap ∧ va_K (dC, dI) vwCl [((u.2 1), .int), ((u.2 2), .int)] t ∧ va_D (va_A [(h0, .inr (11, [.int 0, .int 0, .null, .null, .int 0, .int 0, .int 0]))] sz) [(h0, .inr (11, [.int 25, .int (-1), .ref (u.1 1), .ref (u.1 2), .int 0, .int 0, .int 0])), ((u.1 1), .inl ((u.2 1), 0, .inl (fun _ => 0))), ((u.1 2), .inl ((u.2 2), 0, .inl (fun _ => 0)))]) (va_A [(h0, .inr (11, [.int 0, .int 0, .null, .null, .int 0, .int 0, .int 0]))] sz)) 2 0 (va_A [(h0, .inr (11, [.int 0, .int 0, .null, .null, .int 0, .int 0, .int 0]))] sz) := by
  refine Met.ofW (cc := cX11_init) (maxL := 2) (ret := none) (by decide) rfl ?_
  intro p e s m args below meth c s₁ B hml hv
  obtain ⟨rfl, hsz, hP, hK, hD0⟩ := hv
  have hx := B.exec
  have hb := B.bytes
  have hr := B.returns
  have hts := atoms_spec (ws := (jk yX11_init cX11_init 2 none)) B.pre
  have hown : s.vm.findClass RX11 = some m.cls := findClass_of_methodNamed B.named
  have hlocks := B.notSynchronized
  have hin : meth.name = "<init>" := (name_of_methodNamed B.named B.method).1
  subst hsz
  have hD := hD0.self (sz := s.heap.size)
  generalize hAe : (va_A [(h0, .inr (11, [.int 0, .int 0, .null, .null, .int 0, .int 0, .int 0]))] s.heap.size) = A at hD ⊢
  have hA : ∀ q : Nat, s.heap.size ≤ q → A q := fun q h => by rw [← hAe]; exact Or.inr h
  have hS : va_S A s.heap s.heap [] := va_S.rf
  have hP : va_P (dC, dI) vwCl [(h0, .inr (11, [.int 0, .int 0, .null, .null, .int 0, .int 0, .int 0]))] s.heap := hP
  have hl := lv_entry ([.ref h0, .int 5]) (n := 2) (Nat.le_of_ble_eq_true rfl)
  rw [lg_entry_eq]
  generalize (lg_sl ([.ref h0, .int 5]) ++ List.replicate (2 - (lg_sl ([.ref h0, .int 5])).length) Slot.unset).toArray = ls at hl ⊢
  have hl : lv_has ls 2 [(0, .ref h0), (1, .int 5)] := hl
  refine lv_aload_n hx hb dX11_init_0 rfl (lv_at hl 0 rfl) ?_
  refine W.objInit hx hb hown (hts (.methodLink RX11 3 objectInit) (jm m_1675)) (hts (.instanceMethod objectInit) (jm m_1307)) (hts (.code objectInit ⟨#[0xb1]⟩ 1 none) (jm m_1308)) rfl (by rw [hml]; exact hl.1) rfl dX11_init_1 (Nat.le_of_ble_eq_true rfl) (Nat.le_of_ble_eq_true rfl) ?_
  refine W.eq (g2 := F0 m 4 ls []) rfl ?_
  refine lv_aload_n hx hb dX11_init_4 rfl (lv_at hl 0 rfl) ?_
  refine lv_iconst (v := (-1)) hx hb dX11_init_5 (by decide) ?_
  refine va_put (D := (dC, dI)) (ci := 11) (v := .int (-1)) (ty := .int) (C := RX11) (T := TX11) (N := 7) hx hb hts (jh hin_RX11) tyX11 tyX11_ok nmX11 hown hK hP hD hS 0 rfl rfl 1 (by decide) (hts (.fieldLink RX11 9 "BookOfAll$Volume" "setDay" "I") (jm m_1676)) (fun _ h9 => h9) rfl (by decide +kernel) rfl rfl (Nat.le_of_ble_eq_true rfl) dX11_init_6 (fun H locs hP hD hS => ?_)
  refine lv_aload_n hx hb dX11_init_9 rfl (lv_at hl 0 rfl) ?_
  refine lv_iconst (v := 0) hx hb dX11_init_10 (by decide) ?_
  refine va_newa (atype := .int) (N' := 0) (a0 := (0, .inl (fun _ => 0))) (ty := .int) hx hb (hts (.arrayClass .int) (jm m_2)) rfl hK hP hD hS hA (fun _ => rfl) (by decide) (by decide) (by decide) (Nat.le_of_ble_eq_true rfl) (Nat.le_of_ble_eq_true rfl) dX11_init_11 (fun q1 y1 H hK hP hD hS => ?_)
  refine W.widen (k := 1) (n := 0) (Nat.le_of_ble_eq_true rfl) (Nat.le_of_ble_eq_true rfl) ?_
  refine va_put (D := (dC, dI)) (ci := 11) (v := .ref q1) (ty := .array .int) (C := RX11) (T := TX11) (N := 7) hx hb hts (jh hin_RX11) tyX11 tyX11_ok nmX11 hown hK hP hD hS 0 (jg_l (jg_s (n := 1) rfl (Nat.le_of_ble_eq_true rfl))) rfl 2 (by decide) (hts (.fieldLink RX11 15 "BookOfAll$Volume" "order" "[I") (jm m_1677)) (fun _ h9 => h9) rfl (by decide +kernel) rfl rfl (Nat.le_of_ble_eq_true rfl) dX11_init_13 (fun H locs hP hD hS => ?_)
  refine lv_aload_n hx hb dX11_init_16 rfl (lv_at hl 0 rfl) ?_
  refine lv_iconst (v := 0) hx hb dX11_init_17 (by decide) ?_
  refine va_newa (atype := .int) (N' := 0) (a0 := (0, .inl (fun _ => 0))) (ty := .int) hx hb (hts (.arrayClass .int) (jm m_2)) rfl hK hP hD hS hA (fun _ => rfl) (by decide) (by decide) (by decide) (Nat.le_of_ble_eq_true rfl) (Nat.le_of_ble_eq_true rfl) dX11_init_18 (fun q2 y2 H hK hP hD hS => ?_)
  refine W.widen (k := 2) (n := 0) (Nat.le_of_ble_eq_true rfl) (Nat.le_of_ble_eq_true rfl) ?_
  refine va_put (D := (dC, dI)) (ci := 11) (v := .ref q2) (ty := .array .int) (C := RX11) (T := TX11) (N := 7) hx hb hts (jh hin_RX11) tyX11 tyX11_ok nmX11 hown hK hP hD hS 0 (jg_l (jg_s (n := 2) (jn_a (n := 1) (m := 1) (jn_s rfl) rfl) (Nat.le_of_ble_eq_true rfl))) rfl 3 (by decide) (hts (.fieldLink RX11 19 "BookOfAll$Volume" "laid" "[I") (jm m_530)) (fun _ h9 => h9) rfl (by decide +kernel) rfl rfl (Nat.le_of_ble_eq_true rfl) dX11_init_20 (fun H locs hP hD hS => ?_)
  refine lv_aload_n hx hb dX11_init_23 rfl (lv_at hl 0 rfl) ?_
  refine lv_bipush (v := 25) hx hb dX11_init_24 (by decide) ?_
  refine lv_iconst (v := 5) hx hb dX11_init_26 (by decide) ?_
  refine lv_iload_n hx hb dX11_init_27 rfl (lv_at hl 1 rfl) ?_
  refine lv_imul hx hb dX11_init_28 ?_
  refine jt_i 25 (by decide) ?_
  refine lv_iconst (v := 4) hx hb dX11_init_29 (by decide) ?_
  refine lv_iadd hx hb dX11_init_30 ?_
  refine jt_i 29 (by decide) ?_
  refine va_mmin hx hb (by rw [hml]; exact hl.1.symm) hown (hts (.methodLink RX11 22 Lib.Math.min.name) (jm m_1678)) (hts (.static Lib.Math.min.name) (jm m_765)) (hts (.initialized "java/lang/Math") (jm m_1343)) (hts (.code Lib.Math.min.name Lib.Math.min.code 2 (some .int)) (jm m_766)) (Nat.le_of_ble_eq_true rfl) (Nat.le_of_ble_eq_true rfl) (Nat.le_of_ble_eq_true rfl) (Nat.le_of_ble_eq_true rfl) dX11_init_31 ?_
  refine jt_i 25 (by decide) ?_
  refine va_put (D := (dC, dI)) (ci := 11) (v := .int 25) (ty := .int) (C := RX11) (T := TX11) (N := 7) hx hb hts (jh hin_RX11) tyX11 tyX11_ok nmX11 hown hK hP hD hS 0 (jg_s (n := 3) (jn_a (n := 2) (m := 1) (jn_s (jn_a (n := 1) (m := 1) (jn_s rfl) rfl)) rfl) (Nat.le_of_ble_eq_true rfl)) rfl 0 (by decide) (hts (.fieldLink RX11 28 "BookOfAll$Volume" "lastLetter" "I") (jm m_1679)) (fun _ h9 => h9) rfl (by decide +kernel) rfl rfl (Nat.le_of_ble_eq_true rfl) dX11_init_34 (fun H locs hP hD hS => ?_)
  refine W.widen (k := 2) (n := 0) (Nat.le_of_ble_eq_true rfl) (Nat.le_of_ble_eq_true rfl) ?_
  exact W.vret hx hb hr (fun t ht hW => ⟨⟨(fun k => [0, q1, q2].getD k 0, fun k => [dC 0, y1, y2].getD k (dC 0)), rfl, trivial, by rw [ht]; exact hP, va_K.moved hW.alike hK, hD⟩, hS.F ht⟩) hS.2.2 dX11_init_37
set_option maxHeartbeats 1000000 in
set_option maxRecDepth 100000 in
theorem iX5_init_1 (l : Launch) (dC : Nat → ClassId) (dI : Nat → Nat → Nat) (sz h0 : Nat) : Met l yX5_init (jk yX5_init cX5_init 1 none) ({ frames := 1, cells := 10, slots := 2740, locals := 40 }) (va_Pc [.ref h0] (jw_P (dC, dI) [(h0, .inr (5, [.null, .null, .null, .null, .null, .int 0, .null, .null, .null, .null, .null, .int 0]))] [] sz)) (va_Qv (fun (_ : ((Nat → Nat) × (Nat → ClassId))) => True) (fun u t => va_P (dC, dI) vwCl [(h0, .inr (5, [.ref (u.1 1), .ref (u.1 2), .ref (u.1 3), .ref (u.1 4), .ref (u.1 5), .int 0, .ref (u.1 6), .ref (u.1 7), .ref (u.1 8), .ref (u.1 9), .ref (u.1 10), .int 0])), ((u.1 1), .inl ((u.2 1), 40, .inl (jfill (fun _ => 0) 40 (-1)))), ((u.1 2), .inl ((u.2 2), 600, .inl (fun _ => 0))), ((u.1 3), .inl ((u.2 3), 600, .inl (fun _ => 0))), ((u.1 4), .inl ((u.2 4), 600, .inl (fun _ => 0))), ((u.1 5), .inl ((u.2 5), 600, .inl (fun _ => 0))), ((u.1 6), .inl ((u.2 6), 60, .inl (fun _ => 0))), ((u.1 7), .inl ((u.2 7), 60, .inl (fun _ => 0))), ((u.1 8), .inl ((u.2 8), 60, .inl (fun _ => 0))), ((u.1 9), .inl ((u.2 9), 60, .inl (fun _ => 0))), ((u.1 10), .inl ((u.2 10), 60, .inl (fun _ => 0)))] t.heap ∧ va_K (dC, dI) vwCl [((u.2 1), .int), ((u.2 2), .int), ((u.2 3), .int), ((u.2 4), .int), ((u.2 5), .int), ((u.2 6), .int), ((u.2 7), .int), ((u.2 8), .int), ((u.2 9), .int), ((u.2 10), .boolean)] t ∧ va_D (va_A [(h0, .inr (5, [.null, .null, .null, .null, .null, .int 0, .null, .null, .null, .null, .null, .int 0]))] sz) [(h0, .inr (5, [.ref (u.1 1), .ref (u.1 2), .ref (u.1 3), .ref (u.1 4), .ref (u.1 5), .int 0, .ref (u.1 6), .ref (u.1 7), .ref (u.1 8), .ref (u.1 9), .ref (u.1 10), .int 0])), ((u.1 1), .inl ((u.2 1), 40, .inl (jfill (fun _ => 0) 40 (-1)))), ((u.1 2), .inl ((u.2 2), 600, .inl (fun _ => 0))), ((u.1 3), .inl ((u.2 3), 600, .inl (fun _ => 0))), ((u.1 4), .inl ((u.2 4), 600, .inl (fun _ => 0))), ((u.1 5), .inl ((u.2 5), 600, .inl (fun _ => 0))), ((u.1 6), .inl ((u.2 6), 60, .inl (fun _ => 0))), ((u.1 7), .inl ((u.2 7), 60, .inl (fun _ => 0))), ((u.1 8), .inl ((u.2 8), 60, .inl (fun _ => 0))), ((u.1 9), .inl ((u.2 9), 60, .inl (fun _ => 0))), ((u.1 10), .inl ((u.2 10), 60, .inl (fun _ => 0)))]) (va_A [(h0, .inr (5, [.null, .null, .null, .null, .null, .int 0, .null, .null, .null, .null, .null, .int 0]))] sz)) 10 2740 (va_A [(h0, .inr (5, [.null, .null, .null, .null, .null, .int 0, .null, .null, .null, .null, .null, .int 0]))] sz) := by
  refine Met.ofW (cc := cX5_init) (maxL := 1) (ret := none) (by decide) rfl ?_
  intro p e s m args below meth c s₁ B hml hv
  obtain ⟨rfl, hsz, hP, hK, hD0⟩ := hv
  have hx := B.exec
  have hb := B.bytes
  have hr := B.returns
  have hts := atoms_spec (ws := (jk yX5_init cX5_init 1 none)) B.pre
  have hown : s.vm.findClass RX5 = some m.cls := findClass_of_methodNamed B.named
  have hlocks := B.notSynchronized
  have hin : meth.name = "<init>" := (name_of_methodNamed B.named B.method).1
  subst hsz
  have hD := hD0.self (sz := s.heap.size)
  generalize hAe : (va_A [(h0, .inr (5, [.null, .null, .null, .null, .null, .int 0, .null, .null, .null, .null, .null, .int 0]))] s.heap.size) = A at hD ⊢
  have hA : ∀ q : Nat, s.heap.size ≤ q → A q := fun q h => by rw [← hAe]; exact Or.inr h
  have hS : va_S A s.heap s.heap [] := va_S.rf
  have hP : va_P (dC, dI) vwCl [(h0, .inr (5, [.null, .null, .null, .null, .null, .int 0, .null, .null, .null, .null, .null, .int 0]))] s.heap := hP
  have hl := lv_entry ([.ref h0]) (n := 1) (Nat.le_of_ble_eq_true rfl)
  rw [lg_entry_eq]
  generalize (lg_sl ([.ref h0]) ++ List.replicate (1 - (lg_sl ([.ref h0])).length) Slot.unset).toArray = ls at hl ⊢
  have hl : lv_has ls 1 [(0, .ref h0)] := hl
  have hf : ([.null, .null, .null, .null, .null, .int 0, .null, .null, .null, .null, .null, .int 0] : List Value).length = 12 := rfl
  refine lv_aload_n hx hb dX5_init_0 rfl (lv_at hl 0 rfl) ?_
  refine W.objInit hx hb hown (hts (.methodLink RX5 3 objectInit) (jm m_1685)) (hts (.instanceMethod objectInit) (jm m_1307)) (hts (.code objectInit ⟨#[0xb1]⟩ 1 none) (jm m_1308)) rfl (by rw [hml]; exact hl.1) rfl dX5_init_1 (Nat.le_of_ble_eq_true rfl) (Nat.le_of_ble_eq_true rfl) ?_
  refine W.eq (g2 := F0 m 4 ls []) rfl ?_
  refine lv_aload_n hx hb dX5_init_4 rfl (lv_at hl 0 rfl) ?_
  refine lv_bipush (v := 40) hx hb dX5_init_5 (by decide) ?_
  refine va_newa (atype := .int) (N' := 40) (a0 := (40, .inl (fun _ => 0))) (ty := .int) hx hb (hts (.arrayClass .int) (jm m_2)) rfl hK hP hD hS hA (fun _ => rfl) (by decide) (by decide) (by decide) (Nat.le_of_ble_eq_true rfl) (Nat.le_of_ble_eq_true rfl) dX5_init_7 (fun q1 y1 H hK hP hD hS => ?_)
  refine W.widen (k := 1) (n := 40) (Nat.le_of_ble_eq_true rfl) (Nat.le_of_ble_eq_true rfl) ?_
  have hP := jrP hP jy3
  have hD := jrD hD jy3
  refine va_putF (D := (dC, dI)) (ci := 5) (v := .ref q1) (ty := .array .int) (C := RX5) (T := TX5) (N := 12) hx hb hts (jh hin_RX5) tyX5 tyX5_ok nmX5 hown hK hP hD hS 0 jg_c0 rfl 0 (by decide) (hts (.fieldLink RX5 11 "BookOfAll$News" "latest" "[I") (jm m_602)) (fun _ h9 => h9) rfl hin rfl (by decide +kernel) rfl rfl (jn_lt hf (Nat.le_of_ble_eq_true rfl)) dX5_init_9 (fun H locs hP hD hS => ?_)
  have hP := jrP hP jy4
  have hD := jrD hD jy4
  have hf := jn_s (k := 0) (x := .ref q1) hf
  refine lv_aload_n hx hb dX5_init_12 rfl (lv_at hl 0 rfl) ?_
  refine lv_sipush (v := 600) hx hb dX5_init_13 (by decide) ?_
  refine va_newa (atype := .int) (N' := 600) (a0 := (600, .inl (fun _ => 0))) (ty := .int) hx hb (hts (.arrayClass .int) (jm m_2)) rfl hK hP hD hS hA (fun _ => rfl) (by decide) (by decide) (by decide) (Nat.le_of_ble_eq_true rfl) (Nat.le_of_ble_eq_true rfl) dX5_init_16 (fun q2 y2 H hK hP hD hS => ?_)
  refine W.widen (k := 2) (n := 640) (Nat.le_of_ble_eq_true rfl) (Nat.le_of_ble_eq_true rfl) ?_
  have hP := jrP hP jy3
  have hD := jrD hD jy3
  refine va_putF (D := (dC, dI)) (ci := 5) (v := .ref q2) (ty := .array .int) (C := RX5) (T := TX5) (N := 12) hx hb hts (jh hin_RX5) tyX5 tyX5_ok nmX5 hown hK hP hD hS 0 jg_c0 rfl 1 (by decide) (hts (.fieldLink RX5 15 "BookOfAll$News" "value" "[I") (jm m_603)) (fun _ h9 => h9) rfl hin rfl (by decide +kernel) rfl rfl (jn_lt hf (Nat.le_of_ble_eq_true rfl)) dX5_init_18 (fun H locs hP hD hS => ?_)
  have hP := jrP hP jy4
  have hD := jrD hD jy4
  have hf := jn_s (k := 1) (x := .ref q2) hf
  refine lv_aload_n hx hb dX5_init_21 rfl (lv_at hl 0 rfl) ?_
  refine lv_sipush (v := 600) hx hb dX5_init_22 (by decide) ?_
  refine va_newa (atype := .int) (N' := 600) (a0 := (600, .inl (fun _ => 0))) (ty := .int) hx hb (hts (.arrayClass .int) (jm m_2)) rfl hK hP hD hS hA (fun _ => rfl) (by decide) (by decide) (by decide) (Nat.le_of_ble_eq_true rfl) (Nat.le_of_ble_eq_true rfl) dX5_init_25 (fun q3 y3 H hK hP hD hS => ?_)
  refine W.widen (k := 3) (n := 1240) (Nat.le_of_ble_eq_true rfl) (Nat.le_of_ble_eq_true rfl) ?_
  have hP := jrP hP jy3
  have hD := jrD hD jy3
  refine va_putF (D := (dC, dI)) (ci := 5) (v := .ref q3) (ty := .array .int) (C := RX5) (T := TX5) (N := 12) hx hb hts (jh hin_RX5) tyX5 tyX5_ok nmX5 hown hK hP hD hS 0 jg_c0 rfl 2 (by decide) (hts (.fieldLink RX5 18 "BookOfAll$News" "source" "[I") (jm m_604)) (fun _ h9 => h9) rfl hin rfl (by decide +kernel) rfl rfl (jn_lt hf (Nat.le_of_ble_eq_true rfl)) dX5_init_27 (fun H locs hP hD hS => ?_)
  have hP := jrP hP jy4
  have hD := jrD hD jy4
  have hf := jn_s (k := 2) (x := .ref q3) hf
  refine lv_aload_n hx hb dX5_init_30 rfl (lv_at hl 0 rfl) ?_
  refine lv_sipush (v := 600) hx hb dX5_init_31 (by decide) ?_
  refine va_newa (atype := .int) (N' := 600) (a0 := (600, .inl (fun _ => 0))) (ty := .int) hx hb (hts (.arrayClass .int) (jm m_2)) rfl hK hP hD hS hA (fun _ => rfl) (by decide) (by decide) (by decide) (Nat.le_of_ble_eq_true rfl) (Nat.le_of_ble_eq_true rfl) dX5_init_34 (fun q4 y4 H hK hP hD hS => ?_)
  refine W.widen (k := 4) (n := 1840) (Nat.le_of_ble_eq_true rfl) (Nat.le_of_ble_eq_true rfl) ?_
  have hP := jrP hP jy3
  have hD := jrD hD jy3
  refine va_putF (D := (dC, dI)) (ci := 5) (v := .ref q4) (ty := .array .int) (C := RX5) (T := TX5) (N := 12) hx hb hts (jh hin_RX5) tyX5 tyX5_ok nmX5 hown hK hP hD hS 0 jg_c0 rfl 3 (by decide) (hts (.fieldLink RX5 21 "BookOfAll$News" "day" "[I") (jm m_605)) (fun _ h9 => h9) rfl hin rfl (by decide +kernel) rfl rfl (jn_lt hf (Nat.le_of_ble_eq_true rfl)) dX5_init_36 (fun H locs hP hD hS => ?_)
  have hP := jrP hP jy4
  have hD := jrD hD jy4
  have hf := jn_s (k := 3) (x := .ref q4) hf
  refine lv_aload_n hx hb dX5_init_39 rfl (lv_at hl 0 rfl) ?_
  refine lv_sipush (v := 600) hx hb dX5_init_40 (by decide) ?_
  refine va_newa (atype := .int) (N' := 600) (a0 := (600, .inl (fun _ => 0))) (ty := .int) hx hb (hts (.arrayClass .int) (jm m_2)) rfl hK hP hD hS hA (fun _ => rfl) (by decide) (by decide) (by decide) (Nat.le_of_ble_eq_true rfl) (Nat.le_of_ble_eq_true rfl) dX5_init_43 (fun q5 y5 H hK hP hD hS => ?_)
  refine W.widen (k := 5) (n := 2440) (Nat.le_of_ble_eq_true rfl) (Nat.le_of_ble_eq_true rfl) ?_
  have hP := jrP hP jy3
  have hD := jrD hD jy3
  refine va_putF (D := (dC, dI)) (ci := 5) (v := .ref q5) (ty := .array .int) (C := RX5) (T := TX5) (N := 12) hx hb hts (jh hin_RX5) tyX5 tyX5_ok nmX5 hown hK hP hD hS 0 jg_c0 rfl 4 (by decide) (hts (.fieldLink RX5 24 "BookOfAll$News" "earlier" "[I") (jm m_606)) (fun _ h9 => h9) rfl hin rfl (by decide +kernel) rfl rfl (jn_lt hf (Nat.le_of_ble_eq_true rfl)) dX5_init_45 (fun H locs hP hD hS => ?_)
  have hP := jrP hP jy4
  have hD := jrD hD jy4
  have hf := jn_s (k := 4) (x := .ref q5) hf
  refine lv_aload_n hx hb dX5_init_48 rfl (lv_at hl 0 rfl) ?_
  refine lv_bipush (v := 60) hx hb dX5_init_49 (by decide) ?_
  refine va_newa (atype := .int) (N' := 60) (a0 := (60, .inl (fun _ => 0))) (ty := .int) hx hb (hts (.arrayClass .int) (jm m_2)) rfl hK hP hD hS hA (fun _ => rfl) (by decide) (by decide) (by decide) (Nat.le_of_ble_eq_true rfl) (Nat.le_of_ble_eq_true rfl) dX5_init_51 (fun q6 y6 H hK hP hD hS => ?_)
  refine W.widen (k := 6) (n := 2500) (Nat.le_of_ble_eq_true rfl) (Nat.le_of_ble_eq_true rfl) ?_
  have hP := jrP hP jy3
  have hD := jrD hD jy3
  refine va_putF (D := (dC, dI)) (ci := 5) (v := .ref q6) (ty := .array .int) (C := RX5) (T := TX5) (N := 12) hx hb hts (jh hin_RX5) tyX5 tyX5_ok nmX5 hown hK hP hD hS 0 jg_c0 rfl 6 (by decide) (hts (.fieldLink RX5 27 "BookOfAll$News" "wrongLine" "[I") (jm m_607)) (fun _ h9 => h9) rfl hin rfl (by decide +kernel) rfl rfl (jn_lt hf (Nat.le_of_ble_eq_true rfl)) dX5_init_53 (fun H locs hP hD hS => ?_)
  have hP := jrP hP jy4
  have hD := jrD hD jy4
  have hf := jn_s (k := 6) (x := .ref q6) hf
  refine lv_aload_n hx hb dX5_init_56 rfl (lv_at hl 0 rfl) ?_
  refine lv_bipush (v := 60) hx hb dX5_init_57 (by decide) ?_
  refine va_newa (atype := .int) (N' := 60) (a0 := (60, .inl (fun _ => 0))) (ty := .int) hx hb (hts (.arrayClass .int) (jm m_2)) rfl hK hP hD hS hA (fun _ => rfl) (by decide) (by decide) (by decide) (Nat.le_of_ble_eq_true rfl) (Nat.le_of_ble_eq_true rfl) dX5_init_59 (fun q7 y7 H hK hP hD hS => ?_)
  refine W.widen (k := 7) (n := 2560) (Nat.le_of_ble_eq_true rfl) (Nat.le_of_ble_eq_true rfl) ?_
  have hP := jrP hP jy3
  have hD := jrD hD jy3
  refine va_putF (D := (dC, dI)) (ci := 5) (v := .ref q7) (ty := .array .int) (C := RX5) (T := TX5) (N := 12) hx hb hts (jh hin_RX5) tyX5 tyX5_ok nmX5 hown hK hP hD hS 0 jg_c0 rfl 7 (by decide) (hts (.fieldLink RX5 30 "BookOfAll$News" "kept" "[I") (jm m_608)) (fun _ h9 => h9) rfl hin rfl (by decide +kernel) rfl rfl (jn_lt hf (Nat.le_of_ble_eq_true rfl)) dX5_init_61 (fun H locs hP hD hS => ?_)
  have hP := jrP hP jy4
  have hD := jrD hD jy4
  have hf := jn_s (k := 7) (x := .ref q7) hf
  refine lv_aload_n hx hb dX5_init_64 rfl (lv_at hl 0 rfl) ?_
  refine lv_bipush (v := 60) hx hb dX5_init_65 (by decide) ?_
  refine va_newa (atype := .int) (N' := 60) (a0 := (60, .inl (fun _ => 0))) (ty := .int) hx hb (hts (.arrayClass .int) (jm m_2)) rfl hK hP hD hS hA (fun _ => rfl) (by decide) (by decide) (by decide) (Nat.le_of_ble_eq_true rfl) (Nat.le_of_ble_eq_true rfl) dX5_init_67 (fun q8 y8 H hK hP hD hS => ?_)
  refine W.widen (k := 8) (n := 2620) (Nat.le_of_ble_eq_true rfl) (Nat.le_of_ble_eq_true rfl) ?_
  have hP := jrP hP jy3
  have hD := jrD hD jy3
  refine va_putF (D := (dC, dI)) (ci := 5) (v := .ref q8) (ty := .array .int) (C := RX5) (T := TX5) (N := 12) hx hb hts (jh hin_RX5) tyX5 tyX5_ok nmX5 hown hK hP hD hS 0 jg_c0 rfl 8 (by decide) (hts (.fieldLink RX5 33 "BookOfAll$News" "should" "[I") (jm m_609)) (fun _ h9 => h9) rfl hin rfl (by decide +kernel) rfl rfl (jn_lt hf (Nat.le_of_ble_eq_true rfl)) dX5_init_69 (fun H locs hP hD hS => ?_)
  have hP := jrP hP jy4
  have hD := jrD hD jy4
  have hf := jn_s (k := 8) (x := .ref q8) hf
  refine lv_aload_n hx hb dX5_init_72 rfl (lv_at hl 0 rfl) ?_
  refine lv_bipush (v := 60) hx hb dX5_init_73 (by decide) ?_
  refine va_newa (atype := .int) (N' := 60) (a0 := (60, .inl (fun _ => 0))) (ty := .int) hx hb (hts (.arrayClass .int) (jm m_2)) rfl hK hP hD hS hA (fun _ => rfl) (by decide) (by decide) (by decide) (Nat.le_of_ble_eq_true rfl) (Nat.le_of_ble_eq_true rfl) dX5_init_75 (fun q9 y9 H hK hP hD hS => ?_)
  refine W.widen (k := 9) (n := 2680) (Nat.le_of_ble_eq_true rfl) (Nat.le_of_ble_eq_true rfl) ?_
  have hP := jrP hP jy3
  have hD := jrD hD jy3
  refine va_putF (D := (dC, dI)) (ci := 5) (v := .ref q9) (ty := .array .int) (C := RX5) (T := TX5) (N := 12) hx hb hts (jh hin_RX5) tyX5 tyX5_ok nmX5 hown hK hP hD hS 0 jg_c0 rfl 9 (by decide) (hts (.fieldLink RX5 36 "BookOfAll$News" "erratumDay" "[I") (jm m_610)) (fun _ h9 => h9) rfl hin rfl (by decide +kernel) rfl rfl (jn_lt hf (Nat.le_of_ble_eq_true rfl)) dX5_init_77 (fun H locs hP hD hS => ?_)
  have hP := jrP hP jy4
  have hD := jrD hD jy4
  have hf := jn_s (k := 9) (x := .ref q9) hf
  refine lv_aload_n hx hb dX5_init_80 rfl (lv_at hl 0 rfl) ?_
  refine lv_bipush (v := 60) hx hb dX5_init_81 (by decide) ?_
  refine va_newa (atype := .boolean) (N' := 60) (a0 := (60, .inl (fun _ => 0))) (ty := .boolean) hx hb (hts (.arrayClass .boolean) (jm m_21)) rfl hK hP hD hS hA (fun _ => rfl) (by decide) (by decide) (by decide) (Nat.le_of_ble_eq_true rfl) (Nat.le_of_ble_eq_true rfl) dX5_init_83 (fun q10 y10 H hK hP hD hS => ?_)
  refine W.widen (k := 10) (n := 2740) (Nat.le_of_ble_eq_true rfl) (Nat.le_of_ble_eq_true rfl) ?_
  have hP := jrP hP jy3
  have hD := jrD hD jy3
  refine va_putF (D := (dC, dI)) (ci := 5) (v := .ref q10) (ty := .array .boolean) (C := RX5) (T := TX5) (N := 12) hx hb hts (jh hin_RX5) tyX5 tyX5_ok nmX5 hown hK hP hD hS 0 jg_c0 rfl 10 (by decide) (hts (.fieldLink RX5 39 "BookOfAll$News" "missed" "[Z") (jm m_611)) (fun _ h9 => h9) rfl hin rfl (by decide +kernel) rfl rfl (jn_lt hf (Nat.le_of_ble_eq_true rfl)) dX5_init_85 (fun H locs hP hD hS => ?_)
  have hP := jrP hP jy4
  have hD := jrD hD jy4
  have hf := jn_s (k := 10) (x := .ref q10) hf
  refine lv_aload_n hx hb dX5_init_88 rfl (lv_at hl 0 rfl) ?_
  refine va_get (D := (dC, dI)) (ci := 5) (v := .ref q1) (C := RX5) (T := TX5) (N := 12) hx hb hts (jh hin_RX5) hown hK hP 0 jg_c0 rfl 0 (by decide) (hts (.fieldLink RX5 11 "BookOfAll$News" "latest" "[I") (jm m_602)) (fun _ h9 => h9) (jg_n (Nat.ne_of_beq_eq_false rfl) (jg_n (Nat.ne_of_beq_eq_false rfl) (jg_n (Nat.ne_of_beq_eq_false rfl) (jg_n (Nat.ne_of_beq_eq_false rfl) (jg_n (Nat.ne_of_beq_eq_false rfl) (jg_n (Nat.ne_of_beq_eq_false rfl) (jg_n (Nat.ne_of_beq_eq_false rfl) (jg_n (Nat.ne_of_beq_eq_false rfl) (jg_n (Nat.ne_of_beq_eq_false rfl) (jg_s (n := 12) rfl (Nat.le_of_ble_eq_true rfl))))))))))) dX5_init_89 ?_
  refine lv_iconst (v := (-1)) hx hb dX5_init_92 (by decide) ?_
  refine jc1_v (k := 1) (va_runS (As := [.ref q1, .int (-1)]) (rest := []) ⟨hx, hb, hml, hown, hts⟩ (kfill l dC dI _ (q1) 40 y1 (fun _ => 0) (-1) (by decide)) (va_cwS 2 hts (jgoodS m_1686 m_841 m_842 m_843) rfl rfl rfl (by decide +kernel) ⟨(Nat.le_of_ble_eq_true rfl), (Nat.le_of_ble_eq_true rfl)⟩) ⟨jw_blind, fun U hU hW => ⟨rfl, jw_of hU hW (jp_at hP 1 (jg_c (jg_l (jg_l (jg_l (jg_l (jg_l (jg_l (jg_l (jg_l (jg_l (jg_r (n := 0) (i := 0) rfl rfl rfl)))))))))))) (hK.sub [0] rfl) (jd_at hD 1 (jg_c (jg_l (jg_l (jg_l (jg_l (jg_l (jg_l (jg_l (jg_l (jg_l (jg_r (n := 0) (i := 0) rfl rfl rfl))))))))))))⟩⟩ rfl rfl hl.1 rfl (lv_room (Nat.le_of_ble_eq_true rfl)) dX5_init_93 ⟨(Nat.le_of_ble_eq_true rfl), (Nat.le_of_ble_eq_true rfl)⟩) hP hD (jg_c (jg_l (jg_l (jg_l (jg_l (jg_l (jg_l (jg_l (jg_l (jg_l (jg_r (n := 0) (i := 0) rfl rfl rfl))))))))))) hS hA (fun H locs hP hD hS => ?_)
  have hP := jrP hP (jy5 (jy1 (jn_lt (n := 9) (jn_a (n := 8) (m := 1) (jn_a (n := 7) (m := 1) (jn_a (n := 6) (m := 1) (jn_a (n := 5) (m := 1) (jn_a (n := 4) (m := 1) (jn_a (n := 3) (m := 1) (jn_a (n := 2) (m := 1) (jn_a (n := 1) (m := 1) (jn_a (n := 0) (m := 1) rfl rfl) rfl) rfl) rfl) rfl) rfl) rfl) rfl) rfl) (Nat.le_of_ble_eq_true rfl)) (jy1 (jn_lt (n := 8) (jn_a (n := 7) (m := 1) (jn_a (n := 6) (m := 1) (jn_a (n := 5) (m := 1) (jn_a (n := 4) (m := 1) (jn_a (n := 3) (m := 1) (jn_a (n := 2) (m := 1) (jn_a (n := 1) (m := 1) (jn_a (n := 0) (m := 1) rfl rfl) rfl) rfl) rfl) rfl) rfl) rfl) rfl) (Nat.le_of_ble_eq_true rfl)) (jy1 (jn_lt (n := 7) (jn_a (n := 6) (m := 1) (jn_a (n := 5) (m := 1) (jn_a (n := 4) (m := 1) (jn_a (n := 3) (m := 1) (jn_a (n := 2) (m := 1) (jn_a (n := 1) (m := 1) (jn_a (n := 0) (m := 1) rfl rfl) rfl) rfl) rfl) rfl) rfl) rfl) (Nat.le_of_ble_eq_true rfl)) (jy1 (jn_lt (n := 6) (jn_a (n := 5) (m := 1) (jn_a (n := 4) (m := 1) (jn_a (n := 3) (m := 1) (jn_a (n := 2) (m := 1) (jn_a (n := 1) (m := 1) (jn_a (n := 0) (m := 1) rfl rfl) rfl) rfl) rfl) rfl) rfl) (Nat.le_of_ble_eq_true rfl)) (jy1 (jn_lt (n := 5) (jn_a (n := 4) (m := 1) (jn_a (n := 3) (m := 1) (jn_a (n := 2) (m := 1) (jn_a (n := 1) (m := 1) (jn_a (n := 0) (m := 1) rfl rfl) rfl) rfl) rfl) rfl) (Nat.le_of_ble_eq_true rfl)) (jy1 (jn_lt (n := 4) (jn_a (n := 3) (m := 1) (jn_a (n := 2) (m := 1) (jn_a (n := 1) (m := 1) (jn_a (n := 0) (m := 1) rfl rfl) rfl) rfl) rfl) (Nat.le_of_ble_eq_true rfl)) (jy1 (jn_lt (n := 3) (jn_a (n := 2) (m := 1) (jn_a (n := 1) (m := 1) (jn_a (n := 0) (m := 1) rfl rfl) rfl) rfl) (Nat.le_of_ble_eq_true rfl)) (jy1 (jn_lt (n := 2) (jn_a (n := 1) (m := 1) (jn_a (n := 0) (m := 1) rfl rfl) rfl) (Nat.le_of_ble_eq_true rfl)) (jy1 (jn_lt (n := 1) (jn_a (n := 0) (m := 1) rfl rfl) (Nat.le_of_ble_eq_true rfl)) (jy2 (n := 0) (i := 0) rfl rfl)))))))))))
  have hD := jrD hD (jy5 (jy1 (jn_lt (n := 9) (jn_a (n := 8) (m := 1) (jn_a (n := 7) (m := 1) (jn_a (n := 6) (m := 1) (jn_a (n := 5) (m := 1) (jn_a (n := 4) (m := 1) (jn_a (n := 3) (m := 1) (jn_a (n := 2) (m := 1) (jn_a (n := 1) (m := 1) (jn_a (n := 0) (m := 1) rfl rfl) rfl) rfl) rfl) rfl) rfl) rfl) rfl) rfl) (Nat.le_of_ble_eq_true rfl)) (jy1 (jn_lt (n := 8) (jn_a (n := 7) (m := 1) (jn_a (n := 6) (m := 1) (jn_a (n := 5) (m := 1) (jn_a (n := 4) (m := 1) (jn_a (n := 3) (m := 1) (jn_a (n := 2) (m := 1) (jn_a (n := 1) (m := 1) (jn_a (n := 0) (m := 1) rfl rfl) rfl) rfl) rfl) rfl) rfl) rfl) rfl) (Nat.le_of_ble_eq_true rfl)) (jy1 (jn_lt (n := 7) (jn_a (n := 6) (m := 1) (jn_a (n := 5) (m := 1) (jn_a (n := 4) (m := 1) (jn_a (n := 3) (m := 1) (jn_a (n := 2) (m := 1) (jn_a (n := 1) (m := 1) (jn_a (n := 0) (m := 1) rfl rfl) rfl) rfl) rfl) rfl) rfl) rfl) (Nat.le_of_ble_eq_true rfl)) (jy1 (jn_lt (n := 6) (jn_a (n := 5) (m := 1) (jn_a (n := 4) (m := 1) (jn_a (n := 3) (m := 1) (jn_a (n := 2) (m := 1) (jn_a (n := 1) (m := 1) (jn_a (n := 0) (m := 1) rfl rfl) rfl) rfl) rfl) rfl) rfl) (Nat.le_of_ble_eq_true rfl)) (jy1 (jn_lt (n := 5) (jn_a (n := 4) (m := 1) (jn_a (n := 3) (m := 1) (jn_a (n := 2) (m := 1) (jn_a (n := 1) (m := 1) (jn_a (n := 0) (m := 1) rfl rfl) rfl) rfl) rfl) rfl) (Nat.le_of_ble_eq_true rfl)) (jy1 (jn_lt (n := 4) (jn_a (n := 3) (m := 1) (jn_a (n := 2) (m := 1) (jn_a (n := 1) (m := 1) (jn_a (n := 0) (m := 1) rfl rfl) rfl) rfl) rfl) (Nat.le_of_ble_eq_true rfl)) (jy1 (jn_lt (n := 3) (jn_a (n := 2) (m := 1) (jn_a (n := 1) (m := 1) (jn_a (n := 0) (m := 1) rfl rfl) rfl) rfl) (Nat.le_of_ble_eq_true rfl)) (jy1 (jn_lt (n := 2) (jn_a (n := 1) (m := 1) (jn_a (n := 0) (m := 1) rfl rfl) rfl) (Nat.le_of_ble_eq_true rfl)) (jy1 (jn_lt (n := 1) (jn_a (n := 0) (m := 1) rfl rfl) (Nat.le_of_ble_eq_true rfl)) (jy2 (n := 0) (i := 0) rfl rfl)))))))))))
  refine W.widen (k := 10) (n := 2740) (Nat.le_of_ble_eq_true rfl) (Nat.le_of_ble_eq_true rfl) ?_
  exact W.vret hx hb hr (fun t ht hW => ⟨⟨(fun k => [0, q1, q2, q3, q4, q5, q6, q7, q8, q9, q10].getD k 0, fun k => [dC 0, y1, y2, y3, y4, y5, y6, y7, y8, y9, y10].getD k (dC 0)), rfl, trivial, by rw [ht]; exact hP, va_K.moved hW.alike hK, hD⟩, hS.F ht⟩) hS.2.2 dX5_init_96
set_option maxHeartbeats 500000 in
set_option maxRecDepth 100000 in
theorem iX3_init_1 (l : Launch) (dC : Nat → ClassId) (dI : Nat → Nat → Nat) (sz h0 : Nat) : Met l yX3_init (jk yX3_init cX3_init 1 none) ({ frames := 1, cells := 5, slots := 300, locals := 40 }) (va_Pc [.ref h0] (jw_P (dC, dI) [(h0, .inr (3, [.null, .null, .null, .null, .null, .int 0, .int 0]))] [] sz)) (va_Qv (fun (_ : ((Nat → Nat) × (Nat → ClassId))) => True) (fun u t => va_P (dC, dI) vwCl [(h0, .inr (3, [.ref (u.1 1), .ref (u.1 2), .ref (u.1 3), .ref (u.1 4), .ref (u.1 5), .int 0, .int 0])), ((u.1 1), .inl ((u.2 1), 60, .inl (fun _ => 0))), ((u.1 2), .inl ((u.2 2), 60, .inl (fun _ => 0))), ((u.1 3), .inl ((u.2 3), 60, .inl (fun _ => 0))), ((u.1 4), .inl ((u.2 4), 60, .inl (fun _ => 0))), ((u.1 5), .inl ((u.2 5), 60, .inl (fun _ => 0)))] t.heap ∧ va_K (dC, dI) vwCl [((u.2 1), .int), ((u.2 2), .int), ((u.2 3), .int), ((u.2 4), .int), ((u.2 5), .int)] t ∧ va_D (va_A [(h0, .inr (3, [.null, .null, .null, .null, .null, .int 0, .int 0]))] sz) [(h0, .inr (3, [.ref (u.1 1), .ref (u.1 2), .ref (u.1 3), .ref (u.1 4), .ref (u.1 5), .int 0, .int 0])), ((u.1 1), .inl ((u.2 1), 60, .inl (fun _ => 0))), ((u.1 2), .inl ((u.2 2), 60, .inl (fun _ => 0))), ((u.1 3), .inl ((u.2 3), 60, .inl (fun _ => 0))), ((u.1 4), .inl ((u.2 4), 60, .inl (fun _ => 0))), ((u.1 5), .inl ((u.2 5), 60, .inl (fun _ => 0)))]) (va_A [(h0, .inr (3, [.null, .null, .null, .null, .null, .int 0, .int 0]))] sz)) 5 300 (va_A [(h0, .inr (3, [.null, .null, .null, .null, .null, .int 0, .int 0]))] sz) := by
  refine Met.ofW (cc := cX3_init) (maxL := 1) (ret := none) (by decide) rfl ?_
  intro p e s m args below meth c s₁ B hml hv
  obtain ⟨rfl, hsz, hP, hK, hD0⟩ := hv
  have hx := B.exec
  have hb := B.bytes
  have hr := B.returns
  have hts := atoms_spec (ws := (jk yX3_init cX3_init 1 none)) B.pre
  have hown : s.vm.findClass RX3 = some m.cls := findClass_of_methodNamed B.named
  have hlocks := B.notSynchronized
  have hin : meth.name = "<init>" := (name_of_methodNamed B.named B.method).1
  subst hsz
  have hD := hD0.self (sz := s.heap.size)
  generalize hAe : (va_A [(h0, .inr (3, [.null, .null, .null, .null, .null, .int 0, .int 0]))] s.heap.size) = A at hD ⊢
  have hA : ∀ q : Nat, s.heap.size ≤ q → A q := fun q h => by rw [← hAe]; exact Or.inr h
  have hS : va_S A s.heap s.heap [] := va_S.rf
  have hP : va_P (dC, dI) vwCl [(h0, .inr (3, [.null, .null, .null, .null, .null, .int 0, .int 0]))] s.heap := hP
  have hl := lv_entry ([.ref h0]) (n := 1) (Nat.le_of_ble_eq_true rfl)
  rw [lg_entry_eq]
  generalize (lg_sl ([.ref h0]) ++ List.replicate (1 - (lg_sl ([.ref h0])).length) Slot.unset).toArray = ls at hl ⊢
  have hl : lv_has ls 1 [(0, .ref h0)] := hl
  refine lv_aload_n hx hb dX3_init_0 rfl (lv_at hl 0 rfl) ?_
  refine W.objInit hx hb hown (hts (.methodLink RX3 3 objectInit) (jm m_1693)) (hts (.instanceMethod objectInit) (jm m_1307)) (hts (.code objectInit ⟨#[0xb1]⟩ 1 none) (jm m_1308)) rfl (by rw [hml]; exact hl.1) rfl dX3_init_1 (Nat.le_of_ble_eq_true rfl) (Nat.le_of_ble_eq_true rfl) ?_
  refine W.eq (g2 := F0 m 4 ls []) rfl ?_
  refine lv_aload_n hx hb dX3_init_4 rfl (lv_at hl 0 rfl) ?_
  refine lv_bipush (v := 60) hx hb dX3_init_5 (by decide) ?_
  refine va_newa (atype := .int) (N' := 60) (a0 := (60, .inl (fun _ => 0))) (ty := .int) hx hb (hts (.arrayClass .int) (jm m_2)) rfl hK hP hD hS hA (fun _ => rfl) (by decide) (by decide) (by decide) (Nat.le_of_ble_eq_true rfl) (Nat.le_of_ble_eq_true rfl) dX3_init_7 (fun q1 y1 H hK hP hD hS => ?_)
  refine W.widen (k := 1) (n := 60) (Nat.le_of_ble_eq_true rfl) (Nat.le_of_ble_eq_true rfl) ?_
  refine va_putF (D := (dC, dI)) (ci := 3) (v := .ref q1) (ty := .array .int) (C := RX3) (T := TX3) (N := 7) hx hb hts (jh hin_RX3) tyX3 tyX3_ok nmX3 hown hK hP hD hS 0 (jg_l rfl) rfl 0 (by decide) (hts (.fieldLink RX3 9 "BookOfAll$Lengths" "article" "[I") (jm m_595)) (fun _ h9 => h9) rfl hin rfl (by decide +kernel) rfl rfl (Nat.le_of_ble_eq_true rfl) dX3_init_9 (fun H locs hP hD hS => ?_)
  refine lv_aload_n hx hb dX3_init_12 rfl (lv_at hl 0 rfl) ?_
  refine lv_bipush (v := 60) hx hb dX3_init_13 (by decide) ?_
  refine va_newa (atype := .int) (N' := 60) (a0 := (60, .inl (fun _ => 0))) (ty := .int) hx hb (hts (.arrayClass .int) (jm m_2)) rfl hK hP hD hS hA (fun _ => rfl) (by decide) (by decide) (by decide) (Nat.le_of_ble_eq_true rfl) (Nat.le_of_ble_eq_true rfl) dX3_init_15 (fun q2 y2 H hK hP hD hS => ?_)
  refine W.widen (k := 2) (n := 120) (Nat.le_of_ble_eq_true rfl) (Nat.le_of_ble_eq_true rfl) ?_
  refine va_putF (D := (dC, dI)) (ci := 3) (v := .ref q2) (ty := .array .int) (C := RX3) (T := TX3) (N := 7) hx hb hts (jh hin_RX3) tyX3 tyX3_ok nmX3 hown hK hP hD hS 0 (jg_l (jg_s (n := 2) (jn_a (n := 1) (m := 1) rfl rfl) (Nat.le_of_ble_eq_true rfl))) rfl 1 (by decide) (hts (.fieldLink RX3 15 "BookOfAll$Lengths" "asked" "[I") (jm m_596)) (fun _ h9 => h9) rfl hin rfl (by decide +kernel) rfl rfl (Nat.le_of_ble_eq_true rfl) dX3_init_17 (fun H locs hP hD hS => ?_)
  refine lv_aload_n hx hb dX3_init_20 rfl (lv_at hl 0 rfl) ?_
  refine lv_bipush (v := 60) hx hb dX3_init_21 (by decide) ?_
  refine va_newa (atype := .int) (N' := 60) (a0 := (60, .inl (fun _ => 0))) (ty := .int) hx hb (hts (.arrayClass .int) (jm m_2)) rfl hK hP hD hS hA (fun _ => rfl) (by decide) (by decide) (by decide) (Nat.le_of_ble_eq_true rfl) (Nat.le_of_ble_eq_true rfl) dX3_init_23 (fun q3 y3 H hK hP hD hS => ?_)
  refine W.widen (k := 3) (n := 180) (Nat.le_of_ble_eq_true rfl) (Nat.le_of_ble_eq_true rfl) ?_
  refine va_putF (D := (dC, dI)) (ci := 3) (v := .ref q3) (ty := .array .int) (C := RX3) (T := TX3) (N := 7) hx hb hts (jh hin_RX3) tyX3 tyX3_ok nmX3 hown hK hP hD hS 0 (jg_l (jg_s (n := 3) (jn_a (n := 2) (m := 1) (jn_s (jn_a (n := 1) (m := 1) rfl rfl)) rfl) (Nat.le_of_ble_eq_true rfl))) rfl 2 (by decide) (hts (.fieldLink RX3 18 "BookOfAll$Lengths" "least" "[I") (jm m_597)) (fun _ h9 => h9) rfl hin rfl (by decide +kernel) rfl rfl (Nat.le_of_ble_eq_true rfl) dX3_init_25 (fun H locs hP hD hS => ?_)
  refine lv_aload_n hx hb dX3_init_28 rfl (lv_at hl 0 rfl) ?_
  refine lv_bipush (v := 60) hx hb dX3_init_29 (by decide) ?_
  refine va_newa (atype := .int) (N' := 60) (a0 := (60, .inl (fun _ => 0))) (ty := .int) hx hb (hts (.arrayClass .int) (jm m_2)) rfl hK hP hD hS hA (fun _ => rfl) (by decide) (by decide) (by decide) (Nat.le_of_ble_eq_true rfl) (Nat.le_of_ble_eq_true rfl) dX3_init_31 (fun q4 y4 H hK hP hD hS => ?_)
  refine W.widen (k := 4) (n := 240) (Nat.le_of_ble_eq_true rfl) (Nat.le_of_ble_eq_true rfl) ?_
  refine va_putF (D := (dC, dI)) (ci := 3) (v := .ref q4) (ty := .array .int) (C := RX3) (T := TX3) (N := 7) hx hb hts (jh hin_RX3) tyX3 tyX3_ok nmX3 hown hK hP hD hS 0 (jg_l (jg_s (n := 4) (jn_a (n := 3) (m := 1) (jn_s (jn_a (n := 2) (m := 1) (jn_s (jn_a (n := 1) (m := 1) rfl rfl)) rfl)) rfl) (Nat.le_of_ble_eq_true rfl))) rfl 3 (by decide) (hts (.fieldLink RX3 21 "BookOfAll$Lengths" "most" "[I") (jm m_598)) (fun _ h9 => h9) rfl hin rfl (by decide +kernel) rfl rfl (Nat.le_of_ble_eq_true rfl) dX3_init_33 (fun H locs hP hD hS => ?_)
  refine lv_aload_n hx hb dX3_init_36 rfl (lv_at hl 0 rfl) ?_
  refine lv_bipush (v := 60) hx hb dX3_init_37 (by decide) ?_
  refine va_newa (atype := .int) (N' := 60) (a0 := (60, .inl (fun _ => 0))) (ty := .int) hx hb (hts (.arrayClass .int) (jm m_2)) rfl hK hP hD hS hA (fun _ => rfl) (by decide) (by decide) (by decide) (Nat.le_of_ble_eq_true rfl) (Nat.le_of_ble_eq_true rfl) dX3_init_39 (fun q5 y5 H hK hP hD hS => ?_)
  refine W.widen (k := 5) (n := 300) (Nat.le_of_ble_eq_true rfl) (Nat.le_of_ble_eq_true rfl) ?_
  refine va_putF (D := (dC, dI)) (ci := 3) (v := .ref q5) (ty := .array .int) (C := RX3) (T := TX3) (N := 7) hx hb hts (jh hin_RX3) tyX3 tyX3_ok nmX3 hown hK hP hD hS 0 (jg_l (jg_s (n := 5) (jn_a (n := 4) (m := 1) (jn_s (jn_a (n := 3) (m := 1) (jn_s (jn_a (n := 2) (m := 1) (jn_s (jn_a (n := 1) (m := 1) rfl rfl)) rfl)) rfl)) rfl) (Nat.le_of_ble_eq_true rfl))) rfl 4 (by decide) (hts (.fieldLink RX3 24 "BookOfAll$Lengths" "fitted" "[I") (jm m_599)) (fun _ h9 => h9) rfl hin rfl (by decide +kernel) rfl rfl (Nat.le_of_ble_eq_true rfl) dX3_init_41 (fun H locs hP hD hS => ?_)
  refine W.widen (k := 5) (n := 300) (Nat.le_of_ble_eq_true rfl) (Nat.le_of_ble_eq_true rfl) ?_
  exact W.vret hx hb hr (fun t ht hW => ⟨⟨(fun k => [0, q1, q2, q3, q4, q5].getD k 0, fun k => [dC 0, y1, y2, y3, y4, y5].getD k (dC 0)), rfl, trivial, by rw [ht]; exact hP, va_K.moved hW.alike hK, hD⟩, hS.F ht⟩) hS.2.2 dX3_init_44
set_option maxHeartbeats 500000 in
set_option maxRecDepth 100000 in
theorem iX1_init_1 (l : Launch) (dC : Nat → ClassId) (dI : Nat → Nat → Nat) (sz h0 : Nat) : Met l yX1_init (jk yX1_init cX1_init 1 none) ({ frames := 1, cells := 8, slots := 295, locals := 40 }) (va_Pc [.ref h0] (jw_P (dC, dI) [(h0, .inr (1, [.null, .null, .null, .int 0, .null, .null, .null, .int 0, .null, .null]))] [] sz)) (va_Qv (fun (_ : ((Nat → Nat) × (Nat → ClassId))) => True) (fun u t => va_P (dC, dI) vwCl [(h0, .inr (1, [.ref (u.1 1), .ref (u.1 2), .ref (u.1 3), .int 0, .ref (u.1 4), .ref (u.1 5), .ref (u.1 6), .int 0, .ref (u.1 7), .ref (u.1 8)])), ((u.1 1), .inl ((u.2 1), 7, .inl (fun _ => 0))), ((u.1 2), .inl ((u.2 2), 7, .inl (fun _ => 0))), ((u.1 3), .inl ((u.2 3), 7, .inl (fun _ => 0))), ((u.1 4), .inl ((u.2 4), 6, .inl (fun _ => 0))), ((u.1 5), .inl ((u.2 5), 6, .inl (fun _ => 0))), ((u.1 6), .inl ((u.2 6), 6, .inl (fun _ => 0))), ((u.1 7), .inl ((u.2 7), 128, .inl (fun _ => 0))), ((u.1 8), .inl ((u.2 8), 128, .inl (fun _ => 0)))] t.heap ∧ va_K (dC, dI) vwCl [((u.2 1), .int), ((u.2 2), .int), ((u.2 3), .int), ((u.2 4), .int), ((u.2 5), .int), ((u.2 6), .int), ((u.2 7), .int), ((u.2 8), .boolean)] t ∧ va_D (va_A [(h0, .inr (1, [.null, .null, .null, .int 0, .null, .null, .null, .int 0, .null, .null]))] sz) [(h0, .inr (1, [.ref (u.1 1), .ref (u.1 2), .ref (u.1 3), .int 0, .ref (u.1 4), .ref (u.1 5), .ref (u.1 6), .int 0, .ref (u.1 7), .ref (u.1 8)])), ((u.1 1), .inl ((u.2 1), 7, .inl (fun _ => 0))), ((u.1 2), .inl ((u.2 2), 7, .inl (fun _ => 0))), ((u.1 3), .inl ((u.2 3), 7, .inl (fun _ => 0))), ((u.1 4), .inl ((u.2 4), 6, .inl (fun _ => 0))), ((u.1 5), .inl ((u.2 5), 6, .inl (fun _ => 0))), ((u.1 6), .inl ((u.2 6), 6, .inl (fun _ => 0))), ((u.1 7), .inl ((u.2 7), 128, .inl (fun _ => 0))), ((u.1 8), .inl ((u.2 8), 128, .inl (fun _ => 0)))]) (va_A [(h0, .inr (1, [.null, .null, .null, .int 0, .null, .null, .null, .int 0, .null, .null]))] sz)) 8 295 (va_A [(h0, .inr (1, [.null, .null, .null, .int 0, .null, .null, .null, .int 0, .null, .null]))] sz) := by
  refine Met.ofW (cc := cX1_init) (maxL := 1) (ret := none) (by decide) rfl ?_
  intro p e s m args below meth c s₁ B hml hv
  obtain ⟨rfl, hsz, hP, hK, hD0⟩ := hv
  have hx := B.exec
  have hb := B.bytes
  have hr := B.returns
  have hts := atoms_spec (ws := (jk yX1_init cX1_init 1 none)) B.pre
  have hown : s.vm.findClass RX1 = some m.cls := findClass_of_methodNamed B.named
  have hlocks := B.notSynchronized
  have hin : meth.name = "<init>" := (name_of_methodNamed B.named B.method).1
  subst hsz
  have hD := hD0.self (sz := s.heap.size)
  generalize hAe : (va_A [(h0, .inr (1, [.null, .null, .null, .int 0, .null, .null, .null, .int 0, .null, .null]))] s.heap.size) = A at hD ⊢
  have hA : ∀ q : Nat, s.heap.size ≤ q → A q := fun q h => by rw [← hAe]; exact Or.inr h
  have hS : va_S A s.heap s.heap [] := va_S.rf
  have hP : va_P (dC, dI) vwCl [(h0, .inr (1, [.null, .null, .null, .int 0, .null, .null, .null, .int 0, .null, .null]))] s.heap := hP
  have hl := lv_entry ([.ref h0]) (n := 1) (Nat.le_of_ble_eq_true rfl)
  rw [lg_entry_eq]
  generalize (lg_sl ([.ref h0]) ++ List.replicate (1 - (lg_sl ([.ref h0])).length) Slot.unset).toArray = ls at hl ⊢
  have hl : lv_has ls 1 [(0, .ref h0)] := hl
  refine lv_aload_n hx hb dX1_init_0 rfl (lv_at hl 0 rfl) ?_
  refine W.objInit hx hb hown (hts (.methodLink RX1 5 objectInit) (jm m_1698)) (hts (.instanceMethod objectInit) (jm m_1307)) (hts (.code objectInit ⟨#[0xb1]⟩ 1 none) (jm m_1308)) rfl (by rw [hml]; exact hl.1) rfl dX1_init_1 (Nat.le_of_ble_eq_true rfl) (Nat.le_of_ble_eq_true rfl) ?_
  refine W.eq (g2 := F0 m 4 ls []) rfl ?_
  refine lv_aload_n hx hb dX1_init_4 rfl (lv_at hl 0 rfl) ?_
  refine lv_bipush (v := 7) hx hb dX1_init_5 (by decide) ?_
  refine va_newa (atype := .int) (N' := 7) (a0 := (7, .inl (fun _ => 0))) (ty := .int) hx hb (hts (.arrayClass .int) (jm m_2)) rfl hK hP hD hS hA (fun _ => rfl) (by decide) (by decide) (by decide) (Nat.le_of_ble_eq_true rfl) (Nat.le_of_ble_eq_true rfl) dX1_init_7 (fun q1 y1 H hK hP hD hS => ?_)
  refine W.widen (k := 1) (n := 7) (Nat.le_of_ble_eq_true rfl) (Nat.le_of_ble_eq_true rfl) ?_
  refine va_putF (D := (dC, dI)) (ci := 1) (v := .ref q1) (ty := .array .int) (C := RX1) (T := TX1) (N := 10) hx hb hts (jh hin_RX1) tyX1 tyX1_ok nmX1 hown hK hP hD hS 0 (jg_l rfl) rfl 0 (by decide) (hts (.fieldLink RX1 11 "BookOfAll$Giver" "article" "[I") (jm m_517)) (fun _ h9 => h9) rfl hin rfl (by decide +kernel) rfl rfl (Nat.le_of_ble_eq_true rfl) dX1_init_9 (fun H locs hP hD hS => ?_)
  refine lv_aload_n hx hb dX1_init_12 rfl (lv_at hl 0 rfl) ?_
  refine lv_bipush (v := 7) hx hb dX1_init_13 (by decide) ?_
  refine va_newa (atype := .int) (N' := 7) (a0 := (7, .inl (fun _ => 0))) (ty := .int) hx hb (hts (.arrayClass .int) (jm m_2)) rfl hK hP hD hS hA (fun _ => rfl) (by decide) (by decide) (by decide) (Nat.le_of_ble_eq_true rfl) (Nat.le_of_ble_eq_true rfl) dX1_init_15 (fun q2 y2 H hK hP hD hS => ?_)
  refine W.widen (k := 2) (n := 14) (Nat.le_of_ble_eq_true rfl) (Nat.le_of_ble_eq_true rfl) ?_
  refine va_putF (D := (dC, dI)) (ci := 1) (v := .ref q2) (ty := .array .int) (C := RX1) (T := TX1) (N := 10) hx hb hts (jh hin_RX1) tyX1 tyX1_ok nmX1 hown hK hP hD hS 0 (jg_l (jg_s (n := 2) (jn_a (n := 1) (m := 1) rfl rfl) (Nat.le_of_ble_eq_true rfl))) rfl 1 (by decide) (hts (.fieldLink RX1 15 "BookOfAll$Giver" "lack" "[I") (jm m_518)) (fun _ h9 => h9) rfl hin rfl (by decide +kernel) rfl rfl (Nat.le_of_ble_eq_true rfl) dX1_init_17 (fun H locs hP hD hS => ?_)
  refine lv_aload_n hx hb dX1_init_20 rfl (lv_at hl 0 rfl) ?_
  refine lv_bipush (v := 7) hx hb dX1_init_21 (by decide) ?_
  refine va_newa (atype := .int) (N' := 7) (a0 := (7, .inl (fun _ => 0))) (ty := .int) hx hb (hts (.arrayClass .int) (jm m_2)) rfl hK hP hD hS hA (fun _ => rfl) (by decide) (by decide) (by decide) (Nat.le_of_ble_eq_true rfl) (Nat.le_of_ble_eq_true rfl) dX1_init_23 (fun q3 y3 H hK hP hD hS => ?_)
  refine W.widen (k := 3) (n := 21) (Nat.le_of_ble_eq_true rfl) (Nat.le_of_ble_eq_true rfl) ?_
  refine va_putF (D := (dC, dI)) (ci := 1) (v := .ref q3) (ty := .array .int) (C := RX1) (T := TX1) (N := 10) hx hb hts (jh hin_RX1) tyX1 tyX1_ok nmX1 hown hK hP hD hS 0 (jg_l (jg_s (n := 3) (jn_a (n := 2) (m := 1) (jn_s (jn_a (n := 1) (m := 1) rfl rfl)) rfl) (Nat.le_of_ble_eq_true rfl))) rfl 2 (by decide) (hts (.fieldLink RX1 18 "BookOfAll$Giver" "chosen" "[I") (jm m_519)) (fun _ h9 => h9) rfl hin rfl (by decide +kernel) rfl rfl (Nat.le_of_ble_eq_true rfl) dX1_init_25 (fun H locs hP hD hS => ?_)
  refine lv_aload_n hx hb dX1_init_28 rfl (lv_at hl 0 rfl) ?_
  refine lv_bipush (v := 6) hx hb dX1_init_29 (by decide) ?_
  refine va_newa (atype := .int) (N' := 6) (a0 := (6, .inl (fun _ => 0))) (ty := .int) hx hb (hts (.arrayClass .int) (jm m_2)) rfl hK hP hD hS hA (fun _ => rfl) (by decide) (by decide) (by decide) (Nat.le_of_ble_eq_true rfl) (Nat.le_of_ble_eq_true rfl) dX1_init_31 (fun q4 y4 H hK hP hD hS => ?_)
  refine W.widen (k := 4) (n := 27) (Nat.le_of_ble_eq_true rfl) (Nat.le_of_ble_eq_true rfl) ?_
  refine va_putF (D := (dC, dI)) (ci := 1) (v := .ref q4) (ty := .array .int) (C := RX1) (T := TX1) (N := 10) hx hb hts (jh hin_RX1) tyX1 tyX1_ok nmX1 hown hK hP hD hS 0 (jg_l (jg_s (n := 4) (jn_a (n := 3) (m := 1) (jn_s (jn_a (n := 2) (m := 1) (jn_s (jn_a (n := 1) (m := 1) rfl rfl)) rfl)) rfl) (Nat.le_of_ble_eq_true rfl))) rfl 4 (by decide) (hts (.fieldLink RX1 21 "BookOfAll$Giver" "hand" "[I") (jm m_520)) (fun _ h9 => h9) rfl hin rfl (by decide +kernel) rfl rfl (Nat.le_of_ble_eq_true rfl) dX1_init_33 (fun H locs hP hD hS => ?_)
  refine lv_aload_n hx hb dX1_init_36 rfl (lv_at hl 0 rfl) ?_
  refine lv_bipush (v := 6) hx hb dX1_init_37 (by decide) ?_
  refine va_newa (atype := .int) (N' := 6) (a0 := (6, .inl (fun _ => 0))) (ty := .int) hx hb (hts (.arrayClass .int) (jm m_2)) rfl hK hP hD hS hA (fun _ => rfl) (by decide) (by decide) (by decide) (Nat.le_of_ble_eq_true rfl) (Nat.le_of_ble_eq_true rfl) dX1_init_39 (fun q5 y5 H hK hP hD hS => ?_)
  refine W.widen (k := 5) (n := 33) (Nat.le_of_ble_eq_true rfl) (Nat.le_of_ble_eq_true rfl) ?_
  refine va_putF (D := (dC, dI)) (ci := 1) (v := .ref q5) (ty := .array .int) (C := RX1) (T := TX1) (N := 10) hx hb hts (jh hin_RX1) tyX1 tyX1_ok nmX1 hown hK hP hD hS 0 (jg_l (jg_s (n := 5) (jn_a (n := 4) (m := 1) (jn_s (jn_a (n := 3) (m := 1) (jn_s (jn_a (n := 2) (m := 1) (jn_s (jn_a (n := 1) (m := 1) rfl rfl)) rfl)) rfl)) rfl) (Nat.le_of_ble_eq_true rfl))) rfl 5 (by decide) (hts (.fieldLink RX1 24 "BookOfAll$Giver" "room" "[I") (jm m_521)) (fun _ h9 => h9) rfl hin rfl (by decide +kernel) rfl rfl (Nat.le_of_ble_eq_true rfl) dX1_init_41 (fun H locs hP hD hS => ?_)
  refine lv_aload_n hx hb dX1_init_44 rfl (lv_at hl 0 rfl) ?_
  refine lv_bipush (v := 6) hx hb dX1_init_45 (by decide) ?_
  refine va_newa (atype := .int) (N' := 6) (a0 := (6, .inl (fun _ => 0))) (ty := .int) hx hb (hts (.arrayClass .int) (jm m_2)) rfl hK hP hD hS hA (fun _ => rfl) (by decide) (by decide) (by decide) (Nat.le_of_ble_eq_true rfl) (Nat.le_of_ble_eq_true rfl) dX1_init_47 (fun q6 y6 H hK hP hD hS => ?_)
  refine W.widen (k := 6) (n := 39) (Nat.le_of_ble_eq_true rfl) (Nat.le_of_ble_eq_true rfl) ?_
  refine va_putF (D := (dC, dI)) (ci := 1) (v := .ref q6) (ty := .array .int) (C := RX1) (T := TX1) (N := 10) hx hb hts (jh hin_RX1) tyX1 tyX1_ok nmX1 hown hK hP hD hS 0 (jg_l (jg_s (n := 6) (jn_a (n := 5) (m := 1) (jn_s (jn_a (n := 4) (m := 1) (jn_s (jn_a (n := 3) (m := 1) (jn_s (jn_a (n := 2) (m := 1) (jn_s (jn_a (n := 1) (m := 1) rfl rfl)) rfl)) rfl)) rfl)) rfl) (Nat.le_of_ble_eq_true rfl))) rfl 6 (by decide) (hts (.fieldLink RX1 27 "BookOfAll$Giver" "takes" "[I") (jm m_522)) (fun _ h9 => h9) rfl hin rfl (by decide +kernel) rfl rfl (Nat.le_of_ble_eq_true rfl) dX1_init_49 (fun H locs hP hD hS => ?_)
  refine lv_aload_n hx hb dX1_init_52 rfl (lv_at hl 0 rfl) ?_
  refine lv_sipush (v := 128) hx hb dX1_init_53 (by decide) ?_
  refine va_newa (atype := .int) (N' := 128) (a0 := (128, .inl (fun _ => 0))) (ty := .int) hx hb (hts (.arrayClass .int) (jm m_2)) rfl hK hP hD hS hA (fun _ => rfl) (by decide) (by decide) (by decide) (Nat.le_of_ble_eq_true rfl) (Nat.le_of_ble_eq_true rfl) dX1_init_56 (fun q7 y7 H hK hP hD hS => ?_)
  refine W.widen (k := 7) (n := 167) (Nat.le_of_ble_eq_true rfl) (Nat.le_of_ble_eq_true rfl) ?_
  refine va_putF (D := (dC, dI)) (ci := 1) (v := .ref q7) (ty := .array .int) (C := RX1) (T := TX1) (N := 10) hx hb hts (jh hin_RX1) tyX1 tyX1_ok nmX1 hown hK hP hD hS 0 (jg_l (jg_s (n := 7) (jn_a (n := 6) (m := 1) (jn_s (jn_a (n := 5) (m := 1) (jn_s (jn_a (n := 4) (m := 1) (jn_s (jn_a (n := 3) (m := 1) (jn_s (jn_a (n := 2) (m := 1) (jn_s (jn_a (n := 1) (m := 1) rfl rfl)) rfl)) rfl)) rfl)) rfl)) rfl) (Nat.le_of_ble_eq_true rfl))) rfl 8 (by decide) (hts (.fieldLink RX1 30 "BookOfAll$Giver" "sums" "[I") (jm m_523)) (fun _ h9 => h9) rfl hin rfl (by decide +kernel) rfl rfl (Nat.le_of_ble_eq_true rfl) dX1_init_58 (fun H locs hP hD hS => ?_)
  refine lv_aload_n hx hb dX1_init_61 rfl (lv_at hl 0 rfl) ?_
  refine lv_sipush (v := 128) hx hb dX1_init_62 (by decide) ?_
  refine va_newa (atype := .boolean) (N' := 128) (a0 := (128, .inl (fun _ => 0))) (ty := .boolean) hx hb (hts (.arrayClass .boolean) (jm m_21)) rfl hK hP hD hS hA (fun _ => rfl) (by decide) (by decide) (by decide) (Nat.le_of_ble_eq_true rfl) (Nat.le_of_ble_eq_true rfl) dX1_init_65 (fun q8 y8 H hK hP hD hS => ?_)
  refine W.widen (k := 8) (n := 295) (Nat.le_of_ble_eq_true rfl) (Nat.le_of_ble_eq_true rfl) ?_
  refine va_putF (D := (dC, dI)) (ci := 1) (v := .ref q8) (ty := .array .boolean) (C := RX1) (T := TX1) (N := 10) hx hb hts (jh hin_RX1) tyX1 tyX1_ok nmX1 hown hK hP hD hS 0 (jg_l (jg_s (n := 8) (jn_a (n := 7) (m := 1) (jn_s (jn_a (n := 6) (m := 1) (jn_s (jn_a (n := 5) (m := 1) (jn_s (jn_a (n := 4) (m := 1) (jn_s (jn_a (n := 3) (m := 1) (jn_s (jn_a (n := 2) (m := 1) (jn_s (jn_a (n := 1) (m := 1) rfl rfl)) rfl)) rfl)) rfl)) rfl)) rfl)) rfl) (Nat.le_of_ble_eq_true rfl))) rfl 9 (by decide) (hts (.fieldLink RX1 33 "BookOfAll$Giver" "reached" "[Z") (jm m_524)) (fun _ h9 => h9) rfl hin rfl (by decide +kernel) rfl rfl (Nat.le_of_ble_eq_true rfl) dX1_init_67 (fun H locs hP hD hS => ?_)
  refine W.widen (k := 8) (n := 295) (Nat.le_of_ble_eq_true rfl) (Nat.le_of_ble_eq_true rfl) ?_
  exact W.vret hx hb hr (fun t ht hW => ⟨⟨(fun k => [0, q1, q2, q3, q4, q5, q6, q7, q8].getD k 0, fun k => [dC 0, y1, y2, y3, y4, y5, y6, y7, y8].getD k (dC 0)), rfl, trivial, by rw [ht]; exact hP, va_K.moved hW.alike hK, hD⟩, hS.F ht⟩) hS.2.2 dX1_init_70
set_option maxHeartbeats 500000 in
set_option maxRecDepth 100000 in
theorem iX10_init_1 (l : Launch) (dC : Nat → ClassId) (dI : Nat → Nat → Nat) (sz h0 : Nat) : Met l yX10_init (jk yX10_init cX10_init 1 none) ({ frames := 1, cells := 2, slots := 61, locals := 40 }) (va_Pc [.ref h0] (jw_P (dC, dI) [(h0, .inr (10, [.null, .int 0, .null]))] [] sz)) (va_Qv (fun (_ : ((Nat → Nat) × (Nat → ClassId))) => True) (fun u t => va_P (dC, dI) vwCl [(h0, .inr (10, [.ref (u.1 1), .int 0, .ref (u.1 2)])), ((u.1 1), .inl ((u.2 1), 30, .inl (fun _ => 0))), ((u.1 2), .inl ((u.2 2), 31, .inl (fun _ => 0)))] t.heap ∧ va_K (dC, dI) vwCl [((u.2 1), .int), ((u.2 2), .int)] t ∧ va_D (va_A [(h0, .inr (10, [.null, .int 0, .null]))] sz) [(h0, .inr (10, [.ref (u.1 1), .int 0, .ref (u.1 2)])), ((u.1 1), .inl ((u.2 1), 30, .inl (fun _ => 0))), ((u.1 2), .inl ((u.2 2), 31, .inl (fun _ => 0)))]) (va_A [(h0, .inr (10, [.null, .int 0, .null]))] sz)) 2 61 (va_A [(h0, .inr (10, [.null, .int 0, .null]))] sz) := by
  refine Met.ofW (cc := cX10_init) (maxL := 1) (ret := none) (by decide) rfl ?_
  intro p e s m args below meth c s₁ B hml hv
  obtain ⟨rfl, hsz, hP, hK, hD0⟩ := hv
  have hx := B.exec
  have hb := B.bytes
  have hr := B.returns
  have hts := atoms_spec (ws := (jk yX10_init cX10_init 1 none)) B.pre
  have hown : s.vm.findClass RX10 = some m.cls := findClass_of_methodNamed B.named
  have hlocks := B.notSynchronized
  have hin : meth.name = "<init>" := (name_of_methodNamed B.named B.method).1
  subst hsz
  have hD := hD0.self (sz := s.heap.size)
  generalize hAe : (va_A [(h0, .inr (10, [.null, .int 0, .null]))] s.heap.size) = A at hD ⊢
  have hA : ∀ q : Nat, s.heap.size ≤ q → A q := fun q h => by rw [← hAe]; exact Or.inr h
  have hS : va_S A s.heap s.heap [] := va_S.rf
  have hP : va_P (dC, dI) vwCl [(h0, .inr (10, [.null, .int 0, .null]))] s.heap := hP
  have hl := lv_entry ([.ref h0]) (n := 1) (Nat.le_of_ble_eq_true rfl)
  rw [lg_entry_eq]
  generalize (lg_sl ([.ref h0]) ++ List.replicate (1 - (lg_sl ([.ref h0])).length) Slot.unset).toArray = ls at hl ⊢
  have hl : lv_has ls 1 [(0, .ref h0)] := hl
  refine lv_aload_n hx hb dX10_init_0 rfl (lv_at hl 0 rfl) ?_
  refine W.objInit hx hb hown (hts (.methodLink RX10 3 objectInit) (jm m_1703)) (hts (.instanceMethod objectInit) (jm m_1307)) (hts (.code objectInit ⟨#[0xb1]⟩ 1 none) (jm m_1308)) rfl (by rw [hml]; exact hl.1) rfl dX10_init_1 (Nat.le_of_ble_eq_true rfl) (Nat.le_of_ble_eq_true rfl) ?_
  refine W.eq (g2 := F0 m 4 ls []) rfl ?_
  refine lv_aload_n hx hb dX10_init_4 rfl (lv_at hl 0 rfl) ?_
  refine lv_bipush (v := 30) hx hb dX10_init_5 (by decide) ?_
  refine va_newa (atype := .int) (N' := 30) (a0 := (30, .inl (fun _ => 0))) (ty := .int) hx hb (hts (.arrayClass .int) (jm m_2)) rfl hK hP hD hS hA (fun _ => rfl) (by decide) (by decide) (by decide) (Nat.le_of_ble_eq_true rfl) (Nat.le_of_ble_eq_true rfl) dX10_init_7 (fun q1 y1 H hK hP hD hS => ?_)
  refine W.widen (k := 1) (n := 30) (Nat.le_of_ble_eq_true rfl) (Nat.le_of_ble_eq_true rfl) ?_
  refine va_putF (D := (dC, dI)) (ci := 10) (v := .ref q1) (ty := .array .int) (C := RX10) (T := TX10) (N := 3) hx hb hts (jh hin_RX10) tyX10 tyX10_ok nmX10 hown hK hP hD hS 0 (jg_l rfl) rfl 0 (by decide) (hts (.fieldLink RX10 11 "BookOfAll$Thief" "row" "[I") (jm m_527)) (fun _ h9 => h9) rfl hin rfl (by decide +kernel) rfl rfl (Nat.le_of_ble_eq_true rfl) dX10_init_9 (fun H locs hP hD hS => ?_)
  refine lv_aload_n hx hb dX10_init_12 rfl (lv_at hl 0 rfl) ?_
  refine lv_bipush (v := 31) hx hb dX10_init_13 (by decide) ?_
  refine va_newa (atype := .int) (N' := 31) (a0 := (31, .inl (fun _ => 0))) (ty := .int) hx hb (hts (.arrayClass .int) (jm m_2)) rfl hK hP hD hS hA (fun _ => rfl) (by decide) (by decide) (by decide) (Nat.le_of_ble_eq_true rfl) (Nat.le_of_ble_eq_true rfl) dX10_init_15 (fun q2 y2 H hK hP hD hS => ?_)
  refine W.widen (k := 2) (n := 61) (Nat.le_of_ble_eq_true rfl) (Nat.le_of_ble_eq_true rfl) ?_
  refine va_putF (D := (dC, dI)) (ci := 10) (v := .ref q2) (ty := .array .int) (C := RX10) (T := TX10) (N := 3) hx hb hts (jh hin_RX10) tyX10 tyX10_ok nmX10 hown hK hP hD hS 0 (jg_l (jg_s (n := 2) (jn_a (n := 1) (m := 1) rfl rfl) (Nat.le_of_ble_eq_true rfl))) rfl 2 (by decide) (hts (.fieldLink RX10 15 "BookOfAll$Thief" "weight" "[I") (jm m_528)) (fun _ h9 => h9) rfl hin rfl (by decide +kernel) rfl rfl (Nat.le_of_ble_eq_true rfl) dX10_init_17 (fun H locs hP hD hS => ?_)
  refine W.widen (k := 2) (n := 61) (Nat.le_of_ble_eq_true rfl) (Nat.le_of_ble_eq_true rfl) ?_
  exact W.vret hx hb hr (fun t ht hW => ⟨⟨(fun k => [0, q1, q2].getD k 0, fun k => [dC 0, y1, y2].getD k (dC 0)), rfl, trivial, by rw [ht]; exact hP, va_K.moved hW.alike hK, hD⟩, hS.F ht⟩) hS.2.2 dX10_init_20
