set_option maxHeartbeats 2000000 in
set_option maxRecDepth 100000 in
theorem sX13_in (l : Launch) (dC : Nat → ClassId) (dI : Nat → Nat → Nat) (sz : Nat) (p1 : Int) (p2 : Int) (p3 : Int) (q1 : rg p1) (q2 : rg p2) (q3 : rg p3) : Met l yX13_in (jk yX13_in cX13_in 3 (some .boolean)) ({ frames := 0, cells := 0, slots := 0, locals := 0 }) (va_Pc [.int (iI p1), .int (iI p2), .int (iI p3)] (fun U => U.heap.size = sz)) (va_Qi (fun (r : Int32) (_ : Unit) => ∃ z : Int, r = iI z ∧ (0 ≤ z ∧ z ≤ 1) ∧ ((z = 1 ∧ p2 ≤ p1 ∧ p1 ≤ p3) ∨ (z = 0 ∧ (p1 < p2 ∨ p3 < p1)))) (fun _ _ => True) (va_A [] sz)) 0 0 (va_A [] sz) := by
  sorry
set_option maxHeartbeats 2000000 in
set_option maxRecDepth 100000 in
theorem sX13_isLetter (l : Launch) (dC : Nat → ClassId) (dI : Nat → Nat → Nat) (sz : Nat) (p1 : Int) (q1 : rg p1) : Met l yX13_isLetter (jk yX13_isLetter cX13_isLetter 1 (some .boolean)) ({ frames := 0, cells := 0, slots := 0, locals := 0 }) (va_Pc [.int (iI p1)] (fun U => U.heap.size = sz)) (va_Qi (fun (r : Int32) (_ : Unit) => ∃ z : Int, r = iI z ∧ (0 ≤ z ∧ z ≤ 1) ∧ ((z = 1 ∧ 97 ≤ p1 ∧ p1 ≤ 122) ∨ (z = 0 ∧ (p1 < 97 ∨ 122 < p1)))) (fun _ _ => True) (va_A [] sz)) 0 0 (va_A [] sz) := by
  sorry
set_option maxHeartbeats 2000000 in
set_option maxRecDepth 100000 in
theorem sX13_isDigit (l : Launch) (dC : Nat → ClassId) (dI : Nat → Nat → Nat) (sz : Nat) (p1 : Int) (q1 : rg p1) : Met l yX13_isDigit (jk yX13_isDigit cX13_isDigit 1 (some .boolean)) ({ frames := 0, cells := 0, slots := 0, locals := 0 }) (va_Pc [.int (iI p1)] (fun U => U.heap.size = sz)) (va_Qi (fun (r : Int32) (_ : Unit) => ∃ z : Int, r = iI z ∧ (0 ≤ z ∧ z ≤ 1) ∧ ((z = 1 ∧ 48 ≤ p1 ∧ p1 ≤ 57) ∨ (z = 0 ∧ (p1 < 48 ∨ 57 < p1)))) (fun _ _ => True) (va_A [] sz)) 0 0 (va_A [] sz) := by
  sorry
set_option maxHeartbeats 2000000 in
set_option maxRecDepth 100000 in
theorem sX13_isVolume (l : Launch) (dC : Nat → ClassId) (dI : Nat → Nat → Nat) (sz : Nat) (p1 : Int) (q1 : rg p1) : Met l yX13_isVolume (jk yX13_isVolume cX13_isVolume 1 (some .boolean)) ({ frames := 1, cells := 0, slots := 0, locals := 22 }) (va_Pc [.int (iI p1)] (fun U => U.heap.size = sz)) (va_Qi (fun (r : Int32) (_ : Unit) => ∃ z : Int, r = iI z ∧ (0 ≤ z ∧ z ≤ 1) ∧ ((z = 1 ∧ 0 ≤ p1 ∧ p1 ≤ 5) ∨ (z = 0 ∧ (p1 < 0 ∨ 5 < p1)))) (fun _ _ => True) (va_A [] sz)) 0 0 (va_A [] sz) := by
  sorry
set_option maxHeartbeats 2000000 in
set_option maxRecDepth 100000 in
theorem sX13_bounded (l : Launch) (dC : Nat → ClassId) (dI : Nat → Nat → Nat) (sz : Nat) (p1 : Int) (q1 : rg p1) : Met l yX13_bounded (jk yX13_bounded cX13_bounded 1 (some .int)) ({ frames := 0, cells := 0, slots := 0, locals := 0 }) (va_Pc [.int (iI p1)] (fun U => U.heap.size = sz)) (va_Qi (fun (r : Int32) (_ : Unit) => ∃ z : Int, r = iI z ∧ (1 ≤ z ∧ z ≤ 400)) (fun _ _ => True) (va_A [] sz)) 0 0 (va_A [] sz) := by
  sorry
set_option maxHeartbeats 2000000 in
set_option maxRecDepth 100000 in
theorem sX13_without (l : Launch) (dC : Nat → ClassId) (dI : Nat → Nat → Nat) (sz : Nat) (p1 : Int) (q1 : rg p1) : Met l yX13_without (jk yX13_without cX13_without 1 (some .int)) ({ frames := 0, cells := 0, slots := 0, locals := 0 }) (va_Pc [.int (iI p1)] (fun U => U.heap.size = sz)) (va_Qi (fun (r : Int32) (_ : Unit) => ∃ z : Int, r = iI z ∧ (0 ≤ z ∧ z ≤ 400)) (fun _ _ => True) (va_A [] sz)) 0 0 (va_A [] sz) := by
  sorry
set_option maxHeartbeats 2000000 in
set_option maxRecDepth 100000 in
theorem sX13_isEntry (l : Launch) (dC : Nat → ClassId) (dI : Nat → Nat → Nat) (sz : Nat) (ad : Nat → Nat) (ca : Nat → ClassId) (g : Nat → Int) (a : Nat → Int → Int) (p1 : Int) (hI : mI g a) (q1 : rg p1) : Met l yX13_isEntry (jk yX13_isEntry cX13_isEntry 2 (some .boolean)) ({ frames := 1, cells := 0, slots := 0, locals := 22 }) (va_Pc [.ref (ad 0), .int (iI p1)] (jw_P (dC, dI) (mG ad ca g a) (mT ca) sz)) (va_Qi (fun (r : Int32) (_ : Unit) => ∃ z : Int, r = iI z ∧ (0 ≤ z ∧ z ≤ 1) ∧ ((z = 1 ∧ 0 ≤ p1 ∧ p1 < g 37) ∨ (z = 0 ∧ (p1 < 0 ∨ g 37 ≤ p1)))) (fun _ _ => True) (va_A [] sz)) 0 0 (va_A [] sz) := by
  sorry
set_option maxHeartbeats 2000000 in
set_option maxRecDepth 100000 in
theorem sX13_isArticle (l : Launch) (dC : Nat → ClassId) (dI : Nat → Nat → Nat) (sz : Nat) (ad : Nat → Nat) (ca : Nat → ClassId) (g : Nat → Int) (a : Nat → Int → Int) (p1 : Int) (hI : mI g a) (q1 : rg p1) : Met l yX13_isArticle (jk yX13_isArticle cX13_isArticle 2 (some .boolean)) ({ frames := 2, cells := 0, slots := 0, locals := 43 }) (va_Pc [.ref (ad 0), .int (iI p1)] (jw_P (dC, dI) (mG ad ca g a) (mT ca) sz)) (va_Qi (fun (r : Int32) (_ : Unit) => ∃ z : Int, r = iI z ∧ (0 ≤ z ∧ z ≤ 1) ∧ (z = 1 → (0 ≤ p1 ∧ p1 < g 37 ∧ a 27 p1 = 0))) (fun _ _ => True) (va_A [] sz)) 0 0 (va_A [] sz) := by
  sorry
set_option maxHeartbeats 2000000 in
set_option maxRecDepth 100000 in
theorem sX13_isHand (l : Launch) (dC : Nat → ClassId) (dI : Nat → Nat → Nat) (sz : Nat) (ad : Nat → Nat) (ca : Nat → ClassId) (g : Nat → Int) (a : Nat → Int → Int) (p1 : Int) (hI : mI g a) (q1 : rg p1) : Met l yX13_isHand (jk yX13_isHand cX13_isHand 2 (some .boolean)) ({ frames := 1, cells := 0, slots := 0, locals := 22 }) (va_Pc [.ref (ad 0), .int (iI p1)] (jw_P (dC, dI) (mG ad ca g a) (mT ca) sz)) (va_Qi (fun (r : Int32) (_ : Unit) => ∃ z : Int, r = iI z ∧ (0 ≤ z ∧ z ≤ 1) ∧ ((z = 1 ∧ 0 ≤ p1 ∧ p1 < g 50) ∨ (z = 0 ∧ (p1 < 0 ∨ g 50 ≤ p1)))) (fun _ _ => True) (va_A [] sz)) 0 0 (va_A [] sz) := by
  sorry
set_option maxHeartbeats 2000000 in
set_option maxRecDepth 100000 in
theorem sX13_isLine (l : Launch) (dC : Nat → ClassId) (dI : Nat → Nat → Nat) (sz : Nat) (ad : Nat → Nat) (ca : Nat → ClassId) (g : Nat → Int) (a : Nat → Int → Int) (p1 : Int) (hI : mI g a) (q1 : rg p1) : Met l yX13_isLine (jk yX13_isLine cX13_isLine 2 (some .boolean)) ({ frames := 1, cells := 0, slots := 0, locals := 22 }) (va_Pc [.ref (ad 0), .int (iI p1)] (jw_P (dC, dI) (mG ad ca g a) (mT ca) sz)) (va_Qi (fun (r : Int32) (_ : Unit) => ∃ z : Int, r = iI z ∧ (0 ≤ z ∧ z ≤ 1) ∧ ((z = 1 ∧ 0 ≤ p1 ∧ p1 < g 56) ∨ (z = 0 ∧ (p1 < 0 ∨ g 56 ≤ p1)))) (fun _ _ => True) (va_A [] sz)) 0 0 (va_A [] sz) := by
  sorry
set_option maxHeartbeats 2000000 in
set_option maxRecDepth 100000 in
theorem sX13_isSign (l : Launch) (dC : Nat → ClassId) (dI : Nat → Nat → Nat) (sz : Nat) (ad : Nat → Nat) (ca : Nat → ClassId) (g : Nat → Int) (a : Nat → Int → Int) (p1 : Int) (hI : mI g a) (q1 : rg p1) : Met l yX13_isSign (jk yX13_isSign cX13_isSign 2 (some .boolean)) ({ frames := 0, cells := 0, slots := 0, locals := 0 }) (va_Pc [.ref (ad 0), .int (iI p1)] (jw_P (dC, dI) (mG ad ca g a) (mT ca) sz)) (va_Qi (fun (r : Int32) (_ : Unit) => ∃ z : Int, r = iI z ∧ (0 ≤ z ∧ z ≤ 1) ∧ (z = 0 ∨ g 3 = 3)) (fun _ _ => True) (va_A [] sz)) 0 0 (va_A [] sz) := by
  sorry
set_option maxHeartbeats 2000000 in
set_option maxRecDepth 100000 in
theorem sX13_isWord (l : Launch) (dC : Nat → ClassId) (dI : Nat → Nat → Nat) (sz : Nat) (ad : Nat → Nat) (ca : Nat → ClassId) (g : Nat → Int) (a : Nat → Int → Int) (p1 : Int) (hI : mI g a) (q1 : rg p1) : Met l yX13_isWord (jk yX13_isWord cX13_isWord 2 (some .boolean)) ({ frames := 0, cells := 0, slots := 0, locals := 0 }) (va_Pc [.ref (ad 0), .int (iI p1)] (jw_P (dC, dI) (mG ad ca g a) (mT ca) sz)) (va_Qi (fun (r : Int32) (_ : Unit) => ∃ z : Int, r = iI z ∧ (0 ≤ z ∧ z ≤ 1) ∧ (z = 0 ∨ g 3 = 2)) (fun _ _ => True) (va_A [] sz)) 0 0 (va_A [] sz) := by
  sorry
set_option maxHeartbeats 2000000 in
set_option maxRecDepth 100000 in
theorem sX13_isSetLine (l : Launch) (dC : Nat → ClassId) (dI : Nat → Nat → Nat) (sz : Nat) (ad : Nat → Nat) (ca : Nat → ClassId) (g : Nat → Int) (a : Nat → Int → Int) (p1 : Int) (hI : mI g a) (q1 : rg p1) (k1 : 0 ≤ p1 ∧ p1 < 300) : Met l yX13_isSetLine (jk yX13_isSetLine cX13_isSetLine 2 (some .boolean)) ({ frames := 0, cells := 0, slots := 0, locals := 0 }) (va_Pc [.ref (ad 0), .int (iI p1)] (jw_P (dC, dI) (mG ad ca g a) (mT ca) sz)) (va_Qi (fun (r : Int32) (_ : Unit) => ∃ z : Int, r = iI z ∧ (0 ≤ z ∧ z ≤ 1)) (fun _ _ => True) (va_A [] sz)) 0 0 (va_A [] sz) := by
  sorry
set_option maxHeartbeats 2000000 in
set_option maxRecDepth 100000 in
theorem sX13_linesOf (l : Launch) (dC : Nat → ClassId) (dI : Nat → Nat → Nat) (sz : Nat) (ad : Nat → Nat) (ca : Nat → ClassId) (g : Nat → Int) (a : Nat → Int → Int) (p1 : Int) (hI : mI g a) (q1 : rg p1) : Met l yX13_linesOf (jk yX13_linesOf cX13_linesOf 4 (some .int)) ({ frames := 0, cells := 0, slots := 0, locals := 0 }) (va_Pc [.ref (ad 0), .int (iI p1)] (jw_P (dC, dI) (mG ad ca g a) (mT ca) sz)) (va_Qi (fun (r : Int32) (_ : Unit) => ∃ z : Int, r = iI z ∧ (rg z)) (fun _ _ => True) (va_A [] sz)) 0 0 (va_A [] sz) := by
  sorry
set_option maxHeartbeats 2000000 in
set_option maxRecDepth 100000 in
theorem sX13_isDone (l : Launch) (dC : Nat → ClassId) (dI : Nat → Nat → Nat) (sz : Nat) (ad : Nat → Nat) (ca : Nat → ClassId) (g : Nat → Int) (a : Nat → Int → Int) (p1 : Int) (hI : mI g a) (q1 : rg p1) (k1 : 0 ≤ p1 ∧ p1 < 60) : Met l yX13_isDone (jk yX13_isDone cX13_isDone 2 (some .boolean)) ({ frames := 1, cells := 0, slots := 0, locals := 23 }) (va_Pc [.ref (ad 0), .int (iI p1)] (jw_P (dC, dI) (mG ad ca g a) (mT ca) sz)) (va_Qi (fun (r : Int32) (_ : Unit) => ∃ z : Int, r = iI z ∧ (0 ≤ z ∧ z ≤ 1)) (fun _ _ => True) (va_A [] sz)) 0 0 (va_A [] sz) := by
  sorry
set_option maxHeartbeats 2000000 in
set_option maxRecDepth 100000 in
theorem sX13_factsOf (l : Launch) (dC : Nat → ClassId) (dI : Nat → Nat → Nat) (sz : Nat) (ad : Nat → Nat) (ca : Nat → ClassId) (g : Nat → Int) (a : Nat → Int → Int) (p1 : Int) (hI : mI g a) (q1 : rg p1) : Met l yX13_factsOf (jk yX13_factsOf cX13_factsOf 6 (some .int)) ({ frames := 0, cells := 0, slots := 0, locals := 0 }) (va_Pc [.ref (ad 0), .int (iI p1)] (jw_P (dC, dI) (mG ad ca g a) (mT ca) sz)) (va_Qi (fun (r : Int32) (_ : Unit) => ∃ z : Int, r = iI z ∧ (rg z)) (fun _ _ => True) (va_A [] sz)) 0 0 (va_A [] sz) := by
  sorry
set_option maxHeartbeats 2000000 in
set_option maxRecDepth 100000 in
theorem sX13_lateOf (l : Launch) (dC : Nat → ClassId) (dI : Nat → Nat → Nat) (sz : Nat) (ad : Nat → Nat) (ca : Nat → ClassId) (g : Nat → Int) (a : Nat → Int → Int) (p1 : Int) (hI : mI g a) (q1 : rg p1) : Met l yX13_lateOf (jk yX13_lateOf cX13_lateOf 4 (some .int)) ({ frames := 2, cells := 0, slots := 0, locals := 44 }) (va_Pc [.ref (ad 0), .int (iI p1)] (jw_P (dC, dI) (mG ad ca g a) (mT ca) sz)) (va_Qi (fun (r : Int32) (_ : Unit) => ∃ z : Int, r = iI z ∧ (rg z)) (fun _ _ => True) (va_A [] sz)) 0 0 (va_A [] sz) := by
  sorry
set_option maxHeartbeats 2000000 in
set_option maxRecDepth 100000 in
theorem sX13_hangs (l : Launch) (dC : Nat → ClassId) (dI : Nat → Nat → Nat) (sz : Nat) (ad : Nat → Nat) (ca : Nat → ClassId) (g : Nat → Int) (a : Nat → Int → Int) (p1 : Int) (hI : mI g a) (q1 : rg p1) (k1 : 0 ≤ p1 ∧ p1 < 60) : Met l yX13_hangs (jk yX13_hangs cX13_hangs 2 (some .boolean)) ({ frames := 2, cells := 0, slots := 0, locals := 44 }) (va_Pc [.ref (ad 0), .int (iI p1)] (jw_P (dC, dI) (mG ad ca g a) (mT ca) sz)) (va_Qi (fun (r : Int32) (_ : Unit) => ∃ z : Int, r = iI z ∧ (0 ≤ z ∧ z ≤ 1)) (fun _ _ => True) (va_A [] sz)) 0 0 (va_A [] sz) := by
  sorry
set_option maxHeartbeats 2000000 in
set_option maxRecDepth 100000 in
theorem sX13_knownOf (l : Launch) (dC : Nat → ClassId) (dI : Nat → Nat → Nat) (sz : Nat) (ad : Nat → Nat) (ca : Nat → ClassId) (g : Nat → Int) (a : Nat → Int → Int) (p1 : Int) (p2 : Int) (hI : mI g a) (q1 : rg p1) (q2 : rg p2) : Met l yX13_knownOf (jk yX13_knownOf cX13_knownOf 4 (some .int)) ({ frames := 0, cells := 0, slots := 0, locals := 0 }) (va_Pc [.ref (ad 0), .int (iI p1), .int (iI p2)] (jw_P (dC, dI) (mG ad ca g a) (mT ca) sz)) (va_Qi (fun (r : Int32) (_ : Unit) => ∃ z : Int, r = iI z ∧ ((-1) ≤ z ∧ z ≤ 599) ∧ (z = knw (a 51) (a 54) p1 p2 (g 66).toNat)) (fun _ _ => True) (va_A [] sz)) 0 0 (va_A [] sz) := by
  refine Met.ofW (cc := cX13_knownOf) (maxL := 4) (ret := (some .int)) (by decide) rfl ?_
  intro p e s m args below meth c s₁ B hml hv
  obtain ⟨rfl, hsz, hP, hK, hD0⟩ := hv
  have hx := B.exec
  have hb := B.bytes
  have hr := B.returns
  have hts := atoms_spec (ws := (jk yX13_knownOf cX13_knownOf 4 (some .int))) B.pre
  have hj : ∀ w ∈ jw, w.before ([.ref (ad 0), .int (iI p1), .int (iI p2)] : List Value).toArray s = true := fun w h => hts w (jm h)
  have hown : s.vm.findClass RX13 = some m.cls := findClass_of_methodNamed B.named
  subst hsz
  have hD := hD0
  generalize hAe : (va_A [] s.heap.size) = A
  have hA : ∀ q : Nat, s.heap.size ≤ q → A q := fun q h => by rw [← hAe]; exact Or.inr h
  have hS : va_S A s.heap s.heap [] := va_S.rf
  have hP : va_P (dC, dI) vwCl (mG ad ca g a) s.heap := hP
  have hl := lv_entry ([.ref (ad 0), .int (iI p1), .int (iI p2)]) (n := 4) (Nat.le_of_ble_eq_true rfl)
  rw [lg_entry_eq]
  generalize (lg_sl ([.ref (ad 0), .int (iI p1), .int (iI p2)]) ++ List.replicate (4 - (lg_sl ([.ref (ad 0), .int (iI p1), .int (iI p2)])).length) Slot.unset).toArray = ls at hl ⊢
  have hl : lv_has ls 4 [(0, .ref (ad 0)), (1, .int (iI p1)), (2, .int (iI p2))] := hl
  generalize hQ : MQ below (va_Qi (fun (r : Int32) (_ : Unit) => ∃ z : Int, r = iI z ∧ ((-1) ≤ z ∧ z ≤ 599) ∧ (z = knw (a 51) (a 54) p1 p2 (g 66).toNat)) (fun _ _ => True) A) ([.ref (ad 0), .int (iI p1), .int (iI p2)] : List Value).toArray s 0 0 A = Q
  suffices ST : ∀ (H : Heap) (locs : List Loc), va_P (dC, dI) vwCl (mG ad ca g a) H → va_S A s.heap H locs → W p l e ({ frames := 0, cells := 0, slots := 0, locals := 0 }) s m ([.ref (ad 0), .int (iI p1), .int (iI p2)] : List Value).toArray below meth c H locs 0 0 Q (F0 m 0 ls []) from ST _ _ hP hS
  clear hP hS
  intro H locs hP hS
  have b66_0 : 0 ≤ g 66 ∧ g 66 ≤ 600 := hI.1 66
  refine lv_aload_n hx hb dX13_knownOf_0 rfl (lv_at hl 0 rfl) ?_
  refine gf_told hx hb hj hown hK hP hI dX13_knownOf_1 (fun h_1 => ?_)
  refine lv_iconst (v := iI 1) hx hb dX13_knownOf_4 rfl ?_
  refine xr_sub hx hb dX13_knownOf_5 ?_
  refine lv_istore_n (lv' := [(3, .int (iI ((g 66) - 1))), (0, .ref (ad 0)), (1, .int (iI p1)), (2, .int (iI p2))]) hx hb dX13_knownOf_6 rfl hl (by decide) rfl (fun ls hl => ?_)
  have L7 : ∀ (n7 : Nat) (v3_7 : Int) (H : Heap) (locs : List Loc) (ls : Array Slot), ((-1) ≤ v3_7 ∧ v3_7 ≤ 599) → (-1 ≤ v3_7 ∧ v3_7 ≤ 599) → (knw (a 51) (a 54) p1 p2 (v3_7 + 1).toNat = knw (a 51) (a 54) p1 p2 (g 66).toNat) → (0 < (n7 : Int) ∧ v3_7 + 1 < (n7 : Int)) → va_P (dC, dI) vwCl (mG ad ca g a) H → va_S A s.heap H locs → lv_has ls 4 [(3, .int (iI v3_7)), (0, .ref (ad 0)), (1, .int (iI p1)), (2, .int (iI p2))] → W p l e ({ frames := 0, cells := 0, slots := 0, locals := 0 }) s m ([.ref (ad 0), .int (iI p1), .int (iI p2)] : List Value).toArray below meth c H locs 0 0 Q (F0 m 7 ls []) := by
    intro n7
    induction n7 with
    | zero =>
      intro v3_7 H locs ls h_2 h_3 h_4 hm7 hP hS hl
      exfalso; omega
    | succ n7 ih7 =>
      intro v3_7 H locs ls h_5 h_6 h_7 hm7 hP hS hl
      refine lv_iload_n hx hb dX13_knownOf_7 rfl (lv_at hl 0 rfl) ?_
      refine xr_if_lt (tgt := 39) hx hb dX13_knownOf_8 (by decide) (by omega) (fun h_8 => ?_) (fun h_8 => ?_)
      · refine lv_iconst (v := iI (-1)) hx hb dX13_knownOf_39 rfl ?_
        rw [← hQ]
        exact W.iret (v := iI (-1)) hx hb hr (fun t ht hW => ⟨⟨iI (-1), (), rfl, ⟨(-1), rfl, by omega, by show (-1) = knw (a 51) (a 54) p1 p2 (g 66).toNat; first | exact knw_hit (by assumption) (by omega) (by omega) (by omega) | exact knw_out (by assumption) (by omega) (by omega)⟩, trivial⟩, hS.F ht⟩) hS.2.2 dX13_knownOf_40
      · refine lv_aload_n hx hb dX13_knownOf_11 rfl (lv_at hl 1 rfl) ?_
        refine gf_toldFact hx hb hj hown hK hP dX13_knownOf_12 ?_
        refine lv_iload_n hx hb dX13_knownOf_15 rfl (lv_at hl 0 rfl) ?_
        refine ld_toldFact hx hb hK hP hI (by omega) (by omega) dX13_knownOf_16 (fun h_9 => ?_)
        refine lv_iload_n hx hb dX13_knownOf_17 rfl (lv_at hl 2 rfl) ?_
        have J33 : ∀ (H : Heap) (locs : List Loc) (ls : Array Slot), (¬ (a 51 v3_7 = p1 ∧ a 54 v3_7 ≤ p2)) → va_P (dC, dI) vwCl (mG ad ca g a) H → va_S A s.heap H locs → lv_has ls 4 [(3, .int (iI v3_7)), (0, .ref (ad 0)), (1, .int (iI p1)), (2, .int (iI p2))] → W p l e ({ frames := 0, cells := 0, slots := 0, locals := 0 }) s m ([.ref (ad 0), .int (iI p1), .int (iI p2)] : List Value).toArray below meth c H locs 0 0 Q (F0 m 33 ls []) := by
          intro H locs ls h_10 hP hS hl
          refine lv_iinc (v := iI (v3_7 + (-1))) (lv' := [(3, .int (iI (v3_7 + (-1)))), (0, .ref (ad 0)), (1, .int (iI p1)), (2, .int (iI p2))]) hx hb dX13_knownOf_33 hl (k := 0) rfl (iI_add _ _) (by decide) rfl (fun ls hl => ?_)
          refine lv_goto (tgt := 7) hx hb dX13_knownOf_36 (by decide) ?_
          exact ih7 (v3_7 + (-1)) H locs ls (by omega) (by omega) (by first | exact knw_0 | exact knw_s (by assumption) (by omega) (by omega)) (by omega) hP hS hl
        refine xr_icmp_ne (tgt := 33) hx hb dX13_knownOf_18 (by decide) (by omega) (by omega) (fun h_11 => ?_) (fun h_11 => ?_)
        · exact J33 H locs ls (by omega) hP hS hl
        · refine lv_aload_n hx hb dX13_knownOf_21 rfl (lv_at hl 1 rfl) ?_
          refine gf_toldIn hx hb hj hown hK hP dX13_knownOf_22 ?_
          refine lv_iload_n hx hb dX13_knownOf_25 rfl (lv_at hl 0 rfl) ?_
          refine ld_toldIn hx hb hK hP hI (by omega) (by omega) dX13_knownOf_26 (fun h_12 => ?_)
          refine lv_iload_n hx hb dX13_knownOf_27 rfl (lv_at hl 3 rfl) ?_
          refine xr_icmp_gt (tgt := 33) hx hb dX13_knownOf_28 (by decide) (by omega) (by omega) (fun h_13 => ?_) (fun h_13 => ?_)
          · exact J33 H locs ls (by omega) hP hS hl
          · refine lv_iload_n hx hb dX13_knownOf_31 rfl (lv_at hl 0 rfl) ?_
            rw [← hQ]
            exact W.iret (v := iI v3_7) hx hb hr (fun t ht hW => ⟨⟨iI v3_7, (), rfl, ⟨v3_7, rfl, by omega, by show v3_7 = knw (a 51) (a 54) p1 p2 (g 66).toNat; first | exact knw_hit (by assumption) (by omega) (by omega) (by omega) | exact knw_out (by assumption) (by omega) (by omega)⟩, trivial⟩, hS.F ht⟩) hS.2.2 dX13_knownOf_32
  exact L7 (((((g 66) - 1) + 1 : Int)).toNat + 1) ((g 66) - 1) H locs ls (by omega) (by omega) (by first | exact knw_0 | exact knw_s (by assumption) (by omega) (by omega)) (by omega) hP hS hl
set_option maxHeartbeats 2000000 in
set_option maxRecDepth 100000 in
theorem sX13_valueOf (l : Launch) (dC : Nat → ClassId) (dI : Nat → Nat → Nat) (sz : Nat) (ad : Nat → Nat) (ca : Nat → ClassId) (g : Nat → Int) (a : Nat → Int → Int) (p1 : Int) (p2 : Int) (hI : mI g a) (q1 : rg p1) (q2 : rg p2) : Met l yX13_valueOf (jk yX13_valueOf cX13_valueOf 4 (some .int)) ({ frames := 1, cells := 0, slots := 0, locals := 23 }) (va_Pc [.ref (ad 0), .int (iI p1), .int (iI p2)] (jw_P (dC, dI) (mG ad ca g a) (mT ca) sz)) (va_Qi (fun (r : Int32) (_ : Unit) => ∃ z : Int, r = iI z ∧ (rg z)) (fun _ _ => True) (va_A [] sz)) 0 0 (va_A [] sz) := by
  refine Met.ofW (cc := cX13_valueOf) (maxL := 4) (ret := (some .int)) (by decide) rfl ?_
  intro p e s m args below meth c s₁ B hml hv
  obtain ⟨rfl, hsz, hP, hK, hD0⟩ := hv
  have hx := B.exec
  have hb := B.bytes
  have hr := B.returns
  have hts := atoms_spec (ws := (jk yX13_valueOf cX13_valueOf 4 (some .int))) B.pre
  have hj : ∀ w ∈ jw, w.before ([.ref (ad 0), .int (iI p1), .int (iI p2)] : List Value).toArray s = true := fun w h => hts w (jm h)
  have hown : s.vm.findClass RX13 = some m.cls := findClass_of_methodNamed B.named
  subst hsz
  have hD := hD0
  generalize hAe : (va_A [] s.heap.size) = A
  have hA : ∀ q : Nat, s.heap.size ≤ q → A q := fun q h => by rw [← hAe]; exact Or.inr h
  have hS : va_S A s.heap s.heap [] := va_S.rf
  have hP : va_P (dC, dI) vwCl (mG ad ca g a) s.heap := hP
  have hl := lv_entry ([.ref (ad 0), .int (iI p1), .int (iI p2)]) (n := 4) (Nat.le_of_ble_eq_true rfl)
  rw [lg_entry_eq]
  generalize (lg_sl ([.ref (ad 0), .int (iI p1), .int (iI p2)]) ++ List.replicate (4 - (lg_sl ([.ref (ad 0), .int (iI p1), .int (iI p2)])).length) Slot.unset).toArray = ls at hl ⊢
  have hl : lv_has ls 4 [(0, .ref (ad 0)), (1, .int (iI p1)), (2, .int (iI p2))] := hl
  generalize hQ : MQ below (va_Qi (fun (r : Int32) (_ : Unit) => ∃ z : Int, r = iI z ∧ (rg z)) (fun _ _ => True) A) ([.ref (ad 0), .int (iI p1), .int (iI p2)] : List Value).toArray s 0 0 A = Q
  suffices ST : ∀ (H : Heap) (locs : List Loc), va_P (dC, dI) vwCl (mG ad ca g a) H → va_S A s.heap H locs → W p l e ({ frames := 1, cells := 0, slots := 0, locals := 23 }) s m ([.ref (ad 0), .int (iI p1), .int (iI p2)] : List Value).toArray below meth c H locs 0 0 Q (F0 m 0 ls []) from ST _ _ hP hS
  clear hP hS
  intro H locs hP hS
  refine lv_aload_n hx hb dX13_valueOf_0 rfl (lv_at hl 0 rfl) ?_
  refine lv_iload_n hx hb dX13_valueOf_1 rfl (lv_at hl 1 rfl) ?_
  refine lv_iload_n hx hb dX13_valueOf_2 rfl (lv_at hl 2 rfl) ?_
  refine jc_i (va_runV (As := [.int (iI p1), .int (iI p2)]) (rest := []) ⟨hx, hb, hml, hown, hts⟩ (sX13_knownOf l dC dI _ ad ca g a p1 p2 hI (by omega) (by omega)) (cwV 2 hts (jgoodV m_269 m_404 m_405 m_503 m_169) rfl rfl rfl (by decide +kernel) ⟨(Nat.le_of_ble_eq_true rfl), (Nat.le_of_ble_eq_true rfl)⟩) ⟨jw_blind, va_recv hK hP (ci := 13) (q0 := 0) rfl rfl, fun U hU hW => ⟨rfl, jw_of hU hW hP hK hD⟩⟩ rfl rfl hl.1 rfl (lv_room (Nat.le_of_ble_eq_true rfl)) dX13_valueOf_3 ⟨(Nat.le_of_ble_eq_true rfl), (Nat.le_of_ble_eq_true rfl)⟩) hP hS hA (fun r_1 H locs w_2 hP hS => ?_)
  obtain ⟨z_3, rfl, h_4, h_5⟩ := w_2
  have b_6 : 0 ≤ g 66 ∧ g 66 ≤ 600 := hI.1 66
  refine lv_istore_n (lv' := [(3, .int (iI z_3)), (0, .ref (ad 0)), (1, .int (iI p1)), (2, .int (iI p2))]) hx hb dX13_valueOf_6 rfl hl (by decide) rfl (fun ls hl => ?_)
  refine lv_iload_n hx hb dX13_valueOf_7 rfl (lv_at hl 0 rfl) ?_
  refine lv_iconst (v := iI (-1)) hx hb dX13_valueOf_8 rfl ?_
  refine xr_icmp_ne (tgt := 16) hx hb dX13_valueOf_9 (by decide) (by omega) (by omega) (fun h_7 => ?_) (fun h_7 => ?_)
  · refine lv_aload_n hx hb dX13_valueOf_16 rfl (lv_at hl 1 rfl) ?_
    refine gf_toldValue hx hb hj hown hK hP dX13_valueOf_17 ?_
    refine lv_iload_n hx hb dX13_valueOf_20 rfl (lv_at hl 0 rfl) ?_
    refine ld_toldValue hx hb hK hP hI (by omega) (by omega) dX13_valueOf_21 (fun h_8 => ?_)
    rw [← hQ]
    exact W.iret (v := iI (a 52 z_3)) hx hb hr (fun t ht hW => ⟨⟨iI (a 52 z_3), (), rfl, ⟨a 52 z_3, rfl, by omega⟩, trivial⟩, hS.F ht⟩) hS.2.2 dX13_valueOf_22
  · refine lv_iconst (v := iI (-1)) hx hb dX13_valueOf_12 rfl ?_
    refine lv_goto (tgt := 22) hx hb dX13_valueOf_13 (by decide) ?_
    rw [← hQ]
    exact W.iret (v := iI (-1)) hx hb hr (fun t ht hW => ⟨⟨iI (-1), (), rfl, ⟨(-1), rfl, by omega⟩, trivial⟩, hS.F ht⟩) hS.2.2 dX13_valueOf_22
set_option maxHeartbeats 2000000 in
set_option maxRecDepth 100000 in
theorem sX13_inForce (l : Launch) (dC : Nat → ClassId) (dI : Nat → Nat → Nat) (sz : Nat) (ad : Nat → Nat) (ca : Nat → ClassId) (g : Nat → Int) (a : Nat → Int → Int) (p1 : Int) (p2 : Int) (p3 : Int) (hI : mI g a) (q1 : rg p1) (q2 : rg p2) (q3 : rg p3) (k1 : 0 ≤ p1 ∧ p1 ≤ 13) (hrSh : rSh g a) : Met l yX13_inForce (jk yX13_inForce cX13_inForce 5 (some .int)) ({ frames := 0, cells := 0, slots := 0, locals := 0 }) (va_Pc [.ref (ad 0), .int (iI p1), .int (iI p2), .int (iI p3)] (jw_P (dC, dI) (mG ad ca g a) (mT ca) sz)) (va_Qi (fun (r : Int32) (_ : Unit) => ∃ z : Int, r = iI z ∧ ((-1) ≤ z ∧ z ≤ 11) ∧ (z < g 18)) (fun _ _ => True) (va_A [] sz)) 0 0 (va_A [] sz) := by
  sorry
set_option maxHeartbeats 2000000 in
set_option maxRecDepth 100000 in
theorem sX13_go (l : Launch) (dC : Nat → ClassId) (dI : Nat → Nat → Nat) (sz : Nat) (ad : Nat → Nat) (ca : Nat → ClassId) (g : Nat → Int) (a : Nat → Int → Int) (p1 : Int) (hI : mI g a) (q1 : rg p1) : Met l yX13_go (jk yX13_go cX13_go 2 (some .int)) ({ frames := 1, cells := 0, slots := 0, locals := 22 }) (va_Pc [.ref (ad 0), .int (iI p1)] (jw_P (dC, dI) (mG ad ca g a) (mT ca) sz)) (va_Qi (fun (r : Int32) (u : (Nat → Int) × (Nat → Int → Int)) => ∃ z : Int, r = iI z ∧ (mI u.1 u.2) ∧ (∀ j, j ∉ ([30] : List Nat) → u.1 j = g j) ∧ (∀ j, j ∉ ([] : List Nat) → u.2 j = a j) ∧ (rg z) ∧ ((z = -1 ∧ (p1 < 0 ∨ 300 < p1) ∧ u.1 30 = g 30) ∨ (z = u.1 30 ∧ 0 ≤ p1 ∧ p1 ≤ 300 ∧ ((2000 < g 30 + p1 ∧ u.1 30 = 2000) ∨ (g 30 + p1 ≤ 2000 ∧ u.1 30 = g 30 + p1))))) (fun u t => va_P (dC, dI) vwCl (mG ad ca u.1 u.2) t.heap ∧ va_K (dC, dI) vwCl (mT ca) t ∧ va_D (va_A (mG ad ca g a) sz) (mG ad ca u.1 u.2)) (va_A (mG ad ca g a) sz)) 0 0 (va_A (mG ad ca g a) sz) := by
  sorry
set_option maxHeartbeats 2000000 in
set_option maxRecDepth 100000 in
theorem sX13_rule (l : Launch) (dC : Nat → ClassId) (dI : Nat → Nat → Nat) (sz : Nat) (ad : Nat → Nat) (ca : Nat → ClassId) (g : Nat → Int) (a : Nat → Int → Int) (p1 : Int) (p2 : Int) (p3 : Int) (hI : mI g a) (q1 : rg p1) (q2 : rg p2) (q3 : rg p3) (hrSh : rSh g a) : Met l yX13_rule (jk yX13_rule cX13_rule 5 (some .int)) ({ frames := 1, cells := 0, slots := 0, locals := 24 }) (va_Pc [.ref (ad 0), .int (iI p1), .int (iI p2), .int (iI p3)] (jw_P (dC, dI) (mG ad ca g a) (mT ca) sz)) (va_Qi (fun (r : Int32) (_ : Unit) => ∃ z : Int, r = iI z ∧ (rg z)) (fun _ _ => True) (va_A [] sz)) 0 0 (va_A [] sz) := by
  sorry
set_option maxHeartbeats 2000000 in
set_option maxRecDepth 100000 in
theorem sX13_end (l : Launch) (dC : Nat → ClassId) (dI : Nat → Nat → Nat) (sz : Nat) (ad : Nat → Nat) (ca : Nat → ClassId) (g : Nat → Int) (a : Nat → Int → Int) (p1 : Int) (hI : mI g a) (q1 : rg p1) : Met l yX13_end (jk yX13_end cX13_end 2 (some .boolean)) ({ frames := 1, cells := 0, slots := 0, locals := 22 }) (va_Pc [.ref (ad 0), .int (iI p1)] (jw_P (dC, dI) (mG ad ca g a) (mT ca) sz)) (va_Qi (fun (r : Int32) (u : (Nat → Int) × (Nat → Int → Int)) => ∃ z : Int, r = iI z ∧ (mI u.1 u.2) ∧ (∀ j, j ∉ ([1] : List Nat) → u.1 j = g j) ∧ (∀ j, j ∉ ([] : List Nat) → u.2 j = a j) ∧ (0 ≤ z ∧ z ≤ 1)) (fun u t => va_P (dC, dI) vwCl (mG ad ca u.1 u.2) t.heap ∧ va_K (dC, dI) vwCl (mT ca) t ∧ va_D (va_A (mG ad ca g a) sz) (mG ad ca u.1 u.2)) (va_A (mG ad ca g a) sz)) 0 0 (va_A (mG ad ca g a) sz) := by
  sorry
set_option maxHeartbeats 2000000 in
set_option maxRecDepth 100000 in
theorem sX13_feed (l : Launch) (dC : Nat → ClassId) (dI : Nat → Nat → Nat) (sz : Nat) (ad : Nat → Nat) (ca : Nat → ClassId) (g : Nat → Int) (a : Nat → Int → Int) (p1 : Int) (p2 : Int) (p3 : Int) (p4 : Int) (p5 : Int) (hI : mI g a) (q1 : rg p1) (q2 : rg p2) (q3 : rg p3) (q4 : rg p4) (q5 : rg p5) : Met l yX13_feed (jk yX13_feed cX13_feed 8 (some .int)) ({ frames := 0, cells := 0, slots := 0, locals := 0 }) (va_Pc [.ref (ad 0), .int (iI p1), .int (iI p2), .int (iI p3), .int (iI p4), .int (iI p5)] (jw_P (dC, dI) (mG ad ca g a) (mT ca) sz)) (va_Qi (fun (r : Int32) (u : (Nat → Int) × (Nat → Int → Int)) => ∃ z : Int, r = iI z ∧ (mI u.1 u.2) ∧ (∀ j, j ∉ ([1] : List Nat) → u.1 j = g j) ∧ (∀ j, j ∉ ([1] : List Nat) → u.2 j = a j) ∧ (rg z)) (fun u t => va_P (dC, dI) vwCl (mG ad ca u.1 u.2) t.heap ∧ va_K (dC, dI) vwCl (mT ca) t ∧ va_D (va_A (mG ad ca g a) sz) (mG ad ca u.1 u.2)) (va_A (mG ad ca g a) sz)) 0 0 (va_A (mG ad ca g a) sz) := by
  sorry
set_option maxHeartbeats 2000000 in
set_option maxRecDepth 100000 in
theorem sX13_steal (l : Launch) (dC : Nat → ClassId) (dI : Nat → Nat → Nat) (sz : Nat) (ad : Nat → Nat) (ca : Nat → ClassId) (g : Nat → Int) (a : Nat → Int → Int) (p1 : Int) (hI : mI g a) (q1 : rg p1) : Met l yX13_steal (jk yX13_steal cX13_steal 2 (some .int)) ({ frames := 1, cells := 0, slots := 0, locals := 22 }) (va_Pc [.ref (ad 0), .int (iI p1)] (jw_P (dC, dI) (mG ad ca g a) (mT ca) sz)) (va_Qi (fun (r : Int32) (u : (Nat → Int) × (Nat → Int → Int)) => ∃ z : Int, r = iI z ∧ (mI u.1 u.2) ∧ (∀ j, j ∉ ([78] : List Nat) → u.1 j = g j) ∧ (∀ j, j ∉ ([61] : List Nat) → u.2 j = a j) ∧ (rg z) ∧ ((z = -1 ∧ u.1 78 = g 78 ∧ (p1 < 0 ∨ 999 < p1 ∨ g 78 = 30)) ∨ (z = g 78 + 1 ∧ u.1 78 = g 78 + 1 ∧ 0 ≤ p1 ∧ p1 ≤ 999 ∧ g 78 ≠ 30))) (fun u t => va_P (dC, dI) vwCl (mG ad ca u.1 u.2) t.heap ∧ va_K (dC, dI) vwCl (mT ca) t ∧ va_D (va_A (mG ad ca g a) sz) (mG ad ca u.1 u.2)) (va_A (mG ad ca g a) sz)) 0 0 (va_A (mG ad ca g a) sz) := by
  refine Met.ofW (cc := cX13_steal) (maxL := 2) (ret := (some .int)) (by decide) rfl ?_
  intro p e s m args below meth c s₁ B hml hv
  obtain ⟨rfl, hsz, hP, hK, hD0⟩ := hv
  have hx := B.exec
  have hb := B.bytes
  have hr := B.returns
  have hts := atoms_spec (ws := (jk yX13_steal cX13_steal 2 (some .int))) B.pre
  have hj : ∀ w ∈ jw, w.before ([.ref (ad 0), .int (iI p1)] : List Value).toArray s = true := fun w h => hts w (jm h)
  have hown : s.vm.findClass RX13 = some m.cls := findClass_of_methodNamed B.named
  subst hsz
  have hD := hD0.self (sz := s.heap.size)
  generalize hAe : (va_A (mG ad ca g a) s.heap.size) = A at hD ⊢
  have hA : ∀ q : Nat, s.heap.size ≤ q → A q := fun q h => by rw [← hAe]; exact Or.inr h
  have hS : va_S A s.heap s.heap [] := va_S.rf
  have hP : va_P (dC, dI) vwCl (mG ad ca g a) s.heap := hP
  have hfA : ∀ j, j ∉ ([78] : List Nat) → g j = g j := fun _ _ => rfl
  have haA : ∀ j, j ∉ ([61] : List Nat) → a j = a j := fun _ _ => rfl
  have hl := lv_entry ([.ref (ad 0), .int (iI p1)]) (n := 2) (Nat.le_of_ble_eq_true rfl)
  rw [lg_entry_eq]
  generalize (lg_sl ([.ref (ad 0), .int (iI p1)]) ++ List.replicate (2 - (lg_sl ([.ref (ad 0), .int (iI p1)])).length) Slot.unset).toArray = ls at hl ⊢
  have hl : lv_has ls 2 [(0, .ref (ad 0)), (1, .int (iI p1))] := hl
  generalize hQ : MQ below (va_Qi (fun (r : Int32) (u : (Nat → Int) × (Nat → Int → Int)) => ∃ z : Int, r = iI z ∧ (mI u.1 u.2) ∧ (∀ j, j ∉ ([78] : List Nat) → u.1 j = g j) ∧ (∀ j, j ∉ ([61] : List Nat) → u.2 j = a j) ∧ (rg z) ∧ ((z = -1 ∧ u.1 78 = g 78 ∧ (p1 < 0 ∨ 999 < p1 ∨ g 78 = 30)) ∨ (z = g 78 + 1 ∧ u.1 78 = g 78 + 1 ∧ 0 ≤ p1 ∧ p1 ≤ 999 ∧ g 78 ≠ 30))) (fun u t => va_P (dC, dI) vwCl (mG ad ca u.1 u.2) t.heap ∧ va_K (dC, dI) vwCl (mT ca) t ∧ va_D A (mG ad ca u.1 u.2)) A) ([.ref (ad 0), .int (iI p1)] : List Value).toArray s 0 0 A = Q
  suffices ST : ∀ (H : Heap) (locs : List Loc), va_P (dC, dI) vwCl (mG ad ca g a) H → va_S A s.heap H locs → W p l e ({ frames := 1, cells := 0, slots := 0, locals := 22 }) s m ([.ref (ad 0), .int (iI p1)] : List Value).toArray below meth c H locs 0 0 Q (F0 m 0 ls []) from ST _ _ hP hS
  clear hP hS
  intro H locs hP hS
  have b78_0 : 0 ≤ g 78 ∧ g 78 ≤ 30 := hI.1 78
  refine lv_iload_n hx hb dX13_steal_0 rfl (lv_at hl 1 rfl) ?_
  refine lv_iconst (v := iI 0) hx hb dX13_steal_1 rfl ?_
  refine lv_sipush (v := iI 999) hx hb dX13_steal_2 rfl ?_
  refine jc_i (va_runS (As := [.int (iI p1), .int (iI 0), .int (iI 999)]) (rest := []) ⟨hx, hb, hml, hown, hts⟩ (sX13_in l dC dI _ p1 0 999 (by omega) (by omega) (by omega)) (va_cwS 3 hts (jgoodS m_220 m_364 m_503 m_147) rfl rfl rfl (by decide +kernel) ⟨(Nat.le_of_ble_eq_true rfl), (Nat.le_of_ble_eq_true rfl)⟩) ⟨jw_blind0, fun U hU hW => ⟨rfl, congrArg Array.size hU⟩⟩ rfl rfl hl.1 rfl (lv_room (Nat.le_of_ble_eq_true rfl)) dX13_steal_5 ⟨(Nat.le_of_ble_eq_true rfl), (Nat.le_of_ble_eq_true rfl)⟩) hP hS hA (fun r_1 H locs w_2 hP hS => ?_)
  obtain ⟨z_3, rfl, h_4, h_5⟩ := w_2
  refine xr_if_eq (tgt := 20) hx hb dX13_steal_8 (by decide) (by omega) (fun h_6 => ?_) (fun h_6 => ?_)
  · refine lv_iconst (v := iI (-1)) hx hb dX13_steal_20 rfl ?_
    rw [← hQ]
    exact W.iret (v := iI (-1)) hx hb hr (fun t ht hW => ⟨⟨iI (-1), (g, a), rfl, ⟨(-1), rfl, hI, hfA, haA, by omega, by show ((-1) = -1 ∧ g 78 = g 78 ∧ (p1 < 0 ∨ 999 < p1 ∨ g 78 = 30)) ∨ ((-1) = g 78 + 1 ∧ g 78 = g 78 + 1 ∧ 0 ≤ p1 ∧ p1 ≤ 999 ∧ g 78 ≠ 30); omega⟩, by rw [ht]; exact hP, va_K.moved hW.alike hK, hD⟩, hS.F ht⟩) hS.2.2 dX13_steal_21
  · refine lv_aload_n hx hb dX13_steal_11 rfl (lv_at hl 0 rfl) ?_
    refine gf_stolen hx hb hj hown hK hP hI dX13_steal_12 (fun h_7 => ?_)
    refine lv_bipush (v := iI 30) hx hb dX13_steal_15 rfl ?_
    refine xr_icmp_ne (tgt := 22) hx hb dX13_steal_17 (by decide) (by omega) (by omega) (fun h_8 => ?_) (fun h_8 => ?_)
    · refine lv_aload_n hx hb dX13_steal_22 rfl (lv_at hl 0 rfl) ?_
      refine gf_stole hx hb hj hown hK hP dX13_steal_23 ?_
      refine lv_aload_n hx hb dX13_steal_26 rfl (lv_at hl 0 rfl) ?_
      refine gf_stolen hx hb hj hown hK hP hI dX13_steal_27 (fun h_9 => ?_)
      refine lv_iload_n hx hb dX13_steal_30 rfl (lv_at hl 1 rfl) ?_
      refine st_stole hx hb hK hP hD hS hI (by omega) (by omega) (by omega) (by omega) dX13_steal_31 (fun a_10 H locs e_11 e_12 hI hP hD hS => ?_)
      have haA : ∀ j, j ∉ ([61] : List Nat) → a_10 j = a j := fun j h => (e_11 j (fun q => h (q ▸ (by decide : 61 ∈ ([61] : List Nat))))).trans (haA j h)
      refine lv_aload_n hx hb dX13_steal_32 rfl (lv_at hl 0 rfl) ?_
      refine lv_dup hx hb dX13_steal_33 rfl ?_
      refine gf_stolen hx hb hj hown hK hP hI dX13_steal_34 (fun h_13 => ?_)
      refine lv_iconst (v := iI 1) hx hb dX13_steal_37 rfl ?_
      refine xr_add hx hb dX13_steal_38 ?_
      refine pf_stolen hx hb hj hown hK hP hD hS hI (by omega) (by omega) dX13_steal_39 (fun g_14 H locs e_15 e_16 hI hP hD hS => ?_)
      have hfA : ∀ j, j ∉ ([78] : List Nat) → g_14 j = g j := fun j h => (e_15 j (fun q => h (q ▸ (by decide : 78 ∈ ([78] : List Nat))))).trans (hfA j h)
      refine lv_aload_n hx hb dX13_steal_42 rfl (lv_at hl 0 rfl) ?_
      refine gf_stolen hx hb hj hown hK hP hI dX13_steal_43 (fun h_17 => ?_)
      rw [← hQ]
      exact W.iret (v := iI (g_14 78)) hx hb hr (fun t ht hW => ⟨⟨iI (g_14 78), (g_14, a_10), rfl, ⟨g_14 78, rfl, hI, hfA, haA, by omega, by show ((g_14 78) = -1 ∧ g_14 78 = g 78 ∧ (p1 < 0 ∨ 999 < p1 ∨ g 78 = 30)) ∨ ((g_14 78) = g 78 + 1 ∧ g_14 78 = g 78 + 1 ∧ 0 ≤ p1 ∧ p1 ≤ 999 ∧ g 78 ≠ 30); omega⟩, by rw [ht]; exact hP, va_K.moved hW.alike hK, hD⟩, hS.F ht⟩) hS.2.2 dX13_steal_46
    · refine lv_iconst (v := iI (-1)) hx hb dX13_steal_20 rfl ?_
      rw [← hQ]
      exact W.iret (v := iI (-1)) hx hb hr (fun t ht hW => ⟨⟨iI (-1), (g, a), rfl, ⟨(-1), rfl, hI, hfA, haA, by omega, by show ((-1) = -1 ∧ g 78 = g 78 ∧ (p1 < 0 ∨ 999 < p1 ∨ g 78 = 30)) ∨ ((-1) = g 78 + 1 ∧ g 78 = g 78 + 1 ∧ 0 ≤ p1 ∧ p1 ≤ 999 ∧ g 78 ≠ 30); omega⟩, by rw [ht]; exact hP, va_K.moved hW.alike hK, hD⟩, hS.F ht⟩) hS.2.2 dX13_steal_21
set_option maxHeartbeats 2000000 in
set_option maxRecDepth 100000 in
theorem sX13_forget (l : Launch) (dC : Nat → ClassId) (dI : Nat → Nat → Nat) (sz : Nat) (ad : Nat → Nat) (ca : Nat → ClassId) (g : Nat → Int) (a : Nat → Int → Int) (hI : mI g a) : Met l yX13_forget (jk yX13_forget cX13_forget 2 (some .int)) ({ frames := 0, cells := 0, slots := 0, locals := 0 }) (va_Pc [.ref (ad 0)] (jw_P (dC, dI) (mG ad ca g a) (mT ca) sz)) (va_Qi (fun (r : Int32) (u : (Nat → Int) × (Nat → Int → Int)) => ∃ z : Int, r = iI z ∧ (mI u.1 u.2) ∧ (∀ j, j ∉ ([78] : List Nat) → u.1 j = g j) ∧ (∀ j, j ∉ ([] : List Nat) → u.2 j = a j) ∧ (rg z) ∧ (z = g 78 ∧ u.1 78 = 0)) (fun u t => va_P (dC, dI) vwCl (mG ad ca u.1 u.2) t.heap ∧ va_K (dC, dI) vwCl (mT ca) t ∧ va_D (va_A (mG ad ca g a) sz) (mG ad ca u.1 u.2)) (va_A (mG ad ca g a) sz)) 0 0 (va_A (mG ad ca g a) sz) := by
  refine Met.ofW (cc := cX13_forget) (maxL := 2) (ret := (some .int)) (by decide) rfl ?_
  intro p e s m args below meth c s₁ B hml hv
  obtain ⟨rfl, hsz, hP, hK, hD0⟩ := hv
  have hx := B.exec
  have hb := B.bytes
  have hr := B.returns
  have hts := atoms_spec (ws := (jk yX13_forget cX13_forget 2 (some .int))) B.pre
  have hj : ∀ w ∈ jw, w.before ([.ref (ad 0)] : List Value).toArray s = true := fun w h => hts w (jm h)
  have hown : s.vm.findClass RX13 = some m.cls := findClass_of_methodNamed B.named
  subst hsz
  have hD := hD0.self (sz := s.heap.size)
  generalize hAe : (va_A (mG ad ca g a) s.heap.size) = A at hD ⊢
  have hA : ∀ q : Nat, s.heap.size ≤ q → A q := fun q h => by rw [← hAe]; exact Or.inr h
  have hS : va_S A s.heap s.heap [] := va_S.rf
  have hP : va_P (dC, dI) vwCl (mG ad ca g a) s.heap := hP
  have hfA : ∀ j, j ∉ ([78] : List Nat) → g j = g j := fun _ _ => rfl
  have haA : ∀ j, j ∉ ([] : List Nat) → a j = a j := fun _ _ => rfl
  have hl := lv_entry ([.ref (ad 0)]) (n := 2) (Nat.le_of_ble_eq_true rfl)
  rw [lg_entry_eq]
  generalize (lg_sl ([.ref (ad 0)]) ++ List.replicate (2 - (lg_sl ([.ref (ad 0)])).length) Slot.unset).toArray = ls at hl ⊢
  have hl : lv_has ls 2 [(0, .ref (ad 0))] := hl
  generalize hQ : MQ below (va_Qi (fun (r : Int32) (u : (Nat → Int) × (Nat → Int → Int)) => ∃ z : Int, r = iI z ∧ (mI u.1 u.2) ∧ (∀ j, j ∉ ([78] : List Nat) → u.1 j = g j) ∧ (∀ j, j ∉ ([] : List Nat) → u.2 j = a j) ∧ (rg z) ∧ (z = g 78 ∧ u.1 78 = 0)) (fun u t => va_P (dC, dI) vwCl (mG ad ca u.1 u.2) t.heap ∧ va_K (dC, dI) vwCl (mT ca) t ∧ va_D A (mG ad ca u.1 u.2)) A) ([.ref (ad 0)] : List Value).toArray s 0 0 A = Q
  suffices ST : ∀ (H : Heap) (locs : List Loc), va_P (dC, dI) vwCl (mG ad ca g a) H → va_S A s.heap H locs → W p l e ({ frames := 0, cells := 0, slots := 0, locals := 0 }) s m ([.ref (ad 0)] : List Value).toArray below meth c H locs 0 0 Q (F0 m 0 ls []) from ST _ _ hP hS
  clear hP hS
  intro H locs hP hS
  have b78_0 : 0 ≤ g 78 ∧ g 78 ≤ 30 := hI.1 78
  refine lv_aload_n hx hb dX13_forget_0 rfl (lv_at hl 0 rfl) ?_
  refine gf_stolen hx hb hj hown hK hP hI dX13_forget_1 (fun h_1 => ?_)
  refine lv_istore_n (lv' := [(1, .int (iI (g 78))), (0, .ref (ad 0))]) hx hb dX13_forget_4 rfl hl (by decide) rfl (fun ls hl => ?_)
  refine lv_aload_n hx hb dX13_forget_5 rfl (lv_at hl 1 rfl) ?_
  refine lv_iconst (v := iI 0) hx hb dX13_forget_6 rfl ?_
  refine pf_stolen hx hb hj hown hK hP hD hS hI (by omega) (by omega) dX13_forget_7 (fun g_2 H locs e_3 e_4 hI hP hD hS => ?_)
  have hfA : ∀ j, j ∉ ([78] : List Nat) → g_2 j = g j := fun j h => (e_3 j (fun q => h (q ▸ (by decide : 78 ∈ ([78] : List Nat))))).trans (hfA j h)
  refine lv_iload_n hx hb dX13_forget_10 rfl (lv_at hl 0 rfl) ?_
  rw [← hQ]
  exact W.iret (v := iI (g 78)) hx hb hr (fun t ht hW => ⟨⟨iI (g 78), (g_2, a), rfl, ⟨g 78, rfl, hI, hfA, haA, by omega, by show (g 78) = g 78 ∧ g_2 78 = 0; omega⟩, by rw [ht]; exact hP, va_K.moved hW.alike hK, hD⟩, hS.F ht⟩) hS.2.2 dX13_forget_11
set_option maxHeartbeats 2000000 in
set_option maxRecDepth 100000 in
theorem sX13_hand (l : Launch) (dC : Nat → ClassId) (dI : Nat → Nat → Nat) (sz : Nat) (ad : Nat → Nat) (ca : Nat → ClassId) (g : Nat → Int) (a : Nat → Int → Int) (p1 : Int) (p2 : Int) (p3 : Int) (hI : mI g a) (q1 : rg p1) (q2 : rg p2) (q3 : rg p3) (hrSkill : rSkill g a) : Met l yX13_hand (jk yX13_hand cX13_hand 4 (some .int)) ({ frames := 1, cells := 0, slots := 0, locals := 22 }) (va_Pc [.ref (ad 0), .int (iI p1), .int (iI p2), .int (iI p3)] (jw_P (dC, dI) (mG ad ca g a) (mT ca) sz)) (va_Qi (fun (r : Int32) (u : (Nat → Int) × (Nat → Int → Int)) => ∃ z : Int, r = iI z ∧ (mI u.1 u.2) ∧ (∀ j, j ∉ ([50] : List Nat) → u.1 j = g j) ∧ (∀ j, j ∉ ([37, 38, 39] : List Nat) → u.2 j = a j) ∧ (rg z) ∧ (rSkill u.1 u.2) ∧ ((z = -1 ∧ u.1 50 = g 50 ∧ ((p1 < 1 ∨ 255 < p1 ∨ p2 < 1 ∨ 20 < p2 ∨ p3 < (-40000) ∨ 0 < p3) ∨ g 50 = 12)) ∨ (z = g 50 ∧ u.1 50 = g 50 + 1 ∧ 1 ≤ p1 ∧ p1 ≤ 255 ∧ 1 ≤ p2 ∧ p2 ≤ 20 ∧ (-40000) ≤ p3 ∧ p3 ≤ 0 ∧ g 50 ≠ 12))) (fun u t => va_P (dC, dI) vwCl (mG ad ca u.1 u.2) t.heap ∧ va_K (dC, dI) vwCl (mT ca) t ∧ va_D (va_A (mG ad ca g a) sz) (mG ad ca u.1 u.2)) (va_A (mG ad ca g a) sz)) 0 0 (va_A (mG ad ca g a) sz) := by
  refine Met.ofW (cc := cX13_hand) (maxL := 4) (ret := (some .int)) (by decide) rfl ?_
  intro p e s m args below meth c s₁ B hml hv
  obtain ⟨rfl, hsz, hP, hK, hD0⟩ := hv
  have hx := B.exec
  have hb := B.bytes
  have hr := B.returns
  have hts := atoms_spec (ws := (jk yX13_hand cX13_hand 4 (some .int))) B.pre
  have hj : ∀ w ∈ jw, w.before ([.ref (ad 0), .int (iI p1), .int (iI p2), .int (iI p3)] : List Value).toArray s = true := fun w h => hts w (jm h)
  have hown : s.vm.findClass RX13 = some m.cls := findClass_of_methodNamed B.named
  subst hsz
  have hD := hD0.self (sz := s.heap.size)
  generalize hAe : (va_A (mG ad ca g a) s.heap.size) = A at hD ⊢
  have hA : ∀ q : Nat, s.heap.size ≤ q → A q := fun q h => by rw [← hAe]; exact Or.inr h
  have hS : va_S A s.heap s.heap [] := va_S.rf
  have hP : va_P (dC, dI) vwCl (mG ad ca g a) s.heap := hP
  have hfA : ∀ j, j ∉ ([50] : List Nat) → g j = g j := fun _ _ => rfl
  have haA : ∀ j, j ∉ ([37, 38, 39] : List Nat) → a j = a j := fun _ _ => rfl
  have hl := lv_entry ([.ref (ad 0), .int (iI p1), .int (iI p2), .int (iI p3)]) (n := 4) (Nat.le_of_ble_eq_true rfl)
  rw [lg_entry_eq]
  generalize (lg_sl ([.ref (ad 0), .int (iI p1), .int (iI p2), .int (iI p3)]) ++ List.replicate (4 - (lg_sl ([.ref (ad 0), .int (iI p1), .int (iI p2), .int (iI p3)])).length) Slot.unset).toArray = ls at hl ⊢
  have hl : lv_has ls 4 [(0, .ref (ad 0)), (1, .int (iI p1)), (2, .int (iI p2)), (3, .int (iI p3))] := hl
  generalize hQ : MQ below (va_Qi (fun (r : Int32) (u : (Nat → Int) × (Nat → Int → Int)) => ∃ z : Int, r = iI z ∧ (mI u.1 u.2) ∧ (∀ j, j ∉ ([50] : List Nat) → u.1 j = g j) ∧ (∀ j, j ∉ ([37, 38, 39] : List Nat) → u.2 j = a j) ∧ (rg z) ∧ (rSkill u.1 u.2) ∧ ((z = -1 ∧ u.1 50 = g 50 ∧ ((p1 < 1 ∨ 255 < p1 ∨ p2 < 1 ∨ 20 < p2 ∨ p3 < (-40000) ∨ 0 < p3) ∨ g 50 = 12)) ∨ (z = g 50 ∧ u.1 50 = g 50 + 1 ∧ 1 ≤ p1 ∧ p1 ≤ 255 ∧ 1 ≤ p2 ∧ p2 ≤ 20 ∧ (-40000) ≤ p3 ∧ p3 ≤ 0 ∧ g 50 ≠ 12))) (fun u t => va_P (dC, dI) vwCl (mG ad ca u.1 u.2) t.heap ∧ va_K (dC, dI) vwCl (mT ca) t ∧ va_D A (mG ad ca u.1 u.2)) A) ([.ref (ad 0), .int (iI p1), .int (iI p2), .int (iI p3)] : List Value).toArray s 0 0 A = Q
  suffices ST : ∀ (H : Heap) (locs : List Loc), va_P (dC, dI) vwCl (mG ad ca g a) H → va_S A s.heap H locs → W p l e ({ frames := 1, cells := 0, slots := 0, locals := 22 }) s m ([.ref (ad 0), .int (iI p1), .int (iI p2), .int (iI p3)] : List Value).toArray below meth c H locs 0 0 Q (F0 m 0 ls []) from ST _ _ hP hS
  clear hP hS
  intro H locs hP hS
  have b50_0 : 0 ≤ g 50 ∧ g 50 ≤ 12 := hI.1 50
  refine lv_iload_n hx hb dX13_hand_0 rfl (lv_at hl 1 rfl) ?_
  refine lv_iconst (v := iI 1) hx hb dX13_hand_1 rfl ?_
  refine lv_sipush (v := iI 255) hx hb dX13_hand_2 rfl ?_
  refine jc_i (va_runS (As := [.int (iI p1), .int (iI 1), .int (iI 255)]) (rest := []) ⟨hx, hb, hml, hown, hts⟩ (sX13_in l dC dI _ p1 1 255 (by omega) (by omega) (by omega)) (va_cwS 3 hts (jgoodS m_220 m_364 m_503 m_147) rfl rfl rfl (by decide +kernel) ⟨(Nat.le_of_ble_eq_true rfl), (Nat.le_of_ble_eq_true rfl)⟩) ⟨jw_blind0, fun U hU hW => ⟨rfl, congrArg Array.size hU⟩⟩ rfl rfl hl.1 rfl (lv_room (Nat.le_of_ble_eq_true rfl)) dX13_hand_5 ⟨(Nat.le_of_ble_eq_true rfl), (Nat.le_of_ble_eq_true rfl)⟩) hP hS hA (fun r_1 H locs w_2 hP hS => ?_)
  obtain ⟨z_3, rfl, h_4, h_5⟩ := w_2
  refine xr_if_eq (tgt := 41) hx hb dX13_hand_8 (by decide) (by omega) (fun h_6 => ?_) (fun h_6 => ?_)
  · refine lv_iconst (v := iI (-1)) hx hb dX13_hand_41 rfl ?_
    rw [← hQ]
    exact W.iret (v := iI (-1)) hx hb hr (fun t ht hW => ⟨⟨iI (-1), (g, a), rfl, ⟨(-1), rfl, hI, hfA, haA, by omega, by show rSkill g a; first | exact rSkill_t (by omega) rfl hrSkill | exact rSkill_new hrSkill (by omega) rfl (by omega), by show ((-1) = -1 ∧ g 50 = g 50 ∧ ((p1 < 1 ∨ 255 < p1 ∨ p2 < 1 ∨ 20 < p2 ∨ p3 < (-40000) ∨ 0 < p3) ∨ g 50 = 12)) ∨ ((-1) = g 50 ∧ g 50 = g 50 + 1 ∧ 1 ≤ p1 ∧ p1 ≤ 255 ∧ 1 ≤ p2 ∧ p2 ≤ 20 ∧ (-40000) ≤ p3 ∧ p3 ≤ 0 ∧ g 50 ≠ 12); omega⟩, by rw [ht]; exact hP, va_K.moved hW.alike hK, hD⟩, hS.F ht⟩) hS.2.2 dX13_hand_42
  · refine lv_iload_n hx hb dX13_hand_11 rfl (lv_at hl 2 rfl) ?_
    refine lv_iconst (v := iI 1) hx hb dX13_hand_12 rfl ?_
    refine lv_bipush (v := iI 20) hx hb dX13_hand_13 rfl ?_
    refine jc_i (va_runS (As := [.int (iI p2), .int (iI 1), .int (iI 20)]) (rest := []) ⟨hx, hb, hml, hown, hts⟩ (sX13_in l dC dI _ p2 1 20 (by omega) (by omega) (by omega)) (va_cwS 3 hts (jgoodS m_220 m_364 m_503 m_147) rfl rfl rfl (by decide +kernel) ⟨(Nat.le_of_ble_eq_true rfl), (Nat.le_of_ble_eq_true rfl)⟩) ⟨jw_blind0, fun U hU hW => ⟨rfl, congrArg Array.size hU⟩⟩ rfl rfl hl.1 rfl (lv_room (Nat.le_of_ble_eq_true rfl)) dX13_hand_15 ⟨(Nat.le_of_ble_eq_true rfl), (Nat.le_of_ble_eq_true rfl)⟩) hP hS hA (fun r_7 H locs w_8 hP hS => ?_)
    obtain ⟨z_9, rfl, h_10, h_11⟩ := w_8
    refine xr_if_eq (tgt := 41) hx hb dX13_hand_18 (by decide) (by omega) (fun h_12 => ?_) (fun h_12 => ?_)
    · refine lv_iconst (v := iI (-1)) hx hb dX13_hand_41 rfl ?_
      rw [← hQ]
      exact W.iret (v := iI (-1)) hx hb hr (fun t ht hW => ⟨⟨iI (-1), (g, a), rfl, ⟨(-1), rfl, hI, hfA, haA, by omega, by show rSkill g a; first | exact rSkill_t (by omega) rfl hrSkill | exact rSkill_new hrSkill (by omega) rfl (by omega), by show ((-1) = -1 ∧ g 50 = g 50 ∧ ((p1 < 1 ∨ 255 < p1 ∨ p2 < 1 ∨ 20 < p2 ∨ p3 < (-40000) ∨ 0 < p3) ∨ g 50 = 12)) ∨ ((-1) = g 50 ∧ g 50 = g 50 + 1 ∧ 1 ≤ p1 ∧ p1 ≤ 255 ∧ 1 ≤ p2 ∧ p2 ≤ 20 ∧ (-40000) ≤ p3 ∧ p3 ≤ 0 ∧ g 50 ≠ 12); omega⟩, by rw [ht]; exact hP, va_K.moved hW.alike hK, hD⟩, hS.F ht⟩) hS.2.2 dX13_hand_42
    · refine lv_iload_n hx hb dX13_hand_21 rfl (lv_at hl 3 rfl) ?_
      refine lv_ldcw hx hb hown (hts (.constant RX13 448 (-40000)) (jm m_507)) dX13_hand_22 ?_
      refine jt_i (iI (-40000)) (by decide) ?_
      refine lv_iconst (v := iI 0) hx hb dX13_hand_25 rfl ?_
      refine jc_i (va_runS (As := [.int (iI p3), .int (iI (-40000)), .int (iI 0)]) (rest := []) ⟨hx, hb, hml, hown, hts⟩ (sX13_in l dC dI _ p3 (-40000) 0 (by omega) (by omega) (by omega)) (va_cwS 3 hts (jgoodS m_220 m_364 m_503 m_147) rfl rfl rfl (by decide +kernel) ⟨(Nat.le_of_ble_eq_true rfl), (Nat.le_of_ble_eq_true rfl)⟩) ⟨jw_blind0, fun U hU hW => ⟨rfl, congrArg Array.size hU⟩⟩ rfl rfl hl.1 rfl (lv_room (Nat.le_of_ble_eq_true rfl)) dX13_hand_26 ⟨(Nat.le_of_ble_eq_true rfl), (Nat.le_of_ble_eq_true rfl)⟩) hP hS hA (fun r_13 H locs w_14 hP hS => ?_)
      obtain ⟨z_15, rfl, h_16, h_17⟩ := w_14
      refine xr_if_eq (tgt := 41) hx hb dX13_hand_29 (by decide) (by omega) (fun h_18 => ?_) (fun h_18 => ?_)
      · refine lv_iconst (v := iI (-1)) hx hb dX13_hand_41 rfl ?_
        rw [← hQ]
        exact W.iret (v := iI (-1)) hx hb hr (fun t ht hW => ⟨⟨iI (-1), (g, a), rfl, ⟨(-1), rfl, hI, hfA, haA, by omega, by show rSkill g a; first | exact rSkill_t (by omega) rfl hrSkill | exact rSkill_new hrSkill (by omega) rfl (by omega), by show ((-1) = -1 ∧ g 50 = g 50 ∧ ((p1 < 1 ∨ 255 < p1 ∨ p2 < 1 ∨ 20 < p2 ∨ p3 < (-40000) ∨ 0 < p3) ∨ g 50 = 12)) ∨ ((-1) = g 50 ∧ g 50 = g 50 + 1 ∧ 1 ≤ p1 ∧ p1 ≤ 255 ∧ 1 ≤ p2 ∧ p2 ≤ 20 ∧ (-40000) ≤ p3 ∧ p3 ≤ 0 ∧ g 50 ≠ 12); omega⟩, by rw [ht]; exact hP, va_K.moved hW.alike hK, hD⟩, hS.F ht⟩) hS.2.2 dX13_hand_42
      · refine lv_aload_n hx hb dX13_hand_32 rfl (lv_at hl 0 rfl) ?_
        refine gf_hands hx hb hj hown hK hP hI dX13_hand_33 (fun h_19 => ?_)
        refine lv_bipush (v := iI 12) hx hb dX13_hand_36 rfl ?_
        refine xr_icmp_ne (tgt := 43) hx hb dX13_hand_38 (by decide) (by omega) (by omega) (fun h_20 => ?_) (fun h_20 => ?_)
        · refine lv_aload_n hx hb dX13_hand_43 rfl (lv_at hl 0 rfl) ?_
          refine gf_fields hx hb hj hown hK hP dX13_hand_44 ?_
          refine lv_aload_n hx hb dX13_hand_47 rfl (lv_at hl 0 rfl) ?_
          refine gf_hands hx hb hj hown hK hP hI dX13_hand_48 (fun h_21 => ?_)
          refine lv_iload_n hx hb dX13_hand_51 rfl (lv_at hl 1 rfl) ?_
          refine sa_fields hx hb hK hP hD hS hI (by omega) (by omega) dX13_hand_52 (fun a_22 z_25 H locs h_26 h_27 e_23 e_24 hI hP hD hS => ?_)
          have haA : ∀ j, j ∉ ([37, 38, 39] : List Nat) → a_22 j = a j := fun j h => (e_23 j (fun q => h (q ▸ (by decide : 37 ∈ ([37, 38, 39] : List Nat))))).trans (haA j h)
          have t_28 : a_22 38 = a 38 := (e_23 38 (by decide)).trans rfl
          refine lv_aload_n hx hb dX13_hand_53 rfl (lv_at hl 0 rfl) ?_
          refine gf_skill hx hb hj hown hK hP dX13_hand_54 ?_
          refine lv_aload_n hx hb dX13_hand_57 rfl (lv_at hl 0 rfl) ?_
          refine gf_hands hx hb hj hown hK hP hI dX13_hand_58 (fun h_29 => ?_)
          refine lv_iload_n hx hb dX13_hand_61 rfl (lv_at hl 2 rfl) ?_
          refine st_skill hx hb hK hP hD hS hI (by omega) (by omega) (by omega) (by omega) dX13_hand_62 (fun a_30 H locs e_31 e_32 hI hP hD hS => ?_)
          have haA : ∀ j, j ∉ ([37, 38, 39] : List Nat) → a_30 j = a j := fun j h => (e_31 j (fun q => h (q ▸ (by decide : 38 ∈ ([37, 38, 39] : List Nat))))).trans (haA j h)
          have t_33 : a_30 38 = up (a 38) (g 50) p2 := e_32.trans (up_c t_28 (by omega) (by omega))
          refine lv_aload_n hx hb dX13_hand_63 rfl (lv_at hl 0 rfl) ?_
          refine gf_born hx hb hj hown hK hP dX13_hand_64 ?_
          refine lv_aload_n hx hb dX13_hand_67 rfl (lv_at hl 0 rfl) ?_
          refine gf_hands hx hb hj hown hK hP hI dX13_hand_68 (fun h_34 => ?_)
          refine lv_iload_n hx hb dX13_hand_71 rfl (lv_at hl 3 rfl) ?_
          refine st_born hx hb hK hP hD hS hI (by omega) (by omega) (by omega) (by omega) dX13_hand_72 (fun a_35 H locs e_36 e_37 hI hP hD hS => ?_)
          have haA : ∀ j, j ∉ ([37, 38, 39] : List Nat) → a_35 j = a j := fun j h => (e_36 j (fun q => h (q ▸ (by decide : 39 ∈ ([37, 38, 39] : List Nat))))).trans (haA j h)
          have t_38 : a_35 38 = up (a 38) (g 50) p2 := (e_36 38 (by decide)).trans t_33
          refine lv_aload_n hx hb dX13_hand_73 rfl (lv_at hl 0 rfl) ?_
          refine lv_dup hx hb dX13_hand_74 rfl ?_
          refine gf_hands hx hb hj hown hK hP hI dX13_hand_75 (fun h_39 => ?_)
          refine lv_iconst (v := iI 1) hx hb dX13_hand_78 rfl ?_
          refine xr_add hx hb dX13_hand_79 ?_
          refine pf_hands hx hb hj hown hK hP hD hS hI (by omega) (by omega) dX13_hand_80 (fun g_40 H locs e_41 e_42 hI hP hD hS => ?_)
          have hfA : ∀ j, j ∉ ([50] : List Nat) → g_40 j = g j := fun j h => (e_41 j (fun q => h (q ▸ (by decide : 50 ∈ ([50] : List Nat))))).trans (hfA j h)
          refine lv_aload_n hx hb dX13_hand_83 rfl (lv_at hl 0 rfl) ?_
          refine gf_hands hx hb hj hown hK hP hI dX13_hand_84 (fun h_43 => ?_)
          refine lv_iconst (v := iI 1) hx hb dX13_hand_87 rfl ?_
          refine xr_sub hx hb dX13_hand_88 ?_
          rw [← hQ]
          exact W.iret (v := iI ((g_40 50) - 1)) hx hb hr (fun t ht hW => ⟨⟨iI ((g_40 50) - 1), (g_40, a_35), rfl, ⟨(g_40 50) - 1, rfl, hI, hfA, haA, by omega, by show rSkill g_40 a_35; first | exact rSkill_t (by omega) t_38 hrSkill | exact rSkill_new hrSkill (by omega) t_38 (by omega), by show (((g_40 50) - 1) = -1 ∧ g_40 50 = g 50 ∧ ((p1 < 1 ∨ 255 < p1 ∨ p2 < 1 ∨ 20 < p2 ∨ p3 < (-40000) ∨ 0 < p3) ∨ g 50 = 12)) ∨ (((g_40 50) - 1) = g 50 ∧ g_40 50 = g 50 + 1 ∧ 1 ≤ p1 ∧ p1 ≤ 255 ∧ 1 ≤ p2 ∧ p2 ≤ 20 ∧ (-40000) ≤ p3 ∧ p3 ≤ 0 ∧ g 50 ≠ 12); omega⟩, by rw [ht]; exact hP, va_K.moved hW.alike hK, hD⟩, hS.F ht⟩) hS.2.2 dX13_hand_89
        · refine lv_iconst (v := iI (-1)) hx hb dX13_hand_41 rfl ?_
          rw [← hQ]
          exact W.iret (v := iI (-1)) hx hb hr (fun t ht hW => ⟨⟨iI (-1), (g, a), rfl, ⟨(-1), rfl, hI, hfA, haA, by omega, by show rSkill g a; first | exact rSkill_t (by omega) rfl hrSkill | exact rSkill_new hrSkill (by omega) rfl (by omega), by show ((-1) = -1 ∧ g 50 = g 50 ∧ ((p1 < 1 ∨ 255 < p1 ∨ p2 < 1 ∨ 20 < p2 ∨ p3 < (-40000) ∨ 0 < p3) ∨ g 50 = 12)) ∨ ((-1) = g 50 ∧ g 50 = g 50 + 1 ∧ 1 ≤ p1 ∧ p1 ≤ 255 ∧ 1 ≤ p2 ∧ p2 ≤ 20 ∧ (-40000) ≤ p3 ∧ p3 ≤ 0 ∧ g 50 ≠ 12); omega⟩, by rw [ht]; exact hP, va_K.moved hW.alike hK, hD⟩, hS.F ht⟩) hS.2.2 dX13_hand_42
