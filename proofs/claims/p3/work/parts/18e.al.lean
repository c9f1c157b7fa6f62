/-! ===== new cells: a heap that has grown ===== -/
def xE (L : List Nat) (K : Int → Nat) (N : Int → Int) (L' : List Nat) (K' : Int → Nat) (N' : Int → Int) : Prop := (∀ n ∈ L, n ∈ L') ∧ ∀ z k, ok L K z k → K' z = k ∧ N' z = N z
theorem xE_ok {L L' : List Nat} {K K' : Int → Nat} {N N' : Int → Int} {z : Int} {k : Nat} (h : xE L K N L' K' N') (q : ok L K z k) : ok L' K' z k := ⟨q.1, h.1 _ q.2.1, (h.2 z k q).1⟩
theorem xE_nl {L L' : List Nat} {K K' : Int → Nat} {N N' : Int → Int} {z : Int} {k : Nat} (h : xE L K N L' K' N') (q : z < 0 ∨ ok L K z k) : z < 0 ∨ ok L' K' z k := q.imp id (xE_ok h)
theorem xE_rf {L : List Nat} {K : Int → Nat} {N : Int → Int} : xE L K N L K N := ⟨fun _ h => h, fun _ _ h => ⟨h.2.2, rfl⟩⟩
theorem xE_tr {L L1 L2 : List Nat} {K K1 K2 : Int → Nat} {N N1 N2 : Int → Int} (h : xE L K N L1 K1 N1) (h2 : xE L1 K1 N1 L2 K2 N2) : xE L K N L2 K2 N2 :=
  ⟨fun n q => h2.1 n (h.1 n q), fun z k q => ⟨(h2.2 z k (xE_ok h q)).1, ((h2.2 z k (xE_ok h q)).2).trans (h.2 z k q).2⟩⟩
/-- of the cells that there were, nothing but W is written -/
def frE (L : List Nat) (K : Int → Nat) (W : List (Nat × Int)) (v1 v : Int → Int → Int) : Prop := ∀ z k, ok L K z k → ∀ j, inW W k j = false → v1 z j = v z j
theorem frE_rf {L : List Nat} {K : Int → Nat} {W : List (Nat × Int)} {v : Int → Int → Int} : frE L K W v v := fun _ _ _ _ _ => rfl
theorem frE_fr {L L1 : List Nat} {K K1 : Int → Nat} {N N1 : Int → Int} {W W1 : List (Nat × Int)} {v2 v1 v : Int → Int → Int} (e : xE L K N L1 K1 N1) (h1 : fr K1 W1 v2 v1) (hs : subW W1 W = true) (h0 : frE L K W v1 v) : frE L K W v2 v := fun z k q j hj =>
  (h1 z j (by rw [(e.2 z k q).1]; exact subW_in hs hj)).trans (h0 z k q j hj)
theorem frE_frE {L L1 : List Nat} {K K1 : Int → Nat} {N N1 : Int → Int} {W W1 : List (Nat × Int)} {v2 v1 v : Int → Int → Int} (e : xE L K N L1 K1 N1) (h1 : frE L1 K1 W1 v2 v1) (hs : subW W1 W = true) (h0 : frE L K W v1 v) : frE L K W v2 v := fun z k q j hj =>
  (h1 z k (xE_ok e q) j (subW_in hs hj)).trans (h0 z k q j hj)
theorem frE_use {L : List Nat} {K : Int → Nat} {W : List (Nat × Int)} {v1 v : Int → Int → Int} {z j : Int} {k : Nat} (hk : ok L K z k) (f : frE L K W v1 v) (h : inW W k j = false) : v1 z j = v z j := f z k hk j h
def kU (K : Int → Nat) (q : Int) (k : Nat) : Int → Nat := fun z => if z = q then k else K z
def nU (N : Int → Int) (q n : Int) : Int → Int := fun z => if z = q then n else N z
theorem kU_self (K : Int → Nat) (q : Int) (k : Nat) : kU K q k q = k := if_pos rfl
theorem kU_ne (K : Int → Nat) {q z : Int} (k : Nat) (h : z ≠ q) : kU K q k z = K z := if_neg h
theorem nU_self (N : Int → Int) (q n : Int) : nU N q n q = n := if_pos rfl
theorem nU_ne (N : Int → Int) {q z : Int} (n : Int) (h : z ≠ q) : nU N q n z = N z := if_neg h
section XA
variable {D : va_G} {L L' : List Nat} {cid : Nat → ClassId} {K K' : Int → Nat} {N : Int → Int} {v : Int → Int → Int} {A : Nat → Prop} {H : Heap} {q : Nat} {k : Nat} {n : Int} {f : Int → Int}
theorem xg_push (hq : q ∉ L) : xG L cid K N v ++ [(q, xk cid k n f)] = xG (L ++ [q]) cid (kU K q k) (nU N q n) (vs v q f) := by
  unfold xG
  rw [va_pl_push hq]
  refine va_pl_congr (fun a => ?_)
  by_cases h : a = q
  · subst h
    rw [va_up_self]; unfold xC; rw [kU_self, nU_self, vs_self]
  · rw [va_up_ne _ _ h]
    show xC cid K N v (a : Int) = xC cid (kU K q k) (nU N q n) (vs v q f) (a : Int)
    unfold xC
    rw [kU_ne _ _ (by omega), nU_ne _ _ (by omega), vs_ne _ _ (by omega)]
theorem ok_old {z : Int} {k2 : Nat} (h : ok L K z k2) (hq : q ∉ L) : z ≠ (q : Int) := by
  rintro rfl
  exact hq (by simpa using h.2.1)
theorem xE_push (hq : q ∉ L) : xE L K N (L ++ [q]) (kU K q k) (nU N q n) :=
  ⟨fun _ h => List.mem_append_left _ h, fun z k2 h => ⟨by rw [kU_ne _ _ (ok_old h hq)]; exact h.2.2, nU_ne _ _ (ok_old h hq)⟩⟩
theorem ok_push : ok (L ++ [q]) (kU K q k) (q : Int) k := ⟨by omega, by simp, kU_self _ _ _⟩
theorem frE_push {W : List (Nat × Int)} (hq : q ∉ L) : frE L K W (vs v q f) v := fun z k2 h j _ => by rw [vs_ne _ _ (ok_old h hq)]
theorem xF0_mono (h : ∀ a b, b ≠ 13 → ok L K a b → ok L' K' a b) {j : Nat} {y : Int} : xF0 L K j y → xF0 L' K' j y := by
  unfold xF0
  split <;> first | exact id | exact h _ _ (by decide)
theorem xF1_mono (h : ∀ a b, b ≠ 13 → ok L K a b → ok L' K' a b) {j : Nat} {y : Int} : xF1 L K j y → xF1 L' K' j y := by
  unfold xF1
  split <;> first | exact id | exact h _ _ (by decide)
theorem xF2_mono (h : ∀ a b, b ≠ 13 → ok L K a b → ok L' K' a b) {j : Nat} {y : Int} : xF2 L K j y → xF2 L' K' j y := by
  unfold xF2
  split <;> first | exact id | exact h _ _ (by decide)
theorem xF3_mono (h : ∀ a b, b ≠ 13 → ok L K a b → ok L' K' a b) {j : Nat} {y : Int} : xF3 L K j y → xF3 L' K' j y := by
  unfold xF3
  split <;> first | exact id | exact h _ _ (by decide)
theorem xF4_mono (h : ∀ a b, b ≠ 13 → ok L K a b → ok L' K' a b) {j : Nat} {y : Int} : xF4 L K j y → xF4 L' K' j y := by
  unfold xF4
  split <;> first | exact id | exact h _ _ (by decide)
theorem xF5_mono (h : ∀ a b, b ≠ 13 → ok L K a b → ok L' K' a b) {j : Nat} {y : Int} : xF5 L K j y → xF5 L' K' j y := by
  unfold xF5
  split <;> first | exact id | exact h _ _ (by decide)
theorem xF6_mono (h : ∀ a b, b ≠ 13 → ok L K a b → ok L' K' a b) {j : Nat} {y : Int} : xF6 L K j y → xF6 L' K' j y := by
  unfold xF6
  split <;> first | exact id | exact h _ _ (by decide)
theorem xF7_mono (h : ∀ a b, b ≠ 13 → ok L K a b → ok L' K' a b) {j : Nat} {y : Int} : xF7 L K j y → xF7 L' K' j y := by
  unfold xF7
  split <;> first | exact id | exact h _ _ (by decide)
theorem xF8_mono (h : ∀ a b, b ≠ 13 → ok L K a b → ok L' K' a b) {j : Nat} {y : Int} : xF8 L K j y → xF8 L' K' j y := by
  unfold xF8
  split <;> first | exact id | exact h _ _ (by decide)
theorem xF9_mono (h : ∀ a b, b ≠ 13 → ok L K a b → ok L' K' a b) {j : Nat} {y : Int} : xF9 L K j y → xF9 L' K' j y := by
  unfold xF9
  split <;> first | exact id | exact h _ _ (by decide)
theorem xF10_mono (h : ∀ a b, b ≠ 13 → ok L K a b → ok L' K' a b) {j : Nat} {y : Int} : xF10 L K j y → xF10 L' K' j y := by
  unfold xF10
  split <;> first | exact id | exact h _ _ (by decide)
theorem xF11_mono (h : ∀ a b, b ≠ 13 → ok L K a b → ok L' K' a b) {j : Nat} {y : Int} : xF11 L K j y → xF11 L' K' j y := by
  unfold xF11
  split <;> first | exact id | exact h _ _ (by decide)
theorem xF12_mono (h : ∀ a b, b ≠ 13 → ok L K a b → ok L' K' a b) {j : Nat} {y : Int} : xF12 L K j y → xF12 L' K' j y := by
  unfold xF12
  split <;> first | exact id | exact h _ _ (by decide)
theorem xF_mono (h : ∀ a b, b ≠ 13 → ok L K a b → ok L' K' a b) {k : Nat} {j y : Int} : xF L K k j y → xF L' K' k j y := by
  unfold xF
  split <;> first | exact id | exact Or.imp id (h _ _ (by decide)) | exact xF0_mono h | exact xF1_mono h | exact xF2_mono h | exact xF3_mono h | exact xF4_mono h | exact xF5_mono h | exact xF6_mono h | exact xF7_mono h | exact xF8_mono h | exact xF9_mono h | exact xF10_mono h | exact xF11_mono h | exact xF12_mono h
theorem xI_push (h : xI L K N v) (hq : q ∉ L) (hn : xN k n) (hf : ∀ j, 0 ≤ j → xF (L ++ [q]) (kU K q k) k j (f j)) : xI (L ++ [q]) (kU K q k) (nU N q n) (vs v q f) := by
  intro z k2 hz
  by_cases e : z = (q : Int)
  · subst e
    have ek : k2 = k := hz.2.2.symm.trans (kU_self _ _ _)
    subst ek
    rw [nU_self, vs_self]
    exact ⟨hn, hf⟩
  · have hz' : ok L K z k2 := by
      refine ⟨hz.1, ?_, ?_⟩
      · rcases List.mem_append.mp hz.2.1 with a | a
        · exact a
        · have := List.mem_singleton.mp a
          have := hz.1
          omega
      · have := hz.2.2
        rwa [kU_ne _ _ e] at this
    rw [nU_ne _ _ e, vs_ne _ _ e]
    exact ⟨(h z k2 hz').1, fun j hj => xF_mono (fun a b _ c => xE_ok (N := N) (N' := nU N q n) (xE_push hq) c) ((h z k2 hz').2 j hj)⟩
theorem xg_fresh {e : va_E} (hD : va_D A (xG L cid K N v ++ [(q, e)])) : q ∉ L := va_pl_fresh2 (X := []) hD
/-- a cell just made becomes one of the heap's -/
theorem xfold (hI : xI L K N v) (hP : va_P D vwCl (xG L cid K N v ++ [(q, xk cid k n f)]) H) (hD : va_D A (xG L cid K N v ++ [(q, xk cid k n f)])) (hn : xN k n) (hf : ∀ (L' : List Nat) (K' : Int → Nat), (∀ a b, ok L K a b → ok L' K' a b) → ∀ j, 0 ≤ j → xF L' K' k j (f j)) : ∃ (L' : List Nat) (K' : Int → Nat) (N' : Int → Int) (v' : Int → Int → Int), xE L K N L' K' N' ∧ ok L' K' (q : Int) k ∧ N' (q : Int) = n ∧ v' (q : Int) = f ∧ (∀ W, frE L K W v' v) ∧ xI L' K' N' v' ∧ va_P D vwCl (xG L' cid K' N' v') H ∧ va_D A (xG L' cid K' N' v') := by
  have hq := xg_fresh hD
  rw [xg_push hq] at hP hD
  exact ⟨_, _, _, _, xE_push hq, ok_push, nU_self _ _ _, vs_self _ _ _, fun W => frE_push hq, xI_push hI hq hn (hf _ _ (fun a b c => xE_ok (N := N) (N' := nU N q n) (xE_push hq) c)), hP, hD⟩
def fl_ (l : List Int) : Int → Int := fun j => l.getD j.toNat 0
/-- a raw SHEET whose rows are there is one -/
theorem xretype {L0 : List Nat} {K0 : Int → Nat} {N0 : Int → Int} {z : Int} (hE : xE L0 K0 N0 L K N) (hz : z.toNat ∉ L0) (hI : xI L K N v) (hk : ok L K z 13) (hf : ok L K (v z 0) 66 ∧ ok L K (v z 1) 67 ∧ ok L K (v z 2) 68 ∧ ok L K (v z 3) 69) (hP : va_P D vwCl (xG L cid K N v) H) (hD : va_D A (xG L cid K N v)) : ∃ K' : Int → Nat, xE L0 K0 N0 L K' N ∧ ok L K' z 9 ∧ (∀ a b, b ≠ 13 → ok L K a b → ok L K' a b) ∧ xI L K' N v ∧ va_P D vwCl (xG L cid K' N v) H ∧ va_D A (xG L cid K' N v) := by
  have hx : ∀ a b, b ≠ 13 → ok L K a b → ok L (kU K z 9) a b := fun a b hb h => by
    refine ⟨h.1, h.2.1, ?_⟩
    rw [kU_ne _ _ (by rintro rfl; exact hb (h.2.2.symm.trans hk.2.2))]
    exact h.2.2
  have hw : xG L cid K N v = xG L cid (kU K z 9) N v := by
    unfold xG
    refine va_pl_congr (fun a => ?_)
    show xC cid K N v (a : Int) = xC cid (kU K z 9) N v (a : Int)
    unfold xC
    by_cases e : (a : Int) = z
    · rw [e, kU_self, hk.2.2]; rfl
    · rw [kU_ne _ _ e]
  refine ⟨kU K z 9, ⟨hE.1, fun a k h => ⟨?_, (hE.2 a k h).2⟩⟩, ⟨hk.1, hk.2.1, kU_self _ _ _⟩, hx, ?_, by rw [← hw]; exact hP, by rw [← hw]; exact hD⟩
  · rw [kU_ne _ _ (by rintro rfl; exact hz h.2.1)]; exact (hE.2 a k h).1
  · intro a k ha
    by_cases e : a = z
    · subst e
      have ek : k = 9 := ha.2.2.symm.trans (kU_self _ _ _)
      subst ek
      refine ⟨trivial, fun j hj => ?_⟩
      show xF9 L _ j.toNat _
      unfold xF9
      split
      · rename_i q; rw [show j = 0 by omega]; exact hx _ _ (by decide) hf.1
      · rename_i q; rw [show j = 1 by omega]; exact hx _ _ (by decide) hf.2.1
      · rename_i q; rw [show j = 2 by omega]; exact hx _ _ (by decide) hf.2.2.1
      · rename_i q; rw [show j = 3 by omega]; exact hx _ _ (by decide) hf.2.2.2
      · trivial
    · have ha' : ok L K a k := ⟨ha.1, ha.2.1, by have := ha.2.2; rwa [kU_ne _ _ e] at this⟩
      exact ⟨(hI a k ha').1, fun j hj => xF_mono hx ((hI a k ha').2 j hj)⟩
theorem cidE {s : State} {c : ClassId} {i : Nat} {t : FieldType} (h1 : va_K D vwCl [(c, t)] s) (h2 : va_K D vwCl (xT cid) s) (hi : (xT cid)[i]? = some (cid i, t)) (hp : ∀ x, va_RA s x t → s.vm.findClass ("[" ++ t.toString) = some x) : c = cid i := by
  have a := hp _ (h1.2 0 _ rfl).2
  have b := hp _ (h2.2 i _ hi).2
  rw [a] at b
  exact Option.some.inj b
theorem va_sw {X : va_W} {a b : Nat × va_E} (hP : va_P D vwCl (X ++ [a, b]) H) (hD : va_D A (X ++ [a, b])) : va_P D vwCl ((X ++ [b]) ++ [a]) H ∧ va_D A ((X ++ [b]) ++ [a]) := by
  have e : X ++ [a, b] = (X ++ [a]) ++ [b] := by simp
  rw [e] at hP hD
  exact ⟨hP.swap, hD.swap⟩
end XA

section XN
variable {D : va_G} {L L' : List Nat} {cid : Nat → ClassId} {K K' : Int → Nat} {N : Int → Int} {v : Int → Int → Int} {A : Nat → Prop} {H : Heap} {q r : Nat}
theorem iI_one : iI 1 = 1 := by decide
theorem iI_zer : iI 0 = 0 := by decide
theorem iI_m1 : iI (-1) = -1 := by decide
theorem lL_zer : lL 0 = 0 := by decide
theorem xn_nI {z : Int} (h : 1 ≤ z) (h2 : z ≤ 12) : iI z = nI z.toNat ∧ (1 : Int32) ≤ nI z.toNat := by
  rcases (show z = 1 ∨ z = 2 ∨ z = 3 ∨ z = 4 ∨ z = 5 ∨ z = 6 ∨ z = 7 ∨ z = 8 ∨ z = 9 ∨ z = 10 ∨ z = 11 ∨ z = 12 by omega) with rfl | rfl | rfl | rfl | rfl | rfl | rfl | rfl | rfl | rfl | rfl | rfl <;> decide
theorem xn_nn {z : Int} (h : 0 ≤ z) (h2 : z ≤ 2147483647) : ¬ iI z < 0 := fun q => by rw [iI_0, iI_lt ⟨by omega, h2⟩ rg_0] at q; omega
theorem ar_zer : ar (fun _ => 0) = fun _ => 0 := funext fun _ => iI_zer
theorem al_zer : al (fun _ => 0) = fun _ => 0 := funext fun _ => lL_zer
theorem jfits_lon (cA : ClassId) (n : Nat) (f : Nat → Int64) : ∀ (i : Nat) (v : Value), (vp_cell cA (n, .inr (.inl f))).slots[i]? = some v → fits .long v = true := by
  intro i v h
  have h2 := Array.getElem?_eq_some_iff.mp h
  obtain ⟨h3, h4⟩ := h2
  simp [vp_cell, arrV] at h4
  rw [← h4]; rfl
theorem xg_arr {z : Int} {k : Nat} {e : va_E} (hk : ok L K z k) (he : xk cid k (N z) (v z) = e) : ∃ q0 : Nat, (xG L cid K N v)[q0]? = some (z.toNat, e) := by
  obtain ⟨q0, h⟩ := xg_at (cid := cid) (N := N) (v := v) hk
  exact ⟨q0, by rw [h, he]⟩
/-- what a heap with a new cell is -/
def xNew (L : List Nat) (K : Int → Nat) (N : Int → Int) (v : Int → Int → Int) (D : va_G) (cid : Nat → ClassId) (A : Nat → Prop) (H : Heap) (q k : Nat) (n : Int) (f : Int → Int) : Prop :=
  ∃ (z : Int) (L' : List Nat) (K' : Int → Nat) (N' : Int → Int) (v' : Int → Int → Int), z.toNat = q ∧ xE L K N L' K' N' ∧ ok L' K' z k ∧ z.toNat ∉ L ∧ N' z = n ∧ v' z = f ∧ (∀ W, frE L K W v' v) ∧ xI L' K' N' v' ∧ va_P D vwCl (xG L' cid K' N' v') H ∧ va_D A (xG L' cid K' N' v')
theorem xnew {k : Nat} {n : Int} {f : Int → Int} {e : va_E} (he : e = xk cid k n f) (hI : xI L K N v) (hP : va_P D vwCl (xG L cid K N v ++ [(q, e)]) H) (hD : va_D A (xG L cid K N v ++ [(q, e)])) (hn : xN k n) (hf : ∀ (L' : List Nat) (K' : Int → Nat), (∀ a b, ok L K a b → ok L' K' a b) → ∀ j, 0 ≤ j → xF L' K' k j (f j)) : xNew L K N v D cid A H q k n f := by
  subst he
  have hq := xg_fresh hD
  obtain ⟨L', K', N', v', a1, a2, a3, a4, a5, a6, a7, a8⟩ := xfold hI hP hD hn hf
  exact ⟨q, L', K', N', v', rfl, a1, a2, hq, a3, a4, a5, a6, a7, a8⟩
theorem xnew_2 {a b c : Int} (hI : xI L K N v) (hP : va_P D vwCl (xG L cid K N v ++ [(q, .inr (2, [.int (iI a), .int (iI b), .int (iI c), .int 1, .int 0, .int 0]))]) H) (hD : va_D A (xG L cid K N v ++ [(q, .inr (2, [.int (iI a), .int (iI b), .int (iI c), .int 1, .int 0, .int 0]))])) (ha : (-2147483648) ≤ a ∧ a ≤ 2147483647) (hb : (-2147483648) ≤ b ∧ b ≤ 2147483647) (hc : (-2147483648) ≤ c ∧ c ≤ 2147483647) : xNew L K N v D cid A H q 2 0 (fl_ [a, b, c, 1, 0, 0]) := by
  refine xnew (e := .inr (2, [.int (iI a), .int (iI b), .int (iI c), .int 1, .int 0, .int 0])) ?_ hI hP hD trivial (fun L' K' _ j hj => ?_)
  · show _ = (.inr (2, [.int (iI a), .int (iI b), .int (iI c), .int (iI 1), .int (iI 0), .int (iI 0)]) : va_E)
    rw [iI_one, iI_zer]
  · show xF2 L' K' j.toNat (([a, b, c, 1, 0, 0] : List Int).getD j.toNat 0)
    generalize j.toNat = n
    match n with
    | 0 => exact ha
    | 1 => exact hb
    | 2 => exact hc
    | 3 => exact (show 0 ≤ 1 ∧ 1 ≤ 1 by decide)
    | 4 => exact (show (-2147483648) ≤ 0 ∧ 0 ≤ 2147483647 by decide)
    | 5 => exact (show (-2147483648) ≤ 0 ∧ 0 ≤ 2147483647 by decide)
    | n + 6 => trivial
theorem xnew_4 {a b c : Int} (hI : xI L K N v) (hP : va_P D vwCl (xG L cid K N v ++ [(q, .inr (4, [.int (iI a), .int (iI b), .int (iI c), .int (-1), .int (-1), .int (-1), .int (-1), .int (-1), .int 0]))]) H) (hD : va_D A (xG L cid K N v ++ [(q, .inr (4, [.int (iI a), .int (iI b), .int (iI c), .int (-1), .int (-1), .int (-1), .int (-1), .int (-1), .int 0]))])) (ha : (-2147483648) ≤ a ∧ a ≤ 2147483647) (hb : (-2147483648) ≤ b ∧ b ≤ 2147483647) (hc : (-2147483648) ≤ c ∧ c ≤ 2147483647) : xNew L K N v D cid A H q 4 0 (fl_ [a, b, c, (-1), (-1), (-1), (-1), (-1), 0]) := by
  refine xnew (e := .inr (4, [.int (iI a), .int (iI b), .int (iI c), .int (-1), .int (-1), .int (-1), .int (-1), .int (-1), .int 0])) ?_ hI hP hD trivial (fun L' K' _ j hj => ?_)
  · show _ = (.inr (4, [.int (iI a), .int (iI b), .int (iI c), .int (iI (-1)), .int (iI (-1)), .int (iI (-1)), .int (iI (-1)), .int (iI (-1)), .int (iI 0)]) : va_E)
    rw [iI_m1, iI_zer]
  · show xF4 L' K' j.toNat (([a, b, c, (-1), (-1), (-1), (-1), (-1), 0] : List Int).getD j.toNat 0)
    generalize j.toNat = n
    match n with
    | 0 => exact ha
    | 1 => exact hb
    | 2 => exact hc
    | 3 => exact (show (-2147483648) ≤ (-1) ∧ (-1) ≤ 2147483647 by decide)
    | 4 => exact (show (-2147483648) ≤ (-1) ∧ (-1) ≤ 2147483647 by decide)
    | 5 => exact (show (-2147483648) ≤ (-1) ∧ (-1) ≤ 2147483647 by decide)
    | 6 => exact (show (-2147483648) ≤ (-1) ∧ (-1) ≤ 2147483647 by decide)
    | 7 => exact (show (-2147483648) ≤ (-1) ∧ (-1) ≤ 2147483647 by decide)
    | 8 => exact (show (-2147483648) ≤ 0 ∧ 0 ≤ 2147483647 by decide)
    | n + 9 => trivial
theorem xnew_13 (hI : xI L K N v) (hP : va_P D vwCl (xG L cid K N v ++ [(q, .inr (9, [.null, .null, .null, .null]))]) H) (hD : va_D A (xG L cid K N v ++ [(q, .inr (9, [.null, .null, .null, .null]))])) : xNew L K N v D cid A H q 13 0 (fl_ [-1, -1, -1, -1]) :=
  xnew rfl hI hP hD trivial (fun _ _ _ _ _ => trivial)
theorem xnew_0 {a b : Int} {cA : ClassId} {n : Nat} (hI : xI L K N v) (hP : va_P D vwCl (xG L cid K N v ++ [(q, .inr (0, [.int (iI a), .int (iI b), .ref r, .long 0, .int 0, .int 0, .int 0, .int 0, .int 0, .int 0, .int (-1), .int 0, .int (-1), .int (-1), .int (-1), .int 0, .long 0, .int 0])), (r, .inl (cA, n, .inl (fun _ => 0)))]) H) (hD : va_D A (xG L cid K N v ++ [(q, .inr (0, [.int (iI a), .int (iI b), .ref r, .long 0, .int 0, .int 0, .int 0, .int 0, .int 0, .int 0, .int (-1), .int 0, .int (-1), .int (-1), .int (-1), .int 0, .long 0, .int 0])), (r, .inl (cA, n, .inl (fun _ => 0)))])) (hc : cA = cid 1) (hn : n ≤ 12) (ha : (-2147483648) ≤ a ∧ a ≤ 2147483647) (hb : (-2147483648) ≤ b ∧ b ≤ 2147483647) : ∃ f, xNew L K N v D cid A H q 0 0 f := by
  subst hc
  obtain ⟨hP, hD⟩ := va_sw hP hD
  have hr := xg_fresh (jd_init hD)
  have e1 : (.inl (cid 1, n, .inl (fun _ => 0)) : va_E) = xk cid 65 (n : Int) (fun _ => 0) := by
    show _ = (.inl (cid 1, Int.toNat (n : Int), .inl (ar (fun _ => 0))) : va_E)
    rw [ar_zer, Int.toNat_natCast]
  rw [e1, xg_push hr] at hP hD
  have hx := xE_push (N := N) (k := 65) (n := (n : Int)) (K := K) hr
  have hI1 := xI_push (f := fun _ => 0) hI hr (show xN 65 (n : Int) from ⟨by omega, by omega⟩) (fun j _ => (show (-128 : Int) ≤ 0 ∧ (0 : Int) ≤ 127 by decide))
  have hk := ok_push (L := L) (K := K) (q := r) (k := 65)
  obtain ⟨z, L', K', N', v', b0, b1, b2, b3, b4, b5, b6, b7, b8, b9⟩ := xnew (k := 0) (n := 0) (f := fl_ [a, b, (r : Int), 0, 0, 0, 0, 0, 0, 0, (-1), 0, (-1), (-1), (-1), 0, 0, 0]) (e := .inr (0, [.int (iI a), .int (iI b), .ref r, .long 0, .int 0, .int 0, .int 0, .int 0, .int 0, .int 0, .int (-1), .int 0, .int (-1), .int (-1), .int (-1), .int 0, .long 0, .int 0])) (by
    show _ = (.inr (0, [.int (iI a), .int (iI b), rv (r : Int), .long (lL 0), .int (iI 0), .int (iI 0), .int (iI 0), .int (iI 0), .int (iI 0), .int (iI 0), .int (iI (-1)), .int (iI 0), .int (iI (-1)), .int (iI (-1)), .int (iI (-1)), .int (iI 0), .long (lL 0), .int (iI 0)]) : va_E)
    rw [iI_m1, iI_zer, lL_zer, rv_ref (by omega), Int.toNat_natCast]) hI1 hP hD trivial (fun L' K' hm j hj => by
    have hr9 := hm _ _ hk
    show xF0 L' K' j.toNat (([a, b, (r : Int), 0, 0, 0, 0, 0, 0, 0, (-1), 0, (-1), (-1), (-1), 0, 0, 0] : List Int).getD j.toNat 0)
    generalize j.toNat = n
    match n with
    | 0 => exact ha
    | 1 => exact hb
    | 2 => exact hr9
    | 3 => exact trivial
    | 4 => exact (show (-2147483648) ≤ 0 ∧ 0 ≤ 2147483647 by decide)
    | 5 => exact (show (-2147483648) ≤ 0 ∧ 0 ≤ 2147483647 by decide)
    | 6 => exact (show (-2147483648) ≤ 0 ∧ 0 ≤ 2147483647 by decide)
    | 7 => exact (show (-2147483648) ≤ 0 ∧ 0 ≤ 2147483647 by decide)
    | 8 => exact (show (-2147483648) ≤ 0 ∧ 0 ≤ 2147483647 by decide)
    | 9 => exact (show 0 ≤ 0 ∧ 0 ≤ 200 by decide)
    | 10 => exact (show (-2147483648) ≤ (-1) ∧ (-1) ≤ 2147483647 by decide)
    | 11 => exact (show (-2147483648) ≤ 0 ∧ 0 ≤ 2147483647 by decide)
    | 12 => exact (show (-2147483648) ≤ (-1) ∧ (-1) ≤ 2147483647 by decide)
    | 13 => exact (show (-2147483648) ≤ (-1) ∧ (-1) ≤ 2147483647 by decide)
    | 14 => exact (show (-2147483648) ≤ (-1) ∧ (-1) ≤ 2147483647 by decide)
    | 15 => exact (show 0 ≤ 0 ∧ 0 ≤ 200 by decide)
    | 16 => exact trivial
    | 17 => exact (show (-2147483648) ≤ 0 ∧ 0 ≤ 2147483647 by decide)
    | n + 18 => trivial)
  exact ⟨_, z, L', K', N', v', b0, xE_tr hx b1, b2, fun h => b3 (List.mem_append_left _ h), b4, b5, fun W a k h j hj => (b6 W a k (xE_ok hx h) j hj).trans (frE_push hr a k h j hj), b7, b8, b9⟩
theorem xzero_63 {s : State} {n : Int} {cA : ClassId} (hK2 : va_K D vwCl (xT cid ++ [(cA, .int)]) s) (hI : xI L K N v) (hP : va_P D vwCl (xG L cid K N v ++ [(q, .inl (cA, n.toNat, .inl (fun _ => 0)))]) H) (hD : va_D A (xG L cid K N v ++ [(q, .inl (cA, n.toNat, .inl (fun _ => 0)))])) (hn : 0 ≤ n ∧ n ≤ 60) : xNew L K N v D cid A H q 63 n (fun _ => 0) := by
  have hc : cA = cid 0 := cidE (s := s) (t := .int) (i := 0) (cid := cid) (hK2.sub [9] rfl) (hK2.sub [0, 1, 2, 3, 4, 5, 6, 7, 8] rfl) rfl (fun x h => h)
  subst hc
  refine xnew (e := .inl (cid 0, n.toNat, .inl (fun _ => 0))) ?_ hI hP hD (show 0 ≤ n ∧ n ≤ 60 from hn) (fun L' K' _ j hj => (show (-2147483648 : Int) ≤ 0 ∧ (0 : Int) ≤ 2147483647 by decide))
  show _ = (.inl (cid 0, Int.toNat n, .inl (ar (fun _ => 0))) : va_E)
  rw [ar_zer]
theorem xzero_64 {s : State} {n : Int} {cA : ClassId} (hK2 : va_K D vwCl (xT cid ++ [(cA, .int)]) s) (hI : xI L K N v) (hP : va_P D vwCl (xG L cid K N v ++ [(q, .inl (cA, n.toNat, .inl (fun _ => 0)))]) H) (hD : va_D A (xG L cid K N v ++ [(q, .inl (cA, n.toNat, .inl (fun _ => 0)))])) (hn : 0 ≤ n ∧ n ≤ 12000) : xNew L K N v D cid A H q 64 n (fun _ => 0) := by
  have hc : cA = cid 0 := cidE (s := s) (t := .int) (i := 0) (cid := cid) (hK2.sub [9] rfl) (hK2.sub [0, 1, 2, 3, 4, 5, 6, 7, 8] rfl) rfl (fun x h => h)
  subst hc
  refine xnew (e := .inl (cid 0, n.toNat, .inl (fun _ => 0))) ?_ hI hP hD (show 0 ≤ n ∧ n ≤ 12000 from hn) (fun L' K' _ j hj => (show (-2147483648 : Int) ≤ 0 ∧ (0 : Int) ≤ 2147483647 by decide))
  show _ = (.inl (cid 0, Int.toNat n, .inl (ar (fun _ => 0))) : va_E)
  rw [ar_zer]
theorem xzero_66 {s : State} {n : Int} {cA : ClassId} (hK2 : va_K D vwCl (xT cid ++ [(cA, .int)]) s) (hI : xI L K N v) (hP : va_P D vwCl (xG L cid K N v ++ [(q, .inl (cA, n.toNat, .inl (fun _ => 0)))]) H) (hD : va_D A (xG L cid K N v ++ [(q, .inl (cA, n.toNat, .inl (fun _ => 0)))])) (hn : 0 ≤ n ∧ n ≤ 600) : xNew L K N v D cid A H q 66 n (fun _ => 0) := by
  have hc : cA = cid 0 := cidE (s := s) (t := .int) (i := 0) (cid := cid) (hK2.sub [9] rfl) (hK2.sub [0, 1, 2, 3, 4, 5, 6, 7, 8] rfl) rfl (fun x h => h)
  subst hc
  refine xnew (e := .inl (cid 0, n.toNat, .inl (fun _ => 0))) ?_ hI hP hD (show 0 ≤ n ∧ n ≤ 600 from hn) (fun L' K' _ j hj => (show (-2147483648 : Int) ≤ 0 ∧ (0 : Int) ≤ 2147483647 by decide))
  show _ = (.inl (cid 0, Int.toNat n, .inl (ar (fun _ => 0))) : va_E)
  rw [ar_zer]
theorem xzero_67 {s : State} {n : Int} {cA : ClassId} (hK2 : va_K D vwCl (xT cid ++ [(cA, .int)]) s) (hI : xI L K N v) (hP : va_P D vwCl (xG L cid K N v ++ [(q, .inl (cA, n.toNat, .inl (fun _ => 0)))]) H) (hD : va_D A (xG L cid K N v ++ [(q, .inl (cA, n.toNat, .inl (fun _ => 0)))])) (hn : n = 14) : xNew L K N v D cid A H q 67 n (fun _ => 0) := by
  have hc : cA = cid 0 := cidE (s := s) (t := .int) (i := 0) (cid := cid) (hK2.sub [9] rfl) (hK2.sub [0, 1, 2, 3, 4, 5, 6, 7, 8] rfl) rfl (fun x h => h)
  subst hc
  refine xnew (e := .inl (cid 0, n.toNat, .inl (fun _ => 0))) ?_ hI hP hD (show n = 14 from hn) (fun L' K' _ j hj => (show (-2147483648 : Int) ≤ 0 ∧ (0 : Int) ≤ 2147483647 by decide))
  show _ = (.inl (cid 0, Int.toNat n, .inl (ar (fun _ => 0))) : va_E)
  rw [ar_zer]
theorem xzero_68 {s : State} {n : Int} {cA : ClassId} (hK2 : va_K D vwCl (xT cid ++ [(cA, .int)]) s) (hI : xI L K N v) (hP : va_P D vwCl (xG L cid K N v ++ [(q, .inl (cA, n.toNat, .inl (fun _ => 0)))]) H) (hD : va_D A (xG L cid K N v ++ [(q, .inl (cA, n.toNat, .inl (fun _ => 0)))])) (hn : n = 14) : xNew L K N v D cid A H q 68 n (fun _ => 0) := by
  have hc : cA = cid 0 := cidE (s := s) (t := .int) (i := 0) (cid := cid) (hK2.sub [9] rfl) (hK2.sub [0, 1, 2, 3, 4, 5, 6, 7, 8] rfl) rfl (fun x h => h)
  subst hc
  refine xnew (e := .inl (cid 0, n.toNat, .inl (fun _ => 0))) ?_ hI hP hD (show n = 14 from hn) (fun L' K' _ j hj => (show (-2147483648 : Int) ≤ 0 ∧ (0 : Int) ≤ 2147483647 by decide))
  show _ = (.inl (cid 0, Int.toNat n, .inl (ar (fun _ => 0))) : va_E)
  rw [ar_zer]
theorem xzero_69 {s : State} {n : Int} {cA : ClassId} (hK2 : va_K D vwCl (xT cid ++ [(cA, .long)]) s) (hI : xI L K N v) (hP : va_P D vwCl (xG L cid K N v ++ [(q, .inl (cA, n.toNat, .inr (.inl (fun _ => 0))))]) H) (hD : va_D A (xG L cid K N v ++ [(q, .inl (cA, n.toNat, .inr (.inl (fun _ => 0))))])) (hn : 0 ≤ n ∧ n ≤ 4) : xNew L K N v D cid A H q 69 n (fun _ => 0) := by
  have hc : cA = cid 3 := cidE (s := s) (t := .long) (i := 3) (cid := cid) (hK2.sub [9] rfl) (hK2.sub [0, 1, 2, 3, 4, 5, 6, 7, 8] rfl) rfl (fun x h => h)
  subst hc
  refine xnew (e := .inl (cid 3, n.toNat, .inr (.inl (fun _ => 0)))) ?_ hI hP hD (show 0 ≤ n ∧ n ≤ 4 from hn) (fun L' K' _ j hj => trivial)
  show _ = (.inl (cid 3, Int.toNat n, .inr (.inl (al (fun _ => 0)))) : va_E)
  rw [al_zer]
theorem xcpy_25_66 {z : Int} (hk : ok L K z 25) (hI : xI L K N v) (hP : va_P D vwCl (xG L cid K N v ++ [(q, .inl (cid 0, (N z).toNat, .inl (ar (v z))))]) H) (hD : va_D A (xG L cid K N v ++ [(q, .inl (cid 0, (N z).toNat, .inl (ar (v z))))])) (hn : 0 ≤ N z ∧ N z ≤ 600) : xNew L K N v D cid A H q 66 (N z) (v z) :=
  xnew (e := .inl (cid 0, (N z).toNat, .inl (ar (v z)))) rfl hI hP hD (show 0 ≤ N z ∧ N z ≤ 600 from hn) (fun L' K' _ j hj => (show -2147483648 ≤ v z j ∧ v z j ≤ 2147483647 from (hI z 25 hk).2 j hj))
theorem xcpy_37_63 {z : Int} (hk : ok L K z 37) (hI : xI L K N v) (hP : va_P D vwCl (xG L cid K N v ++ [(q, .inl (cid 0, (N z).toNat, .inl (ar (v z))))]) H) (hD : va_D A (xG L cid K N v ++ [(q, .inl (cid 0, (N z).toNat, .inl (ar (v z))))])) (hn : 0 ≤ N z ∧ N z ≤ 60) : xNew L K N v D cid A H q 63 (N z) (v z) :=
  xnew (e := .inl (cid 0, (N z).toNat, .inl (ar (v z)))) rfl hI hP hD (show 0 ≤ N z ∧ N z ≤ 60 from hn) (fun L' K' _ j hj => (show -2147483648 ≤ v z j ∧ v z j ≤ 2147483647 from (hI z 37 hk).2 j hj))
theorem xcpy_26_67 {z : Int} (hk : ok L K z 26) (hI : xI L K N v) (hP : va_P D vwCl (xG L cid K N v ++ [(q, .inl (cid 0, (N z).toNat, .inl (ar (v z))))]) H) (hD : va_D A (xG L cid K N v ++ [(q, .inl (cid 0, (N z).toNat, .inl (ar (v z))))])) (hn : N z = 14) : xNew L K N v D cid A H q 67 (N z) (v z) :=
  xnew (e := .inl (cid 0, (N z).toNat, .inl (ar (v z)))) rfl hI hP hD (show N z = 14 from hn) (fun L' K' _ j hj => (show -2147483648 ≤ v z j ∧ v z j ≤ 2147483647 from (hI z 26 hk).2 j hj))
theorem xcpy_27_68 {z : Int} (hk : ok L K z 27) (hI : xI L K N v) (hP : va_P D vwCl (xG L cid K N v ++ [(q, .inl (cid 0, (N z).toNat, .inl (ar (v z))))]) H) (hD : va_D A (xG L cid K N v ++ [(q, .inl (cid 0, (N z).toNat, .inl (ar (v z))))])) (hn : N z = 14) : xNew L K N v D cid A H q 68 (N z) (v z) :=
  xnew (e := .inl (cid 0, (N z).toNat, .inl (ar (v z)))) rfl hI hP hD (show N z = 14 from hn) (fun L' K' _ j hj => (show -2147483648 ≤ v z j ∧ v z j ≤ 2147483647 from (hI z 27 hk).2 j hj))
theorem xcpy_28_69 {z : Int} (hk : ok L K z 28) (hI : xI L K N v) (hP : va_P D vwCl (xG L cid K N v ++ [(q, .inl (cid 3, (N z).toNat, .inr (.inl (al (v z)))))]) H) (hD : va_D A (xG L cid K N v ++ [(q, .inl (cid 3, (N z).toNat, .inr (.inl (al (v z)))))])) (hn : 0 ≤ N z ∧ N z ≤ 4) : xNew L K N v D cid A H q 69 (N z) (v z) :=
  xnew (e := .inl (cid 3, (N z).toNat, .inr (.inl (al (v z))))) rfl hI hP hD (show 0 ≤ N z ∧ N z ≤ 4 from hn) (fun L' K' _ j hj => trivial)
end XN
section XD
variable {p : Program} {l : Launch} {e : Env} {R : Room} {s : State} {m : MethodId} {args : Array Value} {below : List Frame} {meth : Method} {c : Code} {H : Heap} {locs : List Loc} {cells slots : Nat} {Q : State → Prop}
variable {cc : ByteArray} {pc : Nat} {ls : Array Slot} {rest : List Value} {dC : Nat → ClassId} {dI : Nat → Nat → Nat} {A : Nat → Prop} {H0 : Heap} {L : List Nat} {cid : Nat → ClassId} {K : Int → Nat} {N : Int → Int} {v : Int → Int → Int} {z z2 : Int}
def cpg (f g : Int → Int) (sp dp n : Int) : Int → Int := fun i => if dp ≤ i ∧ i < dp + n then f (sp + (i - dp)) else g i
theorem ar_cpg {f g : Int → Int} {sp dp n : Int} (h1 : 0 ≤ sp) (h2 : 0 ≤ dp) (h3 : 0 ≤ n) (k1 : sp ≤ 2147483647) (k2 : dp ≤ 2147483647) (k3 : n ≤ 2147483647) : va_cpy (ar f) (ar g) (iI sp).toNatClampNeg (iI dp).toNatClampNeg (iI n).toNatClampNeg = ar (cpg f g sp dp n) := by
  rw [iI_clamp h1 k1, iI_clamp h2 k2, iI_clamp h3 k3]
  funext j
  unfold va_cpy ar cpg
  by_cases h : dp.toNat ≤ j ∧ j < dp.toNat + n.toNat
  · rw [if_pos h, if_pos (show dp ≤ (j : Int) ∧ (j : Int) < dp + n by omega)]
    rw [show ((sp.toNat + (j - dp.toNat) : Nat) : Int) = sp + ((j : Int) - dp) by omega]
  · rw [if_neg h, if_neg (show ¬ (dp ≤ (j : Int) ∧ (j : Int) < dp + n) by omega)]
theorem al_cpg {f g : Int → Int} {sp dp n : Int} (h1 : 0 ≤ sp) (h2 : 0 ≤ dp) (h3 : 0 ≤ n) (k1 : sp ≤ 2147483647) (k2 : dp ≤ 2147483647) (k3 : n ≤ 2147483647) : va_cpy (al f) (al g) (iI sp).toNatClampNeg (iI dp).toNatClampNeg (iI n).toNatClampNeg = al (cpg f g sp dp n) := by
  rw [iI_clamp h1 k1, iI_clamp h2 k2, iI_clamp h3 k3]
  funext j
  unfold va_cpy al cpg
  by_cases h : dp.toNat ≤ j ∧ j < dp.toNat + n.toNat
  · rw [if_pos h, if_pos (show dp ≤ (j : Int) ∧ (j : Int) < dp + n by omega)]
    rw [show ((sp.toNat + (j - dp.toNat) : Nat) : Int) = sp + ((j : Int) - dp) by omega]
  · rw [if_neg h, if_neg (show ¬ (dp ≤ (j : Int) ∧ (j : Int) < dp + n) by omega)]
theorem xc2_25_66 {own : String} {index : Nat} (hx : p.tables.exec = Jvm.exec) (hb : c.code = cc) (hml : c.maxLocals = ls.size) (hown : s.vm.findClass own = some m.cls) (hlink : (Cond.methodLink own index arraycopyName).before args s = true) (hnat : (Cond.native arraycopyName).before args s = true) (hstat : (Cond.static arraycopyName).before args s = true) (hini : (Cond.initialized "java/lang/System").before args s = true)
    (hK : va_K (dC, dI) vwCl (xT cid) s) (hP : va_P (dC, dI) vwCl (xG L cid K N v) H) (hD : va_D A (xG L cid K N v)) (hS : va_S A H0 H locs) (hI : xI L K N v) (hk : ok L K z 25) (hk2 : ok L K z2 66) {sp dp n : Int} (h1 : 0 ≤ sp) (h2 : 0 ≤ dp) (h3 : 0 ≤ n) (h4 : sp + n ≤ N z) (h5 : dp + n ≤ N z2) (h6 : N z ≤ 2147483647) (h7 : N z2 ≤ 2147483647)
    (hframes : 1 ≤ R.frames) (hlocals : (rest.map fun v => v.category).sum + (nativeFrameWords "java/lang/System" "arraycopy" 5 + 11) ≤ R.locals) (hdg : decode cc pc = .ok (.invokestatic index, 3))
    (kk : ∀ (v1 : Int → Int → Int) (H1 : Heap) (locs1 : List Loc), fr K [(66, -1)] v1 v → xI L K N v1 → va_P (dC, dI) vwCl (xG L cid K N v1) H1 → va_D A (xG L cid K N v1) → va_S A H0 H1 locs1 → W p l e R s m args below meth c H1 locs1 cells slots Q (F0 m (pc + 3) ls rest)) : W p l e R s m args below meth c H locs cells slots Q (F0 m pc ls (.int (iI n) :: .int (iI dp) :: .ref z2.toNat :: .int (iI sp) :: .ref z.toNat :: rest)) := by
  have hD0 := hD
  obtain ⟨q0, hq⟩ := xg_at (cid := cid) (N := N) (v := v) hk
  obtain ⟨q1, hq1⟩ := xg_at (cid := cid) (N := N) (v := v) hk2
  have neg : ∀ {w : Int}, 0 ≤ w → w ≤ 2147483647 → ¬ iI w < 0 := fun a b q => by rw [iI_0, iI_lt ⟨by omega, b⟩ rg_0] at q; omega
  refine va_copyi hx hb hml hown hlink hnat hstat hini hK hP hD hS q0 q1 0 0 (n0 := (N z).toNat) (n1 := (N z2).toNat) (f := ar (v z)) (g := ar (v z2)) (ty := .int) hq hq1 rfl rfl rfl (neg h1 (by omega)) (neg h2 (by omega)) (neg h3 (by omega)) (by rw [iI_clamp h1 (by omega), iI_clamp h3 (by omega)]; omega) (by rw [iI_clamp h2 (by omega), iI_clamp h3 (by omega)]; omega) (fun _ _ => rfl) hframes hlocals hdg (fun H1 locs1 hP hD hS => ?_)
  rw [ar_cpg h1 h2 h3 (by omega) (by omega) (by omega)] at hP hD
  have hw : (xG L cid K N v).set q1 (z2.toNat, .inl (cid 0, Int.toNat (N z2), .inl (ar (cpg (v z) (v z2) sp dp n)))) = xG L cid K N (vs v z2 (cpg (v z) (v z2) sp dp n)) := xg_setF hk2 hD0 hq1 rfl
  rw [hw] at hP hD
  refine kk _ H1 locs1 (fr_vs hk2) (xI_vs hI hk2 (fun j hj => ?_)) hP hD hS
  show -2147483648 ≤ cpg (v z) (v z2) sp dp n j ∧ cpg (v z) (v z2) sp dp n j ≤ 2147483647
  unfold cpg
  split
  · exact (hI z 25 hk).2 _ (by omega)
  · exact (hI z2 66 hk2).2 _ hj
theorem xc2_37_63 {own : String} {index : Nat} (hx : p.tables.exec = Jvm.exec) (hb : c.code = cc) (hml : c.maxLocals = ls.size) (hown : s.vm.findClass own = some m.cls) (hlink : (Cond.methodLink own index arraycopyName).before args s = true) (hnat : (Cond.native arraycopyName).before args s = true) (hstat : (Cond.static arraycopyName).before args s = true) (hini : (Cond.initialized "java/lang/System").before args s = true)
    (hK : va_K (dC, dI) vwCl (xT cid) s) (hP : va_P (dC, dI) vwCl (xG L cid K N v) H) (hD : va_D A (xG L cid K N v)) (hS : va_S A H0 H locs) (hI : xI L K N v) (hk : ok L K z 37) (hk2 : ok L K z2 63) {sp dp n : Int} (h1 : 0 ≤ sp) (h2 : 0 ≤ dp) (h3 : 0 ≤ n) (h4 : sp + n ≤ N z) (h5 : dp + n ≤ N z2) (h6 : N z ≤ 2147483647) (h7 : N z2 ≤ 2147483647)
    (hframes : 1 ≤ R.frames) (hlocals : (rest.map fun v => v.category).sum + (nativeFrameWords "java/lang/System" "arraycopy" 5 + 11) ≤ R.locals) (hdg : decode cc pc = .ok (.invokestatic index, 3))
    (kk : ∀ (v1 : Int → Int → Int) (H1 : Heap) (locs1 : List Loc), fr K [(63, -1)] v1 v → xI L K N v1 → va_P (dC, dI) vwCl (xG L cid K N v1) H1 → va_D A (xG L cid K N v1) → va_S A H0 H1 locs1 → W p l e R s m args below meth c H1 locs1 cells slots Q (F0 m (pc + 3) ls rest)) : W p l e R s m args below meth c H locs cells slots Q (F0 m pc ls (.int (iI n) :: .int (iI dp) :: .ref z2.toNat :: .int (iI sp) :: .ref z.toNat :: rest)) := by
  have hD0 := hD
  obtain ⟨q0, hq⟩ := xg_at (cid := cid) (N := N) (v := v) hk
  obtain ⟨q1, hq1⟩ := xg_at (cid := cid) (N := N) (v := v) hk2
  have neg : ∀ {w : Int}, 0 ≤ w → w ≤ 2147483647 → ¬ iI w < 0 := fun a b q => by rw [iI_0, iI_lt ⟨by omega, b⟩ rg_0] at q; omega
  refine va_copyi hx hb hml hown hlink hnat hstat hini hK hP hD hS q0 q1 0 0 (n0 := (N z).toNat) (n1 := (N z2).toNat) (f := ar (v z)) (g := ar (v z2)) (ty := .int) hq hq1 rfl rfl rfl (neg h1 (by omega)) (neg h2 (by omega)) (neg h3 (by omega)) (by rw [iI_clamp h1 (by omega), iI_clamp h3 (by omega)]; omega) (by rw [iI_clamp h2 (by omega), iI_clamp h3 (by omega)]; omega) (fun _ _ => rfl) hframes hlocals hdg (fun H1 locs1 hP hD hS => ?_)
  rw [ar_cpg h1 h2 h3 (by omega) (by omega) (by omega)] at hP hD
  have hw : (xG L cid K N v).set q1 (z2.toNat, .inl (cid 0, Int.toNat (N z2), .inl (ar (cpg (v z) (v z2) sp dp n)))) = xG L cid K N (vs v z2 (cpg (v z) (v z2) sp dp n)) := xg_setF hk2 hD0 hq1 rfl
  rw [hw] at hP hD
  refine kk _ H1 locs1 (fr_vs hk2) (xI_vs hI hk2 (fun j hj => ?_)) hP hD hS
  show -2147483648 ≤ cpg (v z) (v z2) sp dp n j ∧ cpg (v z) (v z2) sp dp n j ≤ 2147483647
  unfold cpg
  split
  · exact (hI z 37 hk).2 _ (by omega)
  · exact (hI z2 63 hk2).2 _ hj
theorem xc2_28_69 {own : String} {index : Nat} (hx : p.tables.exec = Jvm.exec) (hb : c.code = cc) (hml : c.maxLocals = ls.size) (hown : s.vm.findClass own = some m.cls) (hlink : (Cond.methodLink own index arraycopyName).before args s = true) (hnat : (Cond.native arraycopyName).before args s = true) (hstat : (Cond.static arraycopyName).before args s = true) (hini : (Cond.initialized "java/lang/System").before args s = true)
    (hK : va_K (dC, dI) vwCl (xT cid) s) (hP : va_P (dC, dI) vwCl (xG L cid K N v) H) (hD : va_D A (xG L cid K N v)) (hS : va_S A H0 H locs) (hI : xI L K N v) (hk : ok L K z 28) (hk2 : ok L K z2 69) {sp dp n : Int} (h1 : 0 ≤ sp) (h2 : 0 ≤ dp) (h3 : 0 ≤ n) (h4 : sp + n ≤ N z) (h5 : dp + n ≤ N z2) (h6 : N z ≤ 2147483647) (h7 : N z2 ≤ 2147483647)
    (hframes : 1 ≤ R.frames) (hlocals : (rest.map fun v => v.category).sum + (nativeFrameWords "java/lang/System" "arraycopy" 5 + 11) ≤ R.locals) (hdg : decode cc pc = .ok (.invokestatic index, 3))
    (kk : ∀ (v1 : Int → Int → Int) (H1 : Heap) (locs1 : List Loc), fr K [(69, -1)] v1 v → xI L K N v1 → va_P (dC, dI) vwCl (xG L cid K N v1) H1 → va_D A (xG L cid K N v1) → va_S A H0 H1 locs1 → W p l e R s m args below meth c H1 locs1 cells slots Q (F0 m (pc + 3) ls rest)) : W p l e R s m args below meth c H locs cells slots Q (F0 m pc ls (.int (iI n) :: .int (iI dp) :: .ref z2.toNat :: .int (iI sp) :: .ref z.toNat :: rest)) := by
  have hD0 := hD
  obtain ⟨q0, hq⟩ := xg_at (cid := cid) (N := N) (v := v) hk
  obtain ⟨q1, hq1⟩ := xg_at (cid := cid) (N := N) (v := v) hk2
  have neg : ∀ {w : Int}, 0 ≤ w → w ≤ 2147483647 → ¬ iI w < 0 := fun a b q => by rw [iI_0, iI_lt ⟨by omega, b⟩ rg_0] at q; omega
  refine va_copyl hx hb hml hown hlink hnat hstat hini hK hP hD hS q0 q1 3 3 (n0 := (N z).toNat) (n1 := (N z2).toNat) (f := al (v z)) (g := al (v z2)) (ty := .long) hq hq1 rfl rfl rfl (neg h1 (by omega)) (neg h2 (by omega)) (neg h3 (by omega)) (by rw [iI_clamp h1 (by omega), iI_clamp h3 (by omega)]; omega) (by rw [iI_clamp h2 (by omega), iI_clamp h3 (by omega)]; omega) (fun _ _ => rfl) hframes hlocals hdg (fun H1 locs1 hP hD hS => ?_)
  rw [al_cpg h1 h2 h3 (by omega) (by omega) (by omega)] at hP hD
  have hw : (xG L cid K N v).set q1 (z2.toNat, .inl (cid 3, Int.toNat (N z2), .inr (.inl (al (cpg (v z) (v z2) sp dp n))))) = xG L cid K N (vs v z2 (cpg (v z) (v z2) sp dp n)) := xg_setF hk2 hD0 hq1 rfl
  rw [hw] at hP hD
  refine kk _ H1 locs1 (fr_vs hk2) (xI_vs hI hk2 (fun j hj => ?_)) hP hD hS
  trivial
end XD
