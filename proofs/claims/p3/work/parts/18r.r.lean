/-! ===== Int32 by its bits: bt x i ===== -/
def bt (x : Int32) (i : Nat) : Bool := x.toBitVec.getLsbD i
theorem b_ext {x y : Int32} (h : ∀ i, i < 32 → bt x i = bt y i) : x = y := Int32.toBitVec_inj.mp (BitVec.eq_of_getLsbD_eq (fun i hi => h i hi))
theorem b_or (x y : Int32) (i : Nat) : bt (x ||| y) i = (bt x i || bt y i) := by unfold bt; rw [Int32.toBitVec_or, BitVec.getLsbD_or]
theorem b_and (x y : Int32) (i : Nat) : bt (x &&& y) i = (bt x i && bt y i) := by unfold bt; rw [Int32.toBitVec_and, BitVec.getLsbD_and]
theorem b_xor (x y : Int32) (i : Nat) : bt (x ^^^ y) i = (bt x i ^^ bt y i) := by unfold bt; rw [Int32.toBitVec_xor, BitVec.getLsbD_xor]
theorem b_big {x : Int32} {i : Nat} (h : 32 ≤ i) : bt x i = false := BitVec.getLsbD_of_ge _ _ h
theorem b_255 (i : Nat) : bt 255 i = decide (i < 8) := by
  rcases Nat.lt_or_ge i 32 with h | h
  · exact (by decide +kernel : ∀ i, i < 32 → bt 255 i = decide (i < 8)) i h
  · rw [b_big h, decide_eq_false (by omega)]
theorem b_65535 (i : Nat) : bt 65535 i = decide (i < 16) := by
  rcases Nat.lt_or_ge i 32 with h | h
  · exact (by decide +kernel : ∀ i, i < 32 → bt 65535 i = decide (i < 16)) i h
  · rw [b_big h, decide_eq_false (by omega)]
theorem b_m1 : ∀ i, i < 32 → bt (-1) i = true := by decide +kernel
theorem b_0 (i : Nat) : bt 0 i = false := BitVec.getLsbD_zero
theorem s_l : ∀ n, n < 32 → ((nI n &&& 31).toBitVec.smod 32).toNat = n := by decide +kernel
theorem s_u : ∀ n, n < 32 → (((nI n).toUInt32 &&& Int32.toUInt32 31).toBitVec % 32).toNat = n := by decide +kernel
theorem b_shl (n : Nat) (hn : n < 32) (x : Int32) {i : Nat} (hi : i < 32) : bt (x <<< (nI n &&& 31)) i = (decide (n ≤ i) && bt x (i - n)) := by
  unfold bt
  rw [Int32.toBitVec_shiftLeft]
  show (x.toBitVec <<< ((nI n &&& 31).toBitVec.smod 32).toNat).getLsbD i = _
  rw [s_l n hn, BitVec.getLsbD_shiftLeft]
  rcases Nat.lt_or_ge i n with h | h
  · simp [h, Nat.not_le.mpr h]
  · simp [hi, h, Nat.not_lt.mpr h]
theorem b_ushr (n : Nat) (hn : n < 32) (x : Int32) (i : Nat) : bt ((x.toUInt32 >>> ((nI n).toUInt32 &&& Int32.toUInt32 31)).toInt32) i = bt x (n + i) := by
  show (x.toUInt32 >>> ((nI n).toUInt32 &&& Int32.toUInt32 31)).toBitVec.getLsbD i = x.toUInt32.toBitVec.getLsbD (n + i)
  rw [UInt32.toBitVec_shiftRight]
  show (x.toUInt32.toBitVec >>> (((nI n).toUInt32 &&& Int32.toUInt32 31).toBitVec % 32).toNat).getLsbD i = _
  rw [s_u n hn, BitVec.getLsbD_ushiftRight]
theorem b_sshr (n : Nat) (hn : n < 32) (x : Int32) {i : Nat} (hi : i < 32) : bt (x >>> (nI n &&& 31)) i = if n + i < 32 then bt x (n + i) else bt x 31 := by
  unfold bt
  rw [Int32.toBitVec_shiftRight]
  show (x.toBitVec.sshiftRight ((nI n &&& 31).toBitVec.smod 32).toNat).getLsbD i = _
  rw [s_l n hn, BitVec.getLsbD_sshiftRight, BitVec.msb_eq_getLsbD_last]
  simp [hi]
theorem b_shl8 (x : Int32) {i : Nat} (hi : i < 32) : bt (x <<< ((8 : Int32) &&& 31)) i = (decide (8 ≤ i) && bt x (i - 8)) := b_shl 8 (by omega) x hi
theorem b_shl16 (x : Int32) {i : Nat} (hi : i < 32) : bt (x <<< ((16 : Int32) &&& 31)) i = (decide (16 ≤ i) && bt x (i - 16)) := b_shl 16 (by omega) x hi
theorem b_shl24 (x : Int32) {i : Nat} (hi : i < 32) : bt (x <<< ((24 : Int32) &&& 31)) i = (decide (24 ≤ i) && bt x (i - 24)) := b_shl 24 (by omega) x hi
theorem b_sshr8 (x : Int32) {i : Nat} (hi : i < 32) : bt (x >>> ((8 : Int32) &&& 31)) i = if 8 + i < 32 then bt x (8 + i) else bt x 31 := b_sshr 8 (by omega) x hi
/-! ===== exact worlds, bits of int fields ===== -/
theorem vu_of {v1 v : Int → Int → Int} {z j y : Int} (e : v1 z j = y) (o : ∀ a i, ¬ (a = z ∧ i = j) → v1 a i = v a i) : v1 = vu v z j y := by
  funext a i
  unfold vu
  by_cases h : a = z ∧ i = j
  · rw [if_pos h, h.1, h.2]; exact e
  · rw [if_neg h]; exact o a i h
def zshr (x y : Int) : Int := (iI x >>> (iI y &&& 31)).toInt
def zshl (x y : Int) : Int := (iI x <<< (iI y &&& 31)).toInt
def zand (x y : Int) : Int := (iI x &&& iI y).toInt
def zor (x y : Int) : Int := (iI x ||| iI y).toInt
theorem iI_back (a : Int32) : iI a.toInt = a := (iI_of a).symm
theorem zand_1 (x : Int) : 0 ≤ zand x 1 ∧ zand x 1 ≤ 1 := by
  have h := and_bd (iI x) (iI 1) (by decide)
  rw [show (iI 1).toInt = 1 from by decide] at h
  exact h
theorem bt_1 : ∀ i, i < 32 → bt 1 i = decide (i = 0) := by decide +kernel
theorem one_and (y : Int32) : y &&& 1 = if bt y 0 then 1 else 0 := by
  refine b_ext (fun i hi => ?_)
  rw [b_and, bt_1 i hi]
  by_cases h : i = 0
  · subst h
    cases bt y 0 <;> simp [b_0, bt_1 0 (by omega)]
  · rw [decide_eq_false h]
    cases bt y 0 <;> simp [b_0, bt_1 i hi, h]
theorem zbit {x j : Int} (h0 : 0 ≤ j) (h1 : j < 32) : zand (zshr x j) 1 = if bt (iI x) j.toNat then 1 else 0 := by
  unfold zand zshr
  have e : bt (iI x >>> (nI j.toNat &&& 31)) 0 = bt (iI x) j.toNat := by rw [b_sshr j.toNat (by omega) (iI x) (i := 0) (by omega), if_pos (by omega), Nat.add_zero]
  rw [iI_back, iI_nI h0, show iI 1 = (1 : Int32) from by decide, one_and, e]
  cases bt (iI x) j.toNat <;> decide
theorem zor_bit {x b j : Int} (b0 : 0 ≤ b) (b1 : b < 32) (h0 : 0 ≤ j) (h1 : j < 32) : zand (zshr (zor x (zshl 1 b)) j) 1 = if j = b then 1 else zand (zshr x j) 1 := by
  rw [zbit h0 h1, zbit h0 h1]
  unfold zor zshl
  rw [iI_back, iI_back, b_or, iI_nI b0, show iI 1 = (1 : Int32) from by decide, b_shl b.toNat (by omega) 1 (i := j.toNat) (by omega), bt_1 _ (by omega)]
  by_cases h : j = b
  · subst h
    rw [if_pos rfl]
    simp
  · rw [if_neg h]
    have : (decide (b.toNat ≤ j.toNat) && decide (j.toNat - b.toNat = 0)) = false := by
      by_cases q : b.toNat ≤ j.toNat
      · rw [decide_eq_false (show ¬ (j.toNat - b.toNat = 0) by omega), Bool.and_false]
      · rw [decide_eq_false q, Bool.false_and]
    rw [this, Bool.or_false]
theorem z_0bit {j : Int} (h0 : 0 ≤ j) (h1 : j < 32) : zand (zshr 0 j) 1 = 0 := by
  rw [zbit h0 h1, show iI 0 = (0 : Int32) from by decide, b_0]
  rfl

/-! ===== what ties class and reference, beside the counts ===== -/
theorem frE_of {L : List Nat} {K : Int → Nat} {W : List (Nat × Int)} {v1 v : Int → Int → Int} (f : fr K W v1 v) : frE L K W v1 v := fun z k hk j hj => f z j (by rw [hk.2.2]; exact hj)
theorem ok_ne {L : List Nat} {K : Int → Nat} {z y : Int} {k k2 : Nat} (h : ok L K z k) (h2 : ok L K y k2) (hk : k ≠ k2) : z ≠ y := fun e => hk (by rw [← h.2.2, ← h2.2.2, e])
/-- a HAND has been made -/
def hNewP (L : List Nat) (K : Int → Nat) (v u : Int → Int → Int) (zh n : Int) : Prop := ∃ q : Int, 0 ≤ q ∧ (∀ y k, ok L K y k → y ≠ q) ∧ u q 4 = 0 ∧ ∀ i, u zh i = if i = n then q else v zh i
/-- SUBSCRIBERS -/
def rSub (v : Int → Int → Int) (z0 : Int) (a : Nat → Int → Int) : Prop := ∀ w : Int, 0 ≤ w → w < 10 → (v (v z0 15) w = -1 ∧ a 60 w ≤ 0) ∨ (v (v z0 15) w ≠ -1 ∧ 0 < a 60 w)
section RX
variable {L L1 : List Nat} {K K1 : Int → Nat} {N N1 : Int → Int} {v v1 u : Int → Int → Int} {W : List (Nat × Int)} {z0 : Int} {g g' : Nat → Int} {a a' : Nat → Int → Int} {p1 p2 p3 : Int}
theorem rSub_x (hI : xI L K N v) (hz : ok L K z0 12) (f : frE L K W v1 v) (w1 : inW W 12 15 = false) (w2 : ∀ j, inW W 40 j = false) (h : rSub v z0 a) : rSub v1 z0 a := fun w h0 h1 => by
  rw [frE_use hz f w1, frE_use (xf_12_15 hI hz) f (w2 w)]; exact h w h0 h1
theorem rSub_m (e : a' 60 = a 60) (h : rSub v z0 a) : rSub v z0 a' := fun w h0 h1 => by rw [e]; exact h w h0 h1
theorem rSub_new (hI : xI L K N v) (hz : ok L K z0 12) (e : u = vu (vu v (v z0 15) p1 p2) (v z0 16) p1 p3) (ea : a' 60 = up (a 60) p1 p3) (h2 : 0 ≤ p2) (h3 : 0 < p3) (h : rSub v z0 a) : rSub u z0 a' := fun w h0 h1 => by
  have o15 := xf_12_15 hI hz
  have o16 := xf_12_16 hI hz
  have n1 := ok_ne hz o15 (by decide)
  have n2 := ok_ne hz o16 (by decide)
  have n3 := ok_ne o15 o16 (by decide)
  have e1 : u z0 15 = v z0 15 := by
    rw [e, vu_ne _ (show ¬ (z0 = v z0 16 ∧ (15 : Int) = p1) from fun q => n2 q.1), vu_ne _ (show ¬ (z0 = v z0 15 ∧ (15 : Int) = p1) from fun q => n1 q.1)]
  have e2 : u (v z0 15) w = if w = p1 then p2 else v (v z0 15) w := by
    rw [e, vu_ne _ (show ¬ (v z0 15 = v z0 16 ∧ w = p1) from fun q => n3 q.1)]
    by_cases c : w = p1
    · rw [if_pos c, c, vu_self]
    · rw [if_neg c, vu_ne _ (show ¬ (v z0 15 = v z0 15 ∧ w = p1) from fun q => c q.2)]
  rw [e1, e2, ea]
  by_cases c : w = p1
  · subst c; rw [if_pos rfl, up_self]; exact Or.inr ⟨by omega, h3⟩
  · rw [if_neg c, up_ne _ _ c]; exact h w h0 h1
/-- HANDS: they are there, apart, and their bits of ENEMIES are the reference's -/
def rHand (v : Int → Int → Int) (z0 : Int) (g : Nat → Int) (a : Nat → Int → Int) : Prop :=
  (∀ i : Int, 0 ≤ i → i < g 50 → 0 ≤ v (v z0 10) i) ∧ (∀ i j : Int, 0 ≤ i → i < g 50 → 0 ≤ j → j < g 50 → v (v z0 10) i = v (v z0 10) j → i = j) ∧
  ∀ i j : Int, 0 ≤ i → i < 12 → 0 ≤ j → j < 12 → (i < g 50 → zand (zshr (v (v (v z0 10) i) 4) j) 1 = a 41 (12 * i + j)) ∧ (g 50 ≤ i ∨ g 50 ≤ j → a 41 (12 * i + j) = 0)
theorem rHand_ok (hI : xI L K N v) (hz : ok L K z0 12) (h : rHand v z0 g a) {i : Int} (h0 : 0 ≤ i) (h1 : i < g 50) : ok L K (v (v z0 10) i) 2 :=
  (xe_38 hI (xf_12_10 hI hz) h0).resolve_left (by have := h.1 i h0 h1; omega)
theorem rHand_x (hI : xI L K N v) (hz : ok L K z0 12) (f : frE L K W v1 v) (w1 : inW W 12 10 = false) (w2 : ∀ j, inW W 38 j = false) (w3 : inW W 2 4 = false) (h : rHand v z0 g a) : rHand v1 z0 g a := by
  have e0 := frE_use hz f w1
  have e1 : ∀ i, v1 (v z0 10) i = v (v z0 10) i := fun i => frE_use (xf_12_10 hI hz) f (w2 i)
  have e2 : ∀ i, 0 ≤ i → i < g 50 → v1 (v (v z0 10) i) 4 = v (v (v z0 10) i) 4 := fun i h0 h1 => frE_use (rHand_ok hI hz h h0 h1) f w3
  refine ⟨fun i h0 h1 => by rw [e0, e1]; exact h.1 i h0 h1, fun i j h0 h1 h2 h3 q => h.2.1 i j h0 h1 h2 h3 (by rw [e0, e1, e1] at q; exact q), fun i j h0 h1 h2 h3 => ⟨fun q => ?_, (h.2.2 i j h0 h1 h2 h3).2⟩⟩
  rw [e0, e1, e2 i h0 q]
  exact (h.2.2 i j h0 h1 h2 h3).1 q
theorem rHand_y (hI : xI L K N v) (hz : ok L K z0 12) (f : frE L K W v1 v) (w1 : inW W 12 10 = false) (e1 : ∀ i, v1 (v z0 10) i = v (v z0 10) i) (w3 : inW W 2 4 = false) (h : rHand v z0 g a) : rHand v1 z0 g a := by
  have e0 := frE_use hz f w1
  have e2 : ∀ i, 0 ≤ i → i < g 50 → v1 (v (v z0 10) i) 4 = v (v (v z0 10) i) 4 := fun i h0 h1 => frE_use (rHand_ok hI hz h h0 h1) f w3
  refine ⟨fun i h0 h1 => by rw [e0, e1]; exact h.1 i h0 h1, fun i j h0 h1 h2 h3 q => h.2.1 i j h0 h1 h2 h3 (by rw [e0, e1, e1] at q; exact q), fun i j h0 h1 h2 h3 => ⟨fun q => ?_, (h.2.2 i j h0 h1 h2 h3).2⟩⟩
  rw [e0, e1, e2 i h0 q]
  exact (h.2.2 i j h0 h1 h2 h3).1 q
theorem rHand_m (e1 : g' 50 = g 50) (e2 : a' 41 = a 41) (h : rHand v z0 g a) : rHand v z0 g' a' := by
  unfold rHand
  rw [e1, e2]; exact h
/-- a HAND more -/
theorem rHand_new {q : Int} (hI : xI L K N v) (hz : ok L K z0 12) (f : frE L K W v1 v) (w1 : inW W 12 10 = false) (w3 : inW W 2 4 = false) (q0 : 0 ≤ q) (qn : ∀ y k, ok L K y k → y ≠ q) (q4 : v1 q 4 = 0) (qe : ∀ i, v1 (v z0 10) i = if i = g 50 then q else v (v z0 10) i) (eg : g' 50 = g 50 + 1) (hg : g 50 < 12) (hg0 : 0 ≤ g 50) (ea : a' 41 = a 41) (h : rHand v z0 g a) : rHand v1 z0 g' a' := by
  have e0 := frE_use hz f w1
  have e2 : ∀ i, 0 ≤ i → i < g 50 → v1 (v (v z0 10) i) 4 = v (v (v z0 10) i) 4 := fun i h0 h1 => frE_use (rHand_ok hI hz h h0 h1) f w3
  have nq : ∀ i, 0 ≤ i → i < g 50 → v (v z0 10) i ≠ q := fun i h0 h1 => qn _ _ (rHand_ok hI hz h h0 h1)
  unfold rHand
  rw [eg, ea, e0]
  refine ⟨fun i h0 h1 => ?_, fun i j h0 h1 h2 h3 c => ?_, fun i j h0 h1 h2 h3 => ⟨fun c => ?_, fun c => (h.2.2 i j h0 h1 h2 h3).2 (by omega)⟩⟩
  · rw [qe]
    by_cases c : i = g 50
    · rw [if_pos c]; exact q0
    · rw [if_neg c]; exact h.1 i h0 (by omega)
  · rw [qe, qe] at c
    by_cases ci : i = g 50
    · by_cases cj : j = g 50
      · omega
      · rw [if_pos ci, if_neg cj] at c; exact absurd c.symm (nq j h2 (by omega))
    · by_cases cj : j = g 50
      · rw [if_neg ci, if_pos cj] at c; exact absurd c (nq i h0 (by omega))
      · rw [if_neg ci, if_neg cj] at c; exact h.2.1 i j h0 (by omega) h2 (by omega) c
  · rw [qe]
    by_cases ci : i = g 50
    · rw [if_pos ci, q4, z_0bit h2 (by omega)]
      exact ((h.2.2 i j h0 h1 h2 h3).2 (Or.inl (by omega))).symm
    · rw [if_neg ci, e2 i h0 (by omega)]
      exact (h.2.2 i j h0 h1 h2 h3).1 (by omega)
/-- ENEMIES -/
theorem rHand_en (hI : xI L K N v) (hz : ok L K z0 12) (e : u = vu (vu v (v (v z0 10) p1) 4 (zor (v (v (v z0 10) p1) 4) (zshl 1 p2))) (v (v z0 10) p2) 4 (zor (vu v (v (v z0 10) p1) 4 (zor (v (v (v z0 10) p1) 4) (zshl 1 p2)) (v (v z0 10) p2) 4) (zshl 1 p1))) (eg : g' 50 = g 50) (ea : a' 41 = up (up (a 41) (12 * p1 + p2) 1) (12 * p2 + p1) 1) (h1 : 0 ≤ p1) (h2 : p1 < g 50) (h3 : 0 ≤ p2) (h4 : p2 < g 50) (h5 : p1 ≠ p2) (hg : g 50 ≤ 12) (h : rHand v z0 g a) : rHand u z0 g' a' := by
  have oH := xf_12_10 hI hz
  have o1 := rHand_ok hI hz h h1 h2
  have o2 := rHand_ok hI hz h h3 h4
  have n12 : v (v z0 10) p1 ≠ v (v z0 10) p2 := fun c => h5 (h.2.1 _ _ h1 h2 h3 h4 c)
  rw [vu_ne v (show ¬ (v (v z0 10) p2 = v (v z0 10) p1 ∧ (4 : Int) = 4) from fun q => n12 q.1.symm)] at e
  have e0 : u z0 10 = v z0 10 := by
    rw [e, vu_ne _ (show ¬ (z0 = v (v z0 10) p2 ∧ (10 : Int) = 4) from fun q => absurd q.2 (by decide)), vu_ne _ (show ¬ (z0 = v (v z0 10) p1 ∧ (10 : Int) = 4) from fun q => absurd q.2 (by decide))]
  have e1 : ∀ i, u (v z0 10) i = v (v z0 10) i := fun i => by
    rw [e, vu_ne _ (show ¬ (v z0 10 = v (v z0 10) p2 ∧ i = 4) from fun q => ok_ne oH o2 (by decide) q.1), vu_ne _ (show ¬ (v z0 10 = v (v z0 10) p1 ∧ i = 4) from fun q => ok_ne oH o1 (by decide) q.1)]
  have e4 : ∀ i, 0 ≤ i → i < g 50 → u (v (v z0 10) i) 4 = if i = p1 then zor (v (v (v z0 10) i) 4) (zshl 1 p2) else if i = p2 then zor (v (v (v z0 10) i) 4) (zshl 1 p1) else v (v (v z0 10) i) 4 := fun i i0 i1 => by
    rw [e]
    by_cases c1 : i = p1
    · subst c1
      rw [if_pos rfl, vu_ne _ (show ¬ (v (v z0 10) i = v (v z0 10) p2 ∧ (4 : Int) = 4) from fun q => n12 q.1), vu_self]
    · rw [if_neg c1]
      by_cases c2 : i = p2
      · subst c2
        rw [if_pos rfl, vu_self]
      · rw [if_neg c2, vu_ne _ (show ¬ (v (v z0 10) i = v (v z0 10) p2 ∧ (4 : Int) = 4) from fun q => c2 (h.2.1 _ _ i0 i1 h3 h4 q.1)), vu_ne _ (show ¬ (v (v z0 10) i = v (v z0 10) p1 ∧ (4 : Int) = 4) from fun q => c1 (h.2.1 _ _ i0 i1 h1 h2 q.1))]
  unfold rHand
  rw [eg, ea, e0]
  refine ⟨fun i i0 i1 => by rw [e1]; exact h.1 i i0 i1, fun i j i0 i1 j0 j1 c => h.2.1 i j i0 i1 j0 j1 (by rw [e1, e1] at c; exact c), fun i j i0 i1 j0 j1 => ⟨fun c => ?_, fun c => ?_⟩⟩
  · have hh := (h.2.2 i j i0 i1 j0 j1).1 c
    rw [e1, e4 i i0 c]
    by_cases c1 : i = p1
    · rw [if_pos c1, zor_bit h3 (by omega) j0 (by omega), up_ne _ _ (show ¬ (12 * i + j = 12 * p2 + p1) by omega)]
      by_cases cj : j = p2
      · rw [if_pos cj, c1, cj, up_self]
      · rw [if_neg cj, up_ne _ _ (show ¬ (12 * i + j = 12 * p1 + p2) by omega)]; exact hh
    · rw [if_neg c1]
      by_cases c2 : i = p2
      · rw [if_pos c2, zor_bit h1 (by omega) j0 (by omega)]
        by_cases cj : j = p1
        · rw [if_pos cj, c2, cj, up_self]
        · rw [if_neg cj, up_ne _ _ (show ¬ (12 * i + j = 12 * p2 + p1) by omega), up_ne _ _ (show ¬ (12 * i + j = 12 * p1 + p2) by omega)]; exact hh
      · rw [if_neg c2, up_ne _ _ (show ¬ (12 * i + j = 12 * p2 + p1) by omega), up_ne _ _ (show ¬ (12 * i + j = 12 * p1 + p2) by omega)]; exact hh
  · rw [up_ne _ _ (show ¬ (12 * i + j = 12 * p2 + p1) by omega), up_ne _ _ (show ¬ (12 * i + j = 12 * p1 + p2) by omega)]
    exact (h.2.2 i j i0 i1 j0 j1).2 c
/-- ENEMIES: both sides answer the same -/
theorem en_tie {x y : Int} (hh : rHand v z0 g a) (hc : v z0 11 = g 50) (hg : g 50 ≤ 12)
    (X1 : (x = 0) ∨ (x = 1 ∧ 0 ≤ p1 ∧ p1 < v z0 11 ∧ 0 ≤ p2 ∧ p2 < v z0 11 ∧ 0 ≤ v (v z0 10) p1 ∧ 0 ≤ v (v z0 10) p2 ∧ p1 ≠ p2)) (X2 : x = 1 → zand (zshr (v (v (v z0 10) p1) 4) p2) 1 = 0)
    (X3 : x = 0 → (p1 < 0 ∨ v z0 11 ≤ p1 ∨ p2 < 0 ∨ v z0 11 ≤ p2 ∨ v (v z0 10) p1 < 0 ∨ v (v z0 10) p2 < 0 ∨ p1 = p2 ∨ zand (zshr (v (v (v z0 10) p1) 4) p2) 1 ≠ 0))
    (Y1 : (y = 0 ∧ (p1 < 0 ∨ g 50 ≤ p1 ∨ p2 < 0 ∨ g 50 ≤ p2 ∨ p1 = p2 ∨ a 41 (12 * p1 + p2) ≠ 0)) ∨ (y = 1 ∧ 0 ≤ p1 ∧ p1 < g 50 ∧ 0 ≤ p2 ∧ p2 < g 50 ∧ p1 ≠ p2 ∧ a 41 (12 * p1 + p2) = 0)) :
    (x = 0 ∧ y = 0) ∨ (x = 1 ∧ y = 1 ∧ 0 ≤ p1 ∧ p1 < g 50 ∧ 0 ≤ p2 ∧ p2 < g 50 ∧ p1 ≠ p2) := by
  rw [hc] at X1 X3
  rcases Y1 with ⟨ey, d⟩ | ⟨ey, a1, a2, a3, a4, a5, a6⟩
  · rcases X1 with ex | ⟨ex, b1, b2, b3, b4, b5, b6, b7⟩
    · exact Or.inl ⟨ex, ey⟩
    · exfalso
      have e := X2 ex
      rw [(hh.2.2 p1 p2 b1 (Int.lt_of_lt_of_le b2 hg) b3 (Int.lt_of_lt_of_le b4 hg)).1 b2] at e
      clear X2 X3
      rcases d with d | d | d | d | d | d <;> omega
  · rcases X1 with ex | ⟨ex, b⟩
    · exfalso
      have e := X3 ex
      have f := (hh.2.2 p1 p2 a1 (Int.lt_of_lt_of_le a2 hg) a3 (Int.lt_of_lt_of_le a4 hg)).1 a2
      have i1 := hh.1 p1 a1 a2
      have i2 := hh.1 p2 a3 a4
      clear X2 X3
      rcases e with e | e | e | e | e | e | e | e
      all_goals first | omega | exact e (f.trans a6)
    · exact Or.inr ⟨ex, ey, a1, a2, a3, a4, a5⟩
end RX

/-! ===== what was told: the class's chains, the reference's row ===== -/
def chw (d e : Int → Int) (on : Int) : Nat → Int → Int
  | 0, _ => -1
  | n + 1, t => if 0 ≤ t ∧ t < 600 then (if d t ≤ on then t else chw d e on n (e t)) else -1
def tell0 (l : Int → Int) (f : Int) : Int := if 0 ≤ f ∧ f < 40 then l f else -1
def vat (f : Int → Int) (t : Int) : Int := if 0 ≤ t ∧ t < 600 then f t else -1
def knw (F D : Int → Int) (f d : Int) : Nat → Int
  | 0 => -1
  | n + 1 => if F (n : Int) = f ∧ D (n : Int) ≤ d then (n : Int) else knw F D f d n
def kat (f : Int → Int) (k : Int) : Int := if k = -1 then -1 else f k
def lst (F : Int → Int) (f : Int) : Nat → Int
  | 0 => -1
  | n + 1 => if F (n : Int) = f then (n : Int) else lst F f n
theorem tell0_in {l : Int → Int} {f : Int} (h0 : 0 ≤ f) (h1 : f < 40) : tell0 l f = l f := if_pos ⟨h0, h1⟩
theorem tell0_out {l : Int → Int} {f : Int} (h : ¬ (0 ≤ f ∧ f < 40)) : tell0 l f = -1 := if_neg h
theorem vat_in {f : Int → Int} {t : Int} (h0 : 0 ≤ t) (h1 : t < 600) : vat f t = f t := if_pos ⟨h0, h1⟩
theorem vat_out {f : Int → Int} {t : Int} (h : ¬ (0 ≤ t ∧ t < 600)) : vat f t = -1 := if_neg h
theorem kat_no {f : Int → Int} {k : Int} (h : k = -1) : kat f k = -1 := if_pos h
theorem kat_at {f : Int → Int} {k : Int} (h : ¬ k = -1) : kat f k = f k := if_neg h
section NW
variable {d e F D l : Int → Int} {on t t0 c i f dd k : Int} {n m : Nat}
theorem chw_0 (h : t = t0) : chw d e on (600 - 0 : Int).toNat t = chw d e on 600 t0 := by subst h; rfl
theorem chw_s (h : chw d e on (600 - i).toNat t = c) (i0 : 0 ≤ i) (i1 : i < 600) (t0 : 0 ≤ t) (t1 : t < 600) (hd : ¬ d t ≤ on) : chw d e on (600 - (i + 1)).toNat (e t) = c := by
  rw [show (600 - i).toNat = (600 - (i + 1)).toNat + 1 by omega] at h
  unfold chw at h
  rw [if_pos ⟨t0, t1⟩, if_neg hd] at h
  exact h
theorem chw_hit (h : chw d e on (600 - i).toNat t = c) (i0 : 0 ≤ i) (i1 : i < 600) (t0 : 0 ≤ t) (t1 : t < 600) (hd : d t ≤ on) : t = c := by
  rw [show (600 - i).toNat = (600 - (i + 1)).toNat + 1 by omega] at h
  unfold chw at h
  rw [if_pos ⟨t0, t1⟩, if_pos hd] at h
  exact h
theorem chw_out (h : chw d e on (600 - i).toNat t = c) (i0 : 0 ≤ i) (ho : 600 ≤ i ∨ t < 0 ∨ 600 ≤ t) : -1 = c := by
  by_cases q : 600 ≤ i
  · rw [show (600 - i).toNat = 0 by omega] at h
    exact h
  · rw [show (600 - i).toNat = (600 - (i + 1)).toNat + 1 by omega] at h
    unfold chw at h
    rw [if_neg (by omega)] at h
    exact h
theorem chw_neg (h : t < 0) : chw d e on n t = -1 := by
  cases n with
  | zero => rfl
  | succ n => unfold chw; rw [if_neg (by omega)]
theorem knw_0 : knw F D f dd (k - 1 + 1).toNat = knw F D f dd k.toNat := by rw [show k - 1 + 1 = k by omega]
theorem knw_s (h : knw F D f dd (k + 1).toNat = c) (h0 : 0 ≤ k) (hn : ¬ (F k = f ∧ D k ≤ dd)) : knw F D f dd (k + (-1) + 1).toNat = c := by
  rw [show (k + 1).toNat = (k + (-1) + 1).toNat + 1 by omega] at h
  unfold knw at h
  rw [show (((k + (-1) + 1).toNat : Nat) : Int) = k by omega, if_neg hn] at h
  exact h
theorem knw_hit (h : knw F D f dd (k + 1).toNat = c) (h0 : 0 ≤ k) (h1 : F k = f) (h2 : D k ≤ dd) : k = c := by
  rw [show (k + 1).toNat = k.toNat + 1 by omega] at h
  unfold knw at h
  rw [show ((k.toNat : Nat) : Int) = k by omega, if_pos ⟨h1, h2⟩] at h
  exact h
theorem knw_out (h : knw F D f dd (k + 1).toNat = c) (h0 : k < 0) (h1 : -1 ≤ k) : -1 = c := by
  rw [show (k + 1).toNat = 0 by omega] at h
  exact h
theorem knw_b : ∀ n : Nat, -1 ≤ knw F D f dd n ∧ knw F D f dd n < n
  | 0 => ⟨Int.le_refl _, by show (-1 : Int) < 0; omega⟩
  | n + 1 => by
    have := knw_b n
    unfold knw
    split <;> omega
/-- the chains and the row say the same -/
theorem chw_knw {on : Int} : ∀ (n : Nat), n ≤ 600 → (∀ k : Int, 0 ≤ k → k < n → d k = D k ∧ e k = lst F (F k) k.toNat) → ∀ m : Nat, n ≤ m → chw d e on m (lst F f n) = knw F D f on n
  | 0, _, _, m, _ => chw_neg (by show (-1 : Int) < 0; omega)
  | n + 1, hn, h, m, hm => by
    have hs : ∀ k : Int, 0 ≤ k → k < n → d k = D k ∧ e k = lst F (F k) k.toNat := fun k h0 h1 => h k h0 (by omega)
    by_cases c : F (n : Int) = f
    · obtain ⟨m, rfl⟩ : ∃ m', m = m' + 1 := ⟨m - 1, by omega⟩
      unfold lst knw
      rw [if_pos c]
      unfold chw
      rw [if_pos ⟨by omega, by omega⟩, (h (n : Int) (by omega) (by omega)).1]
      by_cases q : D (n : Int) ≤ on
      · rw [if_pos q, if_pos ⟨c, q⟩]
      · rw [if_neg q, if_neg (fun z => q z.2), (h (n : Int) (by omega) (by omega)).2, c]
        exact chw_knw n (by omega) hs m (by omega)
    · unfold lst knw
      rw [if_neg c, if_neg (fun z => c z.1)]
      exact chw_knw n (by omega) hs m (by omega)
end NW
/-- NEWS -/
def rNews (v : Int → Int → Int) (z0 : Int) (g : Nat → Int) (a : Nat → Int → Int) : Prop :=
  (∀ k : Int, 0 ≤ k → k < g 66 → v (v (v z0 14) 1) k = a 52 k ∧ v (v (v z0 14) 2) k = a 53 k ∧ v (v (v z0 14) 3) k = a 54 k ∧ v (v (v z0 14) 4) k = lst (a 51) (a 51 k) k.toNat) ∧
  ∀ f : Int, 0 ≤ f → f < 40 → v (v (v z0 14) 0) f = lst (a 51) f (g 66).toNat
section RN
variable {L L1 : List Nat} {K K1 : Int → Nat} {N N1 : Int → Int} {v v1 u : Int → Int → Int} {W : List (Nat × Int)} {z0 : Int} {g g' : Nat → Int} {a a' : Nat → Int → Int} {p1 p2 p3 nw : Int}
theorem rNews_x (hI : xI L K N v) (hz : ok L K z0 12) (f : frE L K W v1 v) (w0 : inW W 12 14 = false) (w1 : ∀ j, inW W 42 j = false) (w2 : ∀ j, inW W 43 j = false) (w3 : ∀ j, inW W 44 j = false) (w4 : ∀ j, inW W 45 j = false) (w5 : ∀ j, inW W 46 j = false) (h5 : inW W 5 0 = false) (h6 : inW W 5 1 = false) (h7 : inW W 5 2 = false) (h8 : inW W 5 3 = false) (h9 : inW W 5 4 = false) (h : rNews v z0 g a) : rNews v1 z0 g a := by
  have o := xf_12_14 hI hz
  have e0 := frE_use hz f w0
  have a0 := frE_use o f h5
  have a1 := frE_use o f h6
  have a2 := frE_use o f h7
  have a3 := frE_use o f h8
  have a4 := frE_use o f h9
  unfold rNews
  rw [e0, a0, a1, a2, a3, a4]
  refine ⟨fun k k0 k1 => ?_, fun q q0 q1 => ?_⟩
  · rw [frE_use (xf_5_1 hI o) f (w2 k), frE_use (xf_5_2 hI o) f (w3 k), frE_use (xf_5_3 hI o) f (w4 k), frE_use (xf_5_4 hI o) f (w5 k)]; exact h.1 k k0 k1
  · rw [frE_use (xf_5_0 hI o) f (w1 q)]; exact h.2 q q0 q1
theorem rNews_m (e0 : g' 66 = g 66) (e1 : a' 51 = a 51) (e2 : a' 52 = a 52) (e3 : a' 53 = a 53) (e4 : a' 54 = a 54) (h : rNews v z0 g a) : rNews v z0 g' a' := by
  unfold rNews
  rw [e0, e1, e2, e3, e4]; exact h
theorem lst_c {F F' : Int → Int} {f : Int} : ∀ n : Nat, (∀ k : Int, 0 ≤ k → k < n → F' k = F k) → lst F' f n = lst F f n
  | 0, _ => rfl
  | n + 1, h => by
    unfold lst
    rw [h (n : Int) (by omega) (by omega), lst_c n (fun k k0 k1 => h k k0 (by omega))]
theorem rNews_val (h : rNews v z0 g a) (hg : 0 ≤ g 66 ∧ g 66 ≤ 600) {f d : Int} (h0 : 0 ≤ f) (h1 : f < 40) (q : Nat) (w : Int) (hw : ∀ k : Int, 0 ≤ k → k < g 66 → v w k = a q k) : vat (v w) (chw (v (v (v z0 14) 3)) (v (v (v z0 14) 4)) d 600 (tell0 (v (v (v z0 14) 0)) f)) = kat (a q) (knw (a 51) (a 54) f d (g 66).toNat) := by
  rw [tell0_in h0 h1, h.2 f h0 h1, chw_knw (F := a 51) (D := a 54) (g 66).toNat (by omega) (fun k k0 k1 => ⟨(h.1 k k0 (by omega)).2.2.1, (h.1 k k0 (by omega)).2.2.2⟩) 600 (by omega)]
  have b := knw_b (F := a 51) (D := a 54) (f := f) (dd := d) (g 66).toNat
  generalize knw (a 51) (a 54) f d (g 66).toNat = k at b
  by_cases c : k = -1
  · rw [kat_no c, vat_out (by omega)]
  · rw [kat_at c, vat_in (by omega) (by omega)]; exact hw k (by omega) (by omega)
theorem vat_no {x y l : Int → Int} {w : Int → Int} {f d : Int} (h : f < 0 ∨ 40 ≤ f) : vat w (chw x y d 600 (tell0 l f)) = -1 := by
  rw [tell0_out (by omega), chw_neg (by omega), vat_out (by omega)]
theorem rNews_new (hI : xI L K N v) (hz : ok L K z0 12) (e : u = vu (vu (vu (vu (vu (vu v (v (v z0 14) 1) (v (v z0 14) 5) p2) (v (v z0 14) 2) (v (v z0 14) 5) p3) (v (v z0 14) 3) (v (v z0 14) 5) nw) (v (v z0 14) 4) (v (v z0 14) 5) (v (v (v z0 14) 0) p1)) (v (v z0 14) 0) p1 (v (v z0 14) 5)) (v z0 14) 5 (v (v z0 14) 5 + 1)) (et : v (v z0 14) 5 = g 66) (hg : 0 ≤ g 66) (eg : g' 66 = g 66 + 1) (e1 : a' 51 = up (a 51) (g 66) p1) (e2 : a' 52 = up (a 52) (g 66) p2) (e3 : a' 53 = up (a 53) (g 66) p3) (e4 : a' 54 = up (a 54) (g 66) nw) (p0 : 0 ≤ p1) (pb : p1 < 40) (h : rNews v z0 g a) : rNews u z0 g' a' := by
  have o := xf_12_14 hI hz
  have o0 := xf_5_0 hI o
  have o1 := xf_5_1 hI o
  have o2 := xf_5_2 hI o
  have o3 := xf_5_3 hI o
  have o4 := xf_5_4 hI o
  rw [et] at e
  have n0 : ∀ y k i j, ok L K y k → k ≠ 43 → k ≠ 44 → k ≠ 45 → k ≠ 46 → k ≠ 42 → (k ≠ 5 ∨ i ≠ 5) → j = v y i → u y i = j := by
    intro y k i j oy k1 k2 k3 k4 k5 k6 ej
    rw [e, vu_ne _ (fun q => k6.elim (fun z => ok_ne oy o z q.1) (fun z => z q.2)), vu_ne _ (fun q => ok_ne oy o0 k5 q.1), vu_ne _ (fun q => ok_ne oy o4 k4 q.1), vu_ne _ (fun q => ok_ne oy o3 k3 q.1), vu_ne _ (fun q => ok_ne oy o2 k2 q.1), vu_ne _ (fun q => ok_ne oy o1 k1 q.1), ej]
  have z14 : u z0 14 = v z0 14 := n0 z0 12 14 _ hz (by decide) (by decide) (by decide) (by decide) (by decide) (Or.inl (by decide)) rfl
  have f0 : u (v z0 14) 0 = v (v z0 14) 0 := n0 _ 5 0 _ o (by decide) (by decide) (by decide) (by decide) (by decide) (Or.inr (by decide)) rfl
  have f1 : u (v z0 14) 1 = v (v z0 14) 1 := n0 _ 5 1 _ o (by decide) (by decide) (by decide) (by decide) (by decide) (Or.inr (by decide)) rfl
  have f2 : u (v z0 14) 2 = v (v z0 14) 2 := n0 _ 5 2 _ o (by decide) (by decide) (by decide) (by decide) (by decide) (Or.inr (by decide)) rfl
  have f3 : u (v z0 14) 3 = v (v z0 14) 3 := n0 _ 5 3 _ o (by decide) (by decide) (by decide) (by decide) (by decide) (Or.inr (by decide)) rfl
  have f4 : u (v z0 14) 4 = v (v z0 14) 4 := n0 _ 5 4 _ o (by decide) (by decide) (by decide) (by decide) (by decide) (Or.inr (by decide)) rfl
  have r1 : ∀ k, u (v (v z0 14) 1) k = if k = g 66 then p2 else v (v (v z0 14) 1) k := fun k => by
    rw [e, vu_ne _ (fun q => ok_ne o1 o (by decide) q.1), vu_ne _ (fun q => ok_ne o1 o0 (by decide) q.1), vu_ne _ (fun q => ok_ne o1 o4 (by decide) q.1), vu_ne _ (fun q => ok_ne o1 o3 (by decide) q.1), vu_ne _ (fun q => ok_ne o1 o2 (by decide) q.1)]
    by_cases c : k = g 66
    · rw [if_pos c, c, vu_self]
    · rw [if_neg c, vu_ne _ (fun q => c q.2)]
  have r2 : ∀ k, u (v (v z0 14) 2) k = if k = g 66 then p3 else v (v (v z0 14) 2) k := fun k => by
    rw [e, vu_ne _ (fun q => ok_ne o2 o (by decide) q.1), vu_ne _ (fun q => ok_ne o2 o0 (by decide) q.1), vu_ne _ (fun q => ok_ne o2 o4 (by decide) q.1), vu_ne _ (fun q => ok_ne o2 o3 (by decide) q.1)]
    by_cases c : k = g 66
    · rw [if_pos c, c, vu_self]
    · rw [if_neg c, vu_ne _ (fun q => c q.2), vu_ne _ (fun q => ok_ne o2 o1 (by decide) q.1)]
  have r3 : ∀ k, u (v (v z0 14) 3) k = if k = g 66 then nw else v (v (v z0 14) 3) k := fun k => by
    rw [e, vu_ne _ (fun q => ok_ne o3 o (by decide) q.1), vu_ne _ (fun q => ok_ne o3 o0 (by decide) q.1), vu_ne _ (fun q => ok_ne o3 o4 (by decide) q.1)]
    by_cases c : k = g 66
    · rw [if_pos c, c, vu_self]
    · rw [if_neg c, vu_ne _ (fun q => c q.2), vu_ne _ (fun q => ok_ne o3 o2 (by decide) q.1), vu_ne _ (fun q => ok_ne o3 o1 (by decide) q.1)]
  have r4 : ∀ k, u (v (v z0 14) 4) k = if k = g 66 then v (v (v z0 14) 0) p1 else v (v (v z0 14) 4) k := fun k => by
    rw [e, vu_ne _ (fun q => ok_ne o4 o (by decide) q.1), vu_ne _ (fun q => ok_ne o4 o0 (by decide) q.1)]
    by_cases c : k = g 66
    · rw [if_pos c, c, vu_self]
    · rw [if_neg c, vu_ne _ (fun q => c q.2), vu_ne _ (fun q => ok_ne o4 o3 (by decide) q.1), vu_ne _ (fun q => ok_ne o4 o2 (by decide) q.1), vu_ne _ (fun q => ok_ne o4 o1 (by decide) q.1)]
  have r0 : ∀ k, u (v (v z0 14) 0) k = if k = p1 then g 66 else v (v (v z0 14) 0) k := fun k => by
    rw [e, vu_ne _ (fun q => ok_ne o0 o (by decide) q.1)]
    by_cases c : k = p1
    · rw [if_pos c, c, vu_self]
    · rw [if_neg c, vu_ne _ (fun q => c q.2), vu_ne _ (fun q => ok_ne o0 o4 (by decide) q.1), vu_ne _ (fun q => ok_ne o0 o3 (by decide) q.1), vu_ne _ (fun q => ok_ne o0 o2 (by decide) q.1), vu_ne _ (fun q => ok_ne o0 o1 (by decide) q.1)]
  have hl : ∀ (f : Int) (n : Nat), (n : Int) ≤ g 66 → lst (a' 51) f n = lst (a 51) f n := fun f n hn => lst_c n (fun k k0 k1 => by rw [e1, up_ne _ _ (by omega)])
  unfold rNews
  rw [z14, f0, f1, f2, f3, f4, eg]
  refine ⟨fun k k0 k1 => ?_, fun f q0 q1 => ?_⟩
  · rw [r1, r2, r3, r4, e2, e3, e4]
    by_cases c : k = g 66
    · subst c
      rw [if_pos rfl, if_pos rfl, if_pos rfl, if_pos rfl, up_self, up_self, up_self, e1, up_self, h.2 p1 p0 pb]
      refine ⟨rfl, rfl, rfl, ?_⟩
      rw [← e1, hl p1 _ (by omega)]
    · rw [if_neg c, if_neg c, if_neg c, if_neg c, up_ne _ _ c, up_ne _ _ c, up_ne _ _ c, hl _ _ (by omega), e1, up_ne _ _ c]
      exact h.1 k k0 (by omega)
  · rw [r0, show (g 66 + 1).toNat = (g 66).toNat + 1 by omega]
    unfold lst
    rw [show (((g 66).toNat : Nat) : Int) = g 66 by omega, e1, up_self, ← e1, hl f _ (by omega)]
    by_cases c : f = p1
    · rw [if_pos c, if_pos c.symm]
    · rw [if_neg c, if_neg (fun q => c q.symm)]
      exact h.2 f q0 q1
end RN

