/-! ===== what a HEADING is: bytes, and how many count ===== -/
def jby (a b c i : Int32) : Int32 := (Int32.toUInt32 (if i < 4 then a else if i < 8 then b else c) >>> (Int32.toUInt32 (24 - 8 * (i &&& 3)) &&& Int32.toUInt32 31)).toInt32 &&& 255
abbrev jmark (m : Int32) : Prop := (97 ≤ m ∧ m ≤ 122) ∨ (48 ≤ m ∧ m ≤ 57)

def jH (a b c : Int32) : Nat → Option (Nat × Int32)
  | 0 => some (0, 32)
  | k + 1 => match jH a b c k with
    | none => none
    | some (n, la) => if jby a b c (nI k) = 0 then some (n, la) else if n < k ∨ ¬ (jmark (jby a b c (nI k)) ∨ (jby a b c (nI k) = 32 ∧ ¬ la = 32)) then none else some (n + 1, jby a b c (nI k))
def jN (a b c : Int32) : Nat := match jH a b c 12 with
  | none => 0
  | some (n, la) => if la = 32 then 0 else n
theorem jH_zero {a b c : Int32} {k n : Nat} {la : Int32} (h : jH a b c k = some (n, la)) (z : jby a b c (nI k) = 0) : jH a b c (k + 1) = some (n, la) := by
  simp only [jH, h, z, if_true]
theorem jH_bad {a b c : Int32} {k n : Nat} {la : Int32} (h : jH a b c k = some (n, la)) (z : ¬ jby a b c (nI k) = 0) (y : n < k ∨ ¬ (jmark (jby a b c (nI k)) ∨ (jby a b c (nI k) = 32 ∧ ¬ la = 32))) : jH a b c (k + 1) = none := by
  simp only [jH, h]; rw [if_neg z, if_pos y]
theorem jH_good {a b c : Int32} {k n : Nat} {la : Int32} (h : jH a b c k = some (n, la)) (z : ¬ jby a b c (nI k) = 0) (y : ¬ n < k) (w : jmark (jby a b c (nI k)) ∨ (jby a b c (nI k) = 32 ∧ ¬ la = 32)) : jH a b c (k + 1) = some (n + 1, jby a b c (nI k)) := by
  simp only [jH, h]; rw [if_neg z, if_neg (fun q => q.elim y (fun q2 => q2 w))]
theorem jH_none {a b c : Int32} {k : Nat} (h : jH a b c k = none) : ∀ d, jH a b c (k + d) = none
  | 0 => h
  | d + 1 => by
    have := jH_none h d
    show jH a b c ((k + d) + 1) = none
    simp only [jH, this]
theorem jN_none {a b c : Int32} {k : Nat} (hk : k ≤ 12) (h : jH a b c k = none) : jN a b c = 0 := by
  have := jH_none h (12 - k)
  rw [show k + (12 - k) = 12 by omega] at this
  simp only [jN, this]
/-- what holds of every state: n counts at most k, and the last byte is that of place n - 1 -/
theorem jH_inv {a b c : Int32} : ∀ {k n : Nat} {la : Int32}, jH a b c k = some (n, la) → n ≤ k ∧ (n = 0 → la = 32) ∧ (0 < n → la = jby a b c (nI (n - 1)))
  | 0, n, la, h => by
    simp only [jH, Option.some.injEq, Prod.mk.injEq] at h
    obtain ⟨rfl, rfl⟩ := h
    exact ⟨Nat.le_refl 0, fun _ => rfl, fun z => absurd z (Nat.lt_irrefl 0)⟩
  | k + 1, n, la, h => by
    cases e : jH a b c k with
    | none => simp only [jH, e] at h; cases h
    | some q =>
      obtain ⟨n0, la0⟩ := q
      have ih := jH_inv e
      by_cases z : jby a b c (nI k) = 0
      · rw [jH_zero e z] at h
        simp only [Option.some.injEq, Prod.mk.injEq] at h
        obtain ⟨rfl, rfl⟩ := h
        exact ⟨Nat.le_succ_of_le ih.1, ih.2⟩
      · by_cases y : n0 < k ∨ ¬ (jmark (jby a b c (nI k)) ∨ (jby a b c (nI k) = 32 ∧ ¬ la0 = 32))
        · rw [jH_bad e z y] at h; cases h
        · have y1 : ¬ n0 < k := fun q => y (Or.inl q)
          have w : jmark (jby a b c (nI k)) ∨ (jby a b c (nI k) = 32 ∧ ¬ la0 = 32) := Classical.not_not.mp fun q => y (Or.inr q)
          rw [jH_good e z y1 w] at h
          simp only [Option.some.injEq, Prod.mk.injEq] at h
          obtain ⟨rfl, rfl⟩ := h
          have : n0 = k := by have := ih.1; omega
          subst this
          exact ⟨Nat.le_refl _, fun q => absurd q (by omega), fun _ => by simp⟩
theorem jN_some {a b c : Int32} {n : Nat} {la : Int32} (h : jH a b c 12 = some (n, la)) : jN a b c = if la = 32 then 0 else n := by simp only [jN, h]
theorem jN_le (a b c : Int32) : jN a b c ≤ 12 := by
  unfold jN
  split
  · omega
  · rename_i n la h
    have := (jH_inv h).1
    split <;> omega
theorem jy_nle {x k : Int32} (h : x < k) : ¬ k ≤ x := by rw [ji_lt] at h; rw [ji_le]; omega
theorem jy_lt {x k : Int32} (h : ¬ k ≤ x) : x < k := by rw [ji_le] at h; rw [ji_lt]; omega
theorem jy_0 (i : Nat) (h : i < 2 ^ 31) : (0 : Int32) ≤ nI i := nI_pos' h
theorem jy_11 {i : Nat} (h : i < 12) : nI i ≤ (11 : Int32) := nI_le (a := i) (b := 11) (by omega) (by omega)
theorem jy_nlt {i n : Nat} (h : nI i ≤ nI n) (hi : i < 12) (hn : n ≤ 12) : ¬ n < i := by
  have := (nI_leI (by omega) (by omega)).mp h
  omega
theorem jy_lt2 {i n : Nat} (h : ¬ nI i ≤ nI n) (hi : i < 12) (hn : n ≤ 12) : n < i := by
  have : ¬ i ≤ n := fun q => h ((nI_leI (by omega) (by omega)).mpr q)
  omega

