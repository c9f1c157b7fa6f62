/-! ===== what a HEADING is: bytes, and how many count ===== -/
def jby (a b c i : Int32) : Int32 := (Int32.toUInt32 (if i < 4 then a else if i < 8 then b else c) >>> (Int32.toUInt32 (24 - 8 * (i &&& 3)) &&& Int32.toUInt32 31)).toInt32 &&& 255
abbrev jmark (m : Int32) : Prop := (97 ≤ m ∧ m ≤ 122) ∨ (48 ≤ m ∧ m ≤ 57)

def jH (a b c : Int32) : Nat → Option (Nat × Int32)
  | 0 => some (0, 32)
  | k + 1 => match jH a b c k with
    | none => none
    | some (n, la) => if jby a b c (nI k) = 0 then some (n, la) else if n < k ∨ ¬ (jmark (jby a b c (nI k)) ∨ (jby a b c (nI k) = 32 ∧ ¬ la = 32)) then none else some (n + 1, jby a b c (nI k))
def jN (a b c : Int32) : Nat := match jH a b c 12 with
  | none => 0
  | some (n, la) => if la = 32 then 0 else n
theorem jH_zero {a b c : Int32} {k n : Nat} {la : Int32} (h : jH a b c k = some (n, la)) (z : jby a b c (nI k) = 0) : jH a b c (k + 1) = some (n, la) := by
  simp only [jH, h, z, if_true]
theorem jH_bad {a b c : Int32} {k n : Nat} {la : Int32} (h : jH a b c k = some (n, la)) (z : ¬ jby a b c (nI k) = 0) (y : n < k ∨ ¬ (jmark (jby a b c (nI k)) ∨ (jby a b c (nI k) = 32 ∧ ¬ la = 32))) : jH a b c (k + 1) = none := by
  simp only [jH, h]; rw [if_neg z, if_pos y]
theorem jH_good {a b c : Int32} {k n : Nat} {la : Int32} (h : jH a b c k = some (n, la)) (z : ¬ jby a b c (nI k) = 0) (y : ¬ n < k) (w : jmark (jby a b c (nI k)) ∨ (jby a b c (nI k) = 32 ∧ ¬ la = 32)) : jH a b c (k + 1) = some (n + 1, jby a b c (nI k)) := by
  simp only [jH, h]; rw [if_neg z, if_neg (fun q => q.elim y (fun q2 => q2 w))]
theorem jH_none {a b c : Int32} {k : Nat} (h : jH a b c k = none) : ∀ d, jH a b c (k + d) = none
  | 0 => h
  | d + 1 => by
    have := jH_none h d
    show jH a b c ((k + d) + 1) = none
    simp only [jH, this]
theorem jN_none {a b c : Int32} {k : Nat} (hk : k ≤ 12) (h : jH a b c k = none) : jN a b c = 0 := by
  have := jH_none h (12 - k)
  rw [show k + (12 - k) = 12 by omega] at this
  simp only [jN, this]
/-- what holds of every state: n counts at most k, and the last byte is that of place n - 1 -/
theorem jH_inv {a b c : Int32} : ∀ {k n : Nat} {la : Int32}, jH a b c k = some (n, la) → n ≤ k ∧ (n = 0 → la = 32) ∧ (0 < n → la = jby a b c (nI (n - 1)))
  | 0, n, la, h => by
    simp only [jH, Option.some.injEq, Prod.mk.injEq] at h
    obtain ⟨rfl, rfl⟩ := h
    exact ⟨Nat.le_refl 0, fun _ => rfl, fun z => absurd z (Nat.lt_irrefl 0)⟩
  | k + 1, n, la, h => by
    cases e : jH a b c k with
    | none => simp only [jH, e] at h; cases h
    | some q =>
      obtain ⟨n0, la0⟩ := q
      have ih := jH_inv e
      by_cases z : jby a b c (nI k) = 0
      · rw [jH_zero e z] at h
        simp only [Option.some.injEq, Prod.mk.injEq] at h
        obtain ⟨rfl, rfl⟩ := h
        exact ⟨Nat.le_succ_of_le ih.1, ih.2⟩
      · by_cases y : n0 < k ∨ ¬ (jmark (jby a b c (nI k)) ∨ (jby a b c (nI k) = 32 ∧ ¬ la0 = 32))
        · rw [jH_bad e z y] at h; cases h
        · have y1 : ¬ n0 < k := fun q => y (Or.inl q)
          have w : jmark (jby a b c (nI k)) ∨ (jby a b c (nI k) = 32 ∧ ¬ la0 = 32) := Classical.not_not.mp fun q => y (Or.inr q)
          rw [jH_good e z y1 w] at h
          simp only [Option.some.injEq, Prod.mk.injEq] at h
          obtain ⟨rfl, rfl⟩ := h
          have : n0 = k := by have := ih.1; omega
          subst this
          exact ⟨Nat.le_refl _, fun q => absurd q (by omega), fun _ => by simp⟩
theorem jN_some {a b c : Int32} {n : Nat} {la : Int32} (h : jH a b c 12 = some (n, la)) : jN a b c = if la = 32 then 0 else n := by simp only [jN, h]
theorem jN_le (a b c : Int32) : jN a b c ≤ 12 := by
  unfold jN
  split
  · omega
  · rename_i n la h
    have := (jH_inv h).1
    split <;> omega
theorem jy_nle {x k : Int32} (h : x < k) : ¬ k ≤ x := by rw [ji_lt] at h; rw [ji_le]; omega
theorem jy_lt {x k : Int32} (h : ¬ k ≤ x) : x < k := by rw [ji_le] at h; rw [ji_lt]; omega
theorem jy_0 (i : Nat) (h : i < 2 ^ 31) : (0 : Int32) ≤ nI i := nI_pos' h
theorem jy_11 {i : Nat} (h : i < 12) : nI i ≤ (11 : Int32) := nI_le (a := i) (b := 11) (by omega) (by omega)
theorem jy_nlt {i n : Nat} (h : nI i ≤ nI n) (hi : i < 12) (hn : n ≤ 12) : ¬ n < i := by
  have := (nI_leI (by omega) (by omega)).mp h
  omega
theorem jy_lt2 {i n : Nat} (h : ¬ nI i ≤ nI n) (hi : i < 12) (hn : n ≤ 12) : n < i := by
  have : ¬ i ≤ n := fun q => h ((nI_leI (by omega) (by omega)).mpr q)
  omega
theorem jy_in0 {n : Nat} (a : (1 : Int32) ≤ nI n) (b : nI n ≤ (12 : Int32)) : vp_in 0 n := by
  refine vp_in_iff.mpr ⟨by decide, ?_⟩
  have h0 : (0 : Int32).toInt = 0 := rfl
  rw [h0]
  by_cases hn : n = 0
  · subst hn; exact absurd a (by decide)
  · omega
theorem jy_12 {n : Nat} (h : n ≤ 12) : nI n ≤ (12 : Int32) := nI_le (a := n) (b := 12) h (by omega)
theorem jy_N12 (a b c : Int32) : nI (jN a b c) ≤ (12 : Int32) := jy_12 (jN_le a b c)
theorem jy_N1 {a b c : Int32} (h : ¬ jN a b c = 0) : (1 : Int32) ≤ nI (jN a b c) := nI_le (a := 1) (b := jN a b c) (by omega) (by have := jN_le a b c; omega)
def jsg (x : Int32) : Int32 := x.toInt8.toInt32
theorem jsg_T (x : Int32) : (jsg x).toInt = x.toInt.bmod 256 := by
  unfold jsg
  rw [Int8.toInt_toInt32, Int32.toInt_toInt8]
theorem jsg_c {x y : Int32} (h : x.toInt % 256 = y.toInt % 256) : jsg x = jsg y := by
  rw [ji_eq, jsg_T, jsg_T, Int.bmod_def, Int.bmod_def]
  have h2 : x.toInt % ((256 : Nat) : Int) = y.toInt % ((256 : Nat) : Int) := h
  rw [h2]
theorem jby_R (a b c i : Int32) : 0 ≤ (jby a b c i).toInt ∧ (jby a b c i).toInt ≤ 255 := by
  obtain ⟨j, hj, e⟩ := pk_andE ((Int32.toUInt32 (if i < 4 then a else if i < 8 then b else c) >>> (Int32.toUInt32 (24 - 8 * (i &&& 3)) &&& Int32.toUInt32 31)).toInt32) (m := 255) 8 (by decide)
  have e2 : jby a b c i = nI j := e
  rw [e2, nI_toInt (by omega)]
  omega
theorem jsg_B (a b c i : Int32) : (jsg (jby a b c i)).toInt = if (jby a b c i).toInt < 128 then (jby a b c i).toInt else (jby a b c i).toInt - 256 := by
  have h := jby_R a b c i
  rw [jsg_T, Int.bmod_def]
  split <;> split <;> omega
theorem jsg_0 {a b c i : Int32} : jsg (jby a b c i) = 0 ↔ jby a b c i = 0 := by
  have h := jby_R a b c i
  have h2 := jsg_B a b c i
  rw [ji_eq, ji_eq, show (0 : Int32).toInt = 0 from rfl, h2]
  split <;> omega
theorem jsg_32 {a b c i : Int32} : jsg (jby a b c i) = 32 ↔ jby a b c i = 32 := by
  have h := jby_R a b c i
  have h2 := jsg_B a b c i
  rw [ji_eq, ji_eq, show (32 : Int32).toInt = 32 from rfl, h2]
  split <;> omega
theorem jq_l {a b c i : Int32} (h : 97 ≤ jsg (jby a b c i) ∧ jsg (jby a b c i) ≤ 122) : jmark (jby a b c i) := by
  have h1 := jby_R a b c i
  have h2 := jsg_B a b c i
  simp only [ji_le, show (97 : Int32).toInt = 97 from rfl, show (122 : Int32).toInt = 122 from rfl] at h
  refine Or.inl ?_
  simp only [ji_le, show (97 : Int32).toInt = 97 from rfl, show (122 : Int32).toInt = 122 from rfl]
  split at h2 <;> omega
theorem jq_d {a b c i : Int32} (h : 48 ≤ jsg (jby a b c i) ∧ jsg (jby a b c i) ≤ 57) : jmark (jby a b c i) := by
  have h1 := jby_R a b c i
  have h2 := jsg_B a b c i
  simp only [ji_le, show (48 : Int32).toInt = 48 from rfl, show (57 : Int32).toInt = 57 from rfl] at h
  refine Or.inr ?_
  simp only [ji_le, show (48 : Int32).toInt = 48 from rfl, show (57 : Int32).toInt = 57 from rfl]
  split at h2 <;> omega
theorem jq_nm {a b c i : Int32} (h : ¬ (97 ≤ jsg (jby a b c i) ∧ jsg (jby a b c i) ≤ 122)) (k : ¬ (48 ≤ jsg (jby a b c i) ∧ jsg (jby a b c i) ≤ 57)) : ¬ jmark (jby a b c i) := by
  have h1 := jby_R a b c i
  have h2 := jsg_B a b c i
  simp only [jmark, ji_le, show (97 : Int32).toInt = 97 from rfl, show (122 : Int32).toInt = 122 from rfl, show (48 : Int32).toInt = 48 from rfl, show (57 : Int32).toInt = 57 from rfl] at h k ⊢
  split at h2 <;> omega
theorem jq_32 {a b c i : Int32} (h : jsg (jby a b c i) = 32) : ¬ jmark (jby a b c i) := by
  have e := jsg_32.mp h
  rw [e]; decide
theorem jq_b1 {a b c i la : Int32} (h : jsg (jby a b c i) = 32) (k : la = 32) : ¬ (jmark (jby a b c i) ∨ (jby a b c i = 32 ∧ ¬ la = 32)) := fun q => q.elim (jq_32 h) (fun z => z.2 k)
theorem jq_b2 {a b c i la : Int32} (h : ¬ jsg (jby a b c i) = 32) (l : ¬ (97 ≤ jsg (jby a b c i) ∧ jsg (jby a b c i) ≤ 122)) (k : ¬ (48 ≤ jsg (jby a b c i) ∧ jsg (jby a b c i) ≤ 57)) : ¬ (jmark (jby a b c i) ∨ (jby a b c i = 32 ∧ ¬ la = 32)) := fun q => q.elim (jq_nm l k) (fun z => h (jsg_32.mpr z.1))
theorem jsg_la {a b c : Int32} {k n : Nat} {la : Int32} (hH : jH a b c k = some (n, la)) (h : jsg la = 32) : la = 32 := by
  rcases Nat.eq_zero_or_pos n with z | z
  · exact (jH_inv hH).2.1 z
  · have e := (jH_inv hH).2.2 z
    rw [e] at h ⊢
    exact jsg_32.mp h
theorem jy_ne {i : Nat} (z : ¬ nI i = 0) : ¬ i = 0 := fun q => z (by rw [q]; rfl)
theorem jy_m {i : Nat} (z : ¬ nI i = 0) : nI i - 1 = nI (i - 1) := by
  have := jy_ne z
  obtain ⟨j, rfl⟩ : ∃ j, i = j + 1 := ⟨i - 1, by omega⟩
  exact nI_pred j
theorem jy_m0 {i : Nat} (z : ¬ nI i = 0) (h : i < 12) : (0 : Int32) ≤ nI i - 1 := by rw [jy_m z]; exact jy_0 _ (by omega)
theorem jy_m11 {i : Nat} (z : ¬ nI i = 0) (h : i < 12) : nI i - 1 ≤ (11 : Int32) := by rw [jy_m z]; exact jy_11 (by omega)
theorem jy_cli {i : Nat} (z : ¬ nI i = 0) (h : i < 12) : Int32.toNatClampNeg (nI i - 1) = i - 1 := by rw [jy_m z]; exact nI_clamp (by omega)
theorem jy_pos {n : Nat} (y : ¬ nI n ≤ 0) (h : n ≤ 12) : 0 < n := by
  rcases Nat.eq_zero_or_pos n with z | z
  · subst z; exact absurd (by decide) y
  · exact z
theorem jy_nz {n : Nat} (y : ¬ nI n ≤ 0) (h : n ≤ 12) : ¬ nI n = 0 := nI_ne0 (jy_pos y h) (by omega)
theorem jy_k0 {n : Nat} (y : ¬ nI n ≤ 0) (h : n ≤ 12) : (0 : Int32) ≤ nI n - 1 := by rw [jy_m (jy_nz y h)]; exact jy_0 _ (by omega)
theorem jy_k11 {n : Nat} (y : ¬ nI n ≤ 0) (h : n ≤ 12) : nI n - 1 ≤ (11 : Int32) := by have := jy_pos y h; rw [jy_m (jy_nz y h)]; exact jy_11 (by omega)
theorem jy_cl {n : Nat} (y : ¬ nI n ≤ 0) (h : n ≤ 12) : Int32.toNatClampNeg (nI n - 1) = n - 1 := by rw [jy_m (jy_nz y h)]; exact nI_clamp (by omega)
theorem jy_n0 {n : Nat} (y : nI n ≤ 0) (h : n ≤ 12) : n = 0 := by
  have := (nI_leI (a := n) (b := 0) (by omega) (by omega)).mp y
  omega
theorem jy_n0v {n : Nat} (y : nI n ≤ 0) (h : n ≤ 12) : nI n = 0 := by rw [jy_n0 y h]; rfl
theorem jy_np {n : Nat} (y : ¬ nI n ≤ 0) (h : n ≤ 12) : ¬ n = 0 := by have := jy_pos y h; omega
theorem jg_up {f : Nat → Int32} {g : Nat → Int32} {i : Nat} {X : Int32} (hg : ∀ j, j < i → g j = f j) (hX : X = f i) (hi : i < 12) : ∀ j, j < i + 1 → upd g (Int32.toNatClampNeg (nI i)) X j = f j := by
  intro j hj
  rw [nI_clamp (by omega)]
  by_cases h : j = i
  · subst h; rw [pk_us]; exact hX
  · rw [pk_un h]; exact hg j (by omega)
theorem jv_s (x : Int32) (s : Int32) (t : UInt32) (k : Nat) (hk : k = 0 ∨ k = 8 ∨ k = 16 ∨ k = 24) (hs : (s.toBitVec.smod 32).toNat = k) (ht : (t.toBitVec % 32).toNat = k) : jsg (x >>> s) = jsg ((x.toUInt32 >>> t).toInt32 &&& 255) := by
  refine jsg_c ?_
  have e1 : (x >>> s).toInt = x.toInt >>> k := pk_shr x s k hs
  have e2 : ((x.toUInt32 >>> t).toInt32 &&& 255).toInt = ((x.toBitVec.toNat / 2 ^ k % 256 : Nat) : Int) := by
    rw [pk_and _ (m := 255) 8 (by decide), nI_toInt (by have : ∀ z : Nat, z % 2 ^ 8 < 256 := fun z => Nat.mod_lt _ (by decide); have := this ((x.toUInt32 >>> t).toInt32.toBitVec.toNat); omega)]
    have : (x.toUInt32 >>> t).toInt32.toBitVec.toNat = x.toBitVec.toNat / 2 ^ k := by
      have e3 : (x.toUInt32 >>> t).toInt32.toBitVec = x.toBitVec >>> (t.toBitVec % 32) := rfl
      rw [e3, BitVec.ushiftRight_eq', BitVec.toNat_ushiftRight, ht, Nat.shiftRight_eq_div_pow]
    rw [this]
  rw [e1, e2, Int.shiftRight_eq_div_pow]
  have hx : x.toInt = (x.toBitVec.toNat : Int) ∨ x.toInt = (x.toBitVec.toNat : Int) - 4294967296 := by
    have h1 : x.toInt = x.toBitVec.toInt := rfl
    rw [h1, BitVec.toInt_eq_toNat_cond]
    split
    · exact Or.inl rfl
    · exact Or.inr rfl
  generalize x.toBitVec.toNat = N at *
  rcases hk with rfl | rfl | rfl | rfl <;> rcases hx with hx | hx <;> rw [hx] <;> omega
theorem jv_lt4 {i : Nat} (h : i < 12) (n4 : ¬ (4 : Int32) ≤ nI i) : i = 0 ∨ i = 1 ∨ i = 2 ∨ i = 3 := by
  have : ¬ 4 ≤ i := fun q => n4 (nI_le (a := 4) (b := i) q (by omega))
  omega
theorem jv_lt8 {i : Nat} (h : i < 12) (c4 : (4 : Int32) ≤ nI i) (n8 : ¬ (8 : Int32) ≤ nI i) : i = 4 ∨ i = 5 ∨ i = 6 ∨ i = 7 := by
  have h1 : ¬ 8 ≤ i := fun q => n8 (nI_le (a := 8) (b := i) q (by omega))
  have h2 := (nI_leI (a := 4) (b := i) (by omega) (by omega)).mp c4
  omega
theorem jv_lt12 {i : Nat} (h : i < 12) (c8 : (8 : Int32) ≤ nI i) : i = 8 ∨ i = 9 ∨ i = 10 ∨ i = 11 := by
  have h2 := (nI_leI (a := 8) (b := i) (by omega) (by omega)).mp c8
  omega
theorem jv_a {a b c : Int32} {i : Nat} (n4 : ¬ (4 : Int32) ≤ nI i) (h : i < 12) : (a >>> ((24 - (8 * (nI i - nI i / 4 * 4))) &&& 31)).toInt8.toInt32 = jsg (jby a b c (nI i)) := by
  rcases jv_lt4 h n4 with rfl | rfl | rfl | rfl
  · exact jv_s a _ _ 24 (by omega) (by decide) (by decide)
  · exact jv_s a _ _ 16 (by omega) (by decide) (by decide)
  · exact jv_s a _ _ 8 (by omega) (by decide) (by decide)
  · exact jv_s a _ _ 0 (by omega) (by decide) (by decide)
theorem jv_b {a b c : Int32} {i : Nat} (c4 : (4 : Int32) ≤ nI i) (n8 : ¬ (8 : Int32) ≤ nI i) (h : i < 12) : (b >>> ((24 - (8 * (nI i - nI i / 4 * 4))) &&& 31)).toInt8.toInt32 = jsg (jby a b c (nI i)) := by
  rcases jv_lt8 h c4 n8 with rfl | rfl | rfl | rfl
  · exact jv_s b _ _ 24 (by omega) (by decide) (by decide)
  · exact jv_s b _ _ 16 (by omega) (by decide) (by decide)
  · exact jv_s b _ _ 8 (by omega) (by decide) (by decide)
  · exact jv_s b _ _ 0 (by omega) (by decide) (by decide)
theorem jv_c {a b c : Int32} {i : Nat} (_c4 : (4 : Int32) ≤ nI i) (c8 : (8 : Int32) ≤ nI i) (h : i < 12) : (c >>> ((24 - (8 * (nI i - nI i / 4 * 4))) &&& 31)).toInt8.toInt32 = jsg (jby a b c (nI i)) := by
  rcases jv_lt12 h c8 with rfl | rfl | rfl | rfl
  · exact jv_s c _ _ 24 (by omega) (by decide) (by decide)
  · exact jv_s c _ _ 16 (by omega) (by decide) (by decide)
  · exact jv_s c _ _ 8 (by omega) (by decide) (by decide)
  · exact jv_s c _ _ 0 (by omega) (by decide) (by decide)

def sp_article (a b c w : Int32) : Int32 := if (0 ≤ w.toInt ∧ (w / 10000).toInt ≤ 2 ∧ ((w / 1000) - (w / 1000) / 10 * 10).toInt ≤ 7 ∧ 1 ≤ (w - w / 1000 * 1000).toInt ∧ (w - w / 1000 * 1000).toInt ≤ 200 ∧ ¬ jN a b c = 0) then 0 else -1
