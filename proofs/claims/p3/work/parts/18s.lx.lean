/-! ===== TOKENS: what stands at a place of a TEXT ===== -/
def scN (q : Int → Bool) (n : Int) : Nat → Int → Int
  | 0, p => p
  | m + 1, p => if p < n ∧ q p = true then scN q n m (p + 1) else p
def scn (q : Int → Bool) (n p : Int) : Int := scN q n (n - p).toNat p
theorem scn_s {q : Int → Bool} {n p : Int} (h : p < n) (hq : q p = true) : scn q n p = scn q n (p + 1) := by
  unfold scn
  rw [show (n - p).toNat = (n - (p + 1)).toNat + 1 by omega]
  show (if p < n ∧ q p = true then scN q n (n - (p + 1)).toNat (p + 1) else p) = _
  rw [if_pos ⟨h, hq⟩]
theorem scn_e {q : Int → Bool} {n p : Int} (h : n ≤ p ∨ q p = false) : scn q n p = p := by
  unfold scn
  cases (n - p).toNat with
  | zero => rfl
  | succ m =>
    show (if p < n ∧ q p = true then scN q n m (p + 1) else p) = p
    refine if_neg (fun z => ?_)
    rcases h with h | h
    · exact absurd z.1 (by omega)
    · rw [h] at z; exact absurd z.2 (by decide)
theorem scn_b (q : Int → Bool) (n : Int) : ∀ (m : Nat) (p : Int), (n - p).toNat = m → p ≤ scn q n p ∧ (p ≤ n → scn q n p ≤ n)
  | 0, p, h => by rw [scn_e (Or.inl (by omega))]; exact ⟨Int.le_refl _, fun h => h⟩
  | m + 1, p, h => by
    cases hq : q p with
    | false => rw [scn_e (Or.inr hq)]; exact ⟨Int.le_refl _, fun h => h⟩
    | true =>
      have := scn_b q n m (p + 1) (by omega)
      rw [scn_s (by omega) hq]; omega
theorem scn_ge (q : Int → Bool) (n p : Int) : p ≤ scn q n p := (scn_b q n _ p rfl).1
theorem scn_le {q : Int → Bool} {n p : Int} (h : p ≤ n) : scn q n p ≤ n := (scn_b q n _ p rfl).2 h
def bB (T : Int → Int) (i : Int) : Bool := decide (T i = 32 ∨ T i = 10)
def bL (T : Int → Int) (i : Int) : Bool := decide (97 ≤ T i ∧ T i ≤ 122)
def bD (T : Int → Int) (i : Int) : Bool := decide (48 ≤ T i ∧ T i ≤ 57)
theorem bB_y {T : Int → Int} {i : Int} (h : T i = 32 ∨ T i = 10) : bB T i = true := decide_eq_true h
theorem bB_n {T : Int → Int} {i : Int} (h : T i ≠ 32 ∧ T i ≠ 10) : bB T i = false := decide_eq_false (by omega)
theorem bL_y {T : Int → Int} {i : Int} (h : 97 ≤ T i ∧ T i ≤ 122) : bL T i = true := decide_eq_true h
theorem bL_n {T : Int → Int} {i : Int} (h : T i < 97 ∨ 122 < T i) : bL T i = false := decide_eq_false (by omega)
theorem bD_y {T : Int → Int} {i : Int} (h : 48 ≤ T i ∧ T i ≤ 57) : bD T i = true := decide_eq_true h
theorem bD_n {T : Int → Int} {i : Int} (h : T i < 48 ∨ 57 < T i) : bD T i = false := decide_eq_false (by omega)
/-- the kind of what begins at a place: 0 the end, 1 a word, 2 a number, 3 none, else the sign -/
def tkd (T : Int → Int) (n s : Int) : Int := if n ≤ s then 0 else if 97 ≤ T s ∧ T s ≤ 122 then 1 else if 48 ≤ T s ∧ T s ≤ 57 then 2 else if (T s = 43 ∨ T s = 45 ∨ T s = 42 ∨ T s = 47 ∨ T s = 40 ∨ T s = 41 ∨ T s = 91 ∨ T s = 93 ∨ T s = 44 ∨ T s = 60 ∨ T s = 62 ∨ T s = 61 ∨ T s = 59) then T s else 3
section TK
variable {T : Int → Int} {n s e p j k : Int}
theorem tkd_0 (h : n ≤ s) : tkd T n s = 0 := if_pos h
theorem tkd_1 (h : s < n) (h1 : 97 ≤ T s ∧ T s ≤ 122) : tkd T n s = 1 := by unfold tkd; rw [if_neg (by omega), if_pos h1]
theorem tkd_2 (h : s < n) (h1 : 48 ≤ T s ∧ T s ≤ 57) : tkd T n s = 2 := by unfold tkd; rw [if_neg (by omega), if_neg (by omega), if_pos h1]
theorem tkd_s (h : s < n) (h1 : (T s = 43 ∨ T s = 45 ∨ T s = 42 ∨ T s = 47 ∨ T s = 40 ∨ T s = 41 ∨ T s = 91 ∨ T s = 93 ∨ T s = 44 ∨ T s = 60 ∨ T s = 62 ∨ T s = 61 ∨ T s = 59)) : tkd T n s = T s := by unfold tkd; rw [if_neg (by omega), if_neg (by omega), if_neg (by omega), if_pos h1]
theorem tkd_3 (h : s < n) (h1 : T s < 97 ∨ 122 < T s) (h2 : T s < 48 ∨ 57 < T s) (h3 : ¬ (T s = 43 ∨ T s = 45 ∨ T s = 42 ∨ T s = 47 ∨ T s = 40 ∨ T s = 41 ∨ T s = 91 ∨ T s = 93 ∨ T s = 44 ∨ T s = 60 ∨ T s = 62 ∨ T s = 61 ∨ T s = 59)) : tkd T n s = 3 := by unfold tkd; rw [if_neg (by omega), if_neg (by omega), if_neg (by omega), if_neg h3]
theorem tkd_r (T : Int → Int) (n s : Int) : 0 ≤ tkd T n s ∧ tkd T n s ≤ 93 := by
  unfold tkd
  (repeat' split) <;> omega
theorem tkd_lt (h : tkd T n s ≠ 0) : s < n := by
  by_cases q : n ≤ s
  · exact absurd (tkd_0 q) h
  · omega
/-- where it ends -/
def ten (T : Int → Int) (n s : Int) : Int := if tkd T n s = 1 then scn (bL T) n (s + 1) else if tkd T n s = 2 then scn (bD T) n (s + 1) else s + 1
theorem ten_1 (h : tkd T n s = 1) : ten T n s = scn (bL T) n (s + 1) := if_pos h
theorem ten_2 (h : tkd T n s = 2) : ten T n s = scn (bD T) n (s + 1) := by unfold ten; rw [if_neg (by omega), if_pos h]
theorem ten_o (h : tkd T n s ≠ 1 ∧ tkd T n s ≠ 2) : ten T n s = s + 1 := by unfold ten; rw [if_neg h.1, if_neg h.2]
theorem ten_ge (T : Int → Int) (n s : Int) : s + 1 ≤ ten T n s := by
  unfold ten
  (repeat' split)
  · exact scn_ge _ _ _
  · exact scn_ge _ _ _
  · omega
theorem ten_le (h : tkd T n s ≠ 0) : ten T n s ≤ n := by
  have := tkd_lt h
  unfold ten
  (repeat' split)
  · exact scn_le (by omega)
  · exact scn_le (by omega)
  · omega
def tnx (T : Int → Int) (n s : Int) : Int := scn (bB T) n (ten T n s)
theorem tnx_ge (T : Int → Int) (n s : Int) : s + 1 ≤ tnx T n s := by
  have h1 := ten_ge T n s
  have h2 := scn_ge (bB T) n (ten T n s)
  unfold tnx; omega
theorem tnx_le (h : tkd T n s ≠ 0) : tnx T n s ≤ n := scn_le (ten_le h)
def tkn (T : Int → Int) (n : Int) : Nat → Int
  | 0 => scn (bB T) n 0
  | i + 1 => tnx T n (tkn T n i)
theorem tkn_ge (T : Int → Int) (n : Int) : ∀ i : Nat, (i : Int) ≤ tkn T n i
  | 0 => scn_ge _ _ _
  | i + 1 => by
    have h1 := tkn_ge T n i
    have h2 := tnx_ge T n (tkn T n i)
    show ((i + 1 : Nat) : Int) ≤ tnx T n (tkn T n i)
    omega
/-- the start of the j-th TOKEN -/
def tkx (T : Int → Int) (n j : Int) : Int := tkn T n j.toNat
theorem tkx_s {j' : Int} (h : 0 ≤ j) (e : j' = j + 1) : tkx T n j' = tnx T n (tkx T n j) := by
  subst e
  unfold tkx
  rw [show (j + 1).toNat = j.toNat + 1 by omega]; rfl
theorem tkx_ge (h : 0 ≤ j) : j ≤ tkx T n j := by have := tkn_ge T n j.toNat; unfold tkx; omega
/-- the number that stands there; one too great stays so -/
def nmk (T : Int → Int) (s : Int) : Nat → Int
  | 0 => 0
  | k + 1 => if nmk T s k ≤ 99999 then nmk T s k * 10 + T (s + k) - 48 else nmk T s k
theorem nmk_s {k : Nat} (h : nmk T s k ≤ 99999) : nmk T s (k + 1) = nmk T s k * 10 + T (s + k) - 48 := if_pos h
theorem nmk_k {k : Nat} (h : 99999 < nmk T s k) : ∀ d : Nat, nmk T s (k + d) = nmk T s k
  | 0 => rfl
  | d + 1 => by
    have i := nmk_k h d
    show (if nmk T s (k + d) ≤ 99999 then _ else nmk T s (k + d)) = _
    rw [if_neg (by omega)]; exact i
theorem scn_in (q : Int → Bool) (n : Int) : ∀ (m : Nat) (p : Int), (n - p).toNat = m → ∀ i, p ≤ i → i < scn q n p → q i = true
  | 0, p, h => fun i h0 h1 => by rw [scn_e (Or.inl (by omega))] at h1; omega
  | m + 1, p, h => fun i h0 h1 => by
    cases hq : q p with
    | false => rw [scn_e (Or.inr hq)] at h1; omega
    | true =>
      rw [scn_s (by omega) hq] at h1
      by_cases c : i = p
      · rw [c]; exact hq
      · exact scn_in q n m (p + 1) (by omega) i (by omega) h1
theorem dgt_in (h : tkd T n s = 2) (hd : 48 ≤ T s ∧ T s ≤ 57) : ∀ i, s ≤ i → i < ten T n s → 48 ≤ T i ∧ T i ≤ 57 := fun i h0 h1 => by
  by_cases c : i = s
  · rw [c]; exact hd
  · rw [ten_2 h] at h1
    exact of_decide_eq_true (scn_in (bD T) n _ (s + 1) rfl i (by omega) h1)
theorem tkd_2d (h : tkd T n s = 2) : 48 ≤ T s ∧ T s ≤ 57 := by
  unfold tkd at h
  (repeat' split at h) <;> omega
theorem nm_0 : 0 = nmk T s (s - s).toNat := by rw [show s - s = 0 by omega]; rfl
theorem nm_1 {a i z i' : Int} (h : a = nmk T s (i - s).toNat) (h0 : s ≤ i) (ha : a ≤ 99999) (hz : z = a * 10 + T i - 48) (hi : i' = i + 1) : z = nmk T s (i' - s).toNat := by
  rw [hi, show (i + 1 - s).toNat = (i - s).toNat + 1 by omega, nmk_s (by omega), ← h, show s + ((i - s).toNat : Int) = i by omega]; exact hz
theorem nmz_e {a i e : Int} (h : a = nmk T s (i - s).toNat) (h0 : s ≤ i) (hi : i = s ∨ i ≤ e) (hc : e ≤ i ∨ 99999 < a) : a = nmk T s (e - s).toNat := by
  by_cases q : e ≤ i
  · by_cases z : i = e
    · rw [← z]; exact h
    · rw [show (e - s).toNat = (i - s).toNat by omega]; exact h
  · have := nmk_k (T := T) (s := s) (k := (i - s).toNat) (by omega) ((e - s).toNat - (i - s).toNat)
    rw [show (i - s).toNat + ((e - s).toNat - (i - s).toNat) = (e - s).toNat by omega] at this
    rw [this]; exact h
theorem ten_of {p2 z a4 : Int} (h1 : p2 ≠ 1 ∨ a4 = scn (bL T) n (s + 1)) (h2 : p2 = 1 ∨ a4 = s + 1) (h3 : p2 = 2 ∨ z = a4) (h4 : scn (bD T) n a4 = scn (bD T) n z) (h5 : p2 ≠ 2 ∨ n ≤ z ∨ (T z < 48 ∨ 57 < T z)) : p2 ≠ tkd T n s ∨ z = ten T n s := by
  by_cases q : p2 = tkd T n s
  · refine Or.inr ?_
    by_cases q1 : p2 = 1
    · rw [ten_1 (by omega), ← h1.resolve_left (fun w => w q1)]; omega
    · by_cases q2 : p2 = 2
      · rw [ten_2 (by omega), ← h2.resolve_left q1, h4, scn_e]
        rcases h5.resolve_left (fun w => w q2) with w | w
        · exact Or.inl w
        · exact Or.inr (bD_n w)
      · rw [ten_o (by omega)]; omega
  · exact Or.inl q
theorem ten_d (T : Int → Int) (n s : Int) : tkd T n s = 0 ∨ ten T n s ≤ n := by
  by_cases q : tkd T n s = 0
  · exact Or.inl q
  · exact Or.inr (ten_le q)
def tnm (T : Int → Int) (n s : Int) : Int := nmk T s (ten T n s - s).toNat
end TK
/-! WORDS: those that TEXTS are made of, in our order -/
def wsL : List Int := [0, 5, 13, 20, 26, 31, 35, 41, 46, 50, 56, 62, 67, 73, 79, 85, 92, 98, 104, 108, 115, 120, 125, 131, 136, 142, 145, 149, 153]
def wlL : List Int := [4, 7, 6, 5, 4, 3, 5, 4, 3, 5, 5, 4, 5, 5, 5, 6, 5, 5, 3, 6, 4, 4, 5, 4, 5, 2, 3, 3]
def wst (k : Int) : Int := wsL.getD k.toNat 0
def wln (k : Int) : Int := wlL.getD k.toNat 0
def wmt (T : Int → Int) (s e : Int) (k : Int) : Prop := e - s = wln k ∧ ∀ j : Int, 0 ≤ j → j < wln k → T (s + j) = sx_c 1 (wst k + j)
def wdc (k k' : Nat) : Bool := decide (k = k') || !decide (wln k = wln k') || (List.range 10).any (fun j => decide ((j : Int) < wln k) && !decide (sx_c 1 (wst k + j) = sx_c 1 (wst k' + j)))
theorem wdc_all : ∀ k : Nat, k < 28 → ∀ k' : Nat, k' < 28 → wdc k k' = true := by decide +kernel
theorem w_uniq {T : Int → Int} {s e : Int} {k k' : Nat} (hk : k < 28) (hk' : k' < 28) (h : wmt T s e k) (h' : wmt T s e k') : k = k' := by
  have c := wdc_all k hk k' hk'
  unfold wdc at c
  simp only [Bool.or_eq_true, decide_eq_true_eq, Bool.not_eq_true', decide_eq_false_iff_not, List.any_eq_true, Bool.and_eq_true] at c
  rcases c with (c | c) | ⟨j, -, c1, c2⟩
  · exact c
  · exact absurd (h.1.symm.trans h'.1) c
  · have e1 := h.2 j (by omega) c1
    have e2 := h'.2 j (by omega) (by rw [← h'.1, h.1]; exact c1)
    exact absurd (e1.symm.trans e2) c2
noncomputable def wix (T : Int → Int) (s e : Int) : Int := @dite _ (∃ k : Nat, k < 28 ∧ wmt T s e k) (Classical.propDecidable _) (fun h => ((Classical.choose h : Nat) : Int)) (fun _ => -1)
theorem wix_y {T : Int → Int} {s e : Int} {k : Nat} (hk : k < 28) (h : wmt T s e k) : wix T s e = (k : Int) := by
  have hx : ∃ k : Nat, k < 28 ∧ wmt T s e k := ⟨k, hk, h⟩
  have h2 := Classical.choose_spec hx
  unfold wix
  rw [dif_pos hx]
  exact congrArg (fun z : Nat => (z : Int)) (w_uniq h2.1 hk h2.2 h)
theorem wix_n {T : Int → Int} {s e : Int} (h : ∀ k : Nat, k < 28 → ¬ wmt T s e k) : wix T s e = -1 := by
  unfold wix
  rw [dif_neg (fun q => by obtain ⟨k, hk, hw⟩ := q; exact h k hk hw)]
theorem wix_r (T : Int → Int) (s e : Int) : -1 ≤ wix T s e ∧ wix T s e ≤ 27 := by
  by_cases q : ∃ k : Nat, k < 28 ∧ wmt T s e k
  · obtain ⟨k, hk, hw⟩ := q
    rw [wix_y hk hw]; omega
  · rw [wix_n (fun k hk hw => q ⟨k, hk, hw⟩)]; omega
/-- our search: the words ahead of the k-th aren't it -/
def wno (T : Int → Int) (s e k : Int) : Prop := ∀ i : Nat, (i : Int) < k → ¬ wmt T s e i
theorem wno_0 {T : Int → Int} {s e : Int} : wno T s e 0 := fun i h => absurd h (by omega)
theorem wno_s {T : Int → Int} {s e k : Int} (h : wno T s e k) (h0 : 0 ≤ k) (hn : ¬ wmt T s e k) : wno T s e (k + 1) := fun i hi => by
  by_cases q : (i : Int) = k
  · rw [q]; exact hn
  · exact h i (by omega)
theorem wno_e {T : Int → Int} {s e k : Int} (h : wno T s e k) (hk : 28 ≤ k) : wix T s e = -1 := wix_n (fun i hi => h i (by omega))
theorem wst_0 : wst 0 = 0 := rfl
def iwd (T : Int → Int) (b e s : Int) : Prop := ∀ j : Int, b ≤ j → j < e → sx_c 1 j = T (s + j - b)
theorem iwd_0 {T : Int → Int} {b s : Int} : iwd T b b s := fun j h0 h1 => absurd h1 (by omega)
theorem iwd_s {T : Int → Int} {b i s : Int} (h : iwd T b i s) (e : sx_c 1 i = T (s + i - b)) : iwd T b (i + 1) s := fun j h0 h1 => by
  by_cases q : j = i
  · rw [q]; exact e
  · exact h j h0 (by omega)
theorem iwd_e {T : Int → Int} {b i e s : Int} (h : iwd T b i s) (hi : e ≤ i) : iwd T b e s := fun j h0 h1 => h j h0 (by omega)
theorem iwd_n {T : Int → Int} {b i e s : Int} (h0 : b ≤ i) (h1 : i < e) (hn : sx_c 1 i ≠ T (s + i - b)) : ¬ iwd T b e s := fun h => hn (h i h0 h1)
theorem wm_y {T : Int → Int} {s e k b c : Int} (h : iwd T b c s) (hb : b = wst k) (hc : c = wst k + wln k) (hl : e - s = wln k) : wmt T s e k := ⟨hl, fun j h0 h1 => by
  have := h (b + j) (by omega) (by omega)
  rw [show s + (b + j) - b = s + j by omega, hb] at this
  exact this.symm⟩
theorem wm_n1 {T : Int → Int} {s e k : Int} (h : e - s ≠ wln k) : ¬ wmt T s e k := fun q => h q.1
theorem wm_n2 {T : Int → Int} {s e k b c : Int} (h : ¬ iwd T b c s) (hb : b = wst k) (hc : c = wst k + wln k) : ¬ wmt T s e k := fun q => h (fun j h0 h1 => by
  have := q.2 (j - b) (by omega) (by omega)
  rw [show wst k + (j - b) = j by omega, show s + (j - b) = s + j - b by omega] at this
  exact this.symm)
theorem wix_of {T : Int → Int} {s e k : Int} (h0 : 0 ≤ k) (h1 : k < 28) (h : wmt T s e k) : wix T s e = k := by
  have e1 : ((k.toNat : Nat) : Int) = k := by omega
  have := wix_y (k := k.toNat) (by omega) (by rw [e1]; exact h)
  rw [this, e1]
def wsc (k : Nat) : Bool := decide (wst ((k : Int) + 1) = wst k + wln k + 1) && decide (0 ≤ wst k) && decide (1 ≤ wln k) && decide (wln k ≤ 8) && (decide (k = 27) || decide (sx_c 1 (wst k + wln k) = 32)) && (List.range 8).all (fun j => !decide ((j : Int) < wln k) || !decide (sx_c 1 (wst k + j) = 32)) && (decide (k = 27 ∧ wst k + wln k = 152) || decide (k ≠ 27 ∧ wst k + wln k < 152))
theorem wsc_all : ∀ k : Nat, k < 28 → wsc k = true := by decide +kernel
theorem wst_f {k : Int} (h0 : 0 ≤ k) (h1 : k < 28) : wst (k + 1) = wst k + wln k + 1 ∧ 0 ≤ wst k ∧ 1 ≤ wln k ∧ wln k ≤ 8 ∧ ((k = 27 ∧ wst k + wln k = 152) ∨ (k ≠ 27 ∧ wst k + wln k < 152)) ∧ (k = 27 ∨ sx_c 1 (wst k + wln k) = 32) ∧ ∀ j : Int, 0 ≤ j → j < wln k → sx_c 1 (wst k + j) ≠ 32 := by
  have c := wsc_all k.toNat (by omega)
  have e1 : ((k.toNat : Nat) : Int) = k := by omega
  unfold wsc at c
  simp only [Bool.or_eq_true, decide_eq_true_eq, Bool.not_eq_true', decide_eq_false_iff_not, List.all_eq_true, Bool.and_eq_true, e1] at c
  obtain ⟨⟨⟨⟨⟨⟨c1, c2⟩, c3⟩, c4⟩, c5⟩, c6⟩, c7⟩ := c
  refine ⟨c1, c2, c3, c4, by omega, by omega, fun j j0 j1 => ?_⟩
  have := c6 j.toNat (List.mem_range.mpr (by omega))
  rw [show ((j.toNat : Nat) : Int) = j by omega] at this
  exact this.resolve_left (fun q => q j1)
theorem wst_b {k : Int} (h0 : 0 ≤ k) (h1 : k ≤ 28) : k = 28 ∨ (wst k + wln k ≤ 152 ∧ 1 ≤ wln k) := by
  by_cases q : k = 28
  · exact Or.inl q
  · have := wst_f h0 (show k < 28 by omega)
    exact Or.inr ⟨by omega, this.2.2.1⟩
/-- where the i-th byte of WORDS is the end of the k-th -/
theorem w_sep {k i : Int} (h0 : 0 ≤ k) (h1 : k < 28) (hi : wst k ≤ i) (hj : i ≤ wst k + wln k) : (i = 152 ∨ sx_c 1 i = 32) ↔ i = wst k + wln k := by
  obtain ⟨-, c2, c3, c4, c5, c6, c7⟩ := wst_f h0 h1
  constructor
  · intro q
    by_cases z : i = wst k + wln k
    · exact z
    · have := c7 (i - wst k) (by omega) (by omega)
      rw [show wst k + (i - wst k) = i by omega] at this
      rcases q with q | q
      · omega
      · exact absurd q this
  · intro q
    rcases c6 with z | z
    · omega
    · rw [q]; exact Or.inr z
noncomputable def twd (T : Int → Int) (n s : Int) : Int := if tkd T n s = 1 then wix T s (ten T n s) else -1
theorem twd_1 {T : Int → Int} {n s : Int} (h : tkd T n s = 1) : twd T n s = wix T s (ten T n s) := if_pos h
theorem twd_n {T : Int → Int} {n s : Int} (h : tkd T n s ≠ 1) : twd T n s = -1 := if_neg h
theorem twd_d (T : Int → Int) (n s : Int) : tkd T n s = 1 ∨ twd T n s = -1 := by
  by_cases q : tkd T n s = 1
  · exact Or.inl q
  · exact Or.inr (twd_n q)
theorem twd_k {T : Int → Int} {n s : Int} (h : twd T n s ≠ -1) : tkd T n s = 1 := by
  by_cases q : tkd T n s = 1
  · exact q
  · exact absurd (twd_n q) h
theorem twd_r (T : Int → Int) (n s : Int) : -1 ≤ twd T n s ∧ twd T n s ≤ 27 := by
  unfold twd
  split
  · exact wix_r _ _ _
  · omega
noncomputable def tvx (T : Int → Int) (k s e : Int) : Int := if k = 1 then wix T s e else if k = 2 then nmk T s (e - s).toNat else -1
theorem tvx_1 {T : Int → Int} {k s e : Int} (h : k = 1) : tvx T k s e = wix T s e := if_pos h
theorem tvx_2 {T : Int → Int} {k s e : Int} (h : k = 2) : tvx T k s e = nmk T s (e - s).toNat := by unfold tvx; rw [if_neg (by omega), if_pos h]
theorem tvx_o {T : Int → Int} {k s e : Int} (h1 : k ≠ 1) (h2 : k ≠ 2) : tvx T k s e = -1 := by unfold tvx; rw [if_neg h1, if_neg h2]
/-! ===== the steps of reading: where, what is to come, how deep, which sorts were there, how many W ===== -/
abbrev Cf := Int × List Int × Int × (Int → Bool) × Int
def sbp (sb : Int → Bool) (c : Int) : Int → Bool := fun i => sb i || decide (i = c)
def bgn (f : Int → Int) : Int → Bool := fun i => decide (0 ≤ i ∧ i < 14 ∧ f i ≠ -1)
theorem bgn_up {f f' : Int → Int} {c x : Int} (h0 : 0 ≤ c) (h1 : c < 14) (hx : x ≠ -1) (e : ∀ i, f' i = if i = c then x else f i) : bgn f' = sbp (bgn f) c := by
  funext i
  unfold bgn sbp
  rw [e]
  by_cases q : i = c
  · rw [if_pos q, decide_eq_true (show 0 ≤ i ∧ i < 14 ∧ x ≠ -1 from ⟨by omega, by omega, hx⟩), decide_eq_true q, Bool.or_true]
  · rw [if_neg q, decide_eq_false q, Bool.or_false]
theorem bgn_t {f : Int → Int} {c : Int} (h0 : 0 ≤ c) (h1 : c < 14) (h : f c ≠ -1) : bgn f c = true := decide_eq_true ⟨h0, h1, h⟩
theorem bgn_f {f : Int → Int} {c : Int} (h : f c = -1) : bgn f c = false := decide_eq_false (fun q => q.2.2 h)
theorem bgn_0 {f : Int → Int} (h : ∀ i, 0 ≤ i → i < 14 → f i = -1) : bgn f = fun _ => false := by
  funext i
  exact decide_eq_false (fun q => q.2.2 (h i q.1 q.2.1))
section ST
variable (T : Int → Int) (n c : Int) (st : List Int) (d : Int) (sb : Int → Bool) (sk : Int)
noncomputable def stC : Cf ⊕ Int :=
  if tkd T n c = 0 then .inl (c, st, d, sb, sk)
  else if twd T n c = 0 then
    if tkd T n (tnx T n c) = 1 ∧ ten T n (tnx T n c) - tnx T n c ≤ 8 ∧ sk ≠ 4 then .inl (tnx T n (tnx T n c), 159 :: 0 :: st, d, sb, sk + 1) else .inr (tnx T n c)
  else if twd T n c = 1 ∨ twd T n c = 2 then
    if sb (twd T n c - 1) = true then .inr c
    else if 19 + 2 * twd T n c ≤ twd T n (tnx T n c) ∧ twd T n (tnx T n c) ≤ 20 + 2 * twd T n c then .inl (tnx T n (tnx T n c), 159 :: 0 :: st, d, sbp sb (twd T n c - 1), sk) else .inr (tnx T n c)
  else if 3 ≤ twd T n c ∧ twd T n c ≤ 5 then
    if sb (twd T n c - 1) = true then .inr c
    else .inl (tnx T n c, (if twd T n c = 5 then 1 else 6) :: 13 :: 159 :: 0 :: st, d, sbp sb (twd T n c - 1), sk)
  else if 6 ≤ twd T n c ∧ twd T n c ≤ 8 then
    if 9 ≤ twd T n (tnx T n c) ∧ twd T n (tnx T n c) ≤ 11 then
      if sb (5 + 3 * (twd T n c - 6) + (twd T n (tnx T n c) - 9)) = true then .inr (tnx T n c)
      else .inl (tnx T n (tnx T n c), 1 :: 13 :: 159 :: 0 :: st, d, sbp sb (5 + 3 * (twd T n c - 6) + (twd T n (tnx T n c) - 9)), sk)
    else .inr (tnx T n c)
  else .inr c
noncomputable def stS (s : Int) : Cf ⊕ Int :=
  if 100 ≤ s then (if tkd T n c = s - 100 then .inl (tnx T n c, st, d, sb, sk) else .inr c)
  else if s = 0 then stC T n c st d sb sk
  else if s = 1 then .inl (c, 3 :: 2 :: st, d, sb, sk)
  else if s = 2 then (if tkd T n c = 43 ∨ tkd T n c = 45 then .inl (tnx T n c, 3 :: 2 :: st, d, sb, sk) else .inl (c, st, d, sb, sk))
  else if s = 3 then .inl (c, 5 :: 4 :: st, d, sb, sk)
  else if s = 4 then (if tkd T n c = 42 ∨ tkd T n c = 47 then .inl (tnx T n c, 5 :: 4 :: st, d, sb, sk) else .inl (c, st, d, sb, sk))
  else if s = 5 then (if (tkd T n c = 2 ∧ tnm T n c ≤ 99999) ∨ (12 ≤ twd T n c ∧ twd T n c ≤ 20) then .inl (tnx T n c, st, d, sb, sk) else if tkd T n c = 40 ∧ d ≠ 8 then .inl (tnx T n c, 1 :: 141 :: 12 :: st, d + 1, sb, sk) else .inr c)
  else if s = 6 then .inl (c, 8 :: 7 :: st, d, sb, sk)
  else if s = 7 then (if twd T n c = 25 then .inl (tnx T n c, 8 :: 7 :: st, d, sb, sk) else .inl (c, st, d, sb, sk))
  else if s = 8 then .inl (c, 10 :: 9 :: st, d, sb, sk)
  else if s = 9 then (if twd T n c = 26 then .inl (tnx T n c, 10 :: 9 :: st, d, sb, sk) else .inl (c, st, d, sb, sk))
  else if s = 10 then (if twd T n c = 27 then (if d = 8 then .inr c else .inl (tnx T n c, 10 :: 12 :: st, d + 1, sb, sk)) else if tkd T n c = 91 then (if d = 8 then .inr c else .inl (tnx T n c, 6 :: 193 :: 12 :: st, d + 1, sb, sk)) else .inl (c, 1 :: 11 :: st, d, sb, sk))
  else if s = 11 then (if tkd T n c = 60 ∨ tkd T n c = 62 ∨ tkd T n c = 61 then .inl (tnx T n c, 1 :: st, d, sb, sk) else .inr c)
  else if s = 12 then .inl (c, st, d - 1, sb, sk)
  else .inl (c, st, d, sb, sk)
end ST
noncomputable def stp (T : Int → Int) (n : Int) (C : Cf) : Cf ⊕ Int := match C.2.1 with
  | [] => .inr (-1)
  | s :: st => stS T n C.1 st C.2.2.1 C.2.2.2.1 C.2.2.2.2 s
noncomputable def runN (T : Int → Int) (n : Int) : Nat → Cf → Int → Prop
  | 0, _, _ => False
  | m + 1, C, r => Sum.elim (fun C' => runN T n m C' r) (fun z => r = z) (stp T n C)
def Runs (T : Int → Int) (n : Int) (C : Cf) (r : Int) : Prop := ∃ m, runN T n m C r
theorem Runs_l {T : Int → Int} {n : Int} {C C' : Cf} {r : Int} (h : stp T n C = .inl C') : Runs T n C r ↔ Runs T n C' r := by
  constructor
  · intro ⟨m, hm⟩
    cases m with
    | zero => exact hm.elim
    | succ m =>
      have hm : Sum.elim (fun C' => runN T n m C' r) (fun z => r = z) (stp T n C) := hm
      rw [h] at hm; exact ⟨m, hm⟩
  · intro ⟨m, hm⟩
    refine ⟨m + 1, ?_⟩
    show Sum.elim (fun C' => runN T n m C' r) (fun z => r = z) (stp T n C)
    rw [h]; exact hm
theorem Runs_r {T : Int → Int} {n : Int} {C : Cf} {z r : Int} (h : stp T n C = .inr z) : Runs T n C r ↔ r = z := by
  constructor
  · intro ⟨m, hm⟩
    cases m with
    | zero => exact hm.elim
    | succ m =>
      have hm : Sum.elim (fun C' => runN T n m C' r) (fun z => r = z) (stp T n C) := hm
      rw [h] at hm; exact hm
  · intro e
    refine ⟨1, ?_⟩
    show Sum.elim (fun C' => runN T n 0 C' r) (fun z => r = z) (stp T n C)
    rw [h]; exact e
theorem sq_1 {T : Int → Int} {n c d : Int} {st : List Int} {b : Int → Bool} {w : Int} : stp T n (c, 1 :: st, d, b, w) = .inl (c, 3 :: 2 :: st, d, b, w) := by
  show stS T n c st d b w 1 = _
  unfold stS
  rw [if_neg (by omega), if_neg (by omega), if_pos rfl]
theorem sq_2y {T : Int → Int} {n c d : Int} {st : List Int} {b : Int → Bool} {w : Int} (h : tkd T n c = 43 ∨ tkd T n c = 45) : stp T n (c, 2 :: st, d, b, w) = .inl (tnx T n c, 3 :: 2 :: st, d, b, w) := by
  show stS T n c st d b w 2 = _
  unfold stS
  rw [if_neg (by omega), if_neg (by omega), if_neg (by omega), if_pos rfl, if_pos h]
theorem sq_2n {T : Int → Int} {n c d : Int} {st : List Int} {b : Int → Bool} {w : Int} (h : tkd T n c ≠ 43 ∧ tkd T n c ≠ 45) : stp T n (c, 2 :: st, d, b, w) = .inl (c, st, d, b, w) := by
  show stS T n c st d b w 2 = _
  unfold stS
  rw [if_neg (by omega), if_neg (by omega), if_neg (by omega), if_pos rfl, if_neg (by omega)]
theorem sq_3 {T : Int → Int} {n c d : Int} {st : List Int} {b : Int → Bool} {w : Int} : stp T n (c, 3 :: st, d, b, w) = .inl (c, 5 :: 4 :: st, d, b, w) := by
  show stS T n c st d b w 3 = _
  unfold stS
  rw [if_neg (by omega), if_neg (by omega), if_neg (by omega), if_neg (by omega), if_pos rfl]
theorem sq_4y {T : Int → Int} {n c d : Int} {st : List Int} {b : Int → Bool} {w : Int} (h : tkd T n c = 42 ∨ tkd T n c = 47) : stp T n (c, 4 :: st, d, b, w) = .inl (tnx T n c, 5 :: 4 :: st, d, b, w) := by
  show stS T n c st d b w 4 = _
  unfold stS
  rw [if_neg (by omega), if_neg (by omega), if_neg (by omega), if_neg (by omega), if_neg (by omega), if_pos rfl, if_pos h]
theorem sq_4n {T : Int → Int} {n c d : Int} {st : List Int} {b : Int → Bool} {w : Int} (h : tkd T n c ≠ 42 ∧ tkd T n c ≠ 47) : stp T n (c, 4 :: st, d, b, w) = .inl (c, st, d, b, w) := by
  show stS T n c st d b w 4 = _
  unfold stS
  rw [if_neg (by omega), if_neg (by omega), if_neg (by omega), if_neg (by omega), if_neg (by omega), if_pos rfl, if_neg (by omega)]
theorem sq_5y {T : Int → Int} {n c d : Int} {st : List Int} {b : Int → Bool} {w : Int} (h : (tkd T n c = 2 ∧ tnm T n c ≤ 99999) ∨ (12 ≤ twd T n c ∧ twd T n c ≤ 20)) : stp T n (c, 5 :: st, d, b, w) = .inl (tnx T n c, st, d, b, w) := by
  show stS T n c st d b w 5 = _
  unfold stS
  rw [if_neg (by omega), if_neg (by omega), if_neg (by omega), if_neg (by omega), if_neg (by omega), if_neg (by omega), if_pos rfl, if_pos h]
theorem sq_5p {T : Int → Int} {n c d : Int} {st : List Int} {b : Int → Bool} {w : Int} (h : tkd T n c = 40) (hd : d ≠ 8) : stp T n (c, 5 :: st, d, b, w) = .inl (tnx T n c, 1 :: 141 :: 12 :: st, d + 1, b, w) := by
  show stS T n c st d b w 5 = _
  unfold stS
  rw [if_neg (by omega), if_neg (by omega), if_neg (by omega), if_neg (by omega), if_neg (by omega), if_neg (by omega), if_pos rfl, if_neg (by have := twd_n (show tkd T n c ≠ 1 by omega); omega), if_pos ⟨h, hd⟩]
theorem sq_5b {T : Int → Int} {n c d : Int} {st : List Int} {b : Int → Bool} {w : Int} (h : (tkd T n c ≠ 2 ∨ 99999 < tnm T n c) ∧ (twd T n c < 12 ∨ 20 < twd T n c) ∧ (tkd T n c ≠ 40 ∨ d = 8)) : stp T n (c, 5 :: st, d, b, w) = .inr c := by
  show stS T n c st d b w 5 = _
  unfold stS
  rw [if_neg (by omega), if_neg (by omega), if_neg (by omega), if_neg (by omega), if_neg (by omega), if_neg (by omega), if_pos rfl, if_neg (by omega), if_neg (by omega)]
theorem sq_6 {T : Int → Int} {n c d : Int} {st : List Int} {b : Int → Bool} {w : Int} : stp T n (c, 6 :: st, d, b, w) = .inl (c, 8 :: 7 :: st, d, b, w) := by
  show stS T n c st d b w 6 = _
  unfold stS
  rw [if_neg (by omega), if_neg (by omega), if_neg (by omega), if_neg (by omega), if_neg (by omega), if_neg (by omega), if_neg (by omega), if_pos rfl]
theorem sq_7y {T : Int → Int} {n c d : Int} {st : List Int} {b : Int → Bool} {w : Int} (h : twd T n c = 25) : stp T n (c, 7 :: st, d, b, w) = .inl (tnx T n c, 8 :: 7 :: st, d, b, w) := by
  show stS T n c st d b w 7 = _
  unfold stS
  rw [if_neg (by omega), if_neg (by omega), if_neg (by omega), if_neg (by omega), if_neg (by omega), if_neg (by omega), if_neg (by omega), if_neg (by omega), if_pos rfl, if_pos h]
theorem sq_7n {T : Int → Int} {n c d : Int} {st : List Int} {b : Int → Bool} {w : Int} (h : twd T n c ≠ 25) : stp T n (c, 7 :: st, d, b, w) = .inl (c, st, d, b, w) := by
  show stS T n c st d b w 7 = _
  unfold stS
  rw [if_neg (by omega), if_neg (by omega), if_neg (by omega), if_neg (by omega), if_neg (by omega), if_neg (by omega), if_neg (by omega), if_neg (by omega), if_pos rfl, if_neg h]
theorem sq_8 {T : Int → Int} {n c d : Int} {st : List Int} {b : Int → Bool} {w : Int} : stp T n (c, 8 :: st, d, b, w) = .inl (c, 10 :: 9 :: st, d, b, w) := by
  show stS T n c st d b w 8 = _
  unfold stS
  rw [if_neg (by omega), if_neg (by omega), if_neg (by omega), if_neg (by omega), if_neg (by omega), if_neg (by omega), if_neg (by omega), if_neg (by omega), if_neg (by omega), if_pos rfl]
theorem sq_9y {T : Int → Int} {n c d : Int} {st : List Int} {b : Int → Bool} {w : Int} (h : twd T n c = 26) : stp T n (c, 9 :: st, d, b, w) = .inl (tnx T n c, 10 :: 9 :: st, d, b, w) := by
  show stS T n c st d b w 9 = _
  unfold stS
  rw [if_neg (by omega), if_neg (by omega), if_neg (by omega), if_neg (by omega), if_neg (by omega), if_neg (by omega), if_neg (by omega), if_neg (by omega), if_neg (by omega), if_neg (by omega), if_pos rfl, if_pos h]
theorem sq_9n {T : Int → Int} {n c d : Int} {st : List Int} {b : Int → Bool} {w : Int} (h : twd T n c ≠ 26) : stp T n (c, 9 :: st, d, b, w) = .inl (c, st, d, b, w) := by
  show stS T n c st d b w 9 = _
  unfold stS
  rw [if_neg (by omega), if_neg (by omega), if_neg (by omega), if_neg (by omega), if_neg (by omega), if_neg (by omega), if_neg (by omega), if_neg (by omega), if_neg (by omega), if_neg (by omega), if_pos rfl, if_neg h]
theorem sq_10n {T : Int → Int} {n c d : Int} {st : List Int} {b : Int → Bool} {w : Int} (h : twd T n c = 27) (hd : d ≠ 8) : stp T n (c, 10 :: st, d, b, w) = .inl (tnx T n c, 10 :: 12 :: st, d + 1, b, w) := by
  show stS T n c st d b w 10 = _
  unfold stS
  rw [if_neg (by omega), if_neg (by omega), if_neg (by omega), if_neg (by omega), if_neg (by omega), if_neg (by omega), if_neg (by omega), if_neg (by omega), if_neg (by omega), if_neg (by omega), if_neg (by omega), if_pos rfl, if_pos h, if_neg hd]
theorem sq_10k {T : Int → Int} {n c d : Int} {st : List Int} {b : Int → Bool} {w : Int} (h : tkd T n c = 91) (hd : d ≠ 8) : stp T n (c, 10 :: st, d, b, w) = .inl (tnx T n c, 6 :: 193 :: 12 :: st, d + 1, b, w) := by
  show stS T n c st d b w 10 = _
  unfold stS
  rw [if_neg (by omega), if_neg (by omega), if_neg (by omega), if_neg (by omega), if_neg (by omega), if_neg (by omega), if_neg (by omega), if_neg (by omega), if_neg (by omega), if_neg (by omega), if_neg (by omega), if_pos rfl, if_neg (by have := twd_n (show tkd T n c ≠ 1 by omega); omega), if_pos h, if_neg hd]
theorem sq_10c {T : Int → Int} {n c d : Int} {st : List Int} {b : Int → Bool} {w : Int} (h : twd T n c ≠ 27) (h2 : tkd T n c ≠ 91) : stp T n (c, 10 :: st, d, b, w) = .inl (c, 1 :: 11 :: st, d, b, w) := by
  show stS T n c st d b w 10 = _
  unfold stS
  rw [if_neg (by omega), if_neg (by omega), if_neg (by omega), if_neg (by omega), if_neg (by omega), if_neg (by omega), if_neg (by omega), if_neg (by omega), if_neg (by omega), if_neg (by omega), if_neg (by omega), if_pos rfl, if_neg h, if_neg h2]
theorem sq_10b {T : Int → Int} {n c d : Int} {st : List Int} {b : Int → Bool} {w : Int} (h : twd T n c = 27 ∨ tkd T n c = 91) (hd : d = 8) : stp T n (c, 10 :: st, d, b, w) = .inr c := by
  show stS T n c st d b w 10 = _
  unfold stS
  by_cases q : twd T n c = 27
  · rw [if_neg (by omega), if_neg (by omega), if_neg (by omega), if_neg (by omega), if_neg (by omega), if_neg (by omega), if_neg (by omega), if_neg (by omega), if_neg (by omega), if_neg (by omega), if_neg (by omega), if_pos rfl, if_pos q, if_pos hd]
  · rw [if_neg (by omega), if_neg (by omega), if_neg (by omega), if_neg (by omega), if_neg (by omega), if_neg (by omega), if_neg (by omega), if_neg (by omega), if_neg (by omega), if_neg (by omega), if_neg (by omega), if_pos rfl, if_neg q, if_pos (h.resolve_left q), if_pos hd]
theorem sq_11y {T : Int → Int} {n c d : Int} {st : List Int} {b : Int → Bool} {w : Int} (h : tkd T n c = 60 ∨ tkd T n c = 62 ∨ tkd T n c = 61) : stp T n (c, 11 :: st, d, b, w) = .inl (tnx T n c, 1 :: st, d, b, w) := by
  show stS T n c st d b w 11 = _
  unfold stS
  rw [if_neg (by omega), if_neg (by omega), if_neg (by omega), if_neg (by omega), if_neg (by omega), if_neg (by omega), if_neg (by omega), if_neg (by omega), if_neg (by omega), if_neg (by omega), if_neg (by omega), if_neg (by omega), if_pos rfl, if_pos h]
theorem sq_11n {T : Int → Int} {n c d : Int} {st : List Int} {b : Int → Bool} {w : Int} (h : tkd T n c ≠ 60 ∧ tkd T n c ≠ 62 ∧ tkd T n c ≠ 61) : stp T n (c, 11 :: st, d, b, w) = .inr c := by
  show stS T n c st d b w 11 = _
  unfold stS
  rw [if_neg (by omega), if_neg (by omega), if_neg (by omega), if_neg (by omega), if_neg (by omega), if_neg (by omega), if_neg (by omega), if_neg (by omega), if_neg (by omega), if_neg (by omega), if_neg (by omega), if_neg (by omega), if_pos rfl, if_neg (by omega)]
theorem sq_12 {T : Int → Int} {n c d : Int} {st : List Int} {b : Int → Bool} {w : Int} : stp T n (c, 12 :: st, d, b, w) = .inl (c, st, d - 1, b, w) := by
  show stS T n c st d b w 12 = _
  unfold stS
  rw [if_neg (by omega), if_neg (by omega), if_neg (by omega), if_neg (by omega), if_neg (by omega), if_neg (by omega), if_neg (by omega), if_neg (by omega), if_neg (by omega), if_neg (by omega), if_neg (by omega), if_neg (by omega), if_neg (by omega), if_pos rfl]
theorem sq_13 {T : Int → Int} {n c d : Int} {st : List Int} {b : Int → Bool} {w : Int} : stp T n (c, 13 :: st, d, b, w) = .inl (c, st, d, b, w) := by
  show stS T n c st d b w 13 = _
  unfold stS
  rw [if_neg (by omega), if_neg (by omega), if_neg (by omega), if_neg (by omega), if_neg (by omega), if_neg (by omega), if_neg (by omega), if_neg (by omega), if_neg (by omega), if_neg (by omega), if_neg (by omega), if_neg (by omega), if_neg (by omega), if_neg (by omega)]
theorem sq_gy {T : Int → Int} {n c d s : Int} {st : List Int} {b : Int → Bool} {w : Int} (h : 100 ≤ s) (hk : tkd T n c = s - 100) : stp T n (c, s :: st, d, b, w) = .inl (tnx T n c, st, d, b, w) := by
  show stS T n c st d b w s = _
  unfold stS
  rw [if_pos h, if_pos hk]
theorem sq_gn {T : Int → Int} {n c d s : Int} {st : List Int} {b : Int → Bool} {w : Int} (h : 100 ≤ s) (hk : tkd T n c ≠ s - 100) : stp T n (c, s :: st, d, b, w) = .inr c := by
  show stS T n c st d b w s = _
  unfold stS
  rw [if_pos h, if_neg hk]
theorem sq_0 {T : Int → Int} {n c d : Int} {st : List Int} {b : Int → Bool} {w : Int} : stp T n (c, 0 :: st, d, b, w) = stC T n c st d b w := by
  show stS T n c st d b w 0 = _
  unfold stS
  rw [if_neg (by omega), if_pos rfl]
theorem sq_0e {T : Int → Int} {n c d : Int} {st : List Int} {b : Int → Bool} {w : Int} (h : tkd T n c = 0) : stp T n (c, 0 :: st, d, b, w) = .inl (c, st, d, b, w) := by
  rw [sq_0]
  unfold stC
  rw [if_pos h]
theorem sq_0sy {T : Int → Int} {n c d : Int} {st : List Int} {b : Int → Bool} {w : Int} (h : twd T n c = 0) (q : tkd T n (tnx T n c) = 1 ∧ ten T n (tnx T n c) - tnx T n c ≤ 8 ∧ w ≠ 4) : stp T n (c, 0 :: st, d, b, w) = .inl (tnx T n (tnx T n c), 159 :: 0 :: st, d, b, w + 1) := by
  rw [sq_0]
  unfold stC
  rw [if_neg (by have := twd_k (T := T) (n := n) (s := c) (by omega); omega), if_pos h, if_pos q]
theorem sq_0sn {T : Int → Int} {n c d : Int} {st : List Int} {b : Int → Bool} {w : Int} (h : twd T n c = 0) (q : ¬ (tkd T n (tnx T n c) = 1 ∧ ten T n (tnx T n c) - tnx T n c ≤ 8 ∧ w ≠ 4)) : stp T n (c, 0 :: st, d, b, w) = .inr (tnx T n c) := by
  rw [sq_0]
  unfold stC
  rw [if_neg (by have := twd_k (T := T) (n := n) (s := c) (by omega); omega), if_pos h, if_neg q]
theorem sq_0cb {T : Int → Int} {n c d : Int} {st : List Int} {b : Int → Bool} {w : Int} (h : twd T n c = 1 ∨ twd T n c = 2) (q : b (twd T n c - 1) = true) : stp T n (c, 0 :: st, d, b, w) = .inr c := by
  rw [sq_0]
  unfold stC
  rw [if_neg (by have := twd_k (T := T) (n := n) (s := c) (by omega); omega), if_neg (by omega), if_pos h, if_pos q]
theorem sq_0cy {T : Int → Int} {n c d : Int} {st : List Int} {b : Int → Bool} {w : Int} (h : twd T n c = 1 ∨ twd T n c = 2) (q : b (twd T n c - 1) = false) (r : 19 + 2 * twd T n c ≤ twd T n (tnx T n c) ∧ twd T n (tnx T n c) ≤ 20 + 2 * twd T n c) : stp T n (c, 0 :: st, d, b, w) = .inl (tnx T n (tnx T n c), 159 :: 0 :: st, d, sbp b (twd T n c - 1), w) := by
  rw [sq_0]
  unfold stC
  rw [if_neg (by have := twd_k (T := T) (n := n) (s := c) (by omega); omega), if_neg (by omega), if_pos h, if_neg (by rw [q]; decide), if_pos r]
theorem sq_0cn {T : Int → Int} {n c d : Int} {st : List Int} {b : Int → Bool} {w : Int} (h : twd T n c = 1 ∨ twd T n c = 2) (q : b (twd T n c - 1) = false) (r : ¬ (19 + 2 * twd T n c ≤ twd T n (tnx T n c) ∧ twd T n (tnx T n c) ≤ 20 + 2 * twd T n c)) : stp T n (c, 0 :: st, d, b, w) = .inr (tnx T n c) := by
  rw [sq_0]
  unfold stC
  rw [if_neg (by have := twd_k (T := T) (n := n) (s := c) (by omega); omega), if_neg (by omega), if_pos h, if_neg (by rw [q]; decide), if_neg r]
theorem sq_0wb {T : Int → Int} {n c d : Int} {st : List Int} {b : Int → Bool} {w : Int} (h : 3 ≤ twd T n c ∧ twd T n c ≤ 5) (q : b (twd T n c - 1) = true) : stp T n (c, 0 :: st, d, b, w) = .inr c := by
  rw [sq_0]
  unfold stC
  rw [if_neg (by have := twd_k (T := T) (n := n) (s := c) (by omega); omega), if_neg (by omega), if_neg (by omega), if_pos h, if_pos q]
theorem st_0w6 {T : Int → Int} {n c d : Int} {st : List Int} {b : Int → Bool} {w : Int} (h : 3 ≤ twd T n c ∧ twd T n c ≤ 4) (q : b (twd T n c - 1) = false) : stp T n (c, 0 :: st, d, b, w) = .inl (tnx T n c, 6 :: 13 :: 159 :: 0 :: st, d, sbp b (twd T n c - 1), w) := by
  rw [sq_0]
  unfold stC
  rw [if_neg (by have := twd_k (T := T) (n := n) (s := c) (by omega); omega), if_neg (by omega), if_neg (by omega), if_pos (by omega), if_neg (by rw [q]; decide), if_neg (show ¬ twd T n c = 5 by omega)]
theorem st_0w1 {T : Int → Int} {n c d : Int} {st : List Int} {b : Int → Bool} {w : Int} (h : twd T n c = 5) (q : b (twd T n c - 1) = false) : stp T n (c, 0 :: st, d, b, w) = .inl (tnx T n c, 1 :: 13 :: 159 :: 0 :: st, d, sbp b (twd T n c - 1), w) := by
  rw [sq_0]
  unfold stC
  rw [if_neg (by have := twd_k (T := T) (n := n) (s := c) (by omega); omega), if_neg (by omega), if_neg (by omega), if_pos (by omega), if_neg (by rw [q]; decide), if_pos h]
theorem sq_0ln {T : Int → Int} {n c d : Int} {st : List Int} {b : Int → Bool} {w : Int} (h : 6 ≤ twd T n c ∧ twd T n c ≤ 8) (r : ¬ (9 ≤ twd T n (tnx T n c) ∧ twd T n (tnx T n c) ≤ 11)) : stp T n (c, 0 :: st, d, b, w) = .inr (tnx T n c) := by
  rw [sq_0]
  unfold stC
  rw [if_neg (by have := twd_k (T := T) (n := n) (s := c) (by omega); omega), if_neg (by omega), if_neg (by omega), if_neg (by omega), if_pos h, if_neg r]
theorem sq_0lb {T : Int → Int} {n c d : Int} {st : List Int} {b : Int → Bool} {w : Int} (h : 6 ≤ twd T n c ∧ twd T n c ≤ 8) (r : 9 ≤ twd T n (tnx T n c) ∧ twd T n (tnx T n c) ≤ 11) (q : b (5 + 3 * (twd T n c - 6) + (twd T n (tnx T n c) - 9)) = true) : stp T n (c, 0 :: st, d, b, w) = .inr (tnx T n c) := by
  rw [sq_0]
  unfold stC
  rw [if_neg (by have := twd_k (T := T) (n := n) (s := c) (by omega); omega), if_neg (by omega), if_neg (by omega), if_neg (by omega), if_pos h, if_pos r, if_pos q]
theorem sq_0ly {T : Int → Int} {n c d : Int} {st : List Int} {b : Int → Bool} {w : Int} (h : 6 ≤ twd T n c ∧ twd T n c ≤ 8) (r : 9 ≤ twd T n (tnx T n c) ∧ twd T n (tnx T n c) ≤ 11) (q : b (5 + 3 * (twd T n c - 6) + (twd T n (tnx T n c) - 9)) = false) : stp T n (c, 0 :: st, d, b, w) = .inl (tnx T n (tnx T n c), 1 :: 13 :: 159 :: 0 :: st, d, sbp b (5 + 3 * (twd T n c - 6) + (twd T n (tnx T n c) - 9)), w) := by
  rw [sq_0]
  unfold stC
  rw [if_neg (by have := twd_k (T := T) (n := n) (s := c) (by omega); omega), if_neg (by omega), if_neg (by omega), if_neg (by omega), if_pos h, if_pos r, if_neg (by rw [q]; decide)]
theorem sq_0n {T : Int → Int} {n c d : Int} {st : List Int} {b : Int → Bool} {w : Int} (hk : tkd T n c ≠ 0) (h : twd T n c < 0 ∨ 8 < twd T n c) : stp T n (c, 0 :: st, d, b, w) = .inr c := by
  rw [sq_0]
  unfold stC
  rw [if_neg hk, if_neg (by omega), if_neg (by omega), if_neg (by omega), if_neg (by omega)]
/-! ===== our reader: from one step to another ===== -/
def RP (T : Int → Int) (n : Int) (X0 : List Int) (d0 f0 j0 : Int) (b0 : Int → Bool) (w0 : Int) (f j : Int) (b : Int → Bool) (w : Int) (X : List Int) (d : Int) : Prop :=
  f0 = -1 → (f = -1 → ∀ (st : List Int) (r : Int), Runs T n (tkx T n j, X ++ st, d, b, w) r → Runs T n (tkx T n j0, X0 ++ st, d0, b0, w0) r) ∧ (f ≠ -1 → ∀ st : List Int, Runs T n (tkx T n j0, X0 ++ st, d0, b0, w0) f)
def EP (T : Int → Int) (n : Int) (X0 : List Int) (d0 f0 j0 f j : Int) (X : List Int) (d : Int) : Prop := ∀ (b : Int → Bool) (w : Int), RP T n X0 d0 f0 j0 b w f j b w X d
section RPS
variable {T : Int → Int} {n : Int} {X0 X Y X' : List Int} {d0 f0 j0 f j f' j' d d' x w0 w w' : Int} {b0 b b' : Int → Bool}
theorem RP_0 : RP T n X d f j b w f j b w X d := fun e => ⟨fun _ _ _ h => h, fun q => absurd e q⟩
theorem EP_0 : EP T n X d f j f j X d := fun _ _ => RP_0
theorem RP_x (h : f0 ≠ -1) : RP T n X0 d0 f0 j0 b0 w0 f j b w X d := fun e => absurd e h
theorem EP_x (h : f0 ≠ -1) : EP T n X0 d0 f0 j0 f j X d := fun _ _ => RP_x h
theorem RP_l (Y : List Int) (h : RP T n X0 d0 f0 j0 b0 w0 f j b w (x :: X) d) (hs : f = -1 → ∀ st, stp T n (tkx T n j, x :: (X ++ st), d, b, w) = .inl (tkx T n j', Y ++ (X ++ st), d', b', w')) : RP T n X0 d0 f0 j0 b0 w0 f j' b' w' (Y ++ X) d' := fun e => by
  refine ⟨fun q st r hr => (h e).1 q st r ((Runs_l (hs q st)).mpr ?_), (h e).2⟩
  rw [List.append_assoc] at hr; exact hr
theorem RP_r (h : RP T n X0 d0 f0 j0 b0 w0 f j b w (x :: X) d) (hs : f = -1 → ∀ st, stp T n (tkx T n j, x :: (X ++ st), d, b, w) = .inr f') (hf : f = -1 → f' ≠ -1) (hk : f ≠ -1 → f' = f) : RP T n X0 d0 f0 j0 b0 w0 f' j' b' w' X' d' := fun e => by
  by_cases q : f = -1
  · exact ⟨fun z => absurd z (hf q), fun _ st => (h e).1 q st f' ((Runs_r (hs q st)).mpr rfl)⟩
  · rw [hk q]; exact ⟨fun z => absurd z q, fun _ st => (h e).2 q st⟩
theorem RP_c (h : RP T n X0 d0 f0 j0 b0 w0 f j b w (x :: X) d) (c : RP T n [x] d f j b w f' j' b' w' [] d') (hk : f ≠ -1 → f' = f) : RP T n X0 d0 f0 j0 b0 w0 f' j' b' w' X d' := fun e => by
  by_cases q : f = -1
  · exact ⟨fun z st r hr => (h e).1 q st r ((c q).1 z (X ++ st) r hr), fun z st => (h e).1 q st f' ((c q).2 z (X ++ st))⟩
  · rw [hk q]; exact ⟨fun z => absurd z q, fun _ st => (h e).2 q st⟩
theorem RP_tr (h : RP T n X0 d0 f0 j0 b0 w0 f j b w X d) (c : RP T n X d f j b w f' j' b' w' X' d') (hk : f ≠ -1 → f' = f) : RP T n X0 d0 f0 j0 b0 w0 f' j' b' w' X' d' := fun e => by
  by_cases q : f = -1
  · exact ⟨fun z st r hr => (h e).1 q st r ((c q).1 z st r hr), fun z st => (h e).1 q st f' ((c q).2 z st)⟩
  · rw [hk q]; exact ⟨fun z => absurd z q, fun _ st => (h e).2 q st⟩
theorem EP_tr (h : EP T n X0 d0 f0 j0 f j X d) (c : EP T n X d f j f' j' X' d') (hk : f ≠ -1 → f' = f) : EP T n X0 d0 f0 j0 f' j' X' d' := fun b w => RP_tr (h b w) (c b w) hk
theorem EP_c (h : EP T n X0 d0 f0 j0 f j (x :: X) d) (c : EP T n [x] d f j f' j' [] d') (hk : f ≠ -1 → f' = f) : EP T n X0 d0 f0 j0 f' j' X d' := fun b w => RP_c (h b w) (c b w) hk
/-- a fault's been there, and nothing is read -/
theorem EP_k (h : EP T n X0 d0 f0 j0 f j X d) (hf : f ≠ -1) (e : f' = f) : EP T n X0 d0 f0 j0 f' j' X' d' := fun b w e0 => by
  rw [e]; exact ⟨fun z => absurd z hf, fun z st => (h b w e0).2 z st⟩
theorem RP_k (h : RP T n X0 d0 f0 j0 b0 w0 f j b w X d) (hf : f ≠ -1) (e : f' = f) : RP T n X0 d0 f0 j0 b0 w0 f' j' b' w' X' d' := fun e0 => by
  rw [e]; exact ⟨fun z => absurd z hf, fun z st => (h e0).2 z st⟩
theorem EP_1 (h : EP T n X0 d0 f0 j0 f j (1 :: X) d) : EP T n X0 d0 f0 j0 f j (3 :: 2 :: X) d := fun b w => RP_l [3, 2] (h b w) (fun q _ => sq_1)
theorem EP_2y (h : EP T n X0 d0 f0 j0 f j (2 :: X) d) (hk : f = -1 → (tkd T n (tkx T n j) = 43 ∨ tkd T n (tkx T n j) = 45)) (h0 : 0 ≤ j) (hj : f = -1 → j' = j + 1) : EP T n X0 d0 f0 j0 f j' (3 :: 2 :: X) d := fun b w => RP_l [3, 2] (h b w) (fun q _ => by rw [tkx_s h0 (hj q)]; exact sq_2y (hk q))
theorem EP_2n (h : EP T n X0 d0 f0 j0 f j (2 :: X) d) (hk : f = -1 → (tkd T n (tkx T n j) ≠ 43 ∧ tkd T n (tkx T n j) ≠ 45)) : EP T n X0 d0 f0 j0 f j X d := fun b w => RP_l [] (h b w) (fun q _ => sq_2n (hk q))
theorem EP_3 (h : EP T n X0 d0 f0 j0 f j (3 :: X) d) : EP T n X0 d0 f0 j0 f j (5 :: 4 :: X) d := fun b w => RP_l [5, 4] (h b w) (fun q _ => sq_3)
theorem EP_4y (h : EP T n X0 d0 f0 j0 f j (4 :: X) d) (hk : f = -1 → (tkd T n (tkx T n j) = 42 ∨ tkd T n (tkx T n j) = 47)) (h0 : 0 ≤ j) (hj : f = -1 → j' = j + 1) : EP T n X0 d0 f0 j0 f j' (5 :: 4 :: X) d := fun b w => RP_l [5, 4] (h b w) (fun q _ => by rw [tkx_s h0 (hj q)]; exact sq_4y (hk q))
theorem EP_4n (h : EP T n X0 d0 f0 j0 f j (4 :: X) d) (hk : f = -1 → (tkd T n (tkx T n j) ≠ 42 ∧ tkd T n (tkx T n j) ≠ 47)) : EP T n X0 d0 f0 j0 f j X d := fun b w => RP_l [] (h b w) (fun q _ => sq_4n (hk q))
theorem EP_5y (h : EP T n X0 d0 f0 j0 f j (5 :: X) d) (hk : f = -1 → ((tkd T n (tkx T n j) = 2 ∧ tnm T n (tkx T n j) ≤ 99999) ∨ (12 ≤ twd T n (tkx T n j) ∧ twd T n (tkx T n j) ≤ 20))) (h0 : 0 ≤ j) (hj : f = -1 → j' = j + 1) : EP T n X0 d0 f0 j0 f j' X d := fun b w => RP_l [] (h b w) (fun q _ => by rw [tkx_s h0 (hj q)]; exact sq_5y (hk q))
theorem EP_5p (h : EP T n X0 d0 f0 j0 f j (5 :: X) d) (hk : f = -1 → (tkd T n (tkx T n j) = 40 ∧ d ≠ 8)) (h0 : 0 ≤ j) (hj : f = -1 → j' = j + 1) : EP T n X0 d0 f0 j0 f j' (1 :: 141 :: 12 :: X) (d + 1) := fun b w => RP_l [1, 141, 12] (h b w) (fun q _ => by rw [tkx_s h0 (hj q)]; exact sq_5p (hk q).1 (hk q).2)
theorem EP_6 (h : EP T n X0 d0 f0 j0 f j (6 :: X) d) : EP T n X0 d0 f0 j0 f j (8 :: 7 :: X) d := fun b w => RP_l [8, 7] (h b w) (fun q _ => sq_6)
theorem EP_7y (h : EP T n X0 d0 f0 j0 f j (7 :: X) d) (hk : f = -1 → (twd T n (tkx T n j) = 25)) (h0 : 0 ≤ j) (hj : f = -1 → j' = j + 1) : EP T n X0 d0 f0 j0 f j' (8 :: 7 :: X) d := fun b w => RP_l [8, 7] (h b w) (fun q _ => by rw [tkx_s h0 (hj q)]; exact sq_7y (hk q))
theorem EP_7n (h : EP T n X0 d0 f0 j0 f j (7 :: X) d) (hk : f = -1 → (twd T n (tkx T n j) ≠ 25)) : EP T n X0 d0 f0 j0 f j X d := fun b w => RP_l [] (h b w) (fun q _ => sq_7n (hk q))
theorem EP_8 (h : EP T n X0 d0 f0 j0 f j (8 :: X) d) : EP T n X0 d0 f0 j0 f j (10 :: 9 :: X) d := fun b w => RP_l [10, 9] (h b w) (fun q _ => sq_8)
theorem EP_9y (h : EP T n X0 d0 f0 j0 f j (9 :: X) d) (hk : f = -1 → (twd T n (tkx T n j) = 26)) (h0 : 0 ≤ j) (hj : f = -1 → j' = j + 1) : EP T n X0 d0 f0 j0 f j' (10 :: 9 :: X) d := fun b w => RP_l [10, 9] (h b w) (fun q _ => by rw [tkx_s h0 (hj q)]; exact sq_9y (hk q))
theorem EP_9n (h : EP T n X0 d0 f0 j0 f j (9 :: X) d) (hk : f = -1 → (twd T n (tkx T n j) ≠ 26)) : EP T n X0 d0 f0 j0 f j X d := fun b w => RP_l [] (h b w) (fun q _ => sq_9n (hk q))
theorem EP_10n (h : EP T n X0 d0 f0 j0 f j (10 :: X) d) (hk : f = -1 → (twd T n (tkx T n j) = 27 ∧ d ≠ 8)) (h0 : 0 ≤ j) (hj : f = -1 → j' = j + 1) : EP T n X0 d0 f0 j0 f j' (10 :: 12 :: X) (d + 1) := fun b w => RP_l [10, 12] (h b w) (fun q _ => by rw [tkx_s h0 (hj q)]; exact sq_10n (hk q).1 (hk q).2)
theorem EP_10k (h : EP T n X0 d0 f0 j0 f j (10 :: X) d) (hk : f = -1 → (tkd T n (tkx T n j) = 91 ∧ d ≠ 8)) (h0 : 0 ≤ j) (hj : f = -1 → j' = j + 1) : EP T n X0 d0 f0 j0 f j' (6 :: 193 :: 12 :: X) (d + 1) := fun b w => RP_l [6, 193, 12] (h b w) (fun q _ => by rw [tkx_s h0 (hj q)]; exact sq_10k (hk q).1 (hk q).2)
theorem EP_10c (h : EP T n X0 d0 f0 j0 f j (10 :: X) d) (hk : f = -1 → (twd T n (tkx T n j) ≠ 27 ∧ tkd T n (tkx T n j) ≠ 91)) : EP T n X0 d0 f0 j0 f j (1 :: 11 :: X) d := fun b w => RP_l [1, 11] (h b w) (fun q _ => sq_10c (hk q).1 (hk q).2)
theorem EP_11y (h : EP T n X0 d0 f0 j0 f j (11 :: X) d) (hk : f = -1 → (tkd T n (tkx T n j) = 60 ∨ tkd T n (tkx T n j) = 62 ∨ tkd T n (tkx T n j) = 61)) (h0 : 0 ≤ j) (hj : f = -1 → j' = j + 1) : EP T n X0 d0 f0 j0 f j' (1 :: X) d := fun b w => RP_l [1] (h b w) (fun q _ => by rw [tkx_s h0 (hj q)]; exact sq_11y (hk q))
theorem EP_12 (h : EP T n X0 d0 f0 j0 f j (12 :: X) d) : EP T n X0 d0 f0 j0 f j X (d - 1) := fun b w => RP_l [] (h b w) (fun q _ => sq_12)
theorem EP_gy (h : EP T n X0 d0 f0 j0 f j (x :: X) d) (hx : 100 ≤ x) (hk : f = -1 → (tkd T n (tkx T n j) = x - 100)) (h0 : 0 ≤ j) (hj : f = -1 → j' = j + 1) : EP T n X0 d0 f0 j0 f j' X d := fun b w => RP_l [] (h b w) (fun q _ => by rw [tkx_s h0 (hj q)]; exact sq_gy hx (hk q))
theorem EP_5b (h : EP T n X0 d0 f0 j0 f j (5 :: X) d) (hk : f = -1 → ((tkd T n (tkx T n j) ≠ 2 ∨ 99999 < tnm T n (tkx T n j)) ∧ (twd T n (tkx T n j) < 12 ∨ 20 < twd T n (tkx T n j)) ∧ (tkd T n (tkx T n j) ≠ 40 ∨ d = 8))) (h0 : 0 ≤ j) (hf : f = -1 → f' = tkx T n j) (hn : f ≠ -1 → f' = f) : EP T n X0 d0 f0 j0 f' j' X' d' := fun b w => RP_r (h b w) (fun q _ => by rw [hf q]; exact sq_5b (hk q)) (fun q => by rw [hf q]; have := tkx_ge (T := T) (n := n) h0; omega) hn
theorem EP_10b (h : EP T n X0 d0 f0 j0 f j (10 :: X) d) (hk : f = -1 → ((twd T n (tkx T n j) = 27 ∨ tkd T n (tkx T n j) = 91) ∧ d = 8)) (h0 : 0 ≤ j) (hf : f = -1 → f' = tkx T n j) (hn : f ≠ -1 → f' = f) : EP T n X0 d0 f0 j0 f' j' X' d' := fun b w => RP_r (h b w) (fun q _ => by rw [hf q]; exact sq_10b (hk q).1 (hk q).2) (fun q => by rw [hf q]; have := tkx_ge (T := T) (n := n) h0; omega) hn
theorem EP_11b (h : EP T n X0 d0 f0 j0 f j (11 :: X) d) (hk : f = -1 → (tkd T n (tkx T n j) ≠ 60 ∧ tkd T n (tkx T n j) ≠ 62 ∧ tkd T n (tkx T n j) ≠ 61)) (h0 : 0 ≤ j) (hf : f = -1 → f' = tkx T n j) (hn : f ≠ -1 → f' = f) : EP T n X0 d0 f0 j0 f' j' X' d' := fun b w => RP_r (h b w) (fun q _ => by rw [hf q]; exact sq_11n (hk q)) (fun q => by rw [hf q]; have := tkx_ge (T := T) (n := n) h0; omega) hn
theorem EP_gb (h : EP T n X0 d0 f0 j0 f j (x :: X) d) (hx : 100 ≤ x) (hk : f = -1 → (tkd T n (tkx T n j) ≠ x - 100)) (h0 : 0 ≤ j) (hf : f = -1 → f' = tkx T n j) (hn : f ≠ -1 → f' = f) : EP T n X0 d0 f0 j0 f' j' X' d' := fun b w => RP_r (h b w) (fun q _ => by rw [hf q]; exact sq_gn hx (hk q)) (fun q => by rw [hf q]; have := tkx_ge (T := T) (n := n) h0; omega) hn
end RPS

/-! ===== the bytes of a number ===== -/
def zushr (x y : Int) : Int := (((iI x).toUInt32 >>> ((iI y).toUInt32 &&& Int32.toUInt32 31)).toInt32).toInt
theorem zand_b {x y : Int} (h0 : 0 ≤ y) (h1 : y ≤ 2147483647) : 0 ≤ zand x y ∧ zand x y ≤ y := by
  have h := and_bd (iI x) (iI y) (by rw [iI_toInt ⟨by omega, h1⟩]; exact h0)
  rw [iI_toInt (z := y) ⟨by omega, h1⟩] at h
  exact h
/-! the reference's byte, signed; ours, not -/
def zi8 (x : Int) : Int := (vp_nar .byte (iI x)).toInt
def sgb (b : Int) : Int := if b < 128 then b else b - 256
theorem zi8_r (w : Int32) : -128 ≤ (vp_nar .byte w).toInt ∧ (vp_nar .byte w).toInt ≤ 127 := by
  rw [vp_nar_byte, Int8.toInt_toInt32]
  have h1 := Int8.le_toInt w.toInt8
  have h2 := Int8.toInt_lt w.toInt8
  omega
theorem sgb_i {b : Int} (h : 0 ≤ b ∧ b ≤ 255) : (sgb b = 0 ↔ b = 0) ∧ (sgb b = 32 ↔ b = 32) ∧ ((97 ≤ sgb b ∧ sgb b ≤ 122) ↔ (97 ≤ b ∧ b ≤ 122)) ∧ ((48 ≤ sgb b ∧ sgb b ≤ 57) ↔ (48 ≤ b ∧ b ≤ 57)) := by
  unfold sgb; split <;> omega
/-- the byte at one place, read in both ways: shifts by s here and by t there -/
theorem sgb_k (x : Int) (s t : Int) (k : Nat) (hk : k = 0 ∨ k = 8 ∨ k = 16 ∨ k = 24) (hs : ((iI s &&& 31).toBitVec.smod 32).toNat = k) (ht : (((iI t).toUInt32 &&& Int32.toUInt32 31).toBitVec % 32).toNat = k) : zi8 (zshr x s) = sgb (zand (zushr x t) 255) := by
  unfold zi8 zshr zand zushr
  rw [iI_back, iI_back, vp_nar_byte, Int8.toInt_toInt32, Int32.toInt_toInt8, Int.bmod_def]
  have e1 : (iI x >>> (iI s &&& 31)).toInt = (iI x).toInt >>> k := pk_shr (iI x) (iI s &&& 31) k hs
  have e2 : (((iI x).toUInt32 >>> ((iI t).toUInt32 &&& Int32.toUInt32 31)).toInt32 &&& iI 255).toInt = (((iI x).toBitVec.toNat / 2 ^ k % 256 : Nat) : Int) := by
    rw [show iI 255 = (255 : Int32) from by decide, pk_and _ (m := 255) 8 (by decide), nI_toInt (by have : ∀ z : Nat, z % 2 ^ 8 < 256 := fun z => Nat.mod_lt _ (by decide); have := this (((iI x).toUInt32 >>> ((iI t).toUInt32 &&& Int32.toUInt32 31)).toInt32.toBitVec.toNat); omega)]
    have : ((iI x).toUInt32 >>> ((iI t).toUInt32 &&& Int32.toUInt32 31)).toInt32.toBitVec.toNat = (iI x).toBitVec.toNat / 2 ^ k := by
      have e3 : ((iI x).toUInt32 >>> ((iI t).toUInt32 &&& Int32.toUInt32 31)).toInt32.toBitVec = (iI x).toBitVec >>> (((iI t).toUInt32 &&& Int32.toUInt32 31).toBitVec % 32) := rfl
      rw [e3, BitVec.ushiftRight_eq', BitVec.toNat_ushiftRight, ht, Nat.shiftRight_eq_div_pow]
    rw [this]
  rw [e1, e2, Int.shiftRight_eq_div_pow]
  have hx : (iI x).toInt = ((iI x).toBitVec.toNat : Int) ∨ (iI x).toInt = ((iI x).toBitVec.toNat : Int) - 4294967296 := by
    have h1 : (iI x).toInt = (iI x).toBitVec.toInt := rfl
    rw [h1, BitVec.toInt_eq_toNat_cond]
    split
    · exact Or.inl rfl
    · exact Or.inr rfl
  unfold sgb
  generalize (iI x).toBitVec.toNat = n at *
  rcases hk with rfl | rfl | rfl | rfl <;> rcases hx with hx | hx <;> rw [hx] <;> split <;> split <;> omega
theorem nv_byteR {y : Int} (h2 : -128 ≤ y) (h3 : y ≤ 127) : vp_nar .byte (iI y) = iI y := by
  rw [vp_nar_byte]
  apply Int32.toInt_inj.mp
  rw [Int8.toInt_toInt32, Int32.toInt_toInt8, iI_toInt ⟨by omega, by omega⟩, Int.bmod_def]
  split <;> omega
theorem zi8_b (x : Int) : -128 ≤ zi8 x ∧ zi8 x ≤ 127 := zi8_r (iI x)

/-! ===== our TOKENS, in the reader's rows ===== -/
theorem zand_255 {x : Int} (h : rg x) : zand x 255 = x % 256 := by
  unfold zand
  rw [show iI 255 = (255 : Int32) from by decide, pk_and _ (m := 255) 8 (by decide), nI_toInt (by have : ∀ z : Nat, z % 2 ^ 8 < 256 := fun z => Nat.mod_lt _ (by decide); have := this ((iI x).toBitVec.toNat); omega)]
  have e := i32_tn (iI x)
  rw [iI_toInt h] at e
  have l1 := (iI x).toBitVec.isLt
  split at e <;> omega
def xTT (v : Int → Int → Int) (p0 : Int) : Int → Int := fun i => if 0 ≤ i ∧ i < v p0 1 then v (v p0 0) i % 256 else 0
def txt (T : Int → Int) (n : Int) (v : Int → Int → Int) (p0 : Int) : Prop := n = v p0 1 ∧ ∀ i : Int, T i = if 0 ≤ i ∧ i < v p0 1 then v (v p0 0) i % 256 else 0
def tka (T : Int → Int) (n : Int) (v : Int → Int → Int) (p0 m : Int) : Prop := ∀ i : Nat, (i : Int) < m → v (v p0 2) i = tkd T n (tkn T n i) ∧ v (v p0 3) i = tkn T n i ∧ v (v p0 4) i = ten T n (tkn T n i) ∧ v (v p0 5) i = tvx T (tkd T n (tkn T n i)) (tkn T n i) (ten T n (tkn T n i))
def tkp (T : Int → Int) (n m : Int) : Prop := ∀ i : Nat, (i : Int) + 1 < m → tkd T n (tkn T n i) ≠ 0 ∧ tkd T n (tkn T n i) ≠ 3
def tks (T : Int → Int) (n : Int) (v : Int → Int → Int) (p0 : Int) : Prop := txt T n v p0 ∧ tka T n v p0 (v p0 6) ∧ tkp T n (v p0 6) ∧ (1 ≤ v p0 6 ∧ v p0 6 ≤ 601) ∧ (tkd T n (tkx T n (v p0 6 - 1)) = 0 ∨ tkd T n (tkx T n (v p0 6 - 1)) = 3)
def jF (p q : Prop) : Prop := p → q
theorem jF_o {a b : Int} {q : Prop} (h : jF (a ≠ b) q) : a = b ∨ q := by
  by_cases c : a = b
  · exact Or.inl c
  · exact Or.inr (h c)
theorem jF_2 {a b : Int} {p q : Prop} (h : jF (p ∧ a = b) q) (hp : p) : a ≠ b ∨ q := by
  by_cases c : a = b
  · exact Or.inr (h ⟨hp, c⟩)
  · exact Or.inl c
theorem jF_3 {a b c d : Int} {q : Prop} (h : jF (a = b ∧ c = d) q) : a ≠ b ∨ c ≠ d ∨ q := by
  by_cases x : a = b
  · exact Or.inr (jF_2 h x)
  · exact Or.inl x
/-! bytes of the Strings -/
def sx_s (i : Nat) (k : Int) : Int := ((sx_byt.getD i []).getD (iI k).toNatClampNeg 0).toInt
theorem sx_all : ∀ i : Nat, i < 3 → ∀ k : Nat, k < 155 → sx_s i (k : Int) = sx_c i (k : Int) ∧ 0 ≤ sx_s i (k : Int) ∧ sx_s i (k : Int) ≤ 127 := by decide +kernel
theorem sx_n3 : ∀ i : Nat, i < 3 → sx_n i ≤ 154 := by decide
theorem sx_sc {i : Nat} {k : Int} (hi : i < 3) (h0 : 0 ≤ k) (h1 : k < sx_n i) : sx_s i k = sx_c i k ∧ 0 ≤ sx_s i k ∧ sx_s i k ≤ 127 := by
  have h2 := sx_n3 i hi
  have := sx_all i hi k.toNat (by omega)
  rw [show ((k.toNat : Nat) : Int) = k by omega] at this; exact this
def hasC (i : Nat) (ch : Int) : Prop := ∃ j : Int, 0 ≤ j ∧ j < sx_n i ∧ sx_c i j = ch
def noC (i : Nat) (ch a b : Int) : Prop := ∀ j : Int, a ≤ j → j < b → sx_c i j ≠ ch
theorem hasC_i {i : Nat} {ch j : Int} (h0 : 0 ≤ j) (h1 : j < sx_n i) (e : sx_c i j = ch) : hasC i ch := ⟨j, h0, h1, e⟩
theorem noC_0 {i : Nat} {ch a : Int} : noC i ch a a := fun j h0 h1 => absurd h1 (by omega)
theorem noC_s {i : Nat} {ch a b : Int} (h : noC i ch a b) (e : sx_c i b ≠ ch) : noC i ch a (b + 1) := fun j h0 h1 => by
  by_cases q : j = b
  · rw [q]; exact e
  · exact h j h0 (by omega)
theorem noC_e {i : Nat} {ch a b e : Int} (h : noC i ch a b) (he : e ≤ b) : noC i ch a e := fun j h0 h1 => h j h0 (by omega)
theorem hasC_n {i : Nat} {ch a b : Int} (h : noC i ch a b) (ha : a ≤ 0) (hb : sx_n i ≤ b) : ¬ hasC i ch := fun q => by
  obtain ⟨j, h0, h1, e⟩ := q
  exact h j (by omega) (by omega) e
theorem sg_of {j : Int} (h0 : 0 ≤ j) (h1 : j < 13) : sx_c 0 j = 43 ∨ sx_c 0 j = 45 ∨ sx_c 0 j = 42 ∨ sx_c 0 j = 47 ∨ sx_c 0 j = 40 ∨ sx_c 0 j = 41 ∨ sx_c 0 j = 91 ∨ sx_c 0 j = 93 ∨ sx_c 0 j = 44 ∨ sx_c 0 j = 60 ∨ sx_c 0 j = 62 ∨ sx_c 0 j = 61 ∨ sx_c 0 j = 59 := by
  rcases (show j = 0 ∨ j = 1 ∨ j = 2 ∨ j = 3 ∨ j = 4 ∨ j = 5 ∨ j = 6 ∨ j = 7 ∨ j = 8 ∨ j = 9 ∨ j = 10 ∨ j = 11 ∨ j = 12 by omega) with rfl | rfl | rfl | rfl | rfl | rfl | rfl | rfl | rfl | rfl | rfl | rfl | rfl <;> decide +kernel
theorem sg_has {x : Int} (h : x = 43 ∨ x = 45 ∨ x = 42 ∨ x = 47 ∨ x = 40 ∨ x = 41 ∨ x = 91 ∨ x = 93 ∨ x = 44 ∨ x = 60 ∨ x = 62 ∨ x = 61 ∨ x = 59) : hasC 0 x := by
  rcases h with rfl | rfl | rfl | rfl | rfl | rfl | rfl | rfl | rfl | rfl | rfl | rfl | rfl
  · exact ⟨0, by decide, by decide, by decide +kernel⟩
  · exact ⟨1, by decide, by decide, by decide +kernel⟩
  · exact ⟨2, by decide, by decide, by decide +kernel⟩
  · exact ⟨3, by decide, by decide, by decide +kernel⟩
  · exact ⟨4, by decide, by decide, by decide +kernel⟩
  · exact ⟨5, by decide, by decide, by decide +kernel⟩
  · exact ⟨6, by decide, by decide, by decide +kernel⟩
  · exact ⟨7, by decide, by decide, by decide +kernel⟩
  · exact ⟨8, by decide, by decide, by decide +kernel⟩
  · exact ⟨9, by decide, by decide, by decide +kernel⟩
  · exact ⟨10, by decide, by decide, by decide +kernel⟩
  · exact ⟨11, by decide, by decide, by decide +kernel⟩
  · exact ⟨12, by decide, by decide, by decide +kernel⟩
theorem sg_tie {z x : Int} (h1 : jF (0 ≤ z) (hasC 0 x)) (h2 : jF (z < 0) (¬ hasC 0 x)) : (0 ≤ z ∧ (x = 43 ∨ x = 45 ∨ x = 42 ∨ x = 47 ∨ x = 40 ∨ x = 41 ∨ x = 91 ∨ x = 93 ∨ x = 44 ∨ x = 60 ∨ x = 62 ∨ x = 61 ∨ x = 59)) ∨ (z < 0 ∧ x ≠ 43 ∧ x ≠ 45 ∧ x ≠ 42 ∧ x ≠ 47 ∧ x ≠ 40 ∧ x ≠ 41 ∧ x ≠ 91 ∧ x ≠ 93 ∧ x ≠ 44 ∧ x ≠ 60 ∧ x ≠ 62 ∧ x ≠ 61 ∧ x ≠ 59) := by
  by_cases q : 0 ≤ z
  · obtain ⟨j, j0, j1, e⟩ := h1 q
    have := sg_of (j := j) j0 j1
    rw [e] at this
    exact Or.inl ⟨q, this⟩
  · have h3 := h2 (by omega)
    refine Or.inr ⟨by omega, ?_⟩
    have : ¬ (x = 43 ∨ x = 45 ∨ x = 42 ∨ x = 47 ∨ x = 40 ∨ x = 41 ∨ x = 91 ∨ x = 93 ∨ x = 44 ∨ x = 60 ∨ x = 62 ∨ x = 61 ∨ x = 59) := fun w => h3 (sg_has w)
    omega
theorem ic_id {x : Int} (h0 : 0 ≤ x) (h1 : x ≤ 65535) : ((iI x).toUInt32 % 65536).toInt32 = iI x := by
  apply Int32.toInt_inj.mp
  have e := i32_tn (iI x)
  rw [iI_toInt ⟨by omega, by omega⟩] at e
  have l1 := (iI x).toBitVec.isLt
  rw [pk_char, nI_toInt (by omega), iI_toInt ⟨by omega, by omega⟩]
  split at e <;> omega
section XB
variable {p : Program} {l : Launch} {e : Env} {R : Room} {s : State} {m : MethodId} {args : Array Value} {below : List Frame} {meth : Method} {c : Code} {H : Heap} {locs : List Loc} {cells slots : Nat} {Q : State → Prop}
variable {cc : ByteArray} {pc : Nat} {ls : Array Slot} {rest : List Value} {x : Int}
theorem xr_i2bE (hx : p.tables.exec = Jvm.exec) (hb : c.code = cc) (h0 : 0 ≤ x) (h1 : x ≤ 255) (hdg : decode cc pc = .ok (.i2b, 1)) (kk : ∀ z : Int, ((z = x ∧ x ≤ 127) ∨ (z = x - 256 ∧ 128 ≤ x)) → W p l e R s m args below meth c H locs cells slots Q (F0 m (pc + 1) ls (.int (iI z) :: rest))) : W p l e R s m args below meth c H locs cells slots Q (F0 m pc ls (.int (iI x) :: rest)) := by
  refine lv_i2b hx hb (v := iI (if x ≤ 127 then x else x - 256)) hdg ?_ (kk _ (by split <;> omega))
  apply Int32.toInt_inj.mp
  rw [Int8.toInt_toInt32, Int32.toInt_toInt8, iI_toInt ⟨by omega, by omega⟩, iI_toInt (show rg (if x ≤ 127 then x else x - 256) by split <;> omega), Int.bmod_def]
  split <;> split <;> omega
theorem xr_i2cE (hx : p.tables.exec = Jvm.exec) (hb : c.code = cc) (h0 : 0 ≤ x) (h1 : x ≤ 65535) (hdg : decode cc pc = .ok (.i2c, 1)) (kk : W p l e R s m args below meth c H locs cells slots Q (F0 m (pc + 1) ls (.int (iI x) :: rest))) : W p l e R s m args below meth c H locs cells slots Q (F0 m pc ls (.int (iI x) :: rest)) := lv_i2c hx hb hdg (ic_id h0 h1) kk
end XB
section XT
variable {L : List Nat} {K : Int → Nat} {N : Int → Int} {v v1 : Int → Int → Int} {W : List (Nat × Int)} {p0 n i j : Int} {T : Int → Int}
theorem txt_0 : txt (xTT v p0) (v p0 1) v p0 := ⟨rfl, fun _ => rfl⟩
theorem txt_fr (hI : xI L K N v) (q0 : ok L K p0 7) (f : fr K W v1 v) (w1 : inW W 7 1 = false) (w0 : inW W 7 0 = false) (w2 : ∀ j, inW W 20 j = false) (h : txt T n v p0) : txt T n v1 p0 := by
  unfold txt
  rw [fr_use q0 f w1, fr_use q0 f w0]
  exact ⟨h.1, fun i => by rw [fr_use (xf_7_0 hI q0) f (w2 i)]; exact h.2 i⟩
theorem txt_in (hI : xI L K N v) (q0 : ok L K p0 7) (h : txt T n v p0) (h0 : 0 ≤ i) (h1 : i < v p0 1) : zand (v (v p0 0) i) 255 = T i := by
  rw [h.2, if_pos ⟨h0, h1⟩, zand_255]
  have := xe_20 (i := i) hI (xf_7_0 hI q0) h0
  omega
theorem txt_out (h : txt T n v p0) (h0 : i < 0 ∨ v p0 1 ≤ i) : 0 = T i := by rw [h.2, if_neg (by omega)]
theorem txt_b (h : txt T n v p0) (i : Int) : 0 ≤ T i ∧ T i ≤ 255 := by
  rw [h.2]
  split <;> omega
theorem tks_fr (hI : xI L K N v) (q0 : ok L K p0 7) (f : fr K W v1 v) (w1 : inW W 7 1 = false) (w0 : inW W 7 0 = false) (w6 : inW W 7 6 = false) (k2 : inW W 7 2 = false) (k3 : inW W 7 3 = false) (k4 : inW W 7 4 = false) (k5 : inW W 7 5 = false) (w2 : ∀ j, inW W 20 j = false) (a1 : ∀ j, inW W 21 j = false) (a2 : ∀ j, inW W 22 j = false) (a3 : ∀ j, inW W 23 j = false) (a4 : ∀ j, inW W 24 j = false) (h : tks T n v p0) : tks T n v1 p0 := by
  obtain ⟨h1, h2, h3, h4, h5⟩ := h
  unfold tks
  rw [fr_use q0 f w6]
  refine ⟨txt_fr hI q0 f w1 w0 w2 h1, fun i hi => ?_, h3, h4, h5⟩
  rw [fr_use q0 f k2, fr_use q0 f k3, fr_use q0 f k4, fr_use q0 f k5, fr_use (xf_7_2 hI q0) f (a1 i), fr_use (xf_7_3 hI q0) f (a2 i), fr_use (xf_7_4 hI q0) f (a3 i), fr_use (xf_7_5 hI q0) f (a4 i)]
  exact h2 i hi
theorem tks_m (h : tks T n v p0) : 1 ≤ v p0 6 ∧ v p0 6 ≤ 601 := h.2.2.2.1
theorem tks_n (h : tks T n v p0) : n = v p0 1 := h.1.1
theorem tks_k (h : tks T n v p0) (h0 : 0 ≤ j) (h1 : j < v p0 6) : v (v p0 2) j = tkd T n (tkx T n j) := by
  have := (h.2.1 j.toNat (by omega)).1
  rw [show ((j.toNat : Nat) : Int) = j by omega] at this; exact this
theorem tks_s (h : tks T n v p0) (h0 : 0 ≤ j) (h1 : j < v p0 6) : v (v p0 3) j = tkx T n j := by
  have := (h.2.1 j.toNat (by omega)).2.1
  rw [show ((j.toNat : Nat) : Int) = j by omega] at this; exact this
theorem tks_e (h : tks T n v p0) (h0 : 0 ≤ j) (h1 : j < v p0 6) : v (v p0 4) j = ten T n (tkx T n j) := by
  have := (h.2.1 j.toNat (by omega)).2.2.1
  rw [show ((j.toNat : Nat) : Int) = j by omega] at this; exact this
theorem tks_v (h : tks T n v p0) (h0 : 0 ≤ j) (h1 : j < v p0 6) : v (v p0 5) j = tvx T (tkd T n (tkx T n j)) (tkx T n j) (ten T n (tkx T n j)) := by
  have := (h.2.1 j.toNat (by omega)).2.2.2
  rw [show ((j.toNat : Nat) : Int) = j by omega] at this; exact this
theorem tks_num (h : tks T n v p0) (h0 : 0 ≤ j) (h1 : j < v p0 6) : tkd T n (tkx T n j) ≠ 2 ∨ v (v p0 5) j = tnm T n (tkx T n j) := by
  by_cases q : tkd T n (tkx T n j) = 2
  · exact Or.inr ((tks_v h h0 h1).trans (tvx_2 q))
  · exact Or.inl q
theorem tks_w (h : tks T n v p0) (h0 : 0 ≤ j) (h1 : j < v p0 6) : tkd T n (tkx T n j) ≠ 1 ∨ v (v p0 5) j = twd T n (tkx T n j) := by
  by_cases q : tkd T n (tkx T n j) = 1
  · exact Or.inr (((tks_v h h0 h1).trans (tvx_1 q)).trans (twd_1 q).symm)
  · exact Or.inl q
theorem tks_nx (h : tks T n v p0) (h0 : 0 ≤ j) (h1 : j < v p0 6) : tkd T n (tkx T n j) = 0 ∨ tkd T n (tkx T n j) = 3 ∨ j + 1 < v p0 6 := by
  by_cases q : j + 1 < v p0 6
  · exact Or.inr (Or.inr q)
  · have e : v p0 6 - 1 = j := by omega
    have := h.2.2.2.2
    rw [e] at this
    omega
theorem tk_lt (h0 : 0 ≤ j) : tkd T n (tkx T n j) = 0 ∨ j < n := by
  by_cases q : tkd T n (tkx T n j) = 0
  · exact Or.inl q
  · have h1 := tkd_lt q
    have h2 := tkx_ge (T := T) (n := n) h0
    exact Or.inr (by omega)
/-- what is parted so far: m TOKENS, up to a place; the last one's kind -/
def tki (T : Int → Int) (n : Int) (v : Int → Int → Int) (p0 m pl k : Int) : Prop := txt T n v p0 ∧ tka T n v p0 m ∧ tkp T n m ∧ scn (bB T) n pl = tkx T n m ∧ ((m = 0 ∧ k = 1) ∨ (1 ≤ m ∧ k = tkd T n (tkx T n (m - 1))))
theorem tki_0 (h : txt T n v p0) : tki T n v p0 0 0 1 := ⟨h, fun i hi => absurd hi (by omega), fun i hi => absurd hi (by omega), rfl, Or.inl ⟨rfl, rfl⟩⟩
theorem tki_s {m pl k pl' k' : Int} (h : tki T n v p0 m pl k) (m0 : 0 ≤ m) (hk : k ≠ 0 ∧ k ≠ 3) (ht : txt T n v1 p0)
    (r2 : ∀ i, v1 (v1 p0 2) i = if i = m then tkd T n (tkx T n m) else v (v p0 2) i) (r3 : ∀ i, v1 (v1 p0 3) i = if i = m then tkx T n m else v (v p0 3) i)
    (r4 : ∀ i, v1 (v1 p0 4) i = if i = m then ten T n (tkx T n m) else v (v p0 4) i) (r5 : ∀ i, v1 (v1 p0 5) i = if i = m then tvx T (tkd T n (tkx T n m)) (tkx T n m) (ten T n (tkx T n m)) else v (v p0 5) i)
    (hp : pl' = ten T n (tkx T n m)) (hk' : k' = tkd T n (tkx T n m)) : tki T n v1 p0 (m + 1) pl' k' := by
  obtain ⟨h1, h2, h3, h4, h5⟩ := h
  have et : tkn T n m.toNat = tkx T n m := rfl
  refine ⟨ht, fun i hi => ?_, fun i hi => ?_, ?_, Or.inr ⟨by omega, by rw [show m + 1 - 1 = m by omega]; exact hk'⟩⟩
  · rw [r2, r3, r4, r5]
    by_cases q : (i : Int) = m
    · rw [if_pos q, if_pos q, if_pos q, if_pos q, show i = m.toNat by omega, et]; exact ⟨rfl, rfl, rfl, rfl⟩
    · rw [if_neg q, if_neg q, if_neg q, if_neg q]; exact h2 i (by omega)
  · by_cases q : (i : Int) + 1 < m
    · exact h3 i q
    · rcases h5 with h5 | h5
      · omega
      · have e : tkn T n i = tkx T n (m - 1) := by unfold tkx; rw [show (m - 1).toNat = i by omega]
        rw [e, ← h5.2]; exact hk
  · rw [hp, tkx_s m0 rfl]; rfl
theorem tki_u {m pl k pl' k' m' s c2 c3 c4 c5 x2 x4 x5 : Int} (h : tki T n v p0 m pl k) (m0 : 0 ≤ m) (hk : k ≠ 0 ∧ k ≠ 3) (ht : txt T n v1 p0) (e2 : v1 p0 2 = c2) (f2 : v p0 2 = c2) (e3 : v1 p0 3 = c3) (f3 : v p0 3 = c3) (e4 : v1 p0 4 = c4) (f4 : v p0 4 = c4) (e5 : v1 p0 5 = c5) (f5 : v p0 5 = c5)
    (r2 : ∀ i, v1 c2 i = if i = m' then x2 else v c2 i) (r3 : ∀ i, v1 c3 i = if i = m' then s else v c3 i) (r4 : ∀ i, v1 c4 i = if i = m' then x4 else v c4 i) (r5 : ∀ i, v1 c5 i = if i = m' then x5 else v c5 i)
    (hm : m' = m) (hs : s = tkx T n m) (h2 : x2 = tkd T n s) (h4 : x4 = ten T n s) (h5 : x5 = tvx T x2 s x4) (hp : pl' = x4) (hk' : k' = x2) : tki T n v1 p0 (m + 1) pl' k' := by
  subst hm hs h2 h4
  refine tki_s h m0 hk ht (fun i => ?_) (fun i => ?_) (fun i => ?_) (fun i => ?_) hp hk'
  · rw [e2, f2]; exact r2 i
  · rw [e3, f3]; exact r3 i
  · rw [e4, f4]; exact r4 i
  · rw [e5, f5, ← h5]; exact r5 i
theorem tki_e {m pl k : Int} (h : tki T n v p0 m pl k) (hm : v p0 6 = m) (hb : m ≤ 601) (h1 : 1 ≤ m) (hk : k = 0 ∨ k = 3) : tks T n v p0 := by
  obtain ⟨g1, g2, g3, g4, g5⟩ := h
  rw [← hm] at g2 g3
  refine ⟨g1, g2, g3, by omega, ?_⟩
  rw [hm]
  rcases g5 with g5 | g5
  · omega
  · rw [← g5.2]; exact hk
theorem tki_fr {m pl k : Int} (hI : xI L K N v) (q0 : ok L K p0 7) (f : fr K W v1 v) (w1 : inW W 7 1 = false) (w0 : inW W 7 0 = false) (k2 : inW W 7 2 = false) (k3 : inW W 7 3 = false) (k4 : inW W 7 4 = false) (k5 : inW W 7 5 = false) (w2 : ∀ j, inW W 20 j = false) (a1 : ∀ j, inW W 21 j = false) (a2 : ∀ j, inW W 22 j = false) (a3 : ∀ j, inW W 23 j = false) (a4 : ∀ j, inW W 24 j = false) (h : tki T n v p0 m pl k) : tki T n v1 p0 m pl k := by
  obtain ⟨h1, h2, h3, h4, h5⟩ := h
  refine ⟨txt_fr hI q0 f w1 w0 w2 h1, fun i hi => ?_, h3, h4, h5⟩
  rw [fr_use q0 f k2, fr_use q0 f k3, fr_use q0 f k4, fr_use q0 f k5, fr_use (xf_7_2 hI q0) f (a1 i), fr_use (xf_7_3 hI q0) f (a2 i), fr_use (xf_7_4 hI q0) f (a3 i), fr_use (xf_7_5 hI q0) f (a4 i)]
  exact h2 i hi
/-- blanks are passed -/
theorem sk_1 {pl m : Int} (h : scn (bB T) n pl = tkx T n m) (h1 : pl < n) (h2 : T pl = 32 ∨ T pl = 10) : scn (bB T) n (pl + 1) = tkx T n m := by rw [← scn_s h1 (bB_y h2)]; exact h
theorem sk_2 {pl m : Int} (h : scn (bB T) n pl = tkx T n m) (h1 : n ≤ pl ∨ (T pl ≠ 32 ∧ T pl ≠ 10)) : pl = tkx T n m := by
  rw [← h, scn_e]
  rcases h1 with h1 | h1
  · exact Or.inl h1
  · exact Or.inr (bB_n h1)
theorem ls_1 {s p : Int} (h : scn (bL T) n s = scn (bL T) n p) (h1 : p < n) (h2 : 97 ≤ T p ∧ T p ≤ 122) : scn (bL T) n s = scn (bL T) n (p + 1) := h.trans (scn_s h1 (bL_y h2))
theorem ls_2 {s p : Int} (h : scn (bL T) n s = scn (bL T) n p) (h1 : n ≤ p ∨ (T p < 97 ∨ 122 < T p)) : p = scn (bL T) n s := by
  rw [h, scn_e]
  rcases h1 with h1 | h1
  · exact Or.inl h1
  · exact Or.inr (bL_n h1)
theorem ds_1 {s p : Int} (h : scn (bD T) n s = scn (bD T) n p) (h1 : p < n) (h2 : 48 ≤ T p ∧ T p ≤ 57) : scn (bD T) n s = scn (bD T) n (p + 1) := h.trans (scn_s h1 (bD_y h2))
theorem ds_2 {s p : Int} (h : scn (bD T) n s = scn (bD T) n p) (h1 : n ≤ p ∨ (T p < 48 ∨ 57 < T p)) : p = scn (bD T) n s := by
  rw [h, scn_e]
  rcases h1 with h1 | h1
  · exact Or.inl h1
  · exact Or.inr (bD_n h1)
/-- what openSort tells -/
def osp (T : Int → Int) (n : Int) (A : Int → Int) (j z f' j' : Int) : Prop :=
  (z = -1 ∧ f' ≠ -1 ∧ ((f' = tkx T n j ∧ ((twd T n (tkx T n j) < 1 ∨ 8 < twd T n (tkx T n j)) ∨ (1 ≤ twd T n (tkx T n j) ∧ twd T n (tkx T n j) ≤ 5 ∧ A (twd T n (tkx T n j) - 1) ≠ -1))) ∨ (6 ≤ twd T n (tkx T n j) ∧ twd T n (tkx T n j) ≤ 8 ∧ f' = tkx T n (j + 1) ∧ ((twd T n (tkx T n (j + 1)) < 9 ∨ 11 < twd T n (tkx T n (j + 1))) ∨ (9 ≤ twd T n (tkx T n (j + 1)) ∧ twd T n (tkx T n (j + 1)) ≤ 11 ∧ A (5 + 3 * (twd T n (tkx T n j) - 6) + (twd T n (tkx T n (j + 1)) - 9)) ≠ -1))))) ∨
  (0 ≤ z ∧ z ≤ 13 ∧ f' = -1 ∧ A z = -1 ∧ ((1 ≤ twd T n (tkx T n j) ∧ twd T n (tkx T n j) ≤ 5 ∧ z = twd T n (tkx T n j) - 1 ∧ j' = j + 1) ∨ (6 ≤ twd T n (tkx T n j) ∧ twd T n (tkx T n j) ≤ 8 ∧ 9 ≤ twd T n (tkx T n (j + 1)) ∧ twd T n (tkx T n (j + 1)) ≤ 11 ∧ z = 5 + 3 * (twd T n (tkx T n j) - 6) + (twd T n (tkx T n (j + 1)) - 9) ∧ j' = j + 2)))
theorem osp_b {A : Int → Int} {w W2 s j1 f' j' : Int} (h0 : 0 ≤ j) (hw : w = twd T n (tkx T n j)) (hW : W2 = twd T n (tkx T n j1)) (h7 : (1 ≤ w ∧ w ≤ 5 ∧ s = w - 1 ∧ j1 = j) ∨ (6 ≤ w ∧ w ≤ 8 ∧ j1 = j + 1 ∧ ((9 ≤ W2 ∧ W2 ≤ 11 ∧ s = 5 + 3 * (w - 6) + (W2 - 9)) ∨ ((W2 < 9 ∨ 11 < W2) ∧ s = -1))) ∨ ((w < 1 ∨ 8 < w) ∧ s = -1 ∧ j1 = j)) (h9 : s < 0 ∨ 13 < s ∨ A s ≠ -1) (hf : f' = tkx T n j1) : osp T n A j (-1) f' j' := by
  have hp : f' ≠ -1 := by
    have := tkx_ge (T := T) (n := n) (show 0 ≤ j1 by omega)
    omega
  refine Or.inl ⟨rfl, hp, ?_⟩
  subst hw hW
  rcases h7 with ⟨a1, a2, a3, a4⟩ | ⟨a1, a2, a3, a4⟩ | ⟨a1, a2, a3⟩
  · subst a3 a4
    exact Or.inl ⟨hf, Or.inr ⟨a1, a2, by rcases h9 with h | h | h; omega; omega; exact h⟩⟩
  · subst a3
    refine Or.inr ⟨a1, a2, hf, ?_⟩
    rcases a4 with ⟨b1, b2, b3⟩ | ⟨b1, b2⟩
    · subst b3
      exact Or.inr ⟨b1, b2, by rcases h9 with h | h | h; omega; omega; exact h⟩
    · exact Or.inl b1
  · subst a3
    exact Or.inl ⟨hf, Or.inl a1⟩
theorem osp_g {A : Int → Int} {w W2 s j1 f' j' : Int} (hw : w = twd T n (tkx T n j)) (hW : W2 = twd T n (tkx T n j1)) (h7 : (1 ≤ w ∧ w ≤ 5 ∧ s = w - 1 ∧ j1 = j) ∨ (6 ≤ w ∧ w ≤ 8 ∧ j1 = j + 1 ∧ ((9 ≤ W2 ∧ W2 ≤ 11 ∧ s = 5 + 3 * (w - 6) + (W2 - 9)) ∨ ((W2 < 9 ∨ 11 < W2) ∧ s = -1))) ∨ ((w < 1 ∨ 8 < w) ∧ s = -1 ∧ j1 = j)) (h9 : 0 ≤ s) (hs : s ≤ 13) (hA : A s = -1) (hf : f' = -1) (hj : j' = j1 + 1) : osp T n A j s f' j' := by
  refine Or.inr ⟨h9, hs, hf, hA, ?_⟩
  subst hw hW
  rcases h7 with ⟨a1, a2, a3, a4⟩ | ⟨a1, a2, a3, a4⟩ | ⟨a1, a2, a3⟩
  · exact Or.inl ⟨a1, a2, a3, by omega⟩
  · subst a3
    rcases a4 with ⟨b1, b2, b3⟩ | ⟨b1, b2⟩
    · exact Or.inr ⟨a1, a2, b1, b2, b3, by omega⟩
    · omega
  · omega
theorem osp_z {A : Int → Int} {z f' j' : Int} (h : osp T n A j z f' j') : (z = -1 ∧ f' ≠ -1) ∨ (0 ≤ z ∧ z ≤ 13 ∧ f' = -1) := by
  rcases h with h | h
  · exact Or.inl ⟨h.1, h.2.1⟩
  · exact Or.inr ⟨h.1, h.2.1, h.2.2.1⟩
theorem osp_j {A : Int → Int} {z f' j' : Int} (h : osp T n A j z f' j') (hz : 0 ≤ z) : (z ≤ 4 ∧ z = twd T n (tkx T n j) - 1 ∧ j' = j + 1) ∨ (5 ≤ z ∧ j' = j + 2) := by
  rcases h with h | h
  · omega
  · omega
variable {X0 X X' : List Int} {d0 f0 j0 f f' j' d d' w0 w w' z : Int} {b0 b b' : Int → Bool} {A : Int → Int}
/-- a W is skipped -/
theorem RP_sk {j1 : Int} (h : RP T n X0 d0 f0 j0 b0 w0 f j b w (0 :: X) d) (h0 : 0 ≤ j) (ef : f = -1) (hw : twd T n (tkx T n j) = 0) (e1 : j1 = j + 1)
    (hs : (f' ≠ -1 ∧ f' = tkx T n j1 ∧ (tkd T n (tkx T n j1) ≠ 1 ∨ 8 < ten T n (tkx T n j1) - tkx T n j1 ∨ w = 4)) ∨ (f' = -1 ∧ tkd T n (tkx T n j1) = 1 ∧ ten T n (tkx T n j1) - tkx T n j1 ≤ 8 ∧ w ≠ 4 ∧ w' = w + 1 ∧ j' = j1 + 1)) : RP T n X0 d0 f0 j0 b0 w0 f' j' b w' (159 :: 0 :: X) d := by
  have e2 := tkx_s (T := T) (n := n) h0 e1
  rcases hs with ⟨hf, hf2, hc⟩ | ⟨hf, hk, hl, hw4, hw1, hj⟩
  · refine RP_r h (fun _ st => ?_) (fun _ => hf) (fun q => absurd ef q)
    rw [hf2, e2]
    rw [e2] at hc
    exact sq_0sn hw (by omega)
  · have e3 := tkx_s (T := T) (n := n) (show 0 ≤ j1 by omega) hj
    rw [hf]
    rw [ef] at h
    rw [hw1]
    refine RP_l [159, 0] h (fun _ st => ?_)
    rw [e3, e2]
    rw [e2] at hk hl
    exact sq_0sy hw ⟨hk, hl, hw4⟩
/-- openSort, and then a choice -/
theorem RP_oc {j1 f1 : Int} (h : RP T n X0 d0 f0 j0 b0 w0 f j (bgn A) w (0 :: X) d) (h0 : 0 ≤ j) (ef : f = -1) (ho : osp T n A j z f1 j1) (hz : z = 0 ∨ z = 1)
    (hb : b' = sbp (bgn A) z) (hc : (f' = -1 ∧ j' = j1 + 1 ∧ 21 + 2 * z ≤ twd T n (tkx T n j1) ∧ twd T n (tkx T n j1) ≤ 22 + 2 * z) ∨ (f' ≠ -1 ∧ f' = tkx T n j1 ∧ (twd T n (tkx T n j1) < 21 + 2 * z ∨ 22 + 2 * z < twd T n (tkx T n j1)))) : RP T n X0 d0 f0 j0 b0 w0 f' j' b' w (159 :: 0 :: X) d := by
  rcases ho with ho | ⟨ho1, ho2, ho3, ho4, ho⟩
  · omega
  · have e1 : j1 = j + 1 := by omega
    have ew : twd T n (tkx T n j) = z + 1 := by omega
    have e2 := tkx_s (T := T) (n := n) h0 e1
    have hq : bgn A (twd T n (tkx T n j) - 1) = false := by rw [ew, show z + 1 - 1 = z by omega]; exact bgn_f ho4
    rcases hc with ⟨hf, hj, hc1, hc2⟩ | ⟨hf, hf2, hc⟩
    · have e3 := tkx_s (T := T) (n := n) (show 0 ≤ j1 by omega) hj
      rw [hf, hb]
      rw [ef] at h
      refine RP_l [159, 0] h (fun _ st => ?_)
      rw [e3, e2]
      rw [e2] at hc1 hc2
      have := sq_0cy (T := T) (n := n) (c := tkx T n j) (d := d) (st := X ++ st) (b := bgn A) (w := w) (by omega) hq ⟨by omega, by omega⟩
      rw [show twd T n (tkx T n j) - 1 = z by omega] at this
      exact this
    · refine RP_r h (fun _ st => ?_) (fun _ => hf) (fun q => absurd ef q)
      rw [hf2, e2]
      rw [e2] at hc
      exact sq_0cn (by omega) hq (by omega)
/-- openSort, and then an expression; s is what is to come: 6 where there are conditions -/
theorem RP_os {s : Int} (h : RP T n X0 d0 f0 j0 b0 w0 f j (bgn A) w (0 :: X) d) (h0 : 0 ≤ j) (ef : f = -1) (hk : tkd T n (tkx T n j) ≠ 0) (hw : twd T n (tkx T n j) ≠ 0) (ho : osp T n A j z f' j') (hz : ((z = 2 ∨ z = 3) ∧ s = 6) ∨ ((z = -1 ∨ 4 ≤ z) ∧ s = 1))
    (hb : z = -1 ∨ b' = sbp (bgn A) z) : RP T n X0 d0 f0 j0 b0 w0 f' j' b' w (s :: 13 :: 159 :: 0 :: X) d := by
  have e2 := tkx_s (T := T) (n := n) h0 rfl
  rcases ho with ⟨hz1, hf, ho⟩ | ⟨ho1, ho2, ho3, ho4, ho⟩
  · refine RP_r h (fun _ st => ?_) (fun _ => hf) (fun q => absurd ef q)
    rcases ho with ⟨hf2, ho⟩ | ⟨h6, h8, hf2, ho⟩
    · rw [hf2]
      rcases ho with ho | ⟨o1, o2, o3⟩
      · exact sq_0n hk (by omega)
      · have hq : bgn A (twd T n (tkx T n j) - 1) = true := bgn_t (by omega) (by omega) o3
        by_cases q : twd T n (tkx T n j) ≤ 2
        · exact sq_0cb (by omega) hq
        · exact sq_0wb (by omega) hq
    · rw [hf2, e2]
      rw [e2] at ho
      rcases ho with ho | ⟨o1, o2, o3⟩
      · exact sq_0ln (by omega) (by omega)
      · exact sq_0lb (by omega) ⟨o1, o2⟩ (bgn_t (by omega) (by omega) o3)
  · have hb := hb.resolve_left (by omega)
    rw [ho3, hb]
    rw [ef] at h
    rcases ho with ⟨o1, o2, o3, o4⟩ | ⟨o1, o2, o3, o4, o5, o6⟩
    · have hq : bgn A (twd T n (tkx T n j) - 1) = false := by rw [← o3]; exact bgn_f ho4
      rcases hz with ⟨hz, hs⟩ | ⟨hz, hs⟩
      · rw [hs]
        refine RP_l [6, 13, 159, 0] h (fun _ st => ?_)
        have := st_0w6 (T := T) (n := n) (c := tkx T n j) (d := d) (st := X ++ st) (b := bgn A) (w := w) (by omega) hq
        rw [o4, e2]
        rw [← o3] at this; exact this
      · rw [hs]
        refine RP_l [1, 13, 159, 0] h (fun _ st => ?_)
        have := st_0w1 (T := T) (n := n) (c := tkx T n j) (d := d) (st := X ++ st) (b := bgn A) (w := w) (by omega) hq
        rw [o4, e2]
        rw [← o3] at this; exact this
    · have hs : s = 1 := by omega
      rw [hs]
      refine RP_l [1, 13, 159, 0] h (fun _ st => ?_)
      have e3 := tkx_s (T := T) (n := n) (show 0 ≤ j + 1 by omega) (show j' = j + 1 + 1 by omega)
      have := sq_0ly (T := T) (n := n) (c := tkx T n j) (d := d) (st := X ++ st) (b := bgn A) (w := w) (by omega) (by rw [← e2]; exact ⟨o3, o4⟩) (by rw [← e2, ← o5]; exact bgn_f ho4)
      rw [← e2, ← o5] at this
      rw [e3]; exact this
theorem RP_13 (h : RP T n X0 d0 f0 j0 b0 w0 f j b w (13 :: X) d) : RP T n X0 d0 f0 j0 b0 w0 f j b w X d := RP_l [] h (fun _ _ => sq_13)
/-- a sign is wanted -/
theorem EP_exp {x f1 : Int} (h0 : 0 ≤ j) (hx : 100 ≤ x) (h : (tkd T n (tkx T n j) = x - 100 ∧ f1 = f) ∨ (tkd T n (tkx T n j) ≠ x - 100 ∧ ((f ≠ -1 ∧ f1 = f) ∨ (f = -1 ∧ f1 = tkx T n j ∧ 0 ≤ f1)))) (ha : (f1 = -1 ∧ j' = j + 1) ∨ (f1 ≠ -1 ∧ j' = j)) : EP T n [x] d f j f1 j' [] d := by
  rcases h with ⟨h1, h2⟩ | ⟨h1, h2⟩
  · rw [h2]; rw [h2] at ha
    exact EP_gy EP_0 hx (fun _ => h1) h0 (by omega)
  · exact EP_gb EP_0 hx (fun _ => h1) h0 (by omega) (by omega)
/-- the end: what the steps come to -/
def cf0 (T : Int → Int) (n : Int) : Cf := (tkx T n 0, [0], 0, fun _ => false, 0)
theorem RP_end (h : RP T n [0] 0 (-1) 0 (fun _ => false) 0 f j b w [0] 0) (hk : f ≠ -1 ∨ tkd T n (tkx T n j) = 0) : Runs T n (cf0 T n) f := by
  by_cases q : f = -1
  · have := (h rfl).1 q [] f ((Runs_l (sq_0e (hk.resolve_left (fun z => z q)))).mpr ((Runs_r rfl).mpr q))
    exact this
  · exact (h rfl).2 q []
end XT

