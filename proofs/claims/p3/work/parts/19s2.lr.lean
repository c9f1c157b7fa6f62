/-! ===== the reference's TOKENS ===== -/
def txR (T : Int → Int) (n : Int) (g : Nat → Int) (a : Nat → Int → Int) : Prop := n = g 1 ∧ ∀ i : Int, T i = if 0 ≤ i ∧ i < g 1 then a 1 i % 256 else 0
def rTT (g : Nat → Int) (a : Nat → Int → Int) : Int → Int := fun i => if 0 ≤ i ∧ i < g 1 then a 1 i % 256 else 0
def wpf (r : Int) : Int := if r ≤ 2 then r else if r ≤ 5 then r + 3 else if r ≤ 8 then r - 3 else if r = 9 then 22 else if r = 10 then 21 else if r = 11 then 24 else if r = 12 then 23 else if r ≤ 24 then r - 4 else r
def wpm (r w : Int) : Prop := (r = -1 ∧ w = -1) ∨ (0 ≤ r ∧ r ≤ 27 ∧ w = wpf r)
theorem wpm_o {r w : Int} (h : wpm r w) : (r = -1 ∧ w = -1) ∨ (0 ≤ r ∧ r ≤ 2 ∧ w = r) ∨ (3 ≤ r ∧ r ≤ 5 ∧ w = r + 3) ∨ (6 ≤ r ∧ r ≤ 8 ∧ w = r - 3) ∨ (r = 9 ∧ w = 22) ∨ (r = 10 ∧ w = 21) ∨ (r = 11 ∧ w = 24) ∨ (r = 12 ∧ w = 23) ∨ (13 ≤ r ∧ r ≤ 24 ∧ w = r - 4) ∨ (25 ≤ r ∧ r ≤ 27 ∧ w = r) := by
  unfold wpm wpf at h
  rcases h with h | ⟨h1, h2, h3⟩
  · exact Or.inl h
  · (repeat' split at h3) <;> omega
theorem wpm_t {T : Int → Int} {z z' s s' e e' : Int} (h : wpm z (wix T s e)) (e5 : z' = z) (e4 : s' = s) (e2 : e' = e) : wpm z' (wix T s' e') := by rw [e5, e4, e2]; exact h
def rsL : List Int := [1, 6, 14, 21, 27, 32, 36, 42, 47, 51, 57, 62, 68, 73, 79, 85, 90, 96, 102, 108, 115, 121, 127, 131, 138, 143, 146, 150, 154]
def rlL : List Int := [4, 7, 6, 5, 4, 3, 5, 4, 3, 5, 4, 5, 4, 5, 5, 4, 5, 5, 5, 6, 5, 5, 3, 6, 4, 2, 3, 3]
def rst (k : Int) : Int := rsL.getD k.toNat 0
def rln (k : Int) : Int := rlL.getD k.toNat 0
def rmt (T : Int → Int) (s e k : Int) : Prop := e - s = rln k ∧ ∀ j : Int, 0 ≤ j → j < rln k → sx_c 2 (rst k + j) = T (s + j)
def rwc (k : Nat) : Bool := decide (rln k = wln (wpf k)) && decide (0 ≤ wpf k) && decide (wpf k ≤ 27) && (List.range 8).all (fun j => !decide ((j : Int) < rln k) || decide (sx_c 2 (rst k + j) = sx_c 1 (wst (wpf k) + j))) && decide (rst ((k : Int) + 1) = rst k + rln k + 1) && decide (1 ≤ rst k) && decide (1 ≤ rln k) && decide (rln k ≤ 8) && decide (rst k + rln k ≤ 153) && decide (sx_c 2 (rst k + rln k) = 32) && (List.range 8).all (fun j => !decide ((j : Int) < rln k) || !decide (sx_c 2 (rst k + j) = 32))
theorem rwc_all : ∀ k : Nat, k < 28 → rwc k = true := by decide +kernel
theorem wpf_s : ∀ w : Nat, w < 28 → ∃ k, k < 28 ∧ wpf ((k : Nat) : Int) = w := by decide +kernel
theorem rst_f {k : Int} (h0 : 0 ≤ k) (h1 : k < 28) : rln k = wln (wpf k) ∧ (0 ≤ wpf k ∧ wpf k ≤ 27) ∧ (∀ j : Int, 0 ≤ j → j < rln k → sx_c 2 (rst k + j) = sx_c 1 (wst (wpf k) + j)) ∧ rst (k + 1) = rst k + rln k + 1 ∧ 1 ≤ rst k ∧ 1 ≤ rln k ∧ rln k ≤ 8 ∧ rst k + rln k ≤ 153 ∧ sx_c 2 (rst k + rln k) = 32 ∧ ∀ j : Int, 0 ≤ j → j < rln k → sx_c 2 (rst k + j) ≠ 32 := by
  have c := rwc_all k.toNat (by omega)
  have e1 : ((k.toNat : Nat) : Int) = k := by omega
  unfold rwc at c
  simp only [Bool.or_eq_true, decide_eq_true_eq, Bool.not_eq_true', decide_eq_false_iff_not, List.all_eq_true, Bool.and_eq_true, e1] at c
  obtain ⟨⟨⟨⟨⟨⟨⟨⟨⟨⟨c1, c2⟩, c3⟩, c4⟩, c5⟩, c6⟩, c7⟩, c8⟩, c9⟩, c10⟩, c11⟩ := c
  refine ⟨c1, ⟨c2, c3⟩, fun j j0 j1 => ?_, c5, c6, c7, c8, c9, c10, fun j j0 j1 => ?_⟩
  · have := c4 j.toNat (List.mem_range.mpr (by omega))
    rw [show ((j.toNat : Nat) : Int) = j by omega] at this
    exact this.resolve_left (fun q => q j1)
  · have := c11 j.toNat (List.mem_range.mpr (by omega))
    rw [show ((j.toNat : Nat) : Int) = j by omega] at this
    exact this.resolve_left (fun q => q j1)
theorem rst_0 : rst 0 = 1 := rfl
theorem rst_b {k : Int} (h0 : 0 ≤ k) (h1 : k ≤ 28) : (k = 28 ∧ rst k = 154) ∨ (k < 28 ∧ 1 ≤ rst k ∧ 1 ≤ rln k ∧ rst k + rln k ≤ 153) := by
  by_cases q : k = 28
  · subst q; exact Or.inl ⟨rfl, by decide⟩
  · have := rst_f h0 (show k < 28 by omega)
    exact Or.inr ⟨by omega, this.2.2.2.2.1, this.2.2.2.2.2.1, this.2.2.2.2.2.2.2.1⟩
theorem r_sep {k x : Int} (h0 : 0 ≤ k) (h1 : k < 28) (hi : rst k ≤ x) (hj : x ≤ rst k + rln k) : sx_c 2 x = 32 ↔ x = rst k + rln k := by
  obtain ⟨-, -, -, -, -, -, -, -, c10, c11⟩ := rst_f h0 h1
  constructor
  · intro q
    by_cases z : x = rst k + rln k
    · exact z
    · have := c11 (x - rst k) (by omega) (by omega)
      rw [show rst k + (x - rst k) = x by omega] at this
      exact absurd q this
  · intro q; rw [q]; exact c10
theorem rmt_w {T : Int → Int} {s e k : Int} (h0 : 0 ≤ k) (h1 : k < 28) : rmt T s e k ↔ wmt T s e (wpf k) := by
  obtain ⟨c1, -, c3, -⟩ := rst_f h0 h1
  constructor
  · intro h
    refine ⟨by rw [← c1]; exact h.1, fun j j0 j1 => ?_⟩
    rw [← c3 j j0 (by omega)]; exact (h.2 j j0 (by omega)).symm
  · intro h
    refine ⟨by rw [c1]; exact h.1, fun j j0 j1 => ?_⟩
    rw [c3 j j0 j1]; exact (h.2 j j0 (by omega)).symm
def rno (T : Int → Int) (s e k : Int) : Prop := ∀ i : Int, 0 ≤ i → i < k → ¬ rmt T s e i
theorem rno_0 {T : Int → Int} {s e : Int} : rno T s e 0 := fun i h0 h1 => absurd h1 (by omega)
theorem rno_s {T : Int → Int} {s e k k' : Int} (h : rno T s e k) (hn : ¬ rmt T s e k) (ek : k' = k + 1) : rno T s e k' := fun i h0 h1 => by
  by_cases q : i = k
  · rw [q]; exact hn
  · exact h i h0 (by omega)
theorem rno_e {T : Int → Int} {s e k : Int} (h : rno T s e k) (hk : 28 ≤ k) : wpm (-1) (wix T s e) := by
  refine Or.inl ⟨rfl, wix_n (fun w hw hm => ?_)⟩
  obtain ⟨k', hk', e'⟩ := wpf_s w hw
  refine h k' (by omega) (by omega) ((rmt_w (by omega) (by omega)).mpr ?_)
  rw [e']; exact hm
theorem rmt_e {T : Int → Int} {s e k : Int} (h0 : 0 ≤ k) (h1 : k < 28) (h : rmt T s e k) : wpm k (wix T s e) := by
  have c := (rst_f h0 h1).2.1
  exact Or.inr ⟨h0, by omega, wix_of c.1 (by omega) ((rmt_w h0 h1).mp h)⟩
/-- comparing, j bytes done -/
def rmI (T : Int → Int) (s e k j m : Int) : Prop := (m = 1 ∧ e - s = rln k ∧ ∀ i : Int, 0 ≤ i → i < j → sx_c 2 (rst k + i) = T (s + i)) ∨ (m = 0 ∧ ¬ rmt T s e k)
theorem rmI_0 {T : Int → Int} {s e k j m l : Int} (hl : l = rln k) (hj : j = 0) (h : (m = 1 ∧ l = e - s) ∨ (m = 0 ∧ l ≠ e - s)) : rmI T s e k j m := by
  rcases h with ⟨h1, h2⟩ | ⟨h1, h2⟩
  · exact Or.inl ⟨h1, by omega, fun i i0 i1 => by omega⟩
  · exact Or.inr ⟨h1, fun q => h2 (by rw [hl]; exact q.1.symm)⟩
theorem rmI_s {T : Int → Int} {s e k j j' m m' x y : Int} (h : rmI T s e k j m) (hm : m = 1) (j0 : 0 ≤ j) (hj : j < rln k) (hx : x = rst k + j) (hy : y = s + j) (h' : (m' = 1 ∧ sx_c 2 x = T y) ∨ (m' = 0 ∧ sx_c 2 x ≠ T y)) (ej : j' = j + 1) : rmI T s e k j' m' := by
  rw [hy] at h'
  rcases h with ⟨-, h2, h3⟩ | ⟨h1, -⟩
  · rcases h' with ⟨a1, a2⟩ | ⟨a1, a2⟩
    · refine Or.inl ⟨a1, h2, fun i i0 i1 => ?_⟩
      by_cases q : i = j
      · rw [q, ← hx]; exact a2
      · exact h3 i i0 (by omega)
    · exact Or.inr ⟨a1, fun q => a2 (by rw [hx]; exact q.2 j j0 hj)⟩
  · omega
theorem rmI_y {T : Int → Int} {s e k j m : Int} (h : rmI T s e k j m) (hm : m ≠ 0) (hj : rln k ≤ j) : rmt T s e k := by
  rcases h with ⟨-, h2, h3⟩ | ⟨h1, -⟩
  · exact ⟨h2, fun i i0 i1 => h3 i i0 (by omega)⟩
  · omega
theorem rmI_n {T : Int → Int} {s e k j m : Int} (h : rmI T s e k j m) (hm : m = 0) : ¬ rmt T s e k := by
  rcases h with ⟨h1, -⟩ | ⟨-, h2⟩
  · omega
  · exact h2
theorem tnx_of {T : Int → Int} {n x y s : Int} (h : y = ten T n s) (e : x = scn (bB T) n y) : x = tnx T n s := by rw [e, h]; rfl
def tkR (T : Int → Int) (n : Int) (g : Nat → Int) (_ : Nat → Int → Int) : Prop := (0 ≤ g 4 ∧ g 4 ≤ n) ∧ ((g 3 = 0 ∧ tkd T n (g 4) = 0) ∨ (g 2 = ten T n (g 4) ∧ ((g 3 = 1 ∧ tkd T n (g 4) = 2 ∧ ((g 5 ≤ 99999 ∧ g 5 = tnm T n (g 4)) ∨ (99999 < g 5 ∧ 99999 < tnm T n (g 4)))) ∨ (g 3 = 2 ∧ tkd T n (g 4) = 1 ∧ wpm (g 5) (twd T n (g 4))) ∨ (g 3 = 3 ∧ tkd T n (g 4) = g 5 ∧ 40 ≤ g 5) ∨ (g 3 = 4 ∧ tkd T n (g 4) = 3))))
section TR
variable {T : Int → Int} {n s x k : Int} {g g' : Nat → Int} {a a' : Nat → Int → Int}
theorem txR_0 : txR (rTT g a) (g 1) g a := ⟨rfl, fun _ => rfl⟩
theorem txR_t (e : g' 1 = g 1) (f : a' 1 = a 1) (h : txR T n g a) : txR T n g' a' := by
  unfold txR
  rw [e, f]; exact h
theorem txR_at (h : txR T n g a) (h0 : 0 ≤ x) (h1 : x < g 1) : T x = a 1 x % 256 := by rw [h.2, if_pos ⟨h0, h1⟩]
theorem tkR_t (e2 : g' 2 = g 2) (e3 : g' 3 = g 3) (e4 : g' 4 = g 4) (e5 : g' 5 = g 5) (h : tkR T n g a) : tkR T n g' a' := by
  unfold tkR
  rw [e2, e3, e4, e5]; exact h
theorem tkR_e (h : tkR T n g a) (h3 : g 3 ≠ 0) : g 2 = ten T n (g 4) := by
  obtain ⟨-, h | h⟩ := h
  · exact absurd h.1 h3
  · exact h.1
theorem tkR_sg (h : tkR T n g a) (h3 : g 3 = 3) : tkd T n (g 4) = g 5 := by
  obtain ⟨-, h | h⟩ := h
  · omega
  · omega
theorem tkR_ns (h : tkR T n g a) (hk : 40 ≤ k) (h3 : g 3 ≠ 3 ∨ g 5 ≠ k) : tkd T n (g 4) ≠ k := by
  obtain ⟨-, h | h⟩ := h
  · omega
  · omega
theorem tkR_w (h : tkR T n g a) (h3 : g 3 = 2) : tkd T n (g 4) = 1 ∧ wpm (g 5) (twd T n (g 4)) := by
  obtain ⟨-, h | ⟨-, h | h | h | h⟩⟩ := h
  · omega
  · omega
  · exact h.2
  · omega
  · omega
theorem tkR_nw (h : tkR T n g a) (h3 : g 3 ≠ 2) : twd T n (g 4) = -1 := by
  refine twd_n ?_
  obtain ⟨-, h | h⟩ := h
  · omega
  · omega
/-- the word that is told, in our order -/
theorem tkR_wo (h : tkR T n g a) : (g 3 ≠ 2 ∧ twd T n (g 4) = -1) ∨ (g 3 = 2 ∧ ((g 5 = -1 ∧ twd T n (g 4) = -1) ∨ (0 ≤ g 5 ∧ g 5 ≤ 2 ∧ twd T n (g 4) = g 5) ∨ (3 ≤ g 5 ∧ g 5 ≤ 5 ∧ twd T n (g 4) = g 5 + 3) ∨ (6 ≤ g 5 ∧ g 5 ≤ 8 ∧ twd T n (g 4) = g 5 - 3) ∨ (g 5 = 9 ∧ twd T n (g 4) = 22) ∨ (g 5 = 10 ∧ twd T n (g 4) = 21) ∨ (g 5 = 11 ∧ twd T n (g 4) = 24) ∨ (g 5 = 12 ∧ twd T n (g 4) = 23) ∨ (13 ≤ g 5 ∧ g 5 ≤ 24 ∧ twd T n (g 4) = g 5 - 4) ∨ (25 ≤ g 5 ∧ g 5 ≤ 27 ∧ twd T n (g 4) = g 5))) := by
  by_cases q : g 3 = 2
  · exact Or.inr ⟨q, wpm_o (tkR_w h q).2⟩
  · exact Or.inl ⟨q, tkR_nw h q⟩
theorem tkR_no (h : tkR T n g a) : (tkd T n (g 4) = 2 ∧ g 3 = 1 ∧ ((g 5 ≤ 99999 ∧ g 5 = tnm T n (g 4)) ∨ (99999 < g 5 ∧ 99999 < tnm T n (g 4)))) ∨ (tkd T n (g 4) ≠ 2 ∧ g 3 ≠ 1) := by
  obtain ⟨-, h | h⟩ := h
  · omega
  · omega
theorem tkR_0 (h : tkR T n g a) : (g 3 = 0 ∧ tkd T n (g 4) = 0) ∨ (g 3 ≠ 0 ∧ tkd T n (g 4) ≠ 0) := by
  obtain ⟨-, h | h⟩ := h
  · omega
  · omega
/-! next: how a TOKEN is told -/
theorem mk_0 (h4 : g 4 = s) (h0 : 0 ≤ s) (hn : s = n) (h3 : g 3 = 0) : tkR T n g a := ⟨by omega, Or.inl ⟨h3, by rw [h4]; exact tkd_0 (by omega)⟩⟩
theorem mk_1 {s4 e z : Int} (h0 : 0 ≤ s) (h1 : s < n) (hl : 97 ≤ T s ∧ T s ≤ 122) (h4 : g 4 = s) (h3 : g 3 = 2) (es : s4 = s) (he : e = scn (bL T) n s4) (h2 : g 2 = e) (hw : wpm z (wix T s4 e)) (h5 : g 5 = z) : tkR T n g a := by
  have k1 := tkd_1 h1 hl
  have k2 : e = ten T n s := by rw [ten_1 k1, he, es, scn_s h1 (bL_y hl)]
  refine ⟨by omega, Or.inr ⟨by rw [h4, h2]; exact k2, Or.inr (Or.inl ⟨h3, by rw [h4]; exact k1, ?_⟩)⟩⟩
  rw [h4, h5, twd_1 k1, ← k2, ← es]; exact hw
theorem mk_2 {s4 e z : Int} (h0 : 0 ≤ s) (h1 : s < n) (hl : 48 ≤ T s ∧ T s ≤ 57) (h4 : g 4 = s) (h3 : g 3 = 1) (es : s4 = s) (he : e = scn (bD T) n s4) (h2 : g 2 = e) (hw : (z ≤ 99999 ∧ z = nmk T s4 (e - s4).toNat) ∨ (99999 < z ∧ 99999 < nmk T s4 (e - s4).toNat)) (h5 : g 5 = z) : tkR T n g a := by
  have k1 := tkd_2 h1 hl
  have k2 : e = ten T n s := by rw [ten_2 k1, he, es, scn_s h1 (bD_y hl)]
  refine ⟨by omega, Or.inr ⟨by rw [h4, h2]; exact k2, Or.inl ⟨h3, by rw [h4]; exact k1, ?_⟩⟩⟩
  unfold tnm
  rw [h4, h5, ← k2]
  rw [es] at hw; exact hw
theorem mk_3 {b : Int} (h0 : 0 ≤ s) (h1 : s < n) (hb : T s = b) (hl : b = 43 ∨ b = 45 ∨ b = 42 ∨ b = 47 ∨ b = 40 ∨ b = 41 ∨ b = 91 ∨ b = 93 ∨ b = 44 ∨ b = 60 ∨ b = 62 ∨ b = 61 ∨ b = 59) (h4 : g 4 = s) (h3 : g 3 = 3) (h5 : g 5 = b) (h2 : g 2 = s + 1) : tkR T n g a := by
  have k1 : tkd T n s = T s := tkd_s h1 (by rw [hb]; exact hl)
  refine ⟨by omega, Or.inr ⟨by rw [h4, h2, ten_o (by omega)], Or.inr (Or.inr (Or.inl ⟨h3, by rw [h4]; omega, by omega⟩))⟩⟩
theorem mk_4 {b : Int} (h0 : 0 ≤ s) (h1 : s < n) (hb : T s = b % 256) (hr : -128 ≤ b ∧ b ≤ 127) (hl : b ≠ 43 ∧ b ≠ 45 ∧ b ≠ 42 ∧ b ≠ 47 ∧ b ≠ 40 ∧ b ≠ 41 ∧ b ≠ 91 ∧ b ≠ 93 ∧ b ≠ 44 ∧ b ≠ 60 ∧ b ≠ 62 ∧ b ≠ 61 ∧ b ≠ 59) (l1 : b < 97 ∨ 122 < b) (l2 : b < 48 ∨ 57 < b) (h4 : g 4 = s) (h3 : g 3 = 4) (h2 : g 2 = s + 1) : tkR T n g a := by
  have k1 : tkd T n s = 3 := tkd_3 h1 (by omega) (by omega) (by omega)
  refine ⟨by omega, Or.inr ⟨by rw [h4, h2, ten_o (by omega)], Or.inr (Or.inr (Or.inr ⟨h3, by rw [h4]; exact k1⟩))⟩⟩
def sgI (b : Int) : Prop := b = 43 ∨ b = 45 ∨ b = 42 ∨ b = 47 ∨ b = 40 ∨ b = 41 ∨ b = 91 ∨ b = 93 ∨ b = 44 ∨ b = 60 ∨ b = 62 ∨ b = 61 ∨ b = 59
def sgJ (b x : Int) : Prop := (x = 3 ∧ sgI b) ∨ (x = 4 ∧ ¬ sgI b)
theorem mk_5 {b x : Int} (h0 : 0 ≤ s) (h1 : s < n) (hb : T s = b % 256) (hr : -128 ≤ b ∧ b ≤ 127) (l1 : b < 97 ∨ 122 < b) (l2 : b < 48 ∨ 57 < b) (hJ : sgJ b x) (h4 : g 4 = s) (h3 : g 3 = x) (h5 : g 5 = b) (h2 : g 2 = s + 1) : tkR T n g a := by
  rcases hJ with ⟨q1, q2⟩ | ⟨q1, q2⟩
  · unfold sgI at q2
    exact mk_3 h0 h1 (by omega) q2 h4 (by omega) h5 h2
  · unfold sgI at q2
    exact mk_4 h0 h1 hb hr (by omega) l1 l2 h4 (by omega) h2
/-! loops of next -/
theorem bs_1 {A p p' : Int} (h : A = scn (bB T) n p) (h1 : p < n) (h2 : T p = 32 ∨ T p = 10) (e : p' = p + 1) : A = scn (bB T) n p' := by rw [e, ← scn_s h1 (bB_y h2)]; exact h
theorem bs_2 {A p : Int} (h : A = scn (bB T) n p) (h1 : n ≤ p ∨ (T p ≠ 32 ∧ T p ≠ 10)) : A = p := by
  rw [h, scn_e]
  rcases h1 with h1 | h1
  · exact Or.inl h1
  · exact Or.inr (bB_n h1)
theorem sc_0 {q : Int → Bool} {p p' : Int} (h : p = p') : scn q n p = scn q n p' := by rw [h]
theorem lr_1 {p p' q q' : Int} (h : scn (bL T) n p = scn (bL T) n q) (h1 : q < n) (h2 : 97 ≤ T q ∧ T q ≤ 122) (e : p' = p) (e2 : q' = q + 1) : scn (bL T) n p' = scn (bL T) n q' := by rw [e, e2, ← scn_s h1 (bL_y h2)]; exact h
theorem dr_1 {p p' q q' : Int} (h : scn (bD T) n p = scn (bD T) n q) (h1 : q < n) (h2 : 48 ≤ T q ∧ T q ≤ 57) (e : p' = p) (e2 : q' = q + 1) : scn (bD T) n p' = scn (bD T) n q' := by rw [e, e2, ← scn_s h1 (bD_y h2)]; exact h
def nmR (T : Int → Int) (s e x : Int) : Prop := s ≤ e ∧ ((x ≤ 99999 ∧ x = nmk T s (e - s).toNat) ∨ (99999 < x ∧ 99999 < nmk T s (e - s).toNat))
theorem nmR_0 {s e x : Int} (h : e = s) (hx : x = 0) : nmR T s e x := by
  subst h hx
  exact ⟨by omega, Or.inl ⟨by omega, nm_0⟩⟩
theorem nmR_s {s e x s' e' x' : Int} (h : nmR T s e x) (hd : 48 ≤ T e ∧ T e ≤ 57) (hx : (1000000 < x ∧ x' = x) ∨ (x ≤ 1000000 ∧ x' = 10 * x + T e - 48)) (es : s' = s) (ee : e' = e + 1) : nmR T s' e' x' := by
  subst es ee
  obtain ⟨h1, h2⟩ := h
  refine ⟨by omega, ?_⟩
  rw [show (e + 1 - s').toNat = (e - s').toNat + 1 by omega]
  rcases h2 with ⟨a1, a2⟩ | ⟨a1, a2⟩
  · have := nmk_s (T := T) (s := s') (k := (e - s').toNat) (by omega)
    rw [show s' + ((e - s').toNat : Int) = e by omega] at this
    omega
  · have := nmk_k (T := T) (s := s') a2 1
    omega
/-! what is to come, as a list; codes to be made aside -/
def stkl (f : Int → Int) : Nat → List Int
  | 0 => []
  | m + 1 => if 1000 ≤ f (m : Int) then stkl f m else f (m : Int) :: stkl f m
theorem stkl_c {f f' : Int → Int} : ∀ {m : Nat}, (∀ i : Nat, i < m → f' (i : Int) = f (i : Int)) → stkl f' m = stkl f m
  | 0, _ => rfl
  | m + 1, h => by
    unfold stkl
    rw [h m (by omega), stkl_c (fun i hi => h i (by omega))]
theorem stk_p {f : Int → Int} {m y : Int} (h : 0 ≤ m) (hy : y < 1000) : stkl (up f m y) (m + 1).toNat = y :: stkl f m.toNat := by
  rw [show (m + 1).toNat = m.toNat + 1 by omega]
  show (if 1000 ≤ up f m y (m.toNat : Int) then _ else up f m y (m.toNat : Int) :: stkl (up f m y) m.toNat) = _
  rw [Int.toNat_of_nonneg h, up_self, if_neg (by omega), stkl_c (f := f) (fun i hi => up_ne _ _ (by omega))]
theorem stk_d {f : Int → Int} {m y : Int} (h : 0 ≤ m) (hy : 1000 ≤ y) : stkl (up f m y) (m + 1).toNat = stkl f m.toNat := by
  rw [show (m + 1).toNat = m.toNat + 1 by omega]
  show (if 1000 ≤ up f m y (m.toNat : Int) then stkl (up f m y) m.toNat else _) = _
  rw [Int.toNat_of_nonneg h, up_self, if_pos hy, stkl_c (f := f) (fun i hi => up_ne _ _ (by omega))]
theorem stk_o {f : Int → Int} {m : Int} (h : 0 ≤ m) : stkl f (m + 1).toNat = if 1000 ≤ f m then stkl f m.toNat else f m :: stkl f m.toNat := by
  rw [show (m + 1).toNat = m.toNat + 1 by omega]
  show (if 1000 ≤ f (m.toNat : Int) then stkl f m.toNat else f (m.toNat : Int) :: stkl f m.toNat) = _
  rw [Int.toNat_of_nonneg h]
def cfR (g : Nat → Int) (a : Nat → Int → Int) : Cf := (g 4, stkl (a 2) (g 7).toNat, g 8, bgn (a 5), g 15)
theorem cfR_eq {c d w : Int} {st : List Int} {b : Int → Bool} (h4 : g' 4 = c) (hs : stkl (a' 2) (g' 7).toNat = st) (h8 : g' 8 = d) (hb : bgn (a' 5) = b) (hw : g' 15 = w) : cfR g' a' = (c, st, d, b, w) := by
  unfold cfR
  rw [h4, hs, h8, hb, hw]
/-- a step of the reference's: what was on top is a 2 (g 7) -/
def nst (T : Int → Int) (n : Int) (g : Nat → Int) (a : Nat → Int → Int) (g' : Nat → Int) (a' : Nat → Int → Int) (z : Int) : Prop :=
  (1000 ≤ a 2 (g 7) ∧ z = 1 ∧ cfR g' a' = (g 4, stkl (a 2) (g 7).toNat, g 8, bgn (a 5), g 15)) ∨ (a 2 (g 7) < 1000 ∧ ((z = 1 ∧ stp T n (g 4, a 2 (g 7) :: stkl (a 2) (g 7).toNat, g 8, bgn (a 5), g 15) = .inl (cfR g' a')) ∨ (z = 0 ∧ stp T n (g 4, a 2 (g 7) :: stkl (a 2) (g 7).toNat, g 8, bgn (a 5), g 15) = .inr (g' 4))))
theorem nst_d (h : 1000 ≤ a 2 (g 7)) (h7 : 0 ≤ g 7) (e4 : g' 4 = g 4) (e7 : g' 7 = g 7) (e8 : g' 8 = g 8) (e15 : g' 15 = g 15) (f2 : a' 2 = a 2) (f5 : a' 5 = a 5) {z : Int} (hz : z = 1) : nst T n g a g' a' z := Or.inl ⟨h, hz, cfR_eq e4 (by rw [f2, e7]) e8 (by rw [f5]) e15⟩
theorem nst_y {z : Int} (h : a 2 (g 7) < 1000) (hz : z = 1) (q : stp T n (g 4, a 2 (g 7) :: stkl (a 2) (g 7).toNat, g 8, bgn (a 5), g 15) = .inl (cfR g' a')) : nst T n g a g' a' z := Or.inr ⟨h, Or.inl ⟨hz, q⟩⟩
theorem nst_n {z : Int} (h : a 2 (g 7) < 1000) (hz : z = 0) (q : stp T n (g 4, a 2 (g 7) :: stkl (a 2) (g 7).toNat, g 8, bgn (a 5), g 15) = .inr (g' 4)) : nst T n g a g' a' z := Or.inr ⟨h, Or.inr ⟨hz, q⟩⟩
/-- the loop over what is to come -/
def rIn (T : Int → Int) (n : Int) (g : Nat → Int) (a : Nat → Int → Int) : Prop := ∀ r, Runs T n (cf0 T n) r → Runs T n (cfR g a) r
theorem rIn_p {g1 g2 : Nat → Int} {a2 : Nat → Int → Int} {z : Int} (h : rIn T n g a) (h7 : 0 < g 7) (e7 : g1 7 = g 7 - 1) (e4 : g1 4 = g 4) (e8 : g1 8 = g 8) (e15 : g1 15 = g 15) (q : nst T n g1 a g2 a2 z) : (z ≠ 0 → rIn T n g2 a2) ∧ (z = 0 → ∀ r, Runs T n (cf0 T n) r → r = g2 4) := by
  have hC : cfR g a = (g1 4, (if 1000 ≤ a 2 (g1 7) then stkl (a 2) (g1 7).toNat else a 2 (g1 7) :: stkl (a 2) (g1 7).toNat), g1 8, bgn (a 5), g1 15) := cfR_eq e4.symm (by rw [show g 7 = g1 7 + 1 by omega]; exact stk_o (by omega)) e8.symm rfl e15.symm
  unfold rIn at h
  rw [hC] at h
  rcases q with ⟨q1, q2, q3⟩ | ⟨q1, ⟨q2, q3⟩ | ⟨q2, q3⟩⟩
  · rw [if_pos q1, ← q3] at h
    exact ⟨fun _ => h, fun w => by omega⟩
  · rw [if_neg (by omega)] at h
    exact ⟨fun _ r hr => (Runs_l q3).mp (h r hr), fun w => by omega⟩
  · rw [if_neg (by omega)] at h
    exact ⟨fun w => by omega, fun _ r hr => (Runs_r q3).mp (h r hr)⟩
theorem rIn_e (h : rIn T n g a) (h7 : g 7 ≤ 0) : ∀ r, Runs T n (cf0 T n) r → r = -1 := fun r hr => by
  have q := h r hr
  have hC : cfR g a = (g 4, [], g 8, bgn (a 5), g 15) := cfR_eq rfl (by rw [show (g 7).toNat = 0 by omega]; rfl) rfl rfl rfl
  rw [hC] at q
  exact (Runs_r rfl).mp q
theorem rIn_0 {f h : Int → Int} {F : Int → Int} (e4 : g 4 = scn (bB T) n 0) (e7 : g 7 = 1) (e8 : g 8 = 0) (e15 : g 15 = 0) (eT : a 2 = up F 0 0) (q : sl0 f h 14) (f5 : a 5 = f) : rIn T n g a := fun r hr => by
  have hC : cfR g a = cf0 T n := cfR_eq (st := [0]) e4 (by rw [eT, e7]; exact stk_p (m := 0) (by omega) (by omega)) e8 (bgn_0 (fun i h0 h1 => by rw [f5]; exact (q i h0 h1).1)) e15
  rw [hC]; exact hr
/-! CLAUSES -/
def skR (T : Int → Int) (n : Int) (g : Nat → Int) (a : Nat → Int → Int) (g' : Nat → Int) (a' : Nat → Int → Int) (z : Int) : Prop :=
  (z = 1 ∧ (tkd T n (tnx T n (g 4)) = 1 ∧ ten T n (tnx T n (g 4)) - tnx T n (g 4) ≤ 8 ∧ g 15 ≠ 4) ∧ g' 4 = tnx T n (tnx T n (g 4)) ∧ a' 2 = a 2 ∧ g' 7 = g 7 ∧ g' 8 = g 8 ∧ a' 5 = a 5 ∧ g' 15 = g 15 + 1) ∨ (z = 0 ∧ ¬ (tkd T n (tnx T n (g 4)) = 1 ∧ ten T n (tnx T n (g 4)) - tnx T n (g 4) ≤ 8 ∧ g 15 ≠ 4) ∧ g' 4 = tnx T n (g 4))
theorem skR_y {g1 : Nat → Int} {a1 : Nat → Int → Int} (hT : tkR T n g a) (h3 : g 3 = 2) (e4 : g1 4 = scn (bB T) n (g 2)) (hT1 : tkR T n g1 a1) (h31 : g1 3 = 2) (hl : g1 2 - g1 4 ≤ 8) (h15 : g 15 ≠ 4) (e4' : g' 4 = scn (bB T) n (g1 2)) (f2 : a' 2 = a 2) (e7 : g' 7 = g 7) (e8 : g' 8 = g 8) (f5 : a' 5 = a 5) (e15 : g' 15 = g 15 + 1) {z : Int} (hz : z = 1) : skR T n g a g' a' z := by
  have k1 := tnx_of (tkR_e hT (by omega)) e4
  have k2 := tkR_e hT1 (by omega)
  have k3 := tnx_of k2 e4'
  have k4 := (tkR_w hT1 h31).1
  rw [k1] at k2 k3 k4 hl
  exact Or.inl ⟨hz, ⟨k4, by omega, h15⟩, k3, f2, e7, e8, f5, e15⟩
theorem skR_n {g1 : Nat → Int} {a1 : Nat → Int → Int} (hT : tkR T n g a) (h3 : g 3 = 2) (e4 : g1 4 = scn (bB T) n (g 2)) (hT1 : tkR T n g1 a1) (hl : g1 3 ≠ 2 ∨ 8 < g1 2 - g1 4 ∨ g 15 = 4) (e4' : g' 4 = g1 4) {z : Int} (hz : z = 0) : skR T n g a g' a' z := by
  have k1 := tnx_of (tkR_e hT (by omega)) e4
  refine Or.inr ⟨hz, fun q => ?_, by rw [e4']; exact k1⟩
  rw [← k1] at q
  have k5 : g1 3 = 2 := by
    by_cases w : g1 3 = 2
    · exact w
    · have := hT1.2
      omega
  have k2 := tkR_e hT1 (by omega)
  omega
def chR (T : Int → Int) (n : Int) (g : Nat → Int) (a : Nat → Int → Int) (g' : Nat → Int) (a' : Nat → Int → Int) (p z : Int) : Prop :=
  (z = 1 ∧ bgn (a 5) (p - 1) = false ∧ (19 + 2 * p ≤ twd T n (tnx T n (g 4)) ∧ twd T n (tnx T n (g 4)) ≤ 20 + 2 * p) ∧ g' 4 = tnx T n (tnx T n (g 4)) ∧ a' 2 = a 2 ∧ g' 7 = g 7 ∧ g' 8 = g 8 ∧ bgn (a' 5) = sbp (bgn (a 5)) (p - 1) ∧ g' 15 = g 15) ∨ (z = 0 ∧ ((bgn (a 5) (p - 1) = true ∧ g' 4 = g 4) ∨ (bgn (a 5) (p - 1) = false ∧ ¬ (19 + 2 * p ≤ twd T n (tnx T n (g 4)) ∧ twd T n (tnx T n (g 4)) ≤ 20 + 2 * p) ∧ g' 4 = tnx T n (g 4))))
theorem chR_b {p c : Int} (hp : p = 1 ∨ p = 2) (hc : c = p - 1) (hb : a 5 c ≠ -1) (e4 : g' 4 = g 4) {z : Int} (hz : z = 0) : chR T n g a g' a' p z := Or.inr ⟨hz, Or.inl ⟨by rw [← hc]; exact bgn_t (by omega) (by omega) hb, e4⟩⟩
theorem chR_n {g1 : Nat → Int} {a1 : Nat → Int → Int} {p c : Int} (hp : p = 1 ∨ p = 2) (hc : c = p - 1) (hb : a 5 c = -1) (hT : tkR T n g a) (h3 : g 3 = 2) (e4 : g1 4 = scn (bB T) n (g 2)) (hT1 : tkR T n g1 a1) (hw : g1 3 ≠ 2 ∨ (p = 1 ∧ g1 5 ≠ 9 ∧ g1 5 ≠ 10) ∨ (p = 2 ∧ g1 5 ≠ 11 ∧ g1 5 ≠ 12)) (e4' : g' 4 = g1 4) {z : Int} (hz : z = 0) : chR T n g a g' a' p z := by
  have k1 := tnx_of (tkR_e hT (by omega)) e4
  have k2 := tkR_wo hT1
  rw [k1] at k2
  exact Or.inr ⟨hz, Or.inr ⟨by rw [← hc]; exact bgn_f hb, by omega, by rw [e4']; exact k1⟩⟩
theorem chR_y {g1 : Nat → Int} {a1 : Nat → Int → Int} {p c x : Int} (hp : p = 1 ∨ p = 2) (hc : c = p - 1) (hb : a 5 c = -1) (hT : tkR T n g a) (h3 : g 3 = 2) (e4 : g1 4 = scn (bB T) n (g 2)) (hT1 : tkR T n g1 a1) (hw : g1 3 = 2 ∧ ((p = 1 ∧ (g1 5 = 9 ∨ g1 5 = 10)) ∨ (p = 2 ∧ (g1 5 = 11 ∨ g1 5 = 12)))) (e4' : g' 4 = scn (bB T) n (g1 2)) (f2 : a' 2 = a 2) (e7 : g' 7 = g 7) (e8 : g' 8 = g 8) (hx : 0 ≤ x) (f5 : a' 5 = up (a 5) c x) (e15 : g' 15 = g 15) {z : Int} (hz : z = 1) : chR T n g a g' a' p z := by
  have k1 := tnx_of (tkR_e hT (by omega)) e4
  have k2 := tkR_wo hT1
  have k3 := tnx_of (tkR_e hT1 (by omega)) e4'
  rw [k1] at k2 k3
  refine Or.inl ⟨hz, by rw [← hc]; exact bgn_f hb, by omega, k3, f2, e7, e8, ?_, e15⟩
  rw [f5, ← hc]
  exact bgn_up (by omega) (by omega) (x := x) (by omega) (fun i => by by_cases q : i = c; rw [q, up_self, if_pos rfl]; rw [up_ne _ _ q, if_neg q])
def bgR (T : Int → Int) (n : Int) (g : Nat → Int) (a : Nat → Int → Int) (g' : Nat → Int) (a' : Nat → Int → Int) (c w z : Int) : Prop :=
  (z = 1 ∧ bgn (a 5) c = false ∧ g' 4 = tnx T n (g 4) ∧ a' 2 = up (up (a 2) (g 7) 13) (g 7 + 1) w ∧ g' 7 = g 7 + 2 ∧ g' 8 = g 8 ∧ bgn (a' 5) = sbp (bgn (a 5)) c ∧ g' 15 = g 15) ∨ (z = 0 ∧ bgn (a 5) c = true ∧ g' 4 = g 4)
theorem bgR_n {c w : Int} (h0 : 0 ≤ c) (h1 : c < 14) (hb : a 5 c ≠ -1) (e4 : g' 4 = g 4) {z : Int} (hz : z = 0) : bgR T n g a g' a' c w z := Or.inr ⟨hz, bgn_t h0 h1 hb, e4⟩
theorem bgR_y {c w x : Int} (h0 : 0 ≤ c) (h1 : c < 14) (hb : a 5 c = -1) (hT : tkR T n g a) (h3 : g 3 = 2) (e4 : g' 4 = scn (bB T) n (g 2)) (f2 : a' 2 = up (up (a 2) (g 7) 13) (g 7 + 1) w) (e7 : g' 7 = g 7 + 2) (e8 : g' 8 = g 8) (hx : 0 ≤ x) (f5 : a' 5 = up (a 5) c x) (e15 : g' 15 = g 15) {z : Int} (hz : z = 1) : bgR T n g a g' a' c w z := by
  refine Or.inl ⟨hz, bgn_f hb, tnx_of (tkR_e hT (by omega)) e4, f2, e7, e8, ?_, e15⟩
  rw [f5]
  exact bgn_up h0 h1 (x := x) (by omega) (fun i => by by_cases q : i = c; rw [q, up_self, if_pos rfl]; rw [up_ne _ _ q, if_neg q])
/-! CLAUSES: from what skip, choice and begins tell; g1: behind the two pushes -/
section CL
variable {g1 : Nat → Int} {a1 : Nat → Int → Int} {z : Int}
theorem cl_0 {z : Int} (hz : z = 1) (hT : tkR T n g a) (hs : a 2 (g 7) = 0) (h3 : g 3 = 0) (e4 : g' 4 = g 4) (e7 : g' 7 = g 7) (e8 : g' 8 = g 8) (e15 : g' 15 = g 15) (f2 : a' 2 = a 2) (f5 : a' 5 = a 5) : nst T n g a g' a' z := by
  subst hz
  have k0 := tkR_0 hT
  refine nst_y (by omega) rfl ?_
  rw [hs]
  exact (sq_0e (by omega)).trans (congrArg Sum.inl (cfR_eq e4 (by rw [f2, e7]) e8 (by rw [f5]) e15).symm)
theorem cl_n (hT : tkR T n g a) (hs : a 2 (g 7) = 0) (h3 : g 3 ≠ 0) (hw : g 3 ≠ 2 ∨ g 5 < 0 ∨ 8 < g 5) (e4 : g' 4 = g 4) : nst T n g a g' a' 0 := by
  have k0 := tkR_0 hT
  have k1 := tkR_wo hT
  refine nst_n (by omega) rfl ?_
  rw [hs, e4]
  exact sq_0n (by omega) (by omega)
theorem cl_sk (hT : tkR T n g a) (hs : a 2 (g 7) = 0) (h7 : 0 ≤ g 7) (h3 : g 3 = 2) (h5 : g 5 = 0) (e4 : g1 4 = g 4) (e7 : g1 7 = g 7 + 2) (e8 : g1 8 = g 8) (e15 : g1 15 = g 15) (f2 : a1 2 = up (up (a 2) (g 7) 0) (g 7 + 1) 159) (f5 : a1 5 = a 5) (q : skR T n g1 a1 g' a' z) : nst T n g a g' a' z := by
  have k1 := tkR_wo hT
  have hL : stkl (a1 2) (g1 7).toNat = 159 :: 0 :: stkl (a 2) (g 7).toNat := by
    rw [f2, e7, show g 7 + 2 = g 7 + 1 + 1 by omega, stk_p (by omega) (by omega), stk_p h7 (by omega)]
  unfold skR at q
  rw [e4, e15] at q
  rcases q with ⟨z1, q1, q2, q3, q4, q5, q6, q7⟩ | ⟨z0, q1, q2⟩
  · subst z1
    refine nst_y (by omega) rfl ?_
    rw [hs]
    exact (sq_0sy (by omega) q1).trans (congrArg Sum.inl (cfR_eq q2 (by rw [q3, q4]; exact hL) (by omega) (by rw [q6, f5]) q7).symm)
  · subst z0
    refine nst_n (by omega) rfl ?_
    rw [hs, q2]
    exact sq_0sn (by omega) q1
theorem cl_ch {p : Int} (hT : tkR T n g a) (hs : a 2 (g 7) = 0) (h7 : 0 ≤ g 7) (h3 : g 3 = 2) (hp : p = 1 ∨ p = 2) (h5 : g 5 = p) (e4 : g1 4 = g 4) (e7 : g1 7 = g 7 + 2) (e8 : g1 8 = g 8) (e15 : g1 15 = g 15) (f2 : a1 2 = up (up (a 2) (g 7) 0) (g 7 + 1) 159) (f5 : a1 5 = a 5) (q : chR T n g1 a1 g' a' p z) : nst T n g a g' a' z := by
  have k1 := tkR_wo hT
  have kp : twd T n (g 4) = p := by omega
  have hL : stkl (a1 2) (g1 7).toNat = 159 :: 0 :: stkl (a 2) (g 7).toNat := by
    rw [f2, e7, show g 7 + 2 = g 7 + 1 + 1 by omega, stk_p (by omega) (by omega), stk_p h7 (by omega)]
  unfold chR at q
  rw [e4, e15, f5, ← kp] at q
  rcases q with ⟨z1, q0, q1, q2, q3, q4, q5, q6, q7⟩ | ⟨z0, ⟨q0, q2⟩ | ⟨q0, q1, q2⟩⟩
  · subst z1
    refine nst_y (by omega) rfl ?_
    rw [hs]
    exact (sq_0cy (by omega) q0 q1).trans (congrArg Sum.inl (cfR_eq q2 (by rw [q3, q4]; exact hL) (by omega) q6 q7).symm)
  · subst z0
    refine nst_n (by omega) rfl ?_
    rw [hs, q2]
    exact sq_0cb (by omega) q0
  · subst z0
    refine nst_n (by omega) rfl ?_
    rw [hs, q2]
    exact sq_0cn (by omega) q0 q1
def cuI (x c : Int) : Prop := (x = 6 ∧ c = 2) ∨ (x = 7 ∧ c = 3) ∨ (x ≠ 6 ∧ x ≠ 7 ∧ c = 4)
def cvI (x w : Int) : Prop := (x = 8 ∧ w = 1) ∨ (x ≠ 8 ∧ w = 6)
theorem cbw_o {x y c w : Int} (e : y = x) (h : 6 ≤ x ∧ x ≤ 8) (hc : cuI x c) (hw : cvI x w) : (y = 6 ∧ c = 2 ∧ w = 6) ∨ (y = 7 ∧ c = 3 ∧ w = 6) ∨ (y = 8 ∧ c = 4 ∧ w = 1) := by
  unfold cuI at hc
  unfold cvI at hw
  omega
theorem cl_bg {c w : Int} (hT : tkR T n g a) (hs : a 2 (g 7) = 0) (h7 : 0 ≤ g 7) (h3 : g 3 = 2) (h5 : (g 5 = 6 ∧ c = 2 ∧ w = 6) ∨ (g 5 = 7 ∧ c = 3 ∧ w = 6) ∨ (g 5 = 8 ∧ c = 4 ∧ w = 1)) (e4 : g1 4 = g 4) (e7 : g1 7 = g 7 + 2) (e8 : g1 8 = g 8) (e15 : g1 15 = g 15) (f2 : a1 2 = up (up (a 2) (g 7) 0) (g 7 + 1) 159) (f5 : a1 5 = a 5) (q : bgR T n g1 a1 g' a' c w z) : nst T n g a g' a' z := by
  have k1 := tkR_wo hT
  have kp : c = twd T n (g 4) - 1 := by omega
  have hL : stkl (a1 2) (g1 7).toNat = 159 :: 0 :: stkl (a 2) (g 7).toNat := by
    rw [f2, e7, show g 7 + 2 = g 7 + 1 + 1 by omega, stk_p (by omega) (by omega), stk_p h7 (by omega)]
  unfold bgR at q
  rw [e4, e15, f5, kp] at q
  rcases q with ⟨z1, q1, q2, q3, q4, q5, q6, q7⟩ | ⟨z0, q1, q2⟩
  · subst z1
    have hM : stkl (a' 2) (g' 7).toNat = w :: 13 :: 159 :: 0 :: stkl (a 2) (g 7).toNat := by
      rw [q3, q4, show g1 7 + 2 = g1 7 + 1 + 1 by omega, stk_p (by omega) (by omega), stk_p (by omega) (by omega), hL]
    refine nst_y (by omega) rfl ?_
    rw [hs]
    rcases h5 with ⟨h5, -, hw⟩ | ⟨h5, -, hw⟩ | ⟨h5, -, hw⟩
    · exact (st_0w6 (by omega) q1).trans (congrArg Sum.inl (cfR_eq q2 (by rw [hM, hw]) (by omega) q6 q7).symm)
    · exact (st_0w6 (by omega) q1).trans (congrArg Sum.inl (cfR_eq q2 (by rw [hM, hw]) (by omega) q6 q7).symm)
    · exact (st_0w1 (by omega) q1).trans (congrArg Sum.inl (cfR_eq q2 (by rw [hM, hw]) (by omega) q6 q7).symm)
  · subst z0
    refine nst_n (by omega) rfl ?_
    rw [hs, q2]
    exact sq_0wb (by omega) q1
theorem cl_lk (hT : tkR T n g a) (hs : a 2 (g 7) = 0) (h3 : g 3 = 2) (h5 : 3 ≤ g 5 ∧ g 5 ≤ 5) (e4 : g1 4 = scn (bB T) n (g 2)) (hT1 : tkR T n g1 a1) (hw : g1 3 ≠ 2 ∨ g1 5 < 13 ∨ 15 < g1 5) (e4' : g' 4 = g1 4) : nst T n g a g' a' 0 := by
  have k1 := tkR_wo hT
  have k2 := tkR_wo hT1
  have k3 := tnx_of (tkR_e hT (by omega)) e4
  rw [k3] at k2
  refine nst_n (by omega) rfl ?_
  rw [hs, e4', k3]
  exact sq_0ln (by omega) (by omega)
theorem cl_lb {g2 : Nat → Int} {a2 : Nat → Int → Int} {c : Int} (hT : tkR T n g a) (hs : a 2 (g 7) = 0) (h7 : 0 ≤ g 7) (h3 : g 3 = 2) (h5 : 3 ≤ g 5 ∧ g 5 ≤ 5) (e4 : g2 4 = scn (bB T) n (g 2)) (hT2 : tkR T n g2 a2) (hw : g2 3 = 2 ∧ 13 ≤ g2 5 ∧ g2 5 ≤ 15) (hc : c = 5 + 3 * (g 5 - 3) + g2 5 - 13) (e7 : g2 7 = g 7 + 2) (e8 : g2 8 = g 8) (e15 : g2 15 = g 15) (f2 : a2 2 = up (up (a 2) (g 7) 0) (g 7 + 1) 159) (f5 : a2 5 = a 5) (q : bgR T n g2 a2 g' a' c 1 z) : nst T n g a g' a' z := by
  have k1 := tkR_wo hT
  have k2 := tkR_wo hT2
  have k3 := tnx_of (tkR_e hT (by omega)) e4
  rw [k3] at k2
  have kp : c = 5 + 3 * (twd T n (g 4) - 6) + (twd T n (tnx T n (g 4)) - 9) := by omega
  have hL : stkl (a2 2) (g2 7).toNat = 159 :: 0 :: stkl (a 2) (g 7).toNat := by
    rw [f2, e7, show g 7 + 2 = g 7 + 1 + 1 by omega, stk_p (by omega) (by omega), stk_p h7 (by omega)]
  unfold bgR at q
  rw [k3, e15, f5, kp] at q
  rcases q with ⟨z1, q1, q2, q3, q4, q5, q6, q7⟩ | ⟨z0, q1, q2⟩
  · subst z1
    have hM : stkl (a' 2) (g' 7).toNat = 1 :: 13 :: 159 :: 0 :: stkl (a 2) (g 7).toNat := by
      rw [q3, q4, show g2 7 + 2 = g2 7 + 1 + 1 by omega, stk_p (by omega) (by omega), stk_p (by omega) (by omega), hL]
    refine nst_y (by omega) rfl ?_
    rw [hs]
    exact (sq_0ly (by omega) (by omega) q1).trans (congrArg Sum.inl (cfR_eq q2 hM (by omega) q6 q7).symm)
  · subst z0
    refine nst_n (by omega) rfl ?_
    rw [hs, q2]
    exact sq_0lb (by omega) (by omega) q1
end CL
theorem nt_1 {T : Int → Int} {n : Int} {g g' : Nat → Int} {a a' : Nat → Int → Int} {s9 : Int} (hT : tkR T n g a) (h7 : 0 ≤ g 7) (hs : s9 = 1) (e7 : g' 7 = g 7 + 2) (e8 : g' 8 = g 8 + 0) (e15 : g' 15 = g 15) (f5 : a' 5 = a 5) (e4 : g' 4 = g 4) (eT : a' 2 = up (up (a 2) (g 7) (2)) (g 7 + 1) (3)) : stp T n (g 4, s9 :: stkl (a 2) (g 7).toNat, g 8, bgn (a 5), g 15) = .inl (cfR g' a') := by
  subst hs
  have hL : stkl (a' 2) (g' 7).toNat = 3 :: 2 :: stkl (a 2) (g 7).toNat := by
    rw [eT, e7]
    rw [show g 7 + 2 = g 7 + 1 + 1 by omega]
    rw [stk_p (by omega) (by omega)]
    rw [stk_p (by omega) (by omega)]
  exact (sq_1).trans (congrArg Sum.inl (cfR_eq e4 hL (by omega) (by rw [f5]) e15).symm)
theorem nt_3 {T : Int → Int} {n : Int} {g g' : Nat → Int} {a a' : Nat → Int → Int} {s9 : Int} (hT : tkR T n g a) (h7 : 0 ≤ g 7) (hs : s9 = 3) (e7 : g' 7 = g 7 + 2) (e8 : g' 8 = g 8 + 0) (e15 : g' 15 = g 15) (f5 : a' 5 = a 5) (e4 : g' 4 = g 4) (eT : a' 2 = up (up (a 2) (g 7) (4)) (g 7 + 1) (5)) : stp T n (g 4, s9 :: stkl (a 2) (g 7).toNat, g 8, bgn (a 5), g 15) = .inl (cfR g' a') := by
  subst hs
  have hL : stkl (a' 2) (g' 7).toNat = 5 :: 4 :: stkl (a 2) (g 7).toNat := by
    rw [eT, e7]
    rw [show g 7 + 2 = g 7 + 1 + 1 by omega]
    rw [stk_p (by omega) (by omega)]
    rw [stk_p (by omega) (by omega)]
  exact (sq_3).trans (congrArg Sum.inl (cfR_eq e4 hL (by omega) (by rw [f5]) e15).symm)
theorem nt_6 {T : Int → Int} {n : Int} {g g' : Nat → Int} {a a' : Nat → Int → Int} {s9 : Int} (hT : tkR T n g a) (h7 : 0 ≤ g 7) (hs : s9 = 6) (e7 : g' 7 = g 7 + 2) (e8 : g' 8 = g 8 + 0) (e15 : g' 15 = g 15) (f5 : a' 5 = a 5) (e4 : g' 4 = g 4) (eT : a' 2 = up (up (a 2) (g 7) (7)) (g 7 + 1) (8)) : stp T n (g 4, s9 :: stkl (a 2) (g 7).toNat, g 8, bgn (a 5), g 15) = .inl (cfR g' a') := by
  subst hs
  have hL : stkl (a' 2) (g' 7).toNat = 8 :: 7 :: stkl (a 2) (g 7).toNat := by
    rw [eT, e7]
    rw [show g 7 + 2 = g 7 + 1 + 1 by omega]
    rw [stk_p (by omega) (by omega)]
    rw [stk_p (by omega) (by omega)]
  exact (sq_6).trans (congrArg Sum.inl (cfR_eq e4 hL (by omega) (by rw [f5]) e15).symm)
theorem nt_8 {T : Int → Int} {n : Int} {g g' : Nat → Int} {a a' : Nat → Int → Int} {s9 : Int} (hT : tkR T n g a) (h7 : 0 ≤ g 7) (hs : s9 = 8) (e7 : g' 7 = g 7 + 2) (e8 : g' 8 = g 8 + 0) (e15 : g' 15 = g 15) (f5 : a' 5 = a 5) (e4 : g' 4 = g 4) (eT : a' 2 = up (up (a 2) (g 7) (9)) (g 7 + 1) (10)) : stp T n (g 4, s9 :: stkl (a 2) (g 7).toNat, g 8, bgn (a 5), g 15) = .inl (cfR g' a') := by
  subst hs
  have hL : stkl (a' 2) (g' 7).toNat = 10 :: 9 :: stkl (a 2) (g 7).toNat := by
    rw [eT, e7]
    rw [show g 7 + 2 = g 7 + 1 + 1 by omega]
    rw [stk_p (by omega) (by omega)]
    rw [stk_p (by omega) (by omega)]
  exact (sq_8).trans (congrArg Sum.inl (cfR_eq e4 hL (by omega) (by rw [f5]) e15).symm)
theorem nt_2n {T : Int → Int} {n : Int} {g g' : Nat → Int} {a a' : Nat → Int → Int} {s9 : Int} (hT : tkR T n g a) (hk : g 3 ≠ 3 ∨ (g 5 ≠ 43 ∧ g 5 ≠ 45)) (h7 : 0 ≤ g 7) (hs : s9 = 2) (e7 : g' 7 = g 7 + 0) (e8 : g' 8 = g 8 + 0) (e15 : g' 15 = g 15) (f5 : a' 5 = a 5) (e4 : g' 4 = g 4) (eT : a' 2 = a 2) : stp T n (g 4, s9 :: stkl (a 2) (g 7).toNat, g 8, bgn (a 5), g 15) = .inl (cfR g' a') := by
  subst hs
  have hK := fun k (hk0 : 40 ≤ k) (h : g 3 ≠ 3 ∨ g 5 ≠ k) => tkR_ns hT hk0 h
  have hL : stkl (a' 2) (g' 7).toNat = stkl (a 2) (g 7).toNat := by
    rw [eT, e7]
    rw [show g 7 + 0 = g 7 by omega]
  exact (sq_2n ⟨hK 43 (by omega) (by omega), hK 45 (by omega) (by omega)⟩).trans (congrArg Sum.inl (cfR_eq e4 hL (by omega) (by rw [f5]) e15).symm)
theorem nt_4n {T : Int → Int} {n : Int} {g g' : Nat → Int} {a a' : Nat → Int → Int} {s9 : Int} (hT : tkR T n g a) (hk : g 3 ≠ 3 ∨ (g 5 ≠ 42 ∧ g 5 ≠ 47)) (h7 : 0 ≤ g 7) (hs : s9 = 4) (e7 : g' 7 = g 7 + 0) (e8 : g' 8 = g 8 + 0) (e15 : g' 15 = g 15) (f5 : a' 5 = a 5) (e4 : g' 4 = g 4) (eT : a' 2 = a 2) : stp T n (g 4, s9 :: stkl (a 2) (g 7).toNat, g 8, bgn (a 5), g 15) = .inl (cfR g' a') := by
  subst hs
  have hK := fun k (hk0 : 40 ≤ k) (h : g 3 ≠ 3 ∨ g 5 ≠ k) => tkR_ns hT hk0 h
  have hL : stkl (a' 2) (g' 7).toNat = stkl (a 2) (g 7).toNat := by
    rw [eT, e7]
    rw [show g 7 + 0 = g 7 by omega]
  exact (sq_4n ⟨hK 42 (by omega) (by omega), hK 47 (by omega) (by omega)⟩).trans (congrArg Sum.inl (cfR_eq e4 hL (by omega) (by rw [f5]) e15).symm)
theorem nt_7n {T : Int → Int} {n : Int} {g g' : Nat → Int} {a a' : Nat → Int → Int} {s9 : Int} (hT : tkR T n g a) (hk : g 3 ≠ 2 ∨ g 5 ≠ 25) (h7 : 0 ≤ g 7) (hs : s9 = 7) (e7 : g' 7 = g 7 + 0) (e8 : g' 8 = g 8 + 0) (e15 : g' 15 = g 15) (f5 : a' 5 = a 5) (e4 : g' 4 = g 4) (eT : a' 2 = a 2) : stp T n (g 4, s9 :: stkl (a 2) (g 7).toNat, g 8, bgn (a 5), g 15) = .inl (cfR g' a') := by
  subst hs
  have hW := tkR_wo hT
  have hL : stkl (a' 2) (g' 7).toNat = stkl (a 2) (g 7).toNat := by
    rw [eT, e7]
    rw [show g 7 + 0 = g 7 by omega]
  exact (sq_7n (by omega)).trans (congrArg Sum.inl (cfR_eq e4 hL (by omega) (by rw [f5]) e15).symm)
theorem nt_9n {T : Int → Int} {n : Int} {g g' : Nat → Int} {a a' : Nat → Int → Int} {s9 : Int} (hT : tkR T n g a) (hk : g 3 ≠ 2 ∨ g 5 ≠ 26) (h7 : 0 ≤ g 7) (hs : s9 = 9) (e7 : g' 7 = g 7 + 0) (e8 : g' 8 = g 8 + 0) (e15 : g' 15 = g 15) (f5 : a' 5 = a 5) (e4 : g' 4 = g 4) (eT : a' 2 = a 2) : stp T n (g 4, s9 :: stkl (a 2) (g 7).toNat, g 8, bgn (a 5), g 15) = .inl (cfR g' a') := by
  subst hs
  have hW := tkR_wo hT
  have hL : stkl (a' 2) (g' 7).toNat = stkl (a 2) (g 7).toNat := by
    rw [eT, e7]
    rw [show g 7 + 0 = g 7 by omega]
  exact (sq_9n (by omega)).trans (congrArg Sum.inl (cfR_eq e4 hL (by omega) (by rw [f5]) e15).symm)
theorem nt_2m {T : Int → Int} {n : Int} {g g' : Nat → Int} {a a' : Nat → Int → Int} {s9 : Int} {x : Int} (h_x : 1002 ≤ x ∧ x ≤ 1010) (hT : tkR T n g a) (hk : g 3 = 3 ∧ (g 5 = 43 ∨ g 5 = 45)) (h7 : 0 ≤ g 7) (hs : s9 = 2) (e7 : g' 7 = g 7 + 3) (e8 : g' 8 = g 8 + 0) (e15 : g' 15 = g 15) (f5 : a' 5 = a 5) (e4 : g' 4 = scn (bB T) n (g 2)) (eT : a' 2 = up (up (up (a 2) (g 7) (2)) (g 7 + 1) (x)) (g 7 + 2) (3)) : stp T n (g 4, s9 :: stkl (a 2) (g 7).toNat, g 8, bgn (a 5), g 15) = .inl (cfR g' a') := by
  subst hs
  have hE : g 2 = ten T n (g 4) := tkR_e hT (by omega)
  have hK := tkR_sg hT (by omega)
  have hL : stkl (a' 2) (g' 7).toNat = 3 :: 2 :: stkl (a 2) (g 7).toNat := by
    rw [eT, e7]
    rw [show g 7 + 3 = g 7 + 2 + 1 by omega]
    rw [stk_p (by omega) (by omega)]
    rw [show g 7 + 2 = g 7 + 1 + 1 by omega]
    rw [stk_d (by omega) (by omega)]
    rw [stk_p (by omega) (by omega)]
  exact (sq_2y (by omega)).trans (congrArg Sum.inl (cfR_eq (tnx_of hE e4) hL (by omega) (by rw [f5]) e15).symm)
theorem nt_4m {T : Int → Int} {n : Int} {g g' : Nat → Int} {a a' : Nat → Int → Int} {s9 : Int} {x : Int} (h_x : 1002 ≤ x ∧ x ≤ 1010) (hT : tkR T n g a) (hk : g 3 = 3 ∧ (g 5 = 42 ∨ g 5 = 47)) (h7 : 0 ≤ g 7) (hs : s9 = 4) (e7 : g' 7 = g 7 + 3) (e8 : g' 8 = g 8 + 0) (e15 : g' 15 = g 15) (f5 : a' 5 = a 5) (e4 : g' 4 = scn (bB T) n (g 2)) (eT : a' 2 = up (up (up (a 2) (g 7) (4)) (g 7 + 1) (x)) (g 7 + 2) (5)) : stp T n (g 4, s9 :: stkl (a 2) (g 7).toNat, g 8, bgn (a 5), g 15) = .inl (cfR g' a') := by
  subst hs
  have hE : g 2 = ten T n (g 4) := tkR_e hT (by omega)
  have hK := tkR_sg hT (by omega)
  have hL : stkl (a' 2) (g' 7).toNat = 5 :: 4 :: stkl (a 2) (g 7).toNat := by
    rw [eT, e7]
    rw [show g 7 + 3 = g 7 + 2 + 1 by omega]
    rw [stk_p (by omega) (by omega)]
    rw [show g 7 + 2 = g 7 + 1 + 1 by omega]
    rw [stk_d (by omega) (by omega)]
    rw [stk_p (by omega) (by omega)]
  exact (sq_4y (by omega)).trans (congrArg Sum.inl (cfR_eq (tnx_of hE e4) hL (by omega) (by rw [f5]) e15).symm)
theorem nt_7m {T : Int → Int} {n : Int} {g g' : Nat → Int} {a a' : Nat → Int → Int} {s9 : Int} (hT : tkR T n g a) (hk : g 3 = 2 ∧ g 5 = 25) (h7 : 0 ≤ g 7) (hs : s9 = 7) (e7 : g' 7 = g 7 + 3) (e8 : g' 8 = g 8 + 0) (e15 : g' 15 = g 15) (f5 : a' 5 = a 5) (e4 : g' 4 = scn (bB T) n (g 2)) (eT : a' 2 = up (up (up (a 2) (g 7) (7)) (g 7 + 1) (1010)) (g 7 + 2) (8)) : stp T n (g 4, s9 :: stkl (a 2) (g 7).toNat, g 8, bgn (a 5), g 15) = .inl (cfR g' a') := by
  subst hs
  have hE : g 2 = ten T n (g 4) := tkR_e hT (by omega)
  have hW := tkR_wo hT
  have hL : stkl (a' 2) (g' 7).toNat = 8 :: 7 :: stkl (a 2) (g 7).toNat := by
    rw [eT, e7]
    rw [show g 7 + 3 = g 7 + 2 + 1 by omega]
    rw [stk_p (by omega) (by omega)]
    rw [show g 7 + 2 = g 7 + 1 + 1 by omega]
    rw [stk_d (by omega) (by omega)]
    rw [stk_p (by omega) (by omega)]
  exact (sq_7y (by omega)).trans (congrArg Sum.inl (cfR_eq (tnx_of hE e4) hL (by omega) (by rw [f5]) e15).symm)
theorem nt_9m {T : Int → Int} {n : Int} {g g' : Nat → Int} {a a' : Nat → Int → Int} {s9 : Int} (hT : tkR T n g a) (hk : g 3 = 2 ∧ g 5 = 26) (h7 : 0 ≤ g 7) (hs : s9 = 9) (e7 : g' 7 = g 7 + 3) (e8 : g' 8 = g 8 + 0) (e15 : g' 15 = g 15) (f5 : a' 5 = a 5) (e4 : g' 4 = scn (bB T) n (g 2)) (eT : a' 2 = up (up (up (a 2) (g 7) (9)) (g 7 + 1) (1009)) (g 7 + 2) (10)) : stp T n (g 4, s9 :: stkl (a 2) (g 7).toNat, g 8, bgn (a 5), g 15) = .inl (cfR g' a') := by
  subst hs
  have hE : g 2 = ten T n (g 4) := tkR_e hT (by omega)
  have hW := tkR_wo hT
  have hL : stkl (a' 2) (g' 7).toNat = 10 :: 9 :: stkl (a 2) (g 7).toNat := by
    rw [eT, e7]
    rw [show g 7 + 3 = g 7 + 2 + 1 by omega]
    rw [stk_p (by omega) (by omega)]
    rw [show g 7 + 2 = g 7 + 1 + 1 by omega]
    rw [stk_d (by omega) (by omega)]
    rw [stk_p (by omega) (by omega)]
  exact (sq_9y (by omega)).trans (congrArg Sum.inl (cfR_eq (tnx_of hE e4) hL (by omega) (by rw [f5]) e15).symm)
theorem nt_5e {T : Int → Int} {n : Int} {g g' : Nat → Int} {a a' : Nat → Int → Int} {s9 : Int} (hT : tkR T n g a) (hk : (g 3 = 1 ∧ g 5 ≤ 99999) ∨ (g 3 = 2 ∧ 16 ≤ g 5 ∧ g 5 ≤ 24)) (h7 : 0 ≤ g 7) (hs : s9 = 5) (e7 : g' 7 = g 7 + 0) (e8 : g' 8 = g 8 + 0) (e15 : g' 15 = g 15) (f5 : a' 5 = a 5) (e4 : g' 4 = scn (bB T) n (g 2)) (eT : a' 2 = a 2) : stp T n (g 4, s9 :: stkl (a 2) (g 7).toNat, g 8, bgn (a 5), g 15) = .inl (cfR g' a') := by
  subst hs
  have hE : g 2 = ten T n (g 4) := tkR_e hT (by omega)
  have hW := tkR_wo hT
  have hN := tkR_no hT
  have hL : stkl (a' 2) (g' 7).toNat = stkl (a 2) (g 7).toNat := by
    rw [eT, e7]
    rw [show g 7 + 0 = g 7 by omega]
  exact (sq_5y (by omega)).trans (congrArg Sum.inl (cfR_eq (tnx_of hE e4) hL (by omega) (by rw [f5]) e15).symm)
theorem nt_5p {T : Int → Int} {n : Int} {g g' : Nat → Int} {a a' : Nat → Int → Int} {s9 : Int} (hT : tkR T n g a) (hk : g 3 = 3 ∧ (g 5 = 40)) (hd : g 8 ≠ 8) (h7 : 0 ≤ g 7) (hs : s9 = 5) (e7 : g' 7 = g 7 + 3) (e8 : g' 8 = g 8 + 1) (e15 : g' 15 = g 15) (f5 : a' 5 = a 5) (e4 : g' 4 = scn (bB T) n (g 2)) (eT : a' 2 = up (up (up (a 2) (g 7) (12)) (g 7 + 1) (141)) (g 7 + 2) (1)) : stp T n (g 4, s9 :: stkl (a 2) (g 7).toNat, g 8, bgn (a 5), g 15) = .inl (cfR g' a') := by
  subst hs
  have hE : g 2 = ten T n (g 4) := tkR_e hT (by omega)
  have hK := tkR_sg hT (by omega)
  have hL : stkl (a' 2) (g' 7).toNat = 1 :: 141 :: 12 :: stkl (a 2) (g 7).toNat := by
    rw [eT, e7]
    rw [show g 7 + 3 = g 7 + 2 + 1 by omega]
    rw [stk_p (by omega) (by omega)]
    rw [show g 7 + 2 = g 7 + 1 + 1 by omega]
    rw [stk_p (by omega) (by omega)]
    rw [stk_p (by omega) (by omega)]
  exact (sq_5p (by omega) hd).trans (congrArg Sum.inl (cfR_eq (tnx_of hE e4) hL e8 (by rw [f5]) e15).symm)
theorem nt_10n {T : Int → Int} {n : Int} {g g' : Nat → Int} {a a' : Nat → Int → Int} {s9 : Int} (hT : tkR T n g a) (hk : g 3 = 2 ∧ g 5 = 27) (hd : g 8 ≠ 8) (h7 : 0 ≤ g 7) (hs : s9 = 10) (e7 : g' 7 = g 7 + 3) (e8 : g' 8 = g 8 + 1) (e15 : g' 15 = g 15) (f5 : a' 5 = a 5) (e4 : g' 4 = scn (bB T) n (g 2)) (eT : a' 2 = up (up (up (a 2) (g 7) (12)) (g 7 + 1) (1011)) (g 7 + 2) (10)) : stp T n (g 4, s9 :: stkl (a 2) (g 7).toNat, g 8, bgn (a 5), g 15) = .inl (cfR g' a') := by
  subst hs
  have hE : g 2 = ten T n (g 4) := tkR_e hT (by omega)
  have hW := tkR_wo hT
  have hL : stkl (a' 2) (g' 7).toNat = 10 :: 12 :: stkl (a 2) (g 7).toNat := by
    rw [eT, e7]
    rw [show g 7 + 3 = g 7 + 2 + 1 by omega]
    rw [stk_p (by omega) (by omega)]
    rw [show g 7 + 2 = g 7 + 1 + 1 by omega]
    rw [stk_d (by omega) (by omega)]
    rw [stk_p (by omega) (by omega)]
  exact (sq_10n (by omega) hd).trans (congrArg Sum.inl (cfR_eq (tnx_of hE e4) hL e8 (by rw [f5]) e15).symm)
theorem nt_10b {T : Int → Int} {n : Int} {g g' : Nat → Int} {a a' : Nat → Int → Int} {s9 : Int} (hT : tkR T n g a) (hk : g 3 = 3 ∧ (g 5 = 91)) (hd : g 8 ≠ 8) (h7 : 0 ≤ g 7) (hs : s9 = 10) (e7 : g' 7 = g 7 + 3) (e8 : g' 8 = g 8 + 1) (e15 : g' 15 = g 15) (f5 : a' 5 = a 5) (e4 : g' 4 = scn (bB T) n (g 2)) (eT : a' 2 = up (up (up (a 2) (g 7) (12)) (g 7 + 1) (193)) (g 7 + 2) (6)) : stp T n (g 4, s9 :: stkl (a 2) (g 7).toNat, g 8, bgn (a 5), g 15) = .inl (cfR g' a') := by
  subst hs
  have hE : g 2 = ten T n (g 4) := tkR_e hT (by omega)
  have hK := tkR_sg hT (by omega)
  have hL : stkl (a' 2) (g' 7).toNat = 6 :: 193 :: 12 :: stkl (a 2) (g 7).toNat := by
    rw [eT, e7]
    rw [show g 7 + 3 = g 7 + 2 + 1 by omega]
    rw [stk_p (by omega) (by omega)]
    rw [show g 7 + 2 = g 7 + 1 + 1 by omega]
    rw [stk_p (by omega) (by omega)]
    rw [stk_p (by omega) (by omega)]
  exact (sq_10k (by omega) hd).trans (congrArg Sum.inl (cfR_eq (tnx_of hE e4) hL e8 (by rw [f5]) e15).symm)
theorem nt_10 {T : Int → Int} {n : Int} {g g' : Nat → Int} {a a' : Nat → Int → Int} {s9 : Int} (hT : tkR T n g a) (hk : (g 3 ≠ 2 ∨ g 5 ≠ 27) ∧ (g 3 ≠ 3 ∨ g 5 ≠ 91)) (h7 : 0 ≤ g 7) (hs : s9 = 10) (e7 : g' 7 = g 7 + 2) (e8 : g' 8 = g 8 + 0) (e15 : g' 15 = g 15) (f5 : a' 5 = a 5) (e4 : g' 4 = g 4) (eT : a' 2 = up (up (a 2) (g 7) (11)) (g 7 + 1) (1)) : stp T n (g 4, s9 :: stkl (a 2) (g 7).toNat, g 8, bgn (a 5), g 15) = .inl (cfR g' a') := by
  subst hs
  have hK := fun k (hk0 : 40 ≤ k) (h : g 3 ≠ 3 ∨ g 5 ≠ k) => tkR_ns hT hk0 h
  have hW := tkR_wo hT
  have hL : stkl (a' 2) (g' 7).toNat = 1 :: 11 :: stkl (a 2) (g 7).toNat := by
    rw [eT, e7]
    rw [show g 7 + 2 = g 7 + 1 + 1 by omega]
    rw [stk_p (by omega) (by omega)]
    rw [stk_p (by omega) (by omega)]
  exact (sq_10c (by omega) (hK 91 (by omega) hk.2)).trans (congrArg Sum.inl (cfR_eq e4 hL (by omega) (by rw [f5]) e15).symm)
theorem nt_11 {T : Int → Int} {n : Int} {g g' : Nat → Int} {a a' : Nat → Int → Int} {s9 : Int} {x : Int} (h_x : 1002 ≤ x ∧ x ≤ 1010) (hT : tkR T n g a) (hk : g 3 = 3 ∧ (g 5 = 60 ∨ g 5 = 62 ∨ g 5 = 61)) (h7 : 0 ≤ g 7) (hs : s9 = 11) (e7 : g' 7 = g 7 + 2) (e8 : g' 8 = g 8 + 0) (e15 : g' 15 = g 15) (f5 : a' 5 = a 5) (e4 : g' 4 = scn (bB T) n (g 2)) (eT : a' 2 = up (up (a 2) (g 7) (x)) (g 7 + 1) (1)) : stp T n (g 4, s9 :: stkl (a 2) (g 7).toNat, g 8, bgn (a 5), g 15) = .inl (cfR g' a') := by
  subst hs
  have hE : g 2 = ten T n (g 4) := tkR_e hT (by omega)
  have hK := tkR_sg hT (by omega)
  have hL : stkl (a' 2) (g' 7).toNat = 1 :: stkl (a 2) (g 7).toNat := by
    rw [eT, e7]
    rw [show g 7 + 2 = g 7 + 1 + 1 by omega]
    rw [stk_p (by omega) (by omega)]
    rw [stk_d (by omega) (by omega)]
  exact (sq_11y (by omega)).trans (congrArg Sum.inl (cfR_eq (tnx_of hE e4) hL (by omega) (by rw [f5]) e15).symm)
theorem nt_12 {T : Int → Int} {n : Int} {g g' : Nat → Int} {a a' : Nat → Int → Int} {s9 : Int} (hT : tkR T n g a) (h7 : 0 ≤ g 7) (hs : s9 = 12) (e7 : g' 7 = g 7 + 0) (e8 : g' 8 = g 8 - 1) (e15 : g' 15 = g 15) (f5 : a' 5 = a 5) (e4 : g' 4 = g 4) (eT : a' 2 = a 2) : stp T n (g 4, s9 :: stkl (a 2) (g 7).toNat, g 8, bgn (a 5), g 15) = .inl (cfR g' a') := by
  subst hs
  have hL : stkl (a' 2) (g' 7).toNat = stkl (a 2) (g 7).toNat := by
    rw [eT, e7]
    rw [show g 7 + 0 = g 7 by omega]
  exact (sq_12).trans (congrArg Sum.inl (cfR_eq e4 hL e8 (by rw [f5]) e15).symm)
theorem nt_13 {T : Int → Int} {n : Int} {g g' : Nat → Int} {a a' : Nat → Int → Int} {s9 : Int} (hT : tkR T n g a) (h7 : 0 ≤ g 7) (hs : s9 = 13) (e7 : g' 7 = g 7 + 0) (e8 : g' 8 = g 8 + 0) (e15 : g' 15 = g 15) (f5 : a' 5 = a 5) (e4 : g' 4 = g 4) (eT : a' 2 = a 2) : stp T n (g 4, s9 :: stkl (a 2) (g 7).toNat, g 8, bgn (a 5), g 15) = .inl (cfR g' a') := by
  subst hs
  have hL : stkl (a' 2) (g' 7).toNat = stkl (a 2) (g 7).toNat := by
    rw [eT, e7]
    rw [show g 7 + 0 = g 7 by omega]
  exact (sq_13).trans (congrArg Sum.inl (cfR_eq e4 hL (by omega) (by rw [f5]) e15).symm)
theorem nt_g {s9 : Int} (hT : tkR T n g a) (hs : 100 ≤ s9) (hs1 : s9 < 1000) (hk : g 3 = 3 ∧ g 5 = s9 - 100) (e7 : g' 7 = g 7) (e8 : g' 8 = g 8) (e15 : g' 15 = g 15) (f5 : a' 5 = a 5) (e4 : g' 4 = scn (bB T) n (g 2)) (eT : a' 2 = a 2) : stp T n (g 4, s9 :: stkl (a 2) (g 7).toNat, g 8, bgn (a 5), g 15) = .inl (cfR g' a') := by
  have hK := tkR_sg hT hk.1
  exact (sq_gy hs (by omega)).trans (congrArg Sum.inl (cfR_eq (tnx_of (tkR_e hT (by omega)) e4) (by rw [eT, e7]) e8 (by rw [f5]) e15).symm)
theorem nf_g {s9 : Int} (hT : tkR T n g a) (hs : 140 ≤ s9) (hk : g 3 ≠ 3 ∨ g 5 ≠ s9 - 100) (e4 : g' 4 = g 4) : stp T n (g 4, s9 :: stkl (a 2) (g 7).toNat, g 8, bgn (a 5), g 15) = .inr (g' 4) := by
  rw [e4]; exact sq_gn (by omega) (tkR_ns hT (by omega) hk)
theorem nf_5 {s9 : Int} (hT : tkR T n g a) (hs : s9 = 5) (hk : (g 3 ≠ 1 ∨ 99999 < g 5) ∧ (g 3 ≠ 2 ∨ g 5 < 16 ∨ 24 < g 5) ∧ ((g 3 ≠ 3 ∨ g 5 ≠ 40) ∨ g 8 = 8)) (e4 : g' 4 = g 4) : stp T n (g 4, s9 :: stkl (a 2) (g 7).toNat, g 8, bgn (a 5), g 15) = .inr (g' 4) := by
  subst hs
  have hN := tkR_no hT
  have hW := tkR_wo hT
  have hS : tkd T n (g 4) ≠ 40 ∨ g 8 = 8 := by
    rcases hk.2.2 with q | q
    · exact Or.inl (tkR_ns hT (by omega) q)
    · exact Or.inr q
  rw [e4]; exact sq_5b (by omega)
theorem nf_10 {s9 : Int} (hT : tkR T n g a) (hs : s9 = 10) (hk : (g 3 = 2 ∧ g 5 = 27) ∨ (g 3 = 3 ∧ g 5 = 91)) (hd : g 8 = 8) (e4 : g' 4 = g 4) : stp T n (g 4, s9 :: stkl (a 2) (g 7).toNat, g 8, bgn (a 5), g 15) = .inr (g' 4) := by
  subst hs
  have hW := tkR_wo hT
  have hS : twd T n (g 4) = 27 ∨ tkd T n (g 4) = 91 := by
    rcases hk with q | q
    · exact Or.inl (by omega)
    · exact Or.inr (by rw [tkR_sg hT q.1]; exact q.2)
  rw [e4]; exact sq_10b hS hd
theorem nf_11 {s9 : Int} (hT : tkR T n g a) (hs : s9 = 11) (hk : g 3 ≠ 3 ∨ (g 5 ≠ 60 ∧ g 5 ≠ 62 ∧ g 5 ≠ 61)) (e4 : g' 4 = g 4) : stp T n (g 4, s9 :: stkl (a 2) (g 7).toNat, g 8, bgn (a 5), g 15) = .inr (g' 4) := by
  subst hs
  rw [e4]; exact sq_11n ⟨tkR_ns hT (by omega) (by omega), tkR_ns hT (by omega) (by omega), tkR_ns hT (by omega) (by omega)⟩
end TR

/-! ===== feed, end, sheet: the TEXT ===== -/
theorem zi8_m (x : Int) (h : rg x) : zi8 x % 256 = x % 256 := by
  unfold zi8
  rw [vp_nar_byte, Int8.toInt_toInt32, Int32.toInt_toInt8, iI_toInt h, Int.bmod_def]
  split <;> omega
theorem sgb_m {b : Int} (h : 0 ≤ b ∧ b ≤ 255) : sgb b % 256 = b := by
  unfold sgb
  split <;> omega
theorem zsu (x s : Int) (hs : s = 24 ∨ s = 16 ∨ s = 8 ∨ s = 0) : zi8 (zushr x s) % 256 = zi8 (zshr x s) % 256 := by
  have h1 : zi8 (zshr x s) = sgb (zand (zushr x s) 255) := by
    rcases hs with rfl | rfl | rfl | rfl
    · exact sgb_k x _ _ 24 (by omega) (by decide) (by decide)
    · exact sgb_k x _ _ 16 (by omega) (by decide) (by decide)
    · exact sgb_k x _ _ 8 (by omega) (by decide) (by decide)
    · exact sgb_k x _ _ 0 (by omega) (by decide) (by decide)
  have h2 : rg (zushr x s) := rg_of _
  rw [h1, sgb_m (zand_b (by omega) (by omega)), zand_255 h2, zi8_m _ h2]
def ap4 (T : Int → Int) (n w : Int) : Int → Int := fun i => if n ≤ i ∧ i < n + 4 then zi8 (zshr w (24 - 8 * (i - n))) % 256 else T i
def fdT (T : Int → Int) (n a b c d e : Int) : Int → Int := ap4 (ap4 (ap4 (ap4 (ap4 T n a) (n + 4) b) (n + 8) c) (n + 12) d) (n + 16) e
theorem fd_5 {x0 x1 x2 x3 x4 x5 : Int → Int} {n n1 n2 n3 n4 a b c d e : Int} (e1 : x1 = ap4 x0 n a) (e2 : x2 = ap4 x1 n1 b) (e3 : x3 = ap4 x2 n2 c) (e4 : x4 = ap4 x3 n3 d) (e5 : x5 = ap4 x4 n4 e) (h1 : n1 = n + 4) (h2 : n2 = n + 8) (h3 : n3 = n + 12) (h4 : n4 = n + 16) : x5 = fdT x0 n a b c d e := by
  subst e1 e2 e3 e4 h1 h2 h3 h4
  exact e5
def apI (w n k : Int) (f f0 : Int → Int) : Prop := ∀ i : Int, f i % 256 = if n ≤ i ∧ i < k then zi8 (zshr w (24 - 8 * (i - n))) % 256 else f0 i % 256
theorem apI_0 {w n : Int} {f : Int → Int} : apI w n n f f := fun i => by rw [if_neg (by omega)]
theorem apI_s {w n k k' y s : Int} {f f' f0 : Int → Int} (h : apI w n k f f0) (hn : n ≤ k) (ek : k' = k + 1) (e : ∀ i, f' i = if i = k then y else f i) (hy : y = zi8 (zushr w s)) (hs : s = 24 - 8 * (k - n)) (h4 : s = 24 ∨ s = 16 ∨ s = 8 ∨ s = 0) : apI w n k' f' f0 := fun i => by
  rw [e]
  by_cases q : i = k
  · rw [if_pos q, if_pos (by omega), hy, zsu _ _ h4, q, ← hs]
  · rw [if_neg q, h i]
    by_cases z : n ≤ i ∧ i < k
    · rw [if_pos z, if_pos (by omega)]
    · rw [if_neg z, if_neg (by omega)]
theorem apI_e {w n k A p : Int} {u v : Int → Int → Int} (h : apI w n k (u A) (v A)) (e0 : u p 0 = A) (e1 : v p 0 = A) (hn : n = v p 1) (hk : u p 1 = k) (h4 : k = n + 4) (n0 : 0 ≤ n) : xTT u p = ap4 (xTT v p) n w := by
  funext i
  unfold xTT ap4
  dsimp only
  rw [e0, e1, hk, ← hn]
  by_cases z : n ≤ i ∧ i < n + 4
  · rw [if_pos z, if_pos (by omega), h i, if_pos (by omega)]
  · rw [if_neg z]
    by_cases q : 0 ≤ i ∧ i < n
    · rw [if_pos (by omega), if_pos q, h i, if_neg (by omega)]
    · rw [if_neg (by omega), if_neg q]
/-! the two TEXTS are one -/
section TX
variable {L : List Nat} {K : Int → Nat} {N : Int → Int} {v v1 : Int → Int → Int} {W : List (Nat × Int)} {z0 : Int} {g g' : Nat → Int} {a a' : Nat → Int → Int}
def rTxt (v : Int → Int → Int) (z0 : Int) (g : Nat → Int) (a : Nat → Int → Int) : Prop := v (v z0 2) 1 = g 1 ∧ xTT v (v z0 2) = rTT g a
theorem xTT_fr (hI : xI L K N v) (hz : ok L K z0 12) (f : frE L K W v1 v) (w2 : inW W 12 2 = false) (w1 : inW W 7 1 = false) (w0 : inW W 7 0 = false) (w20 : ∀ j, inW W 20 j = false) : v1 (v1 z0 2) 1 = v (v z0 2) 1 ∧ xTT v1 (v1 z0 2) = xTT v (v z0 2) := by
  have o7 := xf_12_2 hI hz
  have e2 := frE_use hz f w2
  have e1 := frE_use o7 f w1
  have e0 := frE_use o7 f w0
  rw [e2]
  refine ⟨e1, funext fun i => ?_⟩
  unfold xTT
  rw [e1, e0, frE_use (xf_7_0 hI o7) f (w20 i)]
theorem rTxt_x (hI : xI L K N v) (hz : ok L K z0 12) (f : frE L K W v1 v) (w2 : inW W 12 2 = false) (w1 : inW W 7 1 = false) (w0 : inW W 7 0 = false) (w20 : ∀ j, inW W 20 j = false) (h : rTxt v z0 g a) : rTxt v1 z0 g a := by
  have q := xTT_fr hI hz f w2 w1 w0 w20
  exact ⟨q.1.trans h.1, q.2.trans h.2⟩
theorem rTT_m (e1 : g' 1 = g 1) (e : a' 1 = a 1) : rTT g' a' = rTT g a := by unfold rTT; rw [e1, e]
theorem rTxt_m (e1 : g' 1 = g 1) (e : a' 1 = a 1) (h : rTxt v z0 g a) : rTxt v z0 g' a' := ⟨h.1.trans e1.symm, h.2.trans (rTT_m e1 e).symm⟩
theorem rTxt_fd {p1 p2 p3 p4 p5 : Int} (hz : ok L K z0 12) (f : frE L K W v1 v) (w2 : inW W 12 2 = false) (e : xTT v1 (v z0 2) = fdT (xTT v (v z0 2)) (v (v z0 2) 1) p1 p2 p3 p4 p5) (e' : rTT g' a' = fdT (rTT g a) (g 1) p1 p2 p3 p4 p5) (hs : v1 (v1 z0 2) 1 = g' 1) (h : rTxt v z0 g a) : rTxt v1 z0 g' a' := by
  have e2 := frE_use hz f w2
  refine ⟨hs, ?_⟩
  rw [e2, e, e', h.2, h.1]
theorem rTxt_sm (hz : ok L K z0 12) (f : frE L K W v1 v) (w2 : inW W 12 2 = false) (e : xTT v1 (v z0 2) = xTT v (v z0 2)) (hs : v1 (v1 z0 2) 1 = v (v z0 2) 1) (e1 : g' 1 = g 1) (e' : a' 1 = a 1) (h : rTxt v z0 g a) : rTxt v1 z0 g' a' := by
  have e2 := frE_use hz f w2
  exact ⟨by rw [hs, e1]; exact h.1, by rw [e2, e, rTT_m e1 e']; exact h.2⟩
theorem rTxt_en {k : Int} (hI : xI L K N v) (hz : ok L K z0 12) (e : v1 = vu v (v z0 2) 1 k) (k0 : 0 ≤ k) (k1 : k ≤ g 1) (e1 : g' 1 = k) (e' : a' 1 = a 1) (h : rTxt v z0 g a) : rTxt v1 z0 g' a' := by
  have o7 := xf_12_2 hI hz
  have o20 := xf_7_0 hI o7
  have n1 := ok_ne hz o7 (by decide)
  have n2 := ok_ne o20 o7 (by decide)
  have c1 : v1 z0 2 = v z0 2 := by rw [e, vu_ne _ (fun q => n1 q.1)]
  have c2 : v1 (v z0 2) 1 = k := by rw [e, vu_self]
  have c3 : v1 (v z0 2) 0 = v (v z0 2) 0 := by rw [e, vu_ne _ (fun q => absurd q.2 (by decide))]
  have c4 : ∀ i, v1 (v (v z0 2) 0) i = v (v (v z0 2) 0) i := fun i => by rw [e, vu_ne _ (fun q => n2 q.1)]
  refine ⟨by rw [c1, c2, e1], funext fun i => ?_⟩
  have q := congrFun h.2 i
  have hs := h.1
  unfold xTT rTT at q ⊢
  rw [c1, c2, c3, c4, e1, e']
  rw [hs] at q
  by_cases z : 0 ≤ i ∧ i < k
  · rw [if_pos z, if_pos z]
    rw [if_pos (by omega), if_pos (by omega)] at q; exact q
  · rw [if_neg z, if_neg z]
theorem rTxt_i (e : v (v z0 2) 1 = 0) (e1 : g 1 = 0) : rTxt v z0 g a := by
  refine ⟨by rw [e, e1], funext fun i => ?_⟩
  unfold xTT rTT
  rw [e, e1, if_neg (by omega), if_neg (by omega)]
theorem rTxt_0 (hz : ok L K z0 12) (f : frE L K W v1 v) (w2 : inW W 12 2 = false) (e : v1 (v1 z0 2) 1 = 0) (e1 : g' 1 = 0) : rTxt v1 z0 g' a' := by
  refine ⟨by rw [e, e1], funext fun i => ?_⟩
  unfold xTT rTT
  rw [e, e1, if_neg (by omega), if_neg (by omega)]
theorem rTxt_ok (hI : xI L K N v) (hz : ok L K z0 12) (f : frE L K W v1 v) (w2 : inW W 12 2 = false) (w0 : inW W 7 0 = false) (w20 : ∀ j, inW W 20 j = false) (hs : v1 (v1 z0 2) 1 = v (v z0 2) 1) (e1 : g' 1 = g 1) (e' : a' 1 = a 1) (h : rTxt v z0 g a) : rTxt v1 z0 g' a' := by
  have o7 := xf_12_2 hI hz
  have e2 := frE_use hz f w2
  have e0 := frE_use o7 f w0
  refine ⟨by rw [hs, e1]; exact h.1, ?_⟩
  rw [e2] at hs
  rw [e2, rTT_m e1 e', ← h.2]
  funext i
  unfold xTT
  rw [hs, e0, frE_use (xf_7_0 hI o7) f (w20 i)]
/-- FAULT: ours is one of the steps' ends, the reference's the only one -/
theorem flt_tie {x y : Int} (h : rTxt v z0 g a) (hx : Runs (xTT v (v z0 2)) (v (v z0 2) 1) (cf0 (xTT v (v z0 2)) (v (v z0 2) 1)) x) (hy : ∀ r, Runs (rTT g a) (g 1) (cf0 (rTT g a) (g 1)) r → r = y) : x = y := by
  rw [h.2, h.1] at hx
  exact hy x hx
/-- sheet -/
def shX (v : Int → Int → Int) (z0 z : Int) : Prop := (12 ≤ v (v z0 3) 1 ∧ z = -1) ∨ (v (v z0 3) 1 < 12 ∧ ∃ r, Runs (xTT v (v z0 2)) (v (v z0 2) 1) (cf0 (xTT v (v z0 2)) (v (v z0 2) 1)) r ∧ ((r ≠ -1 ∧ z = -1) ∨ (r = -1 ∧ z = v (v z0 3) 1)))
def shM (g : Nat → Int) (a : Nat → Int → Int) (z : Int) : Prop := (g 18 = 12 ∧ z = -1) ∨ (g 18 ≠ 12 ∧ ∃ y, (∀ r, Runs (rTT g a) (g 1) (cf0 (rTT g a) (g 1)) r → r = y) ∧ ((y ≠ -1 ∧ z = -1) ∨ (y = -1 ∧ z = g 18)))
theorem shX_r {r z : Int} (h : Runs (xTT v (v z0 2)) (v (v z0 2) 1) (cf0 (xTT v (v z0 2)) (v (v z0 2) 1)) r) (hc : v (v z0 3) 1 < 12) (q : (r ≠ -1 ∧ z = -1) ∨ (r = -1 ∧ z = v (v z0 3) 1)) : shX v z0 z := Or.inr ⟨hc, r, h, q⟩
theorem shM_r {y z : Int} (h : ∀ r, Runs (rTT g a) (g 1) (cf0 (rTT g a) (g 1)) r → r = y) (hc : g 18 ≠ 12) (q : (y ≠ -1 ∧ z = -1) ∨ (y = -1 ∧ z = g 18)) : shM g a z := Or.inr ⟨hc, y, h, q⟩
theorem sh_tie {x y : Int} (h : rTxt v z0 g a) (hs : v (v z0 3) 1 = g 18) (hb : 0 ≤ g 18 ∧ g 18 ≤ 12) (hx : shX v z0 x) (hy : shM g a y) : x = y := by
  rcases hx with ⟨h1, h2⟩ | ⟨h1, r, hr, h2⟩
  · rcases hy with ⟨g1, g2⟩ | ⟨g1, -⟩
    · omega
    · omega
  · rcases hy with ⟨g1, g2⟩ | ⟨g1, y', hy', g2⟩
    · omega
    · have := flt_tie h hr hy'
      omega
end TX
/-! the reference's feed -/
def fdB (a b c d e k : Int) : Int := zi8 (zshr (if k < 4 then a else if k < 8 then b else if k < 12 then c else if k < 16 then d else e) (24 - 8 * (k % 4)))
theorem fdB_of {a b c d e k w : Int} (h : (k < 4 ∧ w = a) ∨ (4 ≤ k ∧ k < 8 ∧ w = b) ∨ (8 ≤ k ∧ k < 12 ∧ w = c) ∨ (12 ≤ k ∧ k < 16 ∧ w = d) ∨ (16 ≤ k ∧ w = e)) : zi8 (zshr w (24 - 8 * (k % 4))) = fdB a b c d e k := by
  unfold fdB
  rcases h with ⟨h1, h2⟩ | ⟨h1, h2, h3⟩ | ⟨h1, h2, h3⟩ | ⟨h1, h2, h3⟩ | ⟨h1, h3⟩
  · rw [if_pos h1, h2]
  · rw [if_neg (by omega), if_pos h2, h3]
  · rw [if_neg (by omega), if_neg (by omega), if_pos h2, h3]
  · rw [if_neg (by omega), if_neg (by omega), if_neg (by omega), if_pos h2, h3]
  · rw [if_neg (by omega), if_neg (by omega), if_neg (by omega), if_neg (by omega), h3]
def fdI (a b c d e n k : Int) (f f0 : Int → Int) : Prop := ∀ i : Int, f i % 256 = if n ≤ i ∧ i < n + k then fdB a b c d e (i - n) % 256 else f0 i % 256
theorem fdI_0 {a b c d e n k : Int} {f f0 : Int → Int} (hk : k = 0) (hf : f = f0) : fdI a b c d e n k f f0 := fun i => by rw [if_neg (by omega), hf]
theorem fdI_s {a b c d e n k k' m y : Int} {f f' f0 : Int → Int} (h : fdI a b c d e n k f f0) (k0 : 0 ≤ k) (ek : k' = k + 1) (hm : m = n + k) (ef : f' = up f m y) (hy : y = fdB a b c d e k) : fdI a b c d e n k' f' f0 := fun i => by
  rw [ef]
  by_cases q : i = m
  · rw [q, up_self, if_pos (by omega), hy, show m - n = k by omega]
  · rw [up_ne _ _ q, h i]
    by_cases z : n ≤ i ∧ i < n + k
    · rw [if_pos z, if_pos (by omega)]
    · rw [if_neg z, if_neg (by omega)]
theorem fdI_e {p1 p2 p3 p4 p5 n k : Int} {g g' : Nat → Int} {a a' : Nat → Int → Int} (h : fdI p1 p2 p3 p4 p5 n k (a' 1) (a 1)) (hk : k = 20) (hn : n = g 1) (hg : g' 1 = n + 20) (n0 : 0 ≤ n) : rTT g' a' = fdT (rTT g a) n p1 p2 p3 p4 p5 := by
  funext i
  unfold rTT fdT ap4
  dsimp only
  rw [hg, ← hn]
  have q := h i
  rw [hk] at q
  unfold fdB at q
  by_cases z : n ≤ i ∧ i < n + 20
  · rw [if_pos (by omega), q, if_pos z]
    by_cases z5 : n + 16 ≤ i
    · rw [if_pos (show n + 16 ≤ i ∧ i < n + 16 + 4 by omega), if_neg (by omega), if_neg (by omega), if_neg (by omega), if_neg (by omega), show 24 - 8 * ((i - n) % 4) = 24 - 8 * (i - (n + 16)) by omega]
    · rw [if_neg (show ¬ (n + 16 ≤ i ∧ i < n + 16 + 4) by omega)]
      by_cases z4 : n + 12 ≤ i
      · rw [if_pos (show n + 12 ≤ i ∧ i < n + 12 + 4 by omega), if_neg (by omega), if_neg (by omega), if_neg (by omega), if_pos (by omega), show 24 - 8 * ((i - n) % 4) = 24 - 8 * (i - (n + 12)) by omega]
      · rw [if_neg (show ¬ (n + 12 ≤ i ∧ i < n + 12 + 4) by omega)]
        by_cases z3 : n + 8 ≤ i
        · rw [if_pos (show n + 8 ≤ i ∧ i < n + 8 + 4 by omega), if_neg (by omega), if_neg (by omega), if_pos (by omega), show 24 - 8 * ((i - n) % 4) = 24 - 8 * (i - (n + 8)) by omega]
        · rw [if_neg (show ¬ (n + 8 ≤ i ∧ i < n + 8 + 4) by omega)]
          by_cases z2 : n + 4 ≤ i
          · rw [if_pos (show n + 4 ≤ i ∧ i < n + 4 + 4 by omega), if_neg (by omega), if_pos (by omega), show 24 - 8 * ((i - n) % 4) = 24 - 8 * (i - (n + 4)) by omega]
          · rw [if_neg (show ¬ (n + 4 ≤ i ∧ i < n + 4 + 4) by omega), if_pos (show n ≤ i ∧ i < n + 4 by omega), if_pos (by omega), show 24 - 8 * ((i - n) % 4) = 24 - 8 * (i - n) by omega]
  · rw [if_neg (show ¬ (n + 16 ≤ i ∧ i < n + 16 + 4) by omega), if_neg (show ¬ (n + 12 ≤ i ∧ i < n + 12 + 4) by omega), if_neg (show ¬ (n + 8 ≤ i ∧ i < n + 8 + 4) by omega), if_neg (show ¬ (n + 4 ≤ i ∧ i < n + 4 + 4) by omega), if_neg (show ¬ (n ≤ i ∧ i < n + 4) by omega)]
    by_cases w : 0 ≤ i ∧ i < n
    · rw [if_pos (by omega), if_pos w, q, if_neg z]
    · rw [if_neg (by omega), if_neg w]
section SB
variable {p : Program} {l : Launch} {e : Env} {R : Room} {s : State} {m : MethodId} {args : Array Value} {below : List Frame} {meth : Method} {c : Code} {H : Heap} {locs : List Loc} {cells slots : Nat} {Q : State → Prop}
variable {cc : ByteArray} {pc : Nat} {ls : Array Slot} {rest : List Value} {dC : Nat → ClassId} {dI : Nat → Nat → Nat} {A : Nat → Prop} {ad : Nat → Nat} {ca : Nat → ClassId} {g : Nat → Int} {a : Nat → Int → Int} {H0 : Heap} {z v : Int}
theorem sb_text (hx : p.tables.exec = Jvm.exec) (hb : c.code = cc) (hK : va_K (dC, dI) vwCl (mT ca) s) (hP : va_P (dC, dI) vwCl (mG ad ca g a) H) (hD : va_D A (mG ad ca g a)) (hS : va_S A H0 H locs) (hI : mI g a) (h0 : 0 ≤ z) (h1 : z < 600) (h2 : -128 ≤ v) (h3 : v ≤ 127) (hdg : decode cc pc = .ok (.bastore, 1)) (k : ∀ (a1 : Nat → Int → Int) (H1 : Heap) (locs1 : List Loc), (∀ j, j ≠ 1 → a1 j = a j) → a1 1 = up (a 1) z v → mI g a1 → va_P (dC, dI) vwCl (mG ad ca g a1) H1 → va_D A (mG ad ca g a1) → va_S A H0 H1 locs1 → W p l e R s m args below meth c H1 locs1 cells slots Q (F0 m (pc + 1) ls rest)) : W p l e R s m args below meth c H locs cells slots Q (F0 m pc ls (.int (iI v) :: .int (iI z) :: .ref (ad 1) :: rest)) := by
  refine va_bast (f := ar (a 1)) (n := 600) hx hb hK hP hD hS 1 0 rfl rfl (xi_in h0 h1 (by decide)) hdg (fun H1 locs1 hP hD hS => ?_)
  rw [nv_byteR h2 h3, ar_up h0 (by omega)] at hP hD
  exact k (sA a 1 (up (a 1) z v)) H1 locs1 (fun j h => sA_ne a _ h) (sA_self a 1 _) (mI_a hI (fun j h => sA_ne a _ h) (sA_self a 1 _) h2 h3) hP hD hS
end SB
section XE
variable {p : Program} {l : Launch} {e : Env} {R : Room} {s : State} {m : MethodId} {args : Array Value} {below : List Frame} {meth : Method} {c : Code} {H : Heap} {locs : List Loc} {cells slots : Nat} {Q : State → Prop}
variable {cc : ByteArray} {pc : Nat} {ls : Array Slot} {rest : List Value} {dC : Nat → ClassId} {dI : Nat → Nat → Nat} {A : Nat → Prop} {H0 : Heap} {L : List Nat} {cid : Nat → ClassId} {K : Int → Nat} {N : Int → Int} {v : Int → Int → Int} {z y i : Int}
theorem sxE_20 (hx : p.tables.exec = Jvm.exec) (hb : c.code = cc) (hK : va_K (dC, dI) vwCl (xT cid) s) (hP : va_P (dC, dI) vwCl (xG L cid K N v) H) (hD : va_D A (xG L cid K N v)) (hS : va_S A H0 H locs) (hI : xI L K N v) (hk : ok L K z 20) (h0 : 0 ≤ i) (h1 : i < N z) (hn : N z ≤ 2147483647) (hy : (-128) ≤ y ∧ y ≤ 127) (hdg : decode cc pc = .ok (.bastore, 1)) (kk : ∀ (v1 : Int → Int → Int) (H1 : Heap) (locs1 : List Loc), fr K [(20, -1)] v1 v → v1 z i = y → (∀ a j, ¬ (a = z ∧ j = i) → v1 a j = v a j) → xI L K N v1 → va_P (dC, dI) vwCl (xG L cid K N v1) H1 → va_D A (xG L cid K N v1) → va_S A H0 H1 locs1 → W p l e R s m args below meth c H1 locs1 cells slots Q (F0 m (pc + 1) ls rest)) : W p l e R s m args below meth c H locs cells slots Q (F0 m pc ls (.int (iI y) :: .int (iI i) :: .ref z.toNat :: rest)) := by
  have hD0 := hD
  obtain ⟨q0, hq⟩ := xg_at (cid := cid) (N := N) (v := v) hk
  refine va_bast (f := ar (v z)) (n := (N z).toNat) hx hb hK hP hD hS q0 1 hq rfl (xi_in h0 (by omega) (by omega)) hdg (fun H1 locs1 hP hD hS => ?_)
  rw [nv_byteR hy.1 hy.2, ar_up h0 (by omega)] at hP hD
  have hw : (xG L cid K N v).set q0 (z.toNat, .inl (cid 1, Int.toNat (N z), .inl (ar (up (v z) i y)))) = xG L cid K N (vu v z i y) := xg_set hk hD0 hq rfl
  rw [hw] at hP hD
  exact kk _ H1 locs1 (fr_va hk) (vu_self v z i y) (fun a j h => vu_ne v h) (xI_vu hI hk hy) hP hD hS
end XE

