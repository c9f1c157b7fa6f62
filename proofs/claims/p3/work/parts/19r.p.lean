/-! ===== the reference's reader: what is to come, and the code that it makes ===== -/
def lw (s : Int) : Int := if s = 12 then 1 else 0
def pw (s : Int) : Int := if 1000 ≤ s then 1 else 0
def ww (s : Int) : Int := if s = 1 then 5 else if s = 3 then 3 else if s = 6 then 11 else if s = 8 then 9 else if s = 10 then 7 else 1
def rkk (s : Int) : Int := if s = 0 ∨ s = 12 then 0 else if s = 6 ∨ s = 7 then 3 else if s = 8 ∨ s = 9 then 5 else if s = 10 ∨ s = 11 then 7 else if s = 1 ∨ s = 2 then 8 else if s = 3 ∨ s = 4 then 10 else if s = 5 then 12 else 15
def sval (s : Int) : Prop := (0 ≤ s ∧ s ≤ 13) ∨ (140 ≤ s ∧ s ≤ 300) ∨ (1002 ≤ s ∧ s ≤ 1011)
def dreq (s d : Int) : Prop := ((s = 2 ∨ s = 4 ∨ s = 7 ∨ s = 9 ∨ s = 11 ∨ s = 1011) → 1 ≤ d) ∧ ((1002 ≤ s ∧ s ≤ 1010) → 2 ≤ d)
def dnext (s d : Int) : Int := if s = 1 ∨ s = 3 ∨ s = 5 ∨ s = 6 ∨ s = 8 ∨ s = 10 then d + 1 else if 1002 ≤ s ∧ s ≤ 1010 then d - 1 else d
def sm (w T : Int → Int) : Nat → Int
  | 0 => 0
  | n + 1 => sm w T n + w (T (n : Int))
theorem sm_c (w : Int → Int) {T T' : Int → Int} : ∀ {n : Nat}, (∀ i : Nat, i < n → T' (i : Int) = T (i : Int)) → sm w T' n = sm w T n
  | 0, _ => rfl
  | n + 1, h => by
    unfold sm
    rw [sm_c w (fun i hi => h i (by omega)), h n (by omega)]
theorem sm_push (w T : Int → Int) {n : Int} (x : Int) (h : 0 ≤ n) : sm w (up T n x) (n + 1).toNat = sm w T n.toNat + w x := by
  rw [show (n + 1).toNat = n.toNat + 1 by omega]
  show sm w (up T n x) n.toNat + w (up T n x (n.toNat : Int)) = _
  rw [sm_c w (T := T) (fun i hi => up_ne _ _ (by omega)), Int.toNat_of_nonneg h, up_self]
theorem sm_pop (w T : Int → Int) {n : Int} (h : 0 ≤ n) : sm w T (n + 1).toNat = sm w T n.toNat + w (T n) := by
  rw [show (n + 1).toNat = n.toNat + 1 by omega]
  show sm w T n.toNat + w (T (n.toNat : Int)) = _
  rw [Int.toNat_of_nonneg h]
theorem sm_nn {w : Int → Int} (hw : ∀ s, 0 ≤ w s) (T : Int → Int) : ∀ n : Nat, 0 ≤ sm w T n
  | 0 => Int.le_refl _
  | n + 1 => by have := sm_nn hw T n; have := hw (T (n : Int)); unfold sm; omega
theorem lw_b (s : Int) : 0 ≤ lw s ∧ lw s ≤ 1 := by unfold lw; split <;> omega
theorem pw_b (s : Int) : 0 ≤ pw s ∧ pw s ≤ 1 := by unfold pw; split <;> omega
theorem ww_b (s : Int) : 1 ≤ ww s ∧ ww s ≤ 11 := by unfold ww; (repeat' split) <;> omega
theorem rkk_b (s : Int) : 0 ≤ rkk s ∧ rkk s ≤ 15 := by unfold rkk; (repeat' split) <;> omega
def rk (T : Int → Int) (n : Int) : Prop := ∀ i : Int, 0 ≤ i → i < n → i ≤ 16 * sm lw T (i + 1).toNat + rkk (T i)
theorem rk_push {T : Int → Int} {n x : Int} (h : 0 ≤ n) (hr : rk T n) (hx : n ≤ 16 * (sm lw T n.toNat + lw x) + rkk x) : rk (up T n x) (n + 1) := by
  intro i h0 h1
  by_cases q : i = n
  · subst q; rw [sm_push _ _ _ h, up_self]; exact hx
  · rw [sm_c lw (T := T) (fun k hk => up_ne _ _ (by omega)), up_ne _ _ q]; exact hr i h0 (by omega)
/-- from the top down: what the code made so far must leave, for what is to come -/
def dp (T : Int → Int) (q : Prop) : Nat → Int → Prop
  | 0, _ => True
  | n + 1, d => sval (T (n : Int)) ∧ dreq (T (n : Int)) d ∧ (T (n : Int) = 13 → q) ∧ (T (n : Int) = 0 → n = 0) ∧ dp T q n (dnext (T (n : Int)) d)
theorem dp_c {T T' : Int → Int} {q : Prop} : ∀ {n : Nat} {d : Int}, (∀ i : Nat, i < n → T' (i : Int) = T (i : Int)) → dp T q n d → dp T' q n d
  | 0, _, _, _ => trivial
  | n + 1, d, h, k => by
    unfold dp at k ⊢
    rw [h n (by omega)]
    exact ⟨k.1, k.2.1, k.2.2.1, k.2.2.2.1, dp_c (fun i hi => h i (by omega)) k.2.2.2.2⟩
def core (T : Int → Int) (q : Prop) (n D P W d : Int) : Prop := 0 ≤ n ∧ D = sm lw T n.toNat ∧ P = sm pw T n.toNat ∧ W = sm ww T n.toNat ∧ rk T n ∧ dp T q n.toNat d
theorem core_0 {T : Int → Int} {q : Prop} {d : Int} : core T q 0 0 0 0 d := ⟨by omega, rfl, rfl, rfl, fun i h0 h1 => by omega, trivial⟩
theorem core_pop {T : Int → Int} {q : Prop} {n D P W d s : Int} (h : core T q (n + 1) D P W d) (h0 : 0 ≤ n) (hs : T n = s) : core T q n (D - lw s) (P - pw s) (W - ww s) (dnext s d) ∧ dreq s d ∧ n ≤ 16 * D + rkk s ∧ (s = 13 → q) ∧ (s = 0 → n = 0) := by
  obtain ⟨-, h1, h2, h3, h4, h5⟩ := h
  rw [sm_pop _ _ h0, hs] at h1 h2 h3
  have h6 := h4 n h0 (by omega)
  rw [sm_pop _ _ h0, hs] at h6
  rw [show (n + 1).toNat = n.toNat + 1 by omega] at h5
  unfold dp at h5
  rw [Int.toNat_of_nonneg h0, hs] at h5
  exact ⟨⟨h0, by omega, by omega, by omega, fun i a b => h4 i a (by omega), h5.2.2.2.2⟩, h5.2.1, by omega, h5.2.2.1, fun e => by have := h5.2.2.2.1 e; omega⟩
theorem core_push {T : Int → Int} {q : Prop} {n D P W d d' x : Int} (h : core T q n D P W d') (hv : sval x) (hr : dreq x d) (hd : dnext x d = d') (hq : x = 13 → q) (hz : x = 0 → n = 0) (hx : n ≤ 16 * (D + lw x) + rkk x) : core (up T n x) q (n + 1) (D + lw x) (P + pw x) (W + ww x) d := by
  obtain ⟨h0, h1, h2, h3, h4, h5⟩ := h
  refine ⟨by omega, ?_, ?_, ?_, rk_push h0 h4 (by rw [← h1]; exact hx), ?_⟩
  · rw [sm_push _ _ _ h0, ← h1]
  · rw [sm_push _ _ _ h0, ← h2]
  · rw [sm_push _ _ _ h0, ← h3]
  · rw [show (n + 1).toNat = n.toNat + 1 by omega]
    unfold dp
    rw [Int.toNat_of_nonneg h0, up_self]
    exact ⟨hv, hr, hq, fun e => by have := hz e; omega, by rw [hd]; exact dp_c (fun i hi => up_ne _ _ (by omega)) h5⟩
/-- a row of code from b on: m steps, which leave d numbers -/
def cod (w x : Int → Int) (b : Int) : Nat → Int → Prop
  | 0, d => d = 0
  | n + 1, d => (w (b + n) = 0 ∧ cod w x b n (d - 1)) ∨ (w (b + n) = 1 ∧ 0 ≤ x (b + n) ∧ x (b + n) ≤ 8 ∧ cod w x b n (d - 1)) ∨ (w (b + n) = 11 ∧ 1 ≤ d ∧ cod w x b n d) ∨ (2 ≤ w (b + n) ∧ w (b + n) ≤ 10 ∧ 1 ≤ d ∧ cod w x b n (d + 1))
theorem cod_c {w w' x x' : Int → Int} {b b' : Int} : ∀ {n : Nat} {d : Int}, (∀ i : Nat, i < n → w' (b' + i) = w (b + i) ∧ x' (b' + i) = x (b + i)) → cod w x b n d → cod w' x' b' n d
  | 0, _, _, h => h
  | n + 1, d, h, k => by
    unfold cod at k ⊢
    have e := h n (by omega)
    rw [e.1, e.2]
    have r : ∀ {d' : Int}, cod w x b n d' → cod w' x' b' n d' := fun z => cod_c (fun i hi => h i (by omega)) z
    rcases k with k | k | k | k
    · exact Or.inl ⟨k.1, r k.2⟩
    · exact Or.inr (Or.inl ⟨k.1, k.2.1, k.2.2.1, r k.2.2.2⟩)
    · exact Or.inr (Or.inr (Or.inl ⟨k.1, k.2.1, r k.2.2⟩))
    · exact Or.inr (Or.inr (Or.inr ⟨k.1, k.2.1, k.2.2.1, r k.2.2.2⟩))
theorem cod_nn {w x : Int → Int} {b : Int} : ∀ {n : Nat} {d : Int}, cod w x b n d → 0 ≤ d ∧ d ≤ n
  | 0, d, h => by have : d = 0 := h; omega
  | n + 1, d, h => by
    unfold cod at h
    rcases h with k | k | k | k
    · have := cod_nn k.2; omega
    · have := cod_nn k.2.2.2; omega
    · have := cod_nn k.2.2; omega
    · have := cod_nn k.2.2.2; omega
/-- what one step of the code does to how many numbers there are -/
def dop (o y d d' : Int) : Prop := (o = 0 ∧ d' = d + 1) ∨ (o = 1 ∧ 0 ≤ y ∧ y ≤ 8 ∧ d' = d + 1) ∨ (o = 11 ∧ 1 ≤ d ∧ d' = d) ∨ (2 ≤ o ∧ o ≤ 10 ∧ 2 ≤ d ∧ d' = d - 1)
def cdp (w x : Int → Int) (b e d : Int) : Prop := 0 ≤ b ∧ b ≤ e ∧ cod w x b (e - b).toNat d
theorem cdp_emit {w x : Int → Int} {b e d d' o y : Int} (h : cdp w x b e d) (ho : dop o y d d') : cdp (up w e o) (up x e y) b (e + 1) d' := by
  obtain ⟨h0, h1, h2⟩ := h
  refine ⟨h0, by omega, ?_⟩
  rw [show (e + 1 - b).toNat = (e - b).toNat + 1 by omega]
  unfold cod
  have ei : b + (((e - b).toNat : Nat) : Int) = e := by omega
  rw [ei, up_self, up_self]
  have r : cod (up w e o) (up x e y) b (e - b).toNat d := cod_c (fun i hi => ⟨up_ne _ _ (by omega), up_ne _ _ (by omega)⟩) h2
  rcases ho with k | k | k | k
  · exact Or.inl ⟨k.1, by rw [k.2, show d + 1 - 1 = d by omega]; exact r⟩
  · exact Or.inr (Or.inl ⟨k.1, k.2.1, k.2.2.1, by rw [k.2.2.2, show d + 1 - 1 = d by omega]; exact r⟩)
  · exact Or.inr (Or.inr (Or.inl ⟨k.1, by omega, by rw [k.2.2]; exact r⟩))
  · exact Or.inr (Or.inr (Or.inr ⟨k.1, k.2.1, by omega, by rw [k.2.2.2, show d - 1 + 1 = d by omega]; exact r⟩))
theorem cdp_keep {w x : Int → Int} {b e d o y k : Int} (h : cdp w x b e d) (hk : e ≤ k) : cdp (up w k o) (up x k y) b e d :=
  ⟨h.1, h.2.1, cod_c (fun i hi => ⟨up_ne _ _ (by have := h.2.1; omega), up_ne _ _ (by have := h.2.1; omega)⟩) h.2.2⟩
theorem cdp_0 {w x : Int → Int} {b : Int} (h : 0 ≤ b) : cdp w x b b 0 := ⟨h, by omega, by rw [show (b - b).toNat = 0 by omega]; rfl⟩
/-- the slots of a TEXT: none, begun, or with a row of code -/
def slt (w x sb se : Int → Int) (dn : Int) : Prop := ∀ c : Int, 0 ≤ c → c < 14 → (sb c = -1 ∧ se c = -1) ∨ (0 ≤ sb c ∧ (se c ≤ sb c ∨ (se c ≤ dn ∧ ∃ d, cdp w x (sb c) (se c) d)))
theorem slt_emit {w x sb se : Int → Int} {dn o y : Int} (h : slt w x sb se dn) : slt (up w dn o) (up x dn y) sb se (dn + 1) := fun c h0 h1 => by
  rcases h c h0 h1 with k | k
  · exact Or.inl k
  · refine Or.inr ⟨k.1, ?_⟩
    rcases k.2 with q | ⟨q, d, r⟩
    · exact Or.inl q
    · exact Or.inr ⟨by omega, d, cdp_keep r q⟩
theorem slt_begin {w x sb se : Int → Int} {dn c : Int} (h : slt w x sb se dn) (hc : sb c = -1) (h0 : 0 ≤ c) (h1 : c < 14) (hd : 0 ≤ dn) : slt w x (up sb c dn) se dn := fun k k0 k1 => by
  by_cases e : k = c
  · subst e
    rw [up_self]
    rcases h k k0 k1 with q | q
    · exact Or.inr ⟨hd, Or.inl (by omega)⟩
    · omega
  · rw [up_ne _ _ e]; exact h k k0 k1
theorem slt_close {w x sb se : Int → Int} {dn c d : Int} (h : slt w x sb se dn) (hc : cdp w x (sb c) dn d) : slt w x sb (up se c dn) dn := fun k k0 k1 => by
  by_cases e : k = c
  · subst e
    rw [up_self]
    exact Or.inr ⟨hc.1, Or.inr ⟨by omega, d, hc⟩⟩
  · rw [up_ne _ _ e]; exact h k k0 k1
def skp (sa sl : Int → Int) (k : Int) : Prop := ∀ i : Int, 0 ≤ i → i < k → sa i + sl i ≤ 600
theorem skp_s {sa sl : Int → Int} {k x y : Int} (h : skp sa sl k) (hx : x + y ≤ 600) : skp (up sa k x) (up sl k y) (k + 1) := fun i h0 h1 => by
  by_cases e : i = k
  · subst e; rw [up_self, up_self]; exact hx
  · rw [up_ne _ _ e, up_ne _ _ e]; exact h i h0 (by omega)
def tkk (t : Int) : Int := if t = 0 then 0 else 1
theorem tkk_b (t : Int) : 0 ≤ tkk t ∧ tkk t ≤ 1 := by unfold tkk; split <;> omega
theorem tkk_0 {t : Int} (h : t ≠ 0) : tkk t = 1 := if_neg h
theorem tkk_z : tkk 0 = 0 := rfl
/-- the reader between two of its steps, with n to come -/
def rPn (g : Nat → Int) (a : Nat → Int → Int) (n : Int) : Prop := ∃ b d P W : Int, core (a 2) (a 5 (g 9) = b) n (g 8) P W d ∧ g 8 ≤ 8 ∧ g 12 + P + tkk (g 3) ≤ g 2 ∧ g 2 ≤ g 1 ∧ cdp (a 3) (a 4) b (g 12) d ∧ slt (a 3) (a 4) (a 5) (a 6) (g 12) ∧ skp (a 7) (a 8) (g 15)
def mz (g : Nat → Int) (a : Nat → Int → Int) (n : Int) : Int := 20 * (2 * (g 1 - g 2) + tkk (g 3)) + sm ww (a 2) n.toNat
/-- the TOKEN that is read: how far it goes -/
def nxt (g g' : Nat → Int) : Prop := g 2 ≤ g' 2 ∧ g' 2 ≤ g 1 ∧ (g' 3 = 0 ∨ g 2 + 1 ≤ g' 2)
theorem nxt_t {g g' : Nat → Int} (h : nxt g g') : g 2 + tkk (g' 3) ≤ g' 2 := by
  have := tkk_b (g' 3)
  rcases h.2.2 with q | q
  · rw [q, tkk_z]; have := h.1; omega
  · omega
theorem core_W {T : Int → Int} {q : Prop} {n D P W d : Int} (h : core T q n D P W d) : W = sm ww T n.toNat := h.2.2.2.1
theorem core_P {T : Int → Int} {q : Prop} {n D P W d : Int} (h : core T q n D P W d) : 0 ≤ P := by rw [h.2.2.1]; exact sm_nn (fun s => (pw_b s).1) _ _
theorem core_n {T : Int → Int} {q : Prop} {n D P W d : Int} (h : core T q n D P W d) : n ≤ 16 * D + 16 := by
  obtain ⟨h0, h1, -, -, h4, -⟩ := h
  by_cases e : n = 0
  · have := sm_nn (fun s => (lw_b s).1) T n.toNat; omega
  · have := h4 (n - 1) (by omega) (by omega)
    rw [show n - 1 + 1 = n by omega, ← h1] at this
    have := rkk_b (T (n - 1))
    omega

theorem sy_b {x : Int} (h : 1002 ≤ x ∧ x ≤ 1010) : lw x = 0 ∧ pw x = 1 ∧ ww x = 1 ∧ rkk x = 15 ∧ sval x := by
  refine ⟨?_, ?_, ?_, ?_, ?_⟩
  · unfold lw; rw [if_neg (by omega)]
  · unfold pw; rw [if_pos (by omega)]
  · unfold ww; (repeat' split) <;> omega
  · unfold rkk; (repeat' split) <;> omega
  · unfold sval; omega
/-- the code and its slots are as they were -/
def cs (g g' : Nat → Int) (a a' : Nat → Int → Int) : Prop := g' 9 = g 9 ∧ g' 12 = g 12 ∧ g' 15 = g 15 ∧ g' 1 = g 1 ∧ a' 3 = a 3 ∧ a' 4 = a 4 ∧ a' 5 = a 5 ∧ a' 6 = a 6 ∧ a' 7 = a 7 ∧ a' 8 = a 8
theorem core_e {T T' : Int → Int} {q : Prop} {n n' D D' P W d : Int} (h : core T q n D P W d) (eT : T' = T) (en : n' = n) (eD : D' = D) : core T' q n' D' P W d := by subst eT en eD; exact h
theorem pop_n {g : Nat → Int} {a : Nat → Int → Int} {s : Int} (h : rPn g a (g 7 + 1)) (h7 : 0 ≤ g 7) (hs : a 2 (g 7) = s) : ∃ b d P W : Int, core (a 2) (a 5 (g 9) = b) (g 7) (g 8 - lw s) P W (dnext s d) ∧ dreq s d ∧ g 7 ≤ 16 * g 8 + rkk s ∧ (s = 13 → a 5 (g 9) = b) ∧ (s = 0 → g 7 = 0) ∧ g 8 ≤ 8 ∧ g 12 + P + pw s + tkk (g 3) ≤ g 2 ∧ g 2 ≤ g 1 ∧ cdp (a 3) (a 4) b (g 12) d ∧ slt (a 3) (a 4) (a 5) (a 6) (g 12) ∧ skp (a 7) (a 8) (g 15) ∧ mz g a (g 7 + 1) = 20 * (2 * (g 1 - g 2) + tkk (g 3)) + W + ww s := by
  obtain ⟨b, d, P, W, c, h8, hat, h2, hcd, hsl, hk⟩ := h
  have hp := core_pop c h7 hs
  refine ⟨b, d, P - pw s, W - ww s, hp.1, hp.2.1, hp.2.2.1, hp.2.2.2.1, hp.2.2.2.2, h8, by omega, h2, hcd, hsl, hk, ?_⟩
  unfold mz
  rw [← core_W c]
  omega
theorem put_n {g g' : Nat → Int} {a a' : Nat → Int → Int} {b d P W M : Int} (hcs : cs g g' a a') (hc : core (a' 2) (a 5 (g 9) = b) (g' 7) (g' 8) P W d) (h8 : g' 8 ≤ 8) (hat : g 12 + P + tkk (g' 3) ≤ g' 2) (h2 : g' 2 ≤ g 1) (hcd : cdp (a 3) (a 4) b (g 12) d) (hs : slt (a 3) (a 4) (a 5) (a 6) (g 12)) (hk : skp (a 7) (a 8) (g 15)) (hM : 20 * (2 * (g 1 - g' 2) + tkk (g' 3)) + W < M) : rPn g' a' (g' 7) ∧ mz g' a' (g' 7) < M := by
  obtain ⟨e9, e12, e15, e1, f3, f4, f5, f6, f7, f8⟩ := hcs
  refine ⟨⟨b, d, P, W, by rw [f5, e9]; exact hc, h8, by rw [e12]; exact hat, by rw [e1]; exact h2, by rw [f3, f4, e12]; exact hcd, by rw [f3, f4, f5, f6, e12]; exact hs, by rw [f7, f8, e15]; exact hk⟩, ?_⟩
  unfold mz
  rw [← core_W hc, e1]
  exact hM
theorem st_1 {g g' : Nat → Int} {a a' : Nat → Int → Int} (h : rPn g a (g 7 + 1)) (h7 : 0 ≤ g 7) (hs : a 2 (g 7) = 1) (hc : cs g g' a a') (e7 : g' 7 = g 7 + 2) (e8 : g' 8 = g 8 + 0) (b8 : g' 8 ≤ 8) (e2 : g' 2 = g 2) (e3 : g' 3 = g 3) (eT : a' 2 = up (up (a 2) (g 7) (2)) (g 7 + 1) (3)) : rPn g' a' (g' 7) ∧ mz g' a' (g' 7) < mz g a (g 7 + 1) := by
  obtain ⟨b, d, P, W, c0, r0, k0, q0, z0, u8, uat, u2, ucd, us, uk, hM⟩ := pop_n h h7 hs
  have d0 := cod_nn ucd.2.2
  have l_1 : lw 1 = 0 := by decide
  have p_1 : pw 1 = 0 := by decide
  have w_1 : ww 1 = 5 := by decide
  have k_1 : rkk 1 = 8 := by decide
  have l_2 : lw 2 = 0 := by decide
  have p_2 : pw 2 = 0 := by decide
  have w_2 : ww 2 = 1 := by decide
  have k_2 : rkk 2 = 8 := by decide
  have l_3 : lw 3 = 0 := by decide
  have p_3 : pw 3 = 0 := by decide
  have w_3 : ww 3 = 3 := by decide
  have k_3 : rkk 3 = 10 := by decide
  have r1 : dnext 1 d = d + 1 := by unfold dnext; (repeat' split) <;> omega
  rw [r1] at c0
  unfold dreq at r0
  have c1 := core_push (x := 2) (d := d + 1) c0 (by unfold sval; omega) (by unfold dreq; omega) (by unfold dnext; (repeat' split) <;> omega) (by omega) (by omega) (by omega)
  have c2 := core_push (x := 3) (d := d + 0) c1 (by unfold sval; omega) (by unfold dreq; omega) (by unfold dnext; (repeat' split) <;> omega) (by omega) (by omega) (by omega)
  rw [show d + 0 = d by omega] at c2
  rw [← e3, ← e2] at hM uat
  rw [← e2] at u2
  refine put_n hc (core_e c2 eT (by omega) (by omega)) b8 (by omega) (by omega) ucd us uk (by rw [hM]; omega)
theorem st_3 {g g' : Nat → Int} {a a' : Nat → Int → Int} (h : rPn g a (g 7 + 1)) (h7 : 0 ≤ g 7) (hs : a 2 (g 7) = 3) (hc : cs g g' a a') (e7 : g' 7 = g 7 + 2) (e8 : g' 8 = g 8 + 0) (b8 : g' 8 ≤ 8) (e2 : g' 2 = g 2) (e3 : g' 3 = g 3) (eT : a' 2 = up (up (a 2) (g 7) (4)) (g 7 + 1) (5)) : rPn g' a' (g' 7) ∧ mz g' a' (g' 7) < mz g a (g 7 + 1) := by
  obtain ⟨b, d, P, W, c0, r0, k0, q0, z0, u8, uat, u2, ucd, us, uk, hM⟩ := pop_n h h7 hs
  have d0 := cod_nn ucd.2.2
  have l_3 : lw 3 = 0 := by decide
  have p_3 : pw 3 = 0 := by decide
  have w_3 : ww 3 = 3 := by decide
  have k_3 : rkk 3 = 10 := by decide
  have l_4 : lw 4 = 0 := by decide
  have p_4 : pw 4 = 0 := by decide
  have w_4 : ww 4 = 1 := by decide
  have k_4 : rkk 4 = 10 := by decide
  have l_5 : lw 5 = 0 := by decide
  have p_5 : pw 5 = 0 := by decide
  have w_5 : ww 5 = 1 := by decide
  have k_5 : rkk 5 = 12 := by decide
  have r1 : dnext 3 d = d + 1 := by unfold dnext; (repeat' split) <;> omega
  rw [r1] at c0
  unfold dreq at r0
  have c1 := core_push (x := 4) (d := d + 1) c0 (by unfold sval; omega) (by unfold dreq; omega) (by unfold dnext; (repeat' split) <;> omega) (by omega) (by omega) (by omega)
  have c2 := core_push (x := 5) (d := d + 0) c1 (by unfold sval; omega) (by unfold dreq; omega) (by unfold dnext; (repeat' split) <;> omega) (by omega) (by omega) (by omega)
  rw [show d + 0 = d by omega] at c2
  rw [← e3, ← e2] at hM uat
  rw [← e2] at u2
  refine put_n hc (core_e c2 eT (by omega) (by omega)) b8 (by omega) (by omega) ucd us uk (by rw [hM]; omega)
theorem st_6 {g g' : Nat → Int} {a a' : Nat → Int → Int} (h : rPn g a (g 7 + 1)) (h7 : 0 ≤ g 7) (hs : a 2 (g 7) = 6) (hc : cs g g' a a') (e7 : g' 7 = g 7 + 2) (e8 : g' 8 = g 8 + 0) (b8 : g' 8 ≤ 8) (e2 : g' 2 = g 2) (e3 : g' 3 = g 3) (eT : a' 2 = up (up (a 2) (g 7) (7)) (g 7 + 1) (8)) : rPn g' a' (g' 7) ∧ mz g' a' (g' 7) < mz g a (g 7 + 1) := by
  obtain ⟨b, d, P, W, c0, r0, k0, q0, z0, u8, uat, u2, ucd, us, uk, hM⟩ := pop_n h h7 hs
  have d0 := cod_nn ucd.2.2
  have l_6 : lw 6 = 0 := by decide
  have p_6 : pw 6 = 0 := by decide
  have w_6 : ww 6 = 11 := by decide
  have k_6 : rkk 6 = 3 := by decide
  have l_7 : lw 7 = 0 := by decide
  have p_7 : pw 7 = 0 := by decide
  have w_7 : ww 7 = 1 := by decide
  have k_7 : rkk 7 = 3 := by decide
  have l_8 : lw 8 = 0 := by decide
  have p_8 : pw 8 = 0 := by decide
  have w_8 : ww 8 = 9 := by decide
  have k_8 : rkk 8 = 5 := by decide
  have r1 : dnext 6 d = d + 1 := by unfold dnext; (repeat' split) <;> omega
  rw [r1] at c0
  unfold dreq at r0
  have c1 := core_push (x := 7) (d := d + 1) c0 (by unfold sval; omega) (by unfold dreq; omega) (by unfold dnext; (repeat' split) <;> omega) (by omega) (by omega) (by omega)
  have c2 := core_push (x := 8) (d := d + 0) c1 (by unfold sval; omega) (by unfold dreq; omega) (by unfold dnext; (repeat' split) <;> omega) (by omega) (by omega) (by omega)
  rw [show d + 0 = d by omega] at c2
  rw [← e3, ← e2] at hM uat
  rw [← e2] at u2
  refine put_n hc (core_e c2 eT (by omega) (by omega)) b8 (by omega) (by omega) ucd us uk (by rw [hM]; omega)
theorem st_8 {g g' : Nat → Int} {a a' : Nat → Int → Int} (h : rPn g a (g 7 + 1)) (h7 : 0 ≤ g 7) (hs : a 2 (g 7) = 8) (hc : cs g g' a a') (e7 : g' 7 = g 7 + 2) (e8 : g' 8 = g 8 + 0) (b8 : g' 8 ≤ 8) (e2 : g' 2 = g 2) (e3 : g' 3 = g 3) (eT : a' 2 = up (up (a 2) (g 7) (9)) (g 7 + 1) (10)) : rPn g' a' (g' 7) ∧ mz g' a' (g' 7) < mz g a (g 7 + 1) := by
  obtain ⟨b, d, P, W, c0, r0, k0, q0, z0, u8, uat, u2, ucd, us, uk, hM⟩ := pop_n h h7 hs
  have d0 := cod_nn ucd.2.2
  have l_8 : lw 8 = 0 := by decide
  have p_8 : pw 8 = 0 := by decide
  have w_8 : ww 8 = 9 := by decide
  have k_8 : rkk 8 = 5 := by decide
  have l_9 : lw 9 = 0 := by decide
  have p_9 : pw 9 = 0 := by decide
  have w_9 : ww 9 = 1 := by decide
  have k_9 : rkk 9 = 5 := by decide
  have l_10 : lw 10 = 0 := by decide
  have p_10 : pw 10 = 0 := by decide
  have w_10 : ww 10 = 7 := by decide
  have k_10 : rkk 10 = 7 := by decide
  have r1 : dnext 8 d = d + 1 := by unfold dnext; (repeat' split) <;> omega
  rw [r1] at c0
  unfold dreq at r0
  have c1 := core_push (x := 9) (d := d + 1) c0 (by unfold sval; omega) (by unfold dreq; omega) (by unfold dnext; (repeat' split) <;> omega) (by omega) (by omega) (by omega)
  have c2 := core_push (x := 10) (d := d + 0) c1 (by unfold sval; omega) (by unfold dreq; omega) (by unfold dnext; (repeat' split) <;> omega) (by omega) (by omega) (by omega)
  rw [show d + 0 = d by omega] at c2
  rw [← e3, ← e2] at hM uat
  rw [← e2] at u2
  refine put_n hc (core_e c2 eT (by omega) (by omega)) b8 (by omega) (by omega) ucd us uk (by rw [hM]; omega)
theorem st_10 {g g' : Nat → Int} {a a' : Nat → Int → Int} (h : rPn g a (g 7 + 1)) (h7 : 0 ≤ g 7) (hs : a 2 (g 7) = 10) (hc : cs g g' a a') (e7 : g' 7 = g 7 + 2) (e8 : g' 8 = g 8 + 0) (b8 : g' 8 ≤ 8) (e2 : g' 2 = g 2) (e3 : g' 3 = g 3) (eT : a' 2 = up (up (a 2) (g 7) (11)) (g 7 + 1) (1)) : rPn g' a' (g' 7) ∧ mz g' a' (g' 7) < mz g a (g 7 + 1) := by
  obtain ⟨b, d, P, W, c0, r0, k0, q0, z0, u8, uat, u2, ucd, us, uk, hM⟩ := pop_n h h7 hs
  have d0 := cod_nn ucd.2.2
  have l_10 : lw 10 = 0 := by decide
  have p_10 : pw 10 = 0 := by decide
  have w_10 : ww 10 = 7 := by decide
  have k_10 : rkk 10 = 7 := by decide
  have l_11 : lw 11 = 0 := by decide
  have p_11 : pw 11 = 0 := by decide
  have w_11 : ww 11 = 1 := by decide
  have k_11 : rkk 11 = 7 := by decide
  have l_1 : lw 1 = 0 := by decide
  have p_1 : pw 1 = 0 := by decide
  have w_1 : ww 1 = 5 := by decide
  have k_1 : rkk 1 = 8 := by decide
  have r1 : dnext 10 d = d + 1 := by unfold dnext; (repeat' split) <;> omega
  rw [r1] at c0
  unfold dreq at r0
  have c1 := core_push (x := 11) (d := d + 1) c0 (by unfold sval; omega) (by unfold dreq; omega) (by unfold dnext; (repeat' split) <;> omega) (by omega) (by omega) (by omega)
  have c2 := core_push (x := 1) (d := d + 0) c1 (by unfold sval; omega) (by unfold dreq; omega) (by unfold dnext; (repeat' split) <;> omega) (by omega) (by omega) (by omega)
  rw [show d + 0 = d by omega] at c2
  rw [← e3, ← e2] at hM uat
  rw [← e2] at u2
  refine put_n hc (core_e c2 eT (by omega) (by omega)) b8 (by omega) (by omega) ucd us uk (by rw [hM]; omega)
theorem st_2n {g g' : Nat → Int} {a a' : Nat → Int → Int} (h : rPn g a (g 7 + 1)) (h7 : 0 ≤ g 7) (hs : a 2 (g 7) = 2) (hc : cs g g' a a') (e7 : g' 7 = g 7 + 0) (e8 : g' 8 = g 8 + 0) (b8 : g' 8 ≤ 8) (e2 : g' 2 = g 2) (e3 : g' 3 = g 3) (eT : a' 2 = a 2) : rPn g' a' (g' 7) ∧ mz g' a' (g' 7) < mz g a (g 7 + 1) := by
  obtain ⟨b, d, P, W, c0, r0, k0, q0, z0, u8, uat, u2, ucd, us, uk, hM⟩ := pop_n h h7 hs
  have d0 := cod_nn ucd.2.2
  have l_2 : lw 2 = 0 := by decide
  have p_2 : pw 2 = 0 := by decide
  have w_2 : ww 2 = 1 := by decide
  have k_2 : rkk 2 = 8 := by decide
  have r1 : dnext 2 d = d + 0 := by unfold dnext; (repeat' split) <;> omega
  rw [r1] at c0
  unfold dreq at r0
  rw [show d + 0 = d by omega] at c0
  rw [← e3, ← e2] at hM uat
  rw [← e2] at u2
  refine put_n hc (core_e c0 eT (by omega) (by omega)) b8 (by omega) (by omega) ucd us uk (by rw [hM]; omega)
theorem st_4n {g g' : Nat → Int} {a a' : Nat → Int → Int} (h : rPn g a (g 7 + 1)) (h7 : 0 ≤ g 7) (hs : a 2 (g 7) = 4) (hc : cs g g' a a') (e7 : g' 7 = g 7 + 0) (e8 : g' 8 = g 8 + 0) (b8 : g' 8 ≤ 8) (e2 : g' 2 = g 2) (e3 : g' 3 = g 3) (eT : a' 2 = a 2) : rPn g' a' (g' 7) ∧ mz g' a' (g' 7) < mz g a (g 7 + 1) := by
  obtain ⟨b, d, P, W, c0, r0, k0, q0, z0, u8, uat, u2, ucd, us, uk, hM⟩ := pop_n h h7 hs
  have d0 := cod_nn ucd.2.2
  have l_4 : lw 4 = 0 := by decide
  have p_4 : pw 4 = 0 := by decide
  have w_4 : ww 4 = 1 := by decide
  have k_4 : rkk 4 = 10 := by decide
  have r1 : dnext 4 d = d + 0 := by unfold dnext; (repeat' split) <;> omega
  rw [r1] at c0
  unfold dreq at r0
  rw [show d + 0 = d by omega] at c0
  rw [← e3, ← e2] at hM uat
  rw [← e2] at u2
  refine put_n hc (core_e c0 eT (by omega) (by omega)) b8 (by omega) (by omega) ucd us uk (by rw [hM]; omega)
theorem st_7n {g g' : Nat → Int} {a a' : Nat → Int → Int} (h : rPn g a (g 7 + 1)) (h7 : 0 ≤ g 7) (hs : a 2 (g 7) = 7) (hc : cs g g' a a') (e7 : g' 7 = g 7 + 0) (e8 : g' 8 = g 8 + 0) (b8 : g' 8 ≤ 8) (e2 : g' 2 = g 2) (e3 : g' 3 = g 3) (eT : a' 2 = a 2) : rPn g' a' (g' 7) ∧ mz g' a' (g' 7) < mz g a (g 7 + 1) := by
  obtain ⟨b, d, P, W, c0, r0, k0, q0, z0, u8, uat, u2, ucd, us, uk, hM⟩ := pop_n h h7 hs
  have d0 := cod_nn ucd.2.2
  have l_7 : lw 7 = 0 := by decide
  have p_7 : pw 7 = 0 := by decide
  have w_7 : ww 7 = 1 := by decide
  have k_7 : rkk 7 = 3 := by decide
  have r1 : dnext 7 d = d + 0 := by unfold dnext; (repeat' split) <;> omega
  rw [r1] at c0
  unfold dreq at r0
  rw [show d + 0 = d by omega] at c0
  rw [← e3, ← e2] at hM uat
  rw [← e2] at u2
  refine put_n hc (core_e c0 eT (by omega) (by omega)) b8 (by omega) (by omega) ucd us uk (by rw [hM]; omega)
theorem st_9n {g g' : Nat → Int} {a a' : Nat → Int → Int} (h : rPn g a (g 7 + 1)) (h7 : 0 ≤ g 7) (hs : a 2 (g 7) = 9) (hc : cs g g' a a') (e7 : g' 7 = g 7 + 0) (e8 : g' 8 = g 8 + 0) (b8 : g' 8 ≤ 8) (e2 : g' 2 = g 2) (e3 : g' 3 = g 3) (eT : a' 2 = a 2) : rPn g' a' (g' 7) ∧ mz g' a' (g' 7) < mz g a (g 7 + 1) := by
  obtain ⟨b, d, P, W, c0, r0, k0, q0, z0, u8, uat, u2, ucd, us, uk, hM⟩ := pop_n h h7 hs
  have d0 := cod_nn ucd.2.2
  have l_9 : lw 9 = 0 := by decide
  have p_9 : pw 9 = 0 := by decide
  have w_9 : ww 9 = 1 := by decide
  have k_9 : rkk 9 = 5 := by decide
  have r1 : dnext 9 d = d + 0 := by unfold dnext; (repeat' split) <;> omega
  rw [r1] at c0
  unfold dreq at r0
  rw [show d + 0 = d by omega] at c0
  rw [← e3, ← e2] at hM uat
  rw [← e2] at u2
  refine put_n hc (core_e c0 eT (by omega) (by omega)) b8 (by omega) (by omega) ucd us uk (by rw [hM]; omega)
theorem st_0n {g g' : Nat → Int} {a a' : Nat → Int → Int} (h : rPn g a (g 7 + 1)) (h7 : 0 ≤ g 7) (hs : a 2 (g 7) = 0) (hc : cs g g' a a') (e7 : g' 7 = g 7 + 0) (e8 : g' 8 = g 8 + 0) (b8 : g' 8 ≤ 8) (e2 : g' 2 = g 2) (e3 : g' 3 = g 3) (eT : a' 2 = a 2) : rPn g' a' (g' 7) ∧ mz g' a' (g' 7) < mz g a (g 7 + 1) := by
  obtain ⟨b, d, P, W, c0, r0, k0, q0, z0, u8, uat, u2, ucd, us, uk, hM⟩ := pop_n h h7 hs
  have d0 := cod_nn ucd.2.2
  have l_0 : lw 0 = 0 := by decide
  have p_0 : pw 0 = 0 := by decide
  have w_0 : ww 0 = 1 := by decide
  have k_0 : rkk 0 = 0 := by decide
  have r1 : dnext 0 d = d + 0 := by unfold dnext; (repeat' split) <;> omega
  rw [r1] at c0
  unfold dreq at r0
  rw [show d + 0 = d by omega] at c0
  rw [← e3, ← e2] at hM uat
  rw [← e2] at u2
  refine put_n hc (core_e c0 eT (by omega) (by omega)) b8 (by omega) (by omega) ucd us uk (by rw [hM]; omega)
theorem st_2m {g g' : Nat → Int} {a a' : Nat → Int → Int} {x : Int} (h_x : 1002 ≤ x ∧ x ≤ 1010) (h : rPn g a (g 7 + 1)) (h7 : 0 ≤ g 7) (hs : a 2 (g 7) = 2) (hc : cs g g' a a') (e7 : g' 7 = g 7 + 3) (e8 : g' 8 = g 8 + 0) (b8 : g' 8 ≤ 8) (ht : g 3 ≠ 0) (hn : nxt g g') (eT : a' 2 = up (up (up (a 2) (g 7) (2)) (g 7 + 1) (x)) (g 7 + 2) (3)) : rPn g' a' (g' 7) ∧ mz g' a' (g' 7) < mz g a (g 7 + 1) := by
  obtain ⟨b, d, P, W, c0, r0, k0, q0, z0, u8, uat, u2, ucd, us, uk, hM⟩ := pop_n h h7 hs
  have d0 := cod_nn ucd.2.2
  have l_2 : lw 2 = 0 := by decide
  have p_2 : pw 2 = 0 := by decide
  have w_2 : ww 2 = 1 := by decide
  have k_2 : rkk 2 = 8 := by decide
  obtain ⟨l_x, p_x, w_x, k_x, v_x⟩ := sy_b h_x
  have l_3 : lw 3 = 0 := by decide
  have p_3 : pw 3 = 0 := by decide
  have w_3 : ww 3 = 3 := by decide
  have k_3 : rkk 3 = 10 := by decide
  have r1 : dnext 2 d = d + 0 := by unfold dnext; (repeat' split) <;> omega
  rw [r1] at c0
  unfold dreq at r0
  have c1 := core_push (x := 2) (d := d + 0) c0 (by unfold sval; omega) (by unfold dreq; omega) (by unfold dnext; (repeat' split) <;> omega) (by omega) (by omega) (by omega)
  have c2 := core_push (x := x) (d := d + 1) c1 v_x (by unfold dreq; omega) (by unfold dnext; (repeat' split) <;> omega) (by omega) (by omega) (by omega)
  have c3 := core_push (x := 3) (d := d + 0) c2 (by unfold sval; omega) (by unfold dreq; omega) (by unfold dnext; (repeat' split) <;> omega) (by omega) (by omega) (by omega)
  rw [show d + 0 = d by omega] at c3
  have t1 := tkk_0 ht
  have t2 := nxt_t hn
  have t3 := hn.2.1
  have t4 : 2 * (g 1 - g' 2) + tkk (g' 3) + 1 ≤ 2 * (g 1 - g 2) + 1 := by rcases hn.2.2 with q | q; rw [q, tkk_z]; have := hn.1; omega; have := tkk_b (g' 3); omega
  rw [show g 7 + 2 = g 7 + 1 + 1 by omega] at eT
  refine put_n hc (core_e c3 eT (by omega) (by omega)) b8 (by omega) (by omega) ucd us uk (by rw [hM]; omega)
theorem st_4m {g g' : Nat → Int} {a a' : Nat → Int → Int} {x : Int} (h_x : 1002 ≤ x ∧ x ≤ 1010) (h : rPn g a (g 7 + 1)) (h7 : 0 ≤ g 7) (hs : a 2 (g 7) = 4) (hc : cs g g' a a') (e7 : g' 7 = g 7 + 3) (e8 : g' 8 = g 8 + 0) (b8 : g' 8 ≤ 8) (ht : g 3 ≠ 0) (hn : nxt g g') (eT : a' 2 = up (up (up (a 2) (g 7) (4)) (g 7 + 1) (x)) (g 7 + 2) (5)) : rPn g' a' (g' 7) ∧ mz g' a' (g' 7) < mz g a (g 7 + 1) := by
  obtain ⟨b, d, P, W, c0, r0, k0, q0, z0, u8, uat, u2, ucd, us, uk, hM⟩ := pop_n h h7 hs
  have d0 := cod_nn ucd.2.2
  have l_4 : lw 4 = 0 := by decide
  have p_4 : pw 4 = 0 := by decide
  have w_4 : ww 4 = 1 := by decide
  have k_4 : rkk 4 = 10 := by decide
  obtain ⟨l_x, p_x, w_x, k_x, v_x⟩ := sy_b h_x
  have l_5 : lw 5 = 0 := by decide
  have p_5 : pw 5 = 0 := by decide
  have w_5 : ww 5 = 1 := by decide
  have k_5 : rkk 5 = 12 := by decide
  have r1 : dnext 4 d = d + 0 := by unfold dnext; (repeat' split) <;> omega
  rw [r1] at c0
  unfold dreq at r0
  have c1 := core_push (x := 4) (d := d + 0) c0 (by unfold sval; omega) (by unfold dreq; omega) (by unfold dnext; (repeat' split) <;> omega) (by omega) (by omega) (by omega)
  have c2 := core_push (x := x) (d := d + 1) c1 v_x (by unfold dreq; omega) (by unfold dnext; (repeat' split) <;> omega) (by omega) (by omega) (by omega)
  have c3 := core_push (x := 5) (d := d + 0) c2 (by unfold sval; omega) (by unfold dreq; omega) (by unfold dnext; (repeat' split) <;> omega) (by omega) (by omega) (by omega)
  rw [show d + 0 = d by omega] at c3
  have t1 := tkk_0 ht
  have t2 := nxt_t hn
  have t3 := hn.2.1
  have t4 : 2 * (g 1 - g' 2) + tkk (g' 3) + 1 ≤ 2 * (g 1 - g 2) + 1 := by rcases hn.2.2 with q | q; rw [q, tkk_z]; have := hn.1; omega; have := tkk_b (g' 3); omega
  rw [show g 7 + 2 = g 7 + 1 + 1 by omega] at eT
  refine put_n hc (core_e c3 eT (by omega) (by omega)) b8 (by omega) (by omega) ucd us uk (by rw [hM]; omega)
theorem st_7m {g g' : Nat → Int} {a a' : Nat → Int → Int} (h : rPn g a (g 7 + 1)) (h7 : 0 ≤ g 7) (hs : a 2 (g 7) = 7) (hc : cs g g' a a') (e7 : g' 7 = g 7 + 3) (e8 : g' 8 = g 8 + 0) (b8 : g' 8 ≤ 8) (ht : g 3 ≠ 0) (hn : nxt g g') (eT : a' 2 = up (up (up (a 2) (g 7) (7)) (g 7 + 1) (1010)) (g 7 + 2) (8)) : rPn g' a' (g' 7) ∧ mz g' a' (g' 7) < mz g a (g 7 + 1) := by
  obtain ⟨b, d, P, W, c0, r0, k0, q0, z0, u8, uat, u2, ucd, us, uk, hM⟩ := pop_n h h7 hs
  have d0 := cod_nn ucd.2.2
  have l_7 : lw 7 = 0 := by decide
  have p_7 : pw 7 = 0 := by decide
  have w_7 : ww 7 = 1 := by decide
  have k_7 : rkk 7 = 3 := by decide
  have l_1010 : lw 1010 = 0 := by decide
  have p_1010 : pw 1010 = 1 := by decide
  have w_1010 : ww 1010 = 1 := by decide
  have k_1010 : rkk 1010 = 15 := by decide
  have l_8 : lw 8 = 0 := by decide
  have p_8 : pw 8 = 0 := by decide
  have w_8 : ww 8 = 9 := by decide
  have k_8 : rkk 8 = 5 := by decide
  have r1 : dnext 7 d = d + 0 := by unfold dnext; (repeat' split) <;> omega
  rw [r1] at c0
  unfold dreq at r0
  have c1 := core_push (x := 7) (d := d + 0) c0 (by unfold sval; omega) (by unfold dreq; omega) (by unfold dnext; (repeat' split) <;> omega) (by omega) (by omega) (by omega)
  have c2 := core_push (x := 1010) (d := d + 1) c1 (by unfold sval; omega) (by unfold dreq; omega) (by unfold dnext; (repeat' split) <;> omega) (by omega) (by omega) (by omega)
  have c3 := core_push (x := 8) (d := d + 0) c2 (by unfold sval; omega) (by unfold dreq; omega) (by unfold dnext; (repeat' split) <;> omega) (by omega) (by omega) (by omega)
  rw [show d + 0 = d by omega] at c3
  have t1 := tkk_0 ht
  have t2 := nxt_t hn
  have t3 := hn.2.1
  have t4 : 2 * (g 1 - g' 2) + tkk (g' 3) + 1 ≤ 2 * (g 1 - g 2) + 1 := by rcases hn.2.2 with q | q; rw [q, tkk_z]; have := hn.1; omega; have := tkk_b (g' 3); omega
  rw [show g 7 + 2 = g 7 + 1 + 1 by omega] at eT
  refine put_n hc (core_e c3 eT (by omega) (by omega)) b8 (by omega) (by omega) ucd us uk (by rw [hM]; omega)
theorem st_9m {g g' : Nat → Int} {a a' : Nat → Int → Int} (h : rPn g a (g 7 + 1)) (h7 : 0 ≤ g 7) (hs : a 2 (g 7) = 9) (hc : cs g g' a a') (e7 : g' 7 = g 7 + 3) (e8 : g' 8 = g 8 + 0) (b8 : g' 8 ≤ 8) (ht : g 3 ≠ 0) (hn : nxt g g') (eT : a' 2 = up (up (up (a 2) (g 7) (9)) (g 7 + 1) (1009)) (g 7 + 2) (10)) : rPn g' a' (g' 7) ∧ mz g' a' (g' 7) < mz g a (g 7 + 1) := by
  obtain ⟨b, d, P, W, c0, r0, k0, q0, z0, u8, uat, u2, ucd, us, uk, hM⟩ := pop_n h h7 hs
  have d0 := cod_nn ucd.2.2
  have l_9 : lw 9 = 0 := by decide
  have p_9 : pw 9 = 0 := by decide
  have w_9 : ww 9 = 1 := by decide
  have k_9 : rkk 9 = 5 := by decide
  have l_1009 : lw 1009 = 0 := by decide
  have p_1009 : pw 1009 = 1 := by decide
  have w_1009 : ww 1009 = 1 := by decide
  have k_1009 : rkk 1009 = 15 := by decide
  have l_10 : lw 10 = 0 := by decide
  have p_10 : pw 10 = 0 := by decide
  have w_10 : ww 10 = 7 := by decide
  have k_10 : rkk 10 = 7 := by decide
  have r1 : dnext 9 d = d + 0 := by unfold dnext; (repeat' split) <;> omega
  rw [r1] at c0
  unfold dreq at r0
  have c1 := core_push (x := 9) (d := d + 0) c0 (by unfold sval; omega) (by unfold dreq; omega) (by unfold dnext; (repeat' split) <;> omega) (by omega) (by omega) (by omega)
  have c2 := core_push (x := 1009) (d := d + 1) c1 (by unfold sval; omega) (by unfold dreq; omega) (by unfold dnext; (repeat' split) <;> omega) (by omega) (by omega) (by omega)
  have c3 := core_push (x := 10) (d := d + 0) c2 (by unfold sval; omega) (by unfold dreq; omega) (by unfold dnext; (repeat' split) <;> omega) (by omega) (by omega) (by omega)
  rw [show d + 0 = d by omega] at c3
  have t1 := tkk_0 ht
  have t2 := nxt_t hn
  have t3 := hn.2.1
  have t4 : 2 * (g 1 - g' 2) + tkk (g' 3) + 1 ≤ 2 * (g 1 - g 2) + 1 := by rcases hn.2.2 with q | q; rw [q, tkk_z]; have := hn.1; omega; have := tkk_b (g' 3); omega
  rw [show g 7 + 2 = g 7 + 1 + 1 by omega] at eT
  refine put_n hc (core_e c3 eT (by omega) (by omega)) b8 (by omega) (by omega) ucd us uk (by rw [hM]; omega)
theorem st_5p {g g' : Nat → Int} {a a' : Nat → Int → Int} (h : rPn g a (g 7 + 1)) (h7 : 0 ≤ g 7) (hs : a 2 (g 7) = 5) (hc : cs g g' a a') (e7 : g' 7 = g 7 + 3) (e8 : g' 8 = g 8 + 1) (b8 : g' 8 ≤ 8) (ht : g 3 ≠ 0) (hn : nxt g g') (eT : a' 2 = up (up (up (a 2) (g 7) (12)) (g 7 + 1) (141)) (g 7 + 2) (1)) : rPn g' a' (g' 7) ∧ mz g' a' (g' 7) < mz g a (g 7 + 1) := by
  obtain ⟨b, d, P, W, c0, r0, k0, q0, z0, u8, uat, u2, ucd, us, uk, hM⟩ := pop_n h h7 hs
  have d0 := cod_nn ucd.2.2
  have l_5 : lw 5 = 0 := by decide
  have p_5 : pw 5 = 0 := by decide
  have w_5 : ww 5 = 1 := by decide
  have k_5 : rkk 5 = 12 := by decide
  have l_12 : lw 12 = 1 := by decide
  have p_12 : pw 12 = 0 := by decide
  have w_12 : ww 12 = 1 := by decide
  have k_12 : rkk 12 = 0 := by decide
  have l_141 : lw 141 = 0 := by decide
  have p_141 : pw 141 = 0 := by decide
  have w_141 : ww 141 = 1 := by decide
  have k_141 : rkk 141 = 15 := by decide
  have l_1 : lw 1 = 0 := by decide
  have p_1 : pw 1 = 0 := by decide
  have w_1 : ww 1 = 5 := by decide
  have k_1 : rkk 1 = 8 := by decide
  have r1 : dnext 5 d = d + 1 := by unfold dnext; (repeat' split) <;> omega
  rw [r1] at c0
  unfold dreq at r0
  have c1 := core_push (x := 12) (d := d + 1) c0 (by unfold sval; omega) (by unfold dreq; omega) (by unfold dnext; (repeat' split) <;> omega) (by omega) (by omega) (by omega)
  have c2 := core_push (x := 141) (d := d + 1) c1 (by unfold sval; omega) (by unfold dreq; omega) (by unfold dnext; (repeat' split) <;> omega) (by omega) (by omega) (by omega)
  have c3 := core_push (x := 1) (d := d + 0) c2 (by unfold sval; omega) (by unfold dreq; omega) (by unfold dnext; (repeat' split) <;> omega) (by omega) (by omega) (by omega)
  rw [show d + 0 = d by omega] at c3
  have t1 := tkk_0 ht
  have t2 := nxt_t hn
  have t3 := hn.2.1
  have t4 : 2 * (g 1 - g' 2) + tkk (g' 3) + 1 ≤ 2 * (g 1 - g 2) + 1 := by rcases hn.2.2 with q | q; rw [q, tkk_z]; have := hn.1; omega; have := tkk_b (g' 3); omega
  rw [show g 7 + 2 = g 7 + 1 + 1 by omega] at eT
  refine put_n hc (core_e c3 eT (by omega) (by omega)) b8 (by omega) (by omega) ucd us uk (by rw [hM]; omega)
theorem st_10n {g g' : Nat → Int} {a a' : Nat → Int → Int} (h : rPn g a (g 7 + 1)) (h7 : 0 ≤ g 7) (hs : a 2 (g 7) = 10) (hc : cs g g' a a') (e7 : g' 7 = g 7 + 3) (e8 : g' 8 = g 8 + 1) (b8 : g' 8 ≤ 8) (ht : g 3 ≠ 0) (hn : nxt g g') (eT : a' 2 = up (up (up (a 2) (g 7) (12)) (g 7 + 1) (1011)) (g 7 + 2) (10)) : rPn g' a' (g' 7) ∧ mz g' a' (g' 7) < mz g a (g 7 + 1) := by
  obtain ⟨b, d, P, W, c0, r0, k0, q0, z0, u8, uat, u2, ucd, us, uk, hM⟩ := pop_n h h7 hs
  have d0 := cod_nn ucd.2.2
  have l_10 : lw 10 = 0 := by decide
  have p_10 : pw 10 = 0 := by decide
  have w_10 : ww 10 = 7 := by decide
  have k_10 : rkk 10 = 7 := by decide
  have l_12 : lw 12 = 1 := by decide
  have p_12 : pw 12 = 0 := by decide
  have w_12 : ww 12 = 1 := by decide
  have k_12 : rkk 12 = 0 := by decide
  have l_1011 : lw 1011 = 0 := by decide
  have p_1011 : pw 1011 = 1 := by decide
  have w_1011 : ww 1011 = 1 := by decide
  have k_1011 : rkk 1011 = 15 := by decide
  have r1 : dnext 10 d = d + 1 := by unfold dnext; (repeat' split) <;> omega
  rw [r1] at c0
  unfold dreq at r0
  have c1 := core_push (x := 12) (d := d + 1) c0 (by unfold sval; omega) (by unfold dreq; omega) (by unfold dnext; (repeat' split) <;> omega) (by omega) (by omega) (by omega)
  have c2 := core_push (x := 1011) (d := d + 1) c1 (by unfold sval; omega) (by unfold dreq; omega) (by unfold dnext; (repeat' split) <;> omega) (by omega) (by omega) (by omega)
  have c3 := core_push (x := 10) (d := d + 0) c2 (by unfold sval; omega) (by unfold dreq; omega) (by unfold dnext; (repeat' split) <;> omega) (by omega) (by omega) (by omega)
  rw [show d + 0 = d by omega] at c3
  have t1 := tkk_0 ht
  have t2 := nxt_t hn
  have t3 := hn.2.1
  have t4 : 2 * (g 1 - g' 2) + tkk (g' 3) + 1 ≤ 2 * (g 1 - g 2) + 1 := by rcases hn.2.2 with q | q; rw [q, tkk_z]; have := hn.1; omega; have := tkk_b (g' 3); omega
  rw [show g 7 + 2 = g 7 + 1 + 1 by omega] at eT
  refine put_n hc (core_e c3 eT (by omega) (by omega)) b8 (by omega) (by omega) ucd us uk (by rw [hM]; omega)
theorem st_10b {g g' : Nat → Int} {a a' : Nat → Int → Int} (h : rPn g a (g 7 + 1)) (h7 : 0 ≤ g 7) (hs : a 2 (g 7) = 10) (hc : cs g g' a a') (e7 : g' 7 = g 7 + 3) (e8 : g' 8 = g 8 + 1) (b8 : g' 8 ≤ 8) (ht : g 3 ≠ 0) (hn : nxt g g') (eT : a' 2 = up (up (up (a 2) (g 7) (12)) (g 7 + 1) (193)) (g 7 + 2) (6)) : rPn g' a' (g' 7) ∧ mz g' a' (g' 7) < mz g a (g 7 + 1) := by
  obtain ⟨b, d, P, W, c0, r0, k0, q0, z0, u8, uat, u2, ucd, us, uk, hM⟩ := pop_n h h7 hs
  have d0 := cod_nn ucd.2.2
  have l_10 : lw 10 = 0 := by decide
  have p_10 : pw 10 = 0 := by decide
  have w_10 : ww 10 = 7 := by decide
  have k_10 : rkk 10 = 7 := by decide
  have l_12 : lw 12 = 1 := by decide
  have p_12 : pw 12 = 0 := by decide
  have w_12 : ww 12 = 1 := by decide
  have k_12 : rkk 12 = 0 := by decide
  have l_193 : lw 193 = 0 := by decide
  have p_193 : pw 193 = 0 := by decide
  have w_193 : ww 193 = 1 := by decide
  have k_193 : rkk 193 = 15 := by decide
  have l_6 : lw 6 = 0 := by decide
  have p_6 : pw 6 = 0 := by decide
  have w_6 : ww 6 = 11 := by decide
  have k_6 : rkk 6 = 3 := by decide
  have r1 : dnext 10 d = d + 1 := by unfold dnext; (repeat' split) <;> omega
  rw [r1] at c0
  unfold dreq at r0
  have c1 := core_push (x := 12) (d := d + 1) c0 (by unfold sval; omega) (by unfold dreq; omega) (by unfold dnext; (repeat' split) <;> omega) (by omega) (by omega) (by omega)
  have c2 := core_push (x := 193) (d := d + 1) c1 (by unfold sval; omega) (by unfold dreq; omega) (by unfold dnext; (repeat' split) <;> omega) (by omega) (by omega) (by omega)
  have c3 := core_push (x := 6) (d := d + 0) c2 (by unfold sval; omega) (by unfold dreq; omega) (by unfold dnext; (repeat' split) <;> omega) (by omega) (by omega) (by omega)
  rw [show d + 0 = d by omega] at c3
  have t1 := tkk_0 ht
  have t2 := nxt_t hn
  have t3 := hn.2.1
  have t4 : 2 * (g 1 - g' 2) + tkk (g' 3) + 1 ≤ 2 * (g 1 - g 2) + 1 := by rcases hn.2.2 with q | q; rw [q, tkk_z]; have := hn.1; omega; have := tkk_b (g' 3); omega
  rw [show g 7 + 2 = g 7 + 1 + 1 by omega] at eT
  refine put_n hc (core_e c3 eT (by omega) (by omega)) b8 (by omega) (by omega) ucd us uk (by rw [hM]; omega)
theorem st_11 {g g' : Nat → Int} {a a' : Nat → Int → Int} {x : Int} (h_x : 1002 ≤ x ∧ x ≤ 1010) (h : rPn g a (g 7 + 1)) (h7 : 0 ≤ g 7) (hs : a 2 (g 7) = 11) (hc : cs g g' a a') (e7 : g' 7 = g 7 + 2) (e8 : g' 8 = g 8 + 0) (b8 : g' 8 ≤ 8) (ht : g 3 ≠ 0) (hn : nxt g g') (eT : a' 2 = up (up (a 2) (g 7) (x)) (g 7 + 1) (1)) : rPn g' a' (g' 7) ∧ mz g' a' (g' 7) < mz g a (g 7 + 1) := by
  obtain ⟨b, d, P, W, c0, r0, k0, q0, z0, u8, uat, u2, ucd, us, uk, hM⟩ := pop_n h h7 hs
  have d0 := cod_nn ucd.2.2
  have l_11 : lw 11 = 0 := by decide
  have p_11 : pw 11 = 0 := by decide
  have w_11 : ww 11 = 1 := by decide
  have k_11 : rkk 11 = 7 := by decide
  obtain ⟨l_x, p_x, w_x, k_x, v_x⟩ := sy_b h_x
  have l_1 : lw 1 = 0 := by decide
  have p_1 : pw 1 = 0 := by decide
  have w_1 : ww 1 = 5 := by decide
  have k_1 : rkk 1 = 8 := by decide
  have r1 : dnext 11 d = d + 0 := by unfold dnext; (repeat' split) <;> omega
  rw [r1] at c0
  unfold dreq at r0
  have c1 := core_push (x := x) (d := d + 1) c0 v_x (by unfold dreq; omega) (by unfold dnext; (repeat' split) <;> omega) (by omega) (by omega) (by omega)
  have c2 := core_push (x := 1) (d := d + 0) c1 (by unfold sval; omega) (by unfold dreq; omega) (by unfold dnext; (repeat' split) <;> omega) (by omega) (by omega) (by omega)
  rw [show d + 0 = d by omega] at c2
  have t1 := tkk_0 ht
  have t2 := nxt_t hn
  have t3 := hn.2.1
  have t4 : 2 * (g 1 - g' 2) + tkk (g' 3) + 1 ≤ 2 * (g 1 - g 2) + 1 := by rcases hn.2.2 with q | q; rw [q, tkk_z]; have := hn.1; omega; have := tkk_b (g' 3); omega
  refine put_n hc (core_e c2 eT (by omega) (by omega)) b8 (by omega) (by omega) ucd us uk (by rw [hM]; omega)
theorem st_12 {g g' : Nat → Int} {a a' : Nat → Int → Int} (h : rPn g a (g 7 + 1)) (h7 : 0 ≤ g 7) (hs : a 2 (g 7) = 12) (hc : cs g g' a a') (e7 : g' 7 = g 7) (e8 : g' 8 = g 8 - 1) (e2 : g' 2 = g 2) (e3 : g' 3 = g 3) (eT : a' 2 = a 2) : rPn g' a' (g' 7) ∧ mz g' a' (g' 7) < mz g a (g 7 + 1) := by
  obtain ⟨b, d, P, W, c0, r0, k0, q0, z0, u8, uat, u2, ucd, us, uk, hM⟩ := pop_n h h7 hs
  have l1 : lw 12 = 1 := by decide
  have p1 : pw 12 = 0 := by decide
  have w1 : ww 12 = 1 := by decide
  rw [← e3, ← e2] at hM uat
  rw [← e2] at u2
  exact put_n hc (core_e c0 eT e7 (by omega)) (by omega) (by omega) u2 ucd us uk (by rw [hM]; omega)
theorem st_sg {g g' : Nat → Int} {a a' : Nat → Int → Int} {s : Int} (h : rPn g a (g 7 + 1)) (h7 : 0 ≤ g 7) (hs : a 2 (g 7) = s) (hs1 : 100 ≤ s ∧ s < 1000) (hc : cs g g' a a') (e7 : g' 7 = g 7) (e8 : g' 8 = g 8) (ht : g 3 ≠ 0) (hn : nxt g g') (eT : a' 2 = a 2) : rPn g' a' (g' 7) ∧ mz g' a' (g' 7) < mz g a (g 7 + 1) := by
  obtain ⟨b, d, P, W, c0, r0, k0, q0, z0, u8, uat, u2, ucd, us, uk, hM⟩ := pop_n h h7 hs
  have l1 : lw s = 0 := by unfold lw; rw [if_neg (by omega)]
  have p1 : pw s = 0 := by unfold pw; rw [if_neg (by omega)]
  have w1 := ww_b s
  have r1 : dnext s d = d := by
    unfold dnext
    rw [if_neg (by omega), if_neg (by omega)]
  rw [r1] at c0
  have t1 := tkk_0 ht
  have t2 := nxt_t hn
  have t3 := hn.2.1
  have t4 : 2 * (g 1 - g' 2) + tkk (g' 3) + 1 ≤ 2 * (g 1 - g 2) + 1 := by
    rcases hn.2.2 with q | q
    · rw [q, tkk_z]; have := hn.1; omega
    · have := tkk_b (g' 3); omega
  exact put_n hc (core_e c0 eT e7 (by omega)) (by omega) (by omega) (by omega) ucd us uk (by rw [hM]; omega)
/-- code is made: what is to come stands -/
theorem put_e {g g' : Nat → Int} {a a' : Nat → Int → Int} {b d d' P W M o y : Int} (e9 : g' 9 = g 9) (e12 : g' 12 = g 12 + 1) (e15 : g' 15 = g 15) (e1 : g' 1 = g 1) (f3 : a' 3 = up (a 3) (g 12) o) (f4 : a' 4 = up (a 4) (g 12) y) (f5 : a' 5 = a 5) (f6 : a' 6 = a 6) (f7 : a' 7 = a 7) (f8 : a' 8 = a 8) (hc : core (a' 2) (a 5 (g 9) = b) (g' 7) (g' 8) P W d') (h8 : g' 8 ≤ 8) (hat : g 12 + 1 + P + tkk (g' 3) ≤ g' 2) (h2 : g' 2 ≤ g 1) (hcd : cdp (a 3) (a 4) b (g 12) d) (ho : dop o y d d') (hs : slt (a 3) (a 4) (a 5) (a 6) (g 12)) (hk : skp (a 7) (a 8) (g 15)) (hM : 20 * (2 * (g 1 - g' 2) + tkk (g' 3)) + W < M) : rPn g' a' (g' 7) ∧ mz g' a' (g' 7) < M := by
  refine ⟨⟨b, d', P, W, by rw [f5, e9]; exact hc, h8, by rw [e12]; exact hat, by rw [e1]; exact h2, by rw [f3, f4, e12]; exact cdp_emit hcd ho, by rw [f3, f4, f5, f6, e12]; exact slt_emit hs, by rw [f7, f8, e15]; exact hk⟩, ?_⟩
  unfold mz
  rw [← core_W hc, e1]
  exact hM
theorem st_do {g g' : Nat → Int} {a a' : Nat → Int → Int} {s : Int} (h : rPn g a (g 7 + 1)) (h7 : 0 ≤ g 7) (hs : a 2 (g 7) = s) (hs1 : 1000 ≤ s) (hv : 1002 ≤ s ∧ s ≤ 1011) (e9 : g' 9 = g 9) (e12 : g' 12 = g 12 + 1) (e15 : g' 15 = g 15) (e1 : g' 1 = g 1) (f3 : a' 3 = up (a 3) (g 12) (s - 1000)) (f4 : a' 4 = up (a 4) (g 12) 0) (f5 : a' 5 = a 5) (f6 : a' 6 = a 6) (f7 : a' 7 = a 7) (f8 : a' 8 = a 8) (e7 : g' 7 = g 7) (e8 : g' 8 = g 8) (e2 : g' 2 = g 2) (e3 : g' 3 = g 3) (eT : a' 2 = a 2) : rPn g' a' (g' 7) ∧ mz g' a' (g' 7) < mz g a (g 7 + 1) := by
  obtain ⟨b, d, P, W, c0, r0, k0, q0, z0, u8, uat, u2, ucd, us, uk, hM⟩ := pop_n h h7 hs
  have l1 : lw s = 0 := by unfold lw; rw [if_neg (by omega)]
  have p1 : pw s = 1 := by unfold pw; rw [if_pos (by omega)]
  have w1 := ww_b s
  rw [← e3, ← e2] at hM uat
  rw [← e2] at u2
  unfold dreq at r0
  refine put_e e9 e12 e15 e1 f3 f4 f5 f6 f7 f8 (core_e c0 eT e7 (by omega)) (by omega) (by omega) u2 ucd ?_ us uk (by rw [hM]; omega)
  unfold dop dnext
  by_cases q : s = 1011
  · rw [if_neg (by omega), if_neg (by omega)]; omega
  · rw [if_neg (by omega), if_pos (by omega)]; omega
theorem sv_do {g : Nat → Int} {a : Nat → Int → Int} {s : Int} (h : rPn g a (g 7 + 1)) (h7 : 0 ≤ g 7) (hs : a 2 (g 7) = s) : sval s := by
  obtain ⟨b, d, P, W, c, -⟩ := h
  obtain ⟨-, -, -, -, -, h5⟩ := c
  rw [show (g 7 + 1).toNat = (g 7).toNat + 1 by omega] at h5
  unfold dp at h5
  rw [Int.toNat_of_nonneg h7, hs] at h5
  exact h5.1
/-- the bounds that hold while something is to come -/
theorem bd_1 {g : Nat → Int} {a : Nat → Int → Int} (h : rPn g a (g 7 + 1)) : g 7 ≤ 150 ∧ g 8 ≤ 8 ∧ 0 ≤ g 12 ∧ g 12 + tkk (g 3) ≤ g 2 ∧ g 2 ≤ g 1 ∧ 0 ≤ g 8 := by
  obtain ⟨b, d, P, W, c, h8, hat, h2, hcd, -, -⟩ := h
  have hD := sm_nn (fun s => (lw_b s).1) (a 2) (g 7 + 1).toNat
  rw [← c.2.1] at hD
  have := core_n c
  have := core_P c
  have := hcd.1
  have := hcd.2.1
  omega
theorem bd_do {g : Nat → Int} {a : Nat → Int → Int} {s : Int} (h : rPn g a (g 7 + 1)) (h7 : 0 ≤ g 7) (hs : a 2 (g 7) = s) (hs1 : 1000 ≤ s) : g 12 + 1 ≤ g 2 := by
  obtain ⟨b, d, P, W, c0, r0, k0, q0, z0, u8, uat, u2, ucd, us, uk, hM⟩ := pop_n h h7 hs
  have p1 : pw s = 1 := by unfold pw; rw [if_pos hs1]
  have := core_P c0
  have := tkk_b (g 3)
  omega
theorem bd_up {g : Nat → Int} {a : Nat → Int → Int} (h : rPn g a (g 7 + 1)) (h7 : 0 ≤ g 7) (hs : a 2 (g 7) = 12) : 1 ≤ g 8 := by
  obtain ⟨b, d, P, W, c, -⟩ := h
  have h1 := c.2.1
  rw [sm_pop _ _ h7, hs] at h1
  have := sm_nn (fun s => (lw_b s).1) (a 2) (g 7).toNat
  have l1 : lw 12 = 1 := by decide
  omega
theorem st_5e {g g' : Nat → Int} {a a' : Nat → Int → Int} {o y : Int} (h : rPn g a (g 7 + 1)) (h7 : 0 ≤ g 7) (hs : a 2 (g 7) = 5) (ho : o = 0 ∨ (o = 1 ∧ 0 ≤ y ∧ y ≤ 8)) (e9 : g' 9 = g 9) (e12 : g' 12 = g 12 + 1) (e15 : g' 15 = g 15) (e1 : g' 1 = g 1) (f3 : a' 3 = up (a 3) (g 12) o) (f4 : a' 4 = up (a 4) (g 12) y) (f5 : a' 5 = a 5) (f6 : a' 6 = a 6) (f7 : a' 7 = a 7) (f8 : a' 8 = a 8) (e7 : g' 7 = g 7) (e8 : g' 8 = g 8) (ht : g 3 ≠ 0) (hn : nxt g g') (eT : a' 2 = a 2) : rPn g' a' (g' 7) ∧ mz g' a' (g' 7) < mz g a (g 7 + 1) := by
  obtain ⟨b, d, P, W, c0, r0, k0, q0, z0, u8, uat, u2, ucd, us, uk, hM⟩ := pop_n h h7 hs
  have l1 : lw 5 = 0 := by decide
  have p1 : pw 5 = 0 := by decide
  have w1 : ww 5 = 1 := by decide
  have r1 : dnext 5 d = d + 1 := by unfold dnext; rw [if_pos (by omega)]
  rw [r1] at c0
  have t1 := tkk_0 ht
  have t2 := nxt_t hn
  have t4 : 2 * (g 1 - g' 2) + tkk (g' 3) + 1 ≤ 2 * (g 1 - g 2) + 1 := by
    rcases hn.2.2 with q | q
    · rw [q, tkk_z]; have := hn.1; omega
    · have := tkk_b (g' 3); omega
  refine put_e e9 e12 e15 e1 f3 f4 f5 f6 f7 f8 (core_e c0 eT e7 (by omega)) (by omega) (by omega) hn.2.1 ucd ?_ us uk (by rw [hM]; omega)
  rcases ho with q | q
  · exact Or.inl ⟨q, rfl⟩
  · exact Or.inr (Or.inl ⟨q.1, q.2.1, q.2.2, rfl⟩)
theorem st_13 {g g' : Nat → Int} {a a' : Nat → Int → Int} (h : rPn g a (g 7 + 1)) (h7 : 0 ≤ g 7) (hs : a 2 (g 7) = 13) (e9 : g' 9 = g 9) (e12 : g' 12 = g 12) (e15 : g' 15 = g 15) (e1 : g' 1 = g 1) (f3 : a' 3 = a 3) (f4 : a' 4 = a 4) (f5 : a' 5 = a 5) (f6 : a' 6 = up (a 6) (g 9) (g 12)) (f7 : a' 7 = a 7) (f8 : a' 8 = a 8) (e7 : g' 7 = g 7) (e8 : g' 8 = g 8) (e2 : g' 2 = g 2) (e3 : g' 3 = g 3) (eT : a' 2 = a 2) : rPn g' a' (g' 7) ∧ mz g' a' (g' 7) < mz g a (g 7 + 1) := by
  obtain ⟨b, d, P, W, c0, r0, k0, q0, z0, u8, uat, u2, ucd, us, uk, hM⟩ := pop_n h h7 hs
  have l1 : lw 13 = 0 := by decide
  have p1 : pw 13 = 0 := by decide
  have w1 : ww 13 = 1 := by decide
  have r1 : dnext 13 d = d := by unfold dnext; rw [if_neg (by omega), if_neg (by omega)]
  rw [r1] at c0
  have qb := q0 rfl
  refine ⟨⟨b, d, P, W, by rw [f5, e9]; exact core_e c0 eT e7 (by omega), by omega, by rw [e12, e3, e2]; omega, by rw [e2, e1]; exact u2, by rw [f3, f4, e12]; exact ucd, by rw [f3, f4, f5, f6, e12]; exact slt_close us (by rw [qb]; exact ucd), by rw [f7, f8, e15]; exact uk⟩, ?_⟩
  have hm : mz g' a' (g' 7) = 20 * (2 * (g 1 - g 2) + tkk (g 3)) + W := by
    unfold mz
    rw [eT, e7, ← core_W c0, e1, e2, e3]
  rw [hm, hM]; omega
theorem up_eta {T : Int → Int} {k x : Int} (h : T k = x) : up T k x = T := by
  funext i
  by_cases e : i = k
  · subst e; rw [up_self, h]
  · rw [up_ne _ _ e]
/-- a CLAUSE has begun -/
def rM (g : Nat → Int) (a : Nat → Int → Int) : Prop := g 7 = 2 ∧ a 2 0 = 0 ∧ a 2 1 = 159 ∧ g 8 = 0 ∧ g 12 + 1 ≤ g 2 ∧ g 2 ≤ g 1 ∧ g 3 ≠ 0 ∧ 0 ≤ g 12 ∧ slt (a 3) (a 4) (a 5) (a 6) (g 12) ∧ skp (a 7) (a 8) (g 15)
theorem rM_of {g g' : Nat → Int} {a a' : Nat → Int → Int} (h : rPn g a (g 7 + 1)) (h7 : 0 ≤ g 7) (hs : a 2 (g 7) = 0) (hc : cs g g' a a') (e7 : g' 7 = g 7 + 2) (e8 : g' 8 = g 8) (ht : g' 3 ≠ 0) (ht0 : g 3 ≠ 0) (h2 : g 2 ≤ g' 2) (h3 : g' 2 ≤ g 1) (eT : a' 2 = up (up (a 2) (g 7) 0) (g 7 + 1) 159) : rM g' a' := by
  obtain ⟨b, d, P, W, c0, r0, k0, q0, z0, u8, uat, u2, ucd, us, uk, hM⟩ := pop_n h h7 hs
  obtain ⟨e9, e12, e15, e1, f3, f4, f5, f6, f7, f8⟩ := hc
  have n0 := z0 rfl
  have l1 : lw 0 = 0 := by decide
  have p1 : pw 0 = 0 := by decide
  have hD : g 8 = 0 := by
    have := c0.2.1
    rw [n0] at this
    have e : sm lw (a 2) (0 : Int).toNat = 0 := rfl
    omega
  have hP := core_P c0
  have t1 := tkk_0 ht0
  rw [n0] at eT
  refine ⟨by omega, ?_, ?_, by omega, by omega, by omega, ht, by have := ucd.1; have := ucd.2.1; omega, by rw [f3, f4, f5, f6, e12]; exact us, by rw [f7, f8, e15]; exact uk⟩
  · rw [eT, up_ne _ _ (by omega), up_self]
  · rw [eT]; exact up_self _ _ _
theorem rM_nx {g g' : Nat → Int} {a a' : Nat → Int → Int} (h : rM g a) (hc : cs g g' a a') (e7 : g' 7 = g 7) (e8 : g' 8 = g 8) (ht : g' 3 ≠ 0) (hn : nxt g g') (eT : a' 2 = a 2) : rM g' a' := by
  obtain ⟨h1, h2, h3, h4, h5, h6, h7, h8, h9, h10⟩ := h
  obtain ⟨e9, e12, e15, e1, f3, f4, f5, f6, f7, f8⟩ := hc
  have := hn.1
  have := hn.2.1
  exact ⟨by omega, by rw [eT]; exact h2, by rw [eT]; exact h3, by omega, by omega, by omega, ht, by omega, by rw [f3, f4, f5, f6, e12]; exact h9, by rw [f7, f8, e15]; exact h10⟩
theorem core_2 {T : Int → Int} {q : Prop} (h0 : T 0 = 0) (h1 : T 1 = 159) (d : Int) : core T q 2 0 0 2 d := by
  have c1 := core_push (x := 0) (d := d) (d' := d) (core_0 (T := T) (q := q)) (by unfold sval; omega) (by unfold dreq; omega) (by unfold dnext; rw [if_neg (by omega), if_neg (by omega)]) (by omega) (by omega) (by decide)
  rw [up_eta h0] at c1
  have c2 := core_push (x := 159) (d := d) c1 (by unfold sval; omega) (by unfold dreq; omega) (by unfold dnext; rw [if_neg (by omega), if_neg (by omega)]) (by omega) (by omega) (by decide)
  rw [show (0 : Int) + 1 = 1 by omega, up_eta h1] at c2
  exact c2
def mB (g : Nat → Int) : Int := 20 * (2 * (g 1 - g 2) + 1) - 20 + 14
theorem st_bg {g g' : Nat → Int} {a a' : Nat → Int → Int} {c w : Int} (h : rM g a) (hw : w = 1 ∨ w = 6) (c0 : 0 ≤ c) (c1 : c < 14) (hb : a 5 c = -1) (e7 : g' 7 = g 7 + 2) (e8 : g' 8 = g 8) (e9 : g' 9 = c) (e12 : g' 12 = g 12) (e15 : g' 15 = g 15) (e1 : g' 1 = g 1) (f3 : a' 3 = a 3) (f4 : a' 4 = a 4) (f5 : a' 5 = up (a 5) c (g 12)) (f6 : a' 6 = a 6) (f7 : a' 7 = a 7) (f8 : a' 8 = a 8) (hn : nxt g g') (eT : a' 2 = up (up (a 2) (g 7) 13) (g 7 + 1) w) : rPn g' a' (g' 7) ∧ mz g' a' (g' 7) ≤ mB g := by
  obtain ⟨h1, h2, h3, h4, h5, h6, h7, h8, h9, h10⟩ := h
  have k2 := core_2 (T := a 2) (q := a' 5 (g' 9) = g 12) h2 h3 1
  have hq : a' 5 (g' 9) = g 12 := by rw [f5, e9, up_self]
  have k3 := core_push (x := 13) (d := 1) k2 (by unfold sval; omega) (by unfold dreq; omega) (by decide) (fun _ => hq) (by omega) (by decide)
  have lw0 : lw w = 0 := by rcases hw with rfl | rfl <;> decide
  have pw0 : pw w = 0 := by rcases hw with rfl | rfl <;> decide
  have ww0 := ww_b w
  have k4 := core_push (x := w) (d := 0) k3 (by unfold sval; omega) (by unfold dreq; omega) (by rcases hw with rfl | rfl <;> decide) (by omega) (by omega) (by rcases hw with rfl | rfl <;> decide)
  have l1 : lw 13 = 0 := by decide
  have p1 : pw 13 = 0 := by decide
  have w1 : ww 13 = 1 := by decide
  rw [h1] at eT
  have k5 := core_e k4 (T' := a' 2) eT (n' := g' 7) (by omega) (D' := g' 8) (by omega)
  have t2 := nxt_t hn
  have t3 := hn.2.1
  have t1 := tkk_0 h7
  have t4 : 2 * (g 1 - g' 2) + tkk (g' 3) + 1 ≤ 2 * (g 1 - g 2) + 1 := by
    rcases hn.2.2 with q | q
    · rw [q, tkk_z]; have := hn.1; omega
    · have := tkk_b (g' 3); omega
  refine ⟨⟨g 12, 0, _, _, k5, by omega, by omega, by omega, by rw [f3, f4, e12]; exact cdp_0 h8, by rw [f3, f4, f5, f6, e12]; exact slt_begin h9 hb c0 c1 h8, by rw [f7, f8, e15]; exact h10⟩, ?_⟩
  unfold mz mB
  rw [← core_W k5, e1]
  omega
theorem st_sk {g g' g1 : Nat → Int} {a a' : Nat → Int → Int} {x y : Int} (h : rM g a) (hx : x + y ≤ 600) (e7 : g' 7 = g 7) (e8 : g' 8 = g 8) (e9 : g' 9 = g 9) (e12 : g' 12 = g 12) (e15 : g' 15 = g 15 + 1) (e1 : g' 1 = g 1) (f3 : a' 3 = a 3) (f4 : a' 4 = a 4) (f5 : a' 5 = a 5) (f6 : a' 6 = a 6) (f7 : a' 7 = up (a 7) (g 15) x) (f8 : a' 8 = up (a 8) (g 15) y) (ht1 : g1 3 ≠ 0) (e11 : g1 1 = g 1) (hn : nxt g g1) (hn1 : nxt g1 g') (eT : a' 2 = a 2) : rPn g' a' (g' 7) ∧ mz g' a' (g' 7) ≤ mB g := by
  obtain ⟨h1, h2, h3, h4, h5, h6, h7, h8, h9, h10⟩ := h
  have k5 := core_e (core_2 (T := a 2) (q := a' 5 (g' 9) = g 12) h2 h3 0) (T' := a' 2) eT (n' := g' 7) (by omega) (D' := g' 8) (by omega)
  have t2 := nxt_t hn1
  have t3 := hn1.2.1
  have t5 := hn.1
  have t6 := hn.2.2
  have t7 := hn1.1
  have tb := tkk_b (g' 3)
  by_cases hb : a' 5 (g' 9) = g 12 <;>
  · refine ⟨⟨g 12, 0, _, _, k5, by omega, by omega, by omega, by rw [f3, f4, e12]; exact cdp_0 h8, by rw [f3, f4, f5, f6, e12]; exact h9, by rw [f7, f8, e15]; exact skp_s h10 hx⟩, ?_⟩
    unfold mz mB
    rw [← core_W k5, e1]
    omega
theorem st_ch {g g' g1 : Nat → Int} {a a' : Nat → Int → Int} {c y : Int} (h : rM g a) (c0 : 0 ≤ c) (c1 : c < 14) (hb : a 5 c = -1) (e7 : g' 7 = g 7) (e8 : g' 8 = g 8) (e9 : g' 9 = g 9) (e12 : g' 12 = g 12 + 1) (e15 : g' 15 = g 15) (e1 : g' 1 = g 1) (f3 : a' 3 = up (a 3) (g 12) 0) (f4 : a' 4 = up (a 4) (g 12) y) (f5 : a' 5 = up (a 5) c (g 12)) (f6 : a' 6 = up (a 6) c (g 12 + 1)) (f7 : a' 7 = a 7) (f8 : a' 8 = a 8) (ht1 : g1 3 ≠ 0) (e11 : g1 1 = g 1) (hn : nxt g g1) (hn1 : nxt g1 g') (eT : a' 2 = a 2) : rPn g' a' (g' 7) ∧ mz g' a' (g' 7) ≤ mB g := by
  obtain ⟨h1, h2, h3, h4, h5, h6, h7, h8, h9, h10⟩ := h
  have k5 := core_e (core_2 (T := a 2) (q := a' 5 (g' 9) = g 12 + 1) h2 h3 0) (T' := a' 2) eT (n' := g' 7) (by omega) (D' := g' 8) (by omega)
  have t2 := nxt_t hn1
  have t3 := hn1.2.1
  have t5 := hn.1
  have t6 := hn.2.2
  have t7 := hn1.1
  have tb := tkk_b (g' 3)
  have s1 := slt_emit (o := 0) (y := y) (slt_begin h9 hb c0 c1 h8)
  have s2 : slt (up (a 3) (g 12) 0) (up (a 4) (g 12) y) (up (a 5) c (g 12)) (up (a 6) c (g 12 + 1)) (g 12 + 1) := slt_close s1 (d := 0 + 1) (by rw [up_self]; exact cdp_emit (cdp_0 h8) (Or.inl ⟨rfl, rfl⟩))
  refine ⟨⟨g 12 + 1, 0, _, _, k5, by omega, by omega, by omega, by rw [e12]; exact cdp_0 (by omega), by rw [f3, f4, f5, f6, e12]; exact s2, by rw [f7, f8, e15]; exact h10⟩, ?_⟩
  unfold mz mB
  rw [← core_W k5, e1]
  omega
/-- what a CLAUSE's start costs -/
theorem mB_lt {g g' : Nat → Int} {a a' : Nat → Int → Int} {M : Int} (h : rPn g a (g 7 + 1)) (h7 : 0 ≤ g 7) (hs : a 2 (g 7) = 0) (ht : g 3 ≠ 0) (e1 : g' 1 = g 1) (e2 : g 2 ≤ g' 2) (hM : M ≤ mB g') : M < mz g a (g 7 + 1) := by
  obtain ⟨b, d, P, W, c0, r0, k0, q0, z0, u8, uat, u2, ucd, us, uk, hM0⟩ := pop_n h h7 hs
  have hW : 0 ≤ W := by rw [core_W c0]; exact sm_nn (fun s => by have := ww_b s; omega) _ _
  have w1 : ww 0 = 1 := by decide
  have t1 := tkk_0 ht
  unfold mB at hM
  rw [hM0, t1]
  omega
def rP1 (g : Nat → Int) (a : Nat → Int → Int) : Prop := rPn g a (g 7 + 1)
theorem tk_ne {t k : Int} (h : t = k) (hk : 0 < k) : t ≠ 0 := by omega
theorem mz_nn {g : Nat → Int} {a : Nat → Int → Int} {n : Int} (h : rPn g a n) : 0 ≤ mz g a n := by
  obtain ⟨b, d, P, W, c, h8, hat, h2, hcd, -, -⟩ := h
  unfold mz
  have := sm_nn (fun s => by have := ww_b s; omega) (a 2) n.toNat (w := ww)
  have := tkk_b (g 3)
  omega
/-- the slots at the start -/
def sl0 (f h : Int → Int) (n : Int) : Prop := ∀ c : Int, 0 ≤ c → c < n → f c = -1 ∧ h c = -1
theorem sl0_0 {f h : Int → Int} : sl0 f h 0 := fun c h0 h1 => by omega
theorem sl0_s {f f' h h' : Int → Int} {n : Int} (q : sl0 f h n) (e : f' = up f n (-1)) (e2 : h' = up h n (-1)) : sl0 f' h' (n + 1) := fun c h0 h1 => by
  subst e e2
  by_cases k : c = n
  · subst k; rw [up_self, up_self]; exact ⟨rfl, rfl⟩
  · rw [up_ne _ _ k, up_ne _ _ k]; exact q c h0 (by omega)
theorem rPn_0 {g : Nat → Int} {a : Nat → Int → Int} {T : Int → Int} {f h : Int → Int} (q : sl0 f h 14) (e5 : a 5 = f) (e6 : a 6 = h) (e7 : g 7 = 1) (e8 : g 8 = 0) (e12 : g 12 = 0) (e15 : g 15 = 0) (eT : a 2 = up T 0 0) (hn : tkk (g 3) ≤ g 2) (h2 : g 2 ≤ g 1) : rPn g a (g 7) := by
  have c1 := core_push (x := 0) (d := 0) (d' := 0) (core_0 (T := T) (q := a 5 (g 9) = 0)) (by unfold sval; omega) (by unfold dreq; omega) (by decide) (by omega) (by omega) (by decide)
  have c2 := core_e c1 eT (n' := g 7) (by omega) (D' := g 8) (by rw [e8]; decide)
  refine ⟨0, 0, _, _, c2, by omega, ?_, h2, by rw [e12]; exact cdp_0 (by omega), ?_, by rw [e15]; exact fun i h0 h1 => by omega⟩
  · rw [show (0 : Int) + pw 0 = 0 by decide]; omega
  · intro c h0 h1
    have := q c h0 h1
    rw [e5, e6]; exact Or.inl this
def rF (g : Nat → Int) (a : Nat → Int → Int) : Prop := slt (a 3) (a 4) (a 5) (a 6) (g 12) ∧ skp (a 7) (a 8) (g 15)
theorem rF_of {g : Nat → Int} {a : Nat → Int → Int} {n : Int} (h : rPn g a n) : rF g a := by
  obtain ⟨b, d, P, W, c, h8, hat, h2, hcd, h1, h3⟩ := h
  exact ⟨h1, h3⟩
/-- going on: one less to come -/
theorem rP1_of {g g' : Nat → Int} {a : Nat → Int → Int} (h : rPn g a (g 7)) (e : g' 7 = g 7 - 1) (e1 : g' 1 = g 1) (e2 : g' 2 = g 2) (e3 : g' 3 = g 3) (e8 : g' 8 = g 8) (e9 : g' 9 = g 9) (e12 : g' 12 = g 12) (e15 : g' 15 = g 15) : rP1 g' a ∧ mz g' a (g' 7 + 1) = mz g a (g 7) := by
  unfold rP1 rPn mz
  rw [show g' 7 + 1 = g 7 by omega, e1, e2, e3, e8, e9, e12, e15]
  exact ⟨h, rfl⟩

/-- every SHEET's rows of code can be reckoned; what is put in force is a SHEET -/
def rSh (g : Nat → Int) (a : Nat → Int → Int) : Prop := (∀ k : Int, 0 ≤ k → k < g 26 → a 16 k < g 18) ∧ ∀ s c : Int, 0 ≤ s → s < g 18 → 0 ≤ c → c < 14 → a 12 (14 * s + c) ≤ a 11 (14 * s + c) ∨ (0 ≤ a 11 (14 * s + c) ∧ ∃ d, cdp (a 9) (a 10) (600 * s + a 11 (14 * s + c)) (600 * s + a 12 (14 * s + c)) d)
theorem rSh_t {g g' : Nat → Int} {a a' : Nat → Int → Int} (e1 : g' 18 = g 18) (e2 : g' 26 = g 26) (e9 : a' 9 = a 9) (e10 : a' 10 = a 10) (e11 : a' 11 = a 11) (e12 : a' 12 = a 12) (e16 : a' 16 = a 16) (h : rSh g a) : rSh g' a' := by
  unfold rSh
  rw [e1, e2, e9, e10, e11, e12, e16]; exact h
theorem rSh_force {g g' : Nat → Int} {a a' : Nat → Int → Int} {x : Int} (h : rSh g a) (e1 : g' 18 = g 18) (e2 : g' 26 = g 26 + 1) (e9 : a' 9 = a 9) (e10 : a' 10 = a 10) (e11 : a' 11 = a 11) (e12 : a' 12 = a 12) (e16 : a' 16 = up (a 16) (g 26) x) (hx : x < g 18) : rSh g' a' := by
  unfold rSh
  rw [e1, e2, e9, e10, e11, e12, e16]
  refine ⟨fun k h0 h1 => ?_, h.2⟩
  by_cases e : k = g 26
  · subst e; rw [up_self]; exact hx
  · rw [up_ne _ _ e]; exact h.1 k h0 (by omega)
def cpI (f f0 h : Int → Int) (b n : Int) : Prop := (∀ k : Int, 0 ≤ k → k < n → f (b + k) = h k) ∧ ∀ k : Int, k < b → f k = f0 k
theorem cpI_0 {f f0 h : Int → Int} {b : Int} (e : f = f0) : cpI f f0 h b 0 := ⟨fun k h0 h1 => by omega, fun k _ => by rw [e]⟩
theorem cpI_s {f f' f0 h : Int → Int} {b n w : Int} (q : cpI f f0 h b n) (e : f' = up f (b + n) w) (ew : w = h n) (hn : 0 ≤ n) : cpI f' f0 h b (n + 1) := by
  subst e
  refine ⟨fun k h0 h1 => ?_, fun k h0 => ?_⟩
  · by_cases c : k = n
    · subst c; rw [up_self]; exact ew
    · rw [up_ne _ _ (by omega)]; exact q.1 k h0 (by omega)
  · rw [up_ne _ _ (by omega)]; exact q.2 k h0
theorem rSh_new {g g' gr : Nat → Int} {a a' ar_ : Nat → Int → Int} {f9 f10 f11 f12 : Int → Int} (hI : mI g a) (hI' : mI g' a') (h : rSh g a) (hF : rF gr ar_) (c9 : cpI f9 (a 9) (ar_ 3) (600 * g 18) (gr 12)) (c10 : cpI f10 (a 10) (ar_ 4) (600 * g 18) (gr 12)) (c11 : cpI f11 (a 11) (ar_ 5) (14 * g 18) 14) (c12 : cpI f12 (a 12) (ar_ 6) (14 * g 18) 14) (e9 : a' 9 = f9) (e10 : a' 10 = f10) (e11 : a' 11 = f11) (e12 : a' 12 = f12) (e16 : a' 16 = a 16) (e18 : g' 18 = g 18 + 1) (e26 : g' 26 = g 26) : rSh g' a' := by
  unfold rSh
  rw [e9, e10, e11, e12, e16, e18, e26]
  refine ⟨fun k h0 h1 => by have := h.1 k h0 h1; omega, fun s c s0 s1 c0 c1 => ?_⟩
  by_cases e : s = g 18
  · subst e
    rw [c11.1 c c0 c1, c12.1 c c0 c1]
    rcases hF.1 c c0 c1 with q | ⟨q0, q | ⟨q1, d, q2⟩⟩
    · exact Or.inl (by omega)
    · exact Or.inl q
    · refine Or.inr ⟨q0, d, by omega, by have := q2.2.1; omega, ?_⟩
      have hb := q2.2.1
      rw [show (600 * g 18 + ar_ 6 c - (600 * g 18 + ar_ 5 c)).toNat = (ar_ 6 c - ar_ 5 c).toNat by omega]
      refine cod_c (fun i hi => ⟨?_, ?_⟩) q2.2.2
      · rw [show 600 * g 18 + ar_ 5 c + (i : Int) = 600 * g 18 + (ar_ 5 c + i) by omega]; exact c9.1 _ (by omega) (by omega)
      · rw [show 600 * g 18 + ar_ 5 c + (i : Int) = 600 * g 18 + (ar_ 5 c + i) by omega]; exact c10.1 _ (by omega) (by omega)
  · rw [c11.2 _ (by omega), c12.2 _ (by omega)]
    rcases h.2 s c s0 (by omega) c0 c1 with q | ⟨q0, d, q1, q2, q3⟩
    · exact Or.inl q
    · refine Or.inr ⟨q0, d, q1, q2, cod_c (fun i hi => ?_) q3⟩
      have hb : a 12 (14 * s + c) ≤ 600 := (hI.2 12 _).2
      exact ⟨c9.2 _ (by omega), c10.2 _ (by omega)⟩
/-- reckoning a row of code: k is reached, and t numbers stand -/
def rkI (w x : Int → Int) (B E k t : Int) : Prop := (E ≤ B ∧ k = B ∧ t = 0) ∨ (B ≤ k ∧ cod w x B (k - B).toNat t ∧ E - B ≤ 600 ∧ ∃ d, cdp w x B E d)
theorem rkI_0 {w x : Int → Int} {B E : Int} (h : E ≤ B ∨ (E - B ≤ 600 ∧ ∃ d, cdp w x B E d)) : rkI w x B E B 0 := by
  rcases h with h | h
  · exact Or.inl ⟨h, rfl, rfl⟩
  · refine Or.inr ⟨by omega, ?_, h.1, h.2⟩
    rw [show (B - B).toNat = 0 by omega]; rfl
theorem rkI_c {w x : Int → Int} {B E k k' t t' : Int} (h : rkI w x B E k t) (ek : k' = k) (et : t' = t) : rkI w x B E k' t' := by subst ek et; exact h
theorem cod_pre {w x : Int → Int} {b : Int} : ∀ {n : Nat} {d : Int}, cod w x b n d → ∀ m : Nat, m ≤ n → ∃ d', cod w x b m d'
  | 0, d, h, m, hm => ⟨d, by rw [show m = 0 by omega]; exact h⟩
  | n + 1, d, h, m, hm => by
    by_cases e : m = n + 1
    · exact ⟨d, by rw [e]; exact h⟩
    · unfold cod at h
      rcases h with k | k | k | k
      · exact cod_pre k.2 m (by omega)
      · exact cod_pre k.2.2.2 m (by omega)
      · exact cod_pre k.2.2 m (by omega)
      · exact cod_pre k.2.2.2 m (by omega)
theorem cod_det {w x : Int → Int} {b : Int} : ∀ {n : Nat} {d d' : Int}, cod w x b n d → cod w x b n d' → d = d'
  | 0, d, d', h, h' => by have a : d = 0 := h; have b : d' = 0 := h'; omega
  | n + 1, d, d', h, h' => by
    unfold cod at h h'
    rcases h with k | k | k | k <;> rcases h' with q | q | q | q <;> first | omega | skip
    · have := cod_det k.2 q.2; omega
    · have := cod_det k.2.2.2 q.2.2.2; omega
    · have := cod_det k.2.2 q.2.2; omega
    · have := cod_det k.2.2.2 q.2.2.2; omega
theorem rk_st {w x : Int → Int} {B E k t : Int} (h : rkI w x B E k t) (hk : k < E) (hB : 0 ≤ B) : (0 ≤ t ∧ t < 600) ∧ (w k = 0 ∨ (w k = 1 ∧ 0 ≤ x k ∧ x k ≤ 8) ∨ (w k = 11 ∧ 1 ≤ t) ∨ (2 ≤ w k ∧ w k ≤ 10 ∧ 2 ≤ t)) ∧ (w k ≤ 1 → rkI w x B E (k + 1) (t + 1)) ∧ (w k = 11 → rkI w x B E (k + 1) t) ∧ ((2 ≤ w k ∧ w k ≤ 10) → rkI w x B E (k + 1) (t - 1)) := by
  rcases h with h | ⟨h1, h2, h3, d, h4⟩
  · omega
  · have nn := cod_nn h2
    obtain ⟨d', hd⟩ := cod_pre h4.2.2 ((k - B).toNat + 1) (by omega)
    have hd0 := hd
    unfold cod at hd
    have ek : B + (((k - B).toNat : Nat) : Int) = k := by omega
    rw [ek] at hd
    have go : ∀ t' : Int, d' = t' → rkI w x B E (k + 1) t' := fun t' e => Or.inr ⟨by omega, by rw [show (k + 1 - B).toNat = (k - B).toNat + 1 by omega]; rw [← e]; exact hd0, h3, d, h4⟩
    rcases hd with q | q | q | q
    · have := cod_det q.2 h2
      exact ⟨by omega, Or.inl q.1, fun _ => go _ (by omega), fun c => by omega, fun c => by omega⟩
    · have := cod_det q.2.2.2 h2
      exact ⟨by omega, Or.inr (Or.inl ⟨q.1, q.2.1, q.2.2.1⟩), fun _ => go _ (by omega), fun c => by omega, fun c => by omega⟩
    · have := cod_det q.2.2 h2
      exact ⟨by omega, Or.inr (Or.inr (Or.inl ⟨q.1, by omega⟩)), fun c => by omega, fun _ => go _ (by omega), fun c => by omega⟩
    · have := cod_det q.2.2.2 h2
      exact ⟨by omega, Or.inr (Or.inr (Or.inr ⟨q.1, q.2.1, by omega⟩)), fun c => by omega, fun c => by omega, fun _ => go _ (by omega)⟩
theorem rLine_new {g g' : Nat → Int} {a a' : Nat → Int → Int} {x : Int} (h : rLine g a) (e1 : g' 56 = g 56 + 1) (e2 : a' 45 = up (a 45) (g 56) x) (hx : x < g 56) : rLine g' a' := fun k h0 h1 => by
  rw [e2]
  by_cases e : k = g 56
  · subst e; rw [up_self]; exact hx
  · rw [up_ne _ _ e]; exact h k h0 (by omega)
theorem rSkill_new {g g' : Nat → Int} {a a' : Nat → Int → Int} {x : Int} (h : rSkill g a) (e1 : g' 50 = g 50 + 1) (e2 : a' 38 = up (a 38) (g 50) x) (hx : 1 ≤ x) : rSkill g' a' := fun k h0 h1 => by
  rw [e2]
  by_cases e : k = g 50
  · subst e; rw [up_self]; exact hx
  · rw [up_ne _ _ e]; exact h k h0 (by omega)
/-- a new ENTRY -/
theorem rLead_new {g g' : Nat → Int} {a a' : Nat → Int → Int} {k x : Int} (h : rLead g a) (e1 : g' 37 = g 37 + 1) (e2 : a' 27 = up (a 27) (g 37) k) (e3 : a' 31 = up (a 31) (g 37) x) (hx : k = 1 → 0 ≤ x ∧ x < g 37) : rLead g' a' := fun c h0 h1 h2 => by
  rw [e2] at h2; rw [e3, e1]
  by_cases e : c = g 37
  · subst e; rw [up_self] at h2 ⊢; have := hx h2; omega
  · rw [up_ne _ _ e] at h2 ⊢; have := h c h0 (by omega) h2; omega
theorem rLead_pt {g g' : Nat → Int} {a a' : Nat → Int → Int} {p x : Int} (h : rLead g a) (e1 : g' 37 = g 37) (e2 : a' 27 = a 27) (e3 : a' 31 = up (a 31) p x) (hx : 0 ≤ x ∧ x < g 37) : rLead g' a' := fun c h0 h1 h2 => by
  rw [e2] at h2; rw [e3, e1]
  by_cases e : c = p
  · subst e; rw [up_self]; exact hx
  · rw [up_ne _ _ e]; exact h c h0 (by omega) h2
theorem up_up {f : Int → Int} {k x y : Int} : up (up f k x) k y = up f k y := by
  funext i
  by_cases e : i = k
  · subst e; rw [up_self, up_self]
  · rw [up_ne _ _ e, up_ne _ _ e, up_ne _ _ e]

