/-! ===== what holds between the reference's rows, beside their ranges ===== -/
theorem up_c {f f' : Int → Int} {z z' v v' : Int} (h : f = f') (hz : z = z') (hv : v = v') : up f z v = up f' z' v' := by subst h hz hv; rfl
def rLine (g : Nat → Int) (a : Nat → Int → Int) : Prop := ∀ k : Int, 0 ≤ k → k < g 56 → a 45 k < k
theorem rLine_t {g g' : Nat → Int} {a a' : Nat → Int → Int} (e1 : g' 56 = g 56) (e2 : a' 45 = a 45) (h : rLine g a) : rLine g' a' := fun k h0 h1 => by rw [e2]; exact h k h0 (by omega)
def rLead (g : Nat → Int) (a : Nat → Int → Int) : Prop := ∀ k : Int, 0 ≤ k → k < g 37 → a 27 k = 1 → 0 ≤ a 31 k ∧ a 31 k < g 37
theorem rLead_t {g g' : Nat → Int} {a a' : Nat → Int → Int} (e1 : g' 37 = g 37) (e2 : a' 27 = a 27) (e3 : a' 31 = a 31) (h : rLead g a) : rLead g' a' := fun k h0 h1 h2 => by
  rw [e3, e1]; rw [e2] at h2; exact h k h0 (by omega) h2
def rSkill (g : Nat → Int) (a : Nat → Int → Int) : Prop := ∀ k : Int, 0 ≤ k → k < g 50 → 1 ≤ a 38 k
theorem rSkill_t {g g' : Nat → Int} {a a' : Nat → Int → Int} (e1 : g' 50 = g 50) (e2 : a' 38 = a 38) (h : rSkill g a) : rSkill g' a' := fun k h0 h1 => by rw [e2]; exact h k h0 (by omega)
/-- the chain of pointers -/
def itr (f : Int → Int) : Nat → Int → Int
  | 0, p => p
  | n + 1, p => f (itr f n p)
def chn (k27 k31 : Int → Int) (p e k : Int) : Prop := 0 ≤ k ∧ itr k31 k.toNat p = e ∧ ∀ i : Nat, (i : Int) < k → k27 (itr k31 i p) = 1
theorem chn_0 {k27 k31 : Int → Int} {p : Int} : chn k27 k31 p p 0 := ⟨by omega, rfl, fun i h => by omega⟩
theorem chn_s {k27 k31 : Int → Int} {p e k : Int} (h : chn k27 k31 p e k) (he : k27 e = 1) : chn k27 k31 p (k31 e) (k + 1) := by
  obtain ⟨h0, h1, h2⟩ := h
  refine ⟨by omega, ?_, fun i hi => ?_⟩
  · rw [show (k + 1).toNat = k.toNat + 1 by omega]
    show k31 (itr k31 k.toNat p) = _
    rw [h1]
  · by_cases q : (i : Int) < k
    · exact h2 i q
    · rw [show i = k.toNat by omega, h1]; exact he
/-- the way ends at z, which is no pointer -/
def fin (k27 k31 : Int → Int) (p z : Int) : Prop := ∃ k : Int, k ≤ 61 ∧ chn k27 k31 p z k ∧ k27 z ≠ 1
theorem fin_of {k27 k31 : Int → Int} {p z k : Int} (h : chn k27 k31 p z k) (hk : k ≤ 61) (hz : k27 z ≠ 1) : fin k27 k31 p z := ⟨k, hk, h, hz⟩
/-- short of the end one is at a pointer, and not past it -/
theorem chn_in {k27 k31 : Int → Int} {p e z i k : Int} (h : chn k27 k31 p e i) (hz : chn k27 k31 p z k) (hi : i ≤ k) (hne : e ≠ z) : i < k ∧ k27 e = 1 := by
  obtain ⟨h0, h1, -⟩ := h
  obtain ⟨g0, g1, g2⟩ := hz
  by_cases q : i = k
  · subst q; exact absurd (h1.symm.trans g1) hne
  · refine ⟨by omega, ?_⟩
    have := g2 i.toNat (by omega)
    rwa [h1] at this
theorem fin_e {f f' h h' : Int → Int} {p z : Int} (q : fin f f' p z) (e1 : f = h) (e2 : f' = h') : fin h h' p z := by subst e1 e2; exact q
theorem fin_1 {k27 k31 : Int → Int} {p z : Int} (h : fin k27 k31 p z) (hp : k27 p = 1) : ∃ k : Int, 1 ≤ k ∧ k ≤ 61 ∧ chn k27 k31 p z k ∧ k27 z ≠ 1 := by
  obtain ⟨k, h1, h2, h3⟩ := h
  refine ⟨k, ?_, h1, h2, h3⟩
  by_cases q : k = 0
  · subst q
    have q1 : p = z := h2.2.1
    exact absurd (q1 ▸ hp) h3
  · have := h2.1
    omega
section RD
variable {p : Program} {l : Launch} {e : Env} {R : Room} {s : State} {m : MethodId} {args : Array Value} {below : List Frame} {meth : Method} {c : Code} {H : Heap} {locs : List Loc} {cells slots : Nat} {Q : State → Prop}
variable {cc : ByteArray} {pc : Nat} {ls : Array Slot} {rest : List Value} {x y : Int}
theorem xr_divS (hx : p.tables.exec = Jvm.exec) (hb : c.code = cc) (hdg : decode cc pc = .ok (.idiv, 1)) (h0 : 0 ≤ x) (h1 : x ≤ 2147483647) (h2 : 0 < y) (h3 : y ≤ 2147483647) (k : (0 ≤ x / y ∧ x / y ≤ x) → W p l e R s m args below meth c H locs cells slots Q (F0 m (pc + 1) ls (.int (iI (x / y)) :: rest))) : W p l e R s m args below meth c H locs cells slots Q (F0 m pc ls (.int (iI y) :: .int (iI x) :: rest)) :=
  xr_div hx hb hdg h0 h1 h2 h3 (k ⟨Int.ediv_nonneg h0 (by omega), Int.ediv_le_self _ h0⟩)
theorem xr_remS (hx : p.tables.exec = Jvm.exec) (hb : c.code = cc) (hdg : decode cc pc = .ok (.irem, 1)) (h0 : 0 ≤ x) (h1 : x ≤ 2147483647) (h2 : 0 < y) (h3 : y ≤ 2147483647) (k : (0 ≤ x % y ∧ x % y < y) → W p l e R s m args below meth c H locs cells slots Q (F0 m (pc + 1) ls (.int (iI (x % y)) :: rest))) : W p l e R s m args below meth c H locs cells slots Q (F0 m pc ls (.int (iI y) :: .int (iI x) :: rest)) :=
  xr_rem hx hb hdg h0 h1 h2 h3 (k ⟨Int.emod_nonneg _ (by omega), Int.emod_lt_of_pos _ h2⟩)
end RD
def rFQ3 (n h : Int) (f : Int → Int) : Prop := ∀ j : Int, 0 ≤ j → j < n → 0 ≤ f j ∧ f j < h
theorem rFQ3_0 {n h : Int} {f : Int → Int} (hn : n = 0) : rFQ3 n h f := fun j h0 h1 => by omega
theorem rFQ3_s {n n' h h' x : Int} {f f' : Int → Int} (q : rFQ3 n h f) (hf : f' = up f n x) (hn : n' = n + 1) (hh : h' = h) (h0 : 0 ≤ x) (h1 : x < h) : rFQ3 n' h' f' := fun j j0 j1 => by
  subst hf hh
  by_cases e : j = n
  · subst e; rw [up_self]; exact ⟨h0, h1⟩
  · rw [up_ne _ _ e]; exact q j j0 (by omega)
theorem rFQ3_t {n n' h h' : Int} {f f' : Int → Int} (q : rFQ3 n h f) (hf : f' = f) (hn : n' = n) (hh : h' = h) : rFQ3 n' h' f' := by subst hf hn hh; exact q
def rFH (g : Nat → Int) (a : Nat → Int → Int) : Prop := ∀ j : Int, 0 ≤ j → j < g 97 → 1 ≤ a 38 (a 72 j)
theorem rFH_t {g g' : Nat → Int} {a a' : Nat → Int → Int} (e1 : g' 97 = g 97) (e2 : a' 38 = a 38) (e3 : a' 72 = a 72) (h : rFH g a) : rFH g' a' := fun j h0 h1 => by rw [e2, e3]; exact h j h0 (by omega)
theorem rFH_of {g g0 : Nat → Int} {a a0 : Nat → Int → Int} {n h : Int} {f : Int → Int} (q : rFQ3 n h f) (e : a 72 = f) (e2 : g 97 = n) (hs : rSkill g0 a0) (e3 : a 38 = a0 38) (e4 : h = g0 50) : rFH g a := fun j h0 h1 => by
  rw [e, e3]
  have := q j h0 (by omega)
  exact hs _ this.1 (by omega)
/-- how many of the first n come ahead of the place p, or stand in it ahead of l -/
def tc (f : Int → Int) (p l : Int) : Nat → Int
  | 0 => 0
  | n + 1 => tc f p l n + (if f (n : Int) < p ∨ (f (n : Int) = p ∧ (n : Int) < l) then 1 else 0)
theorem tc_le (f : Int → Int) (p l : Int) : ∀ n : Nat, 0 ≤ tc f p l n ∧ tc f p l n ≤ n
  | 0 => ⟨Int.le_refl _, Int.le_refl _⟩
  | n + 1 => by
    have h := tc_le f p l n
    unfold tc
    split <;> omega
theorem tc_out (f : Int → Int) (p l : Int) : ∀ n : Nat, (n : Int) ≤ l → tc f p (l + 1) n = tc f p l n
  | 0, _ => rfl
  | n + 1, h => by
    unfold tc
    rw [tc_out f p l n (by omega)]
    have e : (f (n : Int) < p ∨ (f (n : Int) = p ∧ (n : Int) < l + 1)) ↔ (f (n : Int) < p ∨ (f (n : Int) = p ∧ (n : Int) < l)) := by omega
    simp only [e]
theorem tc_s (f : Int → Int) (p l : Int) (h0 : 0 ≤ l) : ∀ n : Nat, l < n → tc f p (l + 1) n = tc f p l n + (if f l = p then 1 else 0)
  | 0, h => by omega
  | n + 1, h => by
    unfold tc
    by_cases q : l = n
    · subst q
      rw [tc_out f p n n (Int.le_refl _)]
      by_cases r : f (n : Int) = p
      · rw [if_pos (show f (n : Int) < p ∨ (f (n : Int) = p ∧ (n : Int) < (n : Int) + 1) by omega), if_neg (show ¬ (f (n : Int) < p ∨ (f (n : Int) = p ∧ (n : Int) < n)) by omega), if_pos r]; omega
      · have e : (f (n : Int) < p ∨ (f (n : Int) = p ∧ (n : Int) < (n : Int) + 1)) ↔ (f (n : Int) < p ∨ (f (n : Int) = p ∧ (n : Int) < n)) := by omega
        simp only [e, if_neg r]; omega
    · rw [tc_s f p l h0 n (by omega)]
      have e : (f (n : Int) < p ∨ (f (n : Int) = p ∧ (n : Int) < l + 1)) ↔ (f (n : Int) < p ∨ (f (n : Int) = p ∧ (n : Int) < l)) := by omega
      simp only [e]; omega
theorem tc_p (f : Int → Int) (p l : Int) : ∀ n : Nat, (n : Int) ≤ l → tc f p l n = tc f (p + 1) 0 n
  | 0, _ => rfl
  | n + 1, h => by
    unfold tc
    rw [tc_p f p l n (by omega)]
    have e : (f (n : Int) < p ∨ (f (n : Int) = p ∧ (n : Int) < l)) ↔ (f (n : Int) < p + 1 ∨ (f (n : Int) = p + 1 ∧ (n : Int) < 0)) := by omega
    simp only [e]

