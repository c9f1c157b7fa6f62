def opt (z : Int) : Option Nat := if z < 0 then none else some z.toNat
def rv (z : Int) : Value := va_rf (opt z)
theorem rv_ref {z : Int} (h : 0 ≤ z) : rv z = .ref z.toNat := by unfold rv opt; rw [if_neg (by omega)]; rfl
theorem rv_null {z : Int} (h : z < 0) : rv z = .null := by unfold rv opt; rw [if_pos h]; rfl
theorem rv_some {z : Int} (h : 0 ≤ z) : some z.toNat = opt z := by unfold opt; rw [if_neg (by omega)]
theorem rv_nul : (.null : Value) = rv (-1) := rfl
theorem rv_or (z : Int) : rv z = .null ∨ ∃ q : Nat, rv z = .ref q := by
  by_cases h : z < 0
  · exact Or.inl (rv_null h)
  · exact Or.inr ⟨_, rv_ref (by omega)⟩
def lL (z : Int) : Int64 := Int64.ofInt z
theorem lL_of (x : Int64) : x = lL x.toInt := (Int64.ofInt_toInt x).symm
def al (f : Int → Int) : Nat → Int64 := fun j => lL (f j)
def ao (f : Int → Int) : Nat → Option Nat := fun j => opt (f j)
theorem al_up {f : Int → Int} {z v : Int} (h0 : 0 ≤ z) (h1 : z ≤ 2147483647) : vp_updL (al f) (iI z).toNatClampNeg (lL v) = al (up f z v) := by
  rw [iI_clamp h0 h1]; funext j; unfold vp_updL al up
  by_cases h : j = z.toNat
  · rw [if_pos h, if_pos (show (j : Int) = z by omega)]
  · rw [if_neg h, if_neg (show ¬ (j : Int) = z by omega)]
theorem ao_up {f : Int → Int} {z v : Int} (h0 : 0 ≤ z) (h1 : z ≤ 2147483647) (hv : 0 ≤ v) : va_up (ao f) (iI z).toNatClampNeg (some v.toNat) = ao (up f z v) := by
  rw [iI_clamp h0 h1, rv_some hv]; funext j; unfold va_up ao up
  by_cases h : j = z.toNat
  · rw [if_pos h, if_pos (show (j : Int) = z by omega)]
  · rw [if_neg h, if_neg (show ¬ (j : Int) = z by omega)]
theorem al_at {f : Int → Int} {z : Int} (h0 : 0 ≤ z) (h1 : z ≤ 2147483647) : al f (iI z).toNatClampNeg = lL (f z) := by rw [iI_clamp h0 h1]; unfold al; rw [Int.toNat_of_nonneg h0]
theorem ao_at {f : Int → Int} {z : Int} (h0 : 0 ≤ z) (h1 : z ≤ 2147483647) : ao f (iI z).toNatClampNeg = opt (f z) := by rw [iI_clamp h0 h1]; unfold ao; rw [Int.toNat_of_nonneg h0]
def ok (L : List Nat) (K : Int → Nat) (z : Int) (k : Nat) : Prop := 0 ≤ z ∧ z.toNat ∈ L ∧ K z = k
def vu (v : Int → Int → Int) (z j y : Int) : Int → Int → Int := fun a i => if a = z ∧ i = j then y else v a i
theorem vu_self (v : Int → Int → Int) (z j y : Int) : vu v z j y z j = y := if_pos ⟨rfl, rfl⟩
theorem vu_ne (v : Int → Int → Int) {z j y a i : Int} (h : ¬ (a = z ∧ i = j)) : vu v z j y a i = v a i := if_neg h
theorem vu_at (v : Int → Int → Int) (z j y : Int) : vu v z j y z = up (v z) j y := by
  funext i; unfold vu up
  by_cases h : i = j
  · rw [if_pos ⟨rfl, h⟩, if_pos h]
  · rw [if_neg (fun q => h q.2), if_neg h]
theorem vu_other (v : Int → Int → Int) {z j y a : Int} (h : a ≠ z) : vu v z j y a = v a := by
  funext i; unfold vu; rw [if_neg (fun q => h q.1)]
def xk (cid : Nat → ClassId) (k : Nat) (n : Int) (f : Int → Int) : va_E := match k with
  | 0 => .inr (0, [.int (iI (f 0)), .int (iI (f 1)), rv (f 2), .long (lL (f 3)), .int (iI (f 4)), .int (iI (f 5)), .int (iI (f 6)), .int (iI (f 7)), .int (iI (f 8)), .int (iI (f 9)), .int (iI (f 10)), .int (iI (f 11)), .int (iI (f 12)), .int (iI (f 13)), .int (iI (f 14)), .int (iI (f 15)), .long (lL (f 16)), .int (iI (f 17))])
  | 1 => .inr (1, [rv (f 0), rv (f 1), rv (f 2), .int (iI (f 3)), rv (f 4), rv (f 5), rv (f 6), .int (iI (f 7)), rv (f 8), rv (f 9)])
  | 2 => .inr (2, [.int (iI (f 0)), .int (iI (f 1)), .int (iI (f 2)), .int (iI (f 3)), .int (iI (f 4)), .int (iI (f 5))])
  | 3 => .inr (3, [rv (f 0), rv (f 1), rv (f 2), rv (f 3), rv (f 4), .int (iI (f 5)), .int (iI (f 6))])
  | 4 => .inr (4, [.int (iI (f 0)), .int (iI (f 1)), .int (iI (f 2)), .int (iI (f 3)), .int (iI (f 4)), .int (iI (f 5)), .int (iI (f 6)), .int (iI (f 7)), .int (iI (f 8))])
  | 5 => .inr (5, [rv (f 0), rv (f 1), rv (f 2), rv (f 3), rv (f 4), .int (iI (f 5)), rv (f 6), rv (f 7), rv (f 8), rv (f 9), rv (f 10), .int (iI (f 11))])
  | 6 => .inr (6, [rv (f 0), .int (iI (f 1)), .int (iI (f 2)), .int (iI (f 3)), .int (iI (f 4)), .int (iI (f 5))])
  | 7 => .inr (7, [rv (f 0), .int (iI (f 1)), rv (f 2), rv (f 3), rv (f 4), rv (f 5), .int (iI (f 6)), .int (iI (f 7)), .int (iI (f 8)), rv (f 9), .int (iI (f 10)), rv (f 11), rv (f 12), rv (f 13), .int (iI (f 14))])
  | 8 => .inr (8, [rv (f 0), .int (iI (f 1)), rv (f 2), rv (f 3), rv (f 4), .int (iI (f 5)), rv (f 6), rv (f 7)])
  | 9 => .inr (9, [rv (f 0), rv (f 1), rv (f 2), rv (f 3)])
  | 10 => .inr (10, [rv (f 0), .int (iI (f 1)), rv (f 2)])
  | 11 => .inr (11, [.int (iI (f 0)), .int (iI (f 1)), rv (f 2), rv (f 3), .int (iI (f 4)), .int (iI (f 5)), .int (iI (f 6))])
  | 12 => .inr (12, [.int (iI (f 0)), .int (iI (f 1)), rv (f 2), rv (f 3), rv (f 4), rv (f 5), rv (f 6), .int (iI (f 7)), rv (f 8), .int (iI (f 9)), rv (f 10), .int (iI (f 11)), rv (f 12), .int (iI (f 13)), rv (f 14), rv (f 15), rv (f 16), rv (f 17), rv (f 18), rv (f 19)])
  | 13 => .inr (9, [rv (f 0), rv (f 1), rv (f 2), rv (f 3)])
  | 20 => .inl (cid 1, Int.toNat n, .inl (ar f))
  | 21 => .inl (cid 0, Int.toNat n, .inl (ar f))
  | 22 => .inl (cid 0, Int.toNat n, .inl (ar f))
  | 23 => .inl (cid 0, Int.toNat n, .inl (ar f))
  | 24 => .inl (cid 0, Int.toNat n, .inl (ar f))
  | 25 => .inl (cid 0, Int.toNat n, .inl (ar f))
  | 26 => .inl (cid 0, Int.toNat n, .inl (ar f))
  | 27 => .inl (cid 0, Int.toNat n, .inl (ar f))
  | 28 => .inl (cid 3, Int.toNat n, .inr (.inl (al f)))
  | 29 => .inl (cid 7, Int.toNat n, .inr (.inr (.inr (.inr (ao f)))))
  | 30 => .inl (cid 0, Int.toNat n, .inl (ar f))
  | 31 => .inl (cid 0, Int.toNat n, .inl (ar f))
  | 32 => .inl (cid 0, Int.toNat n, .inl (ar f))
  | 33 => .inl (cid 0, Int.toNat n, .inl (ar f))
  | 34 => .inl (cid 0, Int.toNat n, .inl (ar f))
  | 35 => .inl (cid 8, Int.toNat n, .inr (.inr (.inr (.inr (ao f)))))
  | 36 => .inl (cid 4, Int.toNat n, .inr (.inr (.inr (.inr (ao f)))))
  | 37 => .inl (cid 0, Int.toNat n, .inl (ar f))
  | 38 => .inl (cid 5, Int.toNat n, .inr (.inr (.inr (.inr (ao f)))))
  | 39 => .inl (cid 6, Int.toNat n, .inr (.inr (.inr (.inr (ao f)))))
  | 40 => .inl (cid 0, Int.toNat n, .inl (ar f))
  | 41 => .inl (cid 0, Int.toNat n, .inl (ar f))
  | 42 => .inl (cid 0, Int.toNat n, .inl (ar f))
  | 43 => .inl (cid 0, Int.toNat n, .inl (ar f))
  | 44 => .inl (cid 0, Int.toNat n, .inl (ar f))
  | 45 => .inl (cid 0, Int.toNat n, .inl (ar f))
  | 46 => .inl (cid 0, Int.toNat n, .inl (ar f))
  | 47 => .inl (cid 0, Int.toNat n, .inl (ar f))
  | 48 => .inl (cid 0, Int.toNat n, .inl (ar f))
  | 49 => .inl (cid 0, Int.toNat n, .inl (ar f))
  | 50 => .inl (cid 0, Int.toNat n, .inl (ar f))
  | 51 => .inl (cid 2, Int.toNat n, .inl (ar f))
  | 52 => .inl (cid 0, Int.toNat n, .inl (ar f))
  | 53 => .inl (cid 0, Int.toNat n, .inl (ar f))
  | 54 => .inl (cid 0, Int.toNat n, .inl (ar f))
  | 55 => .inl (cid 0, Int.toNat n, .inl (ar f))
  | 56 => .inl (cid 0, Int.toNat n, .inl (ar f))
  | 57 => .inl (cid 0, Int.toNat n, .inl (ar f))
  | 58 => .inl (cid 0, Int.toNat n, .inl (ar f))
  | 59 => .inl (cid 0, Int.toNat n, .inl (ar f))
  | 60 => .inl (cid 2, Int.toNat n, .inl (ar f))
  | 61 => .inl (cid 0, Int.toNat n, .inl (ar f))
  | 62 => .inl (cid 0, Int.toNat n, .inl (ar f))
  | 63 => .inl (cid 0, Int.toNat n, .inl (ar f))
  | 64 => .inl (cid 0, Int.toNat n, .inl (ar f))
  | 65 => .inl (cid 1, Int.toNat n, .inl (ar f))
  | 66 => .inl (cid 0, Int.toNat n, .inl (ar f))
  | 67 => .inl (cid 0, Int.toNat n, .inl (ar f))
  | 68 => .inl (cid 0, Int.toNat n, .inl (ar f))
  | 69 => .inl (cid 3, Int.toNat n, .inr (.inl (al f)))
  | _ => .inr (0, [])
def xC (cid : Nat → ClassId) (K : Int → Nat) (N : Int → Int) (v : Int → Int → Int) (z : Int) : va_E := xk cid (K z) (N z) (v z)
def xG (L : List Nat) (cid : Nat → ClassId) (K : Int → Nat) (N : Int → Int) (v : Int → Int → Int) : va_W := va_pl L (fun a => xC cid K N v (a : Int))
def xT (cid : Nat → ClassId) : List (ClassId × FieldType) := [(cid 0, .int), (cid 1, .byte), (cid 2, .boolean), (cid 3, .long), (cid 4, .object RX0), (cid 5, .object RX2), (cid 6, .object RX4), (cid 7, .object RX9), (cid 8, .object RX11)]
def xF0 (L : List Nat) (K : Int → Nat) (j : Nat) (y : Int) : Prop := match j with
  | 0 => (-2147483648) ≤ y ∧ y ≤ 2147483647
  | 1 => (-2147483648) ≤ y ∧ y ≤ 2147483647
  | 2 => ok L K y 65
  | 4 => (-2147483648) ≤ y ∧ y ≤ 2147483647
  | 5 => (-2147483648) ≤ y ∧ y ≤ 2147483647
  | 6 => (-2147483648) ≤ y ∧ y ≤ 2147483647
  | 7 => (-2147483648) ≤ y ∧ y ≤ 2147483647
  | 8 => (-2147483648) ≤ y ∧ y ≤ 2147483647
  | 9 => 0 ≤ y ∧ y ≤ 200
  | 10 => (-2147483648) ≤ y ∧ y ≤ 2147483647
  | 11 => (-2147483648) ≤ y ∧ y ≤ 2147483647
  | 12 => (-2147483648) ≤ y ∧ y ≤ 2147483647
  | 13 => (-2147483648) ≤ y ∧ y ≤ 2147483647
  | 14 => (-2147483648) ≤ y ∧ y ≤ 2147483647
  | 15 => 0 ≤ y ∧ y ≤ 200
  | 17 => (-2147483648) ≤ y ∧ y ≤ 2147483647
  | _ => True
def xF1 (L : List Nat) (K : Int → Nat) (j : Nat) (y : Int) : Prop := match j with
  | 0 => ok L K y 53
  | 1 => ok L K y 54
  | 2 => ok L K y 55
  | 3 => 0 ≤ y ∧ y ≤ 7
  | 4 => ok L K y 56
  | 5 => ok L K y 57
  | 6 => ok L K y 58
  | 7 => 0 ≤ y ∧ y ≤ 6
  | 8 => ok L K y 59
  | 9 => ok L K y 60
  | _ => True
def xF2 (L : List Nat) (K : Int → Nat) (j : Nat) (y : Int) : Prop := match j with
  | 0 => (-2147483648) ≤ y ∧ y ≤ 2147483647
  | 1 => (-2147483648) ≤ y ∧ y ≤ 2147483647
  | 2 => (-2147483648) ≤ y ∧ y ≤ 2147483647
  | 3 => 0 ≤ y ∧ y ≤ 1
  | 4 => (-2147483648) ≤ y ∧ y ≤ 2147483647
  | 5 => (-2147483648) ≤ y ∧ y ≤ 2147483647
  | _ => True
def xF3 (L : List Nat) (K : Int → Nat) (j : Nat) (y : Int) : Prop := match j with
  | 0 => ok L K y 52
  | 1 => ok L K y 52
  | 2 => ok L K y 52
  | 3 => ok L K y 52
  | 4 => ok L K y 52
  | 5 => (-2147483648) ≤ y ∧ y ≤ 2147483647
  | 6 => (-2147483648) ≤ y ∧ y ≤ 2147483647
  | _ => True
def xF4 (L : List Nat) (K : Int → Nat) (j : Nat) (y : Int) : Prop := match j with
  | 0 => (-2147483648) ≤ y ∧ y ≤ 2147483647
  | 1 => (-2147483648) ≤ y ∧ y ≤ 2147483647
  | 2 => (-2147483648) ≤ y ∧ y ≤ 2147483647
  | 3 => (-2147483648) ≤ y ∧ y ≤ 2147483647
  | 4 => (-2147483648) ≤ y ∧ y ≤ 2147483647
  | 5 => (-2147483648) ≤ y ∧ y ≤ 2147483647
  | 6 => (-2147483648) ≤ y ∧ y ≤ 2147483647
  | 7 => (-2147483648) ≤ y ∧ y ≤ 2147483647
  | 8 => (-2147483648) ≤ y ∧ y ≤ 2147483647
  | _ => True
def xF5 (L : List Nat) (K : Int → Nat) (j : Nat) (y : Int) : Prop := match j with
  | 0 => ok L K y 42
  | 1 => ok L K y 43
  | 2 => ok L K y 44
  | 3 => ok L K y 45
  | 4 => ok L K y 46
  | 5 => (-2147483648) ≤ y ∧ y ≤ 2147483647
  | 6 => ok L K y 47
  | 7 => ok L K y 48
  | 8 => ok L K y 49
  | 9 => ok L K y 50
  | 10 => ok L K y 51
  | 11 => (-2147483648) ≤ y ∧ y ≤ 2147483647
  | _ => True
def xF6 (L : List Nat) (K : Int → Nat) (j : Nat) (y : Int) : Prop := match j with
  | 0 => ok L K y 8
  | 1 => (-2147483648) ≤ y ∧ y ≤ 2147483647
  | 2 => (-2147483648) ≤ y ∧ y ≤ 2147483647
  | 3 => 0 ≤ y ∧ y ≤ 1
  | 4 => 0 ≤ y ∧ y ≤ 1
  | 5 => 0 ≤ y ∧ y ≤ 1
  | _ => True
def xF7 (L : List Nat) (K : Int → Nat) (j : Nat) (y : Int) : Prop := match j with
  | 0 => ok L K y 20
  | 1 => 0 ≤ y ∧ y ≤ 600
  | 2 => ok L K y 21
  | 3 => ok L K y 22
  | 4 => ok L K y 23
  | 5 => ok L K y 24
  | 6 => (-2147483648) ≤ y ∧ y ≤ 2147483647
  | 7 => (-2147483648) ≤ y ∧ y ≤ 2147483647
  | 8 => (-2147483648) ≤ y ∧ y ≤ 2147483647
  | 9 => ok L K y 25
  | 10 => 0 ≤ y ∧ y ≤ 600
  | 11 => ok L K y 26
  | 12 => ok L K y 27
  | 13 => ok L K y 28
  | 14 => 0 ≤ y ∧ y ≤ 4
  | _ => True
def xF8 (L : List Nat) (K : Int → Nat) (j : Nat) (y : Int) : Prop := match j with
  | 0 => ok L K y 29
  | 1 => 0 ≤ y ∧ y ≤ 12
  | 2 => ok L K y 30
  | 3 => ok L K y 31
  | 4 => ok L K y 32
  | 5 => 0 ≤ y ∧ y ≤ 20
  | 6 => ok L K y 33
  | 7 => ok L K y 34
  | _ => True
def xF9 (L : List Nat) (K : Int → Nat) (j : Nat) (y : Int) : Prop := match j with
  | 0 => ok L K y 66
  | 1 => ok L K y 67
  | 2 => ok L K y 68
  | 3 => ok L K y 69
  | _ => True
def xF10 (L : List Nat) (K : Int → Nat) (j : Nat) (y : Int) : Prop := match j with
  | 0 => ok L K y 61
  | 1 => 0 ≤ y ∧ y ≤ 30
  | 2 => ok L K y 62
  | _ => True
def xF11 (L : List Nat) (K : Int → Nat) (j : Nat) (y : Int) : Prop := match j with
  | 0 => (-2147483648) ≤ y ∧ y ≤ 2147483647
  | 1 => (-2147483648) ≤ y ∧ y ≤ 2147483647
  | 2 => ok L K y 63
  | 3 => ok L K y 64
  | 4 => 0 ≤ y ∧ y ≤ 12000
  | 5 => (-2147483648) ≤ y ∧ y ≤ 2147483647
  | 6 => (-2147483648) ≤ y ∧ y ≤ 2147483647
  | _ => True
def xF12 (L : List Nat) (K : Int → Nat) (j : Nat) (y : Int) : Prop := match j with
  | 0 => 0 ≤ y ∧ y ≤ 2000
  | 1 => (-2147483648) ≤ y ∧ y ≤ 2147483647
  | 2 => ok L K y 7
  | 3 => ok L K y 8
  | 4 => ok L K y 6
  | 5 => ok L K y 35
  | 6 => ok L K y 36
  | 7 => 0 ≤ y ∧ y ≤ 60
  | 8 => ok L K y 37
  | 9 => 0 ≤ y ∧ y ≤ 60
  | 10 => ok L K y 38
  | 11 => 0 ≤ y ∧ y ≤ 12
  | 12 => ok L K y 39
  | 13 => 0 ≤ y ∧ y ≤ 300
  | 14 => ok L K y 5
  | 15 => ok L K y 40
  | 16 => ok L K y 41
  | 17 => ok L K y 3
  | 18 => ok L K y 1
  | 19 => ok L K y 10
  | _ => True
def xF (L : List Nat) (K : Int → Nat) (k : Nat) (j y : Int) : Prop := match k with
  | 0 => xF0 L K j.toNat y
  | 1 => xF1 L K j.toNat y
  | 2 => xF2 L K j.toNat y
  | 3 => xF3 L K j.toNat y
  | 4 => xF4 L K j.toNat y
  | 5 => xF5 L K j.toNat y
  | 6 => xF6 L K j.toNat y
  | 7 => xF7 L K j.toNat y
  | 8 => xF8 L K j.toNat y
  | 9 => xF9 L K j.toNat y
  | 10 => xF10 L K j.toNat y
  | 11 => xF11 L K j.toNat y
  | 12 => xF12 L K j.toNat y
  | 20 => (-128) ≤ y ∧ y ≤ 127
  | 21 => (-2147483648) ≤ y ∧ y ≤ 2147483647
  | 22 => (-2147483648) ≤ y ∧ y ≤ 2147483647
  | 23 => (-2147483648) ≤ y ∧ y ≤ 2147483647
  | 24 => (-2147483648) ≤ y ∧ y ≤ 2147483647
  | 25 => (-2147483648) ≤ y ∧ y ≤ 2147483647
  | 26 => (-2147483648) ≤ y ∧ y ≤ 2147483647
  | 27 => (-2147483648) ≤ y ∧ y ≤ 2147483647
  | 29 => y < 0 ∨ ok L K y 9
  | 30 => (-2147483648) ≤ y ∧ y ≤ 2147483647
  | 31 => (-2147483648) ≤ y ∧ y ≤ 2147483647
  | 32 => (-2147483648) ≤ y ∧ y ≤ 2147483647
  | 33 => (-2147483648) ≤ y ∧ y ≤ 2147483647
  | 34 => (-2147483648) ≤ y ∧ y ≤ 2147483647
  | 35 => y < 0 ∨ ok L K y 11
  | 36 => y < 0 ∨ ok L K y 0
  | 37 => (-2147483648) ≤ y ∧ y ≤ 2147483647
  | 38 => y < 0 ∨ ok L K y 2
  | 39 => y < 0 ∨ ok L K y 4
  | 40 => (-2147483648) ≤ y ∧ y ≤ 2147483647
  | 41 => (-2147483648) ≤ y ∧ y ≤ 2147483647
  | 42 => (-2147483648) ≤ y ∧ y ≤ 2147483647
  | 43 => (-2147483648) ≤ y ∧ y ≤ 2147483647
  | 44 => (-2147483648) ≤ y ∧ y ≤ 2147483647
  | 45 => (-2147483648) ≤ y ∧ y ≤ 2147483647
  | 46 => (-2147483648) ≤ y ∧ y ≤ 2147483647
  | 47 => (-2147483648) ≤ y ∧ y ≤ 2147483647
  | 48 => (-2147483648) ≤ y ∧ y ≤ 2147483647
  | 49 => (-2147483648) ≤ y ∧ y ≤ 2147483647
  | 50 => (-2147483648) ≤ y ∧ y ≤ 2147483647
  | 51 => 0 ≤ y ∧ y ≤ 1
  | 52 => (-2147483648) ≤ y ∧ y ≤ 2147483647
  | 53 => (-2147483648) ≤ y ∧ y ≤ 2147483647
  | 54 => (-2147483648) ≤ y ∧ y ≤ 2147483647
  | 55 => (-2147483648) ≤ y ∧ y ≤ 2147483647
  | 56 => (-2147483648) ≤ y ∧ y ≤ 2147483647
  | 57 => (-2147483648) ≤ y ∧ y ≤ 2147483647
  | 58 => (-2147483648) ≤ y ∧ y ≤ 2147483647
  | 59 => (-2147483648) ≤ y ∧ y ≤ 2147483647
  | 60 => 0 ≤ y ∧ y ≤ 1
  | 61 => (-2147483648) ≤ y ∧ y ≤ 2147483647
  | 62 => (-2147483648) ≤ y ∧ y ≤ 2147483647
  | 63 => (-2147483648) ≤ y ∧ y ≤ 2147483647
  | 64 => (-2147483648) ≤ y ∧ y ≤ 2147483647
  | 65 => (-128) ≤ y ∧ y ≤ 127
  | 66 => (-2147483648) ≤ y ∧ y ≤ 2147483647
  | 67 => (-2147483648) ≤ y ∧ y ≤ 2147483647
  | 68 => (-2147483648) ≤ y ∧ y ≤ 2147483647
  | _ => True
def xN (k : Nat) (n : Int) : Prop := match k with
  | 20 => n = 600
  | 21 => n = 601
  | 22 => n = 601
  | 23 => n = 601
  | 24 => n = 601
  | 25 => n = 600
  | 26 => n = 14
  | 27 => n = 14
  | 28 => n = 4
  | 29 => n = 12
  | 30 => n = 20
  | 31 => n = 20
  | 32 => n = 20
  | 33 => n = 9
  | 34 => n = 64
  | 35 => n = 6
  | 36 => n = 60
  | 37 => n = 60
  | 38 => n = 12
  | 39 => n = 300
  | 40 => n = 10
  | 41 => n = 10
  | 42 => n = 40
  | 43 => n = 600
  | 44 => n = 600
  | 45 => n = 600
  | 46 => n = 600
  | 47 => n = 60
  | 48 => n = 60
  | 49 => n = 60
  | 50 => n = 60
  | 51 => n = 60
  | 52 => n = 60
  | 53 => n = 7
  | 54 => n = 7
  | 55 => n = 7
  | 56 => n = 6
  | 57 => n = 6
  | 58 => n = 6
  | 59 => n = 128
  | 60 => n = 128
  | 61 => n = 30
  | 62 => n = 31
  | 63 => 0 ≤ n ∧ n ≤ 60
  | 64 => 0 ≤ n ∧ n ≤ 12000
  | 65 => 0 ≤ n ∧ n ≤ 12
  | 66 => 0 ≤ n ∧ n ≤ 600
  | 67 => n = 14
  | 68 => n = 14
  | 69 => 0 ≤ n ∧ n ≤ 4
  | _ => True
/-- what holds of the class between any two of its instructions -/
def xI (L : List Nat) (K : Int → Nat) (N : Int → Int) (v : Int → Int → Int) : Prop := ∀ z k, ok L K z k → xN k (N z) ∧ ∀ j, 0 ≤ j → xF L K k j (v z j)
theorem xI_vu {L : List Nat} {K : Int → Nat} {N : Int → Int} {v : Int → Int → Int} (h : xI L K N v) {z j y : Int} {k : Nat} (hk : ok L K z k) (hy : xF L K k j y) : xI L K N (vu v z j y) := by
  intro a k2 ha
  refine ⟨(h a k2 ha).1, fun i hi => ?_⟩
  by_cases q : a = z ∧ i = j
  · obtain ⟨rfl, rfl⟩ := q
    rw [vu_self]
    have e : k2 = k := ha.2.2.symm.trans hk.2.2
    rw [e]; exact hy
  · rw [vu_ne _ q]; exact (h a k2 ha).2 i hi
def inW (W : List (Nat × Int)) (k : Nat) (j : Int) : Bool := W.any (fun p => p.1 == k && (decide (p.2 < 0) || p.2 == j))
/-- what is written: nothing but fields, or elements, of these kinds -/
def fr (K : Int → Nat) (W : List (Nat × Int)) (v1 v : Int → Int → Int) : Prop := ∀ a j, inW W (K a) j = false → v1 a j = v a j
theorem fr_rf {K : Int → Nat} {W : List (Nat × Int)} {v : Int → Int → Int} : fr K W v v := fun _ _ _ => rfl
def subW (W1 W : List (Nat × Int)) : Bool := W1.all (fun p => W.any (fun q => q.1 == p.1 && (decide (q.2 < 0) || q.2 == p.2)))
theorem subW_in {W1 W : List (Nat × Int)} (h : subW W1 W = true) {k : Nat} {j : Int} (hj : inW W k j = false) : inW W1 k j = false := by
  rw [Bool.eq_false_iff] at hj ⊢
  intro c
  apply hj
  unfold inW at c ⊢
  rw [List.any_eq_true] at c ⊢
  obtain ⟨p, hp, hq⟩ := c
  unfold subW at h
  rw [List.all_eq_true] at h
  have h2 := h p hp
  rw [List.any_eq_true] at h2
  obtain ⟨q, hq1, hq2⟩ := h2
  simp only [Bool.and_eq_true, beq_iff_eq, Bool.or_eq_true, decide_eq_true_eq] at hq hq2
  refine ⟨q, hq1, ?_⟩
  simp only [Bool.and_eq_true, beq_iff_eq, Bool.or_eq_true, decide_eq_true_eq]
  refine ⟨hq2.1.trans hq.1, ?_⟩
  rcases hq2.2 with a | a
  · exact Or.inl a
  · rcases hq.2 with b | b
    · exact Or.inl (a ▸ b)
    · exact Or.inr (a.trans b)
theorem fr_mono {K : Int → Nat} {W1 W : List (Nat × Int)} {v1 v : Int → Int → Int} (h : fr K W1 v1 v) (hs : subW W1 W = true) : fr K W v1 v := fun a j hj => h a j (subW_in hs hj)
theorem xi_len {y : Int} (h0 : 0 ≤ y) : Int32.ofNat y.toNat = iI y := by
  unfold iI
  conv => rhs; rw [← Int.toNat_of_nonneg h0]
  exact (Int32.ofInt_eq_ofNat).symm
theorem fr_tr {K : Int → Nat} {W1 W : List (Nat × Int)} {v2 v1 v : Int → Int → Int} (h1 : fr K W1 v2 v1) (hs : subW W1 W = true) (h0 : fr K W v1 v) : fr K W v2 v := fun a j hj => ((fr_mono h1 hs) a j hj).trans (h0 a j hj)
theorem fr_use {L : List Nat} {K : Int → Nat} {W : List (Nat × Int)} {v1 v : Int → Int → Int} {z j : Int} {k : Nat} (hk : ok L K z k) (f : fr K W v1 v) (h : inW W k j = false) : v1 z j = v z j := f z j (by rw [hk.2.2]; exact h)
theorem fr_vu {L : List Nat} {K : Int → Nat} {v : Int → Int → Int} {z j y : Int} {k : Nat} (hk : ok L K z k) : fr K [(k, j)] (vu v z j y) v := fun a i h => by
  apply vu_ne
  rintro ⟨rfl, rfl⟩
  unfold inW at h
  simp [hk.2.2] at h
theorem fr_va {L : List Nat} {K : Int → Nat} {v : Int → Int → Int} {z j y : Int} {k : Nat} (hk : ok L K z k) : fr K [(k, -1)] (vu v z j y) v := fun a i h => by
  apply vu_ne
  rintro ⟨rfl, rfl⟩
  unfold inW at h
  simp [hk.2.2] at h
section XB
variable {D : va_G} {L : List Nat} {cid : Nat → ClassId} {K : Int → Nat} {N : Int → Int} {v : Int → Int → Int} {z : Int} {A : Nat → Prop}
theorem xg_at {k : Nat} (hk : ok L K z k) : ∃ q0 : Nat, (xG L cid K N v)[q0]? = some (z.toNat, xk cid k (N z) (v z)) := by
  obtain ⟨q0, h⟩ := va_pl_get (X := []) (f := fun a => xC cid K N v (a : Int)) hk.2.1
  refine ⟨q0, ?_⟩
  have e : ((z.toNat : Nat) : Int) = z := Int.toNat_of_nonneg hk.1
  have h2 : (xG L cid K N v)[q0]? = some (z.toNat, xC cid K N v (z.toNat : Int)) := h
  rw [h2, e]; unfold xC; rw [hk.2.2]
theorem xg_set {k : Nat} (hk : ok L K z k) (hD : va_D A (xG L cid K N v)) {q0 : Nat} (hq : (xG L cid K N v)[q0]? = some (z.toNat, xk cid k (N z) (v z))) {e : va_E} {j y : Int} (he : e = xk cid k (N z) (up (v z) j y)) : (xG L cid K N v).set q0 (z.toNat, e) = xG L cid K N (vu v z j y) := by
  have ez : ((z.toNat : Nat) : Int) = z := Int.toNat_of_nonneg hk.1
  have hx : xk cid k (N z) (v z) = xC cid K N v (z.toNat : Int) := by rw [ez]; unfold xC; rw [hk.2.2]
  have h := va_pl_set (X := []) (A := A) (f := fun a => xC cid K N v (a : Int)) (e := e) (k := q0) (by simpa [xG] using hD) hk.2.1 (by rw [hx] at hq; simpa [xG] using hq)
  have h' : (xG L cid K N v).set q0 (z.toNat, e) = va_pl L (va_up (fun a => xC cid K N v (a : Int)) z.toNat e) := by simpa [xG] using h
  rw [h']
  refine va_pl_congr (fun a => ?_)
  by_cases ha : a = z.toNat
  · subst ha
    rw [va_up_self, he]
    show _ = xC cid K N (vu v z j y) _
    rw [ez]; unfold xC; rw [hk.2.2, vu_at]
  · rw [va_up_ne _ _ ha]
    show xC cid K N v _ = xC cid K N (vu v z j y) _
    unfold xC; rw [vu_other v (by omega)]
theorem xrecv {tys : List (ClassId × FieldType)} {s : State} {H : Heap} {k : Nat} {fs : List Value} {q : vw_C} (hK : va_K D vwCl tys s) (hP : va_P D vwCl (xG L cid K N v) H) (hk : ok L K z k) (hc : vwCl[k]? = some q) (he : xk cid k (N z) (v z) = .inr (k, fs)) : ∃ cell : Cell, H[z.toNat]? = some cell ∧ cell.vm.isStatics = false ∧ s.vm.findClass q.1 = some cell.cls := by
  obtain ⟨q0, hq⟩ := xg_at (cid := cid) (N := N) (v := v) hk
  rw [he] at hq
  exact va_recv hK hP hc hq
end XB
def sx_t0 : String := "+-*/()[],<>=;"
def sx_t1 : String := "skip numbers blanks write must owe least most pay short plain long asked lines facts points field skill age volume late last first pass count or and not"
def sx_t2 : String := " skip numbers blanks least most pay write must owe first last count pass short plain long asked lines facts points field skill age volume late or and not "
def sx_len : List Nat := [13, 152, 154]
def sx_byt : List (List Int32) := [[43, 45, 42, 47, 40, 41, 91, 93, 44, 60, 62, 61, 59], [115, 107, 105, 112, 32, 110, 117, 109, 98, 101, 114, 115, 32, 98, 108, 97, 110, 107, 115, 32, 119, 114, 105, 116, 101, 32, 109, 117, 115, 116, 32, 111, 119, 101, 32, 108, 101, 97, 115, 116, 32, 109, 111, 115, 116, 32, 112, 97, 121, 32, 115, 104, 111, 114, 116, 32, 112, 108, 97, 105, 110, 32, 108, 111, 110, 103, 32, 97, 115, 107, 101, 100, 32, 108, 105, 110, 101, 115, 32, 102, 97, 99, 116, 115, 32, 112, 111, 105, 110, 116, 115, 32, 102, 105, 101, 108, 100, 32, 115, 107, 105, 108, 108, 32, 97, 103, 101, 32, 118, 111, 108, 117, 109, 101, 32, 108, 97, 116, 101, 32, 108, 97, 115, 116, 32, 102, 105, 114, 115, 116, 32, 112, 97, 115, 115, 32, 99, 111, 117, 110, 116, 32, 111, 114, 32, 97, 110, 100, 32, 110, 111, 116], [32, 115, 107, 105, 112, 32, 110, 117, 109, 98, 101, 114, 115, 32, 98, 108, 97, 110, 107, 115, 32, 108, 101, 97, 115, 116, 32, 109, 111, 115, 116, 32, 112, 97, 121, 32, 119, 114, 105, 116, 101, 32, 109, 117, 115, 116, 32, 111, 119, 101, 32, 102, 105, 114, 115, 116, 32, 108, 97, 115, 116, 32, 99, 111, 117, 110, 116, 32, 112, 97, 115, 115, 32, 115, 104, 111, 114, 116, 32, 112, 108, 97, 105, 110, 32, 108, 111, 110, 103, 32, 97, 115, 107, 101, 100, 32, 108, 105, 110, 101, 115, 32, 102, 97, 99, 116, 115, 32, 112, 111, 105, 110, 116, 115, 32, 102, 105, 101, 108, 100, 32, 115, 107, 105, 108, 108, 32, 97, 103, 101, 32, 118, 111, 108, 117, 109, 101, 32, 108, 97, 116, 101, 32, 111, 114, 32, 97, 110, 100, 32, 110, 111, 116, 32]]
def sx_n (i : Nat) : Int := (sx_len.getD i 0 : Nat)
def sx_c (i : Nat) (k : Int) : Int := ((((sx_byt.getD i []).getD (iI k).toNatClampNeg 0) &&& iI 255).toUInt32 % 65536).toInt32.toInt
def xZf (A : Nat → Prop) (U : State) (H : Heap) : Prop := (∃ t : Nat, va_Z "jdk/internal/util/Preconditions" "SIOOBE_FORMATTER" "Ljava/util/function/BiFunction;" (.ref t) A U H) ∨ va_Z "jdk/internal/util/Preconditions" "SIOOBE_FORMATTER" "Ljava/util/function/BiFunction;" .null A U H
theorem xZf.moved {A : Nat → Prop} {u U : State} {H : Heap} (hvm : u.vm.Alike U.vm) (h : xZf A u H) : xZf A U H := h.imp (fun ⟨t, q⟩ => ⟨t, q.moved hvm⟩) (fun q => q.moved hvm)
theorem xZf.kept {A : Nat → Prop} {U : State} {H H1 : Heap} (h : xZf A U H) (hq : ∀ a : Nat, a < H.size → ¬ A a → H1[a]? = H[a]?) : xZf A U H1 := h.imp (fun ⟨t, q⟩ => ⟨t, q.kept hq⟩) (fun q => q.kept hq)
theorem xZf.narrow {A B : Nat → Prop} {U : State} {H : Heap} (h : xZf A U H) (hAB : ∀ q, B q → A q) : xZf B U H := h.imp (fun ⟨t, q⟩ => ⟨t, q.narrow hAB⟩) (fun q => q.narrow hAB)
def xS (sK sV : Nat → Nat) (A : Nat → Prop) (U : State) (H : Heap) : Prop := vk_S 3 sx_len sx_byt sK sV A U H ∧ (vk_R "BookOfAll$Reader" 98 sx_t0 (sK 0) U ∧ vk_R "BookOfAll$Reader" 141 sx_t1 (sK 1) U ∧ vk_R "BookOfAllModel" 260 sx_t2 (sK 2) U) ∧ va_Z "java/lang/String" "COMPACT_STRINGS" "Z" (.int 1) A U H ∧ xZf A U H
def jE2 (U : State) : Prop := jE U ∧ va_Nw (.castable "[J" "java/lang/Cloneable") U
theorem jE2.warm {s U : State} (h : jE2 s) (hW : s.WarmedH U.vm) : jE2 U := ⟨h.1.warm hW, va_Nw.warmC hW h.2⟩
theorem jE2.same {s U : State} (h : jE2 s) (e : s.vm = U.vm) : jE2 U := ⟨h.1.same e, va_Nw.same rfl e h.2⟩
def xX (tW : Nat) (sK sV : Nat → Nat) (A : Nat → Prop) (U : State) (H : Heap) : Prop := jE2 U ∧ (va_Z "BookOfAll$Rules" "WITHOUT" "[I" (.ref tW) A U H ∧ va_T .int tW 14 (fun k => .int (jz_f k)) A U H) ∧ xS sK sV A U H
def xP (D : va_G) (ws : va_W) (tys : List (ClassId × FieldType)) (tW : Nat) (sK sV : Nat → Nat) (sz : Nat) (U : State) : Prop := jw_P D ws tys sz U ∧ xX tW sK sV (va_A ws sz) U U.heap
theorem xS.same {sK sV : Nat → Nat} {A : Nat → Prop} {u U : State} {H : Heap} (hv : U.vm = u.vm) (h : xS sK sV A u H) : xS sK sV A U H :=
  ⟨h.1.moved (by rw [hv]; exact Vm.Alike.refl u.vm), ⟨vk_R.same hv h.2.1.1, vk_R.same hv h.2.1.2.1, vk_R.same hv h.2.1.2.2⟩, h.2.2.1.moved (by rw [hv]; exact Vm.Alike.refl u.vm), h.2.2.2.moved (by rw [hv]; exact Vm.Alike.refl u.vm)⟩
theorem xS.nar {sK sV : Nat → Nat} {A B : Nat → Prop} {U : State} {H : Heap} (h : xS sK sV A U H) (hAB : ∀ q, B q → A q) : xS sK sV B U H :=
  ⟨h.1.narrow hAB, h.2.1, h.2.2.1.narrow hAB, h.2.2.2.narrow hAB⟩
theorem xS.go {sK sV : Nat → Nat} {A B : Nat → Prop} {s U : State} {H0 H : Heap} {locs : List Loc} (h : xS sK sV A s H0) (hW : s.WarmedH U.vm) (hS : va_S A H0 H locs) (hAB : ∀ q, B q → A q) : xS sK sV B U H :=
  ⟨((h.1.kept hS.2.1).narrow hAB).moved hW.alike, ⟨vk_R.warm hW h.2.1.1, vk_R.warm hW h.2.1.2.1, vk_R.warm hW h.2.1.2.2⟩, ((h.2.2.1.kept hS.2.1).narrow hAB).moved hW.alike, ((h.2.2.2.kept hS.2.1).narrow hAB).moved hW.alike⟩
theorem xS_blind {av : List Value} {sK sV : Nat → Nat} {sz : Nat} : FrameBlind (va_Pc av (fun U => U.heap.size = sz ∧ xS sK sV (va_A [] sz) U U.heap)) := fun a U g mk q => by
  obtain ⟨q0, q1, qS⟩ := q
  exact ⟨q0, q1, xS.same (u := U) rfl qS⟩
theorem xS_of {sK sV : Nat → Nat} {s U : State} {H : Heap} {locs : List Loc} {A : Nat → Prop} (hU : U.heap = H) (hW : s.WarmedH U.vm) (h : xS sK sV A s s.heap) (hS : va_S A s.heap H locs) (hA : ∀ q, s.heap.size ≤ q → A q) : U.heap.size = H.size ∧ xS sK sV (va_A [] H.size) U U.heap := by
  subst hU
  exact ⟨rfl, h.go hW hS (ja_nil hS hA)⟩
theorem xX.same {tW : Nat} {sK sV : Nat → Nat} {A : Nat → Prop} {u U : State} {H : Heap} (hv : U.vm = u.vm) (h : xX tW sK sV A u H) : xX tW sK sV A U H :=
  ⟨h.1.same hv.symm, ⟨h.2.1.1.moved (by rw [hv]; exact Vm.Alike.refl u.vm), h.2.1.2.moved (by rw [hv]; exact Vm.Alike.refl u.vm)⟩, h.2.2.same hv⟩
theorem xX.go {tW : Nat} {sK sV : Nat → Nat} {A B : Nat → Prop} {s U : State} {H0 H : Heap} {locs : List Loc} (h : xX tW sK sV A s H0) (hW : s.WarmedH U.vm) (hS : va_S A H0 H locs) (hAB : ∀ q, B q → A q) : xX tW sK sV B U H :=
  ⟨h.1.warm hW, ⟨((h.2.1.1.kept hS.2.1).narrow hAB).moved hW.alike, ((h.2.1.2.kept hS.2.1).narrow hAB).moved hW.alike⟩, h.2.2.go hW hS hAB⟩
theorem xP_blind {av : List Value} {D : va_G} {ws : va_W} {tys : List (ClassId × FieldType)} {tW : Nat} {sK sV : Nat → Nat} {sz : Nat} : FrameBlind (va_Pc av (xP D ws tys tW sK sV sz)) := fun a U g mk q => by
  obtain ⟨q0, ⟨q1, qP, qK, qD⟩, qX⟩ := q
  exact ⟨q0, ⟨q1, qP, va_K.moved (u := U) (U := U.calling g mk a) (Vm.Alike.refl U.vm) qK, qD⟩, xX.same (u := U) rfl qX⟩
theorem xS_weak {A B : Nat → Prop} {H0 H : Heap} {locs : List Loc} (h : va_S A H0 H locs) (hAB : ∀ q, A q → B q) : va_S B H0 H locs := ⟨h.1, fun q h1 h2 => h.2.1 q h1 (fun z => h2 (hAB q z)), fun l hl => hAB _ (h.2.2 l hl)⟩
/-- the callee's start, out of the walk's facts; Aw: what the walk's method may write at most -/
theorem xP_of {D : va_G} {ws : va_W} {tys : List (ClassId × FieldType)} {tW : Nat} {sK sV : Nat → Nat} {s U : State} {H : Heap} {locs : List Loc} {A Aw : Nat → Prop} (hU : U.heap = H) (hW : s.WarmedH U.vm) (hP : va_P D vwCl ws H) (hK : va_K D vwCl tys s) (hD : va_D Aw ws) (hX : xX tW sK sV Aw s s.heap) (hS : va_S A s.heap H locs) (hAw : ∀ q, A q → Aw q) (hA : ∀ q, s.heap.size ≤ q → Aw q) : xP D ws tys tW sK sV H.size U := by
  subst hU
  exact ⟨jw_of rfl hW hP hK hD, hX.go hW (xS_weak hS hAw) (ja_all hD (xS_weak hS hAw) hA)⟩
