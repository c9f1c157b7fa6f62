abbrev x0W (ad : Nat → Nat) (ca : Nat → ClassId) : va_W := [(ad 0, .inr (12, [.int 0, .int 0, .ref (ad 1), .ref (ad 11), .ref (ad 18), .ref (ad 19), .ref (ad 38), .int 0, .ref (ad 39), .int 0, .ref (ad 40), .int 0, .ref (ad 41), .int 0, .ref (ad 42), .ref (ad 53), .ref (ad 54), .ref (ad 55), .ref (ad 61), .ref (ad 70)])),
  (ad 1, .inr (7, [.ref (ad 2), .int 0, .ref (ad 3), .ref (ad 4), .ref (ad 5), .ref (ad 6), .int 0, .int 0, .int 0, .ref (ad 7), .int 0, .ref (ad 8), .ref (ad 9), .ref (ad 10), .int 0])),
  (ad 2, .inl ((ca 2), 600, .inl (fun _ => 0))),
  (ad 3, .inl ((ca 3), 601, .inl (fun _ => 0))),
  (ad 4, .inl ((ca 4), 601, .inl (fun _ => 0))),
  (ad 5, .inl ((ca 5), 601, .inl (fun _ => 0))),
  (ad 6, .inl ((ca 6), 601, .inl (fun _ => 0))),
  (ad 7, .inl ((ca 7), 600, .inl (fun _ => 0))),
  (ad 8, .inl ((ca 8), 14, .inl (fun _ => 0))),
  (ad 9, .inl ((ca 9), 14, .inl (fun _ => 0))),
  (ad 10, .inl ((ca 10), 4, .inr (.inl (fun _ => 0)))),
  (ad 11, .inr (8, [.ref (ad 12), .int 0, .ref (ad 13), .ref (ad 14), .ref (ad 15), .int 0, .ref (ad 16), .ref (ad 17)])),
  (ad 12, .inl ((ca 12), 12, .inr (.inr (.inr (.inr (fun _ => none)))))),
  (ad 13, .inl ((ca 13), 20, .inl (fun _ => 0))),
  (ad 14, .inl ((ca 14), 20, .inl (fun _ => 0))),
  (ad 15, .inl ((ca 15), 20, .inl (fun _ => 0))),
  (ad 16, .inl ((ca 16), 9, .inl (fun _ => 0))),
  (ad 17, .inl ((ca 17), 64, .inl (fun _ => 0))),
  (ad 18, .inr (6, [.ref (ad 11), .int 0, .int 0, .int 0, .int 0, .int 0])),
  (ad 19, .inl ((ca 19), 6, .inr (.inr (.inr (.inr (va_up (va_up (va_up (va_up (va_up (va_up (fun _ => none) 0 (some (ad 20))) 1 (some (ad 23))) 2 (some (ad 26))) 3 (some (ad 29))) 4 (some (ad 32))) 5 (some (ad 35)))))))),
  (ad 20, .inr (11, [.int 4, .int (-1), .ref (ad 21), .ref (ad 22), .int 0, .int 0, .int 0])),
  (ad 21, .inl ((ca 21), 0, .inl (fun _ => 0))),
  (ad 22, .inl ((ca 22), 0, .inl (fun _ => 0))),
  (ad 23, .inr (11, [.int 9, .int (-1), .ref (ad 24), .ref (ad 25), .int 0, .int 0, .int 0])),
  (ad 24, .inl ((ca 24), 0, .inl (fun _ => 0))),
  (ad 25, .inl ((ca 25), 0, .inl (fun _ => 0))),
  (ad 26, .inr (11, [.int 14, .int (-1), .ref (ad 27), .ref (ad 28), .int 0, .int 0, .int 0])),
  (ad 27, .inl ((ca 27), 0, .inl (fun _ => 0))),
  (ad 28, .inl ((ca 28), 0, .inl (fun _ => 0))),
  (ad 29, .inr (11, [.int 19, .int (-1), .ref (ad 30), .ref (ad 31), .int 0, .int 0, .int 0])),
  (ad 30, .inl ((ca 30), 0, .inl (fun _ => 0))),
  (ad 31, .inl ((ca 31), 0, .inl (fun _ => 0))),
  (ad 32, .inr (11, [.int 24, .int (-1), .ref (ad 33), .ref (ad 34), .int 0, .int 0, .int 0])),
  (ad 33, .inl ((ca 33), 0, .inl (fun _ => 0))),
  (ad 34, .inl ((ca 34), 0, .inl (fun _ => 0))),
  (ad 35, .inr (11, [.int 25, .int (-1), .ref (ad 36), .ref (ad 37), .int 0, .int 0, .int 0])),
  (ad 36, .inl ((ca 36), 0, .inl (fun _ => 0))),
  (ad 37, .inl ((ca 37), 0, .inl (fun _ => 0))),
  (ad 38, .inl ((ca 38), 60, .inr (.inr (.inr (.inr (fun _ => none)))))),
  (ad 39, .inl ((ca 39), 60, .inl (fun _ => 0))),
  (ad 40, .inl ((ca 40), 12, .inr (.inr (.inr (.inr (fun _ => none)))))),
  (ad 41, .inl ((ca 41), 300, .inr (.inr (.inr (.inr (fun _ => none)))))),
  (ad 42, .inr (5, [.ref (ad 43), .ref (ad 44), .ref (ad 45), .ref (ad 46), .ref (ad 47), .int 0, .ref (ad 48), .ref (ad 49), .ref (ad 50), .ref (ad 51), .ref (ad 52), .int 0])),
  (ad 43, .inl ((ca 43), 40, .inl (jfill (fun _ => 0) 40 (-1)))),
  (ad 44, .inl ((ca 44), 600, .inl (fun _ => 0))),
  (ad 45, .inl ((ca 45), 600, .inl (fun _ => 0))),
  (ad 46, .inl ((ca 46), 600, .inl (fun _ => 0))),
  (ad 47, .inl ((ca 47), 600, .inl (fun _ => 0))),
  (ad 48, .inl ((ca 48), 60, .inl (fun _ => 0))),
  (ad 49, .inl ((ca 49), 60, .inl (fun _ => 0))),
  (ad 50, .inl ((ca 50), 60, .inl (fun _ => 0))),
  (ad 51, .inl ((ca 51), 60, .inl (fun _ => 0))),
  (ad 52, .inl ((ca 52), 60, .inl (fun _ => 0))),
  (ad 53, .inl ((ca 53), 10, .inl (jfill (fun _ => 0) 10 (-1)))),
  (ad 54, .inl ((ca 54), 10, .inl (fun _ => 0))),
  (ad 55, .inr (3, [.ref (ad 56), .ref (ad 57), .ref (ad 58), .ref (ad 59), .ref (ad 60), .int 0, .int 0])),
  (ad 56, .inl ((ca 56), 60, .inl (fun _ => 0))),
  (ad 57, .inl ((ca 57), 60, .inl (fun _ => 0))),
  (ad 58, .inl ((ca 58), 60, .inl (fun _ => 0))),
  (ad 59, .inl ((ca 59), 60, .inl (fun _ => 0))),
  (ad 60, .inl ((ca 60), 60, .inl (fun _ => 0))),
  (ad 61, .inr (1, [.ref (ad 62), .ref (ad 63), .ref (ad 64), .int 0, .ref (ad 65), .ref (ad 66), .ref (ad 67), .int 0, .ref (ad 68), .ref (ad 69)])),
  (ad 62, .inl ((ca 62), 7, .inl (fun _ => 0))),
  (ad 63, .inl ((ca 63), 7, .inl (fun _ => 0))),
  (ad 64, .inl ((ca 64), 7, .inl (fun _ => 0))),
  (ad 65, .inl ((ca 65), 6, .inl (fun _ => 0))),
  (ad 66, .inl ((ca 66), 6, .inl (fun _ => 0))),
  (ad 67, .inl ((ca 67), 6, .inl (fun _ => 0))),
  (ad 68, .inl ((ca 68), 128, .inl (fun _ => 0))),
  (ad 69, .inl ((ca 69), 128, .inl (fun _ => 0))),
  (ad 70, .inr (10, [.ref (ad 71), .int 0, .ref (ad 72)])),
  (ad 71, .inl ((ca 71), 30, .inl (fun _ => 0))),
  (ad 72, .inl ((ca 72), 31, .inl (fun _ => 0)))]
abbrev x0T (ca : Nat → ClassId) : List (ClassId × FieldType) := [((ca 2), .byte), ((ca 3), .int), ((ca 4), .int), ((ca 5), .int), ((ca 6), .int), ((ca 7), .int), ((ca 8), .int), ((ca 9), .int), ((ca 10), .long), ((ca 12), .object RX9), ((ca 13), .int), ((ca 14), .int), ((ca 15), .int), ((ca 16), .int), ((ca 17), .int), ((ca 19), .object RX11), ((ca 21), .int), ((ca 22), .int), ((ca 24), .int), ((ca 25), .int), ((ca 27), .int), ((ca 28), .int), ((ca 30), .int), ((ca 31), .int), ((ca 33), .int), ((ca 34), .int), ((ca 36), .int), ((ca 37), .int), ((ca 38), .object RX0), ((ca 39), .int), ((ca 40), .object RX2), ((ca 41), .object RX4), ((ca 43), .int), ((ca 44), .int), ((ca 45), .int), ((ca 46), .int), ((ca 47), .int), ((ca 48), .int), ((ca 49), .int), ((ca 50), .int), ((ca 51), .int), ((ca 52), .boolean), ((ca 53), .int), ((ca 54), .int), ((ca 56), .int), ((ca 57), .int), ((ca 58), .int), ((ca 59), .int), ((ca 60), .int), ((ca 62), .int), ((ca 63), .int), ((ca 64), .int), ((ca 65), .int), ((ca 66), .int), ((ca 67), .int), ((ca 68), .int), ((ca 69), .boolean), ((ca 71), .int), ((ca 72), .int)]
theorem xcons {α : Type} {a b : α} {l m : List α} (h : a = b) (h2 : l = m) : a :: l = b :: m := by rw [h, h2]
def fnd (ad : Nat → Nat) : Nat → Nat → Nat
  | 0, _ => 0
  | n + 1, a => if ad n = a then n else fnd ad n a
theorem fnd_ad {ad : Nat → Nat} {i : Nat} : ∀ {n : Nat}, (∀ i j, i < n → j < n → ad i = ad j → i = j) → i < n → fnd ad n (ad i) = i
  | 0, _, h => absurd h (Nat.not_lt_zero i)
  | n + 1, hd, h => by
    unfold fnd
    by_cases e : ad n = ad i
    · rw [if_pos e]; exact hd n i (by omega) h e
    · rw [if_neg e]
      refine fnd_ad (fun a b ha hb => hd a b (by omega) (by omega)) ?_
      have : i ≠ n := fun q => e (by rw [q])
      omega
theorem rv_nat (q : Nat) : rv (q : Int) = .ref q := by rw [rv_ref (by omega), Int.toNat_natCast]
theorem ao_non : ao (fun _ => (-1)) = fun _ => none := rfl
def xfill (n v : Int) : Int → Int := fun j => if 0 ≤ j ∧ j < n then v else 0
theorem ar_fill (n : Nat) : ar (xfill (n : Int) (-1)) = jfill (fun _ => 0) n (-1) := by
  funext k
  unfold ar xfill jfill
  by_cases h : k < n
  · rw [if_pos (show 0 ≤ (k : Int) ∧ (k : Int) < (n : Int) by omega), if_pos h]; decide
  · rw [if_neg (show ¬ (0 ≤ (k : Int) ∧ (k : Int) < (n : Int)) by omega), if_neg h]; exact iI_zer
def x0k : List Nat := [12, 7, 20, 21, 22, 23, 24, 25, 26, 27, 28, 8, 29, 30, 31, 32, 33, 34, 6, 35, 11, 63, 64, 11, 63, 64, 11, 63, 64, 11, 63, 64, 11, 63, 64, 11, 63, 64, 36, 37, 38, 39, 5, 42, 43, 44, 45, 46, 47, 48, 49, 50, 51, 40, 41, 3, 52, 52, 52, 52, 52, 1, 53, 54, 55, 56, 57, 58, 59, 60, 10, 61, 62]
def x0n : List Int := [0, 0, 600, 601, 601, 601, 601, 600, 14, 14, 4, 0, 12, 20, 20, 20, 9, 64, 0, 6, 0, 0, 0, 0, 0, 0, 0, 0, 0, 0, 0, 0, 0, 0, 0, 0, 0, 0, 60, 60, 12, 300, 0, 40, 600, 600, 600, 600, 60, 60, 60, 60, 60, 10, 10, 0, 60, 60, 60, 60, 60, 0, 7, 7, 7, 6, 6, 6, 128, 128, 0, 30, 31]
def x0v (ad : Nat → Nat) : List (Int → Int) := [fl_ [0, 0, (ad 1 : Int), (ad 11 : Int), (ad 18 : Int), (ad 19 : Int), (ad 38 : Int), 0, (ad 39 : Int), 0, (ad 40 : Int), 0, (ad 41 : Int), 0, (ad 42 : Int), (ad 53 : Int), (ad 54 : Int), (ad 55 : Int), (ad 61 : Int), (ad 70 : Int)],
  fl_ [(ad 2 : Int), 0, (ad 3 : Int), (ad 4 : Int), (ad 5 : Int), (ad 6 : Int), 0, 0, 0, (ad 7 : Int), 0, (ad 8 : Int), (ad 9 : Int), (ad 10 : Int), 0],
  (fun _ => 0),
  (fun _ => 0),
  (fun _ => 0),
  (fun _ => 0),
  (fun _ => 0),
  (fun _ => 0),
  (fun _ => 0),
  (fun _ => 0),
  (fun _ => 0),
  fl_ [(ad 12 : Int), 0, (ad 13 : Int), (ad 14 : Int), (ad 15 : Int), 0, (ad 16 : Int), (ad 17 : Int)],
  (fun _ => (-1)),
  (fun _ => 0),
  (fun _ => 0),
  (fun _ => 0),
  (fun _ => 0),
  (fun _ => 0),
  fl_ [(ad 11 : Int), 0, 0, 0, 0, 0],
  fun j => [(ad 20 : Int), (ad 23 : Int), (ad 26 : Int), (ad 29 : Int), (ad 32 : Int), (ad 35 : Int)].getD j.toNat (-1),
  fl_ [4, (-1), (ad 21 : Int), (ad 22 : Int), 0, 0, 0],
  (fun _ => 0),
  (fun _ => 0),
  fl_ [9, (-1), (ad 24 : Int), (ad 25 : Int), 0, 0, 0],
  (fun _ => 0),
  (fun _ => 0),
  fl_ [14, (-1), (ad 27 : Int), (ad 28 : Int), 0, 0, 0],
  (fun _ => 0),
  (fun _ => 0),
  fl_ [19, (-1), (ad 30 : Int), (ad 31 : Int), 0, 0, 0],
  (fun _ => 0),
  (fun _ => 0),
  fl_ [24, (-1), (ad 33 : Int), (ad 34 : Int), 0, 0, 0],
  (fun _ => 0),
  (fun _ => 0),
  fl_ [25, (-1), (ad 36 : Int), (ad 37 : Int), 0, 0, 0],
  (fun _ => 0),
  (fun _ => 0),
  (fun _ => (-1)),
  (fun _ => 0),
  (fun _ => (-1)),
  (fun _ => (-1)),
  fl_ [(ad 43 : Int), (ad 44 : Int), (ad 45 : Int), (ad 46 : Int), (ad 47 : Int), 0, (ad 48 : Int), (ad 49 : Int), (ad 50 : Int), (ad 51 : Int), (ad 52 : Int), 0],
  xfill 40 (-1),
  (fun _ => 0),
  (fun _ => 0),
  (fun _ => 0),
  (fun _ => 0),
  (fun _ => 0),
  (fun _ => 0),
  (fun _ => 0),
  (fun _ => 0),
  (fun _ => 0),
  xfill 10 (-1),
  (fun _ => 0),
  fl_ [(ad 56 : Int), (ad 57 : Int), (ad 58 : Int), (ad 59 : Int), (ad 60 : Int), 0, 0],
  (fun _ => 0),
  (fun _ => 0),
  (fun _ => 0),
  (fun _ => 0),
  (fun _ => 0),
  fl_ [(ad 62 : Int), (ad 63 : Int), (ad 64 : Int), 0, (ad 65 : Int), (ad 66 : Int), (ad 67 : Int), 0, (ad 68 : Int), (ad 69 : Int)],
  (fun _ => 0),
  (fun _ => 0),
  (fun _ => 0),
  (fun _ => 0),
  (fun _ => 0),
  (fun _ => 0),
  (fun _ => 0),
  (fun _ => 0),
  fl_ [(ad 71 : Int), 0, (ad 72 : Int)],
  (fun _ => 0),
  (fun _ => 0)]
def x0K (ad : Nat → Nat) (z : Int) : Nat := x0k.getD (fnd ad 73 z.toNat) 99
def x0N (ad : Nat → Nat) (z : Int) : Int := x0n.getD (fnd ad 73 z.toNat) 0
def x0V (ad : Nat → Nat) (z : Int) : Int → Int := (x0v ad).getD (fnd ad 73 z.toNat) (fun _ => 0)
def x0L (ad : Nat → Nat) : List Nat := (List.range 73).map ad
def x0D (ad : Nat → Nat) : Prop := ∀ i j, i < 73 → j < 73 → ad i = ad j → i = j
theorem x0_at {ad : Nat → Nat} (hd : x0D ad) {i : Nat} (h : i < 73) : x0K ad (ad i : Int) = x0k.getD i 99 ∧ x0N ad (ad i : Int) = x0n.getD i 0 ∧ x0V ad (ad i : Int) = (x0v ad).getD i (fun _ => 0) := by
  unfold x0K x0N x0V
  rw [Int.toNat_natCast, fnd_ad hd h]
  exact ⟨rfl, rfl, rfl⟩
theorem x0_ok {ad : Nat → Nat} (hd : x0D ad) {i k : Nat} (h : i < 73) (e : x0k.getD i 99 = k) : ok (x0L ad) (x0K ad) (ad i : Int) k :=
  ⟨by omega, List.mem_map.mpr ⟨i, List.mem_range.mpr h, (Int.toNat_natCast _).symm⟩, by rw [(x0_at hd h).1]; exact e⟩
/-- which cell tells the class of an array of each sort -/
def x0c (ca : Nat → ClassId) (i : Nat) : ClassId := ca ([3, 2, 52, 10, 38, 40, 41, 12, 19].getD i 0)
def x0C (ca : Nat → ClassId) : Prop := ca 4 = ca 3 ∧ ca 5 = ca 3 ∧ ca 6 = ca 3 ∧ ca 7 = ca 3 ∧ ca 8 = ca 3 ∧ ca 9 = ca 3 ∧ ca 13 = ca 3 ∧ ca 14 = ca 3 ∧ ca 15 = ca 3 ∧ ca 16 = ca 3 ∧ ca 17 = ca 3 ∧ ca 21 = ca 3 ∧ ca 22 = ca 3 ∧ ca 24 = ca 3 ∧ ca 25 = ca 3 ∧ ca 27 = ca 3 ∧ ca 28 = ca 3 ∧ ca 30 = ca 3 ∧ ca 31 = ca 3 ∧ ca 33 = ca 3 ∧ ca 34 = ca 3 ∧ ca 36 = ca 3 ∧ ca 37 = ca 3 ∧ ca 39 = ca 3 ∧ ca 43 = ca 3 ∧ ca 44 = ca 3 ∧ ca 45 = ca 3 ∧ ca 46 = ca 3 ∧ ca 47 = ca 3 ∧ ca 48 = ca 3 ∧ ca 49 = ca 3 ∧ ca 50 = ca 3 ∧ ca 51 = ca 3 ∧ ca 53 = ca 3 ∧ ca 54 = ca 3 ∧ ca 56 = ca 3 ∧ ca 57 = ca 3 ∧ ca 58 = ca 3 ∧ ca 59 = ca 3 ∧ ca 60 = ca 3 ∧ ca 62 = ca 3 ∧ ca 63 = ca 3 ∧ ca 64 = ca 3 ∧ ca 65 = ca 3 ∧ ca 66 = ca 3 ∧ ca 67 = ca 3 ∧ ca 68 = ca 3 ∧ ca 71 = ca 3 ∧ ca 72 = ca 3 ∧ ca 69 = ca 52
theorem x0e_0 (ad : Nat → Nat) (ca : Nat → ClassId) : (.inr (12, [.int 0, .int 0, .ref (ad 1), .ref (ad 11), .ref (ad 18), .ref (ad 19), .ref (ad 38), .int 0, .ref (ad 39), .int 0, .ref (ad 40), .int 0, .ref (ad 41), .int 0, .ref (ad 42), .ref (ad 53), .ref (ad 54), .ref (ad 55), .ref (ad 61), .ref (ad 70)]) : va_E) = xk (x0c ca) 12 0 (fl_ [0, 0, (ad 1 : Int), (ad 11 : Int), (ad 18 : Int), (ad 19 : Int), (ad 38 : Int), 0, (ad 39 : Int), 0, (ad 40 : Int), 0, (ad 41 : Int), 0, (ad 42 : Int), (ad 53 : Int), (ad 54 : Int), (ad 55 : Int), (ad 61 : Int), (ad 70 : Int)]) := by
  show _ = (.inr (12, [.int (iI 0), .int (iI 0), rv (ad 1 : Int), rv (ad 11 : Int), rv (ad 18 : Int), rv (ad 19 : Int), rv (ad 38 : Int), .int (iI 0), rv (ad 39 : Int), .int (iI 0), rv (ad 40 : Int), .int (iI 0), rv (ad 41 : Int), .int (iI 0), rv (ad 42 : Int), rv (ad 53 : Int), rv (ad 54 : Int), rv (ad 55 : Int), rv (ad 61 : Int), rv (ad 70 : Int)]) : va_E)
  simp only [show iI (-1) = (-1) from by decide, show iI 0 = 0 from by decide, show iI 4 = 4 from by decide, show iI 9 = 9 from by decide, show iI 14 = 14 from by decide, show iI 19 = 19 from by decide, show iI 24 = 24 from by decide, show iI 25 = 25 from by decide, lL_zer, rv_nat]
theorem x0e_1 (ad : Nat → Nat) (ca : Nat → ClassId) : (.inr (7, [.ref (ad 2), .int 0, .ref (ad 3), .ref (ad 4), .ref (ad 5), .ref (ad 6), .int 0, .int 0, .int 0, .ref (ad 7), .int 0, .ref (ad 8), .ref (ad 9), .ref (ad 10), .int 0]) : va_E) = xk (x0c ca) 7 0 (fl_ [(ad 2 : Int), 0, (ad 3 : Int), (ad 4 : Int), (ad 5 : Int), (ad 6 : Int), 0, 0, 0, (ad 7 : Int), 0, (ad 8 : Int), (ad 9 : Int), (ad 10 : Int), 0]) := by
  show _ = (.inr (7, [rv (ad 2 : Int), .int (iI 0), rv (ad 3 : Int), rv (ad 4 : Int), rv (ad 5 : Int), rv (ad 6 : Int), .int (iI 0), .int (iI 0), .int (iI 0), rv (ad 7 : Int), .int (iI 0), rv (ad 8 : Int), rv (ad 9 : Int), rv (ad 10 : Int), .int (iI 0)]) : va_E)
  simp only [show iI (-1) = (-1) from by decide, show iI 0 = 0 from by decide, show iI 4 = 4 from by decide, show iI 9 = 9 from by decide, show iI 14 = 14 from by decide, show iI 19 = 19 from by decide, show iI 24 = 24 from by decide, show iI 25 = 25 from by decide, lL_zer, rv_nat]
theorem x0e_2 (ad : Nat → Nat) (ca : Nat → ClassId) : (.inl ((ca 2), 600, .inl (fun _ => 0)) : va_E) = xk (x0c ca) 20 600 ((fun _ => 0)) := by
  show _ = (.inl (ca 2, 600, .inl (ar (fun _ => 0))) : va_E)
  rw [ar_zer]
theorem x0e_3 (ad : Nat → Nat) (ca : Nat → ClassId) : (.inl ((ca 3), 601, .inl (fun _ => 0)) : va_E) = xk (x0c ca) 21 601 ((fun _ => 0)) := by
  show _ = (.inl (ca 3, 601, .inl (ar (fun _ => 0))) : va_E)
  rw [ar_zer]
theorem x0e_4 (ad : Nat → Nat) (ca : Nat → ClassId) (h : ca 4 = ca 3) : (.inl ((ca 4), 601, .inl (fun _ => 0)) : va_E) = xk (x0c ca) 22 601 ((fun _ => 0)) := by
  rw [h]
  show _ = (.inl (ca 3, 601, .inl (ar (fun _ => 0))) : va_E)
  rw [ar_zer]
theorem x0e_5 (ad : Nat → Nat) (ca : Nat → ClassId) (h : ca 5 = ca 3) : (.inl ((ca 5), 601, .inl (fun _ => 0)) : va_E) = xk (x0c ca) 23 601 ((fun _ => 0)) := by
  rw [h]
  show _ = (.inl (ca 3, 601, .inl (ar (fun _ => 0))) : va_E)
  rw [ar_zer]
theorem x0e_6 (ad : Nat → Nat) (ca : Nat → ClassId) (h : ca 6 = ca 3) : (.inl ((ca 6), 601, .inl (fun _ => 0)) : va_E) = xk (x0c ca) 24 601 ((fun _ => 0)) := by
  rw [h]
  show _ = (.inl (ca 3, 601, .inl (ar (fun _ => 0))) : va_E)
  rw [ar_zer]
theorem x0e_7 (ad : Nat → Nat) (ca : Nat → ClassId) (h : ca 7 = ca 3) : (.inl ((ca 7), 600, .inl (fun _ => 0)) : va_E) = xk (x0c ca) 25 600 ((fun _ => 0)) := by
  rw [h]
  show _ = (.inl (ca 3, 600, .inl (ar (fun _ => 0))) : va_E)
  rw [ar_zer]
theorem x0e_8 (ad : Nat → Nat) (ca : Nat → ClassId) (h : ca 8 = ca 3) : (.inl ((ca 8), 14, .inl (fun _ => 0)) : va_E) = xk (x0c ca) 26 14 ((fun _ => 0)) := by
  rw [h]
  show _ = (.inl (ca 3, 14, .inl (ar (fun _ => 0))) : va_E)
  rw [ar_zer]
theorem x0e_9 (ad : Nat → Nat) (ca : Nat → ClassId) (h : ca 9 = ca 3) : (.inl ((ca 9), 14, .inl (fun _ => 0)) : va_E) = xk (x0c ca) 27 14 ((fun _ => 0)) := by
  rw [h]
  show _ = (.inl (ca 3, 14, .inl (ar (fun _ => 0))) : va_E)
  rw [ar_zer]
theorem x0e_10 (ad : Nat → Nat) (ca : Nat → ClassId) : (.inl ((ca 10), 4, .inr (.inl (fun _ => 0))) : va_E) = xk (x0c ca) 28 4 ((fun _ => 0)) := by
  show _ = (.inl (ca 10, 4, .inr (.inl (al (fun _ => 0)))) : va_E)
  rw [al_zer]
theorem x0e_11 (ad : Nat → Nat) (ca : Nat → ClassId) : (.inr (8, [.ref (ad 12), .int 0, .ref (ad 13), .ref (ad 14), .ref (ad 15), .int 0, .ref (ad 16), .ref (ad 17)]) : va_E) = xk (x0c ca) 8 0 (fl_ [(ad 12 : Int), 0, (ad 13 : Int), (ad 14 : Int), (ad 15 : Int), 0, (ad 16 : Int), (ad 17 : Int)]) := by
  show _ = (.inr (8, [rv (ad 12 : Int), .int (iI 0), rv (ad 13 : Int), rv (ad 14 : Int), rv (ad 15 : Int), .int (iI 0), rv (ad 16 : Int), rv (ad 17 : Int)]) : va_E)
  simp only [show iI (-1) = (-1) from by decide, show iI 0 = 0 from by decide, show iI 4 = 4 from by decide, show iI 9 = 9 from by decide, show iI 14 = 14 from by decide, show iI 19 = 19 from by decide, show iI 24 = 24 from by decide, show iI 25 = 25 from by decide, lL_zer, rv_nat]
theorem x0e_12 (ad : Nat → Nat) (ca : Nat → ClassId) : (.inl ((ca 12), 12, .inr (.inr (.inr (.inr (fun _ => none))))) : va_E) = xk (x0c ca) 29 12 ((fun _ => (-1))) := by
  rfl
theorem x0e_13 (ad : Nat → Nat) (ca : Nat → ClassId) (h : ca 13 = ca 3) : (.inl ((ca 13), 20, .inl (fun _ => 0)) : va_E) = xk (x0c ca) 30 20 ((fun _ => 0)) := by
  rw [h]
  show _ = (.inl (ca 3, 20, .inl (ar (fun _ => 0))) : va_E)
  rw [ar_zer]
theorem x0e_14 (ad : Nat → Nat) (ca : Nat → ClassId) (h : ca 14 = ca 3) : (.inl ((ca 14), 20, .inl (fun _ => 0)) : va_E) = xk (x0c ca) 31 20 ((fun _ => 0)) := by
  rw [h]
  show _ = (.inl (ca 3, 20, .inl (ar (fun _ => 0))) : va_E)
  rw [ar_zer]
theorem x0e_15 (ad : Nat → Nat) (ca : Nat → ClassId) (h : ca 15 = ca 3) : (.inl ((ca 15), 20, .inl (fun _ => 0)) : va_E) = xk (x0c ca) 32 20 ((fun _ => 0)) := by
  rw [h]
  show _ = (.inl (ca 3, 20, .inl (ar (fun _ => 0))) : va_E)
  rw [ar_zer]
theorem x0e_16 (ad : Nat → Nat) (ca : Nat → ClassId) (h : ca 16 = ca 3) : (.inl ((ca 16), 9, .inl (fun _ => 0)) : va_E) = xk (x0c ca) 33 9 ((fun _ => 0)) := by
  rw [h]
  show _ = (.inl (ca 3, 9, .inl (ar (fun _ => 0))) : va_E)
  rw [ar_zer]
theorem x0e_17 (ad : Nat → Nat) (ca : Nat → ClassId) (h : ca 17 = ca 3) : (.inl ((ca 17), 64, .inl (fun _ => 0)) : va_E) = xk (x0c ca) 34 64 ((fun _ => 0)) := by
  rw [h]
  show _ = (.inl (ca 3, 64, .inl (ar (fun _ => 0))) : va_E)
  rw [ar_zer]
theorem x0e_18 (ad : Nat → Nat) (ca : Nat → ClassId) : (.inr (6, [.ref (ad 11), .int 0, .int 0, .int 0, .int 0, .int 0]) : va_E) = xk (x0c ca) 6 0 (fl_ [(ad 11 : Int), 0, 0, 0, 0, 0]) := by
  show _ = (.inr (6, [rv (ad 11 : Int), .int (iI 0), .int (iI 0), .int (iI 0), .int (iI 0), .int (iI 0)]) : va_E)
  simp only [show iI (-1) = (-1) from by decide, show iI 0 = 0 from by decide, show iI 4 = 4 from by decide, show iI 9 = 9 from by decide, show iI 14 = 14 from by decide, show iI 19 = 19 from by decide, show iI 24 = 24 from by decide, show iI 25 = 25 from by decide, lL_zer, rv_nat]
theorem x0e_19 (ad : Nat → Nat) (ca : Nat → ClassId) : (.inl ((ca 19), 6, .inr (.inr (.inr (.inr (va_up (va_up (va_up (va_up (va_up (va_up (fun _ => none) 0 (some (ad 20))) 1 (some (ad 23))) 2 (some (ad 26))) 3 (some (ad 29))) 4 (some (ad 32))) 5 (some (ad 35))))))) : va_E) = xk (x0c ca) 35 6 (fun j => [(ad 20 : Int), (ad 23 : Int), (ad 26 : Int), (ad 29 : Int), (ad 32 : Int), (ad 35 : Int)].getD j.toNat (-1)) := by
  show _ = (.inl (ca 19, 6, .inr (.inr (.inr (.inr (ao (fun j => [(ad 20 : Int), (ad 23 : Int), (ad 26 : Int), (ad 29 : Int), (ad 32 : Int), (ad 35 : Int)].getD j.toNat (-1))))))) : va_E)
  refine congrArg (fun x => (.inl (ca 19, 6, .inr (.inr (.inr (.inr x)))) : va_E)) (funext fun k => ?_)
  match k with
  | 0 => exact (show some (ad 20) = opt (ad 20 : Int) from by unfold opt; rw [if_neg (by omega), Int.toNat_natCast])
  | 1 => exact (show some (ad 23) = opt (ad 23 : Int) from by unfold opt; rw [if_neg (by omega), Int.toNat_natCast])
  | 2 => exact (show some (ad 26) = opt (ad 26 : Int) from by unfold opt; rw [if_neg (by omega), Int.toNat_natCast])
  | 3 => exact (show some (ad 29) = opt (ad 29 : Int) from by unfold opt; rw [if_neg (by omega), Int.toNat_natCast])
  | 4 => exact (show some (ad 32) = opt (ad 32 : Int) from by unfold opt; rw [if_neg (by omega), Int.toNat_natCast])
  | 5 => exact (show some (ad 35) = opt (ad 35 : Int) from by unfold opt; rw [if_neg (by omega), Int.toNat_natCast])
  | n + 6 => rfl
theorem x0e_20 (ad : Nat → Nat) (ca : Nat → ClassId) : (.inr (11, [.int 4, .int (-1), .ref (ad 21), .ref (ad 22), .int 0, .int 0, .int 0]) : va_E) = xk (x0c ca) 11 0 (fl_ [4, (-1), (ad 21 : Int), (ad 22 : Int), 0, 0, 0]) := by
  show _ = (.inr (11, [.int (iI 4), .int (iI (-1)), rv (ad 21 : Int), rv (ad 22 : Int), .int (iI 0), .int (iI 0), .int (iI 0)]) : va_E)
  simp only [show iI (-1) = (-1) from by decide, show iI 0 = 0 from by decide, show iI 4 = 4 from by decide, show iI 9 = 9 from by decide, show iI 14 = 14 from by decide, show iI 19 = 19 from by decide, show iI 24 = 24 from by decide, show iI 25 = 25 from by decide, lL_zer, rv_nat]
theorem x0e_21 (ad : Nat → Nat) (ca : Nat → ClassId) (h : ca 21 = ca 3) : (.inl ((ca 21), 0, .inl (fun _ => 0)) : va_E) = xk (x0c ca) 63 0 ((fun _ => 0)) := by
  rw [h]
  show _ = (.inl (ca 3, 0, .inl (ar (fun _ => 0))) : va_E)
  rw [ar_zer]
theorem x0e_22 (ad : Nat → Nat) (ca : Nat → ClassId) (h : ca 22 = ca 3) : (.inl ((ca 22), 0, .inl (fun _ => 0)) : va_E) = xk (x0c ca) 64 0 ((fun _ => 0)) := by
  rw [h]
  show _ = (.inl (ca 3, 0, .inl (ar (fun _ => 0))) : va_E)
  rw [ar_zer]
theorem x0e_23 (ad : Nat → Nat) (ca : Nat → ClassId) : (.inr (11, [.int 9, .int (-1), .ref (ad 24), .ref (ad 25), .int 0, .int 0, .int 0]) : va_E) = xk (x0c ca) 11 0 (fl_ [9, (-1), (ad 24 : Int), (ad 25 : Int), 0, 0, 0]) := by
  show _ = (.inr (11, [.int (iI 9), .int (iI (-1)), rv (ad 24 : Int), rv (ad 25 : Int), .int (iI 0), .int (iI 0), .int (iI 0)]) : va_E)
  simp only [show iI (-1) = (-1) from by decide, show iI 0 = 0 from by decide, show iI 4 = 4 from by decide, show iI 9 = 9 from by decide, show iI 14 = 14 from by decide, show iI 19 = 19 from by decide, show iI 24 = 24 from by decide, show iI 25 = 25 from by decide, lL_zer, rv_nat]
theorem x0e_24 (ad : Nat → Nat) (ca : Nat → ClassId) (h : ca 24 = ca 3) : (.inl ((ca 24), 0, .inl (fun _ => 0)) : va_E) = xk (x0c ca) 63 0 ((fun _ => 0)) := by
  rw [h]
  show _ = (.inl (ca 3, 0, .inl (ar (fun _ => 0))) : va_E)
  rw [ar_zer]
theorem x0e_25 (ad : Nat → Nat) (ca : Nat → ClassId) (h : ca 25 = ca 3) : (.inl ((ca 25), 0, .inl (fun _ => 0)) : va_E) = xk (x0c ca) 64 0 ((fun _ => 0)) := by
  rw [h]
  show _ = (.inl (ca 3, 0, .inl (ar (fun _ => 0))) : va_E)
  rw [ar_zer]
theorem x0e_26 (ad : Nat → Nat) (ca : Nat → ClassId) : (.inr (11, [.int 14, .int (-1), .ref (ad 27), .ref (ad 28), .int 0, .int 0, .int 0]) : va_E) = xk (x0c ca) 11 0 (fl_ [14, (-1), (ad 27 : Int), (ad 28 : Int), 0, 0, 0]) := by
  show _ = (.inr (11, [.int (iI 14), .int (iI (-1)), rv (ad 27 : Int), rv (ad 28 : Int), .int (iI 0), .int (iI 0), .int (iI 0)]) : va_E)
  simp only [show iI (-1) = (-1) from by decide, show iI 0 = 0 from by decide, show iI 4 = 4 from by decide, show iI 9 = 9 from by decide, show iI 14 = 14 from by decide, show iI 19 = 19 from by decide, show iI 24 = 24 from by decide, show iI 25 = 25 from by decide, lL_zer, rv_nat]
theorem x0e_27 (ad : Nat → Nat) (ca : Nat → ClassId) (h : ca 27 = ca 3) : (.inl ((ca 27), 0, .inl (fun _ => 0)) : va_E) = xk (x0c ca) 63 0 ((fun _ => 0)) := by
  rw [h]
  show _ = (.inl (ca 3, 0, .inl (ar (fun _ => 0))) : va_E)
  rw [ar_zer]
theorem x0e_28 (ad : Nat → Nat) (ca : Nat → ClassId) (h : ca 28 = ca 3) : (.inl ((ca 28), 0, .inl (fun _ => 0)) : va_E) = xk (x0c ca) 64 0 ((fun _ => 0)) := by
  rw [h]
  show _ = (.inl (ca 3, 0, .inl (ar (fun _ => 0))) : va_E)
  rw [ar_zer]
theorem x0e_29 (ad : Nat → Nat) (ca : Nat → ClassId) : (.inr (11, [.int 19, .int (-1), .ref (ad 30), .ref (ad 31), .int 0, .int 0, .int 0]) : va_E) = xk (x0c ca) 11 0 (fl_ [19, (-1), (ad 30 : Int), (ad 31 : Int), 0, 0, 0]) := by
  show _ = (.inr (11, [.int (iI 19), .int (iI (-1)), rv (ad 30 : Int), rv (ad 31 : Int), .int (iI 0), .int (iI 0), .int (iI 0)]) : va_E)
  simp only [show iI (-1) = (-1) from by decide, show iI 0 = 0 from by decide, show iI 4 = 4 from by decide, show iI 9 = 9 from by decide, show iI 14 = 14 from by decide, show iI 19 = 19 from by decide, show iI 24 = 24 from by decide, show iI 25 = 25 from by decide, lL_zer, rv_nat]
theorem x0e_30 (ad : Nat → Nat) (ca : Nat → ClassId) (h : ca 30 = ca 3) : (.inl ((ca 30), 0, .inl (fun _ => 0)) : va_E) = xk (x0c ca) 63 0 ((fun _ => 0)) := by
  rw [h]
  show _ = (.inl (ca 3, 0, .inl (ar (fun _ => 0))) : va_E)
  rw [ar_zer]
theorem x0e_31 (ad : Nat → Nat) (ca : Nat → ClassId) (h : ca 31 = ca 3) : (.inl ((ca 31), 0, .inl (fun _ => 0)) : va_E) = xk (x0c ca) 64 0 ((fun _ => 0)) := by
  rw [h]
  show _ = (.inl (ca 3, 0, .inl (ar (fun _ => 0))) : va_E)
  rw [ar_zer]
theorem x0e_32 (ad : Nat → Nat) (ca : Nat → ClassId) : (.inr (11, [.int 24, .int (-1), .ref (ad 33), .ref (ad 34), .int 0, .int 0, .int 0]) : va_E) = xk (x0c ca) 11 0 (fl_ [24, (-1), (ad 33 : Int), (ad 34 : Int), 0, 0, 0]) := by
  show _ = (.inr (11, [.int (iI 24), .int (iI (-1)), rv (ad 33 : Int), rv (ad 34 : Int), .int (iI 0), .int (iI 0), .int (iI 0)]) : va_E)
  simp only [show iI (-1) = (-1) from by decide, show iI 0 = 0 from by decide, show iI 4 = 4 from by decide, show iI 9 = 9 from by decide, show iI 14 = 14 from by decide, show iI 19 = 19 from by decide, show iI 24 = 24 from by decide, show iI 25 = 25 from by decide, lL_zer, rv_nat]
theorem x0e_33 (ad : Nat → Nat) (ca : Nat → ClassId) (h : ca 33 = ca 3) : (.inl ((ca 33), 0, .inl (fun _ => 0)) : va_E) = xk (x0c ca) 63 0 ((fun _ => 0)) := by
  rw [h]
  show _ = (.inl (ca 3, 0, .inl (ar (fun _ => 0))) : va_E)
  rw [ar_zer]
theorem x0e_34 (ad : Nat → Nat) (ca : Nat → ClassId) (h : ca 34 = ca 3) : (.inl ((ca 34), 0, .inl (fun _ => 0)) : va_E) = xk (x0c ca) 64 0 ((fun _ => 0)) := by
  rw [h]
  show _ = (.inl (ca 3, 0, .inl (ar (fun _ => 0))) : va_E)
  rw [ar_zer]
theorem x0e_35 (ad : Nat → Nat) (ca : Nat → ClassId) : (.inr (11, [.int 25, .int (-1), .ref (ad 36), .ref (ad 37), .int 0, .int 0, .int 0]) : va_E) = xk (x0c ca) 11 0 (fl_ [25, (-1), (ad 36 : Int), (ad 37 : Int), 0, 0, 0]) := by
  show _ = (.inr (11, [.int (iI 25), .int (iI (-1)), rv (ad 36 : Int), rv (ad 37 : Int), .int (iI 0), .int (iI 0), .int (iI 0)]) : va_E)
  simp only [show iI (-1) = (-1) from by decide, show iI 0 = 0 from by decide, show iI 4 = 4 from by decide, show iI 9 = 9 from by decide, show iI 14 = 14 from by decide, show iI 19 = 19 from by decide, show iI 24 = 24 from by decide, show iI 25 = 25 from by decide, lL_zer, rv_nat]
theorem x0e_36 (ad : Nat → Nat) (ca : Nat → ClassId) (h : ca 36 = ca 3) : (.inl ((ca 36), 0, .inl (fun _ => 0)) : va_E) = xk (x0c ca) 63 0 ((fun _ => 0)) := by
  rw [h]
  show _ = (.inl (ca 3, 0, .inl (ar (fun _ => 0))) : va_E)
  rw [ar_zer]
theorem x0e_37 (ad : Nat → Nat) (ca : Nat → ClassId) (h : ca 37 = ca 3) : (.inl ((ca 37), 0, .inl (fun _ => 0)) : va_E) = xk (x0c ca) 64 0 ((fun _ => 0)) := by
  rw [h]
  show _ = (.inl (ca 3, 0, .inl (ar (fun _ => 0))) : va_E)
  rw [ar_zer]
theorem x0e_38 (ad : Nat → Nat) (ca : Nat → ClassId) : (.inl ((ca 38), 60, .inr (.inr (.inr (.inr (fun _ => none))))) : va_E) = xk (x0c ca) 36 60 ((fun _ => (-1))) := by
  rfl
theorem x0e_39 (ad : Nat → Nat) (ca : Nat → ClassId) (h : ca 39 = ca 3) : (.inl ((ca 39), 60, .inl (fun _ => 0)) : va_E) = xk (x0c ca) 37 60 ((fun _ => 0)) := by
  rw [h]
  show _ = (.inl (ca 3, 60, .inl (ar (fun _ => 0))) : va_E)
  rw [ar_zer]
theorem x0e_40 (ad : Nat → Nat) (ca : Nat → ClassId) : (.inl ((ca 40), 12, .inr (.inr (.inr (.inr (fun _ => none))))) : va_E) = xk (x0c ca) 38 12 ((fun _ => (-1))) := by
  rfl
theorem x0e_41 (ad : Nat → Nat) (ca : Nat → ClassId) : (.inl ((ca 41), 300, .inr (.inr (.inr (.inr (fun _ => none))))) : va_E) = xk (x0c ca) 39 300 ((fun _ => (-1))) := by
  rfl
theorem x0e_42 (ad : Nat → Nat) (ca : Nat → ClassId) : (.inr (5, [.ref (ad 43), .ref (ad 44), .ref (ad 45), .ref (ad 46), .ref (ad 47), .int 0, .ref (ad 48), .ref (ad 49), .ref (ad 50), .ref (ad 51), .ref (ad 52), .int 0]) : va_E) = xk (x0c ca) 5 0 (fl_ [(ad 43 : Int), (ad 44 : Int), (ad 45 : Int), (ad 46 : Int), (ad 47 : Int), 0, (ad 48 : Int), (ad 49 : Int), (ad 50 : Int), (ad 51 : Int), (ad 52 : Int), 0]) := by
  show _ = (.inr (5, [rv (ad 43 : Int), rv (ad 44 : Int), rv (ad 45 : Int), rv (ad 46 : Int), rv (ad 47 : Int), .int (iI 0), rv (ad 48 : Int), rv (ad 49 : Int), rv (ad 50 : Int), rv (ad 51 : Int), rv (ad 52 : Int), .int (iI 0)]) : va_E)
  simp only [show iI (-1) = (-1) from by decide, show iI 0 = 0 from by decide, show iI 4 = 4 from by decide, show iI 9 = 9 from by decide, show iI 14 = 14 from by decide, show iI 19 = 19 from by decide, show iI 24 = 24 from by decide, show iI 25 = 25 from by decide, lL_zer, rv_nat]
theorem x0e_43 (ad : Nat → Nat) (ca : Nat → ClassId) (h : ca 43 = ca 3) : (.inl ((ca 43), 40, .inl (jfill (fun _ => 0) 40 (-1))) : va_E) = xk (x0c ca) 42 40 (xfill 40 (-1)) := by
  rw [h]
  show _ = (.inl (ca 3, 40, .inl (ar (xfill ((40 : Nat) : Int) (-1)))) : va_E)
  rw [ar_fill]
theorem x0e_44 (ad : Nat → Nat) (ca : Nat → ClassId) (h : ca 44 = ca 3) : (.inl ((ca 44), 600, .inl (fun _ => 0)) : va_E) = xk (x0c ca) 43 600 ((fun _ => 0)) := by
  rw [h]
  show _ = (.inl (ca 3, 600, .inl (ar (fun _ => 0))) : va_E)
  rw [ar_zer]
theorem x0e_45 (ad : Nat → Nat) (ca : Nat → ClassId) (h : ca 45 = ca 3) : (.inl ((ca 45), 600, .inl (fun _ => 0)) : va_E) = xk (x0c ca) 44 600 ((fun _ => 0)) := by
  rw [h]
  show _ = (.inl (ca 3, 600, .inl (ar (fun _ => 0))) : va_E)
  rw [ar_zer]
theorem x0e_46 (ad : Nat → Nat) (ca : Nat → ClassId) (h : ca 46 = ca 3) : (.inl ((ca 46), 600, .inl (fun _ => 0)) : va_E) = xk (x0c ca) 45 600 ((fun _ => 0)) := by
  rw [h]
  show _ = (.inl (ca 3, 600, .inl (ar (fun _ => 0))) : va_E)
  rw [ar_zer]
theorem x0e_47 (ad : Nat → Nat) (ca : Nat → ClassId) (h : ca 47 = ca 3) : (.inl ((ca 47), 600, .inl (fun _ => 0)) : va_E) = xk (x0c ca) 46 600 ((fun _ => 0)) := by
  rw [h]
  show _ = (.inl (ca 3, 600, .inl (ar (fun _ => 0))) : va_E)
  rw [ar_zer]
theorem x0e_48 (ad : Nat → Nat) (ca : Nat → ClassId) (h : ca 48 = ca 3) : (.inl ((ca 48), 60, .inl (fun _ => 0)) : va_E) = xk (x0c ca) 47 60 ((fun _ => 0)) := by
  rw [h]
  show _ = (.inl (ca 3, 60, .inl (ar (fun _ => 0))) : va_E)
  rw [ar_zer]
theorem x0e_49 (ad : Nat → Nat) (ca : Nat → ClassId) (h : ca 49 = ca 3) : (.inl ((ca 49), 60, .inl (fun _ => 0)) : va_E) = xk (x0c ca) 48 60 ((fun _ => 0)) := by
  rw [h]
  show _ = (.inl (ca 3, 60, .inl (ar (fun _ => 0))) : va_E)
  rw [ar_zer]
theorem x0e_50 (ad : Nat → Nat) (ca : Nat → ClassId) (h : ca 50 = ca 3) : (.inl ((ca 50), 60, .inl (fun _ => 0)) : va_E) = xk (x0c ca) 49 60 ((fun _ => 0)) := by
  rw [h]
  show _ = (.inl (ca 3, 60, .inl (ar (fun _ => 0))) : va_E)
  rw [ar_zer]
theorem x0e_51 (ad : Nat → Nat) (ca : Nat → ClassId) (h : ca 51 = ca 3) : (.inl ((ca 51), 60, .inl (fun _ => 0)) : va_E) = xk (x0c ca) 50 60 ((fun _ => 0)) := by
  rw [h]
  show _ = (.inl (ca 3, 60, .inl (ar (fun _ => 0))) : va_E)
  rw [ar_zer]
theorem x0e_52 (ad : Nat → Nat) (ca : Nat → ClassId) : (.inl ((ca 52), 60, .inl (fun _ => 0)) : va_E) = xk (x0c ca) 51 60 ((fun _ => 0)) := by
  show _ = (.inl (ca 52, 60, .inl (ar (fun _ => 0))) : va_E)
  rw [ar_zer]
theorem x0e_53 (ad : Nat → Nat) (ca : Nat → ClassId) (h : ca 53 = ca 3) : (.inl ((ca 53), 10, .inl (jfill (fun _ => 0) 10 (-1))) : va_E) = xk (x0c ca) 40 10 (xfill 10 (-1)) := by
  rw [h]
  show _ = (.inl (ca 3, 10, .inl (ar (xfill ((10 : Nat) : Int) (-1)))) : va_E)
  rw [ar_fill]
theorem x0e_54 (ad : Nat → Nat) (ca : Nat → ClassId) (h : ca 54 = ca 3) : (.inl ((ca 54), 10, .inl (fun _ => 0)) : va_E) = xk (x0c ca) 41 10 ((fun _ => 0)) := by
  rw [h]
  show _ = (.inl (ca 3, 10, .inl (ar (fun _ => 0))) : va_E)
  rw [ar_zer]
theorem x0e_55 (ad : Nat → Nat) (ca : Nat → ClassId) : (.inr (3, [.ref (ad 56), .ref (ad 57), .ref (ad 58), .ref (ad 59), .ref (ad 60), .int 0, .int 0]) : va_E) = xk (x0c ca) 3 0 (fl_ [(ad 56 : Int), (ad 57 : Int), (ad 58 : Int), (ad 59 : Int), (ad 60 : Int), 0, 0]) := by
  show _ = (.inr (3, [rv (ad 56 : Int), rv (ad 57 : Int), rv (ad 58 : Int), rv (ad 59 : Int), rv (ad 60 : Int), .int (iI 0), .int (iI 0)]) : va_E)
  simp only [show iI (-1) = (-1) from by decide, show iI 0 = 0 from by decide, show iI 4 = 4 from by decide, show iI 9 = 9 from by decide, show iI 14 = 14 from by decide, show iI 19 = 19 from by decide, show iI 24 = 24 from by decide, show iI 25 = 25 from by decide, lL_zer, rv_nat]
theorem x0e_56 (ad : Nat → Nat) (ca : Nat → ClassId) (h : ca 56 = ca 3) : (.inl ((ca 56), 60, .inl (fun _ => 0)) : va_E) = xk (x0c ca) 52 60 ((fun _ => 0)) := by
  rw [h]
  show _ = (.inl (ca 3, 60, .inl (ar (fun _ => 0))) : va_E)
  rw [ar_zer]
theorem x0e_57 (ad : Nat → Nat) (ca : Nat → ClassId) (h : ca 57 = ca 3) : (.inl ((ca 57), 60, .inl (fun _ => 0)) : va_E) = xk (x0c ca) 52 60 ((fun _ => 0)) := by
  rw [h]
  show _ = (.inl (ca 3, 60, .inl (ar (fun _ => 0))) : va_E)
  rw [ar_zer]
theorem x0e_58 (ad : Nat → Nat) (ca : Nat → ClassId) (h : ca 58 = ca 3) : (.inl ((ca 58), 60, .inl (fun _ => 0)) : va_E) = xk (x0c ca) 52 60 ((fun _ => 0)) := by
  rw [h]
  show _ = (.inl (ca 3, 60, .inl (ar (fun _ => 0))) : va_E)
  rw [ar_zer]
theorem x0e_59 (ad : Nat → Nat) (ca : Nat → ClassId) (h : ca 59 = ca 3) : (.inl ((ca 59), 60, .inl (fun _ => 0)) : va_E) = xk (x0c ca) 52 60 ((fun _ => 0)) := by
  rw [h]
  show _ = (.inl (ca 3, 60, .inl (ar (fun _ => 0))) : va_E)
  rw [ar_zer]
theorem x0e_60 (ad : Nat → Nat) (ca : Nat → ClassId) (h : ca 60 = ca 3) : (.inl ((ca 60), 60, .inl (fun _ => 0)) : va_E) = xk (x0c ca) 52 60 ((fun _ => 0)) := by
  rw [h]
  show _ = (.inl (ca 3, 60, .inl (ar (fun _ => 0))) : va_E)
  rw [ar_zer]
theorem x0e_61 (ad : Nat → Nat) (ca : Nat → ClassId) : (.inr (1, [.ref (ad 62), .ref (ad 63), .ref (ad 64), .int 0, .ref (ad 65), .ref (ad 66), .ref (ad 67), .int 0, .ref (ad 68), .ref (ad 69)]) : va_E) = xk (x0c ca) 1 0 (fl_ [(ad 62 : Int), (ad 63 : Int), (ad 64 : Int), 0, (ad 65 : Int), (ad 66 : Int), (ad 67 : Int), 0, (ad 68 : Int), (ad 69 : Int)]) := by
  show _ = (.inr (1, [rv (ad 62 : Int), rv (ad 63 : Int), rv (ad 64 : Int), .int (iI 0), rv (ad 65 : Int), rv (ad 66 : Int), rv (ad 67 : Int), .int (iI 0), rv (ad 68 : Int), rv (ad 69 : Int)]) : va_E)
  simp only [show iI (-1) = (-1) from by decide, show iI 0 = 0 from by decide, show iI 4 = 4 from by decide, show iI 9 = 9 from by decide, show iI 14 = 14 from by decide, show iI 19 = 19 from by decide, show iI 24 = 24 from by decide, show iI 25 = 25 from by decide, lL_zer, rv_nat]
theorem x0e_62 (ad : Nat → Nat) (ca : Nat → ClassId) (h : ca 62 = ca 3) : (.inl ((ca 62), 7, .inl (fun _ => 0)) : va_E) = xk (x0c ca) 53 7 ((fun _ => 0)) := by
  rw [h]
  show _ = (.inl (ca 3, 7, .inl (ar (fun _ => 0))) : va_E)
  rw [ar_zer]
theorem x0e_63 (ad : Nat → Nat) (ca : Nat → ClassId) (h : ca 63 = ca 3) : (.inl ((ca 63), 7, .inl (fun _ => 0)) : va_E) = xk (x0c ca) 54 7 ((fun _ => 0)) := by
  rw [h]
  show _ = (.inl (ca 3, 7, .inl (ar (fun _ => 0))) : va_E)
  rw [ar_zer]
theorem x0e_64 (ad : Nat → Nat) (ca : Nat → ClassId) (h : ca 64 = ca 3) : (.inl ((ca 64), 7, .inl (fun _ => 0)) : va_E) = xk (x0c ca) 55 7 ((fun _ => 0)) := by
  rw [h]
  show _ = (.inl (ca 3, 7, .inl (ar (fun _ => 0))) : va_E)
  rw [ar_zer]
theorem x0e_65 (ad : Nat → Nat) (ca : Nat → ClassId) (h : ca 65 = ca 3) : (.inl ((ca 65), 6, .inl (fun _ => 0)) : va_E) = xk (x0c ca) 56 6 ((fun _ => 0)) := by
  rw [h]
  show _ = (.inl (ca 3, 6, .inl (ar (fun _ => 0))) : va_E)
  rw [ar_zer]
theorem x0e_66 (ad : Nat → Nat) (ca : Nat → ClassId) (h : ca 66 = ca 3) : (.inl ((ca 66), 6, .inl (fun _ => 0)) : va_E) = xk (x0c ca) 57 6 ((fun _ => 0)) := by
  rw [h]
  show _ = (.inl (ca 3, 6, .inl (ar (fun _ => 0))) : va_E)
  rw [ar_zer]
theorem x0e_67 (ad : Nat → Nat) (ca : Nat → ClassId) (h : ca 67 = ca 3) : (.inl ((ca 67), 6, .inl (fun _ => 0)) : va_E) = xk (x0c ca) 58 6 ((fun _ => 0)) := by
  rw [h]
  show _ = (.inl (ca 3, 6, .inl (ar (fun _ => 0))) : va_E)
  rw [ar_zer]
theorem x0e_68 (ad : Nat → Nat) (ca : Nat → ClassId) (h : ca 68 = ca 3) : (.inl ((ca 68), 128, .inl (fun _ => 0)) : va_E) = xk (x0c ca) 59 128 ((fun _ => 0)) := by
  rw [h]
  show _ = (.inl (ca 3, 128, .inl (ar (fun _ => 0))) : va_E)
  rw [ar_zer]
theorem x0e_69 (ad : Nat → Nat) (ca : Nat → ClassId) (h : ca 69 = ca 52) : (.inl ((ca 69), 128, .inl (fun _ => 0)) : va_E) = xk (x0c ca) 60 128 ((fun _ => 0)) := by
  rw [h]
  show _ = (.inl (ca 52, 128, .inl (ar (fun _ => 0))) : va_E)
  rw [ar_zer]
theorem x0e_70 (ad : Nat → Nat) (ca : Nat → ClassId) : (.inr (10, [.ref (ad 71), .int 0, .ref (ad 72)]) : va_E) = xk (x0c ca) 10 0 (fl_ [(ad 71 : Int), 0, (ad 72 : Int)]) := by
  show _ = (.inr (10, [rv (ad 71 : Int), .int (iI 0), rv (ad 72 : Int)]) : va_E)
  simp only [show iI (-1) = (-1) from by decide, show iI 0 = 0 from by decide, show iI 4 = 4 from by decide, show iI 9 = 9 from by decide, show iI 14 = 14 from by decide, show iI 19 = 19 from by decide, show iI 24 = 24 from by decide, show iI 25 = 25 from by decide, lL_zer, rv_nat]
theorem x0e_71 (ad : Nat → Nat) (ca : Nat → ClassId) (h : ca 71 = ca 3) : (.inl ((ca 71), 30, .inl (fun _ => 0)) : va_E) = xk (x0c ca) 61 30 ((fun _ => 0)) := by
  rw [h]
  show _ = (.inl (ca 3, 30, .inl (ar (fun _ => 0))) : va_E)
  rw [ar_zer]
theorem x0e_72 (ad : Nat → Nat) (ca : Nat → ClassId) (h : ca 72 = ca 3) : (.inl ((ca 72), 31, .inl (fun _ => 0)) : va_E) = xk (x0c ca) 62 31 ((fun _ => 0)) := by
  rw [h]
  show _ = (.inl (ca 3, 31, .inl (ar (fun _ => 0))) : va_E)
  rw [ar_zer]
set_option maxRecDepth 100000 in
theorem x0_world {ad : Nat → Nat} {ca : Nat → ClassId} (hd : x0D ad) (hc : x0C ca) : x0W ad ca = xG (x0L ad) (x0c ca) (x0K ad) (x0N ad) (x0V ad) := by
  obtain ⟨c4, c5, c6, c7, c8, c9, c13, c14, c15, c16, c17, c21, c22, c24, c25, c27, c28, c30, c31, c33, c34, c36, c37, c39, c43, c44, c45, c46, c47, c48, c49, c50, c51, c53, c54, c56, c57, c58, c59, c60, c62, c63, c64, c65, c66, c67, c68, c71, c72, c69⟩ := hc
  unfold xG va_pl x0L
  rw [List.map_map]
  have e : (List.range 73).map ((fun a : Nat => (a, xC (x0c ca) (x0K ad) (x0N ad) (x0V ad) (a : Int))) ∘ ad) = (List.range 73).map (fun i => (ad i, xk (x0c ca) (x0k.getD i 99) (x0n.getD i 0) ((x0v ad).getD i (fun _ => 0)))) := List.map_congr_left (fun i hi => by
    have h := x0_at hd (List.mem_range.mp hi)
    show (ad i, xk (x0c ca) (x0K ad (ad i : Int)) (x0N ad (ad i : Int)) (x0V ad (ad i : Int))) = _
    rw [h.1, h.2.1, h.2.2])
  rw [e, show List.range 73 = [0, 1, 2, 3, 4, 5, 6, 7, 8, 9, 10, 11, 12, 13, 14, 15, 16, 17, 18, 19, 20, 21, 22, 23, 24, 25, 26, 27, 28, 29, 30, 31, 32, 33, 34, 35, 36, 37, 38, 39, 40, 41, 42, 43, 44, 45, 46, 47, 48, 49, 50, 51, 52, 53, 54, 55, 56, 57, 58, 59, 60, 61, 62, 63, 64, 65, 66, 67, 68, 69, 70, 71, 72] from rfl]
  refine xcons (congrArg (Prod.mk (ad 0)) (x0e_0 ad ca)) ?_
  refine xcons (congrArg (Prod.mk (ad 1)) (x0e_1 ad ca)) ?_
  refine xcons (congrArg (Prod.mk (ad 2)) (x0e_2 ad ca)) ?_
  refine xcons (congrArg (Prod.mk (ad 3)) (x0e_3 ad ca)) ?_
  refine xcons (congrArg (Prod.mk (ad 4)) (x0e_4 ad ca c4)) ?_
  refine xcons (congrArg (Prod.mk (ad 5)) (x0e_5 ad ca c5)) ?_
  refine xcons (congrArg (Prod.mk (ad 6)) (x0e_6 ad ca c6)) ?_
  refine xcons (congrArg (Prod.mk (ad 7)) (x0e_7 ad ca c7)) ?_
  refine xcons (congrArg (Prod.mk (ad 8)) (x0e_8 ad ca c8)) ?_
  refine xcons (congrArg (Prod.mk (ad 9)) (x0e_9 ad ca c9)) ?_
  refine xcons (congrArg (Prod.mk (ad 10)) (x0e_10 ad ca)) ?_
  refine xcons (congrArg (Prod.mk (ad 11)) (x0e_11 ad ca)) ?_
  refine xcons (congrArg (Prod.mk (ad 12)) (x0e_12 ad ca)) ?_
  refine xcons (congrArg (Prod.mk (ad 13)) (x0e_13 ad ca c13)) ?_
  refine xcons (congrArg (Prod.mk (ad 14)) (x0e_14 ad ca c14)) ?_
  refine xcons (congrArg (Prod.mk (ad 15)) (x0e_15 ad ca c15)) ?_
  refine xcons (congrArg (Prod.mk (ad 16)) (x0e_16 ad ca c16)) ?_
  refine xcons (congrArg (Prod.mk (ad 17)) (x0e_17 ad ca c17)) ?_
  refine xcons (congrArg (Prod.mk (ad 18)) (x0e_18 ad ca)) ?_
  refine xcons (congrArg (Prod.mk (ad 19)) (x0e_19 ad ca)) ?_
  refine xcons (congrArg (Prod.mk (ad 20)) (x0e_20 ad ca)) ?_
  refine xcons (congrArg (Prod.mk (ad 21)) (x0e_21 ad ca c21)) ?_
  refine xcons (congrArg (Prod.mk (ad 22)) (x0e_22 ad ca c22)) ?_
  refine xcons (congrArg (Prod.mk (ad 23)) (x0e_23 ad ca)) ?_
  refine xcons (congrArg (Prod.mk (ad 24)) (x0e_24 ad ca c24)) ?_
  refine xcons (congrArg (Prod.mk (ad 25)) (x0e_25 ad ca c25)) ?_
  refine xcons (congrArg (Prod.mk (ad 26)) (x0e_26 ad ca)) ?_
  refine xcons (congrArg (Prod.mk (ad 27)) (x0e_27 ad ca c27)) ?_
  refine xcons (congrArg (Prod.mk (ad 28)) (x0e_28 ad ca c28)) ?_
  refine xcons (congrArg (Prod.mk (ad 29)) (x0e_29 ad ca)) ?_
  refine xcons (congrArg (Prod.mk (ad 30)) (x0e_30 ad ca c30)) ?_
  refine xcons (congrArg (Prod.mk (ad 31)) (x0e_31 ad ca c31)) ?_
  refine xcons (congrArg (Prod.mk (ad 32)) (x0e_32 ad ca)) ?_
  refine xcons (congrArg (Prod.mk (ad 33)) (x0e_33 ad ca c33)) ?_
  refine xcons (congrArg (Prod.mk (ad 34)) (x0e_34 ad ca c34)) ?_
  refine xcons (congrArg (Prod.mk (ad 35)) (x0e_35 ad ca)) ?_
  refine xcons (congrArg (Prod.mk (ad 36)) (x0e_36 ad ca c36)) ?_
  refine xcons (congrArg (Prod.mk (ad 37)) (x0e_37 ad ca c37)) ?_
  refine xcons (congrArg (Prod.mk (ad 38)) (x0e_38 ad ca)) ?_
  refine xcons (congrArg (Prod.mk (ad 39)) (x0e_39 ad ca c39)) ?_
  refine xcons (congrArg (Prod.mk (ad 40)) (x0e_40 ad ca)) ?_
  refine xcons (congrArg (Prod.mk (ad 41)) (x0e_41 ad ca)) ?_
  refine xcons (congrArg (Prod.mk (ad 42)) (x0e_42 ad ca)) ?_
  refine xcons (congrArg (Prod.mk (ad 43)) (x0e_43 ad ca c43)) ?_
  refine xcons (congrArg (Prod.mk (ad 44)) (x0e_44 ad ca c44)) ?_
  refine xcons (congrArg (Prod.mk (ad 45)) (x0e_45 ad ca c45)) ?_
  refine xcons (congrArg (Prod.mk (ad 46)) (x0e_46 ad ca c46)) ?_
  refine xcons (congrArg (Prod.mk (ad 47)) (x0e_47 ad ca c47)) ?_
  refine xcons (congrArg (Prod.mk (ad 48)) (x0e_48 ad ca c48)) ?_
  refine xcons (congrArg (Prod.mk (ad 49)) (x0e_49 ad ca c49)) ?_
  refine xcons (congrArg (Prod.mk (ad 50)) (x0e_50 ad ca c50)) ?_
  refine xcons (congrArg (Prod.mk (ad 51)) (x0e_51 ad ca c51)) ?_
  refine xcons (congrArg (Prod.mk (ad 52)) (x0e_52 ad ca)) ?_
  refine xcons (congrArg (Prod.mk (ad 53)) (x0e_53 ad ca c53)) ?_
  refine xcons (congrArg (Prod.mk (ad 54)) (x0e_54 ad ca c54)) ?_
  refine xcons (congrArg (Prod.mk (ad 55)) (x0e_55 ad ca)) ?_
  refine xcons (congrArg (Prod.mk (ad 56)) (x0e_56 ad ca c56)) ?_
  refine xcons (congrArg (Prod.mk (ad 57)) (x0e_57 ad ca c57)) ?_
  refine xcons (congrArg (Prod.mk (ad 58)) (x0e_58 ad ca c58)) ?_
  refine xcons (congrArg (Prod.mk (ad 59)) (x0e_59 ad ca c59)) ?_
  refine xcons (congrArg (Prod.mk (ad 60)) (x0e_60 ad ca c60)) ?_
  refine xcons (congrArg (Prod.mk (ad 61)) (x0e_61 ad ca)) ?_
  refine xcons (congrArg (Prod.mk (ad 62)) (x0e_62 ad ca c62)) ?_
  refine xcons (congrArg (Prod.mk (ad 63)) (x0e_63 ad ca c63)) ?_
  refine xcons (congrArg (Prod.mk (ad 64)) (x0e_64 ad ca c64)) ?_
  refine xcons (congrArg (Prod.mk (ad 65)) (x0e_65 ad ca c65)) ?_
  refine xcons (congrArg (Prod.mk (ad 66)) (x0e_66 ad ca c66)) ?_
  refine xcons (congrArg (Prod.mk (ad 67)) (x0e_67 ad ca c67)) ?_
  refine xcons (congrArg (Prod.mk (ad 68)) (x0e_68 ad ca c68)) ?_
  refine xcons (congrArg (Prod.mk (ad 69)) (x0e_69 ad ca c69)) ?_
  refine xcons (congrArg (Prod.mk (ad 70)) (x0e_70 ad ca)) ?_
  refine xcons (congrArg (Prod.mk (ad 71)) (x0e_71 ad ca c71)) ?_
  refine xcons (congrArg (Prod.mk (ad 72)) (x0e_72 ad ca c72)) ?_
  rfl
theorem x0i_0 {ad : Nat → Nat} (hd : x0D ad) : xN 12 0 ∧ ∀ j : Int, 0 ≤ j → xF (x0L ad) (x0K ad) 12 j ((fl_ [0, 0, (ad 1 : Int), (ad 11 : Int), (ad 18 : Int), (ad 19 : Int), (ad 38 : Int), 0, (ad 39 : Int), 0, (ad 40 : Int), 0, (ad 41 : Int), 0, (ad 42 : Int), (ad 53 : Int), (ad 54 : Int), (ad 55 : Int), (ad 61 : Int), (ad 70 : Int)]) j) := by
  refine ⟨trivial, fun j hj => ?_⟩
  show xF12 (x0L ad) (x0K ad) j.toNat (([0, 0, (ad 1 : Int), (ad 11 : Int), (ad 18 : Int), (ad 19 : Int), (ad 38 : Int), 0, (ad 39 : Int), 0, (ad 40 : Int), 0, (ad 41 : Int), 0, (ad 42 : Int), (ad 53 : Int), (ad 54 : Int), (ad 55 : Int), (ad 61 : Int), (ad 70 : Int)] : List Int).getD j.toNat 0)
  generalize j.toNat = n
  match n with
  | 0 => exact (show 0 ≤ (0 : Int) ∧ (0 : Int) ≤ 2000 by decide)
  | 1 => exact (show (-2147483648) ≤ (0 : Int) ∧ (0 : Int) ≤ 2147483647 by decide)
  | 2 => exact x0_ok hd (by decide) rfl
  | 3 => exact x0_ok hd (by decide) rfl
  | 4 => exact x0_ok hd (by decide) rfl
  | 5 => exact x0_ok hd (by decide) rfl
  | 6 => exact x0_ok hd (by decide) rfl
  | 7 => exact (show 0 ≤ (0 : Int) ∧ (0 : Int) ≤ 60 by decide)
  | 8 => exact x0_ok hd (by decide) rfl
  | 9 => exact (show 0 ≤ (0 : Int) ∧ (0 : Int) ≤ 60 by decide)
  | 10 => exact x0_ok hd (by decide) rfl
  | 11 => exact (show 0 ≤ (0 : Int) ∧ (0 : Int) ≤ 12 by decide)
  | 12 => exact x0_ok hd (by decide) rfl
  | 13 => exact (show 0 ≤ (0 : Int) ∧ (0 : Int) ≤ 300 by decide)
  | 14 => exact x0_ok hd (by decide) rfl
  | 15 => exact x0_ok hd (by decide) rfl
  | 16 => exact x0_ok hd (by decide) rfl
  | 17 => exact x0_ok hd (by decide) rfl
  | 18 => exact x0_ok hd (by decide) rfl
  | 19 => exact x0_ok hd (by decide) rfl
  | n + 20 => exact trivial
theorem x0i_1 {ad : Nat → Nat} (hd : x0D ad) : xN 7 0 ∧ ∀ j : Int, 0 ≤ j → xF (x0L ad) (x0K ad) 7 j ((fl_ [(ad 2 : Int), 0, (ad 3 : Int), (ad 4 : Int), (ad 5 : Int), (ad 6 : Int), 0, 0, 0, (ad 7 : Int), 0, (ad 8 : Int), (ad 9 : Int), (ad 10 : Int), 0]) j) := by
  refine ⟨trivial, fun j hj => ?_⟩
  show xF7 (x0L ad) (x0K ad) j.toNat (([(ad 2 : Int), 0, (ad 3 : Int), (ad 4 : Int), (ad 5 : Int), (ad 6 : Int), 0, 0, 0, (ad 7 : Int), 0, (ad 8 : Int), (ad 9 : Int), (ad 10 : Int), 0] : List Int).getD j.toNat 0)
  generalize j.toNat = n
  match n with
  | 0 => exact x0_ok hd (by decide) rfl
  | 1 => exact (show 0 ≤ (0 : Int) ∧ (0 : Int) ≤ 600 by decide)
  | 2 => exact x0_ok hd (by decide) rfl
  | 3 => exact x0_ok hd (by decide) rfl
  | 4 => exact x0_ok hd (by decide) rfl
  | 5 => exact x0_ok hd (by decide) rfl
  | 6 => exact (show (-2147483648) ≤ (0 : Int) ∧ (0 : Int) ≤ 2147483647 by decide)
  | 7 => exact (show (-2147483648) ≤ (0 : Int) ∧ (0 : Int) ≤ 2147483647 by decide)
  | 8 => exact (show (-2147483648) ≤ (0 : Int) ∧ (0 : Int) ≤ 2147483647 by decide)
  | 9 => exact x0_ok hd (by decide) rfl
  | 10 => exact (show 0 ≤ (0 : Int) ∧ (0 : Int) ≤ 600 by decide)
  | 11 => exact x0_ok hd (by decide) rfl
  | 12 => exact x0_ok hd (by decide) rfl
  | 13 => exact x0_ok hd (by decide) rfl
  | 14 => exact (show 0 ≤ (0 : Int) ∧ (0 : Int) ≤ 4 by decide)
  | n + 15 => exact trivial
theorem x0i_2 {ad : Nat → Nat} (hd : x0D ad) : xN 20 600 ∧ ∀ j : Int, 0 ≤ j → xF (x0L ad) (x0K ad) 20 j (((fun _ => 0)) j) := ⟨rfl, fun j _ => (show (-128 : Int) ≤ 0 ∧ (0 : Int) ≤ 127 by decide)⟩
theorem x0i_3 {ad : Nat → Nat} (hd : x0D ad) : xN 21 601 ∧ ∀ j : Int, 0 ≤ j → xF (x0L ad) (x0K ad) 21 j (((fun _ => 0)) j) := ⟨rfl, fun j _ => (show (-2147483648 : Int) ≤ 0 ∧ (0 : Int) ≤ 2147483647 by decide)⟩
theorem x0i_4 {ad : Nat → Nat} (hd : x0D ad) : xN 22 601 ∧ ∀ j : Int, 0 ≤ j → xF (x0L ad) (x0K ad) 22 j (((fun _ => 0)) j) := ⟨rfl, fun j _ => (show (-2147483648 : Int) ≤ 0 ∧ (0 : Int) ≤ 2147483647 by decide)⟩
theorem x0i_5 {ad : Nat → Nat} (hd : x0D ad) : xN 23 601 ∧ ∀ j : Int, 0 ≤ j → xF (x0L ad) (x0K ad) 23 j (((fun _ => 0)) j) := ⟨rfl, fun j _ => (show (-2147483648 : Int) ≤ 0 ∧ (0 : Int) ≤ 2147483647 by decide)⟩
theorem x0i_6 {ad : Nat → Nat} (hd : x0D ad) : xN 24 601 ∧ ∀ j : Int, 0 ≤ j → xF (x0L ad) (x0K ad) 24 j (((fun _ => 0)) j) := ⟨rfl, fun j _ => (show (-2147483648 : Int) ≤ 0 ∧ (0 : Int) ≤ 2147483647 by decide)⟩
theorem x0i_7 {ad : Nat → Nat} (hd : x0D ad) : xN 25 600 ∧ ∀ j : Int, 0 ≤ j → xF (x0L ad) (x0K ad) 25 j (((fun _ => 0)) j) := ⟨rfl, fun j _ => (show (-2147483648 : Int) ≤ 0 ∧ (0 : Int) ≤ 2147483647 by decide)⟩
theorem x0i_8 {ad : Nat → Nat} (hd : x0D ad) : xN 26 14 ∧ ∀ j : Int, 0 ≤ j → xF (x0L ad) (x0K ad) 26 j (((fun _ => 0)) j) := ⟨rfl, fun j _ => (show (-2147483648 : Int) ≤ 0 ∧ (0 : Int) ≤ 2147483647 by decide)⟩
theorem x0i_9 {ad : Nat → Nat} (hd : x0D ad) : xN 27 14 ∧ ∀ j : Int, 0 ≤ j → xF (x0L ad) (x0K ad) 27 j (((fun _ => 0)) j) := ⟨rfl, fun j _ => (show (-2147483648 : Int) ≤ 0 ∧ (0 : Int) ≤ 2147483647 by decide)⟩
theorem x0i_10 {ad : Nat → Nat} (hd : x0D ad) : xN 28 4 ∧ ∀ j : Int, 0 ≤ j → xF (x0L ad) (x0K ad) 28 j (((fun _ => 0)) j) := ⟨rfl, fun _ _ => trivial⟩
theorem x0i_11 {ad : Nat → Nat} (hd : x0D ad) : xN 8 0 ∧ ∀ j : Int, 0 ≤ j → xF (x0L ad) (x0K ad) 8 j ((fl_ [(ad 12 : Int), 0, (ad 13 : Int), (ad 14 : Int), (ad 15 : Int), 0, (ad 16 : Int), (ad 17 : Int)]) j) := by
  refine ⟨trivial, fun j hj => ?_⟩
  show xF8 (x0L ad) (x0K ad) j.toNat (([(ad 12 : Int), 0, (ad 13 : Int), (ad 14 : Int), (ad 15 : Int), 0, (ad 16 : Int), (ad 17 : Int)] : List Int).getD j.toNat 0)
  generalize j.toNat = n
  match n with
  | 0 => exact x0_ok hd (by decide) rfl
  | 1 => exact (show 0 ≤ (0 : Int) ∧ (0 : Int) ≤ 12 by decide)
  | 2 => exact x0_ok hd (by decide) rfl
  | 3 => exact x0_ok hd (by decide) rfl
  | 4 => exact x0_ok hd (by decide) rfl
  | 5 => exact (show 0 ≤ (0 : Int) ∧ (0 : Int) ≤ 20 by decide)
  | 6 => exact x0_ok hd (by decide) rfl
  | 7 => exact x0_ok hd (by decide) rfl
  | n + 8 => exact trivial
theorem x0i_12 {ad : Nat → Nat} (hd : x0D ad) : xN 29 12 ∧ ∀ j : Int, 0 ≤ j → xF (x0L ad) (x0K ad) 29 j (((fun _ => (-1))) j) := ⟨rfl, fun j _ => Or.inl (show (-1 : Int) < 0 by decide)⟩
theorem x0i_13 {ad : Nat → Nat} (hd : x0D ad) : xN 30 20 ∧ ∀ j : Int, 0 ≤ j → xF (x0L ad) (x0K ad) 30 j (((fun _ => 0)) j) := ⟨rfl, fun j _ => (show (-2147483648 : Int) ≤ 0 ∧ (0 : Int) ≤ 2147483647 by decide)⟩
theorem x0i_14 {ad : Nat → Nat} (hd : x0D ad) : xN 31 20 ∧ ∀ j : Int, 0 ≤ j → xF (x0L ad) (x0K ad) 31 j (((fun _ => 0)) j) := ⟨rfl, fun j _ => (show (-2147483648 : Int) ≤ 0 ∧ (0 : Int) ≤ 2147483647 by decide)⟩
theorem x0i_15 {ad : Nat → Nat} (hd : x0D ad) : xN 32 20 ∧ ∀ j : Int, 0 ≤ j → xF (x0L ad) (x0K ad) 32 j (((fun _ => 0)) j) := ⟨rfl, fun j _ => (show (-2147483648 : Int) ≤ 0 ∧ (0 : Int) ≤ 2147483647 by decide)⟩
theorem x0i_16 {ad : Nat → Nat} (hd : x0D ad) : xN 33 9 ∧ ∀ j : Int, 0 ≤ j → xF (x0L ad) (x0K ad) 33 j (((fun _ => 0)) j) := ⟨rfl, fun j _ => (show (-2147483648 : Int) ≤ 0 ∧ (0 : Int) ≤ 2147483647 by decide)⟩
theorem x0i_17 {ad : Nat → Nat} (hd : x0D ad) : xN 34 64 ∧ ∀ j : Int, 0 ≤ j → xF (x0L ad) (x0K ad) 34 j (((fun _ => 0)) j) := ⟨rfl, fun j _ => (show (-2147483648 : Int) ≤ 0 ∧ (0 : Int) ≤ 2147483647 by decide)⟩
theorem x0i_18 {ad : Nat → Nat} (hd : x0D ad) : xN 6 0 ∧ ∀ j : Int, 0 ≤ j → xF (x0L ad) (x0K ad) 6 j ((fl_ [(ad 11 : Int), 0, 0, 0, 0, 0]) j) := by
  refine ⟨trivial, fun j hj => ?_⟩
  show xF6 (x0L ad) (x0K ad) j.toNat (([(ad 11 : Int), 0, 0, 0, 0, 0] : List Int).getD j.toNat 0)
  generalize j.toNat = n
  match n with
  | 0 => exact x0_ok hd (by decide) rfl
  | 1 => exact (show (-2147483648) ≤ (0 : Int) ∧ (0 : Int) ≤ 2147483647 by decide)
  | 2 => exact (show (-2147483648) ≤ (0 : Int) ∧ (0 : Int) ≤ 2147483647 by decide)
  | 3 => exact (show 0 ≤ (0 : Int) ∧ (0 : Int) ≤ 1 by decide)
  | 4 => exact (show 0 ≤ (0 : Int) ∧ (0 : Int) ≤ 1 by decide)
  | 5 => exact (show 0 ≤ (0 : Int) ∧ (0 : Int) ≤ 1 by decide)
  | n + 6 => exact trivial
theorem x0i_19 {ad : Nat → Nat} (hd : x0D ad) : xN 35 6 ∧ ∀ j : Int, 0 ≤ j → xF (x0L ad) (x0K ad) 35 j ((fun j => [(ad 20 : Int), (ad 23 : Int), (ad 26 : Int), (ad 29 : Int), (ad 32 : Int), (ad 35 : Int)].getD j.toNat (-1)) j) := by
  refine ⟨rfl, fun j hj => ?_⟩
  show ([(ad 20 : Int), (ad 23 : Int), (ad 26 : Int), (ad 29 : Int), (ad 32 : Int), (ad 35 : Int)].getD j.toNat (-1) < 0 ∨ ok (x0L ad) (x0K ad) ([(ad 20 : Int), (ad 23 : Int), (ad 26 : Int), (ad 29 : Int), (ad 32 : Int), (ad 35 : Int)].getD j.toNat (-1)) 11)
  generalize j.toNat = n
  match n with
  | 0 => exact Or.inr (x0_ok hd (by decide) rfl)
  | 1 => exact Or.inr (x0_ok hd (by decide) rfl)
  | 2 => exact Or.inr (x0_ok hd (by decide) rfl)
  | 3 => exact Or.inr (x0_ok hd (by decide) rfl)
  | 4 => exact Or.inr (x0_ok hd (by decide) rfl)
  | 5 => exact Or.inr (x0_ok hd (by decide) rfl)
  | n + 6 => exact Or.inl (show (-1 : Int) < 0 by decide)
theorem x0i_20 {ad : Nat → Nat} (hd : x0D ad) : xN 11 0 ∧ ∀ j : Int, 0 ≤ j → xF (x0L ad) (x0K ad) 11 j ((fl_ [4, (-1), (ad 21 : Int), (ad 22 : Int), 0, 0, 0]) j) := by
  refine ⟨trivial, fun j hj => ?_⟩
  show xF11 (x0L ad) (x0K ad) j.toNat (([4, (-1), (ad 21 : Int), (ad 22 : Int), 0, 0, 0] : List Int).getD j.toNat 0)
  generalize j.toNat = n
  match n with
  | 0 => exact (show (-2147483648) ≤ (4 : Int) ∧ (4 : Int) ≤ 2147483647 by decide)
  | 1 => exact (show (-2147483648) ≤ (-1 : Int) ∧ (-1 : Int) ≤ 2147483647 by decide)
  | 2 => exact x0_ok hd (by decide) rfl
  | 3 => exact x0_ok hd (by decide) rfl
  | 4 => exact (show 0 ≤ (0 : Int) ∧ (0 : Int) ≤ 12000 by decide)
  | 5 => exact (show (-2147483648) ≤ (0 : Int) ∧ (0 : Int) ≤ 2147483647 by decide)
  | 6 => exact (show (-2147483648) ≤ (0 : Int) ∧ (0 : Int) ≤ 2147483647 by decide)
  | n + 7 => exact trivial
theorem x0i_21 {ad : Nat → Nat} (hd : x0D ad) : xN 63 0 ∧ ∀ j : Int, 0 ≤ j → xF (x0L ad) (x0K ad) 63 j (((fun _ => 0)) j) := ⟨⟨by decide, by decide⟩, fun j _ => (show (-2147483648 : Int) ≤ 0 ∧ (0 : Int) ≤ 2147483647 by decide)⟩
theorem x0i_22 {ad : Nat → Nat} (hd : x0D ad) : xN 64 0 ∧ ∀ j : Int, 0 ≤ j → xF (x0L ad) (x0K ad) 64 j (((fun _ => 0)) j) := ⟨⟨by decide, by decide⟩, fun j _ => (show (-2147483648 : Int) ≤ 0 ∧ (0 : Int) ≤ 2147483647 by decide)⟩
theorem x0i_23 {ad : Nat → Nat} (hd : x0D ad) : xN 11 0 ∧ ∀ j : Int, 0 ≤ j → xF (x0L ad) (x0K ad) 11 j ((fl_ [9, (-1), (ad 24 : Int), (ad 25 : Int), 0, 0, 0]) j) := by
  refine ⟨trivial, fun j hj => ?_⟩
  show xF11 (x0L ad) (x0K ad) j.toNat (([9, (-1), (ad 24 : Int), (ad 25 : Int), 0, 0, 0] : List Int).getD j.toNat 0)
  generalize j.toNat = n
  match n with
  | 0 => exact (show (-2147483648) ≤ (9 : Int) ∧ (9 : Int) ≤ 2147483647 by decide)
  | 1 => exact (show (-2147483648) ≤ (-1 : Int) ∧ (-1 : Int) ≤ 2147483647 by decide)
  | 2 => exact x0_ok hd (by decide) rfl
  | 3 => exact x0_ok hd (by decide) rfl
  | 4 => exact (show 0 ≤ (0 : Int) ∧ (0 : Int) ≤ 12000 by decide)
  | 5 => exact (show (-2147483648) ≤ (0 : Int) ∧ (0 : Int) ≤ 2147483647 by decide)
  | 6 => exact (show (-2147483648) ≤ (0 : Int) ∧ (0 : Int) ≤ 2147483647 by decide)
  | n + 7 => exact trivial
theorem x0i_24 {ad : Nat → Nat} (hd : x0D ad) : xN 63 0 ∧ ∀ j : Int, 0 ≤ j → xF (x0L ad) (x0K ad) 63 j (((fun _ => 0)) j) := ⟨⟨by decide, by decide⟩, fun j _ => (show (-2147483648 : Int) ≤ 0 ∧ (0 : Int) ≤ 2147483647 by decide)⟩
theorem x0i_25 {ad : Nat → Nat} (hd : x0D ad) : xN 64 0 ∧ ∀ j : Int, 0 ≤ j → xF (x0L ad) (x0K ad) 64 j (((fun _ => 0)) j) := ⟨⟨by decide, by decide⟩, fun j _ => (show (-2147483648 : Int) ≤ 0 ∧ (0 : Int) ≤ 2147483647 by decide)⟩
theorem x0i_26 {ad : Nat → Nat} (hd : x0D ad) : xN 11 0 ∧ ∀ j : Int, 0 ≤ j → xF (x0L ad) (x0K ad) 11 j ((fl_ [14, (-1), (ad 27 : Int), (ad 28 : Int), 0, 0, 0]) j) := by
  refine ⟨trivial, fun j hj => ?_⟩
  show xF11 (x0L ad) (x0K ad) j.toNat (([14, (-1), (ad 27 : Int), (ad 28 : Int), 0, 0, 0] : List Int).getD j.toNat 0)
  generalize j.toNat = n
  match n with
  | 0 => exact (show (-2147483648) ≤ (14 : Int) ∧ (14 : Int) ≤ 2147483647 by decide)
  | 1 => exact (show (-2147483648) ≤ (-1 : Int) ∧ (-1 : Int) ≤ 2147483647 by decide)
  | 2 => exact x0_ok hd (by decide) rfl
  | 3 => exact x0_ok hd (by decide) rfl
  | 4 => exact (show 0 ≤ (0 : Int) ∧ (0 : Int) ≤ 12000 by decide)
  | 5 => exact (show (-2147483648) ≤ (0 : Int) ∧ (0 : Int) ≤ 2147483647 by decide)
  | 6 => exact (show (-2147483648) ≤ (0 : Int) ∧ (0 : Int) ≤ 2147483647 by decide)
  | n + 7 => exact trivial
theorem x0i_27 {ad : Nat → Nat} (hd : x0D ad) : xN 63 0 ∧ ∀ j : Int, 0 ≤ j → xF (x0L ad) (x0K ad) 63 j (((fun _ => 0)) j) := ⟨⟨by decide, by decide⟩, fun j _ => (show (-2147483648 : Int) ≤ 0 ∧ (0 : Int) ≤ 2147483647 by decide)⟩
theorem x0i_28 {ad : Nat → Nat} (hd : x0D ad) : xN 64 0 ∧ ∀ j : Int, 0 ≤ j → xF (x0L ad) (x0K ad) 64 j (((fun _ => 0)) j) := ⟨⟨by decide, by decide⟩, fun j _ => (show (-2147483648 : Int) ≤ 0 ∧ (0 : Int) ≤ 2147483647 by decide)⟩
theorem x0i_29 {ad : Nat → Nat} (hd : x0D ad) : xN 11 0 ∧ ∀ j : Int, 0 ≤ j → xF (x0L ad) (x0K ad) 11 j ((fl_ [19, (-1), (ad 30 : Int), (ad 31 : Int), 0, 0, 0]) j) := by
  refine ⟨trivial, fun j hj => ?_⟩
  show xF11 (x0L ad) (x0K ad) j.toNat (([19, (-1), (ad 30 : Int), (ad 31 : Int), 0, 0, 0] : List Int).getD j.toNat 0)
  generalize j.toNat = n
  match n with
  | 0 => exact (show (-2147483648) ≤ (19 : Int) ∧ (19 : Int) ≤ 2147483647 by decide)
  | 1 => exact (show (-2147483648) ≤ (-1 : Int) ∧ (-1 : Int) ≤ 2147483647 by decide)
  | 2 => exact x0_ok hd (by decide) rfl
  | 3 => exact x0_ok hd (by decide) rfl
  | 4 => exact (show 0 ≤ (0 : Int) ∧ (0 : Int) ≤ 12000 by decide)
  | 5 => exact (show (-2147483648) ≤ (0 : Int) ∧ (0 : Int) ≤ 2147483647 by decide)
  | 6 => exact (show (-2147483648) ≤ (0 : Int) ∧ (0 : Int) ≤ 2147483647 by decide)
  | n + 7 => exact trivial
theorem x0i_30 {ad : Nat → Nat} (hd : x0D ad) : xN 63 0 ∧ ∀ j : Int, 0 ≤ j → xF (x0L ad) (x0K ad) 63 j (((fun _ => 0)) j) := ⟨⟨by decide, by decide⟩, fun j _ => (show (-2147483648 : Int) ≤ 0 ∧ (0 : Int) ≤ 2147483647 by decide)⟩
theorem x0i_31 {ad : Nat → Nat} (hd : x0D ad) : xN 64 0 ∧ ∀ j : Int, 0 ≤ j → xF (x0L ad) (x0K ad) 64 j (((fun _ => 0)) j) := ⟨⟨by decide, by decide⟩, fun j _ => (show (-2147483648 : Int) ≤ 0 ∧ (0 : Int) ≤ 2147483647 by decide)⟩
theorem x0i_32 {ad : Nat → Nat} (hd : x0D ad) : xN 11 0 ∧ ∀ j : Int, 0 ≤ j → xF (x0L ad) (x0K ad) 11 j ((fl_ [24, (-1), (ad 33 : Int), (ad 34 : Int), 0, 0, 0]) j) := by
  refine ⟨trivial, fun j hj => ?_⟩
  show xF11 (x0L ad) (x0K ad) j.toNat (([24, (-1), (ad 33 : Int), (ad 34 : Int), 0, 0, 0] : List Int).getD j.toNat 0)
  generalize j.toNat = n
  match n with
  | 0 => exact (show (-2147483648) ≤ (24 : Int) ∧ (24 : Int) ≤ 2147483647 by decide)
  | 1 => exact (show (-2147483648) ≤ (-1 : Int) ∧ (-1 : Int) ≤ 2147483647 by decide)
  | 2 => exact x0_ok hd (by decide) rfl
  | 3 => exact x0_ok hd (by decide) rfl
  | 4 => exact (show 0 ≤ (0 : Int) ∧ (0 : Int) ≤ 12000 by decide)
  | 5 => exact (show (-2147483648) ≤ (0 : Int) ∧ (0 : Int) ≤ 2147483647 by decide)
  | 6 => exact (show (-2147483648) ≤ (0 : Int) ∧ (0 : Int) ≤ 2147483647 by decide)
  | n + 7 => exact trivial
theorem x0i_33 {ad : Nat → Nat} (hd : x0D ad) : xN 63 0 ∧ ∀ j : Int, 0 ≤ j → xF (x0L ad) (x0K ad) 63 j (((fun _ => 0)) j) := ⟨⟨by decide, by decide⟩, fun j _ => (show (-2147483648 : Int) ≤ 0 ∧ (0 : Int) ≤ 2147483647 by decide)⟩
theorem x0i_34 {ad : Nat → Nat} (hd : x0D ad) : xN 64 0 ∧ ∀ j : Int, 0 ≤ j → xF (x0L ad) (x0K ad) 64 j (((fun _ => 0)) j) := ⟨⟨by decide, by decide⟩, fun j _ => (show (-2147483648 : Int) ≤ 0 ∧ (0 : Int) ≤ 2147483647 by decide)⟩
theorem x0i_35 {ad : Nat → Nat} (hd : x0D ad) : xN 11 0 ∧ ∀ j : Int, 0 ≤ j → xF (x0L ad) (x0K ad) 11 j ((fl_ [25, (-1), (ad 36 : Int), (ad 37 : Int), 0, 0, 0]) j) := by
  refine ⟨trivial, fun j hj => ?_⟩
  show xF11 (x0L ad) (x0K ad) j.toNat (([25, (-1), (ad 36 : Int), (ad 37 : Int), 0, 0, 0] : List Int).getD j.toNat 0)
  generalize j.toNat = n
  match n with
  | 0 => exact (show (-2147483648) ≤ (25 : Int) ∧ (25 : Int) ≤ 2147483647 by decide)
  | 1 => exact (show (-2147483648) ≤ (-1 : Int) ∧ (-1 : Int) ≤ 2147483647 by decide)
  | 2 => exact x0_ok hd (by decide) rfl
  | 3 => exact x0_ok hd (by decide) rfl
  | 4 => exact (show 0 ≤ (0 : Int) ∧ (0 : Int) ≤ 12000 by decide)
  | 5 => exact (show (-2147483648) ≤ (0 : Int) ∧ (0 : Int) ≤ 2147483647 by decide)
  | 6 => exact (show (-2147483648) ≤ (0 : Int) ∧ (0 : Int) ≤ 2147483647 by decide)
  | n + 7 => exact trivial
theorem x0i_36 {ad : Nat → Nat} (hd : x0D ad) : xN 63 0 ∧ ∀ j : Int, 0 ≤ j → xF (x0L ad) (x0K ad) 63 j (((fun _ => 0)) j) := ⟨⟨by decide, by decide⟩, fun j _ => (show (-2147483648 : Int) ≤ 0 ∧ (0 : Int) ≤ 2147483647 by decide)⟩
theorem x0i_37 {ad : Nat → Nat} (hd : x0D ad) : xN 64 0 ∧ ∀ j : Int, 0 ≤ j → xF (x0L ad) (x0K ad) 64 j (((fun _ => 0)) j) := ⟨⟨by decide, by decide⟩, fun j _ => (show (-2147483648 : Int) ≤ 0 ∧ (0 : Int) ≤ 2147483647 by decide)⟩
theorem x0i_38 {ad : Nat → Nat} (hd : x0D ad) : xN 36 60 ∧ ∀ j : Int, 0 ≤ j → xF (x0L ad) (x0K ad) 36 j (((fun _ => (-1))) j) := ⟨rfl, fun j _ => Or.inl (show (-1 : Int) < 0 by decide)⟩
theorem x0i_39 {ad : Nat → Nat} (hd : x0D ad) : xN 37 60 ∧ ∀ j : Int, 0 ≤ j → xF (x0L ad) (x0K ad) 37 j (((fun _ => 0)) j) := ⟨rfl, fun j _ => (show (-2147483648 : Int) ≤ 0 ∧ (0 : Int) ≤ 2147483647 by decide)⟩
theorem x0i_40 {ad : Nat → Nat} (hd : x0D ad) : xN 38 12 ∧ ∀ j : Int, 0 ≤ j → xF (x0L ad) (x0K ad) 38 j (((fun _ => (-1))) j) := ⟨rfl, fun j _ => Or.inl (show (-1 : Int) < 0 by decide)⟩
theorem x0i_41 {ad : Nat → Nat} (hd : x0D ad) : xN 39 300 ∧ ∀ j : Int, 0 ≤ j → xF (x0L ad) (x0K ad) 39 j (((fun _ => (-1))) j) := ⟨rfl, fun j _ => Or.inl (show (-1 : Int) < 0 by decide)⟩
theorem x0i_42 {ad : Nat → Nat} (hd : x0D ad) : xN 5 0 ∧ ∀ j : Int, 0 ≤ j → xF (x0L ad) (x0K ad) 5 j ((fl_ [(ad 43 : Int), (ad 44 : Int), (ad 45 : Int), (ad 46 : Int), (ad 47 : Int), 0, (ad 48 : Int), (ad 49 : Int), (ad 50 : Int), (ad 51 : Int), (ad 52 : Int), 0]) j) := by
  refine ⟨trivial, fun j hj => ?_⟩
  show xF5 (x0L ad) (x0K ad) j.toNat (([(ad 43 : Int), (ad 44 : Int), (ad 45 : Int), (ad 46 : Int), (ad 47 : Int), 0, (ad 48 : Int), (ad 49 : Int), (ad 50 : Int), (ad 51 : Int), (ad 52 : Int), 0] : List Int).getD j.toNat 0)
  generalize j.toNat = n
  match n with
  | 0 => exact x0_ok hd (by decide) rfl
  | 1 => exact x0_ok hd (by decide) rfl
  | 2 => exact x0_ok hd (by decide) rfl
  | 3 => exact x0_ok hd (by decide) rfl
  | 4 => exact x0_ok hd (by decide) rfl
  | 5 => exact (show (-2147483648) ≤ (0 : Int) ∧ (0 : Int) ≤ 2147483647 by decide)
  | 6 => exact x0_ok hd (by decide) rfl
  | 7 => exact x0_ok hd (by decide) rfl
  | 8 => exact x0_ok hd (by decide) rfl
  | 9 => exact x0_ok hd (by decide) rfl
  | 10 => exact x0_ok hd (by decide) rfl
  | 11 => exact (show (-2147483648) ≤ (0 : Int) ∧ (0 : Int) ≤ 2147483647 by decide)
  | n + 12 => exact trivial
theorem x0i_43 {ad : Nat → Nat} (hd : x0D ad) : xN 42 40 ∧ ∀ j : Int, 0 ≤ j → xF (x0L ad) (x0K ad) 42 j ((xfill 40 (-1)) j) := ⟨rfl, fun j _ => (show (-2147483648 : Int) ≤ xfill 40 (-1) j ∧ xfill 40 (-1) j ≤ 2147483647 by unfold xfill; split <;> decide)⟩
theorem x0i_44 {ad : Nat → Nat} (hd : x0D ad) : xN 43 600 ∧ ∀ j : Int, 0 ≤ j → xF (x0L ad) (x0K ad) 43 j (((fun _ => 0)) j) := ⟨rfl, fun j _ => (show (-2147483648 : Int) ≤ 0 ∧ (0 : Int) ≤ 2147483647 by decide)⟩
theorem x0i_45 {ad : Nat → Nat} (hd : x0D ad) : xN 44 600 ∧ ∀ j : Int, 0 ≤ j → xF (x0L ad) (x0K ad) 44 j (((fun _ => 0)) j) := ⟨rfl, fun j _ => (show (-2147483648 : Int) ≤ 0 ∧ (0 : Int) ≤ 2147483647 by decide)⟩
theorem x0i_46 {ad : Nat → Nat} (hd : x0D ad) : xN 45 600 ∧ ∀ j : Int, 0 ≤ j → xF (x0L ad) (x0K ad) 45 j (((fun _ => 0)) j) := ⟨rfl, fun j _ => (show (-2147483648 : Int) ≤ 0 ∧ (0 : Int) ≤ 2147483647 by decide)⟩
theorem x0i_47 {ad : Nat → Nat} (hd : x0D ad) : xN 46 600 ∧ ∀ j : Int, 0 ≤ j → xF (x0L ad) (x0K ad) 46 j (((fun _ => 0)) j) := ⟨rfl, fun j _ => (show (-2147483648 : Int) ≤ 0 ∧ (0 : Int) ≤ 2147483647 by decide)⟩
theorem x0i_48 {ad : Nat → Nat} (hd : x0D ad) : xN 47 60 ∧ ∀ j : Int, 0 ≤ j → xF (x0L ad) (x0K ad) 47 j (((fun _ => 0)) j) := ⟨rfl, fun j _ => (show (-2147483648 : Int) ≤ 0 ∧ (0 : Int) ≤ 2147483647 by decide)⟩
theorem x0i_49 {ad : Nat → Nat} (hd : x0D ad) : xN 48 60 ∧ ∀ j : Int, 0 ≤ j → xF (x0L ad) (x0K ad) 48 j (((fun _ => 0)) j) := ⟨rfl, fun j _ => (show (-2147483648 : Int) ≤ 0 ∧ (0 : Int) ≤ 2147483647 by decide)⟩
theorem x0i_50 {ad : Nat → Nat} (hd : x0D ad) : xN 49 60 ∧ ∀ j : Int, 0 ≤ j → xF (x0L ad) (x0K ad) 49 j (((fun _ => 0)) j) := ⟨rfl, fun j _ => (show (-2147483648 : Int) ≤ 0 ∧ (0 : Int) ≤ 2147483647 by decide)⟩
theorem x0i_51 {ad : Nat → Nat} (hd : x0D ad) : xN 50 60 ∧ ∀ j : Int, 0 ≤ j → xF (x0L ad) (x0K ad) 50 j (((fun _ => 0)) j) := ⟨rfl, fun j _ => (show (-2147483648 : Int) ≤ 0 ∧ (0 : Int) ≤ 2147483647 by decide)⟩
theorem x0i_52 {ad : Nat → Nat} (hd : x0D ad) : xN 51 60 ∧ ∀ j : Int, 0 ≤ j → xF (x0L ad) (x0K ad) 51 j (((fun _ => 0)) j) := ⟨rfl, fun j _ => (show (0 : Int) ≤ 0 ∧ (0 : Int) ≤ 1 by decide)⟩
theorem x0i_53 {ad : Nat → Nat} (hd : x0D ad) : xN 40 10 ∧ ∀ j : Int, 0 ≤ j → xF (x0L ad) (x0K ad) 40 j ((xfill 10 (-1)) j) := ⟨rfl, fun j _ => (show (-2147483648 : Int) ≤ xfill 10 (-1) j ∧ xfill 10 (-1) j ≤ 2147483647 by unfold xfill; split <;> decide)⟩
theorem x0i_54 {ad : Nat → Nat} (hd : x0D ad) : xN 41 10 ∧ ∀ j : Int, 0 ≤ j → xF (x0L ad) (x0K ad) 41 j (((fun _ => 0)) j) := ⟨rfl, fun j _ => (show (-2147483648 : Int) ≤ 0 ∧ (0 : Int) ≤ 2147483647 by decide)⟩
theorem x0i_55 {ad : Nat → Nat} (hd : x0D ad) : xN 3 0 ∧ ∀ j : Int, 0 ≤ j → xF (x0L ad) (x0K ad) 3 j ((fl_ [(ad 56 : Int), (ad 57 : Int), (ad 58 : Int), (ad 59 : Int), (ad 60 : Int), 0, 0]) j) := by
  refine ⟨trivial, fun j hj => ?_⟩
  show xF3 (x0L ad) (x0K ad) j.toNat (([(ad 56 : Int), (ad 57 : Int), (ad 58 : Int), (ad 59 : Int), (ad 60 : Int), 0, 0] : List Int).getD j.toNat 0)
  generalize j.toNat = n
  match n with
  | 0 => exact x0_ok hd (by decide) rfl
  | 1 => exact x0_ok hd (by decide) rfl
  | 2 => exact x0_ok hd (by decide) rfl
  | 3 => exact x0_ok hd (by decide) rfl
  | 4 => exact x0_ok hd (by decide) rfl
  | 5 => exact (show (-2147483648) ≤ (0 : Int) ∧ (0 : Int) ≤ 2147483647 by decide)
  | 6 => exact (show (-2147483648) ≤ (0 : Int) ∧ (0 : Int) ≤ 2147483647 by decide)
  | n + 7 => exact trivial
theorem x0i_56 {ad : Nat → Nat} (hd : x0D ad) : xN 52 60 ∧ ∀ j : Int, 0 ≤ j → xF (x0L ad) (x0K ad) 52 j (((fun _ => 0)) j) := ⟨rfl, fun j _ => (show (-2147483648 : Int) ≤ 0 ∧ (0 : Int) ≤ 2147483647 by decide)⟩
theorem x0i_57 {ad : Nat → Nat} (hd : x0D ad) : xN 52 60 ∧ ∀ j : Int, 0 ≤ j → xF (x0L ad) (x0K ad) 52 j (((fun _ => 0)) j) := ⟨rfl, fun j _ => (show (-2147483648 : Int) ≤ 0 ∧ (0 : Int) ≤ 2147483647 by decide)⟩
theorem x0i_58 {ad : Nat → Nat} (hd : x0D ad) : xN 52 60 ∧ ∀ j : Int, 0 ≤ j → xF (x0L ad) (x0K ad) 52 j (((fun _ => 0)) j) := ⟨rfl, fun j _ => (show (-2147483648 : Int) ≤ 0 ∧ (0 : Int) ≤ 2147483647 by decide)⟩
theorem x0i_59 {ad : Nat → Nat} (hd : x0D ad) : xN 52 60 ∧ ∀ j : Int, 0 ≤ j → xF (x0L ad) (x0K ad) 52 j (((fun _ => 0)) j) := ⟨rfl, fun j _ => (show (-2147483648 : Int) ≤ 0 ∧ (0 : Int) ≤ 2147483647 by decide)⟩
theorem x0i_60 {ad : Nat → Nat} (hd : x0D ad) : xN 52 60 ∧ ∀ j : Int, 0 ≤ j → xF (x0L ad) (x0K ad) 52 j (((fun _ => 0)) j) := ⟨rfl, fun j _ => (show (-2147483648 : Int) ≤ 0 ∧ (0 : Int) ≤ 2147483647 by decide)⟩
theorem x0i_61 {ad : Nat → Nat} (hd : x0D ad) : xN 1 0 ∧ ∀ j : Int, 0 ≤ j → xF (x0L ad) (x0K ad) 1 j ((fl_ [(ad 62 : Int), (ad 63 : Int), (ad 64 : Int), 0, (ad 65 : Int), (ad 66 : Int), (ad 67 : Int), 0, (ad 68 : Int), (ad 69 : Int)]) j) := by
  refine ⟨trivial, fun j hj => ?_⟩
  show xF1 (x0L ad) (x0K ad) j.toNat (([(ad 62 : Int), (ad 63 : Int), (ad 64 : Int), 0, (ad 65 : Int), (ad 66 : Int), (ad 67 : Int), 0, (ad 68 : Int), (ad 69 : Int)] : List Int).getD j.toNat 0)
  generalize j.toNat = n
  match n with
  | 0 => exact x0_ok hd (by decide) rfl
  | 1 => exact x0_ok hd (by decide) rfl
  | 2 => exact x0_ok hd (by decide) rfl
  | 3 => exact (show 0 ≤ (0 : Int) ∧ (0 : Int) ≤ 7 by decide)
  | 4 => exact x0_ok hd (by decide) rfl
  | 5 => exact x0_ok hd (by decide) rfl
  | 6 => exact x0_ok hd (by decide) rfl
  | 7 => exact (show 0 ≤ (0 : Int) ∧ (0 : Int) ≤ 6 by decide)
  | 8 => exact x0_ok hd (by decide) rfl
  | 9 => exact x0_ok hd (by decide) rfl
  | n + 10 => exact trivial
theorem x0i_62 {ad : Nat → Nat} (hd : x0D ad) : xN 53 7 ∧ ∀ j : Int, 0 ≤ j → xF (x0L ad) (x0K ad) 53 j (((fun _ => 0)) j) := ⟨rfl, fun j _ => (show (-2147483648 : Int) ≤ 0 ∧ (0 : Int) ≤ 2147483647 by decide)⟩
theorem x0i_63 {ad : Nat → Nat} (hd : x0D ad) : xN 54 7 ∧ ∀ j : Int, 0 ≤ j → xF (x0L ad) (x0K ad) 54 j (((fun _ => 0)) j) := ⟨rfl, fun j _ => (show (-2147483648 : Int) ≤ 0 ∧ (0 : Int) ≤ 2147483647 by decide)⟩
theorem x0i_64 {ad : Nat → Nat} (hd : x0D ad) : xN 55 7 ∧ ∀ j : Int, 0 ≤ j → xF (x0L ad) (x0K ad) 55 j (((fun _ => 0)) j) := ⟨rfl, fun j _ => (show (-2147483648 : Int) ≤ 0 ∧ (0 : Int) ≤ 2147483647 by decide)⟩
theorem x0i_65 {ad : Nat → Nat} (hd : x0D ad) : xN 56 6 ∧ ∀ j : Int, 0 ≤ j → xF (x0L ad) (x0K ad) 56 j (((fun _ => 0)) j) := ⟨rfl, fun j _ => (show (-2147483648 : Int) ≤ 0 ∧ (0 : Int) ≤ 2147483647 by decide)⟩
theorem x0i_66 {ad : Nat → Nat} (hd : x0D ad) : xN 57 6 ∧ ∀ j : Int, 0 ≤ j → xF (x0L ad) (x0K ad) 57 j (((fun _ => 0)) j) := ⟨rfl, fun j _ => (show (-2147483648 : Int) ≤ 0 ∧ (0 : Int) ≤ 2147483647 by decide)⟩
theorem x0i_67 {ad : Nat → Nat} (hd : x0D ad) : xN 58 6 ∧ ∀ j : Int, 0 ≤ j → xF (x0L ad) (x0K ad) 58 j (((fun _ => 0)) j) := ⟨rfl, fun j _ => (show (-2147483648 : Int) ≤ 0 ∧ (0 : Int) ≤ 2147483647 by decide)⟩
theorem x0i_68 {ad : Nat → Nat} (hd : x0D ad) : xN 59 128 ∧ ∀ j : Int, 0 ≤ j → xF (x0L ad) (x0K ad) 59 j (((fun _ => 0)) j) := ⟨rfl, fun j _ => (show (-2147483648 : Int) ≤ 0 ∧ (0 : Int) ≤ 2147483647 by decide)⟩
theorem x0i_69 {ad : Nat → Nat} (hd : x0D ad) : xN 60 128 ∧ ∀ j : Int, 0 ≤ j → xF (x0L ad) (x0K ad) 60 j (((fun _ => 0)) j) := ⟨rfl, fun j _ => (show (0 : Int) ≤ 0 ∧ (0 : Int) ≤ 1 by decide)⟩
theorem x0i_70 {ad : Nat → Nat} (hd : x0D ad) : xN 10 0 ∧ ∀ j : Int, 0 ≤ j → xF (x0L ad) (x0K ad) 10 j ((fl_ [(ad 71 : Int), 0, (ad 72 : Int)]) j) := by
  refine ⟨trivial, fun j hj => ?_⟩
  show xF10 (x0L ad) (x0K ad) j.toNat (([(ad 71 : Int), 0, (ad 72 : Int)] : List Int).getD j.toNat 0)
  generalize j.toNat = n
  match n with
  | 0 => exact x0_ok hd (by decide) rfl
  | 1 => exact (show 0 ≤ (0 : Int) ∧ (0 : Int) ≤ 30 by decide)
  | 2 => exact x0_ok hd (by decide) rfl
  | n + 3 => exact trivial
theorem x0i_71 {ad : Nat → Nat} (hd : x0D ad) : xN 61 30 ∧ ∀ j : Int, 0 ≤ j → xF (x0L ad) (x0K ad) 61 j (((fun _ => 0)) j) := ⟨rfl, fun j _ => (show (-2147483648 : Int) ≤ 0 ∧ (0 : Int) ≤ 2147483647 by decide)⟩
theorem x0i_72 {ad : Nat → Nat} (hd : x0D ad) : xN 62 31 ∧ ∀ j : Int, 0 ≤ j → xF (x0L ad) (x0K ad) 62 j (((fun _ => 0)) j) := ⟨rfl, fun j _ => (show (-2147483648 : Int) ≤ 0 ∧ (0 : Int) ≤ 2147483647 by decide)⟩
theorem x0_I {ad : Nat → Nat} (hd : x0D ad) : xI (x0L ad) (x0K ad) (x0N ad) (x0V ad) := by
  intro z k hz
  obtain ⟨h0, hm, hk⟩ := hz
  obtain ⟨i, hi, e⟩ := List.mem_map.mp hm
  have hi := List.mem_range.mp hi
  have ez : z = (ad i : Int) := by omega
  subst ez
  rw [(x0_at hd hi).1] at hk
  rw [(x0_at hd hi).2.1, (x0_at hd hi).2.2, ← hk]
  rcases (show i = 0 ∨ i = 1 ∨ i = 2 ∨ i = 3 ∨ i = 4 ∨ i = 5 ∨ i = 6 ∨ i = 7 ∨ i = 8 ∨ i = 9 ∨ i = 10 ∨ i = 11 ∨ i = 12 ∨ i = 13 ∨ i = 14 ∨ i = 15 ∨ i = 16 ∨ i = 17 ∨ i = 18 ∨ i = 19 ∨ i = 20 ∨ i = 21 ∨ i = 22 ∨ i = 23 ∨ i = 24 ∨ i = 25 ∨ i = 26 ∨ i = 27 ∨ i = 28 ∨ i = 29 ∨ i = 30 ∨ i = 31 ∨ i = 32 ∨ i = 33 ∨ i = 34 ∨ i = 35 ∨ i = 36 ∨ i = 37 ∨ i = 38 ∨ i = 39 ∨ i = 40 ∨ i = 41 ∨ i = 42 ∨ i = 43 ∨ i = 44 ∨ i = 45 ∨ i = 46 ∨ i = 47 ∨ i = 48 ∨ i = 49 ∨ i = 50 ∨ i = 51 ∨ i = 52 ∨ i = 53 ∨ i = 54 ∨ i = 55 ∨ i = 56 ∨ i = 57 ∨ i = 58 ∨ i = 59 ∨ i = 60 ∨ i = 61 ∨ i = 62 ∨ i = 63 ∨ i = 64 ∨ i = 65 ∨ i = 66 ∨ i = 67 ∨ i = 68 ∨ i = 69 ∨ i = 70 ∨ i = 71 ∨ i = 72 by omega) with rfl | rfl | rfl | rfl | rfl | rfl | rfl | rfl | rfl | rfl | rfl | rfl | rfl | rfl | rfl | rfl | rfl | rfl | rfl | rfl | rfl | rfl | rfl | rfl | rfl | rfl | rfl | rfl | rfl | rfl | rfl | rfl | rfl | rfl | rfl | rfl | rfl | rfl | rfl | rfl | rfl | rfl | rfl | rfl | rfl | rfl | rfl | rfl | rfl | rfl | rfl | rfl | rfl | rfl | rfl | rfl | rfl | rfl | rfl | rfl | rfl | rfl | rfl | rfl | rfl | rfl | rfl | rfl | rfl | rfl | rfl | rfl | rfl
  · exact x0i_0 hd
  · exact x0i_1 hd
  · exact x0i_2 hd
  · exact x0i_3 hd
  · exact x0i_4 hd
  · exact x0i_5 hd
  · exact x0i_6 hd
  · exact x0i_7 hd
  · exact x0i_8 hd
  · exact x0i_9 hd
  · exact x0i_10 hd
  · exact x0i_11 hd
  · exact x0i_12 hd
  · exact x0i_13 hd
  · exact x0i_14 hd
  · exact x0i_15 hd
  · exact x0i_16 hd
  · exact x0i_17 hd
  · exact x0i_18 hd
  · exact x0i_19 hd
  · exact x0i_20 hd
  · exact x0i_21 hd
  · exact x0i_22 hd
  · exact x0i_23 hd
  · exact x0i_24 hd
  · exact x0i_25 hd
  · exact x0i_26 hd
  · exact x0i_27 hd
  · exact x0i_28 hd
  · exact x0i_29 hd
  · exact x0i_30 hd
  · exact x0i_31 hd
  · exact x0i_32 hd
  · exact x0i_33 hd
  · exact x0i_34 hd
  · exact x0i_35 hd
  · exact x0i_36 hd
  · exact x0i_37 hd
  · exact x0i_38 hd
  · exact x0i_39 hd
  · exact x0i_40 hd
  · exact x0i_41 hd
  · exact x0i_42 hd
  · exact x0i_43 hd
  · exact x0i_44 hd
  · exact x0i_45 hd
  · exact x0i_46 hd
  · exact x0i_47 hd
  · exact x0i_48 hd
  · exact x0i_49 hd
  · exact x0i_50 hd
  · exact x0i_51 hd
  · exact x0i_52 hd
  · exact x0i_53 hd
  · exact x0i_54 hd
  · exact x0i_55 hd
  · exact x0i_56 hd
  · exact x0i_57 hd
  · exact x0i_58 hd
  · exact x0i_59 hd
  · exact x0i_60 hd
  · exact x0i_61 hd
  · exact x0i_62 hd
  · exact x0i_63 hd
  · exact x0i_64 hd
  · exact x0i_65 hd
  · exact x0i_66 hd
  · exact x0i_67 hd
  · exact x0i_68 hd
  · exact x0i_69 hd
  · exact x0i_70 hd
  · exact x0i_71 hd
  · exact x0i_72 hd
