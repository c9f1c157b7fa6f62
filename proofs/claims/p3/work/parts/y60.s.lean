theorem jk_init {D : va_G} {cl : List vw_C} {t1 t2 : List (ClassId × FieldType)} {U : State} (h : va_K D cl (t1 ++ t2) U) : va_K D cl t1 U := ⟨h.1, fun k q hk => h.2 k q (by rw [List.getElem?_append_left (List.getElem?_eq_some_iff.mp hk).1]; exact hk)⟩
theorem jk_tail {D : va_G} {cl : List vw_C} {t1 t2 : List (ClassId × FieldType)} {U : State} (h : va_K D cl (t1 ++ t2) U) : va_K D cl t2 U := ⟨h.1, fun k q hk => h.2 (t1.length + k) q (by rw [List.getElem?_append_right (by omega)]; simpa using hk)⟩
set_option maxRecDepth 100000 in
theorem x0_get (ad : Nat → Nat) (ca : Nat → ClassId) {i : Nat} (h : i < 73) : ∃ e, (x0W ad ca)[i]? = some (ad i, e) := by
  rcases (show i = 0 ∨ i = 1 ∨ i = 2 ∨ i = 3 ∨ i = 4 ∨ i = 5 ∨ i = 6 ∨ i = 7 ∨ i = 8 ∨ i = 9 ∨ i = 10 ∨ i = 11 ∨ i = 12 ∨ i = 13 ∨ i = 14 ∨ i = 15 ∨ i = 16 ∨ i = 17 ∨ i = 18 ∨ i = 19 ∨ i = 20 ∨ i = 21 ∨ i = 22 ∨ i = 23 ∨ i = 24 ∨ i = 25 ∨ i = 26 ∨ i = 27 ∨ i = 28 ∨ i = 29 ∨ i = 30 ∨ i = 31 ∨ i = 32 ∨ i = 33 ∨ i = 34 ∨ i = 35 ∨ i = 36 ∨ i = 37 ∨ i = 38 ∨ i = 39 ∨ i = 40 ∨ i = 41 ∨ i = 42 ∨ i = 43 ∨ i = 44 ∨ i = 45 ∨ i = 46 ∨ i = 47 ∨ i = 48 ∨ i = 49 ∨ i = 50 ∨ i = 51 ∨ i = 52 ∨ i = 53 ∨ i = 54 ∨ i = 55 ∨ i = 56 ∨ i = 57 ∨ i = 58 ∨ i = 59 ∨ i = 60 ∨ i = 61 ∨ i = 62 ∨ i = 63 ∨ i = 64 ∨ i = 65 ∨ i = 66 ∨ i = 67 ∨ i = 68 ∨ i = 69 ∨ i = 70 ∨ i = 71 ∨ i = 72 by omega) with rfl | rfl | rfl | rfl | rfl | rfl | rfl | rfl | rfl | rfl | rfl | rfl | rfl | rfl | rfl | rfl | rfl | rfl | rfl | rfl | rfl | rfl | rfl | rfl | rfl | rfl | rfl | rfl | rfl | rfl | rfl | rfl | rfl | rfl | rfl | rfl | rfl | rfl | rfl | rfl | rfl | rfl | rfl | rfl | rfl | rfl | rfl | rfl | rfl | rfl | rfl | rfl | rfl | rfl | rfl | rfl | rfl | rfl | rfl | rfl | rfl | rfl | rfl | rfl | rfl | rfl | rfl | rfl | rfl | rfl | rfl | rfl | rfl <;> exact ⟨_, rfl⟩
theorem x0_dis {A : Nat → Prop} {ad : Nat → Nat} {ca : Nat → ClassId} (hD : va_D A (x0W ad ca)) : x0D ad := fun i j hi hj e => by
  obtain ⟨x, hx⟩ := x0_get ad ca hi
  obtain ⟨y, hy⟩ := x0_get ad ca hj
  exact hD.1 i j _ _ hx hy e
set_option maxRecDepth 100000 in
theorem x0_cls {D : va_G} {s : State} {ca : Nat → ClassId} (hK : va_K D vwCl (x0T ca) s) : x0C ca := ⟨Option.some.inj ((hK.2 2 _ rfl).2.symm.trans (hK.2 1 _ rfl).2),
  Option.some.inj ((hK.2 3 _ rfl).2.symm.trans (hK.2 1 _ rfl).2),
  Option.some.inj ((hK.2 4 _ rfl).2.symm.trans (hK.2 1 _ rfl).2),
  Option.some.inj ((hK.2 5 _ rfl).2.symm.trans (hK.2 1 _ rfl).2),
  Option.some.inj ((hK.2 6 _ rfl).2.symm.trans (hK.2 1 _ rfl).2),
  Option.some.inj ((hK.2 7 _ rfl).2.symm.trans (hK.2 1 _ rfl).2),
  Option.some.inj ((hK.2 10 _ rfl).2.symm.trans (hK.2 1 _ rfl).2),
  Option.some.inj ((hK.2 11 _ rfl).2.symm.trans (hK.2 1 _ rfl).2),
  Option.some.inj ((hK.2 12 _ rfl).2.symm.trans (hK.2 1 _ rfl).2),
  Option.some.inj ((hK.2 13 _ rfl).2.symm.trans (hK.2 1 _ rfl).2),
  Option.some.inj ((hK.2 14 _ rfl).2.symm.trans (hK.2 1 _ rfl).2),
  Option.some.inj ((hK.2 16 _ rfl).2.symm.trans (hK.2 1 _ rfl).2),
  Option.some.inj ((hK.2 17 _ rfl).2.symm.trans (hK.2 1 _ rfl).2),
  Option.some.inj ((hK.2 18 _ rfl).2.symm.trans (hK.2 1 _ rfl).2),
  Option.some.inj ((hK.2 19 _ rfl).2.symm.trans (hK.2 1 _ rfl).2),
  Option.some.inj ((hK.2 20 _ rfl).2.symm.trans (hK.2 1 _ rfl).2),
  Option.some.inj ((hK.2 21 _ rfl).2.symm.trans (hK.2 1 _ rfl).2),
  Option.some.inj ((hK.2 22 _ rfl).2.symm.trans (hK.2 1 _ rfl).2),
  Option.some.inj ((hK.2 23 _ rfl).2.symm.trans (hK.2 1 _ rfl).2),
  Option.some.inj ((hK.2 24 _ rfl).2.symm.trans (hK.2 1 _ rfl).2),
  Option.some.inj ((hK.2 25 _ rfl).2.symm.trans (hK.2 1 _ rfl).2),
  Option.some.inj ((hK.2 26 _ rfl).2.symm.trans (hK.2 1 _ rfl).2),
  Option.some.inj ((hK.2 27 _ rfl).2.symm.trans (hK.2 1 _ rfl).2),
  Option.some.inj ((hK.2 29 _ rfl).2.symm.trans (hK.2 1 _ rfl).2),
  Option.some.inj ((hK.2 32 _ rfl).2.symm.trans (hK.2 1 _ rfl).2),
  Option.some.inj ((hK.2 33 _ rfl).2.symm.trans (hK.2 1 _ rfl).2),
  Option.some.inj ((hK.2 34 _ rfl).2.symm.trans (hK.2 1 _ rfl).2),
  Option.some.inj ((hK.2 35 _ rfl).2.symm.trans (hK.2 1 _ rfl).2),
  Option.some.inj ((hK.2 36 _ rfl).2.symm.trans (hK.2 1 _ rfl).2),
  Option.some.inj ((hK.2 37 _ rfl).2.symm.trans (hK.2 1 _ rfl).2),
  Option.some.inj ((hK.2 38 _ rfl).2.symm.trans (hK.2 1 _ rfl).2),
  Option.some.inj ((hK.2 39 _ rfl).2.symm.trans (hK.2 1 _ rfl).2),
  Option.some.inj ((hK.2 40 _ rfl).2.symm.trans (hK.2 1 _ rfl).2),
  Option.some.inj ((hK.2 42 _ rfl).2.symm.trans (hK.2 1 _ rfl).2),
  Option.some.inj ((hK.2 43 _ rfl).2.symm.trans (hK.2 1 _ rfl).2),
  Option.some.inj ((hK.2 44 _ rfl).2.symm.trans (hK.2 1 _ rfl).2),
  Option.some.inj ((hK.2 45 _ rfl).2.symm.trans (hK.2 1 _ rfl).2),
  Option.some.inj ((hK.2 46 _ rfl).2.symm.trans (hK.2 1 _ rfl).2),
  Option.some.inj ((hK.2 47 _ rfl).2.symm.trans (hK.2 1 _ rfl).2),
  Option.some.inj ((hK.2 48 _ rfl).2.symm.trans (hK.2 1 _ rfl).2),
  Option.some.inj ((hK.2 49 _ rfl).2.symm.trans (hK.2 1 _ rfl).2),
  Option.some.inj ((hK.2 50 _ rfl).2.symm.trans (hK.2 1 _ rfl).2),
  Option.some.inj ((hK.2 51 _ rfl).2.symm.trans (hK.2 1 _ rfl).2),
  Option.some.inj ((hK.2 52 _ rfl).2.symm.trans (hK.2 1 _ rfl).2),
  Option.some.inj ((hK.2 53 _ rfl).2.symm.trans (hK.2 1 _ rfl).2),
  Option.some.inj ((hK.2 54 _ rfl).2.symm.trans (hK.2 1 _ rfl).2),
  Option.some.inj ((hK.2 55 _ rfl).2.symm.trans (hK.2 1 _ rfl).2),
  Option.some.inj ((hK.2 57 _ rfl).2.symm.trans (hK.2 1 _ rfl).2),
  Option.some.inj ((hK.2 58 _ rfl).2.symm.trans (hK.2 1 _ rfl).2),
  Option.some.inj ((hK.2 56 _ rfl).2.symm.trans (hK.2 41 _ rfl).2)⟩
set_option maxRecDepth 100000 in
theorem x0_K {D : va_G} {s : State} {ca : Nat → ClassId} (hK : va_K D vwCl (x0T ca) s) : va_K D vwCl (xT (x0c ca)) s := hK.sub [1, 0, 41, 8, 28, 30, 31, 9, 15] rfl
