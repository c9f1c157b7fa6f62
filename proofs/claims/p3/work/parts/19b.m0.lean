abbrev m0W (ad : Nat → Nat) (ca : Nat → ClassId) : va_W := [(ad 0, .inr (13, [.ref (ad 1), .int 0, .int 0, .int 0, .int 0, .int 0, .ref (ad 2), .int 0, .int 0, .int 0, .ref (ad 3), .ref (ad 4), .int 0, .ref (ad 5), .ref (ad 6), .int 0, .ref (ad 7), .ref (ad 8), .int 0, .ref (ad 9), .ref (ad 10), .ref (ad 11), .ref (ad 12), .ref (ad 13), .ref (ad 14), .ref (ad 15), .int 0, .ref (ad 16), .ref (ad 17), .ref (ad 18), .int 0, .ref (ad 19), .ref (ad 20), .ref (ad 21), .ref (ad 22), .ref (ad 23), .ref (ad 24), .int 0, .ref (ad 25), .ref (ad 26), .ref (ad 27), .ref (ad 28), .ref (ad 29), .ref (ad 30), .ref (ad 31), .ref (ad 32), .ref (ad 33), .ref (ad 34), .ref (ad 35), .ref (ad 36), .int 0, .ref (ad 37), .ref (ad 38), .ref (ad 39), .ref (ad 40), .ref (ad 41), .int 0, .ref (ad 42), .ref (ad 43), .ref (ad 44), .ref (ad 45), .ref (ad 46), .ref (ad 47), .ref (ad 48), .ref (ad 49), .ref (ad 50), .int 0, .ref (ad 51), .ref (ad 52), .ref (ad 53), .ref (ad 54), .int 0, .ref (ad 55), .ref (ad 56), .ref (ad 57), .ref (ad 58), .ref (ad 59), .ref (ad 60), .int 0, .ref (ad 61), .ref (ad 62), .ref (ad 63), .ref (ad 64), .ref (ad 65), .ref (ad 66), .ref (ad 67), .int 0, .ref (ad 68), .ref (ad 69), .ref (ad 70), .int 0, .ref (ad 71), .ref (ad 72), .ref (ad 73), .ref (ad 74), .ref (ad 75), .int 0, .int 0, .int 0, .int 0, .int 0, .ref (ad 76), .ref (ad 77), .ref (ad 78)])),
  (ad 1, .inl ((ca 1), 600, .inl (fun _ => 0))),
  (ad 2, .inl ((ca 2), 1200, .inl (fun _ => 0))),
  (ad 3, .inl ((ca 3), 600, .inl (fun _ => 0))),
  (ad 4, .inl ((ca 4), 600, .inl (fun _ => 0))),
  (ad 5, .inl ((ca 5), 14, .inl (fun _ => 0))),
  (ad 6, .inl ((ca 6), 14, .inl (fun _ => 0))),
  (ad 7, .inl ((ca 7), 4, .inl (fun _ => 0))),
  (ad 8, .inl ((ca 8), 4, .inl (fun _ => 0))),
  (ad 9, .inl ((ca 9), 7200, .inl (fun _ => 0))),
  (ad 10, .inl ((ca 10), 7200, .inl (fun _ => 0))),
  (ad 11, .inl ((ca 11), 168, .inl (fun _ => 0))),
  (ad 12, .inl ((ca 12), 168, .inl (fun _ => 0))),
  (ad 13, .inl ((ca 13), 12, .inl (fun _ => 0))),
  (ad 14, .inl ((ca 14), 384, .inl (fun _ => 0))),
  (ad 15, .inl ((ca 15), 48, .inl (fun _ => 0))),
  (ad 16, .inl ((ca 16), 20, .inl (fun _ => 0))),
  (ad 17, .inl ((ca 17), 20, .inl (fun _ => 0))),
  (ad 18, .inl ((ca 18), 20, .inl (fun _ => 0))),
  (ad 19, .inl ((ca 19), 5, .inl (upd (upd (upd (upd (upd (fun _ => 0) 0 4) 1 9) 2 14) 3 19) 4 24))),
  (ad 20, .inl ((ca 20), 6, .inl (fun _ => 0))),
  (ad 21, .inl ((ca 21), 6, .inl (fun _ => 0))),
  (ad 22, .inl ((ca 22), 6, .inl (fun _ => 0))),
  (ad 23, .inl ((ca 23), 360, .inl (fun _ => 0))),
  (ad 24, .inl ((ca 24), 6, .inl (fun _ => 0))),
  (ad 25, .inl ((ca 25), 720, .inl (fun _ => 0))),
  (ad 26, .inl ((ca 26), 60, .inl (fun _ => 0))),
  (ad 27, .inl ((ca 27), 60, .inl (fun _ => 0))),
  (ad 28, .inl ((ca 28), 60, .inl (fun _ => 0))),
  (ad 29, .inl ((ca 29), 60, .inl (fun _ => 0))),
  (ad 30, .inl ((ca 30), 60, .inl (fun _ => 0))),
  (ad 31, .inl ((ca 31), 60, .inl (fun _ => 0))),
  (ad 32, .inl ((ca 32), 60, .inl (fun _ => 0))),
  (ad 33, .inl ((ca 33), 60, .inl (fun _ => 0))),
  (ad 34, .inl ((ca 34), 60, .inl (fun _ => 0))),
  (ad 35, .inl ((ca 35), 60, .inl (fun _ => 0))),
  (ad 36, .inl ((ca 36), 60, .inl (fun _ => 0))),
  (ad 37, .inl ((ca 37), 12, .inl (fun _ => 0))),
  (ad 38, .inl ((ca 38), 12, .inl (fun _ => 0))),
  (ad 39, .inl ((ca 39), 12, .inl (fun _ => 0))),
  (ad 40, .inl ((ca 40), 12, .inl (fun _ => 0))),
  (ad 41, .inl ((ca 41), 144, .inl (fun _ => 0))),
  (ad 42, .inl ((ca 42), 300, .inl (fun _ => 0))),
  (ad 43, .inl ((ca 43), 300, .inl (fun _ => 0))),
  (ad 44, .inl ((ca 44), 300, .inl (fun _ => 0))),
  (ad 45, .inl ((ca 45), 300, .inl (fun _ => 0))),
  (ad 46, .inl ((ca 46), 300, .inl (fun _ => 0))),
  (ad 47, .inl ((ca 47), 300, .inl (fun _ => 0))),
  (ad 48, .inl ((ca 48), 300, .inl (fun _ => 0))),
  (ad 49, .inl ((ca 49), 300, .inl (fun _ => 0))),
  (ad 50, .inl ((ca 50), 300, .inl (fun _ => 0))),
  (ad 51, .inl ((ca 51), 600, .inl (fun _ => 0))),
  (ad 52, .inl ((ca 52), 600, .inl (fun _ => 0))),
  (ad 53, .inl ((ca 53), 600, .inl (fun _ => 0))),
  (ad 54, .inl ((ca 54), 600, .inl (fun _ => 0))),
  (ad 55, .inl ((ca 55), 60, .inl (fun _ => 0))),
  (ad 56, .inl ((ca 56), 60, .inl (fun _ => 0))),
  (ad 57, .inl ((ca 57), 60, .inl (fun _ => 0))),
  (ad 58, .inl ((ca 58), 60, .inl (fun _ => 0))),
  (ad 59, .inl ((ca 59), 10, .inl (fun _ => 0))),
  (ad 60, .inl ((ca 60), 10, .inl (fun _ => 0))),
  (ad 61, .inl ((ca 61), 30, .inl (fun _ => 0))),
  (ad 62, .inl ((ca 62), 9, .inl (fun _ => 0))),
  (ad 63, .inl ((ca 63), 600, .inl (fun _ => 0))),
  (ad 64, .inl ((ca 64), 12, .inl (fun _ => 0))),
  (ad 65, .inl ((ca 65), 12, .inl (fun _ => 0))),
  (ad 66, .inl ((ca 66), 12, .inl (fun _ => 0))),
  (ad 67, .inl ((ca 67), 60, .inl (fun _ => 0))),
  (ad 68, .inl ((ca 68), 60, .inl (fun _ => 0))),
  (ad 69, .inl ((ca 69), 60, .inl (fun _ => 0))),
  (ad 70, .inl ((ca 70), 60, .inl (fun _ => 0))),
  (ad 71, .inl ((ca 71), 7, .inl (fun _ => 0))),
  (ad 72, .inl ((ca 72), 6, .inl (fun _ => 0))),
  (ad 73, .inl ((ca 73), 42, .inl (fun _ => 0))),
  (ad 74, .inl ((ca 74), 6, .inl (fun _ => 0))),
  (ad 75, .inl ((ca 75), 7, .inl (fun _ => 0))),
  (ad 76, .inl ((ca 76), 300, .inl (fun _ => 0))),
  (ad 77, .inl ((ca 77), 9331, .inl (fun _ => 0))),
  (ad 78, .inl ((ca 78), 9331, .inl (fun _ => 0)))]
abbrev m0T (ca : Nat → ClassId) : List (ClassId × FieldType) := [((ca 1), .byte), ((ca 2), .int), ((ca 3), .int), ((ca 4), .int), ((ca 5), .int), ((ca 6), .int), ((ca 7), .int), ((ca 8), .int), ((ca 9), .int), ((ca 10), .int), ((ca 11), .int), ((ca 12), .int), ((ca 13), .int), ((ca 14), .byte), ((ca 15), .int), ((ca 16), .int), ((ca 17), .int), ((ca 18), .int), ((ca 19), .int), ((ca 20), .boolean), ((ca 21), .int), ((ca 22), .int), ((ca 23), .int), ((ca 24), .int), ((ca 25), .byte), ((ca 26), .int), ((ca 27), .int), ((ca 28), .int), ((ca 29), .int), ((ca 30), .int), ((ca 31), .int), ((ca 32), .int), ((ca 33), .boolean), ((ca 34), .boolean), ((ca 35), .int), ((ca 36), .int), ((ca 37), .int), ((ca 38), .int), ((ca 39), .int), ((ca 40), .boolean), ((ca 41), .boolean), ((ca 42), .int), ((ca 43), .int), ((ca 44), .int), ((ca 45), .int), ((ca 46), .int), ((ca 47), .int), ((ca 48), .int), ((ca 49), .int), ((ca 50), .int), ((ca 51), .int), ((ca 52), .int), ((ca 53), .int), ((ca 54), .int), ((ca 55), .int), ((ca 56), .int), ((ca 57), .int), ((ca 58), .int), ((ca 59), .int), ((ca 60), .int), ((ca 61), .int), ((ca 62), .int), ((ca 63), .int), ((ca 64), .int), ((ca 65), .int), ((ca 66), .byte), ((ca 67), .int), ((ca 68), .int), ((ca 69), .int), ((ca 70), .int), ((ca 71), .int), ((ca 72), .int), ((ca 73), .boolean), ((ca 74), .int), ((ca 75), .int), ((ca 76), .int), ((ca 77), .int), ((ca 78), .int)]
theorem getD_out {α : Type} {l : List α} {n : Nat} {d : α} (h : l.length ≤ n) : l.getD n d = d := by rw [List.getD_eq_getElem?_getD, List.getElem?_eq_none h]; rfl
def m0g : Nat → Int := fun _ => 0
def m0b : Int → Int := fun j => ([4, 9, 14, 19, 24] : List Int).getD j.toNat 0
def m0a : Nat → Int → Int := fun q => if q = 19 then m0b else fun _ => 0
theorem m0a_0 {q : Nat} (h : q ≠ 19) : m0a q = fun _ => 0 := if_neg h
theorem m0a_b : m0a 19 = m0b := if_pos rfl
theorem m0_ar {q : Nat} (h : q ≠ 19) : (fun _ => 0) = ar (m0a q) := by rw [m0a_0 h, ar_zer]
theorem m0_arb : (upd (upd (upd (upd (upd (fun _ => 0) 0 4) 1 9) 2 14) 3 19) 4 24) = ar m0b := by
  funext k
  match k with
  | 0 => rfl
  | 1 => rfl
  | 2 => rfl
  | 3 => rfl
  | 4 => rfl
  | n + 5 => rfl
set_option maxRecDepth 100000 in
theorem m0_F (ad : Nat → Nat) : ([.ref (ad 1), .int 0, .int 0, .int 0, .int 0, .int 0, .ref (ad 2), .int 0, .int 0, .int 0, .ref (ad 3), .ref (ad 4), .int 0, .ref (ad 5), .ref (ad 6), .int 0, .ref (ad 7), .ref (ad 8), .int 0, .ref (ad 9), .ref (ad 10), .ref (ad 11), .ref (ad 12), .ref (ad 13), .ref (ad 14), .ref (ad 15), .int 0, .ref (ad 16), .ref (ad 17), .ref (ad 18), .int 0, .ref (ad 19), .ref (ad 20), .ref (ad 21), .ref (ad 22), .ref (ad 23), .ref (ad 24), .int 0, .ref (ad 25), .ref (ad 26), .ref (ad 27), .ref (ad 28), .ref (ad 29), .ref (ad 30), .ref (ad 31), .ref (ad 32), .ref (ad 33), .ref (ad 34), .ref (ad 35), .ref (ad 36), .int 0, .ref (ad 37), .ref (ad 38), .ref (ad 39), .ref (ad 40), .ref (ad 41), .int 0, .ref (ad 42), .ref (ad 43), .ref (ad 44), .ref (ad 45), .ref (ad 46), .ref (ad 47), .ref (ad 48), .ref (ad 49), .ref (ad 50), .int 0, .ref (ad 51), .ref (ad 52), .ref (ad 53), .ref (ad 54), .int 0, .ref (ad 55), .ref (ad 56), .ref (ad 57), .ref (ad 58), .ref (ad 59), .ref (ad 60), .int 0, .ref (ad 61), .ref (ad 62), .ref (ad 63), .ref (ad 64), .ref (ad 65), .ref (ad 66), .ref (ad 67), .int 0, .ref (ad 68), .ref (ad 69), .ref (ad 70), .int 0, .ref (ad 71), .ref (ad 72), .ref (ad 73), .ref (ad 74), .ref (ad 75), .int 0, .int 0, .int 0, .int 0, .int 0, .ref (ad 76), .ref (ad 77), .ref (ad 78)] : List Value) = mF ad m0g := by
  have e : Value.int 0 = .int (iI 0) := by rw [iI_zer]
  show _ = ([.ref (ad 1), .int (iI 0), .int (iI 0), .int (iI 0), .int (iI 0), .int (iI 0), .ref (ad 2), .int (iI 0), .int (iI 0), .int (iI 0), .ref (ad 3), .ref (ad 4), .int (iI 0), .ref (ad 5), .ref (ad 6), .int (iI 0), .ref (ad 7), .ref (ad 8), .int (iI 0), .ref (ad 9), .ref (ad 10), .ref (ad 11), .ref (ad 12), .ref (ad 13), .ref (ad 14), .ref (ad 15), .int (iI 0), .ref (ad 16), .ref (ad 17), .ref (ad 18), .int (iI 0), .ref (ad 19), .ref (ad 20), .ref (ad 21), .ref (ad 22), .ref (ad 23), .ref (ad 24), .int (iI 0), .ref (ad 25), .ref (ad 26), .ref (ad 27), .ref (ad 28), .ref (ad 29), .ref (ad 30), .ref (ad 31), .ref (ad 32), .ref (ad 33), .ref (ad 34), .ref (ad 35), .ref (ad 36), .int (iI 0), .ref (ad 37), .ref (ad 38), .ref (ad 39), .ref (ad 40), .ref (ad 41), .int (iI 0), .ref (ad 42), .ref (ad 43), .ref (ad 44), .ref (ad 45), .ref (ad 46), .ref (ad 47), .ref (ad 48), .ref (ad 49), .ref (ad 50), .int (iI 0), .ref (ad 51), .ref (ad 52), .ref (ad 53), .ref (ad 54), .int (iI 0), .ref (ad 55), .ref (ad 56), .ref (ad 57), .ref (ad 58), .ref (ad 59), .ref (ad 60), .int (iI 0), .ref (ad 61), .ref (ad 62), .ref (ad 63), .ref (ad 64), .ref (ad 65), .ref (ad 66), .ref (ad 67), .int (iI 0), .ref (ad 68), .ref (ad 69), .ref (ad 70), .int (iI 0), .ref (ad 71), .ref (ad 72), .ref (ad 73), .ref (ad 74), .ref (ad 75), .int (iI 0), .int (iI 0), .int (iI 0), .int (iI 0), .int (iI 0), .ref (ad 76), .ref (ad 77), .ref (ad 78)] : List Value)
  rw [iI_zer]
set_option maxRecDepth 100000 in
theorem m0_world (ad : Nat → Nat) (ca : Nat → ClassId) : m0W ad ca = mG ad ca m0g m0a := by
  unfold mG
  refine xcons (congrArg (Prod.mk (ad 0)) (congrArg (fun x => (.inr (13, x) : va_E)) (m0_F ad))) ?_
  refine xcons (congrArg (Prod.mk (ad 1)) (congrArg (fun x => (.inl (ca 1, 600, .inl x) : va_E)) ((m0_ar (by decide))))) ?_
  refine xcons (congrArg (Prod.mk (ad 2)) (congrArg (fun x => (.inl (ca 2, 1200, .inl x) : va_E)) ((m0_ar (by decide))))) ?_
  refine xcons (congrArg (Prod.mk (ad 3)) (congrArg (fun x => (.inl (ca 3, 600, .inl x) : va_E)) ((m0_ar (by decide))))) ?_
  refine xcons (congrArg (Prod.mk (ad 4)) (congrArg (fun x => (.inl (ca 4, 600, .inl x) : va_E)) ((m0_ar (by decide))))) ?_
  refine xcons (congrArg (Prod.mk (ad 5)) (congrArg (fun x => (.inl (ca 5, 14, .inl x) : va_E)) ((m0_ar (by decide))))) ?_
  refine xcons (congrArg (Prod.mk (ad 6)) (congrArg (fun x => (.inl (ca 6, 14, .inl x) : va_E)) ((m0_ar (by decide))))) ?_
  refine xcons (congrArg (Prod.mk (ad 7)) (congrArg (fun x => (.inl (ca 7, 4, .inl x) : va_E)) ((m0_ar (by decide))))) ?_
  refine xcons (congrArg (Prod.mk (ad 8)) (congrArg (fun x => (.inl (ca 8, 4, .inl x) : va_E)) ((m0_ar (by decide))))) ?_
  refine xcons (congrArg (Prod.mk (ad 9)) (congrArg (fun x => (.inl (ca 9, 7200, .inl x) : va_E)) ((m0_ar (by decide))))) ?_
  refine xcons (congrArg (Prod.mk (ad 10)) (congrArg (fun x => (.inl (ca 10, 7200, .inl x) : va_E)) ((m0_ar (by decide))))) ?_
  refine xcons (congrArg (Prod.mk (ad 11)) (congrArg (fun x => (.inl (ca 11, 168, .inl x) : va_E)) ((m0_ar (by decide))))) ?_
  refine xcons (congrArg (Prod.mk (ad 12)) (congrArg (fun x => (.inl (ca 12, 168, .inl x) : va_E)) ((m0_ar (by decide))))) ?_
  refine xcons (congrArg (Prod.mk (ad 13)) (congrArg (fun x => (.inl (ca 13, 12, .inl x) : va_E)) ((m0_ar (by decide))))) ?_
  refine xcons (congrArg (Prod.mk (ad 14)) (congrArg (fun x => (.inl (ca 14, 384, .inl x) : va_E)) ((m0_ar (by decide))))) ?_
  refine xcons (congrArg (Prod.mk (ad 15)) (congrArg (fun x => (.inl (ca 15, 48, .inl x) : va_E)) ((m0_ar (by decide))))) ?_
  refine xcons (congrArg (Prod.mk (ad 16)) (congrArg (fun x => (.inl (ca 16, 20, .inl x) : va_E)) ((m0_ar (by decide))))) ?_
  refine xcons (congrArg (Prod.mk (ad 17)) (congrArg (fun x => (.inl (ca 17, 20, .inl x) : va_E)) ((m0_ar (by decide))))) ?_
  refine xcons (congrArg (Prod.mk (ad 18)) (congrArg (fun x => (.inl (ca 18, 20, .inl x) : va_E)) ((m0_ar (by decide))))) ?_
  refine xcons (congrArg (Prod.mk (ad 19)) (congrArg (fun x => (.inl (ca 19, 5, .inl x) : va_E)) (m0_arb.trans (by rw [m0a_b])))) ?_
  refine xcons (congrArg (Prod.mk (ad 20)) (congrArg (fun x => (.inl (ca 20, 6, .inl x) : va_E)) ((m0_ar (by decide))))) ?_
  refine xcons (congrArg (Prod.mk (ad 21)) (congrArg (fun x => (.inl (ca 21, 6, .inl x) : va_E)) ((m0_ar (by decide))))) ?_
  refine xcons (congrArg (Prod.mk (ad 22)) (congrArg (fun x => (.inl (ca 22, 6, .inl x) : va_E)) ((m0_ar (by decide))))) ?_
  refine xcons (congrArg (Prod.mk (ad 23)) (congrArg (fun x => (.inl (ca 23, 360, .inl x) : va_E)) ((m0_ar (by decide))))) ?_
  refine xcons (congrArg (Prod.mk (ad 24)) (congrArg (fun x => (.inl (ca 24, 6, .inl x) : va_E)) ((m0_ar (by decide))))) ?_
  refine xcons (congrArg (Prod.mk (ad 25)) (congrArg (fun x => (.inl (ca 25, 720, .inl x) : va_E)) ((m0_ar (by decide))))) ?_
  refine xcons (congrArg (Prod.mk (ad 26)) (congrArg (fun x => (.inl (ca 26, 60, .inl x) : va_E)) ((m0_ar (by decide))))) ?_
  refine xcons (congrArg (Prod.mk (ad 27)) (congrArg (fun x => (.inl (ca 27, 60, .inl x) : va_E)) ((m0_ar (by decide))))) ?_
  refine xcons (congrArg (Prod.mk (ad 28)) (congrArg (fun x => (.inl (ca 28, 60, .inl x) : va_E)) ((m0_ar (by decide))))) ?_
  refine xcons (congrArg (Prod.mk (ad 29)) (congrArg (fun x => (.inl (ca 29, 60, .inl x) : va_E)) ((m0_ar (by decide))))) ?_
  refine xcons (congrArg (Prod.mk (ad 30)) (congrArg (fun x => (.inl (ca 30, 60, .inl x) : va_E)) ((m0_ar (by decide))))) ?_
  refine xcons (congrArg (Prod.mk (ad 31)) (congrArg (fun x => (.inl (ca 31, 60, .inl x) : va_E)) ((m0_ar (by decide))))) ?_
  refine xcons (congrArg (Prod.mk (ad 32)) (congrArg (fun x => (.inl (ca 32, 60, .inl x) : va_E)) ((m0_ar (by decide))))) ?_
  refine xcons (congrArg (Prod.mk (ad 33)) (congrArg (fun x => (.inl (ca 33, 60, .inl x) : va_E)) ((m0_ar (by decide))))) ?_
  refine xcons (congrArg (Prod.mk (ad 34)) (congrArg (fun x => (.inl (ca 34, 60, .inl x) : va_E)) ((m0_ar (by decide))))) ?_
  refine xcons (congrArg (Prod.mk (ad 35)) (congrArg (fun x => (.inl (ca 35, 60, .inl x) : va_E)) ((m0_ar (by decide))))) ?_
  refine xcons (congrArg (Prod.mk (ad 36)) (congrArg (fun x => (.inl (ca 36, 60, .inl x) : va_E)) ((m0_ar (by decide))))) ?_
  refine xcons (congrArg (Prod.mk (ad 37)) (congrArg (fun x => (.inl (ca 37, 12, .inl x) : va_E)) ((m0_ar (by decide))))) ?_
  refine xcons (congrArg (Prod.mk (ad 38)) (congrArg (fun x => (.inl (ca 38, 12, .inl x) : va_E)) ((m0_ar (by decide))))) ?_
  refine xcons (congrArg (Prod.mk (ad 39)) (congrArg (fun x => (.inl (ca 39, 12, .inl x) : va_E)) ((m0_ar (by decide))))) ?_
  refine xcons (congrArg (Prod.mk (ad 40)) (congrArg (fun x => (.inl (ca 40, 12, .inl x) : va_E)) ((m0_ar (by decide))))) ?_
  refine xcons (congrArg (Prod.mk (ad 41)) (congrArg (fun x => (.inl (ca 41, 144, .inl x) : va_E)) ((m0_ar (by decide))))) ?_
  refine xcons (congrArg (Prod.mk (ad 42)) (congrArg (fun x => (.inl (ca 42, 300, .inl x) : va_E)) ((m0_ar (by decide))))) ?_
  refine xcons (congrArg (Prod.mk (ad 43)) (congrArg (fun x => (.inl (ca 43, 300, .inl x) : va_E)) ((m0_ar (by decide))))) ?_
  refine xcons (congrArg (Prod.mk (ad 44)) (congrArg (fun x => (.inl (ca 44, 300, .inl x) : va_E)) ((m0_ar (by decide))))) ?_
  refine xcons (congrArg (Prod.mk (ad 45)) (congrArg (fun x => (.inl (ca 45, 300, .inl x) : va_E)) ((m0_ar (by decide))))) ?_
  refine xcons (congrArg (Prod.mk (ad 46)) (congrArg (fun x => (.inl (ca 46, 300, .inl x) : va_E)) ((m0_ar (by decide))))) ?_
  refine xcons (congrArg (Prod.mk (ad 47)) (congrArg (fun x => (.inl (ca 47, 300, .inl x) : va_E)) ((m0_ar (by decide))))) ?_
  refine xcons (congrArg (Prod.mk (ad 48)) (congrArg (fun x => (.inl (ca 48, 300, .inl x) : va_E)) ((m0_ar (by decide))))) ?_
  refine xcons (congrArg (Prod.mk (ad 49)) (congrArg (fun x => (.inl (ca 49, 300, .inl x) : va_E)) ((m0_ar (by decide))))) ?_
  refine xcons (congrArg (Prod.mk (ad 50)) (congrArg (fun x => (.inl (ca 50, 300, .inl x) : va_E)) ((m0_ar (by decide))))) ?_
  refine xcons (congrArg (Prod.mk (ad 51)) (congrArg (fun x => (.inl (ca 51, 600, .inl x) : va_E)) ((m0_ar (by decide))))) ?_
  refine xcons (congrArg (Prod.mk (ad 52)) (congrArg (fun x => (.inl (ca 52, 600, .inl x) : va_E)) ((m0_ar (by decide))))) ?_
  refine xcons (congrArg (Prod.mk (ad 53)) (congrArg (fun x => (.inl (ca 53, 600, .inl x) : va_E)) ((m0_ar (by decide))))) ?_
  refine xcons (congrArg (Prod.mk (ad 54)) (congrArg (fun x => (.inl (ca 54, 600, .inl x) : va_E)) ((m0_ar (by decide))))) ?_
  refine xcons (congrArg (Prod.mk (ad 55)) (congrArg (fun x => (.inl (ca 55, 60, .inl x) : va_E)) ((m0_ar (by decide))))) ?_
  refine xcons (congrArg (Prod.mk (ad 56)) (congrArg (fun x => (.inl (ca 56, 60, .inl x) : va_E)) ((m0_ar (by decide))))) ?_
  refine xcons (congrArg (Prod.mk (ad 57)) (congrArg (fun x => (.inl (ca 57, 60, .inl x) : va_E)) ((m0_ar (by decide))))) ?_
  refine xcons (congrArg (Prod.mk (ad 58)) (congrArg (fun x => (.inl (ca 58, 60, .inl x) : va_E)) ((m0_ar (by decide))))) ?_
  refine xcons (congrArg (Prod.mk (ad 59)) (congrArg (fun x => (.inl (ca 59, 10, .inl x) : va_E)) ((m0_ar (by decide))))) ?_
  refine xcons (congrArg (Prod.mk (ad 60)) (congrArg (fun x => (.inl (ca 60, 10, .inl x) : va_E)) ((m0_ar (by decide))))) ?_
  refine xcons (congrArg (Prod.mk (ad 61)) (congrArg (fun x => (.inl (ca 61, 30, .inl x) : va_E)) ((m0_ar (by decide))))) ?_
  refine xcons (congrArg (Prod.mk (ad 62)) (congrArg (fun x => (.inl (ca 62, 9, .inl x) : va_E)) ((m0_ar (by decide))))) ?_
  refine xcons (congrArg (Prod.mk (ad 63)) (congrArg (fun x => (.inl (ca 63, 600, .inl x) : va_E)) ((m0_ar (by decide))))) ?_
  refine xcons (congrArg (Prod.mk (ad 64)) (congrArg (fun x => (.inl (ca 64, 12, .inl x) : va_E)) ((m0_ar (by decide))))) ?_
  refine xcons (congrArg (Prod.mk (ad 65)) (congrArg (fun x => (.inl (ca 65, 12, .inl x) : va_E)) ((m0_ar (by decide))))) ?_
  refine xcons (congrArg (Prod.mk (ad 66)) (congrArg (fun x => (.inl (ca 66, 12, .inl x) : va_E)) ((m0_ar (by decide))))) ?_
  refine xcons (congrArg (Prod.mk (ad 67)) (congrArg (fun x => (.inl (ca 67, 60, .inl x) : va_E)) ((m0_ar (by decide))))) ?_
  refine xcons (congrArg (Prod.mk (ad 68)) (congrArg (fun x => (.inl (ca 68, 60, .inl x) : va_E)) ((m0_ar (by decide))))) ?_
  refine xcons (congrArg (Prod.mk (ad 69)) (congrArg (fun x => (.inl (ca 69, 60, .inl x) : va_E)) ((m0_ar (by decide))))) ?_
  refine xcons (congrArg (Prod.mk (ad 70)) (congrArg (fun x => (.inl (ca 70, 60, .inl x) : va_E)) ((m0_ar (by decide))))) ?_
  refine xcons (congrArg (Prod.mk (ad 71)) (congrArg (fun x => (.inl (ca 71, 7, .inl x) : va_E)) ((m0_ar (by decide))))) ?_
  refine xcons (congrArg (Prod.mk (ad 72)) (congrArg (fun x => (.inl (ca 72, 6, .inl x) : va_E)) ((m0_ar (by decide))))) ?_
  refine xcons (congrArg (Prod.mk (ad 73)) (congrArg (fun x => (.inl (ca 73, 42, .inl x) : va_E)) ((m0_ar (by decide))))) ?_
  refine xcons (congrArg (Prod.mk (ad 74)) (congrArg (fun x => (.inl (ca 74, 6, .inl x) : va_E)) ((m0_ar (by decide))))) ?_
  refine xcons (congrArg (Prod.mk (ad 75)) (congrArg (fun x => (.inl (ca 75, 7, .inl x) : va_E)) ((m0_ar (by decide))))) ?_
  refine xcons (congrArg (Prod.mk (ad 76)) (congrArg (fun x => (.inl (ca 76, 300, .inl x) : va_E)) ((m0_ar (by decide))))) ?_
  refine xcons (congrArg (Prod.mk (ad 77)) (congrArg (fun x => (.inl (ca 77, 9331, .inl x) : va_E)) ((m0_ar (by decide))))) ?_
  refine xcons (congrArg (Prod.mk (ad 78)) (congrArg (fun x => (.inl (ca 78, 9331, .inl x) : va_E)) ((m0_ar (by decide))))) ?_
  rfl
set_option maxRecDepth 100000 in
theorem m0_fL (k : Nat) : fL k ≤ 0 ∧ 0 ≤ fH k := by
  by_cases h : k < 104
  · rcases (show k = 0 ∨ k = 1 ∨ k = 2 ∨ k = 3 ∨ k = 4 ∨ k = 5 ∨ k = 6 ∨ k = 7 ∨ k = 8 ∨ k = 9 ∨ k = 10 ∨ k = 11 ∨ k = 12 ∨ k = 13 ∨ k = 14 ∨ k = 15 ∨ k = 16 ∨ k = 17 ∨ k = 18 ∨ k = 19 ∨ k = 20 ∨ k = 21 ∨ k = 22 ∨ k = 23 ∨ k = 24 ∨ k = 25 ∨ k = 26 ∨ k = 27 ∨ k = 28 ∨ k = 29 ∨ k = 30 ∨ k = 31 ∨ k = 32 ∨ k = 33 ∨ k = 34 ∨ k = 35 ∨ k = 36 ∨ k = 37 ∨ k = 38 ∨ k = 39 ∨ k = 40 ∨ k = 41 ∨ k = 42 ∨ k = 43 ∨ k = 44 ∨ k = 45 ∨ k = 46 ∨ k = 47 ∨ k = 48 ∨ k = 49 ∨ k = 50 ∨ k = 51 ∨ k = 52 ∨ k = 53 ∨ k = 54 ∨ k = 55 ∨ k = 56 ∨ k = 57 ∨ k = 58 ∨ k = 59 ∨ k = 60 ∨ k = 61 ∨ k = 62 ∨ k = 63 ∨ k = 64 ∨ k = 65 ∨ k = 66 ∨ k = 67 ∨ k = 68 ∨ k = 69 ∨ k = 70 ∨ k = 71 ∨ k = 72 ∨ k = 73 ∨ k = 74 ∨ k = 75 ∨ k = 76 ∨ k = 77 ∨ k = 78 ∨ k = 79 ∨ k = 80 ∨ k = 81 ∨ k = 82 ∨ k = 83 ∨ k = 84 ∨ k = 85 ∨ k = 86 ∨ k = 87 ∨ k = 88 ∨ k = 89 ∨ k = 90 ∨ k = 91 ∨ k = 92 ∨ k = 93 ∨ k = 94 ∨ k = 95 ∨ k = 96 ∨ k = 97 ∨ k = 98 ∨ k = 99 ∨ k = 100 ∨ k = 101 ∨ k = 102 ∨ k = 103 by omega) with rfl | rfl | rfl | rfl | rfl | rfl | rfl | rfl | rfl | rfl | rfl | rfl | rfl | rfl | rfl | rfl | rfl | rfl | rfl | rfl | rfl | rfl | rfl | rfl | rfl | rfl | rfl | rfl | rfl | rfl | rfl | rfl | rfl | rfl | rfl | rfl | rfl | rfl | rfl | rfl | rfl | rfl | rfl | rfl | rfl | rfl | rfl | rfl | rfl | rfl | rfl | rfl | rfl | rfl | rfl | rfl | rfl | rfl | rfl | rfl | rfl | rfl | rfl | rfl | rfl | rfl | rfl | rfl | rfl | rfl | rfl | rfl | rfl | rfl | rfl | rfl | rfl | rfl | rfl | rfl | rfl | rfl | rfl | rfl | rfl | rfl | rfl | rfl | rfl | rfl | rfl | rfl | rfl | rfl | rfl | rfl | rfl | rfl | rfl | rfl | rfl | rfl | rfl | rfl <;> decide
  · unfold fL fH
    rw [getD_out (Nat.le_of_not_lt h), getD_out (Nat.le_of_not_lt h)]
    decide
set_option maxRecDepth 100000 in
theorem m0_aL (k : Nat) : aL k ≤ 0 ∧ 0 ≤ aH k := by
  by_cases h : k < 79
  · rcases (show k = 0 ∨ k = 1 ∨ k = 2 ∨ k = 3 ∨ k = 4 ∨ k = 5 ∨ k = 6 ∨ k = 7 ∨ k = 8 ∨ k = 9 ∨ k = 10 ∨ k = 11 ∨ k = 12 ∨ k = 13 ∨ k = 14 ∨ k = 15 ∨ k = 16 ∨ k = 17 ∨ k = 18 ∨ k = 19 ∨ k = 20 ∨ k = 21 ∨ k = 22 ∨ k = 23 ∨ k = 24 ∨ k = 25 ∨ k = 26 ∨ k = 27 ∨ k = 28 ∨ k = 29 ∨ k = 30 ∨ k = 31 ∨ k = 32 ∨ k = 33 ∨ k = 34 ∨ k = 35 ∨ k = 36 ∨ k = 37 ∨ k = 38 ∨ k = 39 ∨ k = 40 ∨ k = 41 ∨ k = 42 ∨ k = 43 ∨ k = 44 ∨ k = 45 ∨ k = 46 ∨ k = 47 ∨ k = 48 ∨ k = 49 ∨ k = 50 ∨ k = 51 ∨ k = 52 ∨ k = 53 ∨ k = 54 ∨ k = 55 ∨ k = 56 ∨ k = 57 ∨ k = 58 ∨ k = 59 ∨ k = 60 ∨ k = 61 ∨ k = 62 ∨ k = 63 ∨ k = 64 ∨ k = 65 ∨ k = 66 ∨ k = 67 ∨ k = 68 ∨ k = 69 ∨ k = 70 ∨ k = 71 ∨ k = 72 ∨ k = 73 ∨ k = 74 ∨ k = 75 ∨ k = 76 ∨ k = 77 ∨ k = 78 by omega) with rfl | rfl | rfl | rfl | rfl | rfl | rfl | rfl | rfl | rfl | rfl | rfl | rfl | rfl | rfl | rfl | rfl | rfl | rfl | rfl | rfl | rfl | rfl | rfl | rfl | rfl | rfl | rfl | rfl | rfl | rfl | rfl | rfl | rfl | rfl | rfl | rfl | rfl | rfl | rfl | rfl | rfl | rfl | rfl | rfl | rfl | rfl | rfl | rfl | rfl | rfl | rfl | rfl | rfl | rfl | rfl | rfl | rfl | rfl | rfl | rfl | rfl | rfl | rfl | rfl | rfl | rfl | rfl | rfl | rfl | rfl | rfl | rfl | rfl | rfl | rfl | rfl | rfl | rfl <;> decide
  · unfold aL aH
    rw [getD_out (Nat.le_of_not_lt h), getD_out (Nat.le_of_not_lt h)]
    decide
theorem m0_I : mI m0g m0a := by
  refine ⟨fun k => m0_fL k, fun q j => ?_⟩
  by_cases h : q = 19
  · subst h
    rw [m0a_b]
    show aL 19 ≤ ([4, 9, 14, 19, 24] : List Int).getD j.toNat 0 ∧ ([4, 9, 14, 19, 24] : List Int).getD j.toNat 0 ≤ aH 19
    generalize j.toNat = n
    match n with
    | 0 => decide
    | 1 => decide
    | 2 => decide
    | 3 => decide
    | 4 => decide
    | n + 5 => exact m0_aL 19
  · rw [m0a_0 h]; exact m0_aL q
theorem m0_line : rLine m0g m0a := fun k h0 h1 => absurd h1 (by show ¬ k < 0; omega)
theorem m0_lead : rLead m0g m0a := fun k h0 h1 => absurd h1 (by show ¬ k < 0; omega)
theorem m0_skill : rSkill m0g m0a := fun k h0 h1 => absurd h1 (by show ¬ k < 0; omega)
