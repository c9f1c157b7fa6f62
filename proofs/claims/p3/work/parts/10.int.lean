/-! ===== ints as integers: iI z is the int of z; worlds whose rows are integer functions ===== -/
abbrev rg (z : Int) : Prop := -2147483648 ≤ z ∧ z ≤ 2147483647
def iI (z : Int) : Int32 := Int32.ofInt z
theorem iI_toInt {z : Int} (h : rg z) : (iI z).toInt = z := Int32.toInt_ofInt_of_le (by omega) (by omega)
theorem iI_add (a b : Int) : iI a + iI b = iI (a + b) := (Int32.ofInt_add a b).symm
theorem iI_sub (a b : Int) : iI a - iI b = iI (a - b) := (Int32.ofInt_sub a b).symm
theorem iI_mul (a b : Int) : iI a * iI b = iI (a * b) := (Int32.ofInt_mul a b).symm
theorem iI_neg (a : Int) : -iI a = iI (-a) := (Int32.ofInt_neg a).symm
theorem iI_of (v : Int32) : v = iI v.toInt := (Int32.ofInt_toInt v).symm
theorem rg_of (v : Int32) : rg v.toInt := ⟨by have := v.le_toInt; omega, by have := v.toInt_lt; omega⟩
theorem iI_lt {a b : Int} (ha : rg a) (hb : rg b) : iI a < iI b ↔ a < b := by rw [Int32.lt_iff_toInt_lt, iI_toInt ha, iI_toInt hb]
theorem iI_le {a b : Int} (ha : rg a) (hb : rg b) : iI a ≤ iI b ↔ a ≤ b := by rw [Int32.le_iff_toInt_le, iI_toInt ha, iI_toInt hb]
theorem iI_eq {a b : Int} (ha : rg a) (hb : rg b) : iI a = iI b ↔ a = b := ⟨fun h => by rw [← iI_toInt ha, ← iI_toInt hb, h], fun h => by rw [h]⟩
theorem iI_0 : (0 : Int32) = iI 0 := by decide
theorem rg_0 : rg 0 := by omega
theorem iI_clamp {z : Int} (h0 : 0 ≤ z) (h : z ≤ 2147483647) : (iI z).toNatClampNeg = z.toNat := by rw [Int32.toNatClampNeg, iI_toInt ⟨by omega, h⟩]
theorem xi_in {z : Int} {n : Nat} (h0 : 0 ≤ z) (h1 : z < n) (hn : n ≤ 2147483647) : vp_in (iI z) n := by
  unfold vp_in
  rw [iI_clamp h0 (by omega)]
  rintro (h | h)
  · rw [iI_0, iI_lt ⟨by omega, by omega⟩ rg_0] at h
    omega
  · omega
theorem iI_tdiv {a b : Int} (ha : rg a) (hb : rg b) : iI a / iI b = iI (a.tdiv b) := by
  refine Int32.toInt_inj.mp ?_
  rw [Int32.toInt_div, iI_toInt ha, iI_toInt hb]
  exact (Int32.toInt_ofInt (n := a.tdiv b)).symm
def ar (f : Int → Int) : Nat → Int32 := fun j => iI (f j)
def up (f : Int → Int) (z v : Int) : Int → Int := fun j => if j = z then v else f j
def sA (a : Nat → Int → Int) (q : Nat) (f : Int → Int) : Nat → Int → Int := fun k => if k = q then f else a k
def sG (g : Nat → Int) (k : Nat) (v : Int) : Nat → Int := fun j => if j = k then v else g j
theorem up_self (f : Int → Int) (z v : Int) : up f z v z = v := if_pos rfl
theorem up_ne (f : Int → Int) {z j : Int} (v : Int) (h : j ≠ z) : up f z v j = f j := if_neg h
theorem sA_self (a : Nat → Int → Int) (q : Nat) (f : Int → Int) : sA a q f q = f := if_pos rfl
theorem sA_ne (a : Nat → Int → Int) {q k : Nat} (f : Int → Int) (h : k ≠ q) : sA a q f k = a k := if_neg h
theorem sG_self (g : Nat → Int) (k : Nat) (v : Int) : sG g k v k = v := if_pos rfl
theorem sG_ne (g : Nat → Int) {k j : Nat} (v : Int) (h : j ≠ k) : sG g k v j = g j := if_neg h
theorem ar_up {f : Int → Int} {z v : Int} (h0 : 0 ≤ z) (h1 : z ≤ 2147483647) : upd (ar f) (iI z).toNatClampNeg (iI v) = ar (up f z v) := by
  rw [iI_clamp h0 h1]
  funext j
  unfold upd ar up
  by_cases h : j = z.toNat
  · have e : (j : Int) = z := by omega
    rw [if_pos h, if_pos e]
  · have e : ¬ (j : Int) = z := by omega
    rw [if_neg h, if_neg e]
theorem ar_at {f : Int → Int} {z : Int} (h0 : 0 ≤ z) (h1 : z ≤ 2147483647) : ar f (iI z).toNatClampNeg = iI (f z) := by
  rw [iI_clamp h0 h1]
  unfold ar
  rw [Int.toNat_of_nonneg h0]
theorem nb_byte (v : Int32) : ∃ z : Int, vp_nar .byte v = iI z ∧ -128 ≤ z ∧ z ≤ 127 := by
  refine ⟨(vp_nar .byte v).toInt, iI_of _, ?_⟩
  rw [vp_nar_byte, Int8.toInt_toInt32]
  have h1 := Int8.le_toInt v.toInt8
  have h2 := Int8.toInt_lt v.toInt8
  omega
theorem nb_bool {z : Int} (h0 : 0 ≤ z) (h1 : z ≤ 1) : narrow .boolean (.int (iI z)) = .int (iI z) := by
  rcases (show z = 0 ∨ z = 1 by omega) with rfl | rfl <;> rfl
theorem nv_bool {z : Int} (h0 : 0 ≤ z) (h1 : z ≤ 1) : vp_nar .boolean (iI z) = iI z := by
  rcases (show z = 0 ∨ z = 1 by omega) with rfl | rfl <;> rfl
section XR
variable {p : Program} {l : Launch} {e : Env} {R : Room} {s : State} {m : MethodId} {args : Array Value} {below : List Frame} {meth : Method} {c : Code} {H : Heap} {locs : List Loc} {cells slots : Nat} {Q : State → Prop}
variable {cc : ByteArray} {pc : Nat} {ls : Array Slot} {rest : List Value} {x y : Int}
theorem xr_add (hx : p.tables.exec = Jvm.exec) (hb : c.code = cc) (hdg : decode cc pc = .ok (.iadd, 1)) (k : W p l e R s m args below meth c H locs cells slots Q (F0 m (pc + 1) ls (.int (iI (x + y)) :: rest))) : W p l e R s m args below meth c H locs cells slots Q (F0 m pc ls (.int (iI y) :: .int (iI x) :: rest)) := lv_iadd hx hb hdg (by rw [iI_add]; exact k)
theorem xr_sub (hx : p.tables.exec = Jvm.exec) (hb : c.code = cc) (hdg : decode cc pc = .ok (.isub, 1)) (k : W p l e R s m args below meth c H locs cells slots Q (F0 m (pc + 1) ls (.int (iI (x - y)) :: rest))) : W p l e R s m args below meth c H locs cells slots Q (F0 m pc ls (.int (iI y) :: .int (iI x) :: rest)) := lv_isub hx hb hdg (by rw [iI_sub]; exact k)
theorem xr_mul (hx : p.tables.exec = Jvm.exec) (hb : c.code = cc) (hdg : decode cc pc = .ok (.imul, 1)) (k : W p l e R s m args below meth c H locs cells slots Q (F0 m (pc + 1) ls (.int (iI (x * y)) :: rest))) : W p l e R s m args below meth c H locs cells slots Q (F0 m pc ls (.int (iI y) :: .int (iI x) :: rest)) := lv_imul hx hb hdg (by rw [iI_mul]; exact k)
/-- any int is the int of an integer -/
theorem xr_any {v : Int32} (k : ∀ z : Int, rg z → W p l e R s m args below meth c H locs cells slots Q (F0 m pc ls (.int (iI z) :: rest))) : W p l e R s m args below meth c H locs cells slots Q (F0 m pc ls (.int v :: rest)) := jt_i (iI v.toInt) (iI_of v) (k _ (rg_of v))
/-- a number that may have gone round -/
theorem xr_kept {x : Int} (k : ∀ z : Int, rg z → (z = x ∨ ¬ rg x) → W p l e R s m args below meth c H locs cells slots Q (F0 m pc ls (.int (iI z) :: rest))) : W p l e R s m args below meth c H locs cells slots Q (F0 m pc ls (.int (iI x) :: rest)) :=
  jt_i (iI (iI x).toInt) (iI_of _) (k _ (rg_of _) (by by_cases h : rg x; exact Or.inl (iI_toInt h); exact Or.inr h))
theorem xr_div (hx : p.tables.exec = Jvm.exec) (hb : c.code = cc) (hdg : decode cc pc = .ok (.idiv, 1)) (h0 : 0 ≤ x) (h1 : x ≤ 2147483647) (h2 : 0 < y) (h3 : y ≤ 2147483647) (k : W p l e R s m args below meth c H locs cells slots Q (F0 m (pc + 1) ls (.int (iI (x / y)) :: rest))) : W p l e R s m args below meth c H locs cells slots Q (F0 m pc ls (.int (iI y) :: .int (iI x) :: rest)) :=
  lv_idiv hx hb hdg (by rw [iI_0, iI_eq ⟨by omega, h3⟩ rg_0]; omega) (by rw [iI_tdiv ⟨by omega, h1⟩ ⟨by omega, h3⟩, Int.tdiv_eq_ediv_of_nonneg h0]; exact k)
theorem xr_rem (hx : p.tables.exec = Jvm.exec) (hb : c.code = cc) (hdg : decode cc pc = .ok (.irem, 1)) (h0 : 0 ≤ x) (h1 : x ≤ 2147483647) (h2 : 0 < y) (h3 : y ≤ 2147483647) (k : W p l e R s m args below meth c H locs cells slots Q (F0 m (pc + 1) ls (.int (iI (x % y)) :: rest))) : W p l e R s m args below meth c H locs cells slots Q (F0 m pc ls (.int (iI y) :: .int (iI x) :: rest)) :=
  lv_irem hx hb hdg (by rw [iI_0, iI_eq ⟨by omega, h3⟩ rg_0]; omega) (by rw [iI_tdiv ⟨by omega, h1⟩ ⟨by omega, h3⟩, Int.tdiv_eq_ediv_of_nonneg h0, iI_mul, iI_sub, show x - x / y * y = x % y by rw [Int.emod_def, Int.mul_comm]]; exact k)
/-- a division of which nothing is kept -/
theorem xr_divA (hx : p.tables.exec = Jvm.exec) (hb : c.code = cc) (hdg : decode cc pc = .ok (.idiv, 1)) (h2 : y ≠ 0) (h3 : rg y) (k : ∀ z : Int, rg z → W p l e R s m args below meth c H locs cells slots Q (F0 m (pc + 1) ls (.int (iI z) :: rest))) : W p l e R s m args below meth c H locs cells slots Q (F0 m pc ls (.int (iI y) :: .int (iI x) :: rest)) :=
  lv_idiv hx hb hdg (by rw [iI_0, iI_eq h3 rg_0]; exact h2) (xr_any k)
theorem xr_remA (hx : p.tables.exec = Jvm.exec) (hb : c.code = cc) (hdg : decode cc pc = .ok (.irem, 1)) (h2 : y ≠ 0) (h3 : rg y) (k : ∀ z : Int, rg z → W p l e R s m args below meth c H locs cells slots Q (F0 m (pc + 1) ls (.int (iI z) :: rest))) : W p l e R s m args below meth c H locs cells slots Q (F0 m pc ls (.int (iI y) :: .int (iI x) :: rest)) :=
  lv_irem hx hb hdg (by rw [iI_0, iI_eq h3 rg_0]; exact h2) (xr_any k)
theorem xr_icmp_eq (hx : p.tables.exec = Jvm.exec) (hb : c.code = cc) {off : Int} {tgt : Nat} (hdg : decode cc pc = .ok (.if_icmp .eq off, 3)) (ht : (pc : Int) + off = (tgt : Int)) (h1 : rg x) (h2 : rg y) (kt : x = y → W p l e R s m args below meth c H locs cells slots Q (F0 m tgt ls rest)) (kf : ¬ x = y → W p l e R s m args below meth c H locs cells slots Q (F0 m (pc + 3) ls rest)) : W p l e R s m args below meth c H locs cells slots Q (F0 m pc ls (.int (iI y) :: .int (iI x) :: rest)) :=
  lv_icmp_eq hx hb hdg ht (fun h => kt (by exact (iI_eq h1 h2).mp h)) (fun h => kf (fun q => h (by exact (iI_eq h1 h2).mpr q)))
theorem xr_if_eq (hx : p.tables.exec = Jvm.exec) (hb : c.code = cc) {off : Int} {tgt : Nat} (hdg : decode cc pc = .ok (.ifCond .eq off, 3)) (ht : (pc : Int) + off = (tgt : Int)) (h1 : rg x) (kt : x = 0 → W p l e R s m args below meth c H locs cells slots Q (F0 m tgt ls rest)) (kf : ¬ x = 0 → W p l e R s m args below meth c H locs cells slots Q (F0 m (pc + 3) ls rest)) : W p l e R s m args below meth c H locs cells slots Q (F0 m pc ls (.int (iI x) :: rest)) :=
  lv_if_eq hx hb hdg ht (fun h => kt (by rw [iI_0] at h; exact (iI_eq h1 rg_0).mp h)) (fun h => kf (fun q => h (by rw [iI_0]; exact (iI_eq h1 rg_0).mpr q)))
theorem xr_icmp_ne (hx : p.tables.exec = Jvm.exec) (hb : c.code = cc) {off : Int} {tgt : Nat} (hdg : decode cc pc = .ok (.if_icmp .ne off, 3)) (ht : (pc : Int) + off = (tgt : Int)) (h1 : rg x) (h2 : rg y) (kt : ¬ x = y → W p l e R s m args below meth c H locs cells slots Q (F0 m tgt ls rest)) (kf : x = y → W p l e R s m args below meth c H locs cells slots Q (F0 m (pc + 3) ls rest)) : W p l e R s m args below meth c H locs cells slots Q (F0 m pc ls (.int (iI y) :: .int (iI x) :: rest)) :=
  lv_icmp_ne hx hb hdg ht (fun h => kt (fun q => h (by exact (iI_eq h1 h2).mpr q))) (fun h => kf (by exact (iI_eq h1 h2).mp h))
theorem xr_if_ne (hx : p.tables.exec = Jvm.exec) (hb : c.code = cc) {off : Int} {tgt : Nat} (hdg : decode cc pc = .ok (.ifCond .ne off, 3)) (ht : (pc : Int) + off = (tgt : Int)) (h1 : rg x) (kt : ¬ x = 0 → W p l e R s m args below meth c H locs cells slots Q (F0 m tgt ls rest)) (kf : x = 0 → W p l e R s m args below meth c H locs cells slots Q (F0 m (pc + 3) ls rest)) : W p l e R s m args below meth c H locs cells slots Q (F0 m pc ls (.int (iI x) :: rest)) :=
  lv_if_ne hx hb hdg ht (fun h => kt (fun q => h (by rw [iI_0]; exact (iI_eq h1 rg_0).mpr q))) (fun h => kf (by rw [iI_0] at h; exact (iI_eq h1 rg_0).mp h))
theorem xr_icmp_lt (hx : p.tables.exec = Jvm.exec) (hb : c.code = cc) {off : Int} {tgt : Nat} (hdg : decode cc pc = .ok (.if_icmp .lt off, 3)) (ht : (pc : Int) + off = (tgt : Int)) (h1 : rg x) (h2 : rg y) (kt : x < y → W p l e R s m args below meth c H locs cells slots Q (F0 m tgt ls rest)) (kf : y ≤ x → W p l e R s m args below meth c H locs cells slots Q (F0 m (pc + 3) ls rest)) : W p l e R s m args below meth c H locs cells slots Q (F0 m pc ls (.int (iI y) :: .int (iI x) :: rest)) :=
  lv_icmp_lt hx hb hdg ht (fun h => kt (by exact (iI_lt h1 h2).mp h)) (fun h => kf (by rw [iI_lt h1 h2] at h; omega))
theorem xr_if_lt (hx : p.tables.exec = Jvm.exec) (hb : c.code = cc) {off : Int} {tgt : Nat} (hdg : decode cc pc = .ok (.ifCond .lt off, 3)) (ht : (pc : Int) + off = (tgt : Int)) (h1 : rg x) (kt : x < 0 → W p l e R s m args below meth c H locs cells slots Q (F0 m tgt ls rest)) (kf : 0 ≤ x → W p l e R s m args below meth c H locs cells slots Q (F0 m (pc + 3) ls rest)) : W p l e R s m args below meth c H locs cells slots Q (F0 m pc ls (.int (iI x) :: rest)) :=
  lv_if_lt hx hb hdg ht (fun h => kt (by rw [iI_0] at h; exact (iI_lt h1 rg_0).mp h)) (fun h => kf (by rw [iI_0] at h; rw [iI_lt h1 rg_0] at h; omega))
theorem xr_icmp_ge (hx : p.tables.exec = Jvm.exec) (hb : c.code = cc) {off : Int} {tgt : Nat} (hdg : decode cc pc = .ok (.if_icmp .ge off, 3)) (ht : (pc : Int) + off = (tgt : Int)) (h1 : rg x) (h2 : rg y) (kt : y ≤ x → W p l e R s m args below meth c H locs cells slots Q (F0 m tgt ls rest)) (kf : x < y → W p l e R s m args below meth c H locs cells slots Q (F0 m (pc + 3) ls rest)) : W p l e R s m args below meth c H locs cells slots Q (F0 m pc ls (.int (iI y) :: .int (iI x) :: rest)) :=
  lv_icmp_ge hx hb hdg ht (fun h => kt (by exact (iI_le h2 h1).mp h)) (fun h => kf (by rw [iI_le h2 h1] at h; omega))
theorem xr_if_ge (hx : p.tables.exec = Jvm.exec) (hb : c.code = cc) {off : Int} {tgt : Nat} (hdg : decode cc pc = .ok (.ifCond .ge off, 3)) (ht : (pc : Int) + off = (tgt : Int)) (h1 : rg x) (kt : 0 ≤ x → W p l e R s m args below meth c H locs cells slots Q (F0 m tgt ls rest)) (kf : x < 0 → W p l e R s m args below meth c H locs cells slots Q (F0 m (pc + 3) ls rest)) : W p l e R s m args below meth c H locs cells slots Q (F0 m pc ls (.int (iI x) :: rest)) :=
  lv_if_ge hx hb hdg ht (fun h => kt (by rw [iI_0] at h; exact (iI_le rg_0 h1).mp h)) (fun h => kf (by rw [iI_0] at h; rw [iI_le rg_0 h1] at h; omega))
theorem xr_icmp_gt (hx : p.tables.exec = Jvm.exec) (hb : c.code = cc) {off : Int} {tgt : Nat} (hdg : decode cc pc = .ok (.if_icmp .gt off, 3)) (ht : (pc : Int) + off = (tgt : Int)) (h1 : rg x) (h2 : rg y) (kt : y < x → W p l e R s m args below meth c H locs cells slots Q (F0 m tgt ls rest)) (kf : x ≤ y → W p l e R s m args below meth c H locs cells slots Q (F0 m (pc + 3) ls rest)) : W p l e R s m args below meth c H locs cells slots Q (F0 m pc ls (.int (iI y) :: .int (iI x) :: rest)) :=
  lv_icmp_gt hx hb hdg ht (fun h => kt (by exact (iI_lt h2 h1).mp h)) (fun h => kf (by rw [iI_lt h2 h1] at h; omega))
theorem xr_if_gt (hx : p.tables.exec = Jvm.exec) (hb : c.code = cc) {off : Int} {tgt : Nat} (hdg : decode cc pc = .ok (.ifCond .gt off, 3)) (ht : (pc : Int) + off = (tgt : Int)) (h1 : rg x) (kt : 0 < x → W p l e R s m args below meth c H locs cells slots Q (F0 m tgt ls rest)) (kf : x ≤ 0 → W p l e R s m args below meth c H locs cells slots Q (F0 m (pc + 3) ls rest)) : W p l e R s m args below meth c H locs cells slots Q (F0 m pc ls (.int (iI x) :: rest)) :=
  lv_if_gt hx hb hdg ht (fun h => kt (by rw [iI_0] at h; exact (iI_lt rg_0 h1).mp h)) (fun h => kf (by rw [iI_0] at h; rw [iI_lt rg_0 h1] at h; omega))
theorem xr_icmp_le (hx : p.tables.exec = Jvm.exec) (hb : c.code = cc) {off : Int} {tgt : Nat} (hdg : decode cc pc = .ok (.if_icmp .le off, 3)) (ht : (pc : Int) + off = (tgt : Int)) (h1 : rg x) (h2 : rg y) (kt : x ≤ y → W p l e R s m args below meth c H locs cells slots Q (F0 m tgt ls rest)) (kf : y < x → W p l e R s m args below meth c H locs cells slots Q (F0 m (pc + 3) ls rest)) : W p l e R s m args below meth c H locs cells slots Q (F0 m pc ls (.int (iI y) :: .int (iI x) :: rest)) :=
  lv_icmp_le hx hb hdg ht (fun h => kt (by exact (iI_le h1 h2).mp h)) (fun h => kf (by rw [iI_le h1 h2] at h; omega))
theorem xr_if_le (hx : p.tables.exec = Jvm.exec) (hb : c.code = cc) {off : Int} {tgt : Nat} (hdg : decode cc pc = .ok (.ifCond .le off, 3)) (ht : (pc : Int) + off = (tgt : Int)) (h1 : rg x) (kt : x ≤ 0 → W p l e R s m args below meth c H locs cells slots Q (F0 m tgt ls rest)) (kf : 0 < x → W p l e R s m args below meth c H locs cells slots Q (F0 m (pc + 3) ls rest)) : W p l e R s m args below meth c H locs cells slots Q (F0 m pc ls (.int (iI x) :: rest)) :=
  lv_if_le hx hb hdg ht (fun h => kt (by rw [iI_0] at h; exact (iI_le h1 rg_0).mp h)) (fun h => kf (by rw [iI_0] at h; rw [iI_le h1 rg_0] at h; omega))
end XR

