theorem xX.nar {tW : Nat} {sK sV : Nat → Nat} {A B : Nat → Prop} {U : State} {H : Heap} (h : xX tW sK sV A U H) (hAB : ∀ q, B q → A q) : xX tW sK sV B U H :=
  ⟨h.1, ⟨h.2.1.1.narrow hAB, h.2.1.2.narrow hAB⟩, h.2.2.nar hAB⟩
theorem xr_keep (x : Int) : ∃ z : Int, rg z ∧ (z = x ∨ ¬ rg x) ∧ iI x = iI z := ⟨(iI x).toInt, rg_of _, (by by_cases h : rg x; exact Or.inl (iI_toInt h); exact Or.inr h), iI_of _⟩
theorem i32_tn (a : Int32) : a.toInt = if 2 * a.toBitVec.toNat < 2 ^ 32 then (a.toBitVec.toNat : Int) else (a.toBitVec.toNat : Int) - ((2 ^ 32 : Nat) : Int) := BitVec.toInt_eq_toNat_cond a.toBitVec
theorem and_bd (a b : Int32) (h : 0 ≤ b.toInt) : 0 ≤ (a &&& b).toInt ∧ (a &&& b).toInt ≤ b.toInt := by
  have h1 : (a &&& b).toBitVec.toNat ≤ b.toBitVec.toNat := by rw [Int32.toBitVec_and, BitVec.toNat_and]; exact Nat.and_le_right
  have h2 := b.toBitVec.isLt
  rw [i32_tn] at h
  rw [i32_tn (a &&& b), i32_tn b]
  split at h <;> rename_i h3
  · rw [if_pos h3, if_pos (by omega)]; omega
  · omega
theorem and_bdL (a b : Int32) (h : 0 ≤ a.toInt) : 0 ≤ (a &&& b).toInt ∧ (a &&& b).toInt ≤ a.toInt := by rw [Int32.and_comm]; exact and_bd b a h
theorem xor_bd (a b : Int32) (k : Nat) (hk : k ≤ 30) (ha : 0 ≤ a.toInt) (ha2 : a.toInt < 2 ^ k) (hb : 0 ≤ b.toInt) (hb2 : b.toInt < 2 ^ k) : 0 ≤ (a ^^^ b).toInt ∧ (a ^^^ b).toInt < 2 ^ k := by
  have e2 : (2 : Nat) ^ k ≤ 2 ^ 30 := Nat.pow_le_pow_right (by decide) hk
  have ec : ((2 ^ k : Nat) : Int) = (2 : Int) ^ k := by simp
  rw [i32_tn] at ha ha2 hb hb2
  have l1 := a.toBitVec.isLt
  have l2 := b.toBitVec.isLt
  have h1 : a.toBitVec.toNat < 2 ^ k := by
    split at ha
    · rw [if_pos (by assumption), ← ec] at ha2; exact Int.ofNat_lt.mp ha2
    · omega
  have h2 : b.toBitVec.toNat < 2 ^ k := by
    split at hb
    · rw [if_pos (by assumption), ← ec] at hb2; exact Int.ofNat_lt.mp hb2
    · omega
  have h3 : (a ^^^ b).toBitVec.toNat < 2 ^ k := by rw [Int32.toBitVec_xor, BitVec.toNat_xor]; exact Nat.xor_lt_two_pow h1 h2
  rw [i32_tn, if_pos (by omega), ← ec]
  exact ⟨Int.natCast_nonneg _, Int.ofNat_lt.mpr h3⟩
theorem iI_nI {x : Int} (h : 0 ≤ x) : iI x = nI x.toNat := (xi_len h).symm
theorem nb_char {z : Int} (h0 : 0 ≤ z) (h1 : z ≤ 65535) : narrow .char (.int (iI z)) = .int (iI z) := by rw [iI_nI h0]; exact (pk_charN (by omega)).1
theorem nb_byte0 {z : Int} (h0 : 0 ≤ z) (h1 : z ≤ 1) : narrow .byte (.int (iI z)) = .int (iI z) := by
  rcases (show z = 0 ∨ z = 1 by omega) with rfl | rfl <;> rfl
theorem ic_rng (x : Int32) : 0 ≤ ((x.toUInt32 % 65536).toInt32).toInt ∧ ((x.toUInt32 % 65536).toInt32).toInt ≤ 65535 := by
  rw [pk_char, nI_toInt (by omega)]
  omega
theorem ofNat_iI (n : Nat) : Int32.ofNat n = iI (n : Int) := by unfold iI; exact (Int32.ofInt_eq_ofNat).symm
theorem sx_le (i : Nat) : sx_len.getD i 0 ≤ 2147483647 := by
  unfold sx_len
  match i with
  | 0 => decide
  | 1 => decide
  | 2 => decide
  | n + 3 => simp
theorem sx_bd (i : Nat) : 0 ≤ sx_n i ∧ sx_n i ≤ 2147483647 := ⟨Int.natCast_nonneg _, by have := sx_le i; unfold sx_n; omega⟩
theorem sh_0 (x : Int) : iI x >>> (iI 0 &&& 31) = iI x := by
  rw [show iI 0 &&& 31 = 0 by decide]
  simp
section XH
variable {p : Program} {l : Launch} {e : Env} {R : Room} {s : State} {m : MethodId} {args : Array Value} {below : List Frame} {meth : Method} {c : Code} {H : Heap} {locs : List Loc} {cells slots : Nat} {Q : State → Prop}
variable {cc : ByteArray} {pc : Nat} {ls : Array Slot} {rest : List Value} {x y : Int} {st0 : List Value} {a : Array Value} {A0 A : Nat → Prop} {H0 : Heap} {mc ms : Nat} {D : va_G} {ws w1 : va_W} {tW : Nat}
theorem jc_l {post : Int64 → Unit → Prop} (hr : va_Run p l e R s m args below meth c H locs cells slots mc ms (F0 m pc ls st0) rest (va_Ql post (fun _ _ => True) (va_A [] H.size) a) (va_A [] H.size)) (hP : va_P D vwCl ws H) (hS : va_S A0 H0 H locs) (hA : ∀ q, H0.size ≤ q → A0 q)
    (kk : ∀ (r : Int64) (H1 : Heap) (locs1 : List Loc), post r () → va_P D vwCl ws H1 → va_S A0 H0 H1 locs1 → W p l e R s m args below meth c H1 locs1 (cells + mc) (slots + ms) Q (F0 m (pc + 3) ls (.long r :: rest))) : W p l e R s m args below meth c H locs cells slots Q (F0 m pc ls st0) :=
  va_calll hr hS (fun q _ h => ja_nil hS hA q h) (ja_nil hS hA) (fun r _ _ H1 locs1 _ _ hw _ _ hk hS1 => kk r H1 locs1 hw (jp_keep hP hk) hS1)
theorem xr_ushr1 (hx : p.tables.exec = Jvm.exec) (hb : c.code = cc) (h0 : 0 ≤ x) (h1 : x ≤ 2147483647) (hdg : decode cc pc = .ok (.iushr, 1)) (kk : W p l e R s m args below meth c H locs cells slots Q (F0 m (pc + 1) ls (.int (iI (x / 2)) :: rest))) : W p l e R s m args below meth c H locs cells slots Q (F0 m pc ls (.int (iI 1) :: .int (iI x) :: rest)) := by
  refine lv_iushr hx hb hdg ?_ kk
  rw [iI_nI h0, pk_ushrN (n := x.toNat) (by omega) (iI 1) 1 (by decide), iI_nI (show 0 ≤ x / 2 by omega)]
  congr 1
  omega
theorem xr_andR (hx : p.tables.exec = Jvm.exec) (hb : c.code = cc) (h0 : 0 ≤ y) (h1 : y ≤ 2147483647) (hdg : decode cc pc = .ok (.iand, 1)) (kk : ∀ z : Int, (0 ≤ z ∧ z ≤ y) → W p l e R s m args below meth c H locs cells slots Q (F0 m (pc + 1) ls (.int (iI z) :: rest))) : W p l e R s m args below meth c H locs cells slots Q (F0 m pc ls (.int (iI y) :: .int (iI x) :: rest)) := by
  refine lv_iand hx hb hdg (jt_i _ (iI_of _) (kk _ ?_))
  have h := and_bd (iI x) (iI y) (by rw [iI_toInt ⟨by omega, h1⟩]; exact h0)
  rw [iI_toInt (z := y) ⟨by omega, h1⟩] at h
  exact h
theorem xr_andL (hx : p.tables.exec = Jvm.exec) (hb : c.code = cc) (h0 : 0 ≤ x) (h1 : x ≤ 2147483647) (hdg : decode cc pc = .ok (.iand, 1)) (kk : ∀ z : Int, (0 ≤ z ∧ z ≤ x) → W p l e R s m args below meth c H locs cells slots Q (F0 m (pc + 1) ls (.int (iI z) :: rest))) : W p l e R s m args below meth c H locs cells slots Q (F0 m pc ls (.int (iI y) :: .int (iI x) :: rest)) := by
  refine lv_iand hx hb hdg (jt_i _ (iI_of _) (kk _ ?_))
  have h := and_bdL (iI x) (iI y) (by rw [iI_toInt ⟨by omega, h1⟩]; exact h0)
  rw [iI_toInt (z := x) ⟨by omega, h1⟩] at h
  exact h
theorem xr_andB (hx : p.tables.exec = Jvm.exec) (hb : c.code = cc) (h0 : 0 ≤ x) (h1 : x ≤ 2147483647) (h2 : 0 ≤ y) (h3 : y ≤ 2147483647) (hdg : decode cc pc = .ok (.iand, 1)) (kk : ∀ z : Int, (0 ≤ z ∧ z ≤ x ∧ z ≤ y) → W p l e R s m args below meth c H locs cells slots Q (F0 m (pc + 1) ls (.int (iI z) :: rest))) : W p l e R s m args below meth c H locs cells slots Q (F0 m pc ls (.int (iI y) :: .int (iI x) :: rest)) := by
  refine lv_iand hx hb hdg (jt_i _ (iI_of _) (kk _ ?_))
  have h := and_bdL (iI x) (iI y) (by rw [iI_toInt ⟨by omega, h1⟩]; exact h0)
  have h' := and_bd (iI x) (iI y) (by rw [iI_toInt ⟨by omega, h3⟩]; exact h2)
  rw [iI_toInt (z := x) ⟨by omega, h1⟩] at h
  rw [iI_toInt (z := y) ⟨by omega, h3⟩] at h'
  exact ⟨h.1, h.2, h'.2⟩
theorem xr_xor (hx : p.tables.exec = Jvm.exec) (hb : c.code = cc) (h0 : 0 ≤ x) (h1 : x < 128) (h2 : 0 ≤ y) (h3 : y < 128) (hdg : decode cc pc = .ok (.ixor, 1)) (kk : ∀ z : Int, (0 ≤ z ∧ z < 128) → W p l e R s m args below meth c H locs cells slots Q (F0 m (pc + 1) ls (.int (iI z) :: rest))) : W p l e R s m args below meth c H locs cells slots Q (F0 m pc ls (.int (iI y) :: .int (iI x) :: rest)) := by
  refine lv_ixor hx hb hdg (jt_i _ (iI_of _) (kk _ ?_))
  have h := xor_bd (iI x) (iI y) 7 (by decide) (by rw [iI_toInt ⟨by omega, by omega⟩]; exact h0) (by rw [iI_toInt ⟨by omega, by omega⟩]; omega) (by rw [iI_toInt ⟨by omega, by omega⟩]; exact h2) (by rw [iI_toInt ⟨by omega, by omega⟩]; omega)
  omega
theorem xr_i2b (hx : p.tables.exec = Jvm.exec) (hb : c.code = cc) {w : Int32} (hdg : decode cc pc = .ok (.i2b, 1)) (kk : ∀ z : Int, (-128 ≤ z ∧ z ≤ 127) → W p l e R s m args below meth c H locs cells slots Q (F0 m (pc + 1) ls (.int (iI z) :: rest))) : W p l e R s m args below meth c H locs cells slots Q (F0 m pc ls (.int w :: rest)) := by
  refine lv_i2b hx hb hdg rfl (jt_i _ (iI_of _) (kk _ ?_))
  rw [Int8.toInt_toInt32]
  have h1 := Int8.le_toInt w.toInt8
  have h2 := Int8.toInt_lt w.toInt8
  omega
theorem xr_i2c (hx : p.tables.exec = Jvm.exec) (hb : c.code = cc) {w : Int32} (hdg : decode cc pc = .ok (.i2c, 1)) (kk : ∀ z : Int, (0 ≤ z ∧ z ≤ 65535) → W p l e R s m args below meth c H locs cells slots Q (F0 m (pc + 1) ls (.int (iI z) :: rest))) : W p l e R s m args below meth c H locs cells slots Q (F0 m pc ls (.int w :: rest)) := by
  refine lv_i2c hx hb hdg rfl (jt_i (iI ((w.toBitVec.toNat % 65536 : Nat) : Int)) ?_ (kk _ (by omega)))
  rw [pk_char, iI_nI (by omega)]
  congr 1
theorem xw_gs {own : String} {index : Nat} (hx : p.tables.exec = Jvm.exec) (hb : c.code = cc) (hown : s.vm.findClass own = some m.cls) (hZ : va_Z "BookOfAll$Rules" "WITHOUT" "[I" (.ref tW) A s s.heap) (hS : va_S A s.heap H locs) (hlink : (Cond.fieldLink own index "BookOfAll$Rules" "WITHOUT" "[I").before args s = true) (hdg : decode cc pc = .ok (.getstatic index, 3)) (kk : W p l e R s m args below meth c H locs cells slots Q (F0 m (pc + 3) ls (.ref tW :: rest))) : W p l e R s m args below meth c H locs cells slots Q (F0 m pc ls rest) :=
  va_gets hx hb hZ hS hown hlink (fun _ h9 => h9) hdg kk
theorem xw_len (hx : p.tables.exec = Jvm.exec) (hb : c.code = cc) (hT : va_T .int tW 14 (fun k => .int (jz_f k)) A s s.heap) (hS : va_S A s.heap H locs) (hdg : decode cc pc = .ok (.arraylength, 1)) (kk : W p l e R s m args below meth c H locs cells slots Q (F0 m (pc + 1) ls (.int (iI 14) :: rest))) : W p l e R s m args below meth c H locs cells slots Q (F0 m pc ls (.ref tW :: rest)) :=
  va_tlen (v := iI 14) hx hb hT hS (by decide) hdg kk
theorem xw_ld {i : Int} (hx : p.tables.exec = Jvm.exec) (hb : c.code = cc) (hT : va_T .int tW 14 (fun k => .int (jz_f k)) A s s.heap) (hS : va_S A s.heap H locs) (h0 : 0 ≤ i) (h1 : i < 14) (hdg : decode cc pc = .ok (.iaload, 1)) (kk : ∀ z : Int, rg z → W p l e R s m args below meth c H locs cells slots Q (F0 m (pc + 1) ls (.int (iI z) :: rest))) : W p l e R s m args below meth c H locs cells slots Q (F0 m pc ls (.int (iI i) :: .ref tW :: rest)) :=
  va_ti (v := .int (jz_f (iI i).toNatClampNeg)) hx hb hT hS (xi_in h0 h1 (by decide)) rfl hdg (xr_any kk)
theorem xr_shr0 (hx : p.tables.exec = Jvm.exec) (hb : c.code = cc) (hdg : decode cc pc = .ok (.ishr, 1)) (kk : W p l e R s m args below meth c H locs cells slots Q (F0 m (pc + 1) ls (.int (iI x) :: rest))) : W p l e R s m args below meth c H locs cells slots Q (F0 m pc ls (.int (iI 0) :: .int (iI x) :: rest)) :=
  lv_ishr hx hb hdg (jt_i (iI x) (sh_0 x) kk)
theorem xs_len {sK sV : Nat → Nat} {i : Nat} (hx : p.tables.exec = Jvm.exec) (hb : c.code = cc) (hX : xS sK sV A s s.heap) (hi : i < 3) (hS : va_S A s.heap H locs) (hdg : decode cc pc = .ok (.arraylength, 1)) (kk : W p l e R s m args below meth c H locs cells slots Q (F0 m (pc + 1) ls (.int (iI (sx_n i)) :: rest))) : W p l e R s m args below meth c H locs cells slots Q (F0 m pc ls (.ref (sV i) :: rest)) :=
  va_tlen (v := iI (sx_n i)) hx hb (hX.1.1 i hi).2.2.2 hS (ofNat_iI _) hdg kk
theorem xs_at {sK sV : Nat → Nat} {i : Nat} (hx : p.tables.exec = Jvm.exec) (hb : c.code = cc) (hX : xS sK sV A s s.heap) (hi : i < 3) (hS : va_S A s.heap H locs) (h0 : 0 ≤ x) (h1 : x < sx_n i) (hdg : decode cc pc = .ok (.baload, 1)) (kk : W p l e R s m args below meth c H locs cells slots Q (F0 m (pc + 1) ls (.int ((sx_byt.getD i []).getD (iI x).toNatClampNeg 0) :: rest))) : W p l e R s m args below meth c H locs cells slots Q (F0 m pc ls (.int (iI x) :: .ref (sV i) :: rest)) :=
  va_tb hx hb (hX.1.1 i hi).2.2.2 hS (xi_in h0 h1 (sx_le i)) rfl hdg kk
theorem xs_value {sK sV : Nat → Nat} {i : Nat} {index : Nat} {own : String} (hx : p.tables.exec = Jvm.exec) (hb : c.code = cc) (hX : xS sK sV A s s.heap) (hi : i < 3) (hS : va_S A s.heap H locs) (hown : s.vm.findClass own = some m.cls) (hlink : (Cond.fieldLink own index "java/lang/String" "value" "[B").before args s = true) (hdg : decode cc pc = .ok (.getfield index, 3)) (kk : W p l e R s m args below meth c H locs cells slots Q (F0 m (pc + 3) ls (.ref (sV i) :: rest))) : W p l e R s m args below meth c H locs cells slots Q (F0 m pc ls (.ref (sK i) :: rest)) :=
  vk_getf hx hb (hX.1.1 i hi).2.2.1 hS hown hlink (fun _ h9 => h9) hdg kk
theorem xs_coder {sK sV : Nat → Nat} {i : Nat} {index : Nat} {own : String} (hx : p.tables.exec = Jvm.exec) (hb : c.code = cc) (hX : xS sK sV A s s.heap) (hi : i < 3) (hS : va_S A s.heap H locs) (hown : s.vm.findClass own = some m.cls) (hlink : (Cond.fieldLink own index "java/lang/String" "coder" "B").before args s = true) (hdg : decode cc pc = .ok (.getfield index, 3)) (kk : W p l e R s m args below meth c H locs cells slots Q (F0 m (pc + 3) ls (.int (iI 0) :: rest))) : W p l e R s m args below meth c H locs cells slots Q (F0 m pc ls (.ref (sK i) :: rest)) :=
  vk_getf (v := .int (iI 0)) hx hb (hX.1.1 i hi).2.1 hS hown hlink (fun _ h9 => h9) hdg kk
theorem xr_shl1 (hx : p.tables.exec = Jvm.exec) (hb : c.code = cc) (h0 : 0 ≤ y) (h1 : y ≤ 7) (hdg : decode cc pc = .ok (.ishl, 1)) (kk : ∀ z : Int, (1 ≤ z ∧ z ≤ 128) → W p l e R s m args below meth c H locs cells slots Q (F0 m (pc + 1) ls (.int (iI z) :: rest))) : W p l e R s m args below meth c H locs cells slots Q (F0 m pc ls (.int (iI y) :: .int (iI 1) :: rest)) := by
  refine lv_ishl hx hb hdg (jt_i _ (iI_of _) (kk _ ?_))
  rcases (show y = 0 ∨ y = 1 ∨ y = 2 ∨ y = 3 ∨ y = 4 ∨ y = 5 ∨ y = 6 ∨ y = 7 by omega) with rfl | rfl | rfl | rfl | rfl | rfl | rfl | rfl <;> decide
theorem xm_min (h1 : rg x) (h2 : rg y) (kk : ∀ z : Int, (z ≤ x ∧ z ≤ y ∧ (z = x ∨ z = y)) → W p l e R s m args below meth c H locs cells slots Q (F0 m pc ls (.int (iI z) :: rest))) : W p l e R s m args below meth c H locs cells slots Q (F0 m pc ls (.int (if iI y < iI x then iI y else iI x) :: rest)) := by
  by_cases h : y < x
  · rw [if_pos ((iI_lt h2 h1).mpr h)]; exact kk y ⟨by omega, by omega, Or.inr rfl⟩
  · rw [if_neg (fun q => h ((iI_lt h2 h1).mp q))]; exact kk x ⟨by omega, by omega, Or.inl rfl⟩
theorem xm_max (h1 : rg x) (h2 : rg y) (kk : ∀ z : Int, (x ≤ z ∧ y ≤ z ∧ (z = x ∨ z = y)) → W p l e R s m args below meth c H locs cells slots Q (F0 m pc ls (.int (iI z) :: rest))) : W p l e R s m args below meth c H locs cells slots Q (F0 m pc ls (.int (if iI x < iI y then iI y else iI x) :: rest)) := by
  by_cases h : x < y
  · rw [if_pos ((iI_lt h1 h2).mpr h)]; exact kk y ⟨by omega, by omega, Or.inr rfl⟩
  · rw [if_neg (fun q => h ((iI_lt h1 h2).mp q))]; exact kk x ⟨by omega, by omega, Or.inl rfl⟩
end XH

