theorem rv_cat (z : Int) : (rv z).category = 1 := by rcases rv_or z with e | ⟨q, e⟩ <;> rw [e] <;> rfl
def vs (v : Int → Int → Int) (z : Int) (f : Int → Int) : Int → Int → Int := fun a => if a = z then f else v a
theorem vs_self (v : Int → Int → Int) (z : Int) (f : Int → Int) : vs v z f z = f := if_pos rfl
theorem vs_ne (v : Int → Int → Int) {z a : Int} (f : Int → Int) (h : a ≠ z) : vs v z f a = v a := if_neg h
theorem xI_vs {L : List Nat} {K : Int → Nat} {N : Int → Int} {v : Int → Int → Int} (h : xI L K N v) {z : Int} {f : Int → Int} {k : Nat} (hk : ok L K z k) (hf : ∀ j, 0 ≤ j → xF L K k j (f j)) : xI L K N (vs v z f) := by
  intro a k2 ha
  refine ⟨(h a k2 ha).1, fun i hi => ?_⟩
  by_cases q : a = z
  · subst q
    rw [vs_self]
    have e : k2 = k := ha.2.2.symm.trans hk.2.2
    rw [e]; exact hf i hi
  · rw [vs_ne v f q]; exact (h a k2 ha).2 i hi
theorem fr_vs {L : List Nat} {K : Int → Nat} {v : Int → Int → Int} {z : Int} {f : Int → Int} {k : Nat} (hk : ok L K z k) : fr K [(k, -1)] (vs v z f) v := fun a i h => by
  rw [vs_ne v f ?_]
  rintro rfl
  unfold inW at h
  simp [hk.2.2] at h
section XC
variable {p : Program} {l : Launch} {e : Env} {R : Room} {s : State} {m : MethodId} {args : Array Value} {below : List Frame} {meth : Method} {c : Code} {H : Heap} {locs : List Loc} {cells slots : Nat} {Q : State → Prop}
variable {cc : ByteArray} {pc : Nat} {ls : Array Slot} {rest : List Value} {dC : Nat → ClassId} {dI : Nat → Nat → Nat} {A : Nat → Prop} {H0 : Heap} {L : List Nat} {cid : Nat → ClassId} {K : Int → Nat} {N : Int → Int} {v : Int → Int → Int} {z y i : Int}
theorem xg_setF {k : Nat} (hk : ok L K z k) (hD : va_D A (xG L cid K N v)) {q0 : Nat} (hq : (xG L cid K N v)[q0]? = some (z.toNat, xk cid k (N z) (v z))) {e : va_E} {f : Int → Int} (he : e = xk cid k (N z) f) : (xG L cid K N v).set q0 (z.toNat, e) = xG L cid K N (vs v z f) := by
  have ez : ((z.toNat : Nat) : Int) = z := Int.toNat_of_nonneg hk.1
  have hx : xk cid k (N z) (v z) = xC cid K N v (z.toNat : Int) := by rw [ez]; unfold xC; rw [hk.2.2]
  have h := va_pl_set (X := []) (A := A) (f := fun a => xC cid K N v (a : Int)) (e := e) (k := q0) (by simpa [xG] using hD) hk.2.1 (by rw [hx] at hq; simpa [xG] using hq)
  have h' : (xG L cid K N v).set q0 (z.toNat, e) = va_pl L (va_up (fun a => xC cid K N v (a : Int)) z.toNat e) := by simpa [xG] using h
  rw [h']
  refine va_pl_congr (fun a => ?_)
  by_cases ha : a = z.toNat
  · subst ha
    rw [va_up_self, he]
    show _ = xC cid K N (vs v z f) _
    rw [ez]; unfold xC; rw [hk.2.2, vs_self]
  · rw [va_up_ne _ _ ha]
    show xC cid K N v _ = xC cid K N (vs v z f) _
    unfold xC; rw [vs_ne v f (by omega)]
def cpf (f : Int → Int) (sp dp n : Int) : Int → Int := fun i => if dp ≤ i ∧ i < dp + n then f (sp + (i - dp)) else f i
theorem ar_cpf {f : Int → Int} {sp dp n : Int} (h1 : 0 ≤ sp) (h2 : 0 ≤ dp) (h3 : 0 ≤ n) (k1 : sp ≤ 2147483647) (k2 : dp ≤ 2147483647) (k3 : n ≤ 2147483647) : va_cpy (ar f) (ar f) (iI sp).toNatClampNeg (iI dp).toNatClampNeg (iI n).toNatClampNeg = ar (cpf f sp dp n) := by
  rw [iI_clamp h1 k1, iI_clamp h2 k2, iI_clamp h3 k3]
  funext j
  unfold va_cpy ar cpf
  by_cases h : dp.toNat ≤ j ∧ j < dp.toNat + n.toNat
  · rw [if_pos h, if_pos (show dp ≤ (j : Int) ∧ (j : Int) < dp + n by omega)]
    rw [show ((sp.toNat + (j - dp.toNat) : Nat) : Int) = sp + ((j : Int) - dp) by omega]
  · rw [if_neg h, if_neg (show ¬ (dp ≤ (j : Int) ∧ (j : Int) < dp + n) by omega)]
theorem xc_37 {own : String} {index : Nat} (hx : p.tables.exec = Jvm.exec) (hb : c.code = cc) (hml : c.maxLocals = ls.size) (hown : s.vm.findClass own = some m.cls) (hlink : (Cond.methodLink own index arraycopyName).before args s = true) (hnat : (Cond.native arraycopyName).before args s = true) (hstat : (Cond.static arraycopyName).before args s = true) (hini : (Cond.initialized "java/lang/System").before args s = true)
    (hK : va_K (dC, dI) vwCl (xT cid) s) (hP : va_P (dC, dI) vwCl (xG L cid K N v) H) (hD : va_D A (xG L cid K N v)) (hS : va_S A H0 H locs) (hI : xI L K N v) (hk : ok L K z 37) {sp dp n : Int} (h1 : 0 ≤ sp) (h2 : 0 ≤ dp) (h3 : 0 ≤ n) (h4 : sp + n ≤ N z) (h5 : dp + n ≤ N z) (h6 : N z ≤ 2147483647)
    (hframes : 1 ≤ R.frames) (hlocals : (rest.map fun v => v.category).sum + (nativeFrameWords "java/lang/System" "arraycopy" 5 + 11) ≤ R.locals) (hdg : decode cc pc = .ok (.invokestatic index, 3))
    (kk : ∀ (v1 : Int → Int → Int) (H1 : Heap) (locs1 : List Loc), fr K [(37, -1)] v1 v → xI L K N v1 → va_P (dC, dI) vwCl (xG L cid K N v1) H1 → va_D A (xG L cid K N v1) → va_S A H0 H1 locs1 → W p l e R s m args below meth c H1 locs1 cells slots Q (F0 m (pc + 3) ls rest)) : W p l e R s m args below meth c H locs cells slots Q (F0 m pc ls (.int (iI n) :: .int (iI dp) :: .ref z.toNat :: .int (iI sp) :: .ref z.toNat :: rest)) := by
  have hD0 := hD
  obtain ⟨q0, hq⟩ := xg_at (cid := cid) (N := N) (v := v) hk
  have neg : ∀ {w : Int}, 0 ≤ w → w ≤ 2147483647 → ¬ iI w < 0 := fun a b q => by rw [iI_0, iI_lt ⟨by omega, b⟩ rg_0] at q; omega
  refine va_copyi hx hb hml hown hlink hnat hstat hini hK hP hD hS q0 q0 0 0 (n0 := (N z).toNat) (n1 := (N z).toNat) (f := ar (v z)) (g := ar (v z)) (ty := .int) hq hq rfl rfl rfl (neg h1 (by omega)) (neg h2 (by omega)) (neg h3 (by omega)) (by rw [iI_clamp h1 (by omega), iI_clamp h3 (by omega)]; omega) (by rw [iI_clamp h2 (by omega), iI_clamp h3 (by omega)]; omega) (fun _ _ => rfl) hframes hlocals hdg (fun H1 locs1 hP hD hS => ?_)
  rw [ar_cpf h1 h2 h3 (by omega) (by omega) (by omega)] at hP hD
  have hw : (xG L cid K N v).set q0 (z.toNat, .inl (cid 0, Int.toNat (N z), .inl (ar (cpf (v z) sp dp n)))) = xG L cid K N (vs v z (cpf (v z) sp dp n)) := xg_setF hk hD0 hq rfl
  rw [hw] at hP hD
  refine kk _ H1 locs1 (fr_vs hk) (xI_vs hI hk (fun j hj => ?_)) hP hD hS
  show -2147483648 ≤ cpf (v z) sp dp n j ∧ cpf (v z) sp dp n j ≤ 2147483647
  unfold cpf
  split
  · exact (hI z 37 hk).2 _ (by omega)
  · exact (hI z 37 hk).2 _ hj
theorem xq_astore_n (hexec : p.tables.exec = Jvm.exec) (hb : c.code = cc) {k : Fin 4} {i nL : Nat} {lv lv' : List (Nat × Value)} (hdg : decode cc pc = .ok (.astore_n k, 1)) (hi : (k : Nat) = i) (h : lv_has ls nL lv) (hn : i < nL) (hl : (i, rv z) :: lv.filter (fun q => !(q.1 == i) && !(q.1 + 1 == i && q.2.category == 2)) = lv')
    (kk : ∀ ls', lv_has ls' nL lv' → W p l e R s m args below meth c H locs cells slots Q (F0 m (pc + 1) ls' rest)) : W p l e R s m args below meth c H locs cells slots Q (F0 m pc ls (rv z :: rest)) := by
  rcases rv_or z with e1 | ⟨q, e1⟩
  · rw [e1] at hl ⊢
    exact lv_astore_nN hexec hb hdg hi h hn hl kk
  · rw [e1] at hl ⊢
    exact lv_astore_n hexec hb hdg hi h hn hl kk
theorem xq_astore (hexec : p.tables.exec = Jvm.exec) (hb : c.code = cc) {i nL : Nat} {lv lv' : List (Nat × Value)} (hdg : decode cc pc = .ok (.astore i, 2)) (h : lv_has ls nL lv) (hn : i < nL) (hl : (i, rv z) :: lv.filter (fun q => !(q.1 == i) && !(q.1 + 1 == i && q.2.category == 2)) = lv')
    (kk : ∀ ls', lv_has ls' nL lv' → W p l e R s m args below meth c H locs cells slots Q (F0 m (pc + 2) ls' rest)) : W p l e R s m args below meth c H locs cells slots Q (F0 m pc ls (rv z :: rest)) := by
  rcases rv_or z with e1 | ⟨q, e1⟩
  · rw [e1] at hl ⊢
    exact lv_astoreN hexec hb hdg h hn hl kk
  · rw [e1] at hl ⊢
    exact lv_astore hexec hb hdg h hn hl kk
theorem xq_aload_n (hexec : p.tables.exec = Jvm.exec) (hb : c.code = cc) {k : Fin 4} {i : Nat} (hdg : decode cc pc = .ok (.aload_n k, 1)) (hi : (k : Nat) = i) (hl : ls[i]? = some (.val (rv z)))
    (kk : W p l e R s m args below meth c H locs cells slots Q (F0 m (pc + 1) ls (rv z :: rest))) : W p l e R s m args below meth c H locs cells slots Q (F0 m pc ls (rest)) := by
  rcases rv_or z with e1 | ⟨q, e1⟩
  · rw [e1] at hl kk
    exact lv_aload_nN hexec hb hdg hi hl kk
  · rw [e1] at hl kk
    exact lv_aload_n hexec hb hdg hi hl kk
theorem xq_aload (hexec : p.tables.exec = Jvm.exec) (hb : c.code = cc) {i : Nat} (hdg : decode cc pc = .ok (.aload i, 2)) (hl : ls[i]? = some (.val (rv z)))
    (kk : W p l e R s m args below meth c H locs cells slots Q (F0 m (pc + 2) ls (rv z :: rest))) : W p l e R s m args below meth c H locs cells slots Q (F0 m pc ls (rest)) := by
  rcases rv_or z with e1 | ⟨q, e1⟩
  · rw [e1] at hl kk
    exact lv_aloadN hexec hb hdg hl kk
  · rw [e1] at hl kk
    exact lv_aload hexec hb hdg hl kk
end XC

