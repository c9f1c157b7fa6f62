/-! ===== the reference's words: what its methods need of the String constants ===== -/
def mP (D : va_G) (ws : va_W) (tys : List (ClassId × FieldType)) (sK sV : Nat → Nat) (sz : Nat) (U : State) : Prop := jw_P D ws tys sz U ∧ xS sK sV (va_A ws sz) U U.heap
theorem mP_blind {av : List Value} {D : va_G} {ws : va_W} {tys : List (ClassId × FieldType)} {sK sV : Nat → Nat} {sz : Nat} : FrameBlind (va_Pc av (mP D ws tys sK sV sz)) := fun a U g mk q => by
  obtain ⟨q0, ⟨q1, qP, qK, qD⟩, qX⟩ := q
  exact ⟨q0, ⟨q1, qP, va_K.moved (u := U) (U := U.calling g mk a) (Vm.Alike.refl U.vm) qK, qD⟩, xS.same (u := U) rfl qX⟩
theorem mP_of {D : va_G} {ws : va_W} {tys : List (ClassId × FieldType)} {sK sV : Nat → Nat} {s U : State} {H : Heap} {locs : List Loc} {A Aw : Nat → Prop} (hU : U.heap = H) (hW : s.WarmedH U.vm) (hP : va_P D vwCl ws H) (hK : va_K D vwCl tys s) (hD : va_D Aw ws) (hX : xS sK sV Aw s s.heap) (hS : va_S A s.heap H locs) (hAw : ∀ q, A q → Aw q) (hA : ∀ q, s.heap.size ≤ q → Aw q) : mP D ws tys sK sV H.size U := by
  subst hU
  exact ⟨jw_of rfl hW hP hK hD, hX.go hW (xS_weak hS hAw) (ja_all hD (xS_weak hS hAw) hA)⟩
section MS
variable {p : Program} {l : Launch} {e : Env} {R : Room} {s : State} {m : MethodId} {args : Array Value} {below : List Frame} {meth : Method} {c : Code} {H : Heap} {locs : List Loc} {cells slots : Nat} {Q : State → Prop}
variable {cc : ByteArray} {pc : Nat} {ls : Array Slot} {rest : List Value}
theorem mn_ldcwS (hexec : p.tables.exec = Jvm.exec) (hb : c.code = cc) {own tx : String} {index q : Nat} (hown : s.vm.findClass own = some m.cls) (hZ : vk_R own index tx q s) (hdg : decode cc pc = .ok (.ldc_w index, 3))
    (k : W p l e R s m args below meth c H locs cells slots Q (F0 m (pc + 3) ls (.ref q :: rest))) : W p l e R s m args below meth c H locs cells slots Q (F0 m pc ls rest) := by
  intro T hT X
  obtain ⟨t, a1, b1⟩ := k T hT X
  have hdg' : decode c.code (F0 m pc ls rest).pc = .ok (.ldc_w index, 3) := by rw [hb]; exact hdg
  obtain ⟨k0, cf, i, a', hk, hcf, hcp, -, hr, hev⟩ := Cond.stringRef_spec hown hZ.1
  cases hZ.2.symm.trans hev
  obtain ⟨k', hk', he⟩ := X.warmed.alike.2.2 _ _ hk
  have hr' : k'.resolved[index]? = some (some (.string q)) := by
    rcases X.warmed.entry hk hk' index with h | ⟨h, -⟩
    · rw [h]; exact hr
    · rw [hr] at h; cases h
  refine ⟨t, ?_, b1⟩
  jvm_step X.here [hexec, hdg', ldc_w.wp_string (e := e) (s := T) (f := F0 m pc ls rest) X.here.top hk' (by rw [he]; exact hcf) hcp hr']
  exact a1
end MS

