abbrev jS (w : va_W) (k : Nat) (x : Nat × va_E) : va_W := List.set w k x
abbrev jA (w x : va_W) : va_W := w ++ x
/-! ===== helpers: worlds as a precondition, calls that keep a world, numbers ===== -/
def jw_P (D : va_G) (ws : va_W) (tys : List (ClassId × FieldType)) (sz : Nat) (U : State) : Prop := U.heap.size = sz ∧ va_P D vwCl ws U.heap ∧ va_K D vwCl tys U ∧ va_D (fun _ => True) ws
theorem jw_blind0 {av : List Value} {sz : Nat} : FrameBlind (va_Pc av (fun U => U.heap.size = sz)) := fun _ _ _ _ q => q
theorem jw_blind {av : List Value} {D : va_G} {ws : va_W} {tys : List (ClassId × FieldType)} {sz : Nat} : FrameBlind (va_Pc av (jw_P D ws tys sz)) := fun a U g mk q => by
  obtain ⟨q0, q1, qP, qK, qD⟩ := q
  exact ⟨q0, q1, qP, va_K.moved (u := U) (U := U.calling g mk a) (Vm.Alike.refl U.vm) qK, qD⟩
theorem jw_of {D : va_G} {ws : va_W} {tys : List (ClassId × FieldType)} {s U : State} {H : Heap} {A : Nat → Prop} (hU : U.heap = H) (hW : s.WarmedH U.vm) (hP : va_P D vwCl ws H) (hK : va_K D vwCl tys s) (hD : va_D A ws) : jw_P D ws tys H.size U :=
  ⟨by rw [hU], by rw [hU]; exact hP, va_K.moved hW.alike hK, hD.weaken (fun _ _ _ _ => trivial)⟩
def jE_cs : List String := [RX9, RX11, RX0, RX2, RX4]
def jE_ns : List (String × Nat × MethodName) := [(RX12, 9, yX7_init), (RX12, 18, yX8_init), (RX12, 84, yX3_init), (RX12, 91, yX1_init), (RX12, 98, yX10_init), (RX7, 75, yX9_init)]
/-- what the tables say besides words: arrays of objects, and what nest mates may call -/
def jE (U : State) : Prop := (∀ C ∈ jE_cs, va_AO C U) ∧ (∀ n ∈ jE_ns, va_Nw (.methodLinkNest n.1 n.2.1 n.2.2 RX12) U) ∧ va_Nw (.castable "[I" "java/lang/Cloneable") U
theorem jE.warm {s U : State} (h : jE s) (hW : s.WarmedH U.vm) : jE U := ⟨fun C hC => va_AO.moved hW.alike (h.1 C hC), fun n hn => va_Nw.warmM hW (h.2.1 n hn), va_Nw.warmC hW h.2.2⟩
theorem jE.same {s U : State} (h : jE s) (e : s.vm = U.vm) : jE U := ⟨fun C hC => va_AO.moved (e ▸ Vm.Alike.refl s.vm) (h.1 C hC), fun n hn => va_Nw.same rfl e (h.2.1 n hn), va_Nw.same rfl e h.2.2⟩
def jw_PE (D : va_G) (ws : va_W) (tys : List (ClassId × FieldType)) (sz : Nat) (U : State) : Prop := jw_P D ws tys sz U ∧ jE U
theorem jw_blindE {av : List Value} {D : va_G} {ws : va_W} {tys : List (ClassId × FieldType)} {sz : Nat} : FrameBlind (va_Pc av (jw_PE D ws tys sz)) := fun a U g mk q => by
  obtain ⟨q0, ⟨q1, qP, qK, qD⟩, qE⟩ := q
  exact ⟨q0, ⟨q1, qP, va_K.moved (u := U) (U := U.calling g mk a) (Vm.Alike.refl U.vm) qK, qD⟩, qE.same rfl⟩
def jz_f (k : Nat) : Int32 := [1, 1, 1, 1, 0, 1, 1, 1, 400, 400, 400, 1, 1, 1].getD k 0
def jz_P (ws : va_W) (sz tW : Nat) (U : State) : Prop := va_Z "BookOfAll$Rules" "WITHOUT" "[I" (.ref tW) (va_A ws sz) U U.heap ∧ va_T .int tW 14 (fun k => .int (jz_f k)) (va_A ws sz) U U.heap
def jw_PZ (D : va_G) (ws : va_W) (tys : List (ClassId × FieldType)) (sz tW : Nat) (U : State) : Prop := jw_P D ws tys sz U ∧ jz_P ws sz tW U
theorem jw_blindZ {av : List Value} {D : va_G} {ws : va_W} {tys : List (ClassId × FieldType)} {sz tW : Nat} : FrameBlind (va_Pc av (jw_PZ D ws tys sz tW)) := fun a U g mk q => by
  obtain ⟨q0, ⟨q1, qP, qK, qD⟩, qZ, qT⟩ := q
  exact ⟨q0, ⟨q1, qP, va_K.moved (u := U) (U := U.calling g mk a) (Vm.Alike.refl U.vm) qK, qD⟩, va_Z.moved (u := U) (U := U.calling g mk a) (Vm.Alike.refl U.vm) qZ, va_T.moved (u := U) (U := U.calling g mk a) (Vm.Alike.refl U.vm) qT⟩
theorem ja_nil {A0 : Nat → Prop} {H0 H : Heap} {locs : List Loc} (hS : va_S A0 H0 H locs) (hA : ∀ q, H0.size ≤ q → A0 q) : ∀ q, va_A [] H.size q → A0 q := by
  intro q h
  rcases h with ⟨k, e, h⟩ | h
  · simp at h
  · exact hA q (Nat.le_trans hS.1 h)
theorem ja_all {A0 : Nat → Prop} {ws : va_W} {H0 H : Heap} {locs : List Loc} (hD : va_D A0 ws) (hS : va_S A0 H0 H locs) (hA : ∀ q, H0.size ≤ q → A0 q) : ∀ q, va_A ws H.size q → A0 q := by
  intro q h
  rcases h with ⟨k, e, h⟩ | h
  · exact hD.2 k (q, e) h
  · exact hA q (Nat.le_trans hS.1 h)
theorem jz_of {ws : va_W} {s U : State} {H : Heap} {locs : List Loc} {A : Nat → Prop} {tW : Nat} (hU : U.heap = H) (hW : s.WarmedH U.vm) (hD : va_D A ws) (hS : va_S A s.heap H locs) (hA : ∀ q, s.heap.size ≤ q → A q) (hZ : va_Z "BookOfAll$Rules" "WITHOUT" "[I" (.ref tW) A s s.heap) (hT : va_T .int tW 14 (fun k => .int (jz_f k)) A s s.heap) : jz_P ws H.size tW U := by
  subst hU
  exact ⟨((hZ.kept hS.2.1).narrow (ja_all hD hS hA)).moved hW.alike, ((hT.kept hS.2.1).narrow (ja_all hD hS hA)).moved hW.alike⟩
theorem jp_keep {D : va_G} {cl : List vw_C} {ws : va_W} {H H1 : Heap} (hP : va_P D cl ws H) (hk : ∀ q : Nat, q < H.size → ¬ va_A [] H.size q → H1[q]? = H[q]?) : va_P D cl ws H1 :=
  hP.kept (fun k q h => hk q.1 (hP k q h).lt (by
    intro z
    rcases z with ⟨k', e, h'⟩ | h'
    · simp at h'
    · exact absurd (hP k q h).lt (Nat.not_lt.mpr h')))
/-- the last cell, made just now, goes to its constructor -/
theorem jp_last {D : va_G} {cl : List vw_C} {w0 : va_W} {x : Nat × va_E} {H : Heap} (hP : va_P D cl (w0 ++ [x]) H) : va_P D cl [x] H := by
  intro k q h
  match k, h with
  | 0, h => cases h; exact hP w0.length x (by simp)
  | k + 1, h => simp at h
theorem jp_init {D : va_G} {cl : List vw_C} {w0 w1 : va_W} {H : Heap} (hP : va_P D cl (w0 ++ w1) H) : va_P D cl w0 H := by
  intro k q h
  exact hP k q (by rw [List.getElem?_append_left (List.getElem?_eq_some_iff.mp h).1]; exact h)
theorem jd_last {A : Nat → Prop} {w0 : va_W} {x : Nat × va_E} (hD : va_D A (w0 ++ [x])) : va_D A [x] := by
  refine ⟨?_, ?_⟩
  · intro i j p q hi hj _
    match i, j, hi, hj with
    | 0, 0, _, _ => rfl
    | 0, j + 1, _, hj => simp at hj
    | i + 1, _, hi, _ => simp at hi
  · intro k q h
    match k, h with
    | 0, h => cases h; exact hD.2 w0.length x (by simp)
    | k + 1, h => simp at h
theorem jd_init {A : Nat → Prop} {w0 w1 : va_W} (hD : va_D A (w0 ++ w1)) : va_D A w0 := by
  have up : ∀ {k : Nat} {q : Nat × va_E}, w0[k]? = some q → (w0 ++ w1)[k]? = some q := fun h => by
    rw [List.getElem?_append_left (List.getElem?_eq_some_iff.mp h).1]; exact h
  exact ⟨fun i j p q hi hj e => hD.1 i j p q (up hi) (up hj) e, fun k q h => hD.2 k q (up h)⟩
theorem ja_last {A0 : Nat → Prop} {w0 : va_W} {x : Nat × va_E} {H0 H : Heap} {locs : List Loc} (hD : va_D A0 (w0 ++ [x])) (hS : va_S A0 H0 H locs) (hA : ∀ q, H0.size ≤ q → A0 q) : ∀ q, va_A [x] H.size q → A0 q := ja_all (jd_last hD) hS hA
theorem jj_last {D : va_G} {A0 : Nat → Prop} {w0 w1 : va_W} {x : Nat × va_E} {H H1 : Heap} (hP : va_P D vwCl (w0 ++ [x]) H) (hD : va_D A0 (w0 ++ [x])) (hF : ∀ q, va_A [x] H.size q → A0 q)
    (hk : ∀ q : Nat, q < H.size → ¬ va_A [x] H.size q → H1[q]? = H[q]?) (hP1 : va_P D vwCl w1 H1) (hD1 : va_D (va_A [x] H.size) w1) : va_P D vwCl (w0 ++ w1) H1 ∧ va_D A0 (w0 ++ w1) := by
  have up : ∀ {k : Nat} {q : Nat × va_E}, w0[k]? = some q → (w0 ++ [x])[k]? = some q := fun h => by
    rw [List.getElem?_append_left (List.getElem?_eq_some_iff.mp h).1]; exact h
  have out : ∀ (k : Nat) (q : Nat × va_E), w0[k]? = some q → ¬ va_A [x] H.size q.1 := by
    intro k q h z
    have hlt : q.1 < H.size := (hP k q (up h)).lt
    rcases z with ⟨j, e, hj⟩ | z
    · match j, hj with
      | 0, hj =>
        have hx : x = (q.1, e) := by simpa using hj
        have := hD.1 k w0.length q x (up h) (by simp) (by rw [hx])
        exact absurd (List.getElem?_eq_some_iff.mp h).1 (by omega)
      | j + 1, hj => simp at hj
    · exact absurd hlt (Nat.not_lt.mpr z)
  refine ⟨va_P.app ((jp_init hP).kept fun k q h => hk q.1 (hP k q (up h)).lt (out k q h)) hP1, va_D.app (jd_init hD) (hD1.weaken fun k q _ z => hF q.1 z) ?_⟩
  intro i j p q hi hj e
  exact out i p hi (by rw [e]; exact hD1.2 j q hj)
theorem jp_tail {D : va_G} {cl : List vw_C} {w0 w1 : va_W} {H : Heap} (hP : va_P D cl (w0 ++ w1) H) : va_P D cl w1 H := by
  intro k q h
  exact hP (w0.length + k) q (by rw [List.getElem?_append_right (by omega)]; simpa using h)
theorem jd_tail {A : Nat → Prop} {w0 w1 : va_W} (hD : va_D A (w0 ++ w1)) : va_D A w1 := by
  have up : ∀ {k : Nat} {q : Nat × va_E}, w1[k]? = some q → (w0 ++ w1)[w0.length + k]? = some q := fun h => by
    rw [List.getElem?_append_right (by omega)]; simpa using h
  refine ⟨fun i j p q hi hj e => ?_, fun k q h => hD.2 _ q (up h)⟩
  have := hD.1 _ _ p q (up hi) (up hj) e
  omega
theorem jj_tail {D : va_G} {A0 : Nat → Prop} {w0 wx w1 : va_W} {H H1 : Heap} (hP : va_P D vwCl (w0 ++ wx) H) (hD : va_D A0 (w0 ++ wx)) (hF : ∀ q, va_A wx H.size q → A0 q)
    (hk : ∀ q : Nat, q < H.size → ¬ va_A wx H.size q → H1[q]? = H[q]?) (hP1 : va_P D vwCl w1 H1) (hD1 : va_D (va_A wx H.size) w1) : va_P D vwCl (w0 ++ w1) H1 ∧ va_D A0 (w0 ++ w1) := by
  have up : ∀ {k : Nat} {q : Nat × va_E}, w0[k]? = some q → (w0 ++ wx)[k]? = some q := fun h => by
    rw [List.getElem?_append_left (List.getElem?_eq_some_iff.mp h).1]; exact h
  have out : ∀ (k : Nat) (q : Nat × va_E), w0[k]? = some q → ¬ va_A wx H.size q.1 := by
    intro k q h z
    have hlt : q.1 < H.size := (hP k q (up h)).lt
    rcases z with ⟨j, e, hj⟩ | z
    · have hx : (w0 ++ wx)[w0.length + j]? = some (q.1, e) := by rw [List.getElem?_append_right (by omega)]; simpa using hj
      have := hD.1 k (w0.length + j) q (q.1, e) (up h) hx rfl
      have h2 := (List.getElem?_eq_some_iff.mp h).1
      omega
    · exact absurd hlt (Nat.not_lt.mpr z)
  refine ⟨va_P.app ((jp_init hP).kept fun k q h => hk q.1 (hP k q (up h)).lt (out k q h)) hP1, va_D.app (jd_init hD) (hD1.weaken fun k q _ z => hF q.1 z) ?_⟩
  intro i j p q hi hj e
  exact out i p hi (by rw [e]; exact hD1.2 j q hj)
theorem jp_at {D : va_G} {cl : List vw_C} {ws : va_W} {x : Nat × va_E} {H : Heap} (hP : va_P D cl ws H) (k : Nat) (hk : ws[k]? = some x) : va_P D cl [x] H := by
  intro j q h
  match j, h with
  | 0, h => cases h; exact hP k x hk
  | j + 1, h => simp at h
theorem jd_at {A : Nat → Prop} {ws : va_W} {x : Nat × va_E} (hD : va_D A ws) (k : Nat) (hk : ws[k]? = some x) : va_D A [x] := by
  refine ⟨?_, ?_⟩
  · intro i j p q hi hj _
    match i, j, hi, hj with
    | 0, 0, _, _ => rfl
    | 0, j + 1, _, hj => simp at hj
    | i + 1, _, hi, _ => simp at hi
  · intro j q h
    match j, h with
    | 0, h => cases h; exact hD.2 k x hk
    | j + 1, h => simp at h
theorem jp_set {D : va_G} {cl : List vw_C} {A : Nat → Prop} {ws : va_W} {k a : Nat} {e0 e1 : va_E} {H H1 : Heap} (hP : va_P D cl ws H) (hD : va_D A ws) (hk : ws[k]? = some (a, e0)) (hc : ∀ q : Nat, q < H.size → ¬ va_A [(a, e0)] H.size q → H1[q]? = H[q]?) (h1 : va_P D cl [(a, e1)] H1) : va_P D cl (ws.set k (a, e1)) H1 := by
  have hlt := (List.getElem?_eq_some_iff.mp hk).1
  intro j q h
  by_cases hj : k = j
  · subst hj
    rw [List.getElem?_set_self hlt] at h
    cases h
    exact h1 0 _ rfl
  · rw [List.getElem?_set_ne hj] at h
    refine (hP j q h).kept (hc q.1 (hP j q h).lt ?_)
    rintro (⟨i, e, hi⟩ | z)
    · match i, hi with
      | 0, hi =>
        have hx : (a, e0) = (q.1, e) := by simpa using hi
        exact hj (hD.1 k j _ q hk h (by rw [hx]))
      | i + 1, hi => simp at hi
    · exact absurd (hP j q h).lt (Nat.not_lt.mpr z)
section JC
variable {p : Program} {l : Launch} {e : Env} {R : Room} {s : State} {m : MethodId} {args : Array Value} {below : List Frame} {meth : Method} {c : Code} {H : Heap} {locs : List Loc} {cells slots : Nat} {Q : State → Prop}
variable {pc : Nat} {ls : Array Slot} {rest st0 : List Value} {a : Array Value} {A0 : Nat → Prop} {H0 : Heap} {mc ms : Nat} {D : va_G} {ws w1 : va_W} {t1 : List (ClassId × FieldType)}
theorem jc_i {post : Int32 → Unit → Prop} (hr : va_Run p l e R s m args below meth c H locs cells slots mc ms (F0 m pc ls st0) rest (va_Qi post (fun _ _ => True) (va_A [] H.size) a) (va_A [] H.size)) (hP : va_P D vwCl ws H) (hS : va_S A0 H0 H locs) (hA : ∀ q, H0.size ≤ q → A0 q)
    (kk : ∀ (r : Int32) (H1 : Heap) (locs1 : List Loc), post r () → va_P D vwCl ws H1 → va_S A0 H0 H1 locs1 → W p l e R s m args below meth c H1 locs1 (cells + mc) (slots + ms) Q (F0 m (pc + 3) ls (.int r :: rest))) : W p l e R s m args below meth c H locs cells slots Q (F0 m pc ls st0) :=
  va_calli hr hS (fun q _ h => ja_nil hS hA q h) (ja_nil hS hA) (fun r _ _ H1 locs1 _ _ hw _ _ hk hS1 => kk r H1 locs1 hw (jp_keep hP hk) hS1)
theorem jc_v {post : Unit → Prop} (hr : va_Run p l e R s m args below meth c H locs cells slots mc ms (F0 m pc ls st0) rest (va_Qv post (fun _ _ => True) (va_A [] H.size) a) (va_A [] H.size)) (hP : va_P D vwCl ws H) (hS : va_S A0 H0 H locs) (hA : ∀ q, H0.size ≤ q → A0 q)
    (kk : ∀ (H1 : Heap) (locs1 : List Loc), post () → va_P D vwCl ws H1 → va_S A0 H0 H1 locs1 → W p l e R s m args below meth c H1 locs1 (cells + mc) (slots + ms) Q (F0 m (pc + 3) ls rest)) : W p l e R s m args below meth c H locs cells slots Q (F0 m pc ls st0) :=
  va_callv hr hS (fun q _ h => ja_nil hS hA q h) (ja_nil hS hA) (fun _ _ H1 locs1 _ _ hw _ _ hk hS1 => kk H1 locs1 hw (jp_keep hP hk) hS1)
theorem jc_q {post : Option Nat → Unit → Prop} (hr : va_Run p l e R s m args below meth c H locs cells slots mc ms (F0 m pc ls st0) rest (va_Qq post (fun _ _ => True) (va_A [] H.size) a) (va_A [] H.size)) (hP : va_P D vwCl ws H) (hS : va_S A0 H0 H locs) (hA : ∀ q, H0.size ≤ q → A0 q)
    (kk : ∀ (r : Option Nat) (H1 : Heap) (locs1 : List Loc), post r () → va_P D vwCl ws H1 → va_S A0 H0 H1 locs1 → W p l e R s m args below meth c H1 locs1 (cells + mc) (slots + ms) Q (F0 m (pc + 3) ls (va_rf r :: rest))) : W p l e R s m args below meth c H locs cells slots Q (F0 m pc ls st0) :=
  va_callq hr hS (fun q _ h => ja_nil hS hA q h) (ja_nil hS hA) (fun r _ _ H1 locs1 _ _ hw _ _ hk hS1 => kk r H1 locs1 hw (jp_keep hP hk) hS1)
theorem jcw_i {post : Int32 → Unit → Prop} (hr : va_Run p l e R s m args below meth c H locs cells slots mc ms (F0 m pc ls st0) rest (va_Qi post (fun _ t => va_P D vwCl w1 t.heap ∧ va_K D vwCl t1 t ∧ va_D (va_A ws H.size) w1) (va_A ws H.size) a) (va_A ws H.size)) (hD : va_D A0 ws) (hS : va_S A0 H0 H locs) (hA : ∀ q, H0.size ≤ q → A0 q)
    (kk : ∀ (r : Int32) (H1 : Heap) (locs1 : List Loc), post r () → va_P D vwCl w1 H1 → va_K D vwCl t1 s → va_D A0 w1 → va_S A0 H0 H1 locs1 → W p l e R s m args below meth c H1 locs1 (cells + mc) (slots + ms) Q (F0 m (pc + 3) ls (.int r :: rest))) : W p l e R s m args below meth c H locs cells slots Q (F0 m pc ls st0) :=
  va_calli hr hS (fun q _ h => ja_all hD hS hA q h) (ja_all hD hS hA) (fun r _ _ H1 locs1 ht hvm hw hB _ _ hS1 => kk r H1 locs1 hw (by rw [← ht]; exact hB.1) (va_K.moved hvm.symm hB.2.1) (hB.2.2.weaken (fun k q h z => ja_all hD hS hA q.1 z)) hS1)
theorem jcw_v {post : Unit → Prop} (hr : va_Run p l e R s m args below meth c H locs cells slots mc ms (F0 m pc ls st0) rest (va_Qv post (fun _ t => va_P D vwCl w1 t.heap ∧ va_K D vwCl t1 t ∧ va_D (va_A ws H.size) w1) (va_A ws H.size) a) (va_A ws H.size)) (hD : va_D A0 ws) (hS : va_S A0 H0 H locs) (hA : ∀ q, H0.size ≤ q → A0 q)
    (kk : ∀ (H1 : Heap) (locs1 : List Loc), post () → va_P D vwCl w1 H1 → va_K D vwCl t1 s → va_D A0 w1 → va_S A0 H0 H1 locs1 → W p l e R s m args below meth c H1 locs1 (cells + mc) (slots + ms) Q (F0 m (pc + 3) ls rest)) : W p l e R s m args below meth c H locs cells slots Q (F0 m pc ls st0) :=
  va_callv hr hS (fun q _ h => ja_all hD hS hA q h) (ja_all hD hS hA) (fun _ _ H1 locs1 ht hvm hw hB _ _ hS1 => kk H1 locs1 hw (by rw [← ht]; exact hB.1) (va_K.moved hvm.symm hB.2.1) (hB.2.2.weaken (fun k q h z => ja_all hD hS hA q.1 z)) hS1)
theorem jc1_v {a0 k : Nat} {e0 e1 : va_E} {tt : List (ClassId × FieldType)} {post : Unit → Prop} (hr : va_Run p l e R s m args below meth c H locs cells slots mc ms (F0 m pc ls st0) rest (va_Qv post (fun _ t => va_P D vwCl [(a0, e1)] t.heap ∧ va_K D vwCl tt t ∧ va_D (va_A [(a0, e0)] H.size) [(a0, e1)]) (va_A [(a0, e0)] H.size) a) (va_A [(a0, e0)] H.size)) (hP : va_P D vwCl ws H) (hD : va_D A0 ws) (hk : ws[k]? = some (a0, e0)) (hS : va_S A0 H0 H locs) (hA : ∀ q, H0.size ≤ q → A0 q)
    (kk : ∀ (H1 : Heap) (locs1 : List Loc), va_P D vwCl (ws.set k (a0, e1)) H1 → va_D A0 (ws.set k (a0, e1)) → va_S A0 H0 H1 locs1 → W p l e R s m args below meth c H1 locs1 (cells + mc) (slots + ms) Q (F0 m (pc + 3) ls rest)) : W p l e R s m args below meth c H locs cells slots Q (F0 m pc ls st0) :=
  va_callv hr hS (fun q _ h => ja_all (jd_at hD k hk) hS hA q h) (ja_all (jd_at hD k hk) hS hA) (fun _ t H1 locs1 ht _ _ hB _ hc hS1 =>
    kk H1 locs1 (jp_set hP hD hk hc (by rw [← ht]; exact hB.1)) (hD.set hk) hS1)
theorem jcl_v {S : Type} {w0 wx : va_W} {wf : S → va_W} {tt : S → List (ClassId × FieldType)} {post : S → Prop} (hr : va_Run p l e R s m args below meth c H locs cells slots mc ms (F0 m pc ls st0) rest (va_Qv post (fun u t => va_P D vwCl (wf u) t.heap ∧ va_K D vwCl (tt u) t ∧ va_D (va_A wx H.size) (wf u)) (va_A wx H.size) a) (va_A wx H.size)) (hP : va_P D vwCl (w0 ++ wx) H) (hD : va_D A0 (w0 ++ wx)) (hS : va_S A0 H0 H locs) (hA : ∀ q, H0.size ≤ q → A0 q)
    (kk : ∀ (u : S) (H1 : Heap) (locs1 : List Loc), va_P D vwCl (w0 ++ wf u) H1 → va_D A0 (w0 ++ wf u) → va_S A0 H0 H1 locs1 → W p l e R s m args below meth c H1 locs1 (cells + mc) (slots + ms) Q (F0 m (pc + 3) ls rest)) : W p l e R s m args below meth c H locs cells slots Q (F0 m pc ls st0) :=
  va_callv hr hS (fun q _ h => ja_all (jd_tail hD) hS hA q h) (ja_all (jd_tail hD) hS hA) (fun u t H1 locs1 ht hvm _ hB _ hk hS1 => by
    have hj := jj_tail hP hD (ja_all (jd_tail hD) hS hA) hk (by rw [← ht]; exact hB.1) hB.2.2
    exact kk u H1 locs1 hj.1 hj.2 hS1)
theorem jcg_i {S : Type} {wf : S → va_W} {tf : S → List (ClassId × FieldType)} {post : Int32 → S → Prop} (hr : va_Run p l e R s m args below meth c H locs cells slots mc ms (F0 m pc ls st0) rest (va_Qi post (fun u t => va_P D vwCl (wf u) t.heap ∧ va_K D vwCl (tf u) t ∧ va_D (va_A ws H.size) (wf u)) (va_A ws H.size) a) (va_A ws H.size)) (hD : va_D A0 ws) (hS : va_S A0 H0 H locs) (hA : ∀ q, H0.size ≤ q → A0 q)
    (kk : ∀ (r : Int32) (u : S) (H1 : Heap) (locs1 : List Loc), post r u → va_P D vwCl (wf u) H1 → va_K D vwCl (tf u) s → va_D A0 (wf u) → va_S A0 H0 H1 locs1 → W p l e R s m args below meth c H1 locs1 (cells + mc) (slots + ms) Q (F0 m (pc + 3) ls (.int r :: rest))) : W p l e R s m args below meth c H locs cells slots Q (F0 m pc ls st0) :=
  va_calli hr hS (fun q _ h => ja_all hD hS hA q h) (ja_all hD hS hA) (fun r u _ H1 locs1 ht hvm hw hB _ _ hS1 => kk r u H1 locs1 hw (by rw [← ht]; exact hB.1) (va_K.moved hvm.symm hB.2.1) (hB.2.2.weaken (fun k q h z => ja_all hD hS hA q.1 z)) hS1)
theorem jcg_v {S : Type} {wf : S → va_W} {tf : S → List (ClassId × FieldType)} {post : S → Prop} (hr : va_Run p l e R s m args below meth c H locs cells slots mc ms (F0 m pc ls st0) rest (va_Qv post (fun u t => va_P D vwCl (wf u) t.heap ∧ va_K D vwCl (tf u) t ∧ va_D (va_A ws H.size) (wf u)) (va_A ws H.size) a) (va_A ws H.size)) (hD : va_D A0 ws) (hS : va_S A0 H0 H locs) (hA : ∀ q, H0.size ≤ q → A0 q)
    (kk : ∀ (u : S) (H1 : Heap) (locs1 : List Loc), post u → va_P D vwCl (wf u) H1 → va_K D vwCl (tf u) s → va_D A0 (wf u) → va_S A0 H0 H1 locs1 → W p l e R s m args below meth c H1 locs1 (cells + mc) (slots + ms) Q (F0 m (pc + 3) ls rest)) : W p l e R s m args below meth c H locs cells slots Q (F0 m pc ls st0) :=
  va_callv hr hS (fun q _ h => ja_all hD hS hA q h) (ja_all hD hS hA) (fun u _ H1 locs1 ht hvm hw hB _ _ hS1 => kk u H1 locs1 hw (by rw [← ht]; exact hB.1) (va_K.moved hvm.symm hB.2.1) (hB.2.2.weaken (fun k q h z => ja_all hD hS hA q.1 z)) hS1)
theorem jcg_q {S : Type} {wf : S → va_W} {tf : S → List (ClassId × FieldType)} {post : Option Nat → S → Prop} (hr : va_Run p l e R s m args below meth c H locs cells slots mc ms (F0 m pc ls st0) rest (va_Qq post (fun u t => va_P D vwCl (wf u) t.heap ∧ va_K D vwCl (tf u) t ∧ va_D (va_A ws H.size) (wf u)) (va_A ws H.size) a) (va_A ws H.size)) (hD : va_D A0 ws) (hS : va_S A0 H0 H locs) (hA : ∀ q, H0.size ≤ q → A0 q)
    (kk : ∀ (r : Option Nat) (u : S) (H1 : Heap) (locs1 : List Loc), post r u → va_P D vwCl (wf u) H1 → va_K D vwCl (tf u) s → va_D A0 (wf u) → va_S A0 H0 H1 locs1 → W p l e R s m args below meth c H1 locs1 (cells + mc) (slots + ms) Q (F0 m (pc + 3) ls (va_rf r :: rest))) : W p l e R s m args below meth c H locs cells slots Q (F0 m pc ls st0) :=
  va_callq hr hS (fun q _ h => ja_all hD hS hA q h) (ja_all hD hS hA) (fun r u _ H1 locs1 ht hvm hw hB _ _ hS1 => kk r u H1 locs1 hw (by rw [← ht]; exact hB.1) (va_K.moved hvm.symm hB.2.1) (hB.2.2.weaken (fun k q h z => ja_all hD hS hA q.1 z)) hS1)
theorem jci_v {S : Type} {w0 : va_W} {x : Nat × va_E} {wf : S → va_W} {tf : S → List (ClassId × FieldType)} {post : S → Prop} (hr : va_Run p l e R s m args below meth c H locs cells slots mc ms (F0 m pc ls st0) rest (va_Qv post (fun u t => va_P D vwCl (wf u) t.heap ∧ va_K D vwCl (tf u) t ∧ va_D (va_A [x] H.size) (wf u)) (va_A [x] H.size) a) (va_A [x] H.size)) (hP : va_P D vwCl (w0 ++ [x]) H) (hD : va_D A0 (w0 ++ [x])) (hS : va_S A0 H0 H locs) (hA : ∀ q, H0.size ≤ q → A0 q)
    (kk : ∀ (u : S) (H1 : Heap) (locs1 : List Loc), va_P D vwCl (w0 ++ wf u) H1 → va_K D vwCl (tf u) s → va_D A0 (w0 ++ wf u) → va_S A0 H0 H1 locs1 → W p l e R s m args below meth c H1 locs1 (cells + mc) (slots + ms) Q (F0 m (pc + 3) ls rest)) : W p l e R s m args below meth c H locs cells slots Q (F0 m pc ls st0) :=
  va_callv hr hS (fun q _ h => ja_last hD hS hA q h) (ja_last hD hS hA) (fun u t H1 locs1 ht hvm _ hB _ hk hS1 => by
    have hj := jj_last hP hD (ja_last hD hS hA) hk (by rw [← ht]; exact hB.1) hB.2.2
    exact kk u H1 locs1 hj.1 (va_K.moved hvm.symm hB.2.1) hj.2 hS1)
/-- the top of the stack, told anew -/
theorem jt_i {x : Int32} (v : Int32) (h : x = v) (k : W p l e R s m args below meth c H locs cells slots Q (F0 m pc ls (.int v :: rest))) : W p l e R s m args below meth c H locs cells slots Q (F0 m pc ls (.int x :: rest)) := h ▸ k
theorem jt_l {x : Int64} (v : Int64) (h : x = v) (k : W p l e R s m args below meth c H locs cells slots Q (F0 m pc ls (.long v :: rest))) : W p l e R s m args below meth c H locs cells slots Q (F0 m pc ls (.long x :: rest)) := h ▸ k
theorem jt_q {x : Value} (v : Value) (h : x = v) (k : W p l e R s m args below meth c H locs cells slots Q (F0 m pc ls (v :: rest))) : W p l e R s m args below meth c H locs cells slots Q (F0 m pc ls (x :: rest)) := h ▸ k
theorem jtab_in {cc : ByteArray} (hexec : p.tables.exec = Jvm.exec) (hb : c.code = cc) {dflt lo hi : Int} {offs : Array Int} {len : Nat} {x v : Int32} {off : Int} {tgt : Nat} (hdg : decode cc pc = .ok (.tableswitch dflt lo hi offs, len)) (hxv : x = v) (h1 : ¬ v.toInt < lo) (h2 : ¬ hi < v.toInt) (ho : offs[(v.toInt - lo).toNat]? = some off) (ht : (pc : Int) + off = (tgt : Int))
    (k : W p l e R s m args below meth c H locs cells slots Q (F0 m tgt ls rest)) : W p l e R s m args below meth c H locs cells slots Q (F0 m pc ls (.int x :: rest)) := by
  subst hxv
  exact lv_tableIn hexec hb hdg h1 h2 ho ht k
end JC
theorem ji_lt {a b : Int32} : a < b ↔ a.toInt < b.toInt := Int32.lt_iff_toInt_lt
theorem ji_le {a b : Int32} : a ≤ b ↔ a.toInt ≤ b.toInt := Int32.le_iff_toInt_le
theorem ji_eq {a b : Int32} : a = b ↔ a.toInt = b.toInt := ⟨fun h => by rw [h], fun h => Int32.toInt_inj.mp h⟩
theorem jb_lt {x h c : Int32} (a : x ≤ h) (k : h < c) : x < c := by rw [ji_lt, ji_le] at *; omega
theorem jb_nlt {x l c : Int32} (a : l ≤ x) (k : c ≤ l) : ¬ x < c := by rw [ji_lt]; rw [ji_le] at a k; omega
theorem jb_ge {x l c : Int32} (a : l ≤ x) (k : c ≤ l) : c ≤ x := by rw [ji_le] at *; omega
theorem jb_nge {x h c : Int32} (a : x ≤ h) (k : h < c) : ¬ c ≤ x := by rw [ji_le] at a ⊢; rw [ji_lt] at k; omega
theorem jb_gt {x l c : Int32} (a : l ≤ x) (k : c < l) : c < x := by rw [ji_lt] at k ⊢; rw [ji_le] at a; omega
theorem jb_ngt {x h c : Int32} (a : x ≤ h) (k : h ≤ c) : ¬ c < x := by rw [ji_lt]; rw [ji_le] at a k; omega
theorem jb_le {x h c : Int32} (a : x ≤ h) (k : h ≤ c) : x ≤ c := by rw [ji_le] at *; omega
theorem jb_nle {x l c : Int32} (a : l ≤ x) (k : c < l) : ¬ x ≤ c := by rw [ji_le] at a ⊢; rw [ji_lt] at k; omega
theorem jb_ne1 {x h c : Int32} (a : x ≤ h) (k : h < c) : ¬ x = c := by rintro rfl; rw [ji_le] at a; rw [ji_lt] at k; omega
theorem jb_ne2 {x l c : Int32} (a : l ≤ x) (k : c < l) : ¬ x = c := by rintro rfl; rw [ji_le] at a; rw [ji_lt] at k; omega
theorem jl_lt {x c d : Int32} (a : x < c) (k : c.toInt ≤ d.toInt + 1) : x ≤ d := by rw [ji_lt] at a; rw [ji_le]; omega
theorem jl_nlt {x c : Int32} (a : ¬ x < c) : c ≤ x := by rw [ji_lt] at a; rw [ji_le]; omega
theorem jl_nge {x c d : Int32} (a : ¬ c ≤ x) (k : c.toInt ≤ d.toInt + 1) : x ≤ d := by rw [ji_le] at *; omega
theorem jl_gt {x c d : Int32} (a : c < x) (k : d.toInt ≤ c.toInt + 1) : d ≤ x := by rw [ji_lt] at a; rw [ji_le]; omega
theorem jl_ngt {x c : Int32} (a : ¬ c < x) : x ≤ c := by rw [ji_lt] at a; rw [ji_le]; omega
theorem jl_nle {x c d : Int32} (a : ¬ x ≤ c) (k : d.toInt ≤ c.toInt + 1) : d ≤ x := by rw [ji_le] at *; omega
theorem jl_eq1 {x c : Int32} (a : x = c) : c ≤ x := by rw [ji_le, a]; omega
theorem jl_eq2 {x c : Int32} (a : x = c) : x ≤ c := by rw [ji_le, a]; omega
theorem jb_in {x l h : Int32} {n : Nat} (a : l ≤ x) (b : x ≤ h) (k : 0 ≤ l.toInt) (k2 : h.toInt < n) : vp_in x n := vp_in_iff.mpr (by rw [ji_le] at a b; omega)
theorem jsw_0_8 (x : Int32) : (x.toInt < 0 ∨ 8 < x.toInt) ∨ x = 0 ∨ x = 1 ∨ x = 2 ∨ x = 3 ∨ x = 4 ∨ x = 5 ∨ x = 6 ∨ x = 7 ∨ x = 8 := by
  have h : (x.toInt < 0 ∨ 8 < x.toInt) ∨ x.toInt = 0 ∨ x.toInt = 1 ∨ x.toInt = 2 ∨ x.toInt = 3 ∨ x.toInt = 4 ∨ x.toInt = 5 ∨ x.toInt = 6 ∨ x.toInt = 7 ∨ x.toInt = 8 := by omega
  rcases h with h | h | h | h | h | h | h | h | h | h
  · exact Or.inl h
  · exact (Or.inr (Or.inl (ji_eq.mpr h)))
  · exact (Or.inr (Or.inr (Or.inl (ji_eq.mpr h))))
  · exact (Or.inr (Or.inr (Or.inr (Or.inl (ji_eq.mpr h)))))
  · exact (Or.inr (Or.inr (Or.inr (Or.inr (Or.inl (ji_eq.mpr h))))))
  · exact (Or.inr (Or.inr (Or.inr (Or.inr (Or.inr (Or.inl (ji_eq.mpr h)))))))
  · exact (Or.inr (Or.inr (Or.inr (Or.inr (Or.inr (Or.inr (Or.inl (ji_eq.mpr h))))))))
  · exact (Or.inr (Or.inr (Or.inr (Or.inr (Or.inr (Or.inr (Or.inr (Or.inl (ji_eq.mpr h)))))))))
  · exact (Or.inr (Or.inr (Or.inr (Or.inr (Or.inr (Or.inr (Or.inr (Or.inr (Or.inl (ji_eq.mpr h))))))))))
  · exact (Or.inr (Or.inr (Or.inr (Or.inr (Or.inr (Or.inr (Or.inr (Or.inr (Or.inr (ji_eq.mpr h))))))))))
theorem jsw_0_5 (x : Int32) : (x.toInt < 0 ∨ 5 < x.toInt) ∨ x = 0 ∨ x = 1 ∨ x = 2 ∨ x = 3 ∨ x = 4 ∨ x = 5 := by
  have h : (x.toInt < 0 ∨ 5 < x.toInt) ∨ x.toInt = 0 ∨ x.toInt = 1 ∨ x.toInt = 2 ∨ x.toInt = 3 ∨ x.toInt = 4 ∨ x.toInt = 5 := by omega
  rcases h with h | h | h | h | h | h | h
  · exact Or.inl h
  · exact (Or.inr (Or.inl (ji_eq.mpr h)))
  · exact (Or.inr (Or.inr (Or.inl (ji_eq.mpr h))))
  · exact (Or.inr (Or.inr (Or.inr (Or.inl (ji_eq.mpr h)))))
  · exact (Or.inr (Or.inr (Or.inr (Or.inr (Or.inl (ji_eq.mpr h))))))
  · exact (Or.inr (Or.inr (Or.inr (Or.inr (Or.inr (Or.inl (ji_eq.mpr h)))))))
  · exact (Or.inr (Or.inr (Or.inr (Or.inr (Or.inr (Or.inr (ji_eq.mpr h)))))))
def jfill (f : Nat → Int32) (n : Nat) (v : Int32) : Nat → Int32 := fun k => if k < n then v else f k
theorem jfill_at {f : Nat → Int32} {n : Nat} {v x l h : Int32} (a : l ≤ x) (b : x ≤ h) (k : 0 ≤ l.toInt) (k2 : h.toInt < n) : jfill f n v x.toNatClampNeg = v := by
  have hx : x.toNatClampNeg < n := by
    have := jb_in a b k k2
    exact Nat.not_le.mp fun z => this (Or.inr z)
  simp [jfill, hx]
theorem jfill_0 (f : Nat → Int32) (v : Int32) : jfill f 0 v = f := by funext k; simp [jfill]
theorem jfill_s (f : Nat → Int32) (n : Nat) (v : Int32) : upd (jfill f n v) n v = jfill f (n + 1) v := by
  funext k
  by_cases h : k = n
  · subst h; simp [upd, jfill]
  · by_cases h2 : k < n
    · simp [upd, jfill, h, h2, Nat.lt_succ_of_lt h2]
    · have h3 : ¬ k < n + 1 := by omega
      simp [upd, jfill, h, h2, h3]
theorem j0_div (y : Int32) : (0 : Int32) / y = 0 := Int32.zero_div
theorem j0_rem (y : Int32) : (0 : Int32) - 0 / y * y = 0 := by rw [j0_div, Int32.zero_mul, Int32.sub_zero]
theorem jx_no {x l h : Int32} (a : l ≤ x) (b : x ≤ h) (k : h < l) : False := by rw [ji_le] at a b; rw [ji_lt] at k; omega
theorem jbit {k : Nat} (hk : k < 4096) (s : Int32) (j : Nat) (hs : (s.toBitVec.smod 32).toNat = j) (h : (nI k >>> s) &&& 1 = 0) : k / 2 ^ j % 2 = 0 := by
  rw [pk_shrN (by omega) s j hs, pk_andN (n := k / 2 ^ j) (by have := Nat.div_le_self k (2 ^ j); omega) (m := 1) 1 (by decide)] at h
  have h2 := (nI_eq (a := k / 2 ^ j % 2 ^ 1) (b := 0) (by omega) (by omega)).mp (by rw [h]; rfl)
  simpa using h2
theorem jhf_0 {k : Nat} (h : k < 2) (c : k / 2 ^ 0 % 2 = 0) : k < 1 := by
  rw [show (2 : Nat) ^ 0 = 1 from rfl] at c; omega
theorem jhf_1 {k : Nat} (h : k < 4) (c : k / 2 ^ 1 % 2 = 0) : k < 2 := by
  rw [show (2 : Nat) ^ 1 = 2 from rfl] at c; omega
theorem jhf_2 {k : Nat} (h : k < 8) (c : k / 2 ^ 2 % 2 = 0) : k < 4 := by
  rw [show (2 : Nat) ^ 2 = 4 from rfl] at c; omega
theorem jhf_3 {k : Nat} (h : k < 16) (c : k / 2 ^ 3 % 2 = 0) : k < 8 := by
  rw [show (2 : Nat) ^ 3 = 8 from rfl] at c; omega
theorem jhf_4 {k : Nat} (h : k < 32) (c : k / 2 ^ 4 % 2 = 0) : k < 16 := by
  rw [show (2 : Nat) ^ 4 = 16 from rfl] at c; omega
theorem jhf_5 {k : Nat} (h : k < 64) (c : k / 2 ^ 5 % 2 = 0) : k < 32 := by
  rw [show (2 : Nat) ^ 5 = 32 from rfl] at c; omega
theorem jhf_6 {k : Nat} (h : k < 128) (c : k / 2 ^ 6 % 2 = 0) : k < 64 := by
  rw [show (2 : Nat) ^ 6 = 64 from rfl] at c; omega
theorem jhf_7 {k : Nat} (h : k < 256) (c : k / 2 ^ 7 % 2 = 0) : k < 128 := by
  rw [show (2 : Nat) ^ 7 = 128 from rfl] at c; omega
theorem jhf_8 {k : Nat} (h : k < 512) (c : k / 2 ^ 8 % 2 = 0) : k < 256 := by
  rw [show (2 : Nat) ^ 8 = 256 from rfl] at c; omega
theorem jhf_9 {k : Nat} (h : k < 1024) (c : k / 2 ^ 9 % 2 = 0) : k < 512 := by
  rw [show (2 : Nat) ^ 9 = 512 from rfl] at c; omega
theorem jhf_10 {k : Nat} (h : k < 2048) (c : k / 2 ^ 10 % 2 = 0) : k < 1024 := by
  rw [show (2 : Nat) ^ 10 = 1024 from rfl] at c; omega
theorem jhf_11 {k : Nat} (h : k < 4096) (c : k / 2 ^ 11 % 2 = 0) : k < 2048 := by
  rw [show (2 : Nat) ^ 11 = 2048 from rfl] at c; omega
theorem jbits12 {p : Int32} (l : 1 ≤ p) (h : p ≤ 4095) (b0 : (p >>> (0 &&& 31)) &&& 1 = 0) (b1 : (p >>> (1 &&& 31)) &&& 1 = 0) (b2 : (p >>> (2 &&& 31)) &&& 1 = 0) (b3 : (p >>> (3 &&& 31)) &&& 1 = 0) (b4 : (p >>> (4 &&& 31)) &&& 1 = 0) (b5 : (p >>> (5 &&& 31)) &&& 1 = 0) (b6 : (p >>> (6 &&& 31)) &&& 1 = 0) (b7 : (p >>> (7 &&& 31)) &&& 1 = 0) (b8 : (p >>> (8 &&& 31)) &&& 1 = 0) (b9 : (p >>> (9 &&& 31)) &&& 1 = 0) (b10 : (p >>> (10 &&& 31)) &&& 1 = 0) (b11 : (p >>> (11 &&& 31)) &&& 1 = 0) : False := by
  obtain ⟨k, hk, rfl⟩ := nI_of (x := p) (by rw [ji_le] at l; rw [ji_lt]; have : (1 : Int32).toInt = 1 := rfl; have : (0 : Int32).toInt = 0 := rfl; omega)
  have l1 : 1 ≤ (nI k).toInt := ji_le.mp l
  have h1 : (nI k).toInt ≤ 4095 := ji_le.mp h
  rw [nI_toInt hk] at l1 h1
  have hk2 : k < 4096 := by omega
  have d11 : k < 2048 := jhf_11 hk2 (jbit hk2 _ 11 (by decide) b11)
  have d10 : k < 1024 := jhf_10 d11 (jbit hk2 _ 10 (by decide) b10)
  have d9 : k < 512 := jhf_9 d10 (jbit hk2 _ 9 (by decide) b9)
  have d8 : k < 256 := jhf_8 d9 (jbit hk2 _ 8 (by decide) b8)
  have d7 : k < 128 := jhf_7 d8 (jbit hk2 _ 7 (by decide) b7)
  have d6 : k < 64 := jhf_6 d7 (jbit hk2 _ 6 (by decide) b6)
  have d5 : k < 32 := jhf_5 d6 (jbit hk2 _ 5 (by decide) b5)
  have d4 : k < 16 := jhf_4 d5 (jbit hk2 _ 4 (by decide) b4)
  have d3 : k < 8 := jhf_3 d4 (jbit hk2 _ 3 (by decide) b3)
  have d2 : k < 4 := jhf_2 d3 (jbit hk2 _ 2 (by decide) b2)
  have d1 : k < 2 := jhf_1 d2 (jbit hk2 _ 1 (by decide) b1)
  have d0 : k < 1 := jhf_0 d1 (jbit hk2 _ 0 (by decide) b0)
  omega
theorem jfits_int (cA : ClassId) (n : Nat) (f : Nat → Int32) : ∀ (i : Nat) (v : Value), (vp_cell cA (n, .inl f)).slots[i]? = some v → fits .int v = true := by
  intro i v h
  have h2 := Array.getElem?_eq_some_iff.mp h
  obtain ⟨h3, h4⟩ := h2
  simp [vp_cell, arrV] at h4
  rw [← h4]; rfl

