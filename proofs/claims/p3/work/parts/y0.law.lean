/-! THE CLAIM OUT OF ONE WALK OF THE LAW'S BODY. Your part is whole_start (and what it stands on); all else here is the same for every law, but numbers. -/
def R_law : String := "BookOfAllLaw"
def lw_P (b : Addr) (xs : List Int32) (args : Array Value) (s : State) : Prop := args = #[.ref b] ∧ s.IntsAt b xs ∧ xs.length ≤ 3072 ∧ (Jvm.Cond.and given_1 narrow_1).before args s = true
def lw_Q (_ : Array Value) (s : State) (o : Outcome) (t : State) : Prop := o = .returned (some (.int 1)) ∧ Framed s o t [] 600000 7302250
def lw_Z (below : List Frame) (a : Array Value) (s : State) : State → Prop := fun t => ∃ o, t.status = .running ∧ Ended t below o ∧ lw_Q a s o t
/-- the law's own end, with 1 on the stack, nothing written that was there before, its room as the claim has it -/
theorem lw_ret {p : Program} {l : Launch} {e : Env} {s : State} {m : MethodId} {below : List Frame} {meth : Method} {c : Code} {b : Nat} (hx : p.tables.exec = Jvm.exec) (hb : c.code = code) (hr : meth.sig.returnType = ret) (hlocks : meth.locks = false) {pc : Nat} {H : Heap} {ls : Array Slot} (hdg : decode code pc = .ok (.ireturn, 1)) : W p l e room_1 s m #[Value.ref b] below meth c H [] 600000 7302250 (lw_Z below #[Value.ref b] s) (F0 m pc ls [.int 1]) := by
  intro T hT X
  obtain ⟨fs, hret, hrun, hended, hW, hframe⟩ := X.leave (v := some (.int 1)) (hlocks := hlocks) (fun h => by rw [hr] at h; cases h)
  have hmeth' : T.vm.method? m = some meth := X.method'
  refine ⟨T.setFrames fs, ?_, .returned (some (.int 1)), hrun, hended, rfl, ⟨_, rfl⟩, hW, hframe⟩
  jvm_step X.here [X.here.top, hx, hb, hdg, hmeth', hr, ret, narrow_b1]
  (try refine ⟨rfl, ?_⟩); (try refine ⟨rfl, ?_⟩)
  first | (intro acts; rw [hret _ acts rfl rfl rfl]) | rw [hret _ _ rfl rfl rfl]
  exact Steps.refl _
/-- what holds at the law's entry: the machine, the code, the tables' words (any of lw_tbl by 'hts w (by decide +kernel)'), the script of L ints xs at the cell b, what the Statement gives of the start (any of its parts by flat_of_before) -/
def lw_At (p : Program) (s : State) (m : MethodId) (meth : Method) (c : Code) (b L : Nat) (xs : Nat → Int32) : Prop :=
  p.tables.exec = Jvm.exec ∧ c.code = code ∧ meth.sig.returnType = ret ∧ c.maxLocals = 4 ∧ s.vm.findClass R_law = some m.cls ∧ (∀ w ∈ lw_tbl, w.before #[Value.ref b] s = true) ∧ va_X b L xs s s.heap ∧ b < s.heap.size ∧ meth.locks = false ∧ (Jvm.Cond.and given_1 narrow_1).before #[Value.ref b] s = true
theorem m0_sh : rSh m0g m0a := ⟨fun k h0 h1 => absurd h1 (by show ¬ k < 0; omega), fun s c h0 h1 => absurd h1 (by show ¬ s < 0; omega)⟩
/-- what only we look into -/
def oF (p q : Prop) : Prop := p ∨ q
theorem oF.resolve_left {p q : Prop} (h : oF p q) (n : ¬ p) : q := Or.resolve_left h n
def iF (p q : Prop) : Prop := p → q
theorem lsw {D : va_G} {A : Nat → Prop} {x y : va_W} {H : Heap} (hP : va_P D vwCl (x ++ y) H) (hD : va_D A (x ++ y)) : va_P D vwCl (y ++ x) H ∧ va_D A (y ++ x) :=
  ⟨by simpa using va_P.swap (a := []) (b := x) (c := y) (by simpa using hP), by simpa using va_D.swap (a := []) (b := x) (c := y) (by simpa using hD)⟩
theorem xvp {t : Int} {n : Nat} (h0 : 0 ≤ t) (h1 : t < n) (hn : n ≤ 3072) : vp_in (iI t) n := vp_in_iff.mpr (by rw [iI_toInt ⟨by omega, by omega⟩]; exact ⟨h0, h1⟩)
theorem nI_iI (n : Nat) : Int32.ofNat n = iI (n : Int) := rfl
section JL
variable {p : Program} {l : Launch} {e : Env} {R : Room} {s : State} {m : MethodId} {args : Array Value} {below : List Frame} {meth : Method} {c : Code} {H : Heap} {locs : List Loc} {cells slots : Nat} {Q : State → Prop}
variable {pc : Nat} {ls : Array Slot} {rest st0 : List Value} {a : Array Value} {A0 : Nat → Prop} {H0 : Heap} {mc ms : Nat} {D : va_G} {w0 wx : va_W}
theorem jct_i {S : Type} {wf : S → va_W} {tf : S → List (ClassId × FieldType)} {post : Int32 → S → Prop} (hr : va_Run p l e R s m args below meth c H locs cells slots mc ms (F0 m pc ls st0) rest (va_Qi post (fun u t => va_P D vwCl (wf u) t.heap ∧ va_K D vwCl (tf u) t ∧ va_D (va_A wx H.size) (wf u)) (va_A wx H.size) a) (va_A wx H.size)) (hP : va_P D vwCl (w0 ++ wx) H) (hD : va_D A0 (w0 ++ wx)) (hS : va_S A0 H0 H locs) (hA : ∀ q, H0.size ≤ q → A0 q)
    (kk : ∀ (r : Int32) (u : S) (H1 : Heap) (locs1 : List Loc), post r u → va_P D vwCl (w0 ++ wf u) H1 → va_K D vwCl (tf u) s → va_D A0 (w0 ++ wf u) → va_S A0 H0 H1 locs1 → W p l e R s m args below meth c H1 locs1 (cells + mc) (slots + ms) Q (F0 m (pc + 3) ls (.int r :: rest))) : W p l e R s m args below meth c H locs cells slots Q (F0 m pc ls st0) :=
  va_calli hr hS (fun q _ h => ja_all (jd_tail hD) hS hA q h) (ja_all (jd_tail hD) hS hA) (fun r u _ H1 locs1 ht hvm hw hB _ hk hS1 => by
    have hj := jj_tail hP hD (ja_all (jd_tail hD) hS hA) hk (by rw [← ht]; exact hB.1) hB.2.2
    exact kk r u H1 locs1 hw hj.1 (va_K.moved hvm.symm hB.2.1) hj.2 hS1)
theorem jct_v {S : Type} {wf : S → va_W} {tf : S → List (ClassId × FieldType)} {post : S → Prop} (hr : va_Run p l e R s m args below meth c H locs cells slots mc ms (F0 m pc ls st0) rest (va_Qv post (fun u t => va_P D vwCl (wf u) t.heap ∧ va_K D vwCl (tf u) t ∧ va_D (va_A wx H.size) (wf u)) (va_A wx H.size) a) (va_A wx H.size)) (hP : va_P D vwCl (w0 ++ wx) H) (hD : va_D A0 (w0 ++ wx)) (hS : va_S A0 H0 H locs) (hA : ∀ q, H0.size ≤ q → A0 q)
    (kk : ∀ (u : S) (H1 : Heap) (locs1 : List Loc), post u → va_P D vwCl (w0 ++ wf u) H1 → va_K D vwCl (tf u) s → va_D A0 (w0 ++ wf u) → va_S A0 H0 H1 locs1 → W p l e R s m args below meth c H1 locs1 (cells + mc) (slots + ms) Q (F0 m (pc + 3) ls rest)) : W p l e R s m args below meth c H locs cells slots Q (F0 m pc ls st0) :=
  va_callv hr hS (fun q _ h => ja_all (jd_tail hD) hS hA q h) (ja_all (jd_tail hD) hS hA) (fun u _ H1 locs1 ht hvm hw hB _ hk hS1 => by
    have hj := jj_tail hP hD (ja_all (jd_tail hD) hS hA) hk (by rw [← ht]; exact hB.1) hB.2.2
    exact kk u H1 locs1 hw hj.1 (va_K.moved hvm.symm hB.2.1) hj.2 hS1)
end JL
