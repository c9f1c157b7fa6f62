section JT
variable {p : Program} {l : Launch} {e : Env} {R : Room} {s : State} {m : MethodId} {args : Array Value} {below : List Frame} {meth : Method} {c : Code} {H : Heap} {locs : List Loc} {cells slots : Nat} {Q : State → Prop}
variable {pc : Nat} {ls : Array Slot} {rest st0 : List Value} {a : Array Value} {A0 : Nat → Prop} {H0 : Heap} {mc ms : Nat} {D : va_G}
theorem jciT_v {S : Type} {w0 : va_W} {x : Nat × va_E} {wf : S → va_W} {tf : S → List (ClassId × FieldType)} {post : S → Prop} (hr : va_Run p l e R s m args below meth c H locs cells slots mc ms (F0 m pc ls st0) rest (va_Qv post (fun u t => va_P D vwCl (wf u) t.heap ∧ va_K D vwCl (tf u) t ∧ va_D (va_A [x] H.size) (wf u)) (va_A [x] H.size) a) (va_A [x] H.size)) (hP : va_P D vwCl (w0 ++ [x]) H) (hD : va_D A0 (w0 ++ [x])) (hS : va_S A0 H0 H locs) (hA : ∀ q, H0.size ≤ q → A0 q)
    (kk : ∀ (u : S) (H1 : Heap) (locs1 : List Loc), post u → va_P D vwCl (w0 ++ wf u) H1 → va_K D vwCl (tf u) s → va_D A0 (w0 ++ wf u) → va_S A0 H0 H1 locs1 → W p l e R s m args below meth c H1 locs1 (cells + mc) (slots + ms) Q (F0 m (pc + 3) ls rest)) : W p l e R s m args below meth c H locs cells slots Q (F0 m pc ls st0) :=
  va_callv hr hS (fun q _ h => ja_last hD hS hA q h) (ja_last hD hS hA) (fun u t H1 locs1 ht hvm hw hB _ hk hS1 => by
    have hj := jj_last hP hD (ja_last hD hS hA) hk (by rw [← ht]; exact hB.1) hB.2.2
    exact kk u H1 locs1 hw hj.1 (va_K.moved hvm.symm hB.2.1) hj.2 hS1)
end JT
set_option maxHeartbeats 8000000 in
set_option maxRecDepth 100000 in
/-- THE LAW, from its entry -/
theorem whole_start {p : Program} {e : Env} {s : State} {m : MethodId} {below : List Frame} {meth : Method} {c : Code} (l : Launch) {b L : Nat} {xs : Nat → Int32} (hL : L ≤ 3072) (C0 : lw_At p s m meth c b L xs) : W p l e room_1 s m #[Value.ref b] below meth c s.heap [] 0 0 (lw_Z below #[Value.ref b] s) (entryFrame m ([Value.ref b] : List Value).toArray 4) := by
  obtain ⟨hx, hb, hr, hml, hown, hts, hX, hbl, hlocks, hgv⟩ := id C0
  have hA : ∀ q : Nat, s.heap.size ≤ q → (fun q : Nat => s.heap.size ≤ q) q := fun _ h => h
  have hE := law_E hts
  obtain ⟨tW, hZ, hT⟩ := law_Z hts hgv
  obtain ⟨sK, sV, hXS⟩ := law_S hts hgv
  have hXx : xX tW sK sV (fun q : Nat => s.heap.size ≤ q) s s.heap := ⟨law_E2 hts, ⟨hZ, hT⟩, hXS⟩
  obtain ⟨c0, iS0, hKn0⟩ := u_known (C := RX0) (T := TX0) (N := 18) (n := 18) hts (fun w h => jlw w (hin_RX0 w h)) (hts (.instantiable RX0 18) n_19)
  obtain ⟨c1, iS1, hKn1⟩ := u_known (C := RX1) (T := TX1) (N := 10) (n := 10) hts (fun w h => jlw w (hin_RX1 w h)) (hts (.instantiable RX1 10) n_20)
  obtain ⟨c2, iS2, hKn2⟩ := u_known (C := RX2) (T := TX2) (N := 6) (n := 6) hts (fun w h => jlw w (hin_RX2 w h)) (hts (.instantiable RX2 6) n_21)
  obtain ⟨c3, iS3, hKn3⟩ := u_known (C := RX3) (T := TX3) (N := 7) (n := 7) hts (fun w h => jlw w (hin_RX3 w h)) (hts (.instantiable RX3 7) n_22)
  obtain ⟨c4, iS4, hKn4⟩ := u_known (C := RX4) (T := TX4) (N := 9) (n := 9) hts (fun w h => jlw w (hin_RX4 w h)) (hts (.instantiable RX4 9) n_23)
  obtain ⟨c5, iS5, hKn5⟩ := u_known (C := RX5) (T := TX5) (N := 12) (n := 12) hts (fun w h => jlw w (hin_RX5 w h)) (hts (.instantiable RX5 12) n_24)
  obtain ⟨c6, iS6, hKn6⟩ := u_known (C := RX6) (T := TX6) (N := 6) (n := 6) hts (fun w h => jlw w (hin_RX6 w h)) (hts (.instantiable RX6 6) n_25)
  obtain ⟨c7, iS7, hKn7⟩ := u_known (C := RX7) (T := TX7) (N := 15) (n := 15) hts (fun w h => jlw w (hin_RX7 w h)) (hts (.instantiable RX7 15) n_26)
  obtain ⟨c8, iS8, hKn8⟩ := u_known (C := RX8) (T := TX8) (N := 8) (n := 8) hts (fun w h => jlw w (hin_RX8 w h)) (hts (.instantiable RX8 8) n_27)
  obtain ⟨c9, iS9, hKn9⟩ := u_known (C := RX9) (T := TX9) (N := 4) (n := 4) hts (fun w h => jlw w (hin_RX9 w h)) (hts (.instantiable RX9 4) n_28)
  obtain ⟨c10, iS10, hKn10⟩ := u_known (C := RX10) (T := TX10) (N := 3) (n := 3) hts (fun w h => jlw w (hin_RX10 w h)) (hts (.instantiable RX10 3) n_29)
  obtain ⟨c11, iS11, hKn11⟩ := u_known (C := RX11) (T := TX11) (N := 7) (n := 7) hts (fun w h => jlw w (hin_RX11 w h)) (hts (.instantiable RX11 7) n_30)
  obtain ⟨c12, iS12, hKn12⟩ := u_known (C := RX12) (T := TX12) (N := 20) (n := 20) hts (fun w h => jlw w (hin_RX12 w h)) (hts (.instantiable RX12 20) n_31)
  obtain ⟨c13, iS13, hKn13⟩ := u_known (C := RX13) (T := TX13) (N := 104) (n := 104) hts (fun w h => jlw w (hin_RX13 w h)) (hts (.instantiable RX13 104) n_32)
  obtain ⟨dC, dI, hKc⟩ : ∃ (dC : Nat → ClassId) (dI : Nat → Nat → Nat), ∀ (k : Nat) (q : vw_C), vwCl[k]? = some q → u_Kn s q.1 q.2.1 q.2.2 (dC k) (dI k) := by
    refine ⟨fun k => [c0, c1, c2, c3, c4, c5, c6, c7, c8, c9, c10, c11, c12, c13].getD k c0, fun k => [iS0, iS1, iS2, iS3, iS4, iS5, iS6, iS7, iS8, iS9, iS10, iS11, iS12, iS13].getD k iS0, ?_⟩
    intro k q hq
    match k, hq with
    | 0, hq => cases hq; exact hKn0
    | 1, hq => cases hq; exact hKn1
    | 2, hq => cases hq; exact hKn2
    | 3, hq => cases hq; exact hKn3
    | 4, hq => cases hq; exact hKn4
    | 5, hq => cases hq; exact hKn5
    | 6, hq => cases hq; exact hKn6
    | 7, hq => cases hq; exact hKn7
    | 8, hq => cases hq; exact hKn8
    | 9, hq => cases hq; exact hKn9
    | 10, hq => cases hq; exact hKn10
    | 11, hq => cases hq; exact hKn11
    | 12, hq => cases hq; exact hKn12
    | 13, hq => cases hq; exact hKn13
    | k + 14, hq => simp [vwCl] at hq
  have hS : va_S (fun q : Nat => s.heap.size ≤ q) s.heap s.heap [] := va_S.rf
  have hK : va_K (dC, dI) vwCl [] s := ⟨hKc, fun k q h => by simp at h⟩
  have hP : va_P (dC, dI) vwCl [] s.heap := fun k q h => by simp at h
  have hD : va_D (fun q : Nat => s.heap.size ≤ q) [] := ⟨fun i j p q h => by simp at h, fun k q h => by simp at h⟩
  have hl := lv_entry ([.ref b]) (n := 4) (Nat.le_of_ble_eq_true rfl)
  rw [lg_entry_eq]
  generalize (lg_sl ([.ref b]) ++ List.replicate (4 - (lg_sl ([.ref b])).length) Slot.unset).toArray = ls at hl ⊢
  have hl : lv_has ls 4 [(0, .ref b)] := hl
  refine va_new (ci := 12) (fs := [.int 0, .int 0, .null, .null, .null, .null, .null, .int 0, .null, .int 0, .null, .int 0, .null, .int 0, .null, .null, .null, .null, .null, .null]) (C := RX12) (T := TX12) (N := 20) hx hb hts (fun w h => jlw w (hin_RX12 w h)) tyX12 tyX12_ok hown (hts (.classLink RL 7 RX12) (jlw _ m_1707)) (hts (.instantiable RX12 20) n_31) (hts (.initialized RX12) (jlw _ m_873)) hK hP hD hS hA rfl jd_RX12 (Nat.le_of_ble_eq_true rfl) (Nat.le_of_ble_eq_true rfl) dL_law_0 (fun q1 H hP hD hS => ?_)
  refine W.widen (k := 1) (n := 20) (Nat.le_of_ble_eq_true rfl) (Nat.le_of_ble_eq_true rfl) ?_
  refine lv_dup hx hb dL_law_3 rfl ?_
  refine jciT_v (va_runI (As := []) (rest := [.ref q1]) ⟨hx, hb, hml, hown, hts⟩ (iX12_init_1 l dC dI _ q1) (cwI 0 hts (jgoodIL m_1708) rfl rfl rfl (hts (.initialized RX12) (jlw _ m_873)) (hts (.methodLink RL 9 yX12_init) (jlw _ m_1709)) (hts (.instanceMethod yX12_init) (jlw _ m_1710)) rfl (by decide +kernel) ⟨(Nat.le_of_ble_eq_true rfl), (Nat.le_of_ble_eq_true rfl)⟩) ⟨jw_blindE, fun U hU hW => ⟨rfl, jw_of hU hW (jp_last hP) (hK.sub [] rfl) (jd_last hD), hE.warm hW⟩⟩ rfl rfl hl.1 rfl (lv_room (Nat.le_of_ble_eq_true rfl)) dL_law_4 ⟨(Nat.le_of_ble_eq_true rfl), (Nat.le_of_ble_eq_true rfl)⟩) hP hD hS hA (fun u H locs hu hP1 hK2 hD1 hS1 => ?_)
  have hu : u.1 0 = q1 := hu
  subst hu
  have hP := hP1
  have hD := hD1
  have hS := hS1
  have hK := hK.app hK2
  refine W.widen (k := 73) (n := 7758) (Nat.le_of_ble_eq_true rfl) (Nat.le_of_ble_eq_true rfl) ?_
  refine lv_astore_n (lv' := [(1, .ref (u.1 0)), (0, .ref b)]) hx hb dL_law_7 rfl hl (by decide) rfl (fun ls hl => ?_)
  refine va_new (ci := 13) (fs := [.null, .int 0, .int 0, .int 0, .int 0, .int 0, .null, .int 0, .int 0, .int 0, .null, .null, .int 0, .null, .null, .int 0, .null, .null, .int 0, .null, .null, .null, .null, .null, .null, .null, .int 0, .null, .null, .null, .int 0, .null, .null, .null, .null, .null, .null, .int 0, .null, .null, .null, .null, .null, .null, .null, .null, .null, .null, .null, .null, .int 0, .null, .null, .null, .null, .null, .int 0, .null, .null, .null, .null, .null, .null, .null, .null, .null, .int 0, .null, .null, .null, .null, .int 0, .null, .null, .null, .null, .null, .null, .int 0, .null, .null, .null, .null, .null, .null, .null, .int 0, .null, .null, .null, .int 0, .null, .null, .null, .null, .null, .int 0, .int 0, .int 0, .int 0, .int 0, .null, .null, .null]) (C := RX13) (T := TX13) (N := 104) hx hb hts (fun w h => jlw w (hin_RX13 w h)) tyX13 tyX13_ok hown (hts (.classLink RL 10 RX13) (jlw _ m_1711)) (hts (.instantiable RX13 104) n_32) (hts (.initialized RX13) (jlw _ m_503)) hK hP hD hS hA rfl jd_RX13 (Nat.le_of_ble_eq_true rfl) (Nat.le_of_ble_eq_true rfl) dL_law_8 (fun q2 H hP hD hS => ?_)
  refine W.widen (k := 74) (n := 7862) (Nat.le_of_ble_eq_true rfl) (Nat.le_of_ble_eq_true rfl) ?_
  refine lv_dup hx hb dL_law_11 rfl ?_
  refine jciT_v (va_runI (As := []) (rest := [.ref q2]) ⟨hx, hb, hml, hown, hts⟩ (iX13_init_1 l dC dI _ q2) (cwI 0 hts (jgoodIL m_1712) rfl rfl rfl (hts (.initialized RX13) (jlw _ m_503)) (hts (.methodLink RL 12 yX13_init) (jlw _ m_1713)) (hts (.instanceMethod yX13_init) (jlw _ m_1714)) rfl (by decide +kernel) ⟨(Nat.le_of_ble_eq_true rfl), (Nat.le_of_ble_eq_true rfl)⟩) ⟨jw_blind, fun U hU hW => ⟨rfl, jw_of hU hW (jp_last hP) (hK.sub [] rfl) (jd_last hD)⟩⟩ rfl rfl hl.1 rfl (lv_room (Nat.le_of_ble_eq_true rfl)) dL_law_12 ⟨(Nat.le_of_ble_eq_true rfl), (Nat.le_of_ble_eq_true rfl)⟩) hP hD hS hA (fun v H locs hu hP1 hK2 hD1 hS1 => ?_)
  have hu : v.1 0 = q2 := hu
  subst hu
  have hP := hP1
  have hD := hD1
  have hS := hS1
  have hK := hK.app hK2
  refine W.widen (k := 152) (n := 53404) (Nat.le_of_ble_eq_true rfl) (Nat.le_of_ble_eq_true rfl) ?_
  refine lv_astore_n (lv' := [(2, .ref (v.1 0)), (1, .ref (u.1 0)), (0, .ref b)]) hx hb dL_law_15 rfl hl (by decide) rfl (fun ls hl => ?_)
  refine lv_iconst (v := iI 0) hx hb dL_law_16 rfl ?_
  refine lv_istore_n (lv' := [(3, .int (iI 0)), (2, .ref (v.1 0)), (1, .ref (u.1 0)), (0, .ref b)]) hx hb dL_law_17 rfl hl (by decide) rfl (fun ls hl => ?_)
  have hP : va_P (dC, dI) vwCl (x0W u.1 u.2 ++ m0W v.1 v.2) H := hP
  have hD : va_D (fun q : Nat => s.heap.size ≤ q) (x0W u.1 u.2 ++ m0W v.1 v.2) := hD
  have hK : va_K (dC, dI) vwCl (x0T u.2 ++ m0T v.2) s := hK
  have hdis := x0_dis (jd_init hD)
  have hcls := x0_cls (jk_init hK)
  have hKx := x0_K (jk_init hK)
  have hKm : va_K (dC, dI) vwCl (mT v.2) s := jk_tail hK
  rw [x0_world hdis hcls, m0_world] at hP hD
  obtain ⟨hP, hD⟩ := lsw hP hD
  have hnow : x0V u.1 (u.1 0 : Int) 0 = m0g 30 := by rw [(x0_at hdis (i := 0) (by decide)).2.2]; rfl
  have hhands : x0V u.1 (u.1 0 : Int) 11 = m0g 50 := by rw [(x0_at hdis (i := 0) (by decide)).2.2]; rfl
  have ehstolen : x0V u.1 (u.1 0 : Int) 19 = (u.1 70 : Int) := by rw [(x0_at hdis (i := 0) (by decide)).2.2]; rfl
  have hstolen : x0V u.1 (x0V u.1 (u.1 0 : Int) 19) 1 = m0g 78 := by rw [ehstolen, (x0_at hdis (i := 70) (by decide)).2.2]; rfl
  have ehtold : x0V u.1 (u.1 0 : Int) 14 = (u.1 42 : Int) := by rw [(x0_at hdis (i := 0) (by decide)).2.2]; rfl
  have htold : x0V u.1 (x0V u.1 (u.1 0 : Int) 14) 5 = m0g 66 := by rw [ehtold, (x0_at hdis (i := 42) (by decide)).2.2]; rfl
  have ehsize : x0V u.1 (u.1 0 : Int) 2 = (u.1 1 : Int) := by rw [(x0_at hdis (i := 0) (by decide)).2.2]; rfl
  have hsize : x0V u.1 (x0V u.1 (u.1 0 : Int) 2) 1 = m0g 1 := by rw [ehsize, (x0_at hdis (i := 1) (by decide)).2.2]; rfl
  have ehsheets : x0V u.1 (u.1 0 : Int) 3 = (u.1 11 : Int) := by rw [(x0_at hdis (i := 0) (by decide)).2.2]; rfl
  have hsheets : x0V u.1 (x0V u.1 (u.1 0 : Int) 3) 1 = m0g 18 := by rw [ehsheets, (x0_at hdis (i := 11) (by decide)).2.2]; rfl
  have e15 : x0V u.1 (u.1 0 : Int) 15 = (u.1 53 : Int) := by rw [(x0_at hdis (i := 0) (by decide)).2.2]; rfl
  have hsub : rSub (x0V u.1) (u.1 0 : Int) m0a := fun w h0 h1 => Or.inl ⟨by rw [e15, (x0_at hdis (i := 53) (by decide)).2.2]; exact if_pos ⟨h0, h1⟩, by rw [m0a_0 (show 60 ≠ 19 by decide)]; exact Int.le_refl 0⟩
  have hhd : rHand (x0V u.1) (u.1 0 : Int) m0g m0a := ⟨fun i h0 h1 => absurd h1 (by show ¬ i < 0; omega), fun i j h0 h1 => absurd h1 (by show ¬ i < 0; omega), fun i j h0 h1 h2 h3 => ⟨fun q => absurd q (by show ¬ i < 0; omega), fun _ => by rw [m0a_0 (show 41 ≠ 19 by decide)]⟩⟩
  have e14 : x0V u.1 (u.1 0 : Int) 14 = (u.1 42 : Int) := by rw [(x0_at hdis (i := 0) (by decide)).2.2]; rfl
  have e140 : x0V u.1 (u.1 42 : Int) 0 = (u.1 43 : Int) := by rw [(x0_at hdis (i := 42) (by decide)).2.2]; rfl
  have hnw : rNews (x0V u.1) (u.1 0 : Int) m0g m0a := ⟨fun k h0 h1 => absurd h1 (by show ¬ k < 0; omega), fun f h0 h1 => by rw [e14, e140, (x0_at hdis (i := 43) (by decide)).2.2]; exact if_pos ⟨h0, h1⟩⟩
  have htx : rTxt (x0V u.1) (u.1 0 : Int) m0g m0a := rTxt_i (hsize.trans (show m0g 1 = 0 from rfl)) rfl
  exact law_loop C0 hL hXx hKx hKm (z0 := (u.1 0 : Int)) 512 0 (x0L u.1) (x0K u.1) (x0N u.1) (x0V u.1) m0g m0a 152 53404 H _ ls (by omega) (by omega) (by omega) (by omega) (by omega) (x0_ok hdis (i := 0) (by decide) rfl) (x0_I hdis) m0_I m0_line m0_lead m0_skill m0_sh hnow hhands hstolen htold hsize hsheets hsub hhd hnw htx hP hD hS hl
