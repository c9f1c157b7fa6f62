set_option maxHeartbeats 2000000 in
set_option maxRecDepth 100000 in
theorem sX7_compiled (l : Launch) (dC : Nat → ClassId) (dI : Nat → Nat → Nat) (sz : Nat) (L : List Nat) (cid : Nat → ClassId) (K : Int → Nat) (N : Int → Int) (tW : Nat) (sK sV : Nat → Nat) (v : Int → Int → Int) (p0 : Int) (hI : xI L K N v) (q0 : ok L K p0 7) : Met l yX7_compiled (jk yX7_compiled cX7_compiled 2 (some (.object "BookOfAll$Sheet"))) ({ frames := 2, cells := 5, slots := 636, locals := 102 }) (va_Pc [.ref p0.toNat] (xP (dC, dI) (xG L cid K N v) (xT cid) tW sK sV sz)) (va_Qq (fun (r : Option Nat) (u : (List Nat × (Int → Nat) × (Int → Int) × (Int → Int → Int))) => ∃ z : Int, r = opt z ∧ (xI u.1 u.2.1 u.2.2.1 u.2.2.2) ∧ (xE L K N u.1 u.2.1 u.2.2.1) ∧ (frE L K [(9, 0), (9, 1), (9, 2), (9, 3), (66, (-1)), (69, (-1)), (99, 0)] u.2.2.2 v) ∧ (ok u.1 u.2.1 z 9)) (fun u t => va_P (dC, dI) vwCl (xG u.1 cid u.2.1 u.2.2.1 u.2.2.2) t.heap ∧ va_K (dC, dI) vwCl (xT cid) t ∧ va_D (va_A (xG L cid K N v) sz) (xG u.1 cid u.2.1 u.2.2.1 u.2.2.2)) (va_A (xG L cid K N v) sz)) 5 636 (va_A (xG L cid K N v) sz) := by
  refine Met.ofW (cc := cX7_compiled) (maxL := 2) (ret := (some (.object "BookOfAll$Sheet"))) (by decide) rfl ?_
  intro p e s m args below meth c s₁ B hml hv
  obtain ⟨rfl, ⟨hsz, hP, hK, hD0⟩, hX⟩ := hv
  have hx := B.exec
  have hb := B.bytes
  have hr := B.returns
  have hts := atoms_spec (ws := (jk yX7_compiled cX7_compiled 2 (some (.object "BookOfAll$Sheet")))) B.pre
  have hj : ∀ w ∈ jw, w.before ([.ref p0.toNat] : List Value).toArray s = true := fun w h => hts w (jm h)
  have hown : s.vm.findClass RX7 = some m.cls := findClass_of_methodNamed B.named
  subst hsz
  have hD := hD0.self (sz := s.heap.size)
  generalize hAe : (va_A (xG L cid K N v) s.heap.size) = A at hD hX ⊢
  have hA : ∀ q : Nat, s.heap.size ≤ q → A q := fun q h => by rw [← hAe]; exact Or.inr h
  have hS : va_S A s.heap s.heap [] := va_S.rf
  have hE0 : xE L K N L K N := xE_rf
  have hF0 : frE L K [(9, 0), (9, 1), (9, 2), (9, 3), (66, (-1)), (69, (-1)), (99, 0)] v v := frE_rf
  have hXa := hX
  have hP : va_P (dC, dI) vwCl (xG L cid K N v) s.heap := hP
  have hl := lv_entry ([.ref p0.toNat]) (n := 2) (Nat.le_of_ble_eq_true rfl)
  rw [lg_entry_eq]
  generalize (lg_sl ([.ref p0.toNat]) ++ List.replicate (2 - (lg_sl ([.ref p0.toNat])).length) Slot.unset).toArray = ls at hl ⊢
  have hl : lv_has ls 2 [(0, .ref p0.toNat)] := hl
  generalize hQ : MQ below (va_Qq (fun (r : Option Nat) (u : (List Nat × (Int → Nat) × (Int → Int) × (Int → Int → Int))) => ∃ z : Int, r = opt z ∧ (xI u.1 u.2.1 u.2.2.1 u.2.2.2) ∧ (xE L K N u.1 u.2.1 u.2.2.1) ∧ (frE L K [(9, 0), (9, 1), (9, 2), (9, 3), (66, (-1)), (69, (-1)), (99, 0)] u.2.2.2 v) ∧ (ok u.1 u.2.1 z 9)) (fun u t => va_P (dC, dI) vwCl (xG u.1 cid u.2.1 u.2.2.1 u.2.2.2) t.heap ∧ va_K (dC, dI) vwCl (xT cid) t ∧ va_D A (xG u.1 cid u.2.1 u.2.2.1 u.2.2.2)) A) ([.ref p0.toNat] : List Value).toArray s 5 636 A = Q
  suffices ST : ∀ (H : Heap) (locs : List Loc), va_P (dC, dI) vwCl (xG L cid K N v) H → va_S A s.heap H locs → W p l e ({ frames := 2, cells := 5, slots := 636, locals := 102 }) s m ([.ref p0.toNat] : List Value).toArray below meth c H locs 0 0 Q (F0 m 0 ls []) from ST _ _ hP hS
  clear hP hS
  intro H locs hP hS
  refine va_new (ci := 9) (fs := [.null, .null, .null, .null]) (C := RX9) (T := TX9) (N := 4) hx hb hts (jh hin_RX9) tyX9 tyX9_ok hown (hts (.classLink RX7 31 RX9) (jm m_1304)) (hts (.instantiable RX9 4) (jm m_1305)) (hts (.initialized RX9) (jm m_933)) hK hP hD hS hA rfl jd_RX9 (Nat.le_of_ble_eq_true rfl) (Nat.le_of_ble_eq_true rfl) dX7_compiled_0 (fun q_1 H hPn hDn hS => ?_)
  refine W.widen (k := 1) (n := 4) (Nat.le_of_ble_eq_true rfl) (Nat.le_of_ble_eq_true rfl) ?_
  have hP := jp_init hPn
  have hD := jd_init hDn
  refine lv_dup hx hb dX7_compiled_3 rfl ?_
  refine jci_v (va_runIN (As := []) (rest := [.ref q_1]) ⟨hx, hb, hml, hown, hts⟩ (iX9_init_1 l dC dI _ q_1 ) ⟨va_cnB (host := RX12) 0 hts (jgoodI m_1309) rfl rfl rfl (hX.1.1.2.1 (RX7, 75, yX9_init) (by decide +kernel)) (hts (.initialized RX9) (jm m_933)) (by decide +kernel) ⟨(Nat.le_of_ble_eq_true rfl), (Nat.le_of_ble_eq_true rfl)⟩, rfl, (hts (.instanceMethod yX9_init) (jm m_1310))⟩ ⟨jw_blind, fun U hU hW => ⟨rfl, jw_of hU hW (jp_last hPn) (hK.sub [] rfl) (jd_last hDn)⟩⟩ rfl rfl hl.1 rfl (lv_room (Nat.le_of_ble_eq_true rfl)) dX7_compiled_4 ⟨(Nat.le_of_ble_eq_true rfl), (Nat.le_of_ble_eq_true rfl)⟩) hPn hDn hS hA (fun u_2 H locs hPn hK2 hDn hS => ?_)
  refine W.widen (k := 1) (n := 4) (Nat.le_of_ble_eq_true rfl) (Nat.le_of_ble_eq_true rfl) ?_
  obtain ⟨z_3, L_4, K_5, N_6, v_7, hz9, E_8, h_9, q_10, h_11, h_12, f_13, I_14, hP, hD⟩ := xnew_13 hI hPn hDn
  subst hz9
  have F_16 := frE_frE (W := [(9, 0), (9, 1), (9, 2), (9, 3), (66, (-1)), (69, (-1)), (99, 0)]) hE0 (f_13 []) rfl hF0
  have E_15 := xE_tr hE0 E_8
  have h_17 := xE_ok E_8 q0
  refine lv_astore_n (lv' := [(1, .ref z_3.toNat), (0, .ref p0.toNat)]) hx hb dX7_compiled_7 rfl hl (by decide) rfl (fun ls hl => ?_)
  refine lv_aload_n hx hb dX7_compiled_8 rfl (lv_at hl 0 rfl) ?_
  refine lv_aload_n hx hb dX7_compiled_9 rfl (lv_at hl 1 rfl) ?_
  have h_18 : ok L_4 K_5 (v p0 9) 25 := xf_7_9 hI h_17
  have h_19 : N_6 (v p0 9) = 600 := xn_25 I_14 h_18
  refine gx_RX7_28 (y := v p0 9) hx hb hj hown hK hP h_17 ((xf_7_9 I_14 h_17).1) (frE_use q0 (f_13 []) rfl) dX7_compiled_10 ?_
  refine lv_iconst (v := iI 0) hx hb dX7_compiled_13 rfl ?_
  refine lv_aload_n hx hb dX7_compiled_14 rfl (lv_at hl 1 rfl) ?_
  have h_20 : 0 ≤ v p0 10 ∧ v p0 10 ≤ 600 := xf_7_10 hI h_17
  refine gx_RX7_56 (y := v p0 10) hx hb hj hown hK hP h_17 (frE_use q0 (f_13 []) rfl) dX7_compiled_15 ?_
  refine va_mmax hx hb (by rw [hml]; exact hl.1.symm) hown (hj _ m_1311) (hj _ m_761) (hj _ m_762) (hj _ m_763) (Nat.le_of_ble_eq_true rfl) (Nat.le_of_ble_eq_true rfl) (Nat.le_of_ble_eq_true rfl) (Nat.le_of_ble_eq_true rfl) dX7_compiled_18 ?_
  refine xm_max (by omega) (by omega) (fun z_21 h_22 => ?_)
  refine jcg_q (va_runS (As := [.ref (v p0 9).toNat, .int (iI z_21)]) (rest := [.ref z_3.toNat]) ⟨hx, hb, hml, hown, hts⟩ (sJ7_copyOf_59c91_25_66 l dC dI _ L_4 cid K_5 N_6 tW sK sV v_7 (v p0 9) z_21 I_14 h_18 (by omega) (by omega)) (va_cwS 2 hts (jgoodS m_1312 m_1313 m_842 m_1314) rfl rfl rfl (by decide +kernel) ⟨(Nat.le_of_ble_eq_true rfl), (Nat.le_of_ble_eq_true rfl)⟩) ⟨xP_blind, fun U hU hW => ⟨rfl, xP_of hU hW hP hK hD hX hS (fun _ h => h) hA⟩⟩ rfl rfl hl.1 rfl (lv_room (Nat.le_of_ble_eq_true rfl)) dX7_compiled_21 ⟨(Nat.le_of_ble_eq_true rfl), (Nat.le_of_ble_eq_true rfl)⟩) hD hS hA (fun r_23 u_27 H locs w_24 hP hK hD hS => ?_)
  refine W.widen (k := 2) (n := 604) (Nat.le_of_ble_eq_true rfl) (Nat.le_of_ble_eq_true rfl) ?_
  obtain ⟨L_28, K_29, N_30, v_31⟩ := u_27
  obtain ⟨z_25, rfl, I_33, E_34, f_32, h_26⟩ := w_24
  have hP : va_P (dC, dI) vwCl (xG L_28 cid K_29 N_30 v_31) H := hP
  have hD : va_D A (xG L_28 cid K_29 N_30 v_31) := hD
  have I_33 : xI L_28 K_29 N_30 v_31 := I_33
  have E_34 : xE L_4 K_5 N_6 L_28 K_29 N_30 := E_34
  have f_32 : frE L_4 K_5 [(66, (-1)), (99, 0)] v_31 v_7 := f_32
  have F_36 := frE_frE (W := [(9, 0), (9, 1), (9, 2), (9, 3), (66, (-1)), (69, (-1)), (99, 0)]) E_15 f_32 rfl F_16
  have E_35 := xE_tr E_15 E_34
  have h_37 := xE_ok E_34 h_17
  have h_38 := xE_ok E_34 h_9
  have h_39 := xE_ok E_34 h_18
  have h_40 : N_30 (v p0 9) = 600 := xn_25 I_33 h_39
  refine jt_q (.ref z_25.toNat) (rv_ref h_26.1) ?_
  refine px_RX7_86 (y := z_25) hx hb hj hown hK hP hD hS I_33 h_38 h_26 dX7_compiled_24 (fun v_41 H locs f_42 e_43 o_44 I_45 hP hD hS => ?_)
  refine lv_aload_n hx hb dX7_compiled_27 rfl (lv_at hl 0 rfl) ?_
  refine lv_aload_n hx hb dX7_compiled_28 rfl (lv_at hl 1 rfl) ?_
  have h_46 : ok L_28 K_29 (v p0 11) 26 := xf_7_11 hI h_37
  have h_47 : N_30 (v p0 11) = 14 := xn_26 I_45 h_46
  refine gx_RX7_33 (y := v p0 11) hx hb hj hown hK hP h_37 ((xf_7_11 I_45 h_37).1) (((fr_use h_37 f_42 rfl)).trans (((frE_use h_17 f_32 rfl)).trans (frE_use q0 (f_13 []) rfl))) dX7_compiled_29 ?_
  obtain ⟨q_49, h_50⟩ := xg_arr (cid := cid) (N := N_30) (v := v_41) h_46 rfl
  refine va_clone (ad := "[I") (x := (Int.toNat (N_30 (v p0 11)), .inl (ar (v_41 (v p0 11))))) hx hb (by rw [hml]; exact hl.1.symm) hown (hts (.methodLink RX7 87 ⟨"[I", "clone", "()Ljava/lang/Object;"⟩) (jm m_1315)) (hts (.sameMethod "[I" "java/lang/Object" "clone" "()Ljava/lang/Object;") (jm m_1294)) (hts (.native ⟨"java/lang/Object", "clone", "()Ljava/lang/Object;"⟩) (jm m_1295)) (hts (.instanceMethod ⟨"java/lang/Object", "clone", "()Ljava/lang/Object;"⟩) (jm m_1296)) (hts (.selects "[I" ⟨"[I", "clone", "()Ljava/lang/Object;"⟩ ⟨"java/lang/Object", "clone", "()Ljava/lang/Object;"⟩) (jm m_1297)) hX.1.1.2.2 hK hP hD hS hA q_49 0 h_50 rfl (hK.2 0 _ rfl).2 (jfits_int _ _ _) (Nat.le_of_ble_eq_true rfl) (Nat.le_of_ble_eq_true rfl) (Nat.le_of_ble_eq_true rfl) (show 604 + Int.toNat (N_30 (v p0 11)) ≤ 636 by omega) dX7_compiled_32 (fun q_48 H hK2 hP hD hS => ?_)
  refine W.widen (k := 3) (n := 618) (Nat.le_of_ble_eq_true rfl) (show 604 + Int.toNat (N_30 (v p0 11)) ≤ 618 by omega) ?_
  obtain ⟨z_51, L_52, K_53, N_54, v_55, hz9, E_56, h_57, q_58, h_59, h_60, f_61, I_62, hP, hD⟩ := xcpy_26_67 h_46 I_45 hP hD (by omega)
  subst hz9
  have F_63 := frE_fr (W := [(9, 0), (9, 1), (9, 2), (9, 3), (66, (-1)), (69, (-1)), (99, 0)]) E_35 (fr_tr f_42 rfl fr_rf) rfl F_36
  have F_65 := frE_frE (W := [(9, 0), (9, 1), (9, 2), (9, 3), (66, (-1)), (69, (-1)), (99, 0)]) E_35 (f_61 []) rfl F_63
  have E_64 := xE_tr E_35 E_56
  have h_66 := xE_ok E_56 h_37
  have h_67 := xE_ok E_56 h_38
  have h_68 := xE_ok E_56 h_39
  have h_69 := xE_ok E_56 h_26
  have h_70 := xE_ok E_56 h_46
  have h_71 : N_54 (v p0 9) = 600 := xn_25 I_62 h_68
  have h_72 : 0 ≤ N_54 z_25 ∧ N_54 z_25 ≤ 600 := xn_66 I_62 h_69
  have h_73 : N_54 (v p0 11) = 14 := xn_26 I_62 h_70
  have h_74 : N_54 z_51 = 14 := xn_67 I_62 h_57
  obtain ⟨q_75, h_76⟩ := xg_arr (cid := cid) (N := N_54) (v := v_55) h_57 rfl
  refine va_castA (nm := "[I") hx hb hown (hts (.classLink RX7 88 "[I") (jm m_1316)) hP q_75 h_76 (hK.2 0 _ rfl).2 dX7_compiled_35 ?_
  refine px_RX7_92 (y := z_51) hx hb hj hown hK hP hD hS I_62 h_67 h_57 dX7_compiled_38 (fun v_77 H locs f_78 e_79 o_80 I_81 hP hD hS => ?_)
  refine lv_aload_n hx hb dX7_compiled_41 rfl (lv_at hl 0 rfl) ?_
  refine lv_aload_n hx hb dX7_compiled_42 rfl (lv_at hl 1 rfl) ?_
  have h_82 : ok L_52 K_53 (v p0 12) 27 := xf_7_12 hI h_66
  have h_83 : N_54 (v p0 12) = 14 := xn_27 I_81 h_82
  refine gx_RX7_36 (y := v p0 12) hx hb hj hown hK hP h_66 ((xf_7_12 I_81 h_66).1) (((fr_use h_66 f_78 rfl)).trans (((frE_use h_37 (f_61 []) rfl)).trans (((fr_use h_37 f_42 rfl)).trans (((frE_use h_17 f_32 rfl)).trans (frE_use q0 (f_13 []) rfl))))) dX7_compiled_43 ?_
  obtain ⟨q_85, h_86⟩ := xg_arr (cid := cid) (N := N_54) (v := v_77) h_82 rfl
  refine va_clone (ad := "[I") (x := (Int.toNat (N_54 (v p0 12)), .inl (ar (v_77 (v p0 12))))) hx hb (by rw [hml]; exact hl.1.symm) hown (hts (.methodLink RX7 87 ⟨"[I", "clone", "()Ljava/lang/Object;"⟩) (jm m_1315)) (hts (.sameMethod "[I" "java/lang/Object" "clone" "()Ljava/lang/Object;") (jm m_1294)) (hts (.native ⟨"java/lang/Object", "clone", "()Ljava/lang/Object;"⟩) (jm m_1295)) (hts (.instanceMethod ⟨"java/lang/Object", "clone", "()Ljava/lang/Object;"⟩) (jm m_1296)) (hts (.selects "[I" ⟨"[I", "clone", "()Ljava/lang/Object;"⟩ ⟨"java/lang/Object", "clone", "()Ljava/lang/Object;"⟩) (jm m_1297)) hX.1.1.2.2 hK hP hD hS hA q_85 0 h_86 rfl (hK.2 0 _ rfl).2 (jfits_int _ _ _) (Nat.le_of_ble_eq_true rfl) (Nat.le_of_ble_eq_true rfl) (Nat.le_of_ble_eq_true rfl) (show 618 + Int.toNat (N_54 (v p0 12)) ≤ 636 by omega) dX7_compiled_46 (fun q_84 H hK2 hP hD hS => ?_)
  refine W.widen (k := 4) (n := 632) (Nat.le_of_ble_eq_true rfl) (show 618 + Int.toNat (N_54 (v p0 12)) ≤ 632 by omega) ?_
  obtain ⟨z_87, L_88, K_89, N_90, v_91, hz9, E_92, h_93, q_94, h_95, h_96, f_97, I_98, hP, hD⟩ := xcpy_27_68 h_82 I_81 hP hD (by omega)
  subst hz9
  have F_99 := frE_fr (W := [(9, 0), (9, 1), (9, 2), (9, 3), (66, (-1)), (69, (-1)), (99, 0)]) E_64 (fr_tr f_78 rfl fr_rf) rfl F_65
  have F_101 := frE_frE (W := [(9, 0), (9, 1), (9, 2), (9, 3), (66, (-1)), (69, (-1)), (99, 0)]) E_64 (f_97 []) rfl F_99
  have E_100 := xE_tr E_64 E_92
  have h_102 := xE_ok E_92 h_66
  have h_103 := xE_ok E_92 h_67
  have h_104 := xE_ok E_92 h_68
  have h_105 := xE_ok E_92 h_69
  have h_106 := xE_ok E_92 h_70
  have h_107 := xE_ok E_92 h_57
  have h_108 := xE_ok E_92 h_82
  have h_109 : N_90 (v p0 9) = 600 := xn_25 I_98 h_104
  have h_110 : 0 ≤ N_90 z_25 ∧ N_90 z_25 ≤ 600 := xn_66 I_98 h_105
  have h_111 : N_90 (v p0 11) = 14 := xn_26 I_98 h_106
  have h_112 : N_90 z_51 = 14 := xn_67 I_98 h_107
  have h_113 : N_90 (v p0 12) = 14 := xn_27 I_98 h_108
  have h_114 : N_90 z_87 = 14 := xn_68 I_98 h_93
  obtain ⟨q_115, h_116⟩ := xg_arr (cid := cid) (N := N_90) (v := v_91) h_93 rfl
  refine va_castA (nm := "[I") hx hb hown (hts (.classLink RX7 88 "[I") (jm m_1316)) hP q_115 h_116 (hK.2 0 _ rfl).2 dX7_compiled_49 ?_
  refine px_RX7_93 (y := z_87) hx hb hj hown hK hP hD hS I_98 h_103 h_93 dX7_compiled_52 (fun v_117 H locs f_118 e_119 o_120 I_121 hP hD hS => ?_)
  refine lv_aload_n hx hb dX7_compiled_55 rfl (lv_at hl 0 rfl) ?_
  refine lv_aload_n hx hb dX7_compiled_56 rfl (lv_at hl 1 rfl) ?_
  have h_122 : ok L_88 K_89 (v p0 13) 28 := xf_7_13 hI h_102
  have h_123 : N_90 (v p0 13) = 4 := xn_28 I_121 h_122
  refine gx_RX7_39 (y := v p0 13) hx hb hj hown hK hP h_102 ((xf_7_13 I_121 h_102).1) (((fr_use h_102 f_118 rfl)).trans (((frE_use h_66 (f_97 []) rfl)).trans (((fr_use h_66 f_78 rfl)).trans (((frE_use h_37 (f_61 []) rfl)).trans (((fr_use h_37 f_42 rfl)).trans (((frE_use h_17 f_32 rfl)).trans (frE_use q0 (f_13 []) rfl))))))) dX7_compiled_57 ?_
  refine lv_iconst (v := iI 0) hx hb dX7_compiled_60 rfl ?_
  refine lv_aload_n hx hb dX7_compiled_61 rfl (lv_at hl 1 rfl) ?_
  have h_124 : 0 ≤ v p0 14 ∧ v p0 14 ≤ 4 := xf_7_14 hI h_102
  refine gx_RX7_59 (y := v p0 14) hx hb hj hown hK hP h_102 (((fr_use h_102 f_118 rfl)).trans (((frE_use h_66 (f_97 []) rfl)).trans (((fr_use h_66 f_78 rfl)).trans (((frE_use h_37 (f_61 []) rfl)).trans (((fr_use h_37 f_42 rfl)).trans (((frE_use h_17 f_32 rfl)).trans (frE_use q0 (f_13 []) rfl))))))) dX7_compiled_62 ?_
  refine va_mmax hx hb (by rw [hml]; exact hl.1.symm) hown (hj _ m_1311) (hj _ m_761) (hj _ m_762) (hj _ m_763) (Nat.le_of_ble_eq_true rfl) (Nat.le_of_ble_eq_true rfl) (Nat.le_of_ble_eq_true rfl) (Nat.le_of_ble_eq_true rfl) dX7_compiled_65 ?_
  refine xm_max (by omega) (by omega) (fun z_125 h_126 => ?_)
  refine jcg_q (va_runS (As := [.ref (v p0 13).toNat, .int (iI z_125)]) (rest := [.ref z_3.toNat]) ⟨hx, hb, hml, hown, hts⟩ (sJ7_copyOf_c38d5_28_69 l dC dI _ L_88 cid K_89 N_90 tW sK sV v_117 (v p0 13) z_125 I_121 h_122 (by omega) (by omega)) (va_cwS 2 hts (jgoodS m_1317 m_1318 m_842 m_1319) rfl rfl rfl (by decide +kernel) ⟨(Nat.le_of_ble_eq_true rfl), (Nat.le_of_ble_eq_true rfl)⟩) ⟨xP_blind, fun U hU hW => ⟨rfl, xP_of hU hW hP hK hD hX hS (fun _ h => h) hA⟩⟩ rfl rfl hl.1 rfl (lv_room (Nat.le_of_ble_eq_true rfl)) dX7_compiled_68 ⟨(Nat.le_of_ble_eq_true rfl), (Nat.le_of_ble_eq_true rfl)⟩) hD hS hA (fun r_127 u_131 H locs w_128 hP hK hD hS => ?_)
  refine W.widen (k := 5) (n := 636) (Nat.le_of_ble_eq_true rfl) (Nat.le_of_ble_eq_true rfl) ?_
  obtain ⟨L_132, K_133, N_134, v_135⟩ := u_131
  obtain ⟨z_129, rfl, I_137, E_138, f_136, h_130⟩ := w_128
  have hP : va_P (dC, dI) vwCl (xG L_132 cid K_133 N_134 v_135) H := hP
  have hD : va_D A (xG L_132 cid K_133 N_134 v_135) := hD
  have I_137 : xI L_132 K_133 N_134 v_135 := I_137
  have E_138 : xE L_88 K_89 N_90 L_132 K_133 N_134 := E_138
  have f_136 : frE L_88 K_89 [(69, (-1)), (99, 0)] v_135 v_117 := f_136
  have F_139 := frE_fr (W := [(9, 0), (9, 1), (9, 2), (9, 3), (66, (-1)), (69, (-1)), (99, 0)]) E_100 (fr_tr f_118 rfl fr_rf) rfl F_101
  have F_141 := frE_frE (W := [(9, 0), (9, 1), (9, 2), (9, 3), (66, (-1)), (69, (-1)), (99, 0)]) E_100 f_136 rfl F_139
  have E_140 := xE_tr E_100 E_138
  have h_142 := xE_ok E_138 h_102
  have h_143 := xE_ok E_138 h_103
  have h_144 := xE_ok E_138 h_104
  have h_145 := xE_ok E_138 h_105
  have h_146 := xE_ok E_138 h_106
  have h_147 := xE_ok E_138 h_107
  have h_148 := xE_ok E_138 h_108
  have h_149 := xE_ok E_138 h_93
  have h_150 := xE_ok E_138 h_122
  have h_151 : N_134 (v p0 9) = 600 := xn_25 I_137 h_144
  have h_152 : 0 ≤ N_134 z_25 ∧ N_134 z_25 ≤ 600 := xn_66 I_137 h_145
  have h_153 : N_134 (v p0 11) = 14 := xn_26 I_137 h_146
  have h_154 : N_134 z_51 = 14 := xn_67 I_137 h_147
  have h_155 : N_134 (v p0 12) = 14 := xn_27 I_137 h_148
  have h_156 : N_134 z_87 = 14 := xn_68 I_137 h_149
  have h_157 : N_134 (v p0 13) = 4 := xn_28 I_137 h_150
  refine jt_q (.ref z_129.toNat) (rv_ref h_130.1) ?_
  refine px_RX7_97 (y := z_129) hx hb hj hown hK hP hD hS I_137 h_143 h_130 dX7_compiled_71 (fun v_158 H locs f_159 e_160 o_161 I_162 hP hD hS => ?_)
  refine lv_aload_n hx hb dX7_compiled_74 rfl (lv_at hl 0 rfl) ?_
  have F_163 := frE_fr (W := [(9, 0), (9, 1), (9, 2), (9, 3), (66, (-1)), (69, (-1)), (99, 0)]) E_140 (fr_tr f_159 rfl fr_rf) rfl F_141
  obtain ⟨K_164, E_165, h_166, _, I_167, hP, hD⟩ := xretype E_140 q_10 I_162 h_143 ⟨(by rw [(((fr_use h_143 f_159 rfl)).trans (((frE_use h_103 f_136 rfl)).trans (((fr_use h_103 f_118 rfl)).trans (((frE_use h_67 (f_97 []) rfl)).trans (((fr_use h_67 f_78 rfl)).trans (((frE_use h_38 (f_61 []) rfl)).trans e_43))))))]; exact h_145), (by rw [(((fr_use h_143 f_159 rfl)).trans (((frE_use h_103 f_136 rfl)).trans (((fr_use h_103 f_118 rfl)).trans (((frE_use h_67 (f_97 []) rfl)).trans e_79))))]; exact h_147), (by rw [(((fr_use h_143 f_159 rfl)).trans (((frE_use h_103 f_136 rfl)).trans e_119))]; exact h_149), (by rw [e_160]; exact h_130)⟩ hP hD
  rw [← hQ]
  refine jt_q (rv z_3) (rv_ref (h_143).1).symm ?_
  exact W.aret (v := rv z_3) hx hb hr (Or.inl ⟨_, rfl⟩) (rv_or z_3) (fun t ht hW => ⟨⟨opt z_3, (L_132, K_164, N_134, v_158), rfl, ⟨z_3, rfl, I_167, E_165, F_163, h_166⟩, by rw [ht]; exact hP, va_K.moved hW.alike hK, hD⟩, hS.F ht⟩) hS.2.2 dX7_compiled_75
set_option maxHeartbeats 2000000 in
set_option maxRecDepth 100000 in
theorem sX12_sheet (l : Launch) (dC : Nat → ClassId) (dI : Nat → Nat → Nat) (sz : Nat) (L : List Nat) (cid : Nat → ClassId) (K : Int → Nat) (N : Int → Int) (tW : Nat) (sK sV : Nat → Nat) (v : Int → Int → Int) (p0 : Int) (hI : xI L K N v) (q0 : ok L K p0 12) : Met l yX12_sheet (jk yX12_sheet cX12_sheet 2 (some .int)) ({ frames := 35, cells := 5, slots := 636, locals := 791 }) (va_Pc [.ref p0.toNat] (xP (dC, dI) (xG L cid K N v) (xT cid) tW sK sV sz)) (va_Qi (fun (r : Int32) (u : (List Nat × (Int → Nat) × (Int → Int) × (Int → Int → Int))) => ∃ z : Int, r = iI z ∧ (xI u.1 u.2.1 u.2.2.1 u.2.2.2) ∧ (xE L K N u.1 u.2.1 u.2.2.1) ∧ (frE L K [(7, 1), (7, 6), (7, 7), (7, 8), (7, 10), (7, 14), (8, 1), (9, 0), (9, 1), (9, 2), (9, 3), (21, (-1)), (22, (-1)), (23, (-1)), (24, (-1)), (25, (-1)), (26, (-1)), (27, (-1)), (28, (-1)), (29, (-1)), (66, (-1)), (69, (-1)), (99, 0)] u.2.2.2 v) ∧ (rg z)) (fun u t => va_P (dC, dI) vwCl (xG u.1 cid u.2.1 u.2.2.1 u.2.2.2) t.heap ∧ va_K (dC, dI) vwCl (xT cid) t ∧ va_D (va_A (xG L cid K N v) sz) (xG u.1 cid u.2.1 u.2.2.1 u.2.2.2)) (va_A (xG L cid K N v) sz)) 5 636 (va_A (xG L cid K N v) sz) := by
  refine Met.ofW (cc := cX12_sheet) (maxL := 2) (ret := (some .int)) (by decide) rfl ?_
  intro p e s m args below meth c s₁ B hml hv
  obtain ⟨rfl, ⟨hsz, hP, hK, hD0⟩, hX⟩ := hv
  have hx := B.exec
  have hb := B.bytes
  have hr := B.returns
  have hts := atoms_spec (ws := (jk yX12_sheet cX12_sheet 2 (some .int))) B.pre
  have hj : ∀ w ∈ jw, w.before ([.ref p0.toNat] : List Value).toArray s = true := fun w h => hts w (jm h)
  have hown : s.vm.findClass RX12 = some m.cls := findClass_of_methodNamed B.named
  subst hsz
  have hD := hD0.self (sz := s.heap.size)
  generalize hAe : (va_A (xG L cid K N v) s.heap.size) = A at hD hX ⊢
  have hA : ∀ q : Nat, s.heap.size ≤ q → A q := fun q h => by rw [← hAe]; exact Or.inr h
  have hS : va_S A s.heap s.heap [] := va_S.rf
  have hE0 : xE L K N L K N := xE_rf
  have hF0 : frE L K [(7, 1), (7, 6), (7, 7), (7, 8), (7, 10), (7, 14), (8, 1), (9, 0), (9, 1), (9, 2), (9, 3), (21, (-1)), (22, (-1)), (23, (-1)), (24, (-1)), (25, (-1)), (26, (-1)), (27, (-1)), (28, (-1)), (29, (-1)), (66, (-1)), (69, (-1)), (99, 0)] v v := frE_rf
  have hXa := hX
  have hP : va_P (dC, dI) vwCl (xG L cid K N v) s.heap := hP
  have hl := lv_entry ([.ref p0.toNat]) (n := 2) (Nat.le_of_ble_eq_true rfl)
  rw [lg_entry_eq]
  generalize (lg_sl ([.ref p0.toNat]) ++ List.replicate (2 - (lg_sl ([.ref p0.toNat])).length) Slot.unset).toArray = ls at hl ⊢
  have hl : lv_has ls 2 [(0, .ref p0.toNat)] := hl
  generalize hQ : MQ below (va_Qi (fun (r : Int32) (u : (List Nat × (Int → Nat) × (Int → Int) × (Int → Int → Int))) => ∃ z : Int, r = iI z ∧ (xI u.1 u.2.1 u.2.2.1 u.2.2.2) ∧ (xE L K N u.1 u.2.1 u.2.2.1) ∧ (frE L K [(7, 1), (7, 6), (7, 7), (7, 8), (7, 10), (7, 14), (8, 1), (9, 0), (9, 1), (9, 2), (9, 3), (21, (-1)), (22, (-1)), (23, (-1)), (24, (-1)), (25, (-1)), (26, (-1)), (27, (-1)), (28, (-1)), (29, (-1)), (66, (-1)), (69, (-1)), (99, 0)] u.2.2.2 v) ∧ (rg z)) (fun u t => va_P (dC, dI) vwCl (xG u.1 cid u.2.1 u.2.2.1 u.2.2.2) t.heap ∧ va_K (dC, dI) vwCl (xT cid) t ∧ va_D A (xG u.1 cid u.2.1 u.2.2.1 u.2.2.2)) A) ([.ref p0.toNat] : List Value).toArray s 5 636 A = Q
  suffices ST : ∀ (H : Heap) (locs : List Loc), va_P (dC, dI) vwCl (xG L cid K N v) H → va_S A s.heap H locs → W p l e ({ frames := 35, cells := 5, slots := 636, locals := 791 }) s m ([.ref p0.toNat] : List Value).toArray below meth c H locs 0 0 Q (F0 m 0 ls []) from ST _ _ hP hS
  clear hP hS
  intro H locs hP hS
  refine lv_aload_n hx hb dX12_sheet_0 rfl (lv_at hl 0 rfl) ?_
  have h_1 : ok L K (v p0 3) 8 := xf_12_3 hI q0
  refine gx_RX12_19 (y := v p0 3) hx hb hj hown hK hP q0 ((xf_12_3 hI q0).1) rfl dX12_sheet_1 ?_
  refine jc_i (va_runV (As := []) (rest := []) ⟨hx, hb, hml, hown, hts⟩ (sX8_hasRoomForSheet l dC dI _ L cid K N tW sK sV v (v p0 3) hI h_1) (cwV 0 hts (jgoodV m_1320 m_1321 m_1322 m_928 m_1323) rfl rfl rfl (by decide +kernel) ⟨(Nat.le_of_ble_eq_true rfl), (Nat.le_of_ble_eq_true rfl)⟩) ⟨xP_blind, xrecv hK hP h_1 rfl rfl, fun U hU hW => ⟨rfl, xP_of hU hW hP hK hD hX hS (fun _ h => h) hA⟩⟩ rfl rfl hl.1 rfl (lv_room (Nat.le_of_ble_eq_true rfl)) dX12_sheet_4 ⟨(Nat.le_of_ble_eq_true rfl), (Nat.le_of_ble_eq_true rfl)⟩) hP hS hA (fun r_2 H locs w_3 hP hS => ?_)
  obtain ⟨z_4, rfl, h_5⟩ := w_3
  refine xr_if_eq (tgt := 21) hx hb dX12_sheet_7 (by decide) (by omega) (fun h_6 => ?_) (fun h_6 => ?_)
  · refine lv_iconst (v := iI (-1)) hx hb dX12_sheet_21 rfl ?_
    refine W.widen (k := 5) (n := 636) (Nat.le_of_ble_eq_true rfl) (Nat.le_of_ble_eq_true rfl) ?_
    rw [← hQ]
    exact W.iret (v := iI (-1)) hx hb hr (fun t ht hW => ⟨⟨iI (-1), (L, K, N, v), rfl, ⟨(-1), rfl, hI, hE0, hF0, by omega⟩, by rw [ht]; exact hP, va_K.moved hW.alike hK, hD⟩, hS.F ht⟩) hS.2.2 dX12_sheet_22
  · refine lv_aload_n hx hb dX12_sheet_10 rfl (lv_at hl 0 rfl) ?_
    have h_7 : ok L K (v p0 2) 7 := xf_12_2 hI q0
    refine gx_RX12_10 (y := v p0 2) hx hb hj hown hK hP q0 ((xf_12_2 hI q0).1) rfl dX12_sheet_11 ?_
    refine jcg_i (va_runV (As := []) (rest := []) ⟨hx, hb, hml, hown, hts⟩ (sX7_parse l dC dI _ L cid K N tW sK sV v (v p0 2) hI h_7) (cwV 0 hts (jgoodV m_981 m_982 m_983 m_677 m_984) rfl rfl rfl (by decide +kernel) ⟨(Nat.le_of_ble_eq_true rfl), (Nat.le_of_ble_eq_true rfl)⟩) ⟨xP_blind, xrecv hK hP h_7 rfl rfl, fun U hU hW => ⟨rfl, xP_of hU hW hP hK hD hX hS (fun _ h => h) hA⟩⟩ rfl rfl hl.1 rfl (lv_room (Nat.le_of_ble_eq_true rfl)) dX12_sheet_14 ⟨(Nat.le_of_ble_eq_true rfl), (Nat.le_of_ble_eq_true rfl)⟩) hD hS hA (fun r_8 v_12 H locs w_9 hP hK hD hS => ?_)
    obtain ⟨z_10, rfl, I_14, f_13, h_11⟩ := w_9
    have hP : va_P (dC, dI) vwCl (xG L cid K N v_12) H := hP
    have hD : va_D A (xG L cid K N v_12) := hD
    refine lv_iconst (v := iI (-1)) hx hb dX12_sheet_17 rfl ?_
    refine xr_icmp_eq (tgt := 23) hx hb dX12_sheet_18 (by decide) (by omega) (by omega) (fun h_15 => ?_) (fun h_15 => ?_)
    · refine lv_aload_n hx hb dX12_sheet_23 rfl (lv_at hl 0 rfl) ?_
      refine gx_RX12_19 (y := v p0 3) hx hb hj hown hK hP q0 ((xf_12_3 I_14 q0).1) (fr_use q0 f_13 rfl) dX12_sheet_24 ?_
      refine lv_aload_n hx hb dX12_sheet_27 rfl (lv_at hl 0 rfl) ?_
      refine gx_RX12_10 (y := v p0 2) hx hb hj hown hK hP q0 ((xf_12_2 I_14 q0).1) (fr_use q0 f_13 rfl) dX12_sheet_28 ?_
      refine jcg_q (va_runV (As := []) (rest := [.ref (v p0 3).toNat]) ⟨hx, hb, hml, hown, hts⟩ (sX7_compiled l dC dI _ L cid K N tW sK sV v_12 (v p0 2) I_14 h_7) (cwV 0 hts (jgoodV m_1324 m_1325 m_1326 m_677 m_1327) rfl rfl rfl (by decide +kernel) ⟨(Nat.le_of_ble_eq_true rfl), (Nat.le_of_ble_eq_true rfl)⟩) ⟨xP_blind, xrecv hK hP h_7 rfl rfl, fun U hU hW => ⟨rfl, xP_of hU hW hP hK hD hX hS (fun _ h => h) hA⟩⟩ rfl rfl hl.1 rfl (lv_room (Nat.le_of_ble_eq_true rfl)) dX12_sheet_31 ⟨(Nat.le_of_ble_eq_true rfl), (Nat.le_of_ble_eq_true rfl)⟩) hD hS hA (fun r_16 u_20 H locs w_17 hP hK hD hS => ?_)
      refine W.widen (k := 5) (n := 636) (Nat.le_of_ble_eq_true rfl) (Nat.le_of_ble_eq_true rfl) ?_
      obtain ⟨L_21, K_22, N_23, v_24⟩ := u_20
      obtain ⟨z_18, rfl, I_26, E_27, f_25, h_19⟩ := w_17
      have hP : va_P (dC, dI) vwCl (xG L_21 cid K_22 N_23 v_24) H := hP
      have hD : va_D A (xG L_21 cid K_22 N_23 v_24) := hD
      have I_26 : xI L_21 K_22 N_23 v_24 := I_26
      have E_27 : xE L K N L_21 K_22 N_23 := E_27
      have f_25 : frE L K [(9, 0), (9, 1), (9, 2), (9, 3), (66, (-1)), (69, (-1)), (99, 0)] v_24 v_12 := f_25
      have F_28 := frE_fr (W := [(7, 1), (7, 6), (7, 7), (7, 8), (7, 10), (7, 14), (8, 1), (9, 0), (9, 1), (9, 2), (9, 3), (21, (-1)), (22, (-1)), (23, (-1)), (24, (-1)), (25, (-1)), (26, (-1)), (27, (-1)), (28, (-1)), (29, (-1)), (66, (-1)), (69, (-1)), (99, 0)]) hE0 (fr_tr f_13 rfl fr_rf) rfl hF0
      have F_30 := frE_frE (W := [(7, 1), (7, 6), (7, 7), (7, 8), (7, 10), (7, 14), (8, 1), (9, 0), (9, 1), (9, 2), (9, 3), (21, (-1)), (22, (-1)), (23, (-1)), (24, (-1)), (25, (-1)), (26, (-1)), (27, (-1)), (28, (-1)), (29, (-1)), (66, (-1)), (69, (-1)), (99, 0)]) hE0 f_25 rfl F_28
      have E_29 := xE_tr hE0 E_27
      have h_31 := xE_ok E_27 q0
      have h_32 := xE_ok E_27 h_1
      have h_33 := xE_ok E_27 h_7
      refine jt_q (.ref z_18.toNat) (rv_ref h_19.1) ?_
      refine jcg_i (va_runV (As := [.ref z_18.toNat]) (rest := []) ⟨hx, hb, hml, hown, hts⟩ (sX8_keep l dC dI _ L_21 cid K_22 N_23 tW sK sV v_24 (v p0 3) z_18 I_26 h_32 h_19) (cwV 1 hts (jgoodV m_1328 m_1329 m_1330 m_928 m_1331) rfl rfl rfl (by decide +kernel) ⟨(Nat.le_of_ble_eq_true rfl), (Nat.le_of_ble_eq_true rfl)⟩) ⟨xP_blind, xrecv hK hP h_32 rfl rfl, fun U hU hW => ⟨rfl, xP_of hU hW hP hK hD hX hS (fun _ h => h) hA⟩⟩ rfl rfl hl.1 rfl (lv_room (Nat.le_of_ble_eq_true rfl)) dX12_sheet_34 ⟨(Nat.le_of_ble_eq_true rfl), (Nat.le_of_ble_eq_true rfl)⟩) hD hS hA (fun r_34 v_38 H locs w_35 hP hK hD hS => ?_)
      obtain ⟨z_36, rfl, I_40, f_39, h_37⟩ := w_35
      have hP : va_P (dC, dI) vwCl (xG L_21 cid K_22 N_23 v_38) H := hP
      have hD : va_D A (xG L_21 cid K_22 N_23 v_38) := hD
      refine lv_istore_n (lv' := [(1, .int (iI z_36)), (0, .ref p0.toNat)]) hx hb dX12_sheet_37 rfl hl (by decide) rfl (fun ls hl => ?_)
      refine lv_aload_n hx hb dX12_sheet_38 rfl (lv_at hl 1 rfl) ?_
      refine gx_RX12_10 (y := v p0 2) hx hb hj hown hK hP h_31 ((xf_12_2 I_40 h_31).1) (((fr_use h_31 f_39 rfl)).trans (((frE_use q0 f_25 rfl)).trans (fr_use q0 f_13 rfl))) dX12_sheet_39 ?_
      refine lv_iconst (v := iI 0) hx hb dX12_sheet_42 rfl ?_
      refine px_RX12_103 (y := 0) hx hb hj hown hK hP hD hS I_40 h_33 ⟨by omega, by omega⟩ dX12_sheet_43 (fun v_41 H locs f_42 e_43 o_44 I_45 hP hD hS => ?_)
      refine lv_iload_n hx hb dX12_sheet_46 rfl (lv_at hl 0 rfl) ?_
      have F_46 := frE_fr (W := [(7, 1), (7, 6), (7, 7), (7, 8), (7, 10), (7, 14), (8, 1), (9, 0), (9, 1), (9, 2), (9, 3), (21, (-1)), (22, (-1)), (23, (-1)), (24, (-1)), (25, (-1)), (26, (-1)), (27, (-1)), (28, (-1)), (29, (-1)), (66, (-1)), (69, (-1)), (99, 0)]) E_29 (fr_tr f_42 rfl (fr_tr f_39 rfl fr_rf)) rfl F_30
      rw [← hQ]
      exact W.iret (v := iI z_36) hx hb hr (fun t ht hW => ⟨⟨iI z_36, (L_21, K_22, N_23, v_41), rfl, ⟨z_36, rfl, I_45, E_29, F_46, by omega⟩, by rw [ht]; exact hP, va_K.moved hW.alike hK, hD⟩, hS.F ht⟩) hS.2.2 dX12_sheet_47
    · refine lv_iconst (v := iI (-1)) hx hb dX12_sheet_21 rfl ?_
      have F_47 := frE_fr (W := [(7, 1), (7, 6), (7, 7), (7, 8), (7, 10), (7, 14), (8, 1), (9, 0), (9, 1), (9, 2), (9, 3), (21, (-1)), (22, (-1)), (23, (-1)), (24, (-1)), (25, (-1)), (26, (-1)), (27, (-1)), (28, (-1)), (29, (-1)), (66, (-1)), (69, (-1)), (99, 0)]) hE0 (fr_tr f_13 rfl fr_rf) rfl hF0
      refine W.widen (k := 5) (n := 636) (Nat.le_of_ble_eq_true rfl) (Nat.le_of_ble_eq_true rfl) ?_
      rw [← hQ]
      exact W.iret (v := iI (-1)) hx hb hr (fun t ht hW => ⟨⟨iI (-1), (L, K, N, v_12), rfl, ⟨(-1), rfl, I_14, hE0, F_47, by omega⟩, by rw [ht]; exact hP, va_K.moved hW.alike hK, hD⟩, hS.F ht⟩) hS.2.2 dX12_sheet_22
set_option maxHeartbeats 2000000 in
set_option maxRecDepth 100000 in
theorem sX12_newEntry (l : Launch) (dC : Nat → ClassId) (dI : Nat → Nat → Nat) (sz : Nat) (L : List Nat) (cid : Nat → ClassId) (K : Int → Nat) (N : Int → Int) (tW : Nat) (sK sV : Nat → Nat) (v : Int → Int → Int) (p0 : Int) (p1 : Int) (p2 : Int) (p3 : Int) (p4 : Int) (hI : xI L K N v) (q0 : ok L K p0 12) (q1 : rg p1) (q2 : rg p2) (q3 : rg p3) (q4 : rg p4) : Met l yX12_newEntry (jk yX12_newEntry cX12_newEntry 7 (some (.object "BookOfAll$Entry"))) ({ frames := 5, cells := 2, slots := 30, locals := 137 }) (va_Pc [.ref p0.toNat, .int (iI p1), .int (iI p2), .int (iI p3), .int (iI p4)] (xP (dC, dI) (xG L cid K N v) (xT cid) tW sK sV sz)) (va_Qq (fun (r : Option Nat) (u : (List Nat × (Int → Nat) × (Int → Int) × (Int → Int → Int))) => ∃ z : Int, r = opt z ∧ (xI u.1 u.2.1 u.2.2.1 u.2.2.2) ∧ (xE L K N u.1 u.2.1 u.2.2.1) ∧ (frE L K [(0, 3), (0, 4), (0, 5), (0, 6), (6, 1), (6, 2), (6, 3), (6, 4), (6, 5), (12, 7), (34, (-1)), (36, (-1)), (65, (-1)), (99, 0)] u.2.2.2 v) ∧ (z < 0 ∨ ok u.1 u.2.1 z 0)) (fun u t => va_P (dC, dI) vwCl (xG u.1 cid u.2.1 u.2.2.1 u.2.2.2) t.heap ∧ va_K (dC, dI) vwCl (xT cid) t ∧ va_D (va_A (xG L cid K N v) sz) (xG u.1 cid u.2.1 u.2.2.1 u.2.2.2)) (va_A (xG L cid K N v) sz)) 2 30 (va_A (xG L cid K N v) sz) := by
  refine Met.ofW (cc := cX12_newEntry) (maxL := 7) (ret := (some (.object "BookOfAll$Entry"))) (by decide) rfl ?_
  intro p e s m args below meth c s₁ B hml hv
  obtain ⟨rfl, ⟨hsz, hP, hK, hD0⟩, hX⟩ := hv
  have hx := B.exec
  have hb := B.bytes
  have hr := B.returns
  have hts := atoms_spec (ws := (jk yX12_newEntry cX12_newEntry 7 (some (.object "BookOfAll$Entry")))) B.pre
  have hj : ∀ w ∈ jw, w.before ([.ref p0.toNat, .int (iI p1), .int (iI p2), .int (iI p3), .int (iI p4)] : List Value).toArray s = true := fun w h => hts w (jm h)
  have hown : s.vm.findClass RX12 = some m.cls := findClass_of_methodNamed B.named
  subst hsz
  have hD := hD0.self (sz := s.heap.size)
  generalize hAe : (va_A (xG L cid K N v) s.heap.size) = A at hD hX ⊢
  have hA : ∀ q : Nat, s.heap.size ≤ q → A q := fun q h => by rw [← hAe]; exact Or.inr h
  have hS : va_S A s.heap s.heap [] := va_S.rf
  have hE0 : xE L K N L K N := xE_rf
  have hF0 : frE L K [(0, 3), (0, 4), (0, 5), (0, 6), (6, 1), (6, 2), (6, 3), (6, 4), (6, 5), (12, 7), (34, (-1)), (36, (-1)), (65, (-1)), (99, 0)] v v := frE_rf
  have hXa := hX
  have hP : va_P (dC, dI) vwCl (xG L cid K N v) s.heap := hP
  have hl := lv_entry ([.ref p0.toNat, .int (iI p1), .int (iI p2), .int (iI p3), .int (iI p4)]) (n := 7) (Nat.le_of_ble_eq_true rfl)
  rw [lg_entry_eq]
  generalize (lg_sl ([.ref p0.toNat, .int (iI p1), .int (iI p2), .int (iI p3), .int (iI p4)]) ++ List.replicate (7 - (lg_sl ([.ref p0.toNat, .int (iI p1), .int (iI p2), .int (iI p3), .int (iI p4)])).length) Slot.unset).toArray = ls at hl ⊢
  have hl : lv_has ls 7 [(0, .ref p0.toNat), (1, .int (iI p1)), (2, .int (iI p2)), (3, .int (iI p3)), (4, .int (iI p4))] := hl
  generalize hQ : MQ below (va_Qq (fun (r : Option Nat) (u : (List Nat × (Int → Nat) × (Int → Int) × (Int → Int → Int))) => ∃ z : Int, r = opt z ∧ (xI u.1 u.2.1 u.2.2.1 u.2.2.2) ∧ (xE L K N u.1 u.2.1 u.2.2.1) ∧ (frE L K [(0, 3), (0, 4), (0, 5), (0, 6), (6, 1), (6, 2), (6, 3), (6, 4), (6, 5), (12, 7), (34, (-1)), (36, (-1)), (65, (-1)), (99, 0)] u.2.2.2 v) ∧ (z < 0 ∨ ok u.1 u.2.1 z 0)) (fun u t => va_P (dC, dI) vwCl (xG u.1 cid u.2.1 u.2.2.1 u.2.2.2) t.heap ∧ va_K (dC, dI) vwCl (xT cid) t ∧ va_D A (xG u.1 cid u.2.1 u.2.2.1 u.2.2.2)) A) ([.ref p0.toNat, .int (iI p1), .int (iI p2), .int (iI p3), .int (iI p4)] : List Value).toArray s 2 30 A = Q
  suffices ST : ∀ (H : Heap) (locs : List Loc), va_P (dC, dI) vwCl (xG L cid K N v) H → va_S A s.heap H locs → W p l e ({ frames := 5, cells := 2, slots := 30, locals := 137 }) s m ([.ref p0.toNat, .int (iI p1), .int (iI p2), .int (iI p3), .int (iI p4)] : List Value).toArray below meth c H locs 0 0 Q (F0 m 0 ls []) from ST _ _ hP hS
  clear hP hS
  intro H locs hP hS
  refine lv_iload_n hx hb dX12_newEntry_0 rfl (lv_at hl 2 rfl) ?_
  refine lv_iload_n hx hb dX12_newEntry_1 rfl (lv_at hl 3 rfl) ?_
  refine lv_iload hx hb dX12_newEntry_2 (lv_at hl 4 rfl) ?_
  refine jc_i (va_runS (As := [.int (iI p2), .int (iI p3), .int (iI p4)]) (rest := []) ⟨hx, hb, hml, hown, hts⟩ (sX0_headingSize l dC dI _ p2 p3 p4 (by omega) (by omega) (by omega)) (va_cwS 3 hts (jgoodS m_1332 m_1333 m_666 m_1334) rfl rfl rfl (by decide +kernel) ⟨(Nat.le_of_ble_eq_true rfl), (Nat.le_of_ble_eq_true rfl)⟩) ⟨jw_blind0, fun U hU hW => ⟨rfl, congrArg Array.size hU⟩⟩ rfl rfl hl.1 rfl (lv_room (Nat.le_of_ble_eq_true rfl)) dX12_newEntry_4 ⟨(Nat.le_of_ble_eq_true rfl), (Nat.le_of_ble_eq_true rfl)⟩) hP hS hA (fun r_1 H locs w_2 hP hS => ?_)
  obtain ⟨z_3, rfl, h_4⟩ := w_2
  refine lv_istore (lv' := [(5, .int (iI z_3)), (0, .ref p0.toNat), (1, .int (iI p1)), (2, .int (iI p2)), (3, .int (iI p3)), (4, .int (iI p4))]) hx hb dX12_newEntry_7 hl (by decide) rfl (fun ls hl => ?_)
  refine lv_iload hx hb dX12_newEntry_9 (lv_at hl 0 rfl) ?_
  refine lv_iconst (v := iI (-1)) hx hb dX12_newEntry_11 rfl ?_
  refine xr_icmp_eq (tgt := 24) hx hb dX12_newEntry_12 (by decide) (by omega) (by omega) (fun h_5 => ?_) (fun h_5 => ?_)
  · refine lv_null hx hb dX12_newEntry_24 ?_
    refine jt_q (rv (-1)) rv_nul ?_
    refine W.widen (k := 2) (n := 30) (Nat.le_of_ble_eq_true rfl) (Nat.le_of_ble_eq_true rfl) ?_
    rw [← hQ]
    exact W.aret (v := rv (-1)) hx hb hr (Or.inl ⟨_, rfl⟩) (rv_or (-1)) (fun t ht hW => ⟨⟨opt (-1), (L, K, N, v), rfl, ⟨-1, rfl, hI, hE0, hF0, (Or.inl (by decide))⟩, by rw [ht]; exact hP, va_K.moved hW.alike hK, hD⟩, hS.F ht⟩) hS.2.2 dX12_newEntry_25
  · refine lv_aload_n hx hb dX12_newEntry_15 rfl (lv_at hl 1 rfl) ?_
    have h_6 : 0 ≤ v p0 7 ∧ v p0 7 ≤ 60 := xf_12_7 hI q0
    refine gx_RX12_203 (y := v p0 7) hx hb hj hown hK hP q0 rfl dX12_newEntry_16 ?_
    refine lv_bipush (v := iI 60) hx hb dX12_newEntry_19 rfl ?_
    refine xr_icmp_lt (tgt := 26) hx hb dX12_newEntry_21 (by decide) (by omega) (by omega) (fun h_7 => ?_) (fun h_7 => ?_)
    · refine va_new (ci := 0) (fs := [.int 0, .int 0, .null, .long 0, .int 0, .int 0, .int 0, .int 0, .int 0, .int 0, .int 0, .int 0, .int 0, .int 0, .int 0, .int 0, .long 0, .int 0]) (C := RX0) (T := TX0) (N := 18) hx hb hts (jh hin_RX0) tyX0 tyX0_ok hown (hts (.classLink RX12 41 RX0) (jm m_1335)) (hts (.instantiable RX0 18) (jm m_1336)) (hts (.initialized RX0) (jm m_666)) hK hP hD hS hA rfl jd_RX0 (Nat.le_of_ble_eq_true rfl) (Nat.le_of_ble_eq_true rfl) dX12_newEntry_26 (fun q_8 H hPn hDn hS => ?_)
      refine W.widen (k := 1) (n := 18) (Nat.le_of_ble_eq_true rfl) (Nat.le_of_ble_eq_true rfl) ?_
      have hP := jp_init hPn
      have hD := jd_init hDn
      refine lv_dup hx hb dX12_newEntry_29 rfl ?_
      refine lv_aload_n hx hb dX12_newEntry_30 rfl (lv_at hl 1 rfl) ?_
      refine gx_RX12_203 (y := v p0 7) hx hb hj hown hK hP q0 rfl dX12_newEntry_31 ?_
      refine lv_iload_n hx hb dX12_newEntry_34 rfl (lv_at hl 2 rfl) ?_
      refine lv_iload hx hb dX12_newEntry_35 (lv_at hl 0 rfl) ?_
      have e_9 := xn_nI (z := z_3) (by omega) (by omega)
      refine jt_i (nI (Int.toNat z_3)) e_9.1 ?_
      refine jci_v (va_runI (As := [.int (iI (v p0 7)), .int (iI p1), .int (nI (Int.toNat z_3))]) (rest := [.ref q_8]) ⟨hx, hb, hml, hown, hts⟩ (iX0_init_1 l dC dI _ q_8 (iI (v p0 7)) (iI p1) (Int.toNat z_3) (by omega) e_9.2) (cwI 3 hts (jgoodI m_1344) rfl rfl rfl (hts (.initialized RX0) (jm m_666)) (hts (.methodLink RX12 206 yX0_init) (jm m_1345)) (hts (.instanceMethod yX0_init) (jm m_1346)) rfl (by decide +kernel) ⟨(Nat.le_of_ble_eq_true rfl), (Nat.le_of_ble_eq_true rfl)⟩) ⟨jw_blind, fun U hU hW => ⟨rfl, jw_of hU hW (jp_last hPn) (hK.sub [] rfl) (jd_last hDn)⟩⟩ rfl rfl hl.1 rfl (lv_room (Nat.le_of_ble_eq_true rfl)) dX12_newEntry_37 ⟨(Nat.le_of_ble_eq_true rfl), (Nat.le_of_ble_eq_true rfl)⟩) hPn hDn hS hA (fun u_10 H locs hPn hK2 hDn hS => ?_)
      refine W.widen (k := 2) (n := 30) (Nat.le_of_ble_eq_true rfl) (Nat.le_of_ble_eq_true rfl) ?_
      have h_11 : u_10.2 1 = cid 1 := cidE (t := .byte) (hK2.sub [0] rfl) hK rfl (fun x h => h)
      obtain ⟨_, z_12, L_13, K_14, N_15, v_16, hz9, E_17, h_18, q_19, h_20, h_21, f_22, I_23, hP, hD⟩ := xnew_0 hI hPn hDn h_11 (by omega) ⟨by omega, by omega⟩ ⟨by omega, by omega⟩
      subst hz9
      have F_25 := frE_frE (W := [(0, 3), (0, 4), (0, 5), (0, 6), (6, 1), (6, 2), (6, 3), (6, 4), (6, 5), (12, 7), (34, (-1)), (36, (-1)), (65, (-1)), (99, 0)]) hE0 (f_22 []) rfl hF0
      have E_24 := xE_tr hE0 E_17
      have h_26 := xE_ok E_17 q0
      refine lv_astore (lv' := [(6, .ref z_12.toNat), (5, .int (iI z_3)), (0, .ref p0.toNat), (1, .int (iI p1)), (2, .int (iI p2)), (3, .int (iI p3)), (4, .int (iI p4))]) hx hb dX12_newEntry_40 hl (by decide) rfl (fun ls hl => ?_)
      refine lv_aload hx hb dX12_newEntry_42 (lv_at hl 0 rfl) ?_
      refine lv_iload_n hx hb dX12_newEntry_44 rfl (lv_at hl 4 rfl) ?_
      refine lv_iload_n hx hb dX12_newEntry_45 rfl (lv_at hl 5 rfl) ?_
      refine lv_iload hx hb dX12_newEntry_46 (lv_at hl 6 rfl) ?_
      refine jcg_v (va_runV (As := [.int (iI p2), .int (iI p3), .int (iI p4)]) (rest := []) ⟨hx, hb, hml, hown, hts⟩ (sX0_readHeading l dC dI _ L_13 cid K_14 N_15 tW sK sV v_16 z_12 p2 p3 p4 I_23 h_18 (by omega) (by omega) (by omega)) (cwV 3 hts (jgoodV m_1347 m_1348 m_1349 m_666 m_1350) rfl rfl rfl (by decide +kernel) ⟨(Nat.le_of_ble_eq_true rfl), (Nat.le_of_ble_eq_true rfl)⟩) ⟨xP_blind, xrecv hK hP h_18 rfl rfl, fun U hU hW => ⟨rfl, xP_of hU hW hP hK hD hX hS (fun _ h => h) hA⟩⟩ rfl rfl hl.1 rfl (lv_room (Nat.le_of_ble_eq_true rfl)) dX12_newEntry_48 ⟨(Nat.le_of_ble_eq_true rfl), (Nat.le_of_ble_eq_true rfl)⟩) hD hS hA (fun v_30 H locs w_28 hP hK hD hS => ?_)
      obtain ⟨I_32, f_31⟩ := w_28
      have hP : va_P (dC, dI) vwCl (xG L_13 cid K_14 N_15 v_30) H := hP
      have hD : va_D A (xG L_13 cid K_14 N_15 v_30) := hD
      refine lv_aload_n hx hb dX12_newEntry_51 rfl (lv_at hl 2 rfl) ?_
      have h_33 : ok L_13 K_14 (v p0 6) 36 := xf_12_6 hI h_26
      have h_34 : N_15 (v p0 6) = 60 := xn_36 I_32 h_33
      refine gx_RX12_43 (y := v p0 6) hx hb hj hown hK hP h_26 ((xf_12_6 I_32 h_26).1) (((fr_use h_26 f_31 rfl)).trans (frE_use q0 (f_22 []) rfl)) dX12_newEntry_52 ?_
      refine lv_aload_n hx hb dX12_newEntry_55 rfl (lv_at hl 2 rfl) ?_
      refine gx_RX12_203 (y := v p0 7) hx hb hj hown hK hP h_26 (((fr_use h_26 f_31 rfl)).trans (frE_use q0 (f_22 []) rfl)) dX12_newEntry_56 ?_
      refine lv_aload hx hb dX12_newEntry_59 (lv_at hl 0 rfl) ?_
      refine sx_36 (y := z_12) hx hb hK hP hD hS I_32 h_33 (by omega) (by omega) (by omega) h_18 dX12_newEntry_61 (fun v_35 H locs f_36 e_37 o_38 I_39 hP hD hS => ?_)
      refine lv_aload_n hx hb dX12_newEntry_62 rfl (lv_at hl 2 rfl) ?_
      refine lv_dup hx hb dX12_newEntry_63 rfl ?_
      refine gx_RX12_203 (y := v p0 7) hx hb hj hown hK hP h_26 (((fr_use h_26 f_36 rfl)).trans (((fr_use h_26 f_31 rfl)).trans (frE_use q0 (f_22 []) rfl))) dX12_newEntry_64 ?_
      refine lv_iconst (v := iI 1) hx hb dX12_newEntry_67 rfl ?_
      refine xr_add hx hb dX12_newEntry_68 ?_
      refine px_RX12_203 (y := (v p0 7) + 1) hx hb hj hown hK hP hD hS I_39 h_26 ⟨by omega, by omega⟩ dX12_newEntry_69 (fun v_40 H locs f_41 e_42 o_43 I_44 hP hD hS => ?_)
      refine lv_aload_n hx hb dX12_newEntry_72 rfl (lv_at hl 2 rfl) ?_
      have h_45 : ok L_13 K_14 (v p0 4) 6 := xf_12_4 hI h_26
      refine gx_RX12_28 (y := v p0 4) hx hb hj hown hK hP h_26 ((xf_12_4 I_44 h_26).1) (((fr_use h_26 f_41 rfl)).trans (((fr_use h_26 f_36 rfl)).trans (((fr_use h_26 f_31 rfl)).trans (frE_use q0 (f_22 []) rfl)))) dX12_newEntry_73 ?_
      refine lv_iconst (v := iI (-1)) hx hb dX12_newEntry_76 rfl ?_
      refine lv_aload_n hx hb dX12_newEntry_77 rfl (lv_at hl 2 rfl) ?_
      have h_46 : 0 ≤ v p0 0 ∧ v p0 0 ≤ 2000 := xf_12_0 hI h_26
      refine gx_RX12_133 (y := v p0 0) hx hb hj hown hK hP h_26 (((fr_use h_26 f_41 rfl)).trans (((fr_use h_26 f_36 rfl)).trans (((fr_use h_26 f_31 rfl)).trans (frE_use q0 (f_22 []) rfl)))) dX12_newEntry_78 ?_
      refine jcg_v (va_runV (As := [.int (iI (-1)), .int (iI (v p0 0))]) (rest := []) ⟨hx, hb, hml, hown, hts⟩ (sX6_take l dC dI _ L_13 cid K_14 N_15 tW sK sV v_40 (v p0 4) (-1) (v p0 0) I_44 h_45 (by omega) (by omega)) (cwV 2 hts (jgoodV m_1003 m_1004 m_1005 m_860 m_1006) rfl rfl rfl (by decide +kernel) ⟨(Nat.le_of_ble_eq_true rfl), (Nat.le_of_ble_eq_true rfl)⟩) ⟨xP_blind, xrecv hK hP h_45 rfl rfl, fun U hU hW => ⟨rfl, xP_of hU hW hP hK hD hX hS (fun _ h => h) hA⟩⟩ rfl rfl hl.1 rfl (lv_room (Nat.le_of_ble_eq_true rfl)) dX12_newEntry_81 ⟨(Nat.le_of_ble_eq_true rfl), (Nat.le_of_ble_eq_true rfl)⟩) hD hS hA (fun v_50 H locs w_48 hP hK hD hS => ?_)
      obtain ⟨I_52, f_51⟩ := w_48
      have hP : va_P (dC, dI) vwCl (xG L_13 cid K_14 N_15 v_50) H := hP
      have hD : va_D A (xG L_13 cid K_14 N_15 v_50) := hD
      refine lv_aload hx hb dX12_newEntry_84 (lv_at hl 0 rfl) ?_
      refine lv_aload_n hx hb dX12_newEntry_86 rfl (lv_at hl 2 rfl) ?_
      refine lv_aload hx hb dX12_newEntry_87 (lv_at hl 0 rfl) ?_
      refine jcg_i (va_runV (As := [.ref z_12.toNat]) (rest := [.ref z_12.toNat]) ⟨hx, hb, hml, hown, hts⟩ (sX12_volumeByKey l dC dI _ L_13 cid K_14 N_15 tW sK sV v_50 p0 z_12 I_52 h_26 h_18) (cwV 1 hts (jgoodV m_1007 m_1008 m_1009 m_873 m_1010) rfl rfl rfl (by decide +kernel) ⟨(Nat.le_of_ble_eq_true rfl), (Nat.le_of_ble_eq_true rfl)⟩) ⟨xP_blind, xrecv hK hP h_26 rfl rfl, fun U hU hW => ⟨rfl, xP_of hU hW hP hK hD hX hS (fun _ h => h) hA⟩⟩ rfl rfl hl.1 rfl (lv_room (Nat.le_of_ble_eq_true rfl)) dX12_newEntry_89 ⟨(Nat.le_of_ble_eq_true rfl), (Nat.le_of_ble_eq_true rfl)⟩) hD hS hA (fun r_53 v_57 H locs w_54 hP hK hD hS => ?_)
      obtain ⟨z_55, rfl, I_59, f_58, h_56⟩ := w_54
      have hP : va_P (dC, dI) vwCl (xG L_13 cid K_14 N_15 v_57) H := hP
      have hD : va_D A (xG L_13 cid K_14 N_15 v_57) := hD
      refine px_RX12_220 (y := z_55) hx hb hj hown hK hP hD hS I_59 h_18 ⟨by omega, by omega⟩ dX12_newEntry_92 (fun v_60 H locs f_61 e_62 o_63 I_64 hP hD hS => ?_)
      refine lv_aload hx hb dX12_newEntry_95 (lv_at hl 0 rfl) ?_
      have F_65 := frE_fr (W := [(0, 3), (0, 4), (0, 5), (0, 6), (6, 1), (6, 2), (6, 3), (6, 4), (6, 5), (12, 7), (34, (-1)), (36, (-1)), (65, (-1)), (99, 0)]) E_24 (fr_tr f_61 rfl (fr_tr f_58 rfl (fr_tr f_51 rfl (fr_tr f_41 rfl (fr_tr f_36 rfl (fr_tr f_31 rfl fr_rf)))))) rfl F_25
      rw [← hQ]
      refine jt_q (rv z_12) (rv_ref (h_18).1).symm ?_
      exact W.aret (v := rv z_12) hx hb hr (Or.inl ⟨_, rfl⟩) (rv_or z_12) (fun t ht hW => ⟨⟨opt z_12, (L_13, K_14, N_15, v_60), rfl, ⟨z_12, rfl, I_64, E_24, F_65, (Or.inr h_18)⟩, by rw [ht]; exact hP, va_K.moved hW.alike hK, hD⟩, hS.F ht⟩) hS.2.2 dX12_newEntry_97
    · refine lv_null hx hb dX12_newEntry_24 ?_
      refine jt_q (rv (-1)) rv_nul ?_
      refine W.widen (k := 2) (n := 30) (Nat.le_of_ble_eq_true rfl) (Nat.le_of_ble_eq_true rfl) ?_
      rw [← hQ]
      exact W.aret (v := rv (-1)) hx hb hr (Or.inl ⟨_, rfl⟩) (rv_or (-1)) (fun t ht hW => ⟨⟨opt (-1), (L, K, N, v), rfl, ⟨-1, rfl, hI, hE0, hF0, (Or.inl (by decide))⟩, by rw [ht]; exact hP, va_K.moved hW.alike hK, hD⟩, hS.F ht⟩) hS.2.2 dX12_newEntry_25
set_option maxHeartbeats 2000000 in
set_option maxRecDepth 100000 in
theorem sX12_article (l : Launch) (dC : Nat → ClassId) (dI : Nat → Nat → Nat) (sz : Nat) (L : List Nat) (cid : Nat → ClassId) (K : Int → Nat) (N : Int → Int) (tW : Nat) (sK sV : Nat → Nat) (v : Int → Int → Int) (p0 : Int) (p1 : Int) (p2 : Int) (p3 : Int) (p4 : Int) (hI : xI L K N v) (q0 : ok L K p0 12) (q1 : rg p1) (q2 : rg p2) (q3 : rg p3) (q4 : rg p4) : Met l yX12_article (jk yX12_article cX12_article 9 (some .int)) ({ frames := 6, cells := 2, slots := 30, locals := 163 }) (va_Pc [.ref p0.toNat, .int (iI p1), .int (iI p2), .int (iI p3), .int (iI p4)] (xP (dC, dI) (xG L cid K N v) (xT cid) tW sK sV sz)) (va_Qi (fun (r : Int32) (u : (List Nat × (Int → Nat) × (Int → Int) × (Int → Int → Int))) => ∃ z : Int, r = iI z ∧ (xI u.1 u.2.1 u.2.2.1 u.2.2.2) ∧ (xE L K N u.1 u.2.1 u.2.2.1) ∧ (frE L K [(0, 3), (0, 4), (0, 5), (0, 6), (0, 7), (0, 8), (0, 9), (6, 1), (6, 2), (6, 3), (6, 4), (6, 5), (12, 7), (34, (-1)), (36, (-1)), (65, (-1)), (99, 0)] u.2.2.2 v) ∧ (rg z)) (fun u t => va_P (dC, dI) vwCl (xG u.1 cid u.2.1 u.2.2.1 u.2.2.2) t.heap ∧ va_K (dC, dI) vwCl (xT cid) t ∧ va_D (va_A (xG L cid K N v) sz) (xG u.1 cid u.2.1 u.2.2.1 u.2.2.2)) (va_A (xG L cid K N v) sz)) 2 30 (va_A (xG L cid K N v) sz) := by
  refine Met.ofW (cc := cX12_article) (maxL := 9) (ret := (some .int)) (by decide) rfl ?_
  intro p e s m args below meth c s₁ B hml hv
  obtain ⟨rfl, ⟨hsz, hP, hK, hD0⟩, hX⟩ := hv
  have hx := B.exec
  have hb := B.bytes
  have hr := B.returns
  have hts := atoms_spec (ws := (jk yX12_article cX12_article 9 (some .int))) B.pre
  have hj : ∀ w ∈ jw, w.before ([.ref p0.toNat, .int (iI p1), .int (iI p2), .int (iI p3), .int (iI p4)] : List Value).toArray s = true := fun w h => hts w (jm h)
  have hown : s.vm.findClass RX12 = some m.cls := findClass_of_methodNamed B.named
  subst hsz
  have hD := hD0.self (sz := s.heap.size)
  generalize hAe : (va_A (xG L cid K N v) s.heap.size) = A at hD hX ⊢
  have hA : ∀ q : Nat, s.heap.size ≤ q → A q := fun q h => by rw [← hAe]; exact Or.inr h
  have hS : va_S A s.heap s.heap [] := va_S.rf
  have hE0 : xE L K N L K N := xE_rf
  have hF0 : frE L K [(0, 3), (0, 4), (0, 5), (0, 6), (0, 7), (0, 8), (0, 9), (6, 1), (6, 2), (6, 3), (6, 4), (6, 5), (12, 7), (34, (-1)), (36, (-1)), (65, (-1)), (99, 0)] v v := frE_rf
  have hXa := hX
  have hP : va_P (dC, dI) vwCl (xG L cid K N v) s.heap := hP
  have hl := lv_entry ([.ref p0.toNat, .int (iI p1), .int (iI p2), .int (iI p3), .int (iI p4)]) (n := 9) (Nat.le_of_ble_eq_true rfl)
  rw [lg_entry_eq]
  generalize (lg_sl ([.ref p0.toNat, .int (iI p1), .int (iI p2), .int (iI p3), .int (iI p4)]) ++ List.replicate (9 - (lg_sl ([.ref p0.toNat, .int (iI p1), .int (iI p2), .int (iI p3), .int (iI p4)])).length) Slot.unset).toArray = ls at hl ⊢
  have hl : lv_has ls 9 [(0, .ref p0.toNat), (1, .int (iI p1)), (2, .int (iI p2)), (3, .int (iI p3)), (4, .int (iI p4))] := hl
  generalize hQ : MQ below (va_Qi (fun (r : Int32) (u : (List Nat × (Int → Nat) × (Int → Int) × (Int → Int → Int))) => ∃ z : Int, r = iI z ∧ (xI u.1 u.2.1 u.2.2.1 u.2.2.2) ∧ (xE L K N u.1 u.2.1 u.2.2.1) ∧ (frE L K [(0, 3), (0, 4), (0, 5), (0, 6), (0, 7), (0, 8), (0, 9), (6, 1), (6, 2), (6, 3), (6, 4), (6, 5), (12, 7), (34, (-1)), (36, (-1)), (65, (-1)), (99, 0)] u.2.2.2 v) ∧ (rg z)) (fun u t => va_P (dC, dI) vwCl (xG u.1 cid u.2.1 u.2.2.1 u.2.2.2) t.heap ∧ va_K (dC, dI) vwCl (xT cid) t ∧ va_D A (xG u.1 cid u.2.1 u.2.2.1 u.2.2.2)) A) ([.ref p0.toNat, .int (iI p1), .int (iI p2), .int (iI p3), .int (iI p4)] : List Value).toArray s 2 30 A = Q
  suffices ST : ∀ (H : Heap) (locs : List Loc), va_P (dC, dI) vwCl (xG L cid K N v) H → va_S A s.heap H locs → W p l e ({ frames := 6, cells := 2, slots := 30, locals := 163 }) s m ([.ref p0.toNat, .int (iI p1), .int (iI p2), .int (iI p3), .int (iI p4)] : List Value).toArray below meth c H locs 0 0 Q (F0 m 0 ls []) from ST _ _ hP hS
  clear hP hS
  intro H locs hP hS
  refine lv_iload hx hb dX12_article_0 (lv_at hl 4 rfl) ?_
  refine lv_sipush (v := iI 10000) hx hb dX12_article_2 rfl ?_
  refine xr_divA hx hb dX12_article_5 (by omega) (by omega) (fun z_1 h_2 => ?_)
  refine lv_istore (lv' := [(5, .int (iI z_1)), (0, .ref p0.toNat), (1, .int (iI p1)), (2, .int (iI p2)), (3, .int (iI p3)), (4, .int (iI p4))]) hx hb dX12_article_6 hl (by decide) rfl (fun ls hl => ?_)
  refine lv_iload hx hb dX12_article_8 (lv_at hl 5 rfl) ?_
  refine lv_sipush (v := iI 1000) hx hb dX12_article_10 rfl ?_
  refine xr_divA hx hb dX12_article_13 (by omega) (by omega) (fun z_3 h_4 => ?_)
  refine lv_bipush (v := iI 10) hx hb dX12_article_14 rfl ?_
  refine xr_remA hx hb dX12_article_16 (by omega) (by omega) (fun z_5 h_6 => ?_)
  refine lv_istore (lv' := [(6, .int (iI z_5)), (5, .int (iI z_1)), (0, .ref p0.toNat), (1, .int (iI p1)), (2, .int (iI p2)), (3, .int (iI p3)), (4, .int (iI p4))]) hx hb dX12_article_17 hl (by decide) rfl (fun ls hl => ?_)
  refine lv_iload hx hb dX12_article_19 (lv_at hl 6 rfl) ?_
  refine lv_sipush (v := iI 1000) hx hb dX12_article_21 rfl ?_
  refine xr_remA hx hb dX12_article_24 (by omega) (by omega) (fun z_7 h_8 => ?_)
  refine lv_istore (lv' := [(7, .int (iI z_7)), (6, .int (iI z_5)), (5, .int (iI z_1)), (0, .ref p0.toNat), (1, .int (iI p1)), (2, .int (iI p2)), (3, .int (iI p3)), (4, .int (iI p4))]) hx hb dX12_article_25 hl (by decide) rfl (fun ls hl => ?_)
  refine lv_iload hx hb dX12_article_27 (lv_at hl 7 rfl) ?_
  refine xr_if_lt (tgt := 59) hx hb dX12_article_29 (by decide) (by omega) (fun h_9 => ?_) (fun h_9 => ?_)
  · refine lv_iconst (v := iI (-1)) hx hb dX12_article_59 rfl ?_
    refine W.widen (k := 2) (n := 30) (Nat.le_of_ble_eq_true rfl) (Nat.le_of_ble_eq_true rfl) ?_
    rw [← hQ]
    exact W.iret (v := iI (-1)) hx hb hr (fun t ht hW => ⟨⟨iI (-1), (L, K, N, v), rfl, ⟨(-1), rfl, hI, hE0, hF0, by omega⟩, by rw [ht]; exact hP, va_K.moved hW.alike hK, hD⟩, hS.F ht⟩) hS.2.2 dX12_article_60
  · refine lv_iload hx hb dX12_article_32 (lv_at hl 2 rfl) ?_
    refine lv_iconst (v := iI 2) hx hb dX12_article_34 rfl ?_
    refine xr_icmp_gt (tgt := 59) hx hb dX12_article_35 (by decide) (by omega) (by omega) (fun h_10 => ?_) (fun h_10 => ?_)
    · refine lv_iconst (v := iI (-1)) hx hb dX12_article_59 rfl ?_
      refine W.widen (k := 2) (n := 30) (Nat.le_of_ble_eq_true rfl) (Nat.le_of_ble_eq_true rfl) ?_
      rw [← hQ]
      exact W.iret (v := iI (-1)) hx hb hr (fun t ht hW => ⟨⟨iI (-1), (L, K, N, v), rfl, ⟨(-1), rfl, hI, hE0, hF0, by omega⟩, by rw [ht]; exact hP, va_K.moved hW.alike hK, hD⟩, hS.F ht⟩) hS.2.2 dX12_article_60
    · refine lv_iload hx hb dX12_article_38 (lv_at hl 1 rfl) ?_
      refine lv_bipush (v := iI 7) hx hb dX12_article_40 rfl ?_
      refine xr_icmp_gt (tgt := 59) hx hb dX12_article_42 (by decide) (by omega) (by omega) (fun h_11 => ?_) (fun h_11 => ?_)
      · refine lv_iconst (v := iI (-1)) hx hb dX12_article_59 rfl ?_
        refine W.widen (k := 2) (n := 30) (Nat.le_of_ble_eq_true rfl) (Nat.le_of_ble_eq_true rfl) ?_
        rw [← hQ]
        exact W.iret (v := iI (-1)) hx hb hr (fun t ht hW => ⟨⟨iI (-1), (L, K, N, v), rfl, ⟨(-1), rfl, hI, hE0, hF0, by omega⟩, by rw [ht]; exact hP, va_K.moved hW.alike hK, hD⟩, hS.F ht⟩) hS.2.2 dX12_article_60
      · refine lv_iload hx hb dX12_article_45 (lv_at hl 0 rfl) ?_
        refine lv_iconst (v := iI 1) hx hb dX12_article_47 rfl ?_
        refine xr_icmp_lt (tgt := 59) hx hb dX12_article_48 (by decide) (by omega) (by omega) (fun h_12 => ?_) (fun h_12 => ?_)
        · refine lv_iconst (v := iI (-1)) hx hb dX12_article_59 rfl ?_
          refine W.widen (k := 2) (n := 30) (Nat.le_of_ble_eq_true rfl) (Nat.le_of_ble_eq_true rfl) ?_
          rw [← hQ]
          exact W.iret (v := iI (-1)) hx hb hr (fun t ht hW => ⟨⟨iI (-1), (L, K, N, v), rfl, ⟨(-1), rfl, hI, hE0, hF0, by omega⟩, by rw [ht]; exact hP, va_K.moved hW.alike hK, hD⟩, hS.F ht⟩) hS.2.2 dX12_article_60
        · refine lv_iload hx hb dX12_article_51 (lv_at hl 0 rfl) ?_
          refine lv_sipush (v := iI 200) hx hb dX12_article_53 rfl ?_
          refine xr_icmp_le (tgt := 61) hx hb dX12_article_56 (by decide) (by omega) (by omega) (fun h_13 => ?_) (fun h_13 => ?_)
          · refine lv_aload_n hx hb dX12_article_61 rfl (lv_at hl 3 rfl) ?_
            refine lv_iconst (v := iI 0) hx hb dX12_article_62 rfl ?_
            refine lv_iload_n hx hb dX12_article_63 rfl (lv_at hl 4 rfl) ?_
            refine lv_iload_n hx hb dX12_article_64 rfl (lv_at hl 5 rfl) ?_
            refine lv_iload_n hx hb dX12_article_65 rfl (lv_at hl 6 rfl) ?_
            refine jcg_q (va_runV (As := [.int (iI 0), .int (iI p1), .int (iI p2), .int (iI p3)]) (rest := []) ⟨hx, hb, hml, hown, hts⟩ (sX12_newEntry l dC dI _ L cid K N tW sK sV v p0 0 p1 p2 p3 hI q0 (by omega) (by omega) (by omega) (by omega)) (cwV 4 hts (jgoodV m_1351 m_1352 m_1353 m_873 m_1354) rfl rfl rfl (by decide +kernel) ⟨(Nat.le_of_ble_eq_true rfl), (Nat.le_of_ble_eq_true rfl)⟩) ⟨xP_blind, xrecv hK hP q0 rfl rfl, fun U hU hW => ⟨rfl, xP_of hU hW hP hK hD hX hS (fun _ h => h) hA⟩⟩ rfl rfl hl.1 rfl (lv_room (Nat.le_of_ble_eq_true rfl)) dX12_article_66 ⟨(Nat.le_of_ble_eq_true rfl), (Nat.le_of_ble_eq_true rfl)⟩) hD hS hA (fun r_14 u_18 H locs w_15 hP hK hD hS => ?_)
            refine W.widen (k := 2) (n := 30) (Nat.le_of_ble_eq_true rfl) (Nat.le_of_ble_eq_true rfl) ?_
            obtain ⟨L_19, K_20, N_21, v_22⟩ := u_18
            obtain ⟨z_16, rfl, I_24, E_25, f_23, h_17⟩ := w_15
            have hP : va_P (dC, dI) vwCl (xG L_19 cid K_20 N_21 v_22) H := hP
            have hD : va_D A (xG L_19 cid K_20 N_21 v_22) := hD
            have I_24 : xI L_19 K_20 N_21 v_22 := I_24
            have E_25 : xE L K N L_19 K_20 N_21 := E_25
            have f_23 : frE L K [(0, 3), (0, 4), (0, 5), (0, 6), (6, 1), (6, 2), (6, 3), (6, 4), (6, 5), (12, 7), (34, (-1)), (36, (-1)), (65, (-1)), (99, 0)] v_22 v := f_23
            have F_27 := frE_frE (W := [(0, 3), (0, 4), (0, 5), (0, 6), (0, 7), (0, 8), (0, 9), (6, 1), (6, 2), (6, 3), (6, 4), (6, 5), (12, 7), (34, (-1)), (36, (-1)), (65, (-1)), (99, 0)]) hE0 f_23 rfl hF0
            have E_26 := xE_tr hE0 E_25
            have h_28 := xE_ok E_25 q0
            refine jt_q (rv z_16) rfl ?_
            refine xq_astore (lv' := [(8, rv z_16), (7, .int (iI z_7)), (6, .int (iI z_5)), (5, .int (iI z_1)), (0, .ref p0.toNat), (1, .int (iI p1)), (2, .int (iI p2)), (3, .int (iI p3)), (4, .int (iI p4))]) hx hb dX12_article_69 hl (by decide) rfl (fun ls hl => ?_)
            refine xq_aload hx hb dX12_article_71 (lv_at hl 0 rfl) ?_
            refine xq_ifnonnull (tgt := 78) hx hb dX12_article_73 (by decide) (fun h_29 => ?_) (fun h_29 => ?_)
            · have h_30 : ok L_19 K_20 z_16 0 := h_17.resolve_left (by omega)
              refine xq_aload hx hb dX12_article_78 (lv_at hl 0 rfl) ?_
              refine jt_q (.ref z_16.toNat) (rv_ref (h_30).1) ?_
              refine lv_iload hx hb dX12_article_80 (lv_at hl 3 rfl) ?_
              refine px_RX12_177 (y := z_1) hx hb hj hown hK hP hD hS I_24 h_30 ⟨by omega, by omega⟩ dX12_article_82 (fun v_31 H locs f_32 e_33 o_34 I_35 hP hD hS => ?_)
              refine xq_aload hx hb dX12_article_85 (lv_at hl 0 rfl) ?_
              refine jt_q (.ref z_16.toNat) (rv_ref (h_30).1) ?_
              refine lv_iload hx hb dX12_article_87 (lv_at hl 2 rfl) ?_
              refine px_RX12_180 (y := z_5) hx hb hj hown hK hP hD hS I_35 h_30 ⟨by omega, by omega⟩ dX12_article_89 (fun v_36 H locs f_37 e_38 o_39 I_40 hP hD hS => ?_)
              refine xq_aload hx hb dX12_article_92 (lv_at hl 0 rfl) ?_
              refine jt_q (.ref z_16.toNat) (rv_ref (h_30).1) ?_
              refine lv_iload hx hb dX12_article_94 (lv_at hl 1 rfl) ?_
              refine px_RX12_183 (y := z_7) hx hb hj hown hK hP hD hS I_40 h_30 ⟨by omega, by omega⟩ dX12_article_96 (fun v_41 H locs f_42 e_43 o_44 I_45 hP hD hS => ?_)
              refine xq_aload hx hb dX12_article_99 (lv_at hl 0 rfl) ?_
              refine jt_q (.ref z_16.toNat) (rv_ref (h_30).1) ?_
              have h_46 : (-2147483648) ≤ v_22 z_16 0 ∧ v_22 z_16 0 ≤ 2147483647 := xf_0_0 I_24 h_30
              refine gx_RX12_186 (y := v_22 z_16 0) hx hb hj hown hK hP h_30 (((fr_use h_30 f_42 rfl)).trans (((fr_use h_30 f_37 rfl)).trans (fr_use h_30 f_32 rfl))) dX12_article_101 ?_
              have F_47 := frE_fr (W := [(0, 3), (0, 4), (0, 5), (0, 6), (0, 7), (0, 8), (0, 9), (6, 1), (6, 2), (6, 3), (6, 4), (6, 5), (12, 7), (34, (-1)), (36, (-1)), (65, (-1)), (99, 0)]) E_26 (fr_tr f_42 rfl (fr_tr f_37 rfl (fr_tr f_32 rfl fr_rf))) rfl F_27
              rw [← hQ]
              exact W.iret (v := iI (v_22 z_16 0)) hx hb hr (fun t ht hW => ⟨⟨iI (v_22 z_16 0), (L_19, K_20, N_21, v_41), rfl, ⟨v_22 z_16 0, rfl, I_45, E_26, F_47, by omega⟩, by rw [ht]; exact hP, va_K.moved hW.alike hK, hD⟩, hS.F ht⟩) hS.2.2 dX12_article_104
            · refine lv_iconst (v := iI (-1)) hx hb dX12_article_76 rfl ?_
              rw [← hQ]
              exact W.iret (v := iI (-1)) hx hb hr (fun t ht hW => ⟨⟨iI (-1), (L_19, K_20, N_21, v_22), rfl, ⟨(-1), rfl, I_24, E_26, F_27, by omega⟩, by rw [ht]; exact hP, va_K.moved hW.alike hK, hD⟩, hS.F ht⟩) hS.2.2 dX12_article_77
          · refine lv_iconst (v := iI (-1)) hx hb dX12_article_59 rfl ?_
            refine W.widen (k := 2) (n := 30) (Nat.le_of_ble_eq_true rfl) (Nat.le_of_ble_eq_true rfl) ?_
            rw [← hQ]
            exact W.iret (v := iI (-1)) hx hb hr (fun t ht hW => ⟨⟨iI (-1), (L, K, N, v), rfl, ⟨(-1), rfl, hI, hE0, hF0, by omega⟩, by rw [ht]; exact hP, va_K.moved hW.alike hK, hD⟩, hS.F ht⟩) hS.2.2 dX12_article_60
