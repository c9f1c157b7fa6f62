set_option maxHeartbeats 2000000 in
set_option maxRecDepth 100000 in
theorem sX5_addErratum (l : Launch) (dC : Nat → ClassId) (dI : Nat → Nat → Nat) (sz : Nat) (L : List Nat) (cid : Nat → ClassId) (K : Int → Nat) (N : Int → Int) (tW : Nat) (sK sV : Nat → Nat) (v : Int → Int → Int) (p0 : Int) (p1 : Int) (p2 : Int) (p3 : Int) (p4 : Int) (p5 : Int) (hI : xI L K N v) (q0 : ok L K p0 5) (q1 : rg p1) (q2 : rg p2) (q3 : rg p3) (q4 : rg p4) (q5 : 0 ≤ p5 ∧ p5 ≤ 1) : Met l yX5_addErratum (jk yX5_addErratum cX5_addErratum 6 (some .int)) ({ frames := 0, cells := 0, slots := 0, locals := 0 }) (va_Pc [.ref p0.toNat, .int (iI p1), .int (iI p2), .int (iI p3), .int (iI p4), .int (iI p5)] (xP (dC, dI) (xG L cid K N v) (xT cid) tW sK sV sz)) (va_Qi (fun (r : Int32) (u : (Int → Int → Int)) => ∃ z : Int, r = iI z ∧ (xI L K N u) ∧ (fr K [(5, 11), (47, (-1)), (48, (-1)), (49, (-1)), (50, (-1)), (51, (-1))] u v) ∧ (rg z)) (fun u t => va_P (dC, dI) vwCl (xG L cid K N u) t.heap ∧ va_K (dC, dI) vwCl (xT cid) t ∧ va_D (va_A (xG L cid K N v) sz) (xG L cid K N u)) (va_A (xG L cid K N v) sz)) 0 0 (va_A (xG L cid K N v) sz) := by
  sorry
set_option maxHeartbeats 2000000 in
set_option maxRecDepth 100000 in
theorem sX5_missedBy (l : Launch) (dC : Nat → ClassId) (dI : Nat → Nat → Nat) (sz : Nat) (L : List Nat) (cid : Nat → ClassId) (K : Int → Nat) (N : Int → Int) (tW : Nat) (sK sV : Nat → Nat) (v : Int → Int → Int) (p0 : Int) (p1 : Int) (hI : xI L K N v) (q0 : ok L K p0 5) (q1 : rg p1) : Met l yX5_missedBy (jk yX5_missedBy cX5_missedBy 2 (some .int)) ({ frames := 0, cells := 0, slots := 0, locals := 0 }) (va_Pc [.ref p0.toNat, .int (iI p1)] (xP (dC, dI) (xG L cid K N v) (xT cid) tW sK sV sz)) (va_Qi (fun (r : Int32) (_ : Unit) => ∃ z : Int, r = iI z ∧ (rg z)) (fun _ _ => True) (va_A [] sz)) 0 0 (va_A [] sz) := by
  sorry
set_option maxHeartbeats 2000000 in
set_option maxRecDepth 100000 in
theorem sX5_keptOn (l : Launch) (dC : Nat → ClassId) (dI : Nat → Nat → Nat) (sz : Nat) (L : List Nat) (cid : Nat → ClassId) (K : Int → Nat) (N : Int → Int) (tW : Nat) (sK sV : Nat → Nat) (v : Int → Int → Int) (p0 : Int) (p1 : Int) (p2 : Int) (p3 : Int) (hI : xI L K N v) (q0 : ok L K p0 5) (q1 : rg p1) (q2 : rg p2) (q3 : rg p3) : Met l yX5_keptOn (jk yX5_keptOn cX5_keptOn 6 (some .int)) ({ frames := 0, cells := 0, slots := 0, locals := 0 }) (va_Pc [.ref p0.toNat, .int (iI p1), .int (iI p2), .int (iI p3)] (xP (dC, dI) (xG L cid K N v) (xT cid) tW sK sV sz)) (va_Qi (fun (r : Int32) (_ : Unit) => ∃ z : Int, r = iI z ∧ (rg z)) (fun _ _ => True) (va_A [] sz)) 0 0 (va_A [] sz) := by
  sorry
set_option maxHeartbeats 2000000 in
set_option maxRecDepth 100000 in
theorem sX8_sheetOfPut (l : Launch) (dC : Nat → ClassId) (dI : Nat → Nat → Nat) (sz : Nat) (L : List Nat) (cid : Nat → ClassId) (K : Int → Nat) (N : Int → Int) (tW : Nat) (sK sV : Nat → Nat) (v : Int → Int → Int) (p0 : Int) (p1 : Int) (p2 : Int) (p3 : Int) (hI : xI L K N v) (q0 : ok L K p0 8) (q1 : rg p1) (q2 : rg p2) (q3 : rg p3) : Met l yX8_sheetOfPut (jk yX8_sheetOfPut cX8_sheetOfPut 6 (some (.object "BookOfAll$Sheet"))) ({ frames := 0, cells := 0, slots := 0, locals := 0 }) (va_Pc [.ref p0.toNat, .int (iI p1), .int (iI p2), .int (iI p3)] (xP (dC, dI) (xG L cid K N v) (xT cid) tW sK sV sz)) (va_Qq (fun (r : Option Nat) (_ : Unit) => ∃ z : Int, r = opt z ∧ (z < 0 ∨ ok L K z 9)) (fun _ _ => True) (va_A [] sz)) 0 0 (va_A [] sz) := by
  sorry
set_option maxHeartbeats 2000000 in
set_option maxRecDepth 100000 in
theorem sX8_inForce (l : Launch) (dC : Nat → ClassId) (dI : Nat → Nat → Nat) (sz : Nat) (L : List Nat) (cid : Nat → ClassId) (K : Int → Nat) (N : Int → Int) (tW : Nat) (sK sV : Nat → Nat) (v : Int → Int → Int) (p0 : Int) (p1 : Int) (p2 : Int) (p3 : Int) (hI : xI L K N v) (q0 : ok L K p0 8) (q1 : rg p1) (q2 : rg p2) (q3 : rg p3) : Met l yX8_inForce (jk yX8_inForce cX8_inForce 6 (some .int)) ({ frames := 1, cells := 0, slots := 0, locals := 25 }) (va_Pc [.ref p0.toNat, .int (iI p1), .int (iI p2), .int (iI p3)] (xP (dC, dI) (xG L cid K N v) (xT cid) tW sK sV sz)) (va_Qi (fun (r : Int32) (_ : Unit) => ∃ z : Int, r = iI z ∧ (rg z)) (fun _ _ => True) (va_A [] sz)) 0 0 (va_A [] sz) := by
  sorry
set_option maxHeartbeats 2000000 in
set_option maxRecDepth 100000 in
theorem sX8_combine (l : Launch) (dC : Nat → ClassId) (dI : Nat → Nat → Nat) (sz : Nat) (p1 : Int) (p2 : Int) (p3 : Int) (q1 : rg p1) (q2 : rg p2) (q3 : rg p3) : Met l yX8_combine (jk yX8_combine cX8_combine 5 (some .int)) ({ frames := 1, cells := 0, slots := 0, locals := 40 }) (va_Pc [.int (iI p1), .int (iI p2), .int (iI p3)] (fun U => U.heap.size = sz)) (va_Qi (fun (r : Int32) (_ : Unit) => ∃ z : Int, r = iI z ∧ (rg z)) (fun _ _ => True) (va_A [] sz)) 0 0 (va_A [] sz) := by
  sorry
set_option maxHeartbeats 2000000 in
set_option maxRecDepth 100000 in
theorem sX8_run (l : Launch) (dC : Nat → ClassId) (dI : Nat → Nat → Nat) (sz : Nat) (L : List Nat) (cid : Nat → ClassId) (K : Int → Nat) (N : Int → Int) (tW : Nat) (sK sV : Nat → Nat) (v : Int → Int → Int) (p0 : Int) (p1 : Int) (p2 : Int) (hI : xI L K N v) (q0 : ok L K p0 8) (q1 : ok L K p1 9) (q2 : rg p2) : Met l yX8_run (jk yX8_run cX8_run 7 (some .int)) ({ frames := 2, cells := 0, slots := 0, locals := 64 }) (va_Pc [.ref p0.toNat, .ref p1.toNat, .int (iI p2)] (xP (dC, dI) (xG L cid K N v) (xT cid) tW sK sV sz)) (va_Qi (fun (r : Int32) (u : (Int → Int → Int)) => ∃ z : Int, r = iI z ∧ (xI L K N u) ∧ (fr K [(34, (-1))] u v) ∧ (rg z)) (fun u t => va_P (dC, dI) vwCl (xG L cid K N u) t.heap ∧ va_K (dC, dI) vwCl (xT cid) t ∧ va_D (va_A (xG L cid K N v) sz) (xG L cid K N u)) (va_A (xG L cid K N v) sz)) 0 0 (va_A (xG L cid K N v) sz) := by
  sorry
set_option maxHeartbeats 2000000 in
set_option maxRecDepth 100000 in
theorem sX8_valueOf (l : Launch) (dC : Nat → ClassId) (dI : Nat → Nat → Nat) (sz : Nat) (L : List Nat) (cid : Nat → ClassId) (K : Int → Nat) (N : Int → Int) (tW : Nat) (sK sV : Nat → Nat) (v : Int → Int → Int) (p0 : Int) (p1 : Int) (p2 : Int) (p3 : Int) (hI : xI L K N v) (q0 : ok L K p0 8) (q1 : rg p1) (q2 : rg p2) (q3 : rg p3) : Met l yX8_valueOf (jk yX8_valueOf cX8_valueOf 6 (some .int)) ({ frames := 3, cells := 0, slots := 0, locals := 90 }) (va_Pc [.ref p0.toNat, .int (iI p1), .int (iI p2), .int (iI p3)] (xP (dC, dI) (xG L cid K N v) (xT cid) tW sK sV sz)) (va_Qi (fun (r : Int32) (u : (Int → Int → Int)) => ∃ z : Int, r = iI z ∧ (xI L K N u) ∧ (fr K [(34, (-1))] u v) ∧ (rg z)) (fun u t => va_P (dC, dI) vwCl (xG L cid K N u) t.heap ∧ va_K (dC, dI) vwCl (xT cid) t ∧ va_D (va_A (xG L cid K N v) sz) (xG L cid K N u)) (va_A (xG L cid K N v) sz)) 0 0 (va_A (xG L cid K N v) sz) := by
  sorry
set_option maxHeartbeats 2000000 in
set_option maxRecDepth 100000 in
theorem sX6_take (l : Launch) (dC : Nat → ClassId) (dI : Nat → Nat → Nat) (sz : Nat) (L : List Nat) (cid : Nat → ClassId) (K : Int → Nat) (N : Int → Int) (tW : Nat) (sK sV : Nat → Nat) (v : Int → Int → Int) (p0 : Int) (p1 : Int) (p2 : Int) (hI : xI L K N v) (q0 : ok L K p0 6) (q1 : rg p1) (q2 : rg p2) : Met l yX6_take (jk yX6_take cX6_take 3 none) ({ frames := 4, cells := 0, slots := 0, locals := 115 }) (va_Pc [.ref p0.toNat, .int (iI p1), .int (iI p2)] (xP (dC, dI) (xG L cid K N v) (xT cid) tW sK sV sz)) (va_Qv (fun (u : (Int → Int → Int)) => (xI L K N u) ∧ (fr K [(6, 1), (6, 2), (6, 3), (6, 4), (6, 5), (34, (-1))] u v)) (fun u t => va_P (dC, dI) vwCl (xG L cid K N u) t.heap ∧ va_K (dC, dI) vwCl (xT cid) t ∧ va_D (va_A (xG L cid K N v) sz) (xG L cid K N u)) (va_A (xG L cid K N v) sz)) 0 0 (va_A (xG L cid K N v) sz) := by
  sorry
set_option maxHeartbeats 2000000 in
set_option maxRecDepth 100000 in
theorem sX6_turn (l : Launch) (dC : Nat → ClassId) (dI : Nat → Nat → Nat) (sz : Nat) (L : List Nat) (cid : Nat → ClassId) (K : Int → Nat) (N : Int → Int) (tW : Nat) (sK sV : Nat → Nat) (v : Int → Int → Int) (p0 : Int) (p1 : Int) (hI : xI L K N v) (q0 : ok L K p0 6) (q1 : rg p1) : Met l yX6_turn (jk yX6_turn cX6_turn 2 none) ({ frames := 0, cells := 0, slots := 0, locals := 0 }) (va_Pc [.ref p0.toNat, .int (iI p1)] (xP (dC, dI) (xG L cid K N v) (xT cid) tW sK sV sz)) (va_Qv (fun (u : (Int → Int → Int)) => (xI L K N u) ∧ (fr K [(6, 3), (6, 4), (6, 5)] u v)) (fun u t => va_P (dC, dI) vwCl (xG L cid K N u) t.heap ∧ va_K (dC, dI) vwCl (xT cid) t ∧ va_D (va_A (xG L cid K N v) sz) (xG L cid K N u)) (va_A (xG L cid K N v) sz)) 0 0 (va_A (xG L cid K N v) sz) := by
  sorry
set_option maxHeartbeats 2000000 in
set_option maxRecDepth 100000 in
theorem sX9_hasWord (l : Launch) (dC : Nat → ClassId) (dI : Nat → Nat → Nat) (sz : Nat) (L : List Nat) (cid : Nat → ClassId) (K : Int → Nat) (N : Int → Int) (tW : Nat) (sK sV : Nat → Nat) (v : Int → Int → Int) (p0 : Int) (p1 : Int) (hI : xI L K N v) (q0 : ok L K p0 9) : Met l yX9_hasWord (jk yX9_hasWord cX9_hasWord 4 (some .boolean)) ({ frames := 0, cells := 0, slots := 0, locals := 0 }) (va_Pc [.ref p0.toNat, .long (lL p1)] (xP (dC, dI) (xG L cid K N v) (xT cid) tW sK sV sz)) (va_Qi (fun (r : Int32) (_ : Unit) => ∃ z : Int, r = iI z ∧ (0 ≤ z ∧ z ≤ 1)) (fun _ _ => True) (va_A [] sz)) 0 0 (va_A [] sz) := by
  sorry
set_option maxHeartbeats 2000000 in
set_option maxRecDepth 100000 in
theorem sX8_skips (l : Launch) (dC : Nat → ClassId) (dI : Nat → Nat → Nat) (sz : Nat) (L : List Nat) (cid : Nat → ClassId) (K : Int → Nat) (N : Int → Int) (tW : Nat) (sK sV : Nat → Nat) (v : Int → Int → Int) (p0 : Int) (p1 : Int) (p2 : Int) (p3 : Int) (hI : xI L K N v) (q0 : ok L K p0 8) (q2 : rg p2) (q3 : rg p3) : Met l yX8_skips (jk yX8_skips cX8_skips 7 (some .boolean)) ({ frames := 1, cells := 0, slots := 0, locals := 25 }) (va_Pc [.ref p0.toNat, .long (lL p1), .int (iI p2), .int (iI p3)] (xP (dC, dI) (xG L cid K N v) (xT cid) tW sK sV sz)) (va_Qi (fun (r : Int32) (_ : Unit) => ∃ z : Int, r = iI z ∧ (0 ≤ z ∧ z ≤ 1)) (fun _ _ => True) (va_A [] sz)) 0 0 (va_A [] sz) := by
  sorry
set_option maxHeartbeats 2000000 in
set_option maxRecDepth 100000 in
theorem sX6_prepare (l : Launch) (dC : Nat → ClassId) (dI : Nat → Nat → Nat) (sz : Nat) (L : List Nat) (cid : Nat → ClassId) (K : Int → Nat) (N : Int → Int) (tW : Nat) (sK sV : Nat → Nat) (v : Int → Int → Int) (p0 : Int) (p1 : Int) (hI : xI L K N v) (q0 : ok L K p0 6) (q1 : ok L K p1 0) : Met l yX6_prepare (jk yX6_prepare cX6_prepare 3 none) ({ frames := 2, cells := 0, slots := 0, locals := 51 }) (va_Pc [.ref p0.toNat, .ref p1.toNat] (xP (dC, dI) (xG L cid K N v) (xT cid) tW sK sV sz)) (va_Qv (fun (u : (Int → Int → Int)) => (xI L K N u) ∧ (fr K [(0, 5)] u v)) (fun u t => va_P (dC, dI) vwCl (xG L cid K N u) t.heap ∧ va_K (dC, dI) vwCl (xT cid) t ∧ va_D (va_A (xG L cid K N v) sz) (xG L cid K N u)) (va_A (xG L cid K N v) sz)) 0 0 (va_A (xG L cid K N v) sz) := by
  sorry
set_option maxHeartbeats 2000000 in
set_option maxRecDepth 100000 in
theorem sX7_append (l : Launch) (dC : Nat → ClassId) (dI : Nat → Nat → Nat) (sz : Nat) (L : List Nat) (cid : Nat → ClassId) (K : Int → Nat) (N : Int → Int) (tW : Nat) (sK sV : Nat → Nat) (v : Int → Int → Int) (p0 : Int) (p1 : Int) (hI : xI L K N v) (q0 : ok L K p0 7) (q1 : rg p1) : Met l yX7_append (jk yX7_append cX7_append 3 none) ({ frames := 0, cells := 0, slots := 0, locals := 0 }) (va_Pc [.ref p0.toNat, .int (iI p1)] (xP (dC, dI) (xG L cid K N v) (xT cid) tW sK sV sz)) (va_Qv (fun (u : (Int → Int → Int)) => (xI L K N u) ∧ (fr K [(7, 1), (20, (-1))] u v)) (fun u t => va_P (dC, dI) vwCl (xG L cid K N u) t.heap ∧ va_K (dC, dI) vwCl (xT cid) t ∧ va_D (va_A (xG L cid K N v) sz) (xG L cid K N u)) (va_A (xG L cid K N v) sz)) 0 0 (va_A (xG L cid K N v) sz) := by
  sorry
set_option maxHeartbeats 2000000 in
set_option maxRecDepth 100000 in
theorem sX8_hasRoomForSheet (l : Launch) (dC : Nat → ClassId) (dI : Nat → Nat → Nat) (sz : Nat) (L : List Nat) (cid : Nat → ClassId) (K : Int → Nat) (N : Int → Int) (tW : Nat) (sK sV : Nat → Nat) (v : Int → Int → Int) (p0 : Int) (hI : xI L K N v) (q0 : ok L K p0 8) : Met l yX8_hasRoomForSheet (jk yX8_hasRoomForSheet cX8_hasRoomForSheet 1 (some .boolean)) ({ frames := 0, cells := 0, slots := 0, locals := 0 }) (va_Pc [.ref p0.toNat] (xP (dC, dI) (xG L cid K N v) (xT cid) tW sK sV sz)) (va_Qi (fun (r : Int32) (_ : Unit) => ∃ z : Int, r = iI z ∧ (0 ≤ z ∧ z ≤ 1)) (fun _ _ => True) (va_A [] sz)) 0 0 (va_A [] sz) := by
  sorry
set_option maxHeartbeats 2000000 in
set_option maxRecDepth 100000 in
theorem sX8_keep (l : Launch) (dC : Nat → ClassId) (dI : Nat → Nat → Nat) (sz : Nat) (L : List Nat) (cid : Nat → ClassId) (K : Int → Nat) (N : Int → Int) (tW : Nat) (sK sV : Nat → Nat) (v : Int → Int → Int) (p0 : Int) (p1 : Int) (hI : xI L K N v) (q0 : ok L K p0 8) (q1 : ok L K p1 9) : Met l yX8_keep (jk yX8_keep cX8_keep 2 (some .int)) ({ frames := 0, cells := 0, slots := 0, locals := 0 }) (va_Pc [.ref p0.toNat, .ref p1.toNat] (xP (dC, dI) (xG L cid K N v) (xT cid) tW sK sV sz)) (va_Qi (fun (r : Int32) (u : (Int → Int → Int)) => ∃ z : Int, r = iI z ∧ (xI L K N u) ∧ (fr K [(8, 1), (29, (-1))] u v) ∧ (rg z)) (fun u t => va_P (dC, dI) vwCl (xG L cid K N u) t.heap ∧ va_K (dC, dI) vwCl (xT cid) t ∧ va_D (va_A (xG L cid K N v) sz) (xG L cid K N u)) (va_A (xG L cid K N v) sz)) 0 0 (va_A (xG L cid K N v) sz) := by
  sorry
set_option maxHeartbeats 2000000 in
set_option maxRecDepth 100000 in
theorem sX8_put (l : Launch) (dC : Nat → ClassId) (dI : Nat → Nat → Nat) (sz : Nat) (L : List Nat) (cid : Nat → ClassId) (K : Int → Nat) (N : Int → Int) (tW : Nat) (sK sV : Nat → Nat) (v : Int → Int → Int) (p0 : Int) (p1 : Int) (p2 : Int) (p3 : Int) (hI : xI L K N v) (q0 : ok L K p0 8) (q1 : rg p1) (q2 : rg p2) (q3 : rg p3) : Met l yX8_put (jk yX8_put cX8_put 4 (some .int)) ({ frames := 0, cells := 0, slots := 0, locals := 0 }) (va_Pc [.ref p0.toNat, .int (iI p1), .int (iI p2), .int (iI p3)] (xP (dC, dI) (xG L cid K N v) (xT cid) tW sK sV sz)) (va_Qi (fun (r : Int32) (u : (Int → Int → Int)) => ∃ z : Int, r = iI z ∧ (xI L K N u) ∧ (fr K [(8, 5), (30, (-1)), (31, (-1)), (32, (-1))] u v) ∧ (rg z)) (fun u t => va_P (dC, dI) vwCl (xG L cid K N u) t.heap ∧ va_K (dC, dI) vwCl (xT cid) t ∧ va_D (va_A (xG L cid K N v) sz) (xG L cid K N u)) (va_A (xG L cid K N v) sz)) 0 0 (va_A (xG L cid K N v) sz) := by
  sorry
set_option maxHeartbeats 2000000 in
set_option maxRecDepth 100000 in
theorem sX8_name (l : Launch) (dC : Nat → ClassId) (dI : Nat → Nat → Nat) (sz : Nat) (L : List Nat) (cid : Nat → ClassId) (K : Int → Nat) (N : Int → Int) (tW : Nat) (sK sV : Nat → Nat) (v : Int → Int → Int) (p0 : Int) (p1 : Int) (p2 : Int) (hI : xI L K N v) (q0 : ok L K p0 8) (q1 : rg p1) (q2 : rg p2) : Met l yX8_name (jk yX8_name cX8_name 3 none) ({ frames := 0, cells := 0, slots := 0, locals := 0 }) (va_Pc [.ref p0.toNat, .int (iI p1), .int (iI p2)] (xP (dC, dI) (xG L cid K N v) (xT cid) tW sK sV sz)) (va_Qv (fun (u : (Int → Int → Int)) => (xI L K N u) ∧ (fr K [(33, (-1))] u v)) (fun u t => va_P (dC, dI) vwCl (xG L cid K N u) t.heap ∧ va_K (dC, dI) vwCl (xT cid) t ∧ va_D (va_A (xG L cid K N v) sz) (xG L cid K N u)) (va_A (xG L cid K N v) sz)) 0 0 (va_A (xG L cid K N v) sz) := by
  sorry
set_option maxHeartbeats 2000000 in
set_option maxRecDepth 100000 in
theorem sX9_sortOf (l : Launch) (dC : Nat → ClassId) (dI : Nat → Nat → Nat) (sz : Nat) (p1 : Int) (q1 : rg p1) : Met l yX9_sortOf (jk yX9_sortOf cX9_sortOf 3 (some .int)) ({ frames := 0, cells := 0, slots := 0, locals := 0 }) (va_Pc [.int (iI p1)] (fun U => U.heap.size = sz)) (va_Qi (fun (r : Int32) (_ : Unit) => ∃ z : Int, r = iI z ∧ (rg z)) (fun _ _ => True) (va_A [] sz)) 0 0 (va_A [] sz) := by
  sorry
set_option maxHeartbeats 2000000 in
set_option maxRecDepth 100000 in
theorem sX10_add (l : Launch) (dC : Nat → ClassId) (dI : Nat → Nat → Nat) (sz : Nat) (L : List Nat) (cid : Nat → ClassId) (K : Int → Nat) (N : Int → Int) (tW : Nat) (sK sV : Nat → Nat) (v : Int → Int → Int) (p0 : Int) (p1 : Int) (hI : xI L K N v) (q0 : ok L K p0 10) (q1 : rg p1) : Met l yX10_add (jk yX10_add cX10_add 2 (some .int)) ({ frames := 0, cells := 0, slots := 0, locals := 0 }) (va_Pc [.ref p0.toNat, .int (iI p1)] (xP (dC, dI) (xG L cid K N v) (xT cid) tW sK sV sz)) (va_Qi (fun (r : Int32) (u : (Int → Int → Int)) => ∃ z : Int, r = iI z ∧ (xI L K N u) ∧ (fr K [(10, 1), (61, (-1))] u v) ∧ (rg z) ∧ ((z = -1 ∧ u p0 1 = v p0 1 ∧ 30 ≤ v p0 1) ∨ (z = v p0 1 + 1 ∧ u p0 1 = v p0 1 + 1 ∧ v p0 1 < 30))) (fun u t => va_P (dC, dI) vwCl (xG L cid K N u) t.heap ∧ va_K (dC, dI) vwCl (xT cid) t ∧ va_D (va_A (xG L cid K N v) sz) (xG L cid K N u)) (va_A (xG L cid K N v) sz)) 0 0 (va_A (xG L cid K N v) sz) := by
  refine Met.ofW (cc := cX10_add) (maxL := 2) (ret := (some .int)) (by decide) rfl ?_
  intro p e s m args below meth c s₁ B hml hv
  obtain ⟨rfl, ⟨hsz, hP, hK, hD0⟩, hX⟩ := hv
  have hx := B.exec
  have hb := B.bytes
  have hr := B.returns
  have hts := atoms_spec (ws := (jk yX10_add cX10_add 2 (some .int))) B.pre
  have hj : ∀ w ∈ jw, w.before ([.ref p0.toNat, .int (iI p1)] : List Value).toArray s = true := fun w h => hts w (jm h)
  have hown : s.vm.findClass RX10 = some m.cls := findClass_of_methodNamed B.named
  subst hsz
  have hD := hD0.self (sz := s.heap.size)
  generalize hAe : (va_A (xG L cid K N v) s.heap.size) = A at hD hX ⊢
  have hA : ∀ q : Nat, s.heap.size ≤ q → A q := fun q h => by rw [← hAe]; exact Or.inr h
  have hS : va_S A s.heap s.heap [] := va_S.rf
  have hXa := hX
  have hP : va_P (dC, dI) vwCl (xG L cid K N v) s.heap := hP
  have hl := lv_entry ([.ref p0.toNat, .int (iI p1)]) (n := 2) (Nat.le_of_ble_eq_true rfl)
  rw [lg_entry_eq]
  generalize (lg_sl ([.ref p0.toNat, .int (iI p1)]) ++ List.replicate (2 - (lg_sl ([.ref p0.toNat, .int (iI p1)])).length) Slot.unset).toArray = ls at hl ⊢
  have hl : lv_has ls 2 [(0, .ref p0.toNat), (1, .int (iI p1))] := hl
  generalize hQ : MQ below (va_Qi (fun (r : Int32) (u : (Int → Int → Int)) => ∃ z : Int, r = iI z ∧ (xI L K N u) ∧ (fr K [(10, 1), (61, (-1))] u v) ∧ (rg z) ∧ ((z = -1 ∧ u p0 1 = v p0 1 ∧ 30 ≤ v p0 1) ∨ (z = v p0 1 + 1 ∧ u p0 1 = v p0 1 + 1 ∧ v p0 1 < 30))) (fun u t => va_P (dC, dI) vwCl (xG L cid K N u) t.heap ∧ va_K (dC, dI) vwCl (xT cid) t ∧ va_D A (xG L cid K N u)) A) ([.ref p0.toNat, .int (iI p1)] : List Value).toArray s 0 0 A = Q
  suffices ST : ∀ (H : Heap) (locs : List Loc), va_P (dC, dI) vwCl (xG L cid K N v) H → va_S A s.heap H locs → W p l e ({ frames := 0, cells := 0, slots := 0, locals := 0 }) s m ([.ref p0.toNat, .int (iI p1)] : List Value).toArray below meth c H locs 0 0 Q (F0 m 0 ls []) from ST _ _ hP hS
  clear hP hS
  intro H locs hP hS
  refine lv_aload_n hx hb dX10_add_0 rfl (lv_at hl 0 rfl) ?_
  have h_1 : 0 ≤ v p0 1 ∧ v p0 1 ≤ 30 := xf_10_1 hI q0
  refine gx_RX10_18 (y := v p0 1) hx hb hj hown hK hP q0 rfl dX10_add_1 ?_
  refine xr_if_lt (tgt := 16) hx hb dX10_add_4 (by decide) (by omega) (fun h_2 => ?_) (fun h_2 => ?_)
  · exfalso; omega
  · refine lv_aload_n hx hb dX10_add_7 rfl (lv_at hl 0 rfl) ?_
    refine gx_RX10_18 (y := v p0 1) hx hb hj hown hK hP q0 rfl dX10_add_8 ?_
    refine lv_bipush (v := iI 30) hx hb dX10_add_11 rfl ?_
    refine xr_icmp_lt (tgt := 18) hx hb dX10_add_13 (by decide) (by omega) (by omega) (fun h_3 => ?_) (fun h_3 => ?_)
    · refine lv_aload_n hx hb dX10_add_18 rfl (lv_at hl 0 rfl) ?_
      have h_4 : ok L K (v p0 0) 61 := xf_10_0 hI q0
      have h_5 : N (v p0 0) = 30 := xn_61 hI h_4
      refine gx_RX10_11 (y := v p0 0) hx hb hj hown hK hP q0 ((xf_10_0 hI q0).1) rfl dX10_add_19 ?_
      refine lv_aload_n hx hb dX10_add_22 rfl (lv_at hl 0 rfl) ?_
      refine gx_RX10_18 (y := v p0 1) hx hb hj hown hK hP q0 rfl dX10_add_23 ?_
      refine lv_iload_n hx hb dX10_add_26 rfl (lv_at hl 1 rfl) ?_
      refine sx_61 (y := p1) hx hb hK hP hD hS hI h_4 (by omega) (by omega) (by omega) ⟨by omega, by omega⟩ dX10_add_27 (fun v_6 H locs f_7 e_8 o_9 I_10 hP hD hS => ?_)
      refine lv_aload_n hx hb dX10_add_28 rfl (lv_at hl 0 rfl) ?_
      refine lv_dup hx hb dX10_add_29 rfl ?_
      refine gx_RX10_18 (y := v p0 1) hx hb hj hown hK hP q0 (fr_use q0 f_7 rfl) dX10_add_30 ?_
      refine lv_iconst (v := iI 1) hx hb dX10_add_33 rfl ?_
      refine xr_add hx hb dX10_add_34 ?_
      refine px_RX10_18 (y := (v p0 1) + 1) hx hb hj hown hK hP hD hS I_10 q0 ⟨by omega, by omega⟩ dX10_add_35 (fun v_11 H locs f_12 e_13 o_14 I_15 hP hD hS => ?_)
      refine lv_aload_n hx hb dX10_add_38 rfl (lv_at hl 0 rfl) ?_
      refine gx_RX10_18 (y := (v p0 1) + 1) hx hb hj hown hK hP q0 e_13 dX10_add_39 ?_
      have b_16 : v_11 p0 1 = (v p0 1) + 1 := e_13
      rw [← hQ]
      exact W.iret (v := iI ((v p0 1) + 1)) hx hb hr (fun t ht hW => ⟨⟨iI ((v p0 1) + 1), v_11, rfl, ⟨(v p0 1) + 1, rfl, I_15, (fr_tr f_12 rfl (fr_tr f_7 rfl fr_rf)), by omega, by omega⟩, by rw [ht]; exact hP, va_K.moved hW.alike hK, hD⟩, hS.F ht⟩) hS.2.2 dX10_add_42
    · refine lv_iconst (v := iI (-1)) hx hb dX10_add_16 rfl ?_
      rw [← hQ]
      exact W.iret (v := iI (-1)) hx hb hr (fun t ht hW => ⟨⟨iI (-1), v, rfl, ⟨(-1), rfl, hI, fr_rf, by omega, by omega⟩, by rw [ht]; exact hP, va_K.moved hW.alike hK, hD⟩, hS.F ht⟩) hS.2.2 dX10_add_17
set_option maxHeartbeats 2000000 in
set_option maxRecDepth 100000 in
theorem sX10_begin (l : Launch) (dC : Nat → ClassId) (dI : Nat → Nat → Nat) (sz : Nat) (L : List Nat) (cid : Nat → ClassId) (K : Int → Nat) (N : Int → Int) (tW : Nat) (sK sV : Nat → Nat) (v : Int → Int → Int) (p0 : Int) (hI : xI L K N v) (q0 : ok L K p0 10) : Met l yX10_begin (jk yX10_begin cX10_begin 2 none) ({ frames := 0, cells := 0, slots := 0, locals := 0 }) (va_Pc [.ref p0.toNat] (xP (dC, dI) (xG L cid K N v) (xT cid) tW sK sV sz)) (va_Qv (fun (u : (Int → Int → Int)) => (xI L K N u) ∧ (fr K [(62, (-1))] u v)) (fun u t => va_P (dC, dI) vwCl (xG L cid K N u) t.heap ∧ va_K (dC, dI) vwCl (xT cid) t ∧ va_D (va_A (xG L cid K N v) sz) (xG L cid K N u)) (va_A (xG L cid K N v) sz)) 0 0 (va_A (xG L cid K N v) sz) := by
  sorry
set_option maxHeartbeats 2000000 in
set_option maxRecDepth 100000 in
theorem sX10_meet (l : Launch) (dC : Nat → ClassId) (dI : Nat → Nat → Nat) (sz : Nat) (L : List Nat) (cid : Nat → ClassId) (K : Int → Nat) (N : Int → Int) (tW : Nat) (sK sV : Nat → Nat) (v : Int → Int → Int) (p0 : Int) (p1 : Int) (p2 : Int) (hI : xI L K N v) (q0 : ok L K p0 10) (q1 : rg p1) (q2 : 0 ≤ p2 ∧ p2 ≤ 1) : Met l yX10_meet (jk yX10_meet cX10_meet 7 none) ({ frames := 1, cells := 0, slots := 0, locals := 40 }) (va_Pc [.ref p0.toNat, .int (iI p1), .int (iI p2)] (xP (dC, dI) (xG L cid K N v) (xT cid) tW sK sV sz)) (va_Qv (fun (u : (Int → Int → Int)) => (xI L K N u) ∧ (fr K [(62, (-1))] u v)) (fun u t => va_P (dC, dI) vwCl (xG L cid K N u) t.heap ∧ va_K (dC, dI) vwCl (xT cid) t ∧ va_D (va_A (xG L cid K N v) sz) (xG L cid K N u)) (va_A (xG L cid K N v) sz)) 0 0 (va_A (xG L cid K N v) sz) := by
  sorry
set_option maxHeartbeats 2000000 in
set_option maxRecDepth 100000 in
theorem sX10_weightOfAll (l : Launch) (dC : Nat → ClassId) (dI : Nat → Nat → Nat) (sz : Nat) (L : List Nat) (cid : Nat → ClassId) (K : Int → Nat) (N : Int → Int) (tW : Nat) (sK sV : Nat → Nat) (v : Int → Int → Int) (p0 : Int) (hI : xI L K N v) (q0 : ok L K p0 10) : Met l yX10_weightOfAll (jk yX10_weightOfAll cX10_weightOfAll 1 (some .int)) ({ frames := 0, cells := 0, slots := 0, locals := 0 }) (va_Pc [.ref p0.toNat] (xP (dC, dI) (xG L cid K N v) (xT cid) tW sK sV sz)) (va_Qi (fun (r : Int32) (_ : Unit) => ∃ z : Int, r = iI z ∧ (rg z)) (fun _ _ => True) (va_A [] sz)) 0 0 (va_A [] sz) := by
  sorry
set_option maxHeartbeats 2000000 in
set_option maxRecDepth 100000 in
theorem sX10_changes (l : Launch) (dC : Nat → ClassId) (dI : Nat → Nat → Nat) (sz : Nat) (L : List Nat) (cid : Nat → ClassId) (K : Int → Nat) (N : Int → Int) (tW : Nat) (sK sV : Nat → Nat) (v : Int → Int → Int) (p0 : Int) (hI : xI L K N v) (q0 : ok L K p0 10) : Met l yX10_changes (jk yX10_changes cX10_changes 1 (some .int)) ({ frames := 1, cells := 0, slots := 0, locals := 20 }) (va_Pc [.ref p0.toNat] (xP (dC, dI) (xG L cid K N v) (xT cid) tW sK sV sz)) (va_Qi (fun (r : Int32) (_ : Unit) => ∃ z : Int, r = iI z ∧ (rg z)) (fun _ _ => True) (va_A [] sz)) 0 0 (va_A [] sz) := by
  sorry
set_option maxHeartbeats 2000000 in
set_option maxRecDepth 100000 in
theorem sX10_shared (l : Launch) (dC : Nat → ClassId) (dI : Nat → Nat → Nat) (sz : Nat) (L : List Nat) (cid : Nat → ClassId) (K : Int → Nat) (N : Int → Int) (tW : Nat) (sK sV : Nat → Nat) (v : Int → Int → Int) (p0 : Int) (hI : xI L K N v) (q0 : ok L K p0 10) : Met l yX10_shared (jk yX10_shared cX10_shared 1 (some .int)) ({ frames := 2, cells := 0, slots := 0, locals := 40 }) (va_Pc [.ref p0.toNat] (xP (dC, dI) (xG L cid K N v) (xT cid) tW sK sV sz)) (va_Qi (fun (r : Int32) (_ : Unit) => ∃ z : Int, r = iI z ∧ (rg z)) (fun _ _ => True) (va_A [] sz)) 0 0 (va_A [] sz) := by
  sorry
set_option maxHeartbeats 2000000 in
set_option maxRecDepth 100000 in
theorem sX11_addLaid (l : Launch) (dC : Nat → ClassId) (dI : Nat → Nat → Nat) (sz : Nat) (L : List Nat) (cid : Nat → ClassId) (K : Int → Nat) (N : Int → Int) (tW : Nat) (sK sV : Nat → Nat) (v : Int → Int → Int) (p0 : Int) (p1 : Int) (hI : xI L K N v) (q0 : ok L K p0 11) (q1 : rg p1) : Met l yX11_addLaid (jk yX11_addLaid cX11_addLaid 2 none) ({ frames := 0, cells := 0, slots := 0, locals := 0 }) (va_Pc [.ref p0.toNat, .int (iI p1)] (xP (dC, dI) (xG L cid K N v) (xT cid) tW sK sV sz)) (va_Qv (fun (u : (Int → Int → Int)) => (xI L K N u) ∧ (fr K [(11, 4), (64, (-1))] u v)) (fun u t => va_P (dC, dI) vwCl (xG L cid K N u) t.heap ∧ va_K (dC, dI) vwCl (xT cid) t ∧ va_D (va_A (xG L cid K N v) sz) (xG L cid K N u)) (va_A (xG L cid K N v) sz)) 0 0 (va_A (xG L cid K N v) sz) := by
  sorry
set_option maxHeartbeats 2000000 in
set_option maxRecDepth 100000 in
theorem sX11_laidAt (l : Launch) (dC : Nat → ClassId) (dI : Nat → Nat → Nat) (sz : Nat) (L : List Nat) (cid : Nat → ClassId) (K : Int → Nat) (N : Int → Int) (tW : Nat) (sK sV : Nat → Nat) (v : Int → Int → Int) (p0 : Int) (p1 : Int) (hI : xI L K N v) (q0 : ok L K p0 11) (q1 : rg p1) : Met l yX11_laidAt (jk yX11_laidAt cX11_laidAt 2 (some .int)) ({ frames := 0, cells := 0, slots := 0, locals := 0 }) (va_Pc [.ref p0.toNat, .int (iI p1)] (xP (dC, dI) (xG L cid K N v) (xT cid) tW sK sV sz)) (va_Qi (fun (r : Int32) (_ : Unit) => ∃ z : Int, r = iI z ∧ (rg z)) (fun _ _ => True) (va_A [] sz)) 0 0 (va_A [] sz) := by
  sorry
set_option maxHeartbeats 2000000 in
set_option maxRecDepth 100000 in
theorem sX12_feed (l : Launch) (dC : Nat → ClassId) (dI : Nat → Nat → Nat) (sz : Nat) (L : List Nat) (cid : Nat → ClassId) (K : Int → Nat) (N : Int → Int) (tW : Nat) (sK sV : Nat → Nat) (v : Int → Int → Int) (p0 : Int) (p1 : Int) (p2 : Int) (p3 : Int) (p4 : Int) (p5 : Int) (hI : xI L K N v) (q0 : ok L K p0 12) (q1 : rg p1) (q2 : rg p2) (q3 : rg p3) (q4 : rg p4) (q5 : rg p5) : Met l yX12_feed (jk yX12_feed cX12_feed 6 (some .int)) ({ frames := 1, cells := 0, slots := 0, locals := 22 }) (va_Pc [.ref p0.toNat, .int (iI p1), .int (iI p2), .int (iI p3), .int (iI p4), .int (iI p5)] (xP (dC, dI) (xG L cid K N v) (xT cid) tW sK sV sz)) (va_Qi (fun (r : Int32) (u : (Int → Int → Int)) => ∃ z : Int, r = iI z ∧ (xI L K N u) ∧ (fr K [(7, 1), (20, (-1))] u v) ∧ (rg z)) (fun u t => va_P (dC, dI) vwCl (xG L cid K N u) t.heap ∧ va_K (dC, dI) vwCl (xT cid) t ∧ va_D (va_A (xG L cid K N v) sz) (xG L cid K N u)) (va_A (xG L cid K N v) sz)) 0 0 (va_A (xG L cid K N v) sz) := by
  sorry
set_option maxHeartbeats 2000000 in
set_option maxRecDepth 100000 in
theorem sX12_end (l : Launch) (dC : Nat → ClassId) (dI : Nat → Nat → Nat) (sz : Nat) (L : List Nat) (cid : Nat → ClassId) (K : Int → Nat) (N : Int → Int) (tW : Nat) (sK sV : Nat → Nat) (v : Int → Int → Int) (p0 : Int) (p1 : Int) (hI : xI L K N v) (q0 : ok L K p0 12) (q1 : rg p1) : Met l yX12_end (jk yX12_end cX12_end 2 (some .boolean)) ({ frames := 0, cells := 0, slots := 0, locals := 0 }) (va_Pc [.ref p0.toNat, .int (iI p1)] (xP (dC, dI) (xG L cid K N v) (xT cid) tW sK sV sz)) (va_Qi (fun (r : Int32) (u : (Int → Int → Int)) => ∃ z : Int, r = iI z ∧ (xI L K N u) ∧ (fr K [(7, 1)] u v) ∧ (0 ≤ z ∧ z ≤ 1)) (fun u t => va_P (dC, dI) vwCl (xG L cid K N u) t.heap ∧ va_K (dC, dI) vwCl (xT cid) t ∧ va_D (va_A (xG L cid K N v) sz) (xG L cid K N u)) (va_A (xG L cid K N v) sz)) 0 0 (va_A (xG L cid K N v) sz) := by
  sorry
set_option maxHeartbeats 2000000 in
set_option maxRecDepth 100000 in
theorem sX12_fault (l : Launch) (dC : Nat → ClassId) (dI : Nat → Nat → Nat) (sz : Nat) (L : List Nat) (cid : Nat → ClassId) (K : Int → Nat) (N : Int → Int) (tW : Nat) (sK sV : Nat → Nat) (v : Int → Int → Int) (p0 : Int) (hI : xI L K N v) (q0 : ok L K p0 12) : Met l yX12_fault (jk yX12_fault cX12_fault 1 (some .int)) ({ frames := 35, cells := 0, slots := 0, locals := 791 }) (va_Pc [.ref p0.toNat] (xP (dC, dI) (xG L cid K N v) (xT cid) tW sK sV sz)) (va_Qi (fun (r : Int32) (u : (Int → Int → Int)) => ∃ z : Int, r = iI z ∧ (xI L K N u) ∧ (fr K [(7, 6), (7, 7), (7, 8), (7, 10), (7, 14), (21, (-1)), (22, (-1)), (23, (-1)), (24, (-1)), (25, (-1)), (26, (-1)), (27, (-1)), (28, (-1))] u v) ∧ (rg z)) (fun u t => va_P (dC, dI) vwCl (xG L cid K N u) t.heap ∧ va_K (dC, dI) vwCl (xT cid) t ∧ va_D (va_A (xG L cid K N v) sz) (xG L cid K N u)) (va_A (xG L cid K N v) sz)) 0 0 (va_A (xG L cid K N v) sz) := by
  sorry
set_option maxHeartbeats 2000000 in
set_option maxRecDepth 100000 in
theorem sX12_isSet (l : Launch) (dC : Nat → ClassId) (dI : Nat → Nat → Nat) (sz : Nat) (L : List Nat) (cid : Nat → ClassId) (K : Int → Nat) (N : Int → Int) (tW : Nat) (sK sV : Nat → Nat) (v : Int → Int → Int) (p0 : Int) (p1 : Int) (hI : xI L K N v) (q0 : ok L K p0 12) (q1 : rg p1) : Met l yX12_isSet (jk yX12_isSet cX12_isSet 2 (some .boolean)) ({ frames := 0, cells := 0, slots := 0, locals := 0 }) (va_Pc [.ref p0.toNat, .int (iI p1)] (xP (dC, dI) (xG L cid K N v) (xT cid) tW sK sV sz)) (va_Qi (fun (r : Int32) (_ : Unit) => ∃ z : Int, r = iI z ∧ (0 ≤ z ∧ z ≤ 1)) (fun _ _ => True) (va_A [] sz)) 0 0 (va_A [] sz) := by
  sorry
set_option maxHeartbeats 2000000 in
set_option maxRecDepth 100000 in
theorem sX12_volumeAt (l : Launch) (dC : Nat → ClassId) (dI : Nat → Nat → Nat) (sz : Nat) (L : List Nat) (cid : Nat → ClassId) (K : Int → Nat) (N : Int → Int) (tW : Nat) (sK sV : Nat → Nat) (v : Int → Int → Int) (p0 : Int) (p1 : Int) (hI : xI L K N v) (q0 : ok L K p0 12) (q1 : rg p1) : Met l yX12_volumeAt (jk yX12_volumeAt cX12_volumeAt 2 (some (.object "BookOfAll$Volume"))) ({ frames := 1, cells := 0, slots := 0, locals := 21 }) (va_Pc [.ref p0.toNat, .int (iI p1)] (xP (dC, dI) (xG L cid K N v) (xT cid) tW sK sV sz)) (va_Qq (fun (r : Option Nat) (_ : Unit) => ∃ z : Int, r = opt z ∧ (z < 0 ∨ ok L K z 11)) (fun _ _ => True) (va_A [] sz)) 0 0 (va_A [] sz) := by
  sorry
set_option maxHeartbeats 2000000 in
set_option maxRecDepth 100000 in
theorem sX12_lastLetter (l : Launch) (dC : Nat → ClassId) (dI : Nat → Nat → Nat) (sz : Nat) (L : List Nat) (cid : Nat → ClassId) (K : Int → Nat) (N : Int → Int) (tW : Nat) (sK sV : Nat → Nat) (v : Int → Int → Int) (p0 : Int) (p1 : Int) (hI : xI L K N v) (q0 : ok L K p0 12) (q1 : rg p1) : Met l yX12_lastLetter (jk yX12_lastLetter cX12_lastLetter 3 (some .int)) ({ frames := 2, cells := 0, slots := 0, locals := 42 }) (va_Pc [.ref p0.toNat, .int (iI p1)] (xP (dC, dI) (xG L cid K N v) (xT cid) tW sK sV sz)) (va_Qi (fun (r : Int32) (_ : Unit) => ∃ z : Int, r = iI z ∧ (rg z)) (fun _ _ => True) (va_A [] sz)) 0 0 (va_A [] sz) := by
  sorry
set_option maxHeartbeats 2000000 in
set_option maxRecDepth 100000 in
theorem sX12_volumeByKey (l : Launch) (dC : Nat → ClassId) (dI : Nat → Nat → Nat) (sz : Nat) (L : List Nat) (cid : Nat → ClassId) (K : Int → Nat) (N : Int → Int) (tW : Nat) (sK sV : Nat → Nat) (v : Int → Int → Int) (p0 : Int) (p1 : Int) (hI : xI L K N v) (q0 : ok L K p0 12) (q1 : ok L K p1 0) : Met l yX12_volumeByKey (jk yX12_volumeByKey cX12_volumeByKey 5 (some .int)) ({ frames := 3, cells := 0, slots := 0, locals := 73 }) (va_Pc [.ref p0.toNat, .ref p1.toNat] (xP (dC, dI) (xG L cid K N v) (xT cid) tW sK sV sz)) (va_Qi (fun (r : Int32) (u : (Int → Int → Int)) => ∃ z : Int, r = iI z ∧ (xI L K N u) ∧ (fr K [(0, 5)] u v) ∧ (rg z)) (fun u t => va_P (dC, dI) vwCl (xG L cid K N u) t.heap ∧ va_K (dC, dI) vwCl (xT cid) t ∧ va_D (va_A (xG L cid K N v) sz) (xG L cid K N u)) (va_A (xG L cid K N v) sz)) 0 0 (va_A (xG L cid K N v) sz) := by
  sorry
set_option maxHeartbeats 2000000 in
set_option maxRecDepth 100000 in
theorem sX12_sortIntoVolumes (l : Launch) (dC : Nat → ClassId) (dI : Nat → Nat → Nat) (sz : Nat) (L : List Nat) (cid : Nat → ClassId) (K : Int → Nat) (N : Int → Int) (tW : Nat) (sK sV : Nat → Nat) (v : Int → Int → Int) (p0 : Int) (hI : xI L K N v) (q0 : ok L K p0 12) : Met l yX12_sortIntoVolumes (jk yX12_sortIntoVolumes cX12_sortIntoVolumes 3 none) ({ frames := 5, cells := 0, slots := 0, locals := 137 }) (va_Pc [.ref p0.toNat] (xP (dC, dI) (xG L cid K N v) (xT cid) tW sK sV sz)) (va_Qv (fun (u : (Int → Int → Int)) => (xI L K N u) ∧ (fr K [(0, 5), (0, 6), (6, 1), (6, 2), (6, 3), (6, 4), (6, 5), (34, (-1))] u v)) (fun u t => va_P (dC, dI) vwCl (xG L cid K N u) t.heap ∧ va_K (dC, dI) vwCl (xT cid) t ∧ va_D (va_A (xG L cid K N v) sz) (xG L cid K N u)) (va_A (xG L cid K N v) sz)) 0 0 (va_A (xG L cid K N v) sz) := by
  sorry
set_option maxHeartbeats 2000000 in
set_option maxRecDepth 100000 in
theorem sX12_force (l : Launch) (dC : Nat → ClassId) (dI : Nat → Nat → Nat) (sz : Nat) (L : List Nat) (cid : Nat → ClassId) (K : Int → Nat) (N : Int → Int) (tW : Nat) (sK sV : Nat → Nat) (v : Int → Int → Int) (p0 : Int) (p1 : Int) (p2 : Int) (hI : xI L K N v) (q0 : ok L K p0 12) (q1 : rg p1) (q2 : rg p2) : Met l yX12_force (jk yX12_force cX12_force 5 (some .int)) ({ frames := 6, cells := 0, slots := 0, locals := 159 }) (va_Pc [.ref p0.toNat, .int (iI p1), .int (iI p2)] (xP (dC, dI) (xG L cid K N v) (xT cid) tW sK sV sz)) (va_Qi (fun (r : Int32) (u : (Int → Int → Int)) => ∃ z : Int, r = iI z ∧ (xI L K N u) ∧ (fr K [(0, 5), (0, 6), (6, 1), (6, 2), (6, 3), (6, 4), (6, 5), (8, 5), (30, (-1)), (31, (-1)), (32, (-1)), (34, (-1))] u v) ∧ (rg z)) (fun u t => va_P (dC, dI) vwCl (xG L cid K N u) t.heap ∧ va_K (dC, dI) vwCl (xT cid) t ∧ va_D (va_A (xG L cid K N v) sz) (xG L cid K N u)) (va_A (xG L cid K N v) sz)) 0 0 (va_A (xG L cid K N v) sz) := by
  sorry
set_option maxHeartbeats 2000000 in
set_option maxRecDepth 100000 in
theorem sX12_rule (l : Launch) (dC : Nat → ClassId) (dI : Nat → Nat → Nat) (sz : Nat) (L : List Nat) (cid : Nat → ClassId) (K : Int → Nat) (N : Int → Int) (tW : Nat) (sK sV : Nat → Nat) (v : Int → Int → Int) (p0 : Int) (p1 : Int) (p2 : Int) (p3 : Int) (hI : xI L K N v) (q0 : ok L K p0 12) (q1 : rg p1) (q2 : rg p2) (q3 : rg p3) : Met l yX12_rule (jk yX12_rule cX12_rule 5 (some .int)) ({ frames := 2, cells := 0, slots := 0, locals := 50 }) (va_Pc [.ref p0.toNat, .int (iI p1), .int (iI p2), .int (iI p3)] (xP (dC, dI) (xG L cid K N v) (xT cid) tW sK sV sz)) (va_Qi (fun (r : Int32) (_ : Unit) => ∃ z : Int, r = iI z ∧ (rg z)) (fun _ _ => True) (va_A [] sz)) 0 0 (va_A [] sz) := by
  sorry
set_option maxHeartbeats 2000000 in
set_option maxRecDepth 100000 in
theorem sX12_bound (l : Launch) (dC : Nat → ClassId) (dI : Nat → Nat → Nat) (sz : Nat) (L : List Nat) (cid : Nat → ClassId) (K : Int → Nat) (N : Int → Int) (tW : Nat) (sK sV : Nat → Nat) (v : Int → Int → Int) (p0 : Int) (p1 : Int) (p2 : Int) (hI : xI L K N v) (q0 : ok L K p0 12) (q1 : rg p1) (q2 : rg p2) : Met l yX12_bound (jk yX12_bound cX12_bound 4 (some .boolean)) ({ frames := 6, cells := 0, slots := 0, locals := 159 }) (va_Pc [.ref p0.toNat, .int (iI p1), .int (iI p2)] (xP (dC, dI) (xG L cid K N v) (xT cid) tW sK sV sz)) (va_Qi (fun (r : Int32) (u : (Int → Int → Int)) => ∃ z : Int, r = iI z ∧ (xI L K N u) ∧ (fr K [(0, 5), (0, 6), (6, 1), (6, 2), (6, 3), (6, 4), (6, 5), (11, 0), (34, (-1))] u v) ∧ (0 ≤ z ∧ z ≤ 1)) (fun u t => va_P (dC, dI) vwCl (xG L cid K N u) t.heap ∧ va_K (dC, dI) vwCl (xT cid) t ∧ va_D (va_A (xG L cid K N v) sz) (xG L cid K N u)) (va_A (xG L cid K N v) sz)) 0 0 (va_A (xG L cid K N v) sz) := by
  sorry
set_option maxHeartbeats 2000000 in
set_option maxRecDepth 100000 in
theorem sX12_setVolumeAt (l : Launch) (dC : Nat → ClassId) (dI : Nat → Nat → Nat) (sz : Nat) (L : List Nat) (cid : Nat → ClassId) (K : Int → Nat) (N : Int → Int) (tW : Nat) (sK sV : Nat → Nat) (v : Int → Int → Int) (p0 : Int) (p1 : Int) (hI : xI L K N v) (q0 : ok L K p0 12) (q1 : rg p1) : Met l yX12_setVolumeAt (jk yX12_setVolumeAt cX12_setVolumeAt 3 (some (.object "BookOfAll$Volume"))) ({ frames := 2, cells := 0, slots := 0, locals := 42 }) (va_Pc [.ref p0.toNat, .int (iI p1)] (xP (dC, dI) (xG L cid K N v) (xT cid) tW sK sV sz)) (va_Qq (fun (r : Option Nat) (_ : Unit) => ∃ z : Int, r = opt z ∧ (z < 0 ∨ ok L K z 11)) (fun _ _ => True) (va_A [] sz)) 0 0 (va_A [] sz) := by
  sorry
set_option maxHeartbeats 2000000 in
set_option maxRecDepth 100000 in
theorem sX12_areEntries (l : Launch) (dC : Nat → ClassId) (dI : Nat → Nat → Nat) (sz : Nat) (L : List Nat) (cid : Nat → ClassId) (K : Int → Nat) (N : Int → Int) (tW : Nat) (sK sV : Nat → Nat) (v : Int → Int → Int) (p0 : Int) (p1 : Int) (p2 : Int) (hI : xI L K N v) (q0 : ok L K p0 12) (q1 : rg p1) (q2 : rg p2) : Met l yX12_areEntries (jk yX12_areEntries cX12_areEntries 8 (some .boolean)) ({ frames := 1, cells := 0, slots := 0, locals := 21 }) (va_Pc [.ref p0.toNat, .int (iI p1), .int (iI p2)] (xP (dC, dI) (xG L cid K N v) (xT cid) tW sK sV sz)) (va_Qi (fun (r : Int32) (_ : Unit) => ∃ z : Int, r = iI z ∧ (0 ≤ z ∧ z ≤ 1)) (fun _ _ => True) (va_A [] sz)) 0 0 (va_A [] sz) := by
  sorry
set_option maxHeartbeats 2000000 in
set_option maxRecDepth 100000 in
theorem sX12_entryOfKind (l : Launch) (dC : Nat → ClassId) (dI : Nat → Nat → Nat) (sz : Nat) (L : List Nat) (cid : Nat → ClassId) (K : Int → Nat) (N : Int → Int) (tW : Nat) (sK sV : Nat → Nat) (v : Int → Int → Int) (p0 : Int) (p1 : Int) (p2 : Int) (hI : xI L K N v) (q0 : ok L K p0 12) (q1 : rg p1) (q2 : rg p2) : Met l yX12_entryOfKind (jk yX12_entryOfKind cX12_entryOfKind 4 (some (.object "BookOfAll$Entry"))) ({ frames := 1, cells := 0, slots := 0, locals := 21 }) (va_Pc [.ref p0.toNat, .int (iI p1), .int (iI p2)] (xP (dC, dI) (xG L cid K N v) (xT cid) tW sK sV sz)) (va_Qq (fun (r : Option Nat) (_ : Unit) => ∃ z : Int, r = opt z ∧ (z < 0 ∨ ok L K z 0)) (fun _ _ => True) (va_A [] sz)) 0 0 (va_A [] sz) := by
  sorry
set_option maxHeartbeats 2000000 in
set_option maxRecDepth 100000 in
theorem sX12_points (l : Launch) (dC : Nat → ClassId) (dI : Nat → Nat → Nat) (sz : Nat) (L : List Nat) (cid : Nat → ClassId) (K : Int → Nat) (N : Int → Int) (tW : Nat) (sK sV : Nat → Nat) (v : Int → Int → Int) (p0 : Int) (p1 : Int) (p2 : Int) (hI : xI L K N v) (q0 : ok L K p0 12) (q1 : rg p1) (q2 : rg p2) : Met l yX12_points (jk yX12_points cX12_points 4 (some .boolean)) ({ frames := 2, cells := 0, slots := 0, locals := 44 }) (va_Pc [.ref p0.toNat, .int (iI p1), .int (iI p2)] (xP (dC, dI) (xG L cid K N v) (xT cid) tW sK sV sz)) (va_Qi (fun (r : Int32) (u : (Int → Int → Int)) => ∃ z : Int, r = iI z ∧ (xI L K N u) ∧ (fr K [(0, 10)] u v) ∧ (0 ≤ z ∧ z ≤ 1)) (fun u t => va_P (dC, dI) vwCl (xG L cid K N u) t.heap ∧ va_K (dC, dI) vwCl (xT cid) t ∧ va_D (va_A (xG L cid K N v) sz) (xG L cid K N u)) (va_A (xG L cid K N v) sz)) 0 0 (va_A (xG L cid K N v) sz) := by
  sorry
set_option maxHeartbeats 2000000 in
set_option maxRecDepth 100000 in
theorem sX12_isLater (l : Launch) (dC : Nat → ClassId) (dI : Nat → Nat → Nat) (sz : Nat) (L : List Nat) (cid : Nat → ClassId) (K : Int → Nat) (N : Int → Int) (tW : Nat) (sK sV : Nat → Nat) (v : Int → Int → Int) (p0 : Int) (p1 : Int) (hI : xI L K N v) (q0 : ok L K p0 12) (q1 : ok L K p1 0) : Met l yX12_isLater (jk yX12_isLater cX12_isLater 2 (some .boolean)) ({ frames := 1, cells := 0, slots := 0, locals := 21 }) (va_Pc [.ref p0.toNat, .ref p1.toNat] (xP (dC, dI) (xG L cid K N v) (xT cid) tW sK sV sz)) (va_Qi (fun (r : Int32) (_ : Unit) => ∃ z : Int, r = iI z ∧ (0 ≤ z ∧ z ≤ 1)) (fun _ _ => True) (va_A [] sz)) 0 0 (va_A [] sz) := by
  sorry
set_option maxHeartbeats 2000000 in
set_option maxRecDepth 100000 in
theorem sX12_sendAway (l : Launch) (dC : Nat → ClassId) (dI : Nat → Nat → Nat) (sz : Nat) (L : List Nat) (cid : Nat → ClassId) (K : Int → Nat) (N : Int → Int) (tW : Nat) (sK sV : Nat → Nat) (v : Int → Int → Int) (p0 : Int) (p1 : Int) (p2 : Int) (hI : xI L K N v) (q0 : ok L K p0 12) (q1 : rg p1) (q2 : rg p2) : Met l yX12_sendAway (jk yX12_sendAway cX12_sendAway 4 (some .boolean)) ({ frames := 2, cells := 0, slots := 0, locals := 42 }) (va_Pc [.ref p0.toNat, .int (iI p1), .int (iI p2)] (xP (dC, dI) (xG L cid K N v) (xT cid) tW sK sV sz)) (va_Qi (fun (r : Int32) (u : (Int → Int → Int)) => ∃ z : Int, r = iI z ∧ (xI L K N u) ∧ (fr K [(0, 11)] u v) ∧ (0 ≤ z ∧ z ≤ 1)) (fun u t => va_P (dC, dI) vwCl (xG L cid K N u) t.heap ∧ va_K (dC, dI) vwCl (xT cid) t ∧ va_D (va_A (xG L cid K N v) sz) (xG L cid K N u)) (va_A (xG L cid K N v) sz)) 0 0 (va_A (xG L cid K N v) sz) := by
  sorry
set_option maxHeartbeats 2000000 in
set_option maxRecDepth 100000 in
theorem sX12_strike (l : Launch) (dC : Nat → ClassId) (dI : Nat → Nat → Nat) (sz : Nat) (L : List Nat) (cid : Nat → ClassId) (K : Int → Nat) (N : Int → Int) (tW : Nat) (sK sV : Nat → Nat) (v : Int → Int → Int) (p0 : Int) (p1 : Int) (hI : xI L K N v) (q0 : ok L K p0 12) (q1 : rg p1) : Met l yX12_strike (jk yX12_strike cX12_strike 2 (some .boolean)) ({ frames := 3, cells := 0, slots := 0, locals := 65 }) (va_Pc [.ref p0.toNat, .int (iI p1)] (xP (dC, dI) (xG L cid K N v) (xT cid) tW sK sV sz)) (va_Qi (fun (r : Int32) (u : (Int → Int → Int)) => ∃ z : Int, r = iI z ∧ (xI L K N u) ∧ (fr K [(0, 11)] u v) ∧ (0 ≤ z ∧ z ≤ 1)) (fun u t => va_P (dC, dI) vwCl (xG L cid K N u) t.heap ∧ va_K (dC, dI) vwCl (xT cid) t ∧ va_D (va_A (xG L cid K N v) sz) (xG L cid K N u)) (va_A (xG L cid K N v) sz)) 0 0 (va_A (xG L cid K N v) sz) := by
  sorry
set_option maxHeartbeats 2000000 in
set_option maxRecDepth 100000 in
theorem sX12_later (l : Launch) (dC : Nat → ClassId) (dI : Nat → Nat → Nat) (sz : Nat) (L : List Nat) (cid : Nat → ClassId) (K : Int → Nat) (N : Int → Int) (tW : Nat) (sK sV : Nat → Nat) (v : Int → Int → Int) (p0 : Int) (p1 : Int) (hI : xI L K N v) (q0 : ok L K p0 12) (q1 : rg p1) : Met l yX12_later (jk yX12_later cX12_later 2 (some .boolean)) ({ frames := 3, cells := 0, slots := 0, locals := 65 }) (va_Pc [.ref p0.toNat, .int (iI p1)] (xP (dC, dI) (xG L cid K N v) (xT cid) tW sK sV sz)) (va_Qi (fun (r : Int32) (u : (Int → Int → Int)) => ∃ z : Int, r = iI z ∧ (xI L K N u) ∧ (fr K [(0, 11)] u v) ∧ (0 ≤ z ∧ z ≤ 1)) (fun u t => va_P (dC, dI) vwCl (xG L cid K N u) t.heap ∧ va_K (dC, dI) vwCl (xT cid) t ∧ va_D (va_A (xG L cid K N v) sz) (xG L cid K N u)) (va_A (xG L cid K N v) sz)) 0 0 (va_A (xG L cid K N v) sz) := by
  sorry
set_option maxHeartbeats 2000000 in
set_option maxRecDepth 100000 in
theorem sX12_isStruck (l : Launch) (dC : Nat → ClassId) (dI : Nat → Nat → Nat) (sz : Nat) (L : List Nat) (cid : Nat → ClassId) (K : Int → Nat) (N : Int → Int) (tW : Nat) (sK sV : Nat → Nat) (v : Int → Int → Int) (p0 : Int) (p1 : Int) (hI : xI L K N v) (q0 : ok L K p0 12) (q1 : ok L K p1 0) : Met l yX12_isStruck (jk yX12_isStruck cX12_isStruck 2 (some .boolean)) ({ frames := 0, cells := 0, slots := 0, locals := 0 }) (va_Pc [.ref p0.toNat, .ref p1.toNat] (xP (dC, dI) (xG L cid K N v) (xT cid) tW sK sV sz)) (va_Qi (fun (r : Int32) (_ : Unit) => ∃ z : Int, r = iI z ∧ (0 ≤ z ∧ z ≤ 1)) (fun _ _ => True) (va_A [] sz)) 0 0 (va_A [] sz) := by
  sorry
set_option maxHeartbeats 2000000 in
set_option maxRecDepth 100000 in
theorem sX12_standing (l : Launch) (dC : Nat → ClassId) (dI : Nat → Nat → Nat) (sz : Nat) (L : List Nat) (cid : Nat → ClassId) (K : Int → Nat) (N : Int → Int) (tW : Nat) (sK sV : Nat → Nat) (v : Int → Int → Int) (p0 : Int) (p1 : Int) (hI : xI L K N v) (q0 : ok L K p0 12) (q1 : ok L K p1 0) : Met l yX12_standing (jk yX12_standing cX12_standing 2 (some .int)) ({ frames := 2, cells := 0, slots := 0, locals := 42 }) (va_Pc [.ref p0.toNat, .ref p1.toNat] (xP (dC, dI) (xG L cid K N v) (xT cid) tW sK sV sz)) (va_Qi (fun (r : Int32) (_ : Unit) => ∃ z : Int, r = iI z ∧ (rg z)) (fun _ _ => True) (va_A [] sz)) 0 0 (va_A [] sz) := by
  sorry
set_option maxHeartbeats 2000000 in
set_option maxRecDepth 100000 in
theorem sX12_volume (l : Launch) (dC : Nat → ClassId) (dI : Nat → Nat → Nat) (sz : Nat) (L : List Nat) (cid : Nat → ClassId) (K : Int → Nat) (N : Int → Int) (tW : Nat) (sK sV : Nat → Nat) (v : Int → Int → Int) (p0 : Int) (p1 : Int) (hI : xI L K N v) (q0 : ok L K p0 12) (q1 : rg p1) : Met l yX12_volume (jk yX12_volume cX12_volume 3 (some .int)) ({ frames := 3, cells := 0, slots := 0, locals := 63 }) (va_Pc [.ref p0.toNat, .int (iI p1)] (xP (dC, dI) (xG L cid K N v) (xT cid) tW sK sV sz)) (va_Qi (fun (r : Int32) (_ : Unit) => ∃ z : Int, r = iI z ∧ (rg z)) (fun _ _ => True) (va_A [] sz)) 0 0 (va_A [] sz) := by
  sorry
set_option maxHeartbeats 2000000 in
set_option maxRecDepth 100000 in
theorem sX12_arrange (l : Launch) (dC : Nat → ClassId) (dI : Nat → Nat → Nat) (sz : Nat) (L : List Nat) (cid : Nat → ClassId) (K : Int → Nat) (N : Int → Int) (tW : Nat) (sK sV : Nat → Nat) (v : Int → Int → Int) (p0 : Int) (p1 : Int) (hI : xI L K N v) (q0 : ok L K p0 12) (q1 : rg p1) : Met l yX12_arrange (jk yX12_arrange cX12_arrange 4 none) ({ frames := 5, cells := 0, slots := 0, locals := 137 }) (va_Pc [.ref p0.toNat, .int (iI p1)] (xP (dC, dI) (xG L cid K N v) (xT cid) tW sK sV sz)) (va_Qv (fun (u : (Int → Int → Int)) => (xI L K N u) ∧ (fr K [(0, 5), (6, 1), (6, 2), (6, 3), (6, 4), (6, 5), (12, 9), (34, (-1)), (37, (-1))] u v)) (fun u t => va_P (dC, dI) vwCl (xG L cid K N u) t.heap ∧ va_K (dC, dI) vwCl (xT cid) t ∧ va_D (va_A (xG L cid K N v) sz) (xG L cid K N u)) (va_A (xG L cid K N v) sz)) 0 0 (va_A (xG L cid K N v) sz) := by
  sorry
set_option maxHeartbeats 2000000 in
set_option maxRecDepth 100000 in
theorem sX12_at (l : Launch) (dC : Nat → ClassId) (dI : Nat → Nat → Nat) (sz : Nat) (L : List Nat) (cid : Nat → ClassId) (K : Int → Nat) (N : Int → Int) (tW : Nat) (sK sV : Nat → Nat) (v : Int → Int → Int) (p0 : Int) (p1 : Int) (p2 : Int) (hI : xI L K N v) (q0 : ok L K p0 12) (q1 : rg p1) (q2 : rg p2) : Met l yX12_at (jk yX12_at cX12_at 4 (some .int)) ({ frames := 6, cells := 0, slots := 0, locals := 160 }) (va_Pc [.ref p0.toNat, .int (iI p1), .int (iI p2)] (xP (dC, dI) (xG L cid K N v) (xT cid) tW sK sV sz)) (va_Qi (fun (r : Int32) (u : (Int → Int → Int)) => ∃ z : Int, r = iI z ∧ (xI L K N u) ∧ (fr K [(0, 5), (6, 1), (6, 2), (6, 3), (6, 4), (6, 5), (12, 9), (34, (-1)), (37, (-1))] u v) ∧ (rg z)) (fun u t => va_P (dC, dI) vwCl (xG L cid K N u) t.heap ∧ va_K (dC, dI) vwCl (xT cid) t ∧ va_D (va_A (xG L cid K N v) sz) (xG L cid K N u)) (va_A (xG L cid K N v) sz)) 0 0 (va_A (xG L cid K N v) sz) := by
  sorry
set_option maxHeartbeats 2000000 in
set_option maxRecDepth 100000 in
theorem sX12_inRow (l : Launch) (dC : Nat → ClassId) (dI : Nat → Nat → Nat) (sz : Nat) (L : List Nat) (cid : Nat → ClassId) (K : Int → Nat) (N : Int → Int) (tW : Nat) (sK sV : Nat → Nat) (v : Int → Int → Int) (p0 : Int) (p1 : Int) (hI : xI L K N v) (q0 : ok L K p0 12) (q1 : rg p1) : Met l yX12_inRow (jk yX12_inRow cX12_inRow 2 (some (.object "BookOfAll$Entry"))) ({ frames := 1, cells := 0, slots := 0, locals := 21 }) (va_Pc [.ref p0.toNat, .int (iI p1)] (xP (dC, dI) (xG L cid K N v) (xT cid) tW sK sV sz)) (va_Qq (fun (r : Option Nat) (_ : Unit) => ∃ z : Int, r = opt z ∧ (z < 0 ∨ ok L K z 0)) (fun _ _ => True) (va_A [] sz)) 0 0 (va_A [] sz) := by
  sorry
set_option maxHeartbeats 2000000 in
set_option maxRecDepth 100000 in
theorem sX12_why (l : Launch) (dC : Nat → ClassId) (dI : Nat → Nat → Nat) (sz : Nat) (L : List Nat) (cid : Nat → ClassId) (K : Int → Nat) (N : Int → Int) (tW : Nat) (sK sV : Nat → Nat) (v : Int → Int → Int) (p0 : Int) (p1 : Int) (p2 : Int) (hI : xI L K N v) (q0 : ok L K p0 12) (q1 : rg p1) (q2 : rg p2) : Met l yX12_why (jk yX12_why cX12_why 7 (some .int)) ({ frames := 5, cells := 0, slots := 0, locals := 137 }) (va_Pc [.ref p0.toNat, .int (iI p1), .int (iI p2)] (xP (dC, dI) (xG L cid K N v) (xT cid) tW sK sV sz)) (va_Qi (fun (r : Int32) (u : (Int → Int → Int)) => ∃ z : Int, r = iI z ∧ (xI L K N u) ∧ (fr K [(0, 5), (6, 1), (6, 2), (6, 3), (6, 4), (6, 5), (34, (-1))] u v) ∧ (rg z)) (fun u t => va_P (dC, dI) vwCl (xG L cid K N u) t.heap ∧ va_K (dC, dI) vwCl (xT cid) t ∧ va_D (va_A (xG L cid K N v) sz) (xG L cid K N u)) (va_A (xG L cid K N v) sz)) 0 0 (va_A (xG L cid K N v) sz) := by
  sorry
set_option maxHeartbeats 2000000 in
set_option maxRecDepth 100000 in
theorem sX12_handAt (l : Launch) (dC : Nat → ClassId) (dI : Nat → Nat → Nat) (sz : Nat) (L : List Nat) (cid : Nat → ClassId) (K : Int → Nat) (N : Int → Int) (tW : Nat) (sK sV : Nat → Nat) (v : Int → Int → Int) (p0 : Int) (p1 : Int) (hI : xI L K N v) (q0 : ok L K p0 12) (q1 : rg p1) : Met l yX12_handAt (jk yX12_handAt cX12_handAt 2 (some (.object "BookOfAll$Hand"))) ({ frames := 0, cells := 0, slots := 0, locals := 0 }) (va_Pc [.ref p0.toNat, .int (iI p1)] (xP (dC, dI) (xG L cid K N v) (xT cid) tW sK sV sz)) (va_Qq (fun (r : Option Nat) (_ : Unit) => ∃ z : Int, r = opt z ∧ (z < 0 ∨ ok L K z 2) ∧ ((0 ≤ p1 ∧ p1 < v p0 11 ∧ z = v (v p0 10) p1) ∨ ((p1 < 0 ∨ v p0 11 ≤ p1) ∧ z < 0))) (fun _ _ => True) (va_A [] sz)) 0 0 (va_A [] sz) := by
  refine Met.ofW (cc := cX12_handAt) (maxL := 2) (ret := (some (.object "BookOfAll$Hand"))) (by decide) rfl ?_
  intro p e s m args below meth c s₁ B hml hv
  obtain ⟨rfl, ⟨hsz, hP, hK, hD0⟩, hX⟩ := hv
  have hx := B.exec
  have hb := B.bytes
  have hr := B.returns
  have hts := atoms_spec (ws := (jk yX12_handAt cX12_handAt 2 (some (.object "BookOfAll$Hand")))) B.pre
  have hj : ∀ w ∈ jw, w.before ([.ref p0.toNat, .int (iI p1)] : List Value).toArray s = true := fun w h => hts w (jm h)
  have hown : s.vm.findClass RX12 = some m.cls := findClass_of_methodNamed B.named
  subst hsz
  have hDw := hD0.self (sz := s.heap.size)
  have hAA : ∀ q : Nat, s.heap.size ≤ q → va_A (xG L cid K N v) s.heap.size q := fun q h => Or.inr h
  have hAw : ∀ q, va_A [] s.heap.size q → va_A (xG L cid K N v) s.heap.size q := ja_nil va_S.rf hAA
  generalize hAe : (va_A [] s.heap.size) = A at hAw ⊢
  have hA : ∀ q : Nat, s.heap.size ≤ q → A q := fun q h => by rw [← hAe]; exact Or.inr h
  have hS : va_S A s.heap s.heap [] := va_S.rf
  have hXa := hX.nar hAw
  have hP : va_P (dC, dI) vwCl (xG L cid K N v) s.heap := hP
  have hl := lv_entry ([.ref p0.toNat, .int (iI p1)]) (n := 2) (Nat.le_of_ble_eq_true rfl)
  rw [lg_entry_eq]
  generalize (lg_sl ([.ref p0.toNat, .int (iI p1)]) ++ List.replicate (2 - (lg_sl ([.ref p0.toNat, .int (iI p1)])).length) Slot.unset).toArray = ls at hl ⊢
  have hl : lv_has ls 2 [(0, .ref p0.toNat), (1, .int (iI p1))] := hl
  generalize hQ : MQ below (va_Qq (fun (r : Option Nat) (_ : Unit) => ∃ z : Int, r = opt z ∧ (z < 0 ∨ ok L K z 2) ∧ ((0 ≤ p1 ∧ p1 < v p0 11 ∧ z = v (v p0 10) p1) ∨ ((p1 < 0 ∨ v p0 11 ≤ p1) ∧ z < 0))) (fun _ _ => True) A) ([.ref p0.toNat, .int (iI p1)] : List Value).toArray s 0 0 A = Q
  suffices ST : ∀ (H : Heap) (locs : List Loc), va_P (dC, dI) vwCl (xG L cid K N v) H → va_S A s.heap H locs → W p l e ({ frames := 0, cells := 0, slots := 0, locals := 0 }) s m ([.ref p0.toNat, .int (iI p1)] : List Value).toArray below meth c H locs 0 0 Q (F0 m 0 ls []) from ST _ _ hP hS
  clear hP hS
  intro H locs hP hS
  refine lv_iload_n hx hb dX12_handAt_0 rfl (lv_at hl 1 rfl) ?_
  refine xr_if_lt (tgt := 27) hx hb dX12_handAt_1 (by decide) (by omega) (fun h_1 => ?_) (fun h_1 => ?_)
  · refine lv_null hx hb dX12_handAt_27 ?_
    refine jt_q (rv (-1)) rv_nul ?_
    have h_2 : 0 ≤ v p0 11 ∧ v p0 11 ≤ 12 := xf_12_11 hI q0
    have h_3 : ok L K (v p0 10) 38 := xf_12_10 hI q0
    have h_4 : N (v p0 10) = 12 := xn_38 hI h_3
    rw [← hQ]
    exact W.aret (v := rv (-1)) hx hb hr (Or.inl ⟨_, rfl⟩) (rv_or (-1)) (fun t ht hW => ⟨⟨opt (-1), (), rfl, ⟨-1, rfl, (Or.inl (by decide)), by omega⟩, trivial⟩, hS.F ht⟩) hS.2.2 dX12_handAt_28
  · refine lv_iload_n hx hb dX12_handAt_4 rfl (lv_at hl 1 rfl) ?_
    refine lv_aload_n hx hb dX12_handAt_5 rfl (lv_at hl 0 rfl) ?_
    have h_5 : 0 ≤ v p0 11 ∧ v p0 11 ≤ 12 := xf_12_11 hI q0
    refine gx_RX12_292 (y := v p0 11) hx hb hj hown hK hP q0 rfl dX12_handAt_6 ?_
    refine xr_icmp_ge (tgt := 27) hx hb dX12_handAt_9 (by decide) (by omega) (by omega) (fun h_6 => ?_) (fun h_6 => ?_)
    · refine lv_null hx hb dX12_handAt_27 ?_
      refine jt_q (rv (-1)) rv_nul ?_
      have h_7 : ok L K (v p0 10) 38 := xf_12_10 hI q0
      have h_8 : N (v p0 10) = 12 := xn_38 hI h_7
      rw [← hQ]
      exact W.aret (v := rv (-1)) hx hb hr (Or.inl ⟨_, rfl⟩) (rv_or (-1)) (fun t ht hW => ⟨⟨opt (-1), (), rfl, ⟨-1, rfl, (Or.inl (by decide)), by omega⟩, trivial⟩, hS.F ht⟩) hS.2.2 dX12_handAt_28
    · refine lv_iload_n hx hb dX12_handAt_12 rfl (lv_at hl 1 rfl) ?_
      refine lv_bipush (v := iI 12) hx hb dX12_handAt_13 rfl ?_
      refine xr_icmp_ge (tgt := 27) hx hb dX12_handAt_15 (by decide) (by omega) (by omega) (fun h_9 => ?_) (fun h_9 => ?_)
      · exfalso; omega
      · refine lv_aload_n hx hb dX12_handAt_18 rfl (lv_at hl 0 rfl) ?_
        have h_10 : ok L K (v p0 10) 38 := xf_12_10 hI q0
        have h_11 : N (v p0 10) = 12 := xn_38 hI h_10
        refine gx_RX12_53 (y := v p0 10) hx hb hj hown hK hP q0 ((xf_12_10 hI q0).1) rfl dX12_handAt_19 ?_
        refine lv_iload_n hx hb dX12_handAt_22 rfl (lv_at hl 1 rfl) ?_
        have h_12 : v (v p0 10) p1 < 0 ∨ ok L K (v (v p0 10) p1) 2 := xe_38 hI h_10 (by omega)
        refine ax_38 (y := v (v p0 10) p1) hx hb hK hP h_10 (by omega) (by omega) (by omega) rfl dX12_handAt_23 ?_
        refine lv_goto (tgt := 28) hx hb dX12_handAt_24 (by decide) ?_
        rw [← hQ]
        exact W.aret (v := rv (v (v p0 10) p1)) hx hb hr (Or.inl ⟨_, rfl⟩) (rv_or (v (v p0 10) p1)) (fun t ht hW => ⟨⟨opt (v (v p0 10) p1), (), rfl, ⟨v (v p0 10) p1, rfl, h_12, by omega⟩, trivial⟩, hS.F ht⟩) hS.2.2 dX12_handAt_28
set_option maxHeartbeats 2000000 in
set_option maxRecDepth 100000 in
theorem sX12_livingHandAt (l : Launch) (dC : Nat → ClassId) (dI : Nat → Nat → Nat) (sz : Nat) (L : List Nat) (cid : Nat → ClassId) (K : Int → Nat) (N : Int → Int) (tW : Nat) (sK sV : Nat → Nat) (v : Int → Int → Int) (p0 : Int) (p1 : Int) (hI : xI L K N v) (q0 : ok L K p0 12) (q1 : rg p1) : Met l yX12_livingHandAt (jk yX12_livingHandAt cX12_livingHandAt 3 (some (.object "BookOfAll$Hand"))) ({ frames := 1, cells := 0, slots := 0, locals := 21 }) (va_Pc [.ref p0.toNat, .int (iI p1)] (xP (dC, dI) (xG L cid K N v) (xT cid) tW sK sV sz)) (va_Qq (fun (r : Option Nat) (_ : Unit) => ∃ z : Int, r = opt z ∧ (z < 0 ∨ ok L K z 2)) (fun _ _ => True) (va_A [] sz)) 0 0 (va_A [] sz) := by
  refine Met.ofW (cc := cX12_livingHandAt) (maxL := 3) (ret := (some (.object "BookOfAll$Hand"))) (by decide) rfl ?_
  intro p e s m args below meth c s₁ B hml hv
  obtain ⟨rfl, ⟨hsz, hP, hK, hD0⟩, hX⟩ := hv
  have hx := B.exec
  have hb := B.bytes
  have hr := B.returns
  have hts := atoms_spec (ws := (jk yX12_livingHandAt cX12_livingHandAt 3 (some (.object "BookOfAll$Hand")))) B.pre
  have hj : ∀ w ∈ jw, w.before ([.ref p0.toNat, .int (iI p1)] : List Value).toArray s = true := fun w h => hts w (jm h)
  have hown : s.vm.findClass RX12 = some m.cls := findClass_of_methodNamed B.named
  subst hsz
  have hDw := hD0.self (sz := s.heap.size)
  have hAA : ∀ q : Nat, s.heap.size ≤ q → va_A (xG L cid K N v) s.heap.size q := fun q h => Or.inr h
  have hAw : ∀ q, va_A [] s.heap.size q → va_A (xG L cid K N v) s.heap.size q := ja_nil va_S.rf hAA
  generalize hAe : (va_A [] s.heap.size) = A at hAw ⊢
  have hA : ∀ q : Nat, s.heap.size ≤ q → A q := fun q h => by rw [← hAe]; exact Or.inr h
  have hS : va_S A s.heap s.heap [] := va_S.rf
  have hXa := hX.nar hAw
  have hP : va_P (dC, dI) vwCl (xG L cid K N v) s.heap := hP
  have hl := lv_entry ([.ref p0.toNat, .int (iI p1)]) (n := 3) (Nat.le_of_ble_eq_true rfl)
  rw [lg_entry_eq]
  generalize (lg_sl ([.ref p0.toNat, .int (iI p1)]) ++ List.replicate (3 - (lg_sl ([.ref p0.toNat, .int (iI p1)])).length) Slot.unset).toArray = ls at hl ⊢
  have hl : lv_has ls 3 [(0, .ref p0.toNat), (1, .int (iI p1))] := hl
  generalize hQ : MQ below (va_Qq (fun (r : Option Nat) (_ : Unit) => ∃ z : Int, r = opt z ∧ (z < 0 ∨ ok L K z 2)) (fun _ _ => True) A) ([.ref p0.toNat, .int (iI p1)] : List Value).toArray s 0 0 A = Q
  suffices ST : ∀ (H : Heap) (locs : List Loc), va_P (dC, dI) vwCl (xG L cid K N v) H → va_S A s.heap H locs → W p l e ({ frames := 1, cells := 0, slots := 0, locals := 21 }) s m ([.ref p0.toNat, .int (iI p1)] : List Value).toArray below meth c H locs 0 0 Q (F0 m 0 ls []) from ST _ _ hP hS
  clear hP hS
  intro H locs hP hS
  refine lv_aload_n hx hb dX12_livingHandAt_0 rfl (lv_at hl 0 rfl) ?_
  refine lv_iload_n hx hb dX12_livingHandAt_1 rfl (lv_at hl 1 rfl) ?_
  refine jc_q (va_runV (As := [.int (iI p1)]) (rest := []) ⟨hx, hb, hml, hown, hts⟩ (sX12_handAt l dC dI _ L cid K N tW sK sV v p0 p1 hI q0 (by omega)) (cwV 1 hts (jgoodV m_1056 m_1057 m_1058 m_873 m_1059) rfl rfl rfl (by decide +kernel) ⟨(Nat.le_of_ble_eq_true rfl), (Nat.le_of_ble_eq_true rfl)⟩) ⟨xP_blind, xrecv hK hP q0 rfl rfl, fun U hU hW => ⟨rfl, xP_of hU hW hP hK hDw hX hS hAw hAA⟩⟩ rfl rfl hl.1 rfl (lv_room (Nat.le_of_ble_eq_true rfl)) dX12_livingHandAt_2 ⟨(Nat.le_of_ble_eq_true rfl), (Nat.le_of_ble_eq_true rfl)⟩) hP hS hA (fun r_1 H locs w_2 hP hS => ?_)
  obtain ⟨z_3, rfl, h_4, h_5⟩ := w_2
  have h_6 : 0 ≤ v p0 11 ∧ v p0 11 ≤ 12 := xf_12_11 hI q0
  have h_7 : ok L K (v p0 10) 38 := xf_12_10 hI q0
  have h_8 : N (v p0 10) = 12 := xn_38 hI h_7
  refine jt_q (rv z_3) rfl ?_
  refine xq_astore_n (i := 2) (lv' := [(2, rv z_3), (0, .ref p0.toNat), (1, .int (iI p1))]) hx hb dX12_livingHandAt_5 rfl hl (by decide) rfl (fun ls hl => ?_)
  refine xq_aload_n hx hb dX12_livingHandAt_6 rfl (lv_at hl 0 rfl) ?_
  refine xq_ifnull (tgt := 21) hx hb dX12_livingHandAt_7 (by decide) (fun h_9 => ?_) (fun h_9 => ?_)
  · refine lv_null hx hb dX12_livingHandAt_21 ?_
    refine jt_q (rv (-1)) rv_nul ?_
    rw [← hQ]
    exact W.aret (v := rv (-1)) hx hb hr (Or.inl ⟨_, rfl⟩) (rv_or (-1)) (fun t ht hW => ⟨⟨opt (-1), (), rfl, ⟨-1, rfl, (Or.inl (by decide))⟩, trivial⟩, hS.F ht⟩) hS.2.2 dX12_livingHandAt_22
  · have h_10 : ok L K z_3 2 := h_4.resolve_left (by omega)
    refine xq_aload_n hx hb dX12_livingHandAt_10 rfl (lv_at hl 0 rfl) ?_
    refine jt_q (.ref z_3.toNat) (rv_ref (h_10).1) ?_
    have h_11 : 0 ≤ v z_3 3 ∧ v z_3 3 ≤ 1 := xf_2_3 hI h_10
    refine gx_RX12_300 (y := v z_3 3) hx hb hj hown hK hP h_10 rfl dX12_livingHandAt_11 ?_
    refine xr_if_eq (tgt := 21) hx hb dX12_livingHandAt_14 (by decide) (by omega) (fun h_12 => ?_) (fun h_12 => ?_)
    · refine lv_null hx hb dX12_livingHandAt_21 ?_
      refine jt_q (rv (-1)) rv_nul ?_
      rw [← hQ]
      exact W.aret (v := rv (-1)) hx hb hr (Or.inl ⟨_, rfl⟩) (rv_or (-1)) (fun t ht hW => ⟨⟨opt (-1), (), rfl, ⟨-1, rfl, (Or.inl (by decide))⟩, trivial⟩, hS.F ht⟩) hS.2.2 dX12_livingHandAt_22
    · refine xq_aload_n hx hb dX12_livingHandAt_17 rfl (lv_at hl 0 rfl) ?_
      refine jt_q (.ref z_3.toNat) (rv_ref (h_10).1) ?_
      refine lv_goto (tgt := 22) hx hb dX12_livingHandAt_18 (by decide) ?_
      rw [← hQ]
      refine jt_q (rv z_3) (rv_ref (h_10).1).symm ?_
      exact W.aret (v := rv z_3) hx hb hr (Or.inl ⟨_, rfl⟩) (rv_or z_3) (fun t ht hW => ⟨⟨opt z_3, (), rfl, ⟨z_3, rfl, (Or.inr h_10)⟩, trivial⟩, hS.F ht⟩) hS.2.2 dX12_livingHandAt_22
