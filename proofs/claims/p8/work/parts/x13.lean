set_option maxHeartbeats 2000000 in
set_option maxRecDepth 100000 in
theorem sX1_allow (l : Launch) (dC : Nat → ClassId) (dI : Nat → Nat → Nat) (sz : Nat) (L : List Nat) (cid : Nat → ClassId) (K : Int → Nat) (N : Int → Int) (tW : Nat) (sK sV : Nat → Nat) (v : Int → Int → Int) (p0 : Int) (p1 : Int) (hI : xI L K N v) (q0 : ok L K p0 1) (q1 : rg p1) : Met l yX1_allow (jk yX1_allow cX1_allow 2 none) ({ frames := 0, cells := 0, slots := 0, locals := 0 }) (va_Pc [.ref p0.toNat, .int (iI p1)] (xP (dC, dI) (xG L cid K N v) (xT cid) tW sK sV sz)) (va_Qv (fun (u : (Int → Int → Int)) => (xI L K N u) ∧ (fr K [(58, (-1))] u v)) (fun u t => va_P (dC, dI) vwCl (xG L cid K N u) t.heap ∧ va_K (dC, dI) vwCl (xT cid) t ∧ va_D (va_A (xG L cid K N v) sz) (xG L cid K N u)) (va_A (xG L cid K N v) sz)) 0 0 (va_A (xG L cid K N v) sz) := by
  sorry
set_option maxHeartbeats 2000000 in
set_option maxRecDepth 100000 in
theorem sX1_handOf (l : Launch) (dC : Nat → ClassId) (dI : Nat → Nat → Nat) (sz : Nat) (L : List Nat) (cid : Nat → ClassId) (K : Int → Nat) (N : Int → Int) (tW : Nat) (sK sV : Nat → Nat) (v : Int → Int → Int) (p0 : Int) (p1 : Int) (hI : xI L K N v) (q0 : ok L K p0 1) (q1 : rg p1) : Met l yX1_handOf (jk yX1_handOf cX1_handOf 3 (some .int)) ({ frames := 1, cells := 0, slots := 0, locals := 21 }) (va_Pc [.ref p0.toNat, .int (iI p1)] (xP (dC, dI) (xG L cid K N v) (xT cid) tW sK sV sz)) (va_Qi (fun (r : Int32) (_ : Unit) => ∃ z : Int, r = iI z ∧ (rg z)) (fun _ _ => True) (va_A [] sz)) 0 0 (va_A [] sz) := by
  sorry
set_option maxHeartbeats 2000000 in
set_option maxRecDepth 100000 in
theorem sX1_firstHandFor (l : Launch) (dC : Nat → ClassId) (dI : Nat → Nat → Nat) (sz : Nat) (L : List Nat) (cid : Nat → ClassId) (K : Int → Nat) (N : Int → Int) (tW : Nat) (sK sV : Nat → Nat) (v : Int → Int → Int) (p0 : Int) (p1 : Int) (p2 : Int) (hI : xI L K N v) (q0 : ok L K p0 1) (q1 : rg p1) (q2 : rg p2) : Met l yX1_firstHandFor (jk yX1_firstHandFor cX1_firstHandFor 4 (some .int)) ({ frames := 3, cells := 0, slots := 0, locals := 91 }) (va_Pc [.ref p0.toNat, .int (iI p1), .int (iI p2)] (xP (dC, dI) (xG L cid K N v) (xT cid) tW sK sV sz)) (va_Qi (fun (r : Int32) (u : (Int → Int → Int)) => ∃ z : Int, r = iI z ∧ (xI L K N u) ∧ (fr K [(57, (-1)), (59, (-1)), (60, (-1))] u v) ∧ (rg z)) (fun u t => va_P (dC, dI) vwCl (xG L cid K N u) t.heap ∧ va_K (dC, dI) vwCl (xT cid) t ∧ va_D (va_A (xG L cid K N v) sz) (xG L cid K N u)) (va_A (xG L cid K N v) sz)) 0 0 (va_A (xG L cid K N v) sz) := by
  sorry
set_option maxHeartbeats 2000000 in
set_option maxRecDepth 100000 in
theorem sX1_choose (l : Launch) (dC : Nat → ClassId) (dI : Nat → Nat → Nat) (sz : Nat) (L : List Nat) (cid : Nat → ClassId) (K : Int → Nat) (N : Int → Int) (tW : Nat) (sK sV : Nat → Nat) (v : Int → Int → Int) (p0 : Int) (hI : xI L K N v) (q0 : ok L K p0 1) : Met l yX1_choose (jk yX1_choose cX1_choose 5 (some .int)) ({ frames := 4, cells := 0, slots := 0, locals := 114 }) (va_Pc [.ref p0.toNat] (xP (dC, dI) (xG L cid K N v) (xT cid) tW sK sV sz)) (va_Qi (fun (r : Int32) (u : (Int → Int → Int)) => ∃ z : Int, r = iI z ∧ (xI L K N u) ∧ (fr K [(55, (-1)), (57, (-1)), (59, (-1)), (60, (-1))] u v) ∧ (rg z)) (fun u t => va_P (dC, dI) vwCl (xG L cid K N u) t.heap ∧ va_K (dC, dI) vwCl (xT cid) t ∧ va_D (va_A (xG L cid K N v) sz) (xG L cid K N u)) (va_A (xG L cid K N v) sz)) 0 0 (va_A (xG L cid K N v) sz) := by
  sorry
set_option maxHeartbeats 2000000 in
set_option maxRecDepth 100000 in
theorem sX3_begin (l : Launch) (dC : Nat → ClassId) (dI : Nat → Nat → Nat) (sz : Nat) (L : List Nat) (cid : Nat → ClassId) (K : Int → Nat) (N : Int → Int) (tW : Nat) (sK sV : Nat → Nat) (v : Int → Int → Int) (p0 : Int) (hI : xI L K N v) (q0 : ok L K p0 3) : Met l yX3_begin (jk yX3_begin cX3_begin 1 none) ({ frames := 0, cells := 0, slots := 0, locals := 0 }) (va_Pc [.ref p0.toNat] (xP (dC, dI) (xG L cid K N v) (xT cid) tW sK sV sz)) (va_Qv (fun (u : (Int → Int → Int)) => (xI L K N u) ∧ (fr K [(3, 5), (3, 6)] u v)) (fun u t => va_P (dC, dI) vwCl (xG L cid K N u) t.heap ∧ va_K (dC, dI) vwCl (xT cid) t ∧ va_D (va_A (xG L cid K N v) sz) (xG L cid K N u)) (va_A (xG L cid K N v) sz)) 0 0 (va_A (xG L cid K N v) sz) := by
  sorry
set_option maxHeartbeats 2000000 in
set_option maxRecDepth 100000 in
theorem sX3_add (l : Launch) (dC : Nat → ClassId) (dI : Nat → Nat → Nat) (sz : Nat) (L : List Nat) (cid : Nat → ClassId) (K : Int → Nat) (N : Int → Int) (tW : Nat) (sK sV : Nat → Nat) (v : Int → Int → Int) (p0 : Int) (p1 : Int) (p2 : Int) (p3 : Int) (p4 : Int) (hI : xI L K N v) (q0 : ok L K p0 3) (q1 : rg p1) (q2 : rg p2) (q3 : rg p3) (q4 : rg p4) : Met l yX3_add (jk yX3_add cX3_add 5 none) ({ frames := 1, cells := 0, slots := 0, locals := 40 }) (va_Pc [.ref p0.toNat, .int (iI p1), .int (iI p2), .int (iI p3), .int (iI p4)] (xP (dC, dI) (xG L cid K N v) (xT cid) tW sK sV sz)) (va_Qv (fun (u : (Int → Int → Int)) => (xI L K N u) ∧ (fr K [(3, 5), (52, (-1))] u v)) (fun u t => va_P (dC, dI) vwCl (xG L cid K N u) t.heap ∧ va_K (dC, dI) vwCl (xT cid) t ∧ va_D (va_A (xG L cid K N v) sz) (xG L cid K N u)) (va_A (xG L cid K N v) sz)) 0 0 (va_A (xG L cid K N v) sz) := by
  sorry
set_option maxHeartbeats 2000000 in
set_option maxRecDepth 100000 in
theorem sX3_fitTo (l : Launch) (dC : Nat → ClassId) (dI : Nat → Nat → Nat) (sz : Nat) (L : List Nat) (cid : Nat → ClassId) (K : Int → Nat) (N : Int → Int) (tW : Nat) (sK sV : Nat → Nat) (v : Int → Int → Int) (p0 : Int) (p1 : Int) (hI : xI L K N v) (q0 : ok L K p0 3) (q1 : rg p1) : Met l yX3_fitTo (jk yX3_fitTo cX3_fitTo 9 (some .boolean)) ({ frames := 2, cells := 0, slots := 0, locals := 66 }) (va_Pc [.ref p0.toNat, .int (iI p1)] (xP (dC, dI) (xG L cid K N v) (xT cid) tW sK sV sz)) (va_Qi (fun (r : Int32) (u : (Int → Int → Int)) => ∃ z : Int, r = iI z ∧ (xI L K N u) ∧ (fr K [(52, (-1))] u v) ∧ (0 ≤ z ∧ z ≤ 1)) (fun u t => va_P (dC, dI) vwCl (xG L cid K N u) t.heap ∧ va_K (dC, dI) vwCl (xT cid) t ∧ va_D (va_A (xG L cid K N v) sz) (xG L cid K N u)) (va_A (xG L cid K N v) sz)) 0 0 (va_A (xG L cid K N v) sz) := by
  sorry
set_option maxHeartbeats 2000000 in
set_option maxRecDepth 100000 in
theorem sX3_differences (l : Launch) (dC : Nat → ClassId) (dI : Nat → Nat → Nat) (sz : Nat) (L : List Nat) (cid : Nat → ClassId) (K : Int → Nat) (N : Int → Int) (tW : Nat) (sK sV : Nat → Nat) (v : Int → Int → Int) (p0 : Int) (hI : xI L K N v) (q0 : ok L K p0 3) : Met l yX3_differences (jk yX3_differences cX3_differences 3 (some .int)) ({ frames := 1, cells := 0, slots := 0, locals := 40 }) (va_Pc [.ref p0.toNat] (xP (dC, dI) (xG L cid K N v) (xT cid) tW sK sV sz)) (va_Qi (fun (r : Int32) (_ : Unit) => ∃ z : Int, r = iI z ∧ (rg z)) (fun _ _ => True) (va_A [] sz)) 0 0 (va_A [] sz) := by
  sorry
set_option maxHeartbeats 2000000 in
set_option maxRecDepth 100000 in
theorem sX3_fittedOf (l : Launch) (dC : Nat → ClassId) (dI : Nat → Nat → Nat) (sz : Nat) (L : List Nat) (cid : Nat → ClassId) (K : Int → Nat) (N : Int → Int) (tW : Nat) (sK sV : Nat → Nat) (v : Int → Int → Int) (p0 : Int) (p1 : Int) (hI : xI L K N v) (q0 : ok L K p0 3) (q1 : rg p1) : Met l yX3_fittedOf (jk yX3_fittedOf cX3_fittedOf 3 (some .int)) ({ frames := 0, cells := 0, slots := 0, locals := 0 }) (va_Pc [.ref p0.toNat, .int (iI p1)] (xP (dC, dI) (xG L cid K N v) (xT cid) tW sK sV sz)) (va_Qi (fun (r : Int32) (_ : Unit) => ∃ z : Int, r = iI z ∧ (rg z)) (fun _ _ => True) (va_A [] sz)) 0 0 (va_A [] sz) := by
  sorry
set_option maxHeartbeats 2000000 in
set_option maxRecDepth 100000 in
theorem sX5_addFact (l : Launch) (dC : Nat → ClassId) (dI : Nat → Nat → Nat) (sz : Nat) (L : List Nat) (cid : Nat → ClassId) (K : Int → Nat) (N : Int → Int) (tW : Nat) (sK sV : Nat → Nat) (v : Int → Int → Int) (p0 : Int) (p1 : Int) (p2 : Int) (p3 : Int) (p4 : Int) (hI : xI L K N v) (q0 : ok L K p0 5) (q1 : rg p1) (q2 : rg p2) (q3 : rg p3) (q4 : rg p4) : Met l yX5_addFact (jk yX5_addFact cX5_addFact 5 (some .boolean)) ({ frames := 0, cells := 0, slots := 0, locals := 0 }) (va_Pc [.ref p0.toNat, .int (iI p1), .int (iI p2), .int (iI p3), .int (iI p4)] (xP (dC, dI) (xG L cid K N v) (xT cid) tW sK sV sz)) (va_Qi (fun (r : Int32) (u : (Int → Int → Int)) => ∃ z : Int, r = iI z ∧ (xI L K N u) ∧ (fr K [(5, 5), (42, (-1)), (43, (-1)), (44, (-1)), (45, (-1)), (46, (-1))] u v) ∧ (0 ≤ z ∧ z ≤ 1)) (fun u t => va_P (dC, dI) vwCl (xG L cid K N u) t.heap ∧ va_K (dC, dI) vwCl (xT cid) t ∧ va_D (va_A (xG L cid K N v) sz) (xG L cid K N u)) (va_A (xG L cid K N v) sz)) 0 0 (va_A (xG L cid K N v) sz) := by
  sorry
set_option maxHeartbeats 2000000 in
set_option maxRecDepth 100000 in
theorem sX5_tellOn (l : Launch) (dC : Nat → ClassId) (dI : Nat → Nat → Nat) (sz : Nat) (L : List Nat) (cid : Nat → ClassId) (K : Int → Nat) (N : Int → Int) (tW : Nat) (sK sV : Nat → Nat) (v : Int → Int → Int) (p0 : Int) (p1 : Int) (p2 : Int) (hI : xI L K N v) (q0 : ok L K p0 5) (q1 : rg p1) (q2 : rg p2) : Met l yX5_tellOn (jk yX5_tellOn cX5_tellOn 5 (some .int)) ({ frames := 0, cells := 0, slots := 0, locals := 0 }) (va_Pc [.ref p0.toNat, .int (iI p1), .int (iI p2)] (xP (dC, dI) (xG L cid K N v) (xT cid) tW sK sV sz)) (va_Qi (fun (r : Int32) (_ : Unit) => ∃ z : Int, r = iI z ∧ (rg z)) (fun _ _ => True) (va_A [] sz)) 0 0 (va_A [] sz) := by
  sorry
set_option maxHeartbeats 2000000 in
set_option maxRecDepth 100000 in
theorem sX5_valueOn (l : Launch) (dC : Nat → ClassId) (dI : Nat → Nat → Nat) (sz : Nat) (L : List Nat) (cid : Nat → ClassId) (K : Int → Nat) (N : Int → Int) (tW : Nat) (sK sV : Nat → Nat) (v : Int → Int → Int) (p0 : Int) (p1 : Int) (p2 : Int) (hI : xI L K N v) (q0 : ok L K p0 5) (q1 : rg p1) (q2 : rg p2) : Met l yX5_valueOn (jk yX5_valueOn cX5_valueOn 4 (some .int)) ({ frames := 1, cells := 0, slots := 0, locals := 24 }) (va_Pc [.ref p0.toNat, .int (iI p1), .int (iI p2)] (xP (dC, dI) (xG L cid K N v) (xT cid) tW sK sV sz)) (va_Qi (fun (r : Int32) (_ : Unit) => ∃ z : Int, r = iI z ∧ (rg z)) (fun _ _ => True) (va_A [] sz)) 0 0 (va_A [] sz) := by
  sorry
set_option maxHeartbeats 2000000 in
set_option maxRecDepth 100000 in
theorem sX5_sourceOn (l : Launch) (dC : Nat → ClassId) (dI : Nat → Nat → Nat) (sz : Nat) (L : List Nat) (cid : Nat → ClassId) (K : Int → Nat) (N : Int → Int) (tW : Nat) (sK sV : Nat → Nat) (v : Int → Int → Int) (p0 : Int) (p1 : Int) (p2 : Int) (hI : xI L K N v) (q0 : ok L K p0 5) (q1 : rg p1) (q2 : rg p2) : Met l yX5_sourceOn (jk yX5_sourceOn cX5_sourceOn 4 (some .int)) ({ frames := 1, cells := 0, slots := 0, locals := 24 }) (va_Pc [.ref p0.toNat, .int (iI p1), .int (iI p2)] (xP (dC, dI) (xG L cid K N v) (xT cid) tW sK sV sz)) (va_Qi (fun (r : Int32) (_ : Unit) => ∃ z : Int, r = iI z ∧ (rg z)) (fun _ _ => True) (va_A [] sz)) 0 0 (va_A [] sz) := by
  sorry
set_option maxHeartbeats 2000000 in
set_option maxRecDepth 100000 in
theorem sX5_addErratum (l : Launch) (dC : Nat → ClassId) (dI : Nat → Nat → Nat) (sz : Nat) (L : List Nat) (cid : Nat → ClassId) (K : Int → Nat) (N : Int → Int) (tW : Nat) (sK sV : Nat → Nat) (v : Int → Int → Int) (p0 : Int) (p1 : Int) (p2 : Int) (p3 : Int) (p4 : Int) (p5 : Int) (hI : xI L K N v) (q0 : ok L K p0 5) (q1 : rg p1) (q2 : rg p2) (q3 : rg p3) (q4 : rg p4) (q5 : 0 ≤ p5 ∧ p5 ≤ 1) : Met l yX5_addErratum (jk yX5_addErratum cX5_addErratum 6 (some .int)) ({ frames := 0, cells := 0, slots := 0, locals := 0 }) (va_Pc [.ref p0.toNat, .int (iI p1), .int (iI p2), .int (iI p3), .int (iI p4), .int (iI p5)] (xP (dC, dI) (xG L cid K N v) (xT cid) tW sK sV sz)) (va_Qi (fun (r : Int32) (u : (Int → Int → Int)) => ∃ z : Int, r = iI z ∧ (xI L K N u) ∧ (fr K [(5, 11), (47, (-1)), (48, (-1)), (49, (-1)), (50, (-1)), (51, (-1))] u v) ∧ (rg z)) (fun u t => va_P (dC, dI) vwCl (xG L cid K N u) t.heap ∧ va_K (dC, dI) vwCl (xT cid) t ∧ va_D (va_A (xG L cid K N v) sz) (xG L cid K N u)) (va_A (xG L cid K N v) sz)) 0 0 (va_A (xG L cid K N v) sz) := by
  sorry
set_option maxHeartbeats 2000000 in
set_option maxRecDepth 100000 in
theorem sX5_missedBy (l : Launch) (dC : Nat → ClassId) (dI : Nat → Nat → Nat) (sz : Nat) (L : List Nat) (cid : Nat → ClassId) (K : Int → Nat) (N : Int → Int) (tW : Nat) (sK sV : Nat → Nat) (v : Int → Int → Int) (p0 : Int) (p1 : Int) (hI : xI L K N v) (q0 : ok L K p0 5) (q1 : rg p1) : Met l yX5_missedBy (jk yX5_missedBy cX5_missedBy 2 (some .int)) ({ frames := 0, cells := 0, slots := 0, locals := 0 }) (va_Pc [.ref p0.toNat, .int (iI p1)] (xP (dC, dI) (xG L cid K N v) (xT cid) tW sK sV sz)) (va_Qi (fun (r : Int32) (_ : Unit) => ∃ z : Int, r = iI z ∧ (rg z)) (fun _ _ => True) (va_A [] sz)) 0 0 (va_A [] sz) := by
  sorry
set_option maxHeartbeats 2000000 in
set_option maxRecDepth 100000 in
theorem sX5_keptOn (l : Launch) (dC : Nat → ClassId) (dI : Nat → Nat → Nat) (sz : Nat) (L : List Nat) (cid : Nat → ClassId) (K : Int → Nat) (N : Int → Int) (tW : Nat) (sK sV : Nat → Nat) (v : Int → Int → Int) (p0 : Int) (p1 : Int) (p2 : Int) (p3 : Int) (hI : xI L K N v) (q0 : ok L K p0 5) (q1 : rg p1) (q2 : rg p2) (q3 : rg p3) : Met l yX5_keptOn (jk yX5_keptOn cX5_keptOn 6 (some .int)) ({ frames := 0, cells := 0, slots := 0, locals := 0 }) (va_Pc [.ref p0.toNat, .int (iI p1), .int (iI p2), .int (iI p3)] (xP (dC, dI) (xG L cid K N v) (xT cid) tW sK sV sz)) (va_Qi (fun (r : Int32) (_ : Unit) => ∃ z : Int, r = iI z ∧ (rg z)) (fun _ _ => True) (va_A [] sz)) 0 0 (va_A [] sz) := by
  sorry
set_option maxHeartbeats 2000000 in
set_option maxRecDepth 100000 in
theorem sX8_sheetOfPut (l : Launch) (dC : Nat → ClassId) (dI : Nat → Nat → Nat) (sz : Nat) (L : List Nat) (cid : Nat → ClassId) (K : Int → Nat) (N : Int → Int) (tW : Nat) (sK sV : Nat → Nat) (v : Int → Int → Int) (p0 : Int) (p1 : Int) (p2 : Int) (p3 : Int) (hI : xI L K N v) (q0 : ok L K p0 8) (q1 : rg p1) (q2 : rg p2) (q3 : rg p3) : Met l yX8_sheetOfPut (jk yX8_sheetOfPut cX8_sheetOfPut 6 (some (.object "BookOfAll$Sheet"))) ({ frames := 0, cells := 0, slots := 0, locals := 0 }) (va_Pc [.ref p0.toNat, .int (iI p1), .int (iI p2), .int (iI p3)] (xP (dC, dI) (xG L cid K N v) (xT cid) tW sK sV sz)) (va_Qq (fun (r : Option Nat) (_ : Unit) => ∃ z : Int, r = opt z ∧ (z < 0 ∨ ok L K z 9)) (fun _ _ => True) (va_A [] sz)) 0 0 (va_A [] sz) := by
  sorry
set_option maxHeartbeats 2000000 in
set_option maxRecDepth 100000 in
theorem sX8_inForce (l : Launch) (dC : Nat → ClassId) (dI : Nat → Nat → Nat) (sz : Nat) (L : List Nat) (cid : Nat → ClassId) (K : Int → Nat) (N : Int → Int) (tW : Nat) (sK sV : Nat → Nat) (v : Int → Int → Int) (p0 : Int) (p1 : Int) (p2 : Int) (p3 : Int) (hI : xI L K N v) (q0 : ok L K p0 8) (q1 : rg p1) (q2 : rg p2) (q3 : rg p3) : Met l yX8_inForce (jk yX8_inForce cX8_inForce 6 (some .int)) ({ frames := 1, cells := 0, slots := 0, locals := 25 }) (va_Pc [.ref p0.toNat, .int (iI p1), .int (iI p2), .int (iI p3)] (xP (dC, dI) (xG L cid K N v) (xT cid) tW sK sV sz)) (va_Qi (fun (r : Int32) (_ : Unit) => ∃ z : Int, r = iI z ∧ (rg z)) (fun _ _ => True) (va_A [] sz)) 0 0 (va_A [] sz) := by
  sorry
set_option maxHeartbeats 2000000 in
set_option maxRecDepth 100000 in
theorem sX8_combine (l : Launch) (dC : Nat → ClassId) (dI : Nat → Nat → Nat) (sz : Nat) (p1 : Int) (p2 : Int) (p3 : Int) (q1 : rg p1) (q2 : rg p2) (q3 : rg p3) : Met l yX8_combine (jk yX8_combine cX8_combine 5 (some .int)) ({ frames := 1, cells := 0, slots := 0, locals := 40 }) (va_Pc [.int (iI p1), .int (iI p2), .int (iI p3)] (fun U => U.heap.size = sz)) (va_Qi (fun (r : Int32) (_ : Unit) => ∃ z : Int, r = iI z ∧ (rg z)) (fun _ _ => True) (va_A [] sz)) 0 0 (va_A [] sz) := by
  refine Met.ofW (cc := cX8_combine) (maxL := 5) (ret := (some .int)) (by decide) rfl ?_
  intro p e s m args below meth c s₁ B hml hv
  obtain ⟨rfl, hsz⟩ := hv
  have hx := B.exec
  have hb := B.bytes
  have hr := B.returns
  have hts := atoms_spec (ws := (jk yX8_combine cX8_combine 5 (some .int))) B.pre
  have hj : ∀ w ∈ jw, w.before ([.int (iI p1), .int (iI p2), .int (iI p3)] : List Value).toArray s = true := fun w h => hts w (jm h)
  have hown : s.vm.findClass RX8 = some m.cls := findClass_of_methodNamed B.named
  subst hsz
  have hP : va_P (dC, dI) vwCl [] s.heap := fun k q h => by simp at h
  generalize hAe : (va_A [] s.heap.size) = A
  have hA : ∀ q : Nat, s.heap.size ≤ q → A q := fun q h => by rw [← hAe]; exact Or.inr h
  have hS : va_S A s.heap s.heap [] := va_S.rf
  have hl := lv_entry ([.int (iI p1), .int (iI p2), .int (iI p3)]) (n := 5) (Nat.le_of_ble_eq_true rfl)
  rw [lg_entry_eq]
  generalize (lg_sl ([.int (iI p1), .int (iI p2), .int (iI p3)]) ++ List.replicate (5 - (lg_sl ([.int (iI p1), .int (iI p2), .int (iI p3)])).length) Slot.unset).toArray = ls at hl ⊢
  have hl : lv_has ls 5 [(0, .int (iI p1)), (1, .int (iI p2)), (2, .int (iI p3))] := hl
  generalize hQ : MQ below (va_Qi (fun (r : Int32) (_ : Unit) => ∃ z : Int, r = iI z ∧ (rg z)) (fun _ _ => True) A) ([.int (iI p1), .int (iI p2), .int (iI p3)] : List Value).toArray s 0 0 A = Q
  suffices ST : ∀ (H : Heap) (locs : List Loc), va_P (dC, dI) vwCl [] H → va_S A s.heap H locs → W p l e ({ frames := 1, cells := 0, slots := 0, locals := 40 }) s m ([.int (iI p1), .int (iI p2), .int (iI p3)] : List Value).toArray below meth c H locs 0 0 Q (F0 m 0 ls []) from ST _ _ hP hS
  clear hP hS
  intro H locs hP hS
  refine lv_lconst hx hb dX8_combine_0 rfl ?_
  refine lv_lstore_n (lv' := [(3, .long (Int64.ofNat 0)), (0, .int (iI p1)), (1, .int (iI p2)), (2, .int (iI p3))]) hx hb dX8_combine_1 rfl hl (by decide) rfl (fun ls hl => ?_)
  refine lv_iload_n hx hb dX8_combine_2 rfl (lv_at hl 1 rfl) ?_
  have J154 : ∀ (a3_154 : Int64) (H : Heap) (locs : List Loc) (ls : Array Slot), va_P (dC, dI) vwCl [] H → va_S A s.heap H locs → lv_has ls 5 [(3, .long a3_154), (0, .int (iI p1)), (1, .int (iI p2)), (2, .int (iI p3))] → W p l e ({ frames := 1, cells := 0, slots := 0, locals := 40 }) s m ([.int (iI p1), .int (iI p2), .int (iI p3)] : List Value).toArray below meth c H locs 0 0 Q (F0 m 154 ls []) := by
    intro a3_154 H locs ls hP hS hl
    refine lv_ldc2 hx hb hown (hts (.constantLong RX8 81 (-1000000)) (jm m_934)) dX8_combine_154 ?_
    refine lv_ldc2 hx hb hown (hts (.constantLong RX8 83 1000000) (jm m_935)) dX8_combine_157 ?_
    refine lv_lload_n hx hb dX8_combine_160 rfl (lv_at hl 0 rfl) ?_
    refine xl_any (fun u_1 => ?_)
    refine va_mmin_long hx hb (by rw [hml]; exact hl.1.symm) hown (hj _ m_936) (hj _ m_937) (hj _ m_762) (hj _ m_938) (Nat.le_of_ble_eq_true rfl) (Nat.le_of_ble_eq_true rfl) (Nat.le_of_ble_eq_true rfl) (Nat.le_of_ble_eq_true rfl) dX8_combine_161 ?_
    refine xl_any (fun u_2 => ?_)
    refine va_mmax_long hx hb (by rw [hml]; exact hl.1.symm) hown (hj _ m_939) (hj _ m_940) (hj _ m_762) (hj _ m_941) (Nat.le_of_ble_eq_true rfl) (Nat.le_of_ble_eq_true rfl) (Nat.le_of_ble_eq_true rfl) (Nat.le_of_ble_eq_true rfl) dX8_combine_164 ?_
    refine xl_any (fun u_3 => ?_)
    refine lv_l2i hx hb dX8_combine_167 rfl ?_
    refine xr_any (fun z_4 h_5 => ?_)
    rw [← hQ]
    exact W.iret (v := iI z_4) hx hb hr (fun t ht hW => ⟨⟨iI z_4, (), rfl, ⟨z_4, rfl, by omega⟩, trivial⟩, hS.F ht⟩) hS.2.2 dX8_combine_168
  rcases (show (p1 < -19 ∨ -11 < p1) ∨ p1 = (-19) ∨ p1 = (-18) ∨ p1 = (-17) ∨ p1 = (-16) ∨ p1 = (-15) ∨ p1 = (-14) ∨ p1 = (-13) ∨ p1 = (-12) ∨ p1 = (-11) by omega) with h_6 | h_6 | h_6 | h_6 | h_6 | h_6 | h_6 | h_6 | h_6 | h_6
  · refine lv_tableOut (tgt := 152) hx hb dX8_combine_3 (by rw [iI_toInt (by omega)]; omega) (by decide) ?_
    refine lv_iconst (v := iI 0) hx hb dX8_combine_152 rfl ?_
    rw [← hQ]
    exact W.iret (v := iI 0) hx hb hr (fun t ht hW => ⟨⟨iI 0, (), rfl, ⟨0, rfl, by omega⟩, trivial⟩, hS.F ht⟩) hS.2.2 dX8_combine_153
  · refine jtab_in (v := iI (-19)) (off := 135) (tgt := 138) hx hb dX8_combine_3 (by rw [h_6]) (by decide) (by decide) (by decide) (by decide) ?_
    refine lv_iload_n hx hb dX8_combine_138 rfl (lv_at hl 2 rfl) ?_
    refine xr_if_ne (tgt := 146) hx hb dX8_combine_139 (by decide) (by omega) (fun h_7 => ?_) (fun h_7 => ?_)
    · refine lv_iconst (v := iI 1) hx hb dX8_combine_146 rfl ?_
      refine lv_goto (tgt := 151) hx hb dX8_combine_147 (by decide) ?_
      rw [← hQ]
      exact W.iret (v := iI 1) hx hb hr (fun t ht hW => ⟨⟨iI 1, (), rfl, ⟨1, rfl, by omega⟩, trivial⟩, hS.F ht⟩) hS.2.2 dX8_combine_151
    · refine lv_iload_n hx hb dX8_combine_142 rfl (lv_at hl 3 rfl) ?_
      refine xr_if_eq (tgt := 150) hx hb dX8_combine_143 (by decide) (by omega) (fun h_8 => ?_) (fun h_8 => ?_)
      · refine lv_iconst (v := iI 0) hx hb dX8_combine_150 rfl ?_
        rw [← hQ]
        exact W.iret (v := iI 0) hx hb hr (fun t ht hW => ⟨⟨iI 0, (), rfl, ⟨0, rfl, by omega⟩, trivial⟩, hS.F ht⟩) hS.2.2 dX8_combine_151
      · refine lv_iconst (v := iI 1) hx hb dX8_combine_146 rfl ?_
        refine lv_goto (tgt := 151) hx hb dX8_combine_147 (by decide) ?_
        rw [← hQ]
        exact W.iret (v := iI 1) hx hb hr (fun t ht hW => ⟨⟨iI 1, (), rfl, ⟨1, rfl, by omega⟩, trivial⟩, hS.F ht⟩) hS.2.2 dX8_combine_151
  · refine jtab_in (v := iI (-18)) (off := 121) (tgt := 124) hx hb dX8_combine_3 (by rw [h_6]) (by decide) (by decide) (by decide) (by decide) ?_
    refine lv_iload_n hx hb dX8_combine_124 rfl (lv_at hl 2 rfl) ?_
    refine xr_if_eq (tgt := 136) hx hb dX8_combine_125 (by decide) (by omega) (fun h_9 => ?_) (fun h_9 => ?_)
    · refine lv_iconst (v := iI 0) hx hb dX8_combine_136 rfl ?_
      rw [← hQ]
      exact W.iret (v := iI 0) hx hb hr (fun t ht hW => ⟨⟨iI 0, (), rfl, ⟨0, rfl, by omega⟩, trivial⟩, hS.F ht⟩) hS.2.2 dX8_combine_137
    · refine lv_iload_n hx hb dX8_combine_128 rfl (lv_at hl 3 rfl) ?_
      refine xr_if_eq (tgt := 136) hx hb dX8_combine_129 (by decide) (by omega) (fun h_10 => ?_) (fun h_10 => ?_)
      · refine lv_iconst (v := iI 0) hx hb dX8_combine_136 rfl ?_
        rw [← hQ]
        exact W.iret (v := iI 0) hx hb hr (fun t ht hW => ⟨⟨iI 0, (), rfl, ⟨0, rfl, by omega⟩, trivial⟩, hS.F ht⟩) hS.2.2 dX8_combine_137
      · refine lv_iconst (v := iI 1) hx hb dX8_combine_132 rfl ?_
        refine lv_goto (tgt := 137) hx hb dX8_combine_133 (by decide) ?_
        rw [← hQ]
        exact W.iret (v := iI 1) hx hb hr (fun t ht hW => ⟨⟨iI 1, (), rfl, ⟨1, rfl, by omega⟩, trivial⟩, hS.F ht⟩) hS.2.2 dX8_combine_137
  · refine jtab_in (v := iI (-17)) (off := 110) (tgt := 113) hx hb dX8_combine_3 (by rw [h_6]) (by decide) (by decide) (by decide) (by decide) ?_
    refine lv_iload_n hx hb dX8_combine_113 rfl (lv_at hl 2 rfl) ?_
    refine lv_iload_n hx hb dX8_combine_114 rfl (lv_at hl 3 rfl) ?_
    refine xr_icmp_ne (tgt := 122) hx hb dX8_combine_115 (by decide) (by omega) (by omega) (fun h_11 => ?_) (fun h_11 => ?_)
    · refine lv_iconst (v := iI 0) hx hb dX8_combine_122 rfl ?_
      rw [← hQ]
      exact W.iret (v := iI 0) hx hb hr (fun t ht hW => ⟨⟨iI 0, (), rfl, ⟨0, rfl, by omega⟩, trivial⟩, hS.F ht⟩) hS.2.2 dX8_combine_123
    · refine lv_iconst (v := iI 1) hx hb dX8_combine_118 rfl ?_
      refine lv_goto (tgt := 123) hx hb dX8_combine_119 (by decide) ?_
      rw [← hQ]
      exact W.iret (v := iI 1) hx hb hr (fun t ht hW => ⟨⟨iI 1, (), rfl, ⟨1, rfl, by omega⟩, trivial⟩, hS.F ht⟩) hS.2.2 dX8_combine_123
  · refine jtab_in (v := iI (-16)) (off := 99) (tgt := 102) hx hb dX8_combine_3 (by rw [h_6]) (by decide) (by decide) (by decide) (by decide) ?_
    refine lv_iload_n hx hb dX8_combine_102 rfl (lv_at hl 2 rfl) ?_
    refine lv_iload_n hx hb dX8_combine_103 rfl (lv_at hl 3 rfl) ?_
    refine xr_icmp_le (tgt := 111) hx hb dX8_combine_104 (by decide) (by omega) (by omega) (fun h_12 => ?_) (fun h_12 => ?_)
    · refine lv_iconst (v := iI 0) hx hb dX8_combine_111 rfl ?_
      rw [← hQ]
      exact W.iret (v := iI 0) hx hb hr (fun t ht hW => ⟨⟨iI 0, (), rfl, ⟨0, rfl, by omega⟩, trivial⟩, hS.F ht⟩) hS.2.2 dX8_combine_112
    · refine lv_iconst (v := iI 1) hx hb dX8_combine_107 rfl ?_
      refine lv_goto (tgt := 112) hx hb dX8_combine_108 (by decide) ?_
      rw [← hQ]
      exact W.iret (v := iI 1) hx hb hr (fun t ht hW => ⟨⟨iI 1, (), rfl, ⟨1, rfl, by omega⟩, trivial⟩, hS.F ht⟩) hS.2.2 dX8_combine_112
  · refine jtab_in (v := iI (-15)) (off := 88) (tgt := 91) hx hb dX8_combine_3 (by rw [h_6]) (by decide) (by decide) (by decide) (by decide) ?_
    refine lv_iload_n hx hb dX8_combine_91 rfl (lv_at hl 2 rfl) ?_
    refine lv_iload_n hx hb dX8_combine_92 rfl (lv_at hl 3 rfl) ?_
    refine xr_icmp_ge (tgt := 100) hx hb dX8_combine_93 (by decide) (by omega) (by omega) (fun h_13 => ?_) (fun h_13 => ?_)
    · refine lv_iconst (v := iI 0) hx hb dX8_combine_100 rfl ?_
      rw [← hQ]
      exact W.iret (v := iI 0) hx hb hr (fun t ht hW => ⟨⟨iI 0, (), rfl, ⟨0, rfl, by omega⟩, trivial⟩, hS.F ht⟩) hS.2.2 dX8_combine_101
    · refine lv_iconst (v := iI 1) hx hb dX8_combine_96 rfl ?_
      refine lv_goto (tgt := 101) hx hb dX8_combine_97 (by decide) ?_
      rw [← hQ]
      exact W.iret (v := iI 1) hx hb hr (fun t ht hW => ⟨⟨iI 1, (), rfl, ⟨1, rfl, by omega⟩, trivial⟩, hS.F ht⟩) hS.2.2 dX8_combine_101
  · refine jtab_in (v := iI (-14)) (off := 76) (tgt := 79) hx hb dX8_combine_3 (by rw [h_6]) (by decide) (by decide) (by decide) (by decide) ?_
    refine lv_iload_n hx hb dX8_combine_79 rfl (lv_at hl 3 rfl) ?_
    refine xr_if_ne (tgt := 87) hx hb dX8_combine_80 (by decide) (by omega) (fun h_14 => ?_) (fun h_14 => ?_)
    · refine lv_iload_n hx hb dX8_combine_87 rfl (lv_at hl 2 rfl) ?_
      refine lv_iload_n hx hb dX8_combine_88 rfl (lv_at hl 3 rfl) ?_
      refine xr_divA hx hb dX8_combine_89 (by omega) (by omega) (fun z_15 h_16 => ?_)
      rw [← hQ]
      exact W.iret (v := iI z_15) hx hb hr (fun t ht hW => ⟨⟨iI z_15, (), rfl, ⟨z_15, rfl, by omega⟩, trivial⟩, hS.F ht⟩) hS.2.2 dX8_combine_90
    · refine lv_iconst (v := iI 0) hx hb dX8_combine_83 rfl ?_
      refine lv_goto (tgt := 90) hx hb dX8_combine_84 (by decide) ?_
      rw [← hQ]
      exact W.iret (v := iI 0) hx hb hr (fun t ht hW => ⟨⟨iI 0, (), rfl, ⟨0, rfl, by omega⟩, trivial⟩, hS.F ht⟩) hS.2.2 dX8_combine_90
  · refine jtab_in (v := iI (-13)) (off := 67) (tgt := 70) hx hb dX8_combine_3 (by rw [h_6]) (by decide) (by decide) (by decide) (by decide) ?_
    refine lv_iload_n hx hb dX8_combine_70 rfl (lv_at hl 2 rfl) ?_
    refine lv_i2l (v := (iI p2).toInt64) hx hb dX8_combine_71 rfl ?_
    refine xl_any (fun u_17 => ?_)
    refine lv_iload_n hx hb dX8_combine_72 rfl (lv_at hl 3 rfl) ?_
    refine lv_i2l (v := (iI p3).toInt64) hx hb dX8_combine_73 rfl ?_
    refine xl_any (fun u_18 => ?_)
    refine lv_lmul hx hb dX8_combine_74 ?_
    refine xl_any (fun u_19 => ?_)
    refine lv_lstore_n (lv' := [(3, .long (lL u_19)), (0, .int (iI p1)), (1, .int (iI p2)), (2, .int (iI p3))]) hx hb dX8_combine_75 rfl hl (by decide) rfl (fun ls hl => ?_)
    refine lv_goto (tgt := 154) hx hb dX8_combine_76 (by decide) ?_
    exact J154 (lL u_19) H locs ls hP hS hl
  · refine jtab_in (v := iI (-12)) (off := 58) (tgt := 61) hx hb dX8_combine_3 (by rw [h_6]) (by decide) (by decide) (by decide) (by decide) ?_
    refine lv_iload_n hx hb dX8_combine_61 rfl (lv_at hl 2 rfl) ?_
    refine lv_i2l (v := (iI p2).toInt64) hx hb dX8_combine_62 rfl ?_
    refine xl_any (fun u_20 => ?_)
    refine lv_iload_n hx hb dX8_combine_63 rfl (lv_at hl 3 rfl) ?_
    refine lv_i2l (v := (iI p3).toInt64) hx hb dX8_combine_64 rfl ?_
    refine xl_any (fun u_21 => ?_)
    refine lv_lsub hx hb dX8_combine_65 ?_
    refine xl_any (fun u_22 => ?_)
    refine lv_lstore_n (lv' := [(3, .long (lL u_22)), (0, .int (iI p1)), (1, .int (iI p2)), (2, .int (iI p3))]) hx hb dX8_combine_66 rfl hl (by decide) rfl (fun ls hl => ?_)
    refine lv_goto (tgt := 154) hx hb dX8_combine_67 (by decide) ?_
    exact J154 (lL u_22) H locs ls hP hS hl
  · refine jtab_in (v := iI (-11)) (off := 49) (tgt := 52) hx hb dX8_combine_3 (by rw [h_6]) (by decide) (by decide) (by decide) (by decide) ?_
    refine lv_iload_n hx hb dX8_combine_52 rfl (lv_at hl 2 rfl) ?_
    refine lv_i2l (v := (iI p2).toInt64) hx hb dX8_combine_53 rfl ?_
    refine xl_any (fun u_23 => ?_)
    refine lv_iload_n hx hb dX8_combine_54 rfl (lv_at hl 3 rfl) ?_
    refine lv_i2l (v := (iI p3).toInt64) hx hb dX8_combine_55 rfl ?_
    refine xl_any (fun u_24 => ?_)
    refine lv_ladd hx hb dX8_combine_56 ?_
    refine xl_any (fun u_25 => ?_)
    refine lv_lstore_n (lv' := [(3, .long (lL u_25)), (0, .int (iI p1)), (1, .int (iI p2)), (2, .int (iI p3))]) hx hb dX8_combine_57 rfl hl (by decide) rfl (fun ls hl => ?_)
    refine lv_goto (tgt := 154) hx hb dX8_combine_58 (by decide) ?_
    exact J154 (lL u_25) H locs ls hP hS hl
set_option maxHeartbeats 2000000 in
set_option maxRecDepth 100000 in
theorem sX8_run (l : Launch) (dC : Nat → ClassId) (dI : Nat → Nat → Nat) (sz : Nat) (L : List Nat) (cid : Nat → ClassId) (K : Int → Nat) (N : Int → Int) (tW : Nat) (sK sV : Nat → Nat) (v : Int → Int → Int) (p0 : Int) (p1 : Int) (p2 : Int) (hI : xI L K N v) (q0 : ok L K p0 8) (q1 : ok L K p1 9) (q2 : rg p2) : Met l yX8_run (jk yX8_run cX8_run 7 (some .int)) ({ frames := 2, cells := 0, slots := 0, locals := 64 }) (va_Pc [.ref p0.toNat, .ref p1.toNat, .int (iI p2)] (xP (dC, dI) (xG L cid K N v) (xT cid) tW sK sV sz)) (va_Qi (fun (r : Int32) (u : (Int → Int → Int)) => ∃ z : Int, r = iI z ∧ (xI L K N u) ∧ (fr K [(34, (-1))] u v) ∧ (rg z)) (fun u t => va_P (dC, dI) vwCl (xG L cid K N u) t.heap ∧ va_K (dC, dI) vwCl (xT cid) t ∧ va_D (va_A (xG L cid K N v) sz) (xG L cid K N u)) (va_A (xG L cid K N v) sz)) 0 0 (va_A (xG L cid K N v) sz) := by
  refine Met.ofW (cc := cX8_run) (maxL := 7) (ret := (some .int)) (by decide) rfl ?_
  intro p e s m args below meth c s₁ B hml hv
  obtain ⟨rfl, ⟨hsz, hP, hK, hD0⟩, hX⟩ := hv
  have hx := B.exec
  have hb := B.bytes
  have hr := B.returns
  have hts := atoms_spec (ws := (jk yX8_run cX8_run 7 (some .int))) B.pre
  have hj : ∀ w ∈ jw, w.before ([.ref p0.toNat, .ref p1.toNat, .int (iI p2)] : List Value).toArray s = true := fun w h => hts w (jm h)
  have hown : s.vm.findClass RX8 = some m.cls := findClass_of_methodNamed B.named
  subst hsz
  have hD := hD0.self (sz := s.heap.size)
  generalize hAe : (va_A (xG L cid K N v) s.heap.size) = A at hD hX ⊢
  have hA : ∀ q : Nat, s.heap.size ≤ q → A q := fun q h => by rw [← hAe]; exact Or.inr h
  have hS : va_S A s.heap s.heap [] := va_S.rf
  have hXa := hX
  have hP : va_P (dC, dI) vwCl (xG L cid K N v) s.heap := hP
  have hl := lv_entry ([.ref p0.toNat, .ref p1.toNat, .int (iI p2)]) (n := 7) (Nat.le_of_ble_eq_true rfl)
  rw [lg_entry_eq]
  generalize (lg_sl ([.ref p0.toNat, .ref p1.toNat, .int (iI p2)]) ++ List.replicate (7 - (lg_sl ([.ref p0.toNat, .ref p1.toNat, .int (iI p2)])).length) Slot.unset).toArray = ls at hl ⊢
  have hl : lv_has ls 7 [(0, .ref p0.toNat), (1, .ref p1.toNat), (2, .int (iI p2))] := hl
  generalize hQ : MQ below (va_Qi (fun (r : Int32) (u : (Int → Int → Int)) => ∃ z : Int, r = iI z ∧ (xI L K N u) ∧ (fr K [(34, (-1))] u v) ∧ (rg z)) (fun u t => va_P (dC, dI) vwCl (xG L cid K N u) t.heap ∧ va_K (dC, dI) vwCl (xT cid) t ∧ va_D A (xG L cid K N u)) A) ([.ref p0.toNat, .ref p1.toNat, .int (iI p2)] : List Value).toArray s 0 0 A = Q
  suffices ST : ∀ (H : Heap) (locs : List Loc), va_P (dC, dI) vwCl (xG L cid K N v) H → va_S A s.heap H locs → W p l e ({ frames := 2, cells := 0, slots := 0, locals := 64 }) s m ([.ref p0.toNat, .ref p1.toNat, .int (iI p2)] : List Value).toArray below meth c H locs 0 0 Q (F0 m 0 ls []) from ST _ _ hP hS
  clear hP hS
  intro H locs hP hS
  refine lv_aload_n hx hb dX8_run_0 rfl (lv_at hl 1 rfl) ?_
  refine lv_iload_n hx hb dX8_run_1 rfl (lv_at hl 2 rfl) ?_
  refine jc_i (va_runV (As := [.int (iI p2)]) (rest := []) ⟨hx, hb, hml, hown, hts⟩ (sX9_has l dC dI _ L cid K N tW sK sV v p1 p2 hI q1 (by omega)) (cwV 1 hts (jgoodV m_929 m_930 m_931 m_932 m_933) rfl rfl rfl (by decide +kernel) ⟨(Nat.le_of_ble_eq_true rfl), (Nat.le_of_ble_eq_true rfl)⟩) ⟨xP_blind, xrecv hK hP q1 rfl rfl, fun U hU hW => ⟨rfl, xP_of hU hW hP hK hD hX hS (fun _ h => h) hA⟩⟩ rfl rfl hl.1 rfl (lv_room (Nat.le_of_ble_eq_true rfl)) dX8_run_2 ⟨(Nat.le_of_ble_eq_true rfl), (Nat.le_of_ble_eq_true rfl)⟩) hP hS hA (fun r_1 H locs w_2 hP hS => ?_)
  obtain ⟨z_3, rfl, h_4, h_5⟩ := w_2
  refine xr_if_eq (tgt := 17) hx hb dX8_run_5 (by decide) (by omega) (fun h_6 => ?_) (fun h_6 => ?_)
  · refine lv_iconst (v := iI 0) hx hb dX8_run_17 rfl ?_
    rw [← hQ]
    exact W.iret (v := iI 0) hx hb hr (fun t ht hW => ⟨⟨iI 0, v, rfl, ⟨0, rfl, hI, fr_rf, by omega⟩, by rw [ht]; exact hP, va_K.moved hW.alike hK, hD⟩, hS.F ht⟩) hS.2.2 dX8_run_18
  · refine lv_iload_n hx hb dX8_run_8 rfl (lv_at hl 2 rfl) ?_
    refine lv_aload_n hx hb dX8_run_9 rfl (lv_at hl 1 rfl) ?_
    have h_7 : ok L K (v p1 2) 68 := xf_9_2 hI q1
    have h_8 : N (v p1 2) = 14 := xn_68 hI h_7
    refine gx_RX8_69 (y := v p1 2) hx hb hj hown hK hP q1 ((xf_9_2 hI q1).1) rfl dX8_run_10 ?_
    refine lx_68 (y := 14) hx hb hK hP h_7 (by omega) (by omega) dX8_run_13 ?_
    refine xr_icmp_lt (tgt := 19) hx hb dX8_run_14 (by decide) (by omega) (by omega) (fun h_9 => ?_) (fun h_9 => ?_)
    · refine lv_iconst (v := iI 0) hx hb dX8_run_19 rfl ?_
      refine lv_istore_n (lv' := [(3, .int (iI 0)), (0, .ref p0.toNat), (1, .ref p1.toNat), (2, .int (iI p2))]) hx hb dX8_run_20 rfl hl (by decide) rfl (fun ls hl => ?_)
      refine lv_aload_n hx hb dX8_run_21 rfl (lv_at hl 2 rfl) ?_
      have h_10 : ok L K (v p1 1) 67 := xf_9_1 hI q1
      have h_11 : N (v p1 1) = 14 := xn_67 hI h_10
      refine gx_RX8_72 (y := v p1 1) hx hb hj hown hK hP q1 ((xf_9_1 hI q1).1) rfl dX8_run_22 ?_
      refine lv_iload_n hx hb dX8_run_25 rfl (lv_at hl 3 rfl) ?_
      have h_12 : (-2147483648) ≤ v (v p1 1) p2 ∧ v (v p1 1) p2 ≤ 2147483647 := xe_67 hI h_10 (by omega)
      refine ax_67 (y := v (v p1 1) p2) hx hb hK hP h_10 (by omega) (by omega) (by omega) rfl dX8_run_26 ?_
      refine lv_istore (lv' := [(4, .int (iI (v (v p1 1) p2))), (3, .int (iI 0)), (0, .ref p0.toNat), (1, .ref p1.toNat), (2, .int (iI p2))]) hx hb dX8_run_27 hl (by decide) rfl (fun ls hl => ?_)
      have L29 : ∀ (n29 : Nat) (a4_29 a3_29 : Int) (vc29 : Int → Int → Int) (H : Heap) (locs : List Loc) (ls : Array Slot), ((-2147483648) ≤ a4_29 ∧ a4_29 ≤ 2147483647) → (0 ≤ a3_29 ∧ a3_29 ≤ 2147483647) → (0 ≤ a3_29 ∧ a3_29 ≤ 64) → (0 < (n29 : Int) ∧ N (v p1 0) - a4_29 < (n29 : Int)) → fr K [(34, (-1))] vc29 v → xI L K N vc29 → va_P (dC, dI) vwCl (xG L cid K N vc29) H → va_D A (xG L cid K N vc29) → va_S A s.heap H locs → lv_has ls 7 [(4, .int (iI a4_29)), (3, .int (iI a3_29)), (0, .ref p0.toNat), (1, .ref p1.toNat), (2, .int (iI p2))] → W p l e ({ frames := 2, cells := 0, slots := 0, locals := 64 }) s m ([.ref p0.toNat, .ref p1.toNat, .int (iI p2)] : List Value).toArray below meth c H locs 0 0 Q (F0 m 29 ls []) := by
        intro n29
        induction n29 with
        | zero =>
          intro a4_29 a3_29 vc29 H locs ls h_13 h_14 h_15 hm29 f_16 I_17 hP hD hS hl
          exfalso; omega
        | succ n29 ih29 =>
          intro a4_29 a3_29 vc29 H locs ls h_18 h_19 h_20 hm29 f_21 I_22 hP hD hS hl
          refine lv_iload hx hb dX8_run_29 (lv_at hl 0 rfl) ?_
          refine xr_if_lt (tgt := 211) hx hb dX8_run_31 (by decide) (by omega) (fun h_23 => ?_) (fun h_23 => ?_)
          · refine lv_aload_n hx hb dX8_run_211 rfl (lv_at hl 2 rfl) ?_
            have h_24 : ok L K (v p0 7) 34 := xf_8_7 hI q0
            have h_25 : N (v p0 7) = 64 := xn_34 hI h_24
            refine gx_RX8_30 (y := v p0 7) hx hb hj hown hK hP q0 ((xf_8_7 I_22 q0).1) (fr_use q0 f_21 rfl) dX8_run_212 ?_
            refine lv_iconst (v := iI 0) hx hb dX8_run_215 rfl ?_
            have h_26 : (-2147483648) ≤ vc29 (v p0 7) 0 ∧ vc29 (v p0 7) 0 ≤ 2147483647 := xe_34 I_22 h_24 (by omega)
            refine ax_34 (y := vc29 (v p0 7) 0) hx hb hK hP h_24 (by omega) (by omega) (by omega) rfl dX8_run_216 ?_
            rw [← hQ]
            exact W.iret (v := iI (vc29 (v p0 7) 0)) hx hb hr (fun t ht hW => ⟨⟨iI (vc29 (v p0 7) 0), vc29, rfl, ⟨vc29 (v p0 7) 0, rfl, I_22, (fr_tr f_21 rfl fr_rf), by omega⟩, by rw [ht]; exact hP, va_K.moved hW.alike hK, hD⟩, hS.F ht⟩) hS.2.2 dX8_run_217
          · refine lv_iload hx hb dX8_run_34 (lv_at hl 0 rfl) ?_
            refine lv_aload_n hx hb dX8_run_36 rfl (lv_at hl 3 rfl) ?_
            refine gx_RX8_69 (y := v p1 2) hx hb hj hown hK hP q1 ((xf_9_2 I_22 q1).1) (fr_use q1 f_21 rfl) dX8_run_37 ?_
            refine lv_iload_n hx hb dX8_run_40 rfl (lv_at hl 4 rfl) ?_
            have h_27 : (-2147483648) ≤ v (v p1 2) p2 ∧ v (v p1 2) p2 ≤ 2147483647 := xe_68 hI h_7 (by omega)
            refine ax_68 (y := v (v p1 2) p2) hx hb hK hP h_7 (by omega) (by omega) (by omega) (fr_use h_7 f_21 rfl) dX8_run_41 ?_
            refine xr_icmp_ge (tgt := 211) hx hb dX8_run_42 (by decide) (by omega) (by omega) (fun h_28 => ?_) (fun h_28 => ?_)
            · refine lv_aload_n hx hb dX8_run_211 rfl (lv_at hl 2 rfl) ?_
              have h_29 : ok L K (v p0 7) 34 := xf_8_7 hI q0
              have h_30 : N (v p0 7) = 64 := xn_34 hI h_29
              refine gx_RX8_30 (y := v p0 7) hx hb hj hown hK hP q0 ((xf_8_7 I_22 q0).1) (fr_use q0 f_21 rfl) dX8_run_212 ?_
              refine lv_iconst (v := iI 0) hx hb dX8_run_215 rfl ?_
              have h_31 : (-2147483648) ≤ vc29 (v p0 7) 0 ∧ vc29 (v p0 7) 0 ≤ 2147483647 := xe_34 I_22 h_29 (by omega)
              refine ax_34 (y := vc29 (v p0 7) 0) hx hb hK hP h_29 (by omega) (by omega) (by omega) rfl dX8_run_216 ?_
              rw [← hQ]
              exact W.iret (v := iI (vc29 (v p0 7) 0)) hx hb hr (fun t ht hW => ⟨⟨iI (vc29 (v p0 7) 0), vc29, rfl, ⟨vc29 (v p0 7) 0, rfl, I_22, (fr_tr f_21 rfl fr_rf), by omega⟩, by rw [ht]; exact hP, va_K.moved hW.alike hK, hD⟩, hS.F ht⟩) hS.2.2 dX8_run_217
            · refine lv_iload hx hb dX8_run_45 (lv_at hl 0 rfl) ?_
              refine lv_aload_n hx hb dX8_run_47 rfl (lv_at hl 3 rfl) ?_
              have h_32 : ok L K (v p1 0) 66 := xf_9_0 hI q1
              have h_33 : 0 ≤ N (v p1 0) ∧ N (v p1 0) ≤ 600 := xn_66 hI h_32
              refine gx_RX8_75 (y := v p1 0) hx hb hj hown hK hP q1 ((xf_9_0 I_22 q1).1) (fr_use q1 f_21 rfl) dX8_run_48 ?_
              refine lx_66 (y := N (v p1 0)) hx hb hK hP h_32 rfl (by omega) dX8_run_51 ?_
              refine xr_icmp_ge (tgt := 211) hx hb dX8_run_52 (by decide) (by omega) (by omega) (fun h_34 => ?_) (fun h_34 => ?_)
              · refine lv_aload_n hx hb dX8_run_211 rfl (lv_at hl 2 rfl) ?_
                have h_35 : ok L K (v p0 7) 34 := xf_8_7 hI q0
                have h_36 : N (v p0 7) = 64 := xn_34 hI h_35
                refine gx_RX8_30 (y := v p0 7) hx hb hj hown hK hP q0 ((xf_8_7 I_22 q0).1) (fr_use q0 f_21 rfl) dX8_run_212 ?_
                refine lv_iconst (v := iI 0) hx hb dX8_run_215 rfl ?_
                have h_37 : (-2147483648) ≤ vc29 (v p0 7) 0 ∧ vc29 (v p0 7) 0 ≤ 2147483647 := xe_34 I_22 h_35 (by omega)
                refine ax_34 (y := vc29 (v p0 7) 0) hx hb hK hP h_35 (by omega) (by omega) (by omega) rfl dX8_run_216 ?_
                rw [← hQ]
                exact W.iret (v := iI (vc29 (v p0 7) 0)) hx hb hr (fun t ht hW => ⟨⟨iI (vc29 (v p0 7) 0), vc29, rfl, ⟨vc29 (v p0 7) 0, rfl, I_22, (fr_tr f_21 rfl fr_rf), by omega⟩, by rw [ht]; exact hP, va_K.moved hW.alike hK, hD⟩, hS.F ht⟩) hS.2.2 dX8_run_217
              · refine lv_aload_n hx hb dX8_run_55 rfl (lv_at hl 3 rfl) ?_
                refine gx_RX8_75 (y := v p1 0) hx hb hj hown hK hP q1 ((xf_9_0 I_22 q1).1) (fr_use q1 f_21 rfl) dX8_run_56 ?_
                refine lv_iload hx hb dX8_run_59 (lv_at hl 0 rfl) ?_
                have h_38 : (-2147483648) ≤ v (v p1 0) a4_29 ∧ v (v p1 0) a4_29 ≤ 2147483647 := xe_66 hI h_32 (by omega)
                refine ax_66 (y := v (v p1 0) a4_29) hx hb hK hP h_32 (by omega) (by omega) (by omega) (fr_use h_32 f_21 rfl) dX8_run_61 ?_
                refine lv_istore (lv' := [(5, .int (iI (v (v p1 0) a4_29))), (4, .int (iI a4_29)), (3, .int (iI a3_29)), (0, .ref p0.toNat), (1, .ref p1.toNat), (2, .int (iI p2))]) hx hb dX8_run_62 hl (by decide) rfl (fun ls hl => ?_)
                refine lv_iconst (v := iI (-1)) hx hb dX8_run_64 rfl ?_
                refine lv_iload hx hb dX8_run_65 (lv_at hl 0 rfl) ?_
                refine xr_sub hx hb dX8_run_67 ?_
                refine lv_istore (lv' := [(6, .int (iI ((-1) - (v (v p1 0) a4_29)))), (5, .int (iI (v (v p1 0) a4_29))), (4, .int (iI a4_29)), (3, .int (iI a3_29)), (0, .ref p0.toNat), (1, .ref p1.toNat), (2, .int (iI p2))]) hx hb dX8_run_68 hl (by decide) rfl (fun ls hl => ?_)
                refine lv_iload hx hb dX8_run_70 (lv_at hl 1 rfl) ?_
                have J205 : ∀ (a3_205 : Int) (vc205 : Int → Int → Int) (H : Heap) (locs : List Loc) (ls : Array Slot), (0 ≤ a3_205 ∧ a3_205 ≤ 2147483647) → (0 ≤ a3_205 ∧ a3_205 ≤ 64) → fr K [(34, (-1))] vc205 vc29 → xI L K N vc205 → va_P (dC, dI) vwCl (xG L cid K N vc205) H → va_D A (xG L cid K N vc205) → va_S A s.heap H locs → lv_has ls 7 [(6, .int (iI ((-1) - (v (v p1 0) a4_29)))), (5, .int (iI (v (v p1 0) a4_29))), (4, .int (iI a4_29)), (3, .int (iI a3_205)), (0, .ref p0.toNat), (1, .ref p1.toNat), (2, .int (iI p2))] → W p l e ({ frames := 2, cells := 0, slots := 0, locals := 64 }) s m ([.ref p0.toNat, .ref p1.toNat, .int (iI p2)] : List Value).toArray below meth c H locs 0 0 Q (F0 m 205 ls []) := by
                  intro a3_205 vc205 H locs ls h_39 h_40 f_41 I_42 hP hD hS hl
                  refine lv_iinc (v := iI (a4_29 + 1)) (lv' := [(4, .int (iI (a4_29 + 1))), (6, .int (iI ((-1) - (v (v p1 0) a4_29)))), (5, .int (iI (v (v p1 0) a4_29))), (3, .int (iI a3_205)), (0, .ref p0.toNat), (1, .ref p1.toNat), (2, .int (iI p2))]) hx hb dX8_run_205 hl (k := 2) rfl (iI_add _ _) (by decide) rfl (fun ls hl => ?_)
                  refine lv_goto (tgt := 29) hx hb dX8_run_208 (by decide) ?_
                  exact ih29 (a4_29 + 1) a3_205 vc205 H locs ls (by omega) (by omega) (by omega) (by omega) (fr_tr f_41 rfl (fr_tr f_21 rfl fr_rf)) I_42 hP hD hS (lv_sub hl [0, 3, 4, 5, 6] rfl)
                have J95 : ∀ (H : Heap) (locs : List Loc) (ls : Array Slot), va_P (dC, dI) vwCl (xG L cid K N vc29) H → va_D A (xG L cid K N vc29) → va_S A s.heap H locs → lv_has ls 7 [(6, .int (iI ((-1) - (v (v p1 0) a4_29)))), (5, .int (iI (v (v p1 0) a4_29))), (4, .int (iI a4_29)), (3, .int (iI a3_29)), (0, .ref p0.toNat), (1, .ref p1.toNat), (2, .int (iI p2))] → W p l e ({ frames := 2, cells := 0, slots := 0, locals := 64 }) s m ([.ref p0.toNat, .ref p1.toNat, .int (iI p2)] : List Value).toArray below meth c H locs 0 0 Q (F0 m 95 ls []) := by
                  intro H locs ls hP hD hS hl
                  refine lv_iload hx hb dX8_run_95 (lv_at hl 0 rfl) ?_
                  have J132 : ∀ (H : Heap) (locs : List Loc) (ls : Array Slot), va_P (dC, dI) vwCl (xG L cid K N vc29) H → va_D A (xG L cid K N vc29) → va_S A s.heap H locs → lv_has ls 7 [(6, .int (iI ((-1) - (v (v p1 0) a4_29)))), (5, .int (iI (v (v p1 0) a4_29))), (4, .int (iI a4_29)), (3, .int (iI a3_29)), (0, .ref p0.toNat), (1, .ref p1.toNat), (2, .int (iI p2))] → W p l e ({ frames := 2, cells := 0, slots := 0, locals := 64 }) s m ([.ref p0.toNat, .ref p1.toNat, .int (iI p2)] : List Value).toArray below meth c H locs 0 0 Q (F0 m 132 ls []) := by
                    intro H locs ls hP hD hS hl
                    refine lv_iload hx hb dX8_run_132 (lv_at hl 1 rfl) ?_
                    refine lv_bipush (v := iI (-20)) hx hb dX8_run_134 rfl ?_
                    have J170 : ∀ (H : Heap) (locs : List Loc) (ls : Array Slot), va_P (dC, dI) vwCl (xG L cid K N vc29) H → va_D A (xG L cid K N vc29) → va_S A s.heap H locs → lv_has ls 7 [(6, .int (iI ((-1) - (v (v p1 0) a4_29)))), (5, .int (iI (v (v p1 0) a4_29))), (4, .int (iI a4_29)), (3, .int (iI a3_29)), (0, .ref p0.toNat), (1, .ref p1.toNat), (2, .int (iI p2))] → W p l e ({ frames := 2, cells := 0, slots := 0, locals := 64 }) s m ([.ref p0.toNat, .ref p1.toNat, .int (iI p2)] : List Value).toArray below meth c H locs 0 0 Q (F0 m 170 ls []) := by
                      intro H locs ls hP hD hS hl
                      refine lv_iload_n hx hb dX8_run_170 rfl (lv_at hl 3 rfl) ?_
                      refine lv_iconst (v := iI 1) hx hb dX8_run_171 rfl ?_
                      refine xr_icmp_le (tgt := 205) hx hb dX8_run_172 (by decide) (by omega) (by omega) (fun h_43 => ?_) (fun h_43 => ?_)
                      · exact J205 a3_29 vc29 H locs ls (by omega) (by omega) fr_rf I_22 hP hD hS hl
                      · refine lv_iinc (v := iI (a3_29 + (-1))) (lv' := [(3, .int (iI (a3_29 + (-1)))), (6, .int (iI ((-1) - (v (v p1 0) a4_29)))), (5, .int (iI (v (v p1 0) a4_29))), (4, .int (iI a4_29)), (0, .ref p0.toNat), (1, .ref p1.toNat), (2, .int (iI p2))]) hx hb dX8_run_175 hl (k := 3) rfl (iI_add _ _) (by decide) rfl (fun ls hl => ?_)
                        refine lv_aload_n hx hb dX8_run_178 rfl (lv_at hl 4 rfl) ?_
                        have h_44 : ok L K (v p0 7) 34 := xf_8_7 hI q0
                        have h_45 : N (v p0 7) = 64 := xn_34 hI h_44
                        refine gx_RX8_30 (y := v p0 7) hx hb hj hown hK hP q0 ((xf_8_7 I_22 q0).1) (fr_use q0 f_21 rfl) dX8_run_179 ?_
                        refine lv_iload_n hx hb dX8_run_182 rfl (lv_at hl 0 rfl) ?_
                        refine lv_iconst (v := iI 1) hx hb dX8_run_183 rfl ?_
                        refine xr_sub hx hb dX8_run_184 ?_
                        refine lv_iload hx hb dX8_run_185 (lv_at hl 2 rfl) ?_
                        refine lv_aload_n hx hb dX8_run_187 rfl (lv_at hl 4 rfl) ?_
                        refine gx_RX8_30 (y := v p0 7) hx hb hj hown hK hP q0 ((xf_8_7 I_22 q0).1) (fr_use q0 f_21 rfl) dX8_run_188 ?_
                        refine lv_iload_n hx hb dX8_run_191 rfl (lv_at hl 0 rfl) ?_
                        refine lv_iconst (v := iI 1) hx hb dX8_run_192 rfl ?_
                        refine xr_sub hx hb dX8_run_193 ?_
                        have h_46 : (-2147483648) ≤ vc29 (v p0 7) ((a3_29 + (-1)) - 1) ∧ vc29 (v p0 7) ((a3_29 + (-1)) - 1) ≤ 2147483647 := xe_34 I_22 h_44 (by omega)
                        refine ax_34 (y := vc29 (v p0 7) ((a3_29 + (-1)) - 1)) hx hb hK hP h_44 (by omega) (by omega) (by omega) rfl dX8_run_194 ?_
                        refine lv_aload_n hx hb dX8_run_195 rfl (lv_at hl 4 rfl) ?_
                        refine gx_RX8_30 (y := v p0 7) hx hb hj hown hK hP q0 ((xf_8_7 I_22 q0).1) (fr_use q0 f_21 rfl) dX8_run_196 ?_
                        refine lv_iload_n hx hb dX8_run_199 rfl (lv_at hl 0 rfl) ?_
                        have h_47 : (-2147483648) ≤ vc29 (v p0 7) (a3_29 + (-1)) ∧ vc29 (v p0 7) (a3_29 + (-1)) ≤ 2147483647 := xe_34 I_22 h_44 (by omega)
                        refine ax_34 (y := vc29 (v p0 7) (a3_29 + (-1))) hx hb hK hP h_44 (by omega) (by omega) (by omega) rfl dX8_run_200 ?_
                        refine jc_i (va_runS (As := [.int (iI (v (v p1 0) a4_29)), .int (iI (vc29 (v p0 7) ((a3_29 + (-1)) - 1))), .int (iI (vc29 (v p0 7) (a3_29 + (-1))))]) (rest := [.int (iI ((a3_29 + (-1)) - 1)), .ref (v p0 7).toNat]) ⟨hx, hb, hml, hown, hts⟩ (sX8_combine l dC dI _ (v (v p1 0) a4_29) (vc29 (v p0 7) ((a3_29 + (-1)) - 1)) (vc29 (v p0 7) (a3_29 + (-1))) (by omega) (by omega) (by omega)) (va_cwS 3 hts (jgoodS m_942 m_943 m_927 m_944) rfl rfl rfl (by decide +kernel) ⟨(Nat.le_of_ble_eq_true rfl), (Nat.le_of_ble_eq_true rfl)⟩) ⟨jw_blind0, fun U hU hW => ⟨rfl, congrArg Array.size hU⟩⟩ rfl rfl hl.1 rfl (lv_room (Nat.le_of_ble_eq_true rfl)) dX8_run_201 ⟨(Nat.le_of_ble_eq_true rfl), (Nat.le_of_ble_eq_true rfl)⟩) hP hS hA (fun r_48 H locs w_49 hP hS => ?_)
                        obtain ⟨z_50, rfl, h_51⟩ := w_49
                        refine sx_34 (y := z_50) hx hb hK hP hD hS I_22 h_44 (by omega) (by omega) (by omega) ⟨by omega, by omega⟩ dX8_run_204 (fun v_52 H locs f_53 e_54 o_55 I_56 hP hD hS => ?_)
                        exact J205 (a3_29 + (-1)) v_52 H locs ls (by omega) (by omega) (fr_tr f_53 rfl fr_rf) I_56 hP hD hS (lv_sub hl [1, 2, 3, 0, 4, 5, 6] rfl)
                    refine xr_icmp_ne (tgt := 170) hx hb dX8_run_136 (by decide) (by omega) (by omega) (fun h_57 => ?_) (fun h_57 => ?_)
                    · exact J170 H locs ls hP hD hS hl
                    · refine lv_iload_n hx hb dX8_run_139 rfl (lv_at hl 3 rfl) ?_
                      refine xr_if_le (tgt := 170) hx hb dX8_run_140 (by decide) (by omega) (fun h_58 => ?_) (fun h_58 => ?_)
                      · exact J170 H locs ls hP hD hS hl
                      · refine lv_aload_n hx hb dX8_run_143 rfl (lv_at hl 4 rfl) ?_
                        have h_59 : ok L K (v p0 7) 34 := xf_8_7 hI q0
                        have h_60 : N (v p0 7) = 64 := xn_34 hI h_59
                        refine gx_RX8_30 (y := v p0 7) hx hb hj hown hK hP q0 ((xf_8_7 I_22 q0).1) (fr_use q0 f_21 rfl) dX8_run_144 ?_
                        refine lv_iload_n hx hb dX8_run_147 rfl (lv_at hl 3 rfl) ?_
                        refine lv_iconst (v := iI 1) hx hb dX8_run_148 rfl ?_
                        refine xr_sub hx hb dX8_run_149 ?_
                        refine lv_aload_n hx hb dX8_run_150 rfl (lv_at hl 4 rfl) ?_
                        refine gx_RX8_30 (y := v p0 7) hx hb hj hown hK hP q0 ((xf_8_7 I_22 q0).1) (fr_use q0 f_21 rfl) dX8_run_151 ?_
                        refine lv_iload_n hx hb dX8_run_154 rfl (lv_at hl 3 rfl) ?_
                        refine lv_iconst (v := iI 1) hx hb dX8_run_155 rfl ?_
                        refine xr_sub hx hb dX8_run_156 ?_
                        have h_61 : (-2147483648) ≤ vc29 (v p0 7) (a3_29 - 1) ∧ vc29 (v p0 7) (a3_29 - 1) ≤ 2147483647 := xe_34 I_22 h_59 (by omega)
                        refine ax_34 (y := vc29 (v p0 7) (a3_29 - 1)) hx hb hK hP h_59 (by omega) (by omega) (by omega) rfl dX8_run_157 ?_
                        have J166 : ∀ (s0_166 : Int) (H : Heap) (locs : List Loc) (ls : Array Slot), (0 ≤ s0_166 ∧ s0_166 ≤ 1) → va_P (dC, dI) vwCl (xG L cid K N vc29) H → va_D A (xG L cid K N vc29) → va_S A s.heap H locs → lv_has ls 7 [(6, .int (iI ((-1) - (v (v p1 0) a4_29)))), (5, .int (iI (v (v p1 0) a4_29))), (4, .int (iI a4_29)), (3, .int (iI a3_29)), (0, .ref p0.toNat), (1, .ref p1.toNat), (2, .int (iI p2))] → W p l e ({ frames := 2, cells := 0, slots := 0, locals := 64 }) s m ([.ref p0.toNat, .ref p1.toNat, .int (iI p2)] : List Value).toArray below meth c H locs 0 0 Q (F0 m 166 ls [.int (iI s0_166), .int (iI (a3_29 - 1)), .ref (v p0 7).toNat]) := by
                          intro s0_166 H locs ls h_62 hP hD hS hl
                          refine sx_34 (y := s0_166) hx hb hK hP hD hS I_22 h_59 (by omega) (by omega) (by omega) ⟨by omega, by omega⟩ dX8_run_166 (fun v_63 H locs f_64 e_65 o_66 I_67 hP hD hS => ?_)
                          refine lv_goto (tgt := 205) hx hb dX8_run_167 (by decide) ?_
                          exact J205 a3_29 v_63 H locs ls (by omega) (by omega) (fr_tr f_64 rfl fr_rf) I_67 hP hD hS hl
                        refine xr_if_ne (tgt := 165) hx hb dX8_run_158 (by decide) (by omega) (fun h_68 => ?_) (fun h_68 => ?_)
                        · refine lv_iconst (v := iI 0) hx hb dX8_run_165 rfl ?_
                          exact J166 0 H locs ls (by omega) hP hD hS hl
                        · refine lv_iconst (v := iI 1) hx hb dX8_run_161 rfl ?_
                          refine lv_goto (tgt := 166) hx hb dX8_run_162 (by decide) ?_
                          exact J166 1 H locs ls (by omega) hP hD hS hl
                  refine xr_if_lt (tgt := 132) hx hb dX8_run_97 (by decide) (by omega) (fun h_69 => ?_) (fun h_69 => ?_)
                  · exact J132 H locs ls hP hD hS hl
                  · refine lv_iload hx hb dX8_run_100 (lv_at hl 0 rfl) ?_
                    refine lv_bipush (v := iI 9) hx hb dX8_run_102 rfl ?_
                    refine xr_icmp_ge (tgt := 132) hx hb dX8_run_104 (by decide) (by omega) (by omega) (fun h_70 => ?_) (fun h_70 => ?_)
                    · exact J132 H locs ls hP hD hS hl
                    · refine lv_iload_n hx hb dX8_run_107 rfl (lv_at hl 3 rfl) ?_
                      refine lv_bipush (v := iI 64) hx hb dX8_run_108 rfl ?_
                      refine xr_icmp_ge (tgt := 132) hx hb dX8_run_110 (by decide) (by omega) (by omega) (fun h_71 => ?_) (fun h_71 => ?_)
                      · exact J132 H locs ls hP hD hS hl
                      · refine lv_aload_n hx hb dX8_run_113 rfl (lv_at hl 4 rfl) ?_
                        have h_72 : ok L K (v p0 7) 34 := xf_8_7 hI q0
                        have h_73 : N (v p0 7) = 64 := xn_34 hI h_72
                        refine gx_RX8_30 (y := v p0 7) hx hb hj hown hK hP q0 ((xf_8_7 I_22 q0).1) (fr_use q0 f_21 rfl) dX8_run_114 ?_
                        refine lv_iload_n hx hb dX8_run_117 rfl (lv_at hl 3 rfl) ?_
                        refine lv_aload_n hx hb dX8_run_118 rfl (lv_at hl 4 rfl) ?_
                        have h_74 : ok L K (v p0 6) 33 := xf_8_6 hI q0
                        have h_75 : N (v p0 6) = 9 := xn_33 hI h_74
                        refine gx_RX8_27 (y := v p0 6) hx hb hj hown hK hP q0 ((xf_8_6 I_22 q0).1) (fr_use q0 f_21 rfl) dX8_run_119 ?_
                        refine lv_iload hx hb dX8_run_122 (lv_at hl 0 rfl) ?_
                        have h_76 : (-2147483648) ≤ v (v p0 6) ((-1) - (v (v p1 0) a4_29)) ∧ v (v p0 6) ((-1) - (v (v p1 0) a4_29)) ≤ 2147483647 := xe_33 hI h_74 (by omega)
                        refine ax_33 (y := v (v p0 6) ((-1) - (v (v p1 0) a4_29))) hx hb hK hP h_74 (by omega) (by omega) (by omega) (fr_use h_74 f_21 rfl) dX8_run_124 ?_
                        refine sx_34 (y := v (v p0 6) ((-1) - (v (v p1 0) a4_29))) hx hb hK hP hD hS I_22 h_72 (by omega) (by omega) (by omega) ⟨by omega, by omega⟩ dX8_run_125 (fun v_77 H locs f_78 e_79 o_80 I_81 hP hD hS => ?_)
                        refine lv_iinc (v := iI (a3_29 + 1)) (lv' := [(3, .int (iI (a3_29 + 1))), (6, .int (iI ((-1) - (v (v p1 0) a4_29)))), (5, .int (iI (v (v p1 0) a4_29))), (4, .int (iI a4_29)), (0, .ref p0.toNat), (1, .ref p1.toNat), (2, .int (iI p2))]) hx hb dX8_run_126 hl (k := 3) rfl (iI_add _ _) (by decide) rfl (fun ls hl => ?_)
                        refine lv_goto (tgt := 205) hx hb dX8_run_129 (by decide) ?_
                        exact J205 (a3_29 + 1) v_77 H locs ls (by omega) (by omega) (fr_tr f_78 rfl fr_rf) I_81 hP hD hS (lv_sub hl [1, 2, 3, 0, 4, 5, 6] rfl)
                refine xr_if_lt (tgt := 95) hx hb dX8_run_72 (by decide) (by omega) (fun h_82 => ?_) (fun h_82 => ?_)
                · exact J95 H locs ls hP hD hS hl
                · refine lv_iload_n hx hb dX8_run_75 rfl (lv_at hl 3 rfl) ?_
                  refine lv_bipush (v := iI 64) hx hb dX8_run_76 rfl ?_
                  refine xr_icmp_ge (tgt := 95) hx hb dX8_run_78 (by decide) (by omega) (by omega) (fun h_83 => ?_) (fun h_83 => ?_)
                  · exact J95 H locs ls hP hD hS hl
                  · refine lv_aload_n hx hb dX8_run_81 rfl (lv_at hl 4 rfl) ?_
                    have h_84 : ok L K (v p0 7) 34 := xf_8_7 hI q0
                    have h_85 : N (v p0 7) = 64 := xn_34 hI h_84
                    refine gx_RX8_30 (y := v p0 7) hx hb hj hown hK hP q0 ((xf_8_7 I_22 q0).1) (fr_use q0 f_21 rfl) dX8_run_82 ?_
                    refine lv_iload_n hx hb dX8_run_85 rfl (lv_at hl 3 rfl) ?_
                    refine lv_iload hx hb dX8_run_86 (lv_at hl 1 rfl) ?_
                    refine sx_34 (y := v (v p1 0) a4_29) hx hb hK hP hD hS I_22 h_84 (by omega) (by omega) (by omega) ⟨by omega, by omega⟩ dX8_run_88 (fun v_86 H locs f_87 e_88 o_89 I_90 hP hD hS => ?_)
                    refine lv_iinc (v := iI (a3_29 + 1)) (lv' := [(3, .int (iI (a3_29 + 1))), (6, .int (iI ((-1) - (v (v p1 0) a4_29)))), (5, .int (iI (v (v p1 0) a4_29))), (4, .int (iI a4_29)), (0, .ref p0.toNat), (1, .ref p1.toNat), (2, .int (iI p2))]) hx hb dX8_run_89 hl (k := 3) rfl (iI_add _ _) (by decide) rfl (fun ls hl => ?_)
                    refine lv_goto (tgt := 205) hx hb dX8_run_92 (by decide) ?_
                    exact J205 (a3_29 + 1) v_86 H locs ls (by omega) (by omega) (fr_tr f_87 rfl fr_rf) I_90 hP hD hS (lv_sub hl [1, 2, 3, 0, 4, 5, 6] rfl)
      exact L29 (((N (v p1 0) - (v (v p1 1) p2) : Int)).toNat + 1) (v (v p1 1) p2) 0 v H locs ls (by omega) (by omega) (by omega) (by omega) fr_rf hI hP hD hS hl
    · refine lv_iconst (v := iI 0) hx hb dX8_run_17 rfl ?_
      rw [← hQ]
      exact W.iret (v := iI 0) hx hb hr (fun t ht hW => ⟨⟨iI 0, v, rfl, ⟨0, rfl, hI, fr_rf, by omega⟩, by rw [ht]; exact hP, va_K.moved hW.alike hK, hD⟩, hS.F ht⟩) hS.2.2 dX8_run_18
