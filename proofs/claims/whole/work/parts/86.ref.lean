/-! THE REFERENCE'S CELLS, ONE BY ONE -/
section REFM
variable {h : aH} {Q : Option Value → aH → Prop} {a k j : Nat}
def q1 (h : aH) : aH := sR (nw h 200 (2, 200)) 44 0 45
def q2 (h : aH) : aH := sR (nw (q1 h) 31 (2, 31)) 44 2 46
def q3 (h : aH) : aH := sR (nw (q2 h) 31 (2, 31)) 44 3 47
def q4 (h : aH) : aH := sR (nw (q3 h) 10 (2, 10)) 44 4 48
def q5 (h : aH) : aH := sR (nw (q4 h) 80 (2, 80)) 44 5 49
def q6 (h : aH) : aH := sR (nw (q5 h) 20 (2, 20)) 44 7 50
def q7 (h : aH) : aH := sR (nw (q6 h) 8 (2, 8)) 44 9 51
def q8 (h : aH) : aH := sR (nw (q7 h) 5 (2, 5)) 44 12 52
def q9 (h : aH) : aH := sR (nw (q8 h) 5 (2, 5)) 44 13 53
def q10 (h : aH) : aH := sR (nw (q9 h) 7776 (2, 7776)) 44 17 54
def q11 (h : aH) : aH := sR (nw (q10 h) 10 (2, 10)) 44 18 55
theorem q1_N (e : hN h = 45) : hN (q1 h) = 46 := by unfold q1; rw [hN_sR, hN_nw, e]
theorem q1_S (e : hN h = 45) (a : Nat) : hS (q1 h) a = if a = 45 then (2, 200) else hS h a := by unfold q1; rw [hS_sR, hS_nw, e]
theorem q1_R (e : hN h = 45) (a k : Nat) : hR (q1 h) a k = if a = 44 ∧ k = 0 then 45 else if a = 45 then 0 else hR h a k := by unfold q1; rw [hR_sR, hR_nw, e]
theorem q1_I (e : hN h = 45) (ha : a < 45) : hI (q1 h) a j = hI h a j := by unfold q1; rw [hI_sR, hI_nw, e, if_neg (by omega)]
theorem q2_N (e : hN h = 45) : hN (q2 h) = 47 := by unfold q2; rw [hN_sR, hN_nw, q1_N e]
theorem q2_S (e : hN h = 45) (a : Nat) : hS (q2 h) a = if a = 46 then (2, 31) else hS (q1 h) a := by unfold q2; rw [hS_sR, hS_nw, q1_N e]
theorem q2_R (e : hN h = 45) (a k : Nat) : hR (q2 h) a k = if a = 44 ∧ k = 2 then 46 else if a = 46 then 0 else hR (q1 h) a k := by unfold q2; rw [hR_sR, hR_nw, q1_N e]
theorem q2_I (e : hN h = 45) (ha : a < 45) : hI (q2 h) a j = hI (q1 h) a j := by unfold q2; rw [hI_sR, hI_nw, q1_N e, if_neg (by omega)]
theorem q3_N (e : hN h = 45) : hN (q3 h) = 48 := by unfold q3; rw [hN_sR, hN_nw, q2_N e]
theorem q3_S (e : hN h = 45) (a : Nat) : hS (q3 h) a = if a = 47 then (2, 31) else hS (q2 h) a := by unfold q3; rw [hS_sR, hS_nw, q2_N e]
theorem q3_R (e : hN h = 45) (a k : Nat) : hR (q3 h) a k = if a = 44 ∧ k = 3 then 47 else if a = 47 then 0 else hR (q2 h) a k := by unfold q3; rw [hR_sR, hR_nw, q2_N e]
theorem q3_I (e : hN h = 45) (ha : a < 45) : hI (q3 h) a j = hI (q2 h) a j := by unfold q3; rw [hI_sR, hI_nw, q2_N e, if_neg (by omega)]
theorem q4_N (e : hN h = 45) : hN (q4 h) = 49 := by unfold q4; rw [hN_sR, hN_nw, q3_N e]
theorem q4_S (e : hN h = 45) (a : Nat) : hS (q4 h) a = if a = 48 then (2, 10) else hS (q3 h) a := by unfold q4; rw [hS_sR, hS_nw, q3_N e]
theorem q4_R (e : hN h = 45) (a k : Nat) : hR (q4 h) a k = if a = 44 ∧ k = 4 then 48 else if a = 48 then 0 else hR (q3 h) a k := by unfold q4; rw [hR_sR, hR_nw, q3_N e]
theorem q4_I (e : hN h = 45) (ha : a < 45) : hI (q4 h) a j = hI (q3 h) a j := by unfold q4; rw [hI_sR, hI_nw, q3_N e, if_neg (by omega)]
theorem q5_N (e : hN h = 45) : hN (q5 h) = 50 := by unfold q5; rw [hN_sR, hN_nw, q4_N e]
theorem q5_S (e : hN h = 45) (a : Nat) : hS (q5 h) a = if a = 49 then (2, 80) else hS (q4 h) a := by unfold q5; rw [hS_sR, hS_nw, q4_N e]
theorem q5_R (e : hN h = 45) (a k : Nat) : hR (q5 h) a k = if a = 44 ∧ k = 5 then 49 else if a = 49 then 0 else hR (q4 h) a k := by unfold q5; rw [hR_sR, hR_nw, q4_N e]
theorem q5_I (e : hN h = 45) (ha : a < 45) : hI (q5 h) a j = hI (q4 h) a j := by unfold q5; rw [hI_sR, hI_nw, q4_N e, if_neg (by omega)]
theorem q6_N (e : hN h = 45) : hN (q6 h) = 51 := by unfold q6; rw [hN_sR, hN_nw, q5_N e]
theorem q6_S (e : hN h = 45) (a : Nat) : hS (q6 h) a = if a = 50 then (2, 20) else hS (q5 h) a := by unfold q6; rw [hS_sR, hS_nw, q5_N e]
theorem q6_R (e : hN h = 45) (a k : Nat) : hR (q6 h) a k = if a = 44 ∧ k = 7 then 50 else if a = 50 then 0 else hR (q5 h) a k := by unfold q6; rw [hR_sR, hR_nw, q5_N e]
theorem q6_I (e : hN h = 45) (ha : a < 45) : hI (q6 h) a j = hI (q5 h) a j := by unfold q6; rw [hI_sR, hI_nw, q5_N e, if_neg (by omega)]
theorem q7_N (e : hN h = 45) : hN (q7 h) = 52 := by unfold q7; rw [hN_sR, hN_nw, q6_N e]
theorem q7_S (e : hN h = 45) (a : Nat) : hS (q7 h) a = if a = 51 then (2, 8) else hS (q6 h) a := by unfold q7; rw [hS_sR, hS_nw, q6_N e]
theorem q7_R (e : hN h = 45) (a k : Nat) : hR (q7 h) a k = if a = 44 ∧ k = 9 then 51 else if a = 51 then 0 else hR (q6 h) a k := by unfold q7; rw [hR_sR, hR_nw, q6_N e]
theorem q7_I (e : hN h = 45) (ha : a < 45) : hI (q7 h) a j = hI (q6 h) a j := by unfold q7; rw [hI_sR, hI_nw, q6_N e, if_neg (by omega)]
theorem q8_N (e : hN h = 45) : hN (q8 h) = 53 := by unfold q8; rw [hN_sR, hN_nw, q7_N e]
theorem q8_S (e : hN h = 45) (a : Nat) : hS (q8 h) a = if a = 52 then (2, 5) else hS (q7 h) a := by unfold q8; rw [hS_sR, hS_nw, q7_N e]
theorem q8_R (e : hN h = 45) (a k : Nat) : hR (q8 h) a k = if a = 44 ∧ k = 12 then 52 else if a = 52 then 0 else hR (q7 h) a k := by unfold q8; rw [hR_sR, hR_nw, q7_N e]
theorem q8_I (e : hN h = 45) (ha : a < 45) : hI (q8 h) a j = hI (q7 h) a j := by unfold q8; rw [hI_sR, hI_nw, q7_N e, if_neg (by omega)]
theorem q9_N (e : hN h = 45) : hN (q9 h) = 54 := by unfold q9; rw [hN_sR, hN_nw, q8_N e]
theorem q9_S (e : hN h = 45) (a : Nat) : hS (q9 h) a = if a = 53 then (2, 5) else hS (q8 h) a := by unfold q9; rw [hS_sR, hS_nw, q8_N e]
theorem q9_R (e : hN h = 45) (a k : Nat) : hR (q9 h) a k = if a = 44 ∧ k = 13 then 53 else if a = 53 then 0 else hR (q8 h) a k := by unfold q9; rw [hR_sR, hR_nw, q8_N e]
theorem q9_I (e : hN h = 45) (ha : a < 45) : hI (q9 h) a j = hI (q8 h) a j := by unfold q9; rw [hI_sR, hI_nw, q8_N e, if_neg (by omega)]
theorem q10_N (e : hN h = 45) : hN (q10 h) = 55 := by unfold q10; rw [hN_sR, hN_nw, q9_N e]
theorem q10_S (e : hN h = 45) (a : Nat) : hS (q10 h) a = if a = 54 then (2, 7776) else hS (q9 h) a := by unfold q10; rw [hS_sR, hS_nw, q9_N e]
theorem q10_R (e : hN h = 45) (a k : Nat) : hR (q10 h) a k = if a = 44 ∧ k = 17 then 54 else if a = 54 then 0 else hR (q9 h) a k := by unfold q10; rw [hR_sR, hR_nw, q9_N e]
theorem q10_I (e : hN h = 45) (ha : a < 45) : hI (q10 h) a j = hI (q9 h) a j := by unfold q10; rw [hI_sR, hI_nw, q9_N e, if_neg (by omega)]
theorem q11_N (e : hN h = 45) : hN (q11 h) = 56 := by unfold q11; rw [hN_sR, hN_nw, q10_N e]
theorem q11_S (e : hN h = 45) (a : Nat) : hS (q11 h) a = if a = 55 then (2, 10) else hS (q10 h) a := by unfold q11; rw [hS_sR, hS_nw, q10_N e]
theorem q11_R (e : hN h = 45) (a k : Nat) : hR (q11 h) a k = if a = 44 ∧ k = 18 then 55 else if a = 55 then 0 else hR (q10 h) a k := by unfold q11; rw [hR_sR, hR_nw, q10_N e]
theorem q11_I (e : hN h = 45) (ha : a < 45) : hI (q11 h) a j = hI (q10 h) a j := by unfold q11; rw [hI_sR, hI_nw, q10_N e, if_neg (by omega)]
theorem ref_S (e : hN h = 45) (ha : a < 45) : hS (q11 h) a = hS h a := by
  rw [q11_S e, if_neg (by omega), q10_S e, if_neg (by omega), q9_S e, if_neg (by omega), q8_S e, if_neg (by omega), q7_S e, if_neg (by omega), q6_S e, if_neg (by omega), q5_S e, if_neg (by omega), q4_S e, if_neg (by omega), q3_S e, if_neg (by omega), q2_S e, if_neg (by omega), q1_S e, if_neg (by omega)]
theorem ref_R (e : hN h = 45) (ha : a < 44) : hR (q11 h) a k = hR h a k := by
  rw [q11_R e, if_neg (by omega), if_neg (by omega), q10_R e, if_neg (by omega), if_neg (by omega), q9_R e, if_neg (by omega), if_neg (by omega), q8_R e, if_neg (by omega), if_neg (by omega), q7_R e, if_neg (by omega), if_neg (by omega), q6_R e, if_neg (by omega), if_neg (by omega), q5_R e, if_neg (by omega), if_neg (by omega), q4_R e, if_neg (by omega), if_neg (by omega), q3_R e, if_neg (by omega), if_neg (by omega), q2_R e, if_neg (by omega), if_neg (by omega), q1_R e, if_neg (by omega), if_neg (by omega)]
theorem ref_I (e : hN h = 45) (ha : a < 45) : hI (q11 h) a j = hI h a j := by
  rw [q11_I e ha, q10_I e ha, q9_I e ha, q8_I e ha, q7_I e ha, q6_I e ha, q5_I e ha, q4_I e ha, q3_I e ha, q2_I e ha, q1_I e ha]
theorem ref_S2 (e : hN h = 45) (e44 : hS h 44 = (1, 8)) (h4 : 44 ≤ a) (h5 : a < 56) : hS (q11 h) a = shp a := by
  have q : a = 44 ∨ a = 45 ∨ a = 46 ∨ a = 47 ∨ a = 48 ∨ a = 49 ∨ a = 50 ∨ a = 51 ∨ a = 52 ∨ a = 53 ∨ a = 54 ∨ a = 55 := by omega
  simp only [q11_S e, q10_S e, q9_S e, q8_S e, q7_S e, q6_S e, q5_S e, q4_S e, q3_S e, q2_S e, q1_S e]
  rcases q with rfl | rfl | rfl | rfl | rfl | rfl | rfl | rfl | rfl | rfl | rfl | rfl
  · exact e44
  all_goals rfl
theorem ref_R2 (e : hN h = 45) (hk : rfs 44 k ≠ 0) : hR (q11 h) 44 k = rfs 44 k := by
  have q : k = 0 ∨ k = 1 ∨ k = 2 ∨ k = 3 ∨ k = 4 ∨ k = 5 ∨ k = 6 ∨ k = 7 ∨ k = 8 ∨ k = 9 ∨ k = 10 ∨ k = 11 ∨ k = 12 ∨ k = 13 ∨ k = 14 ∨ k = 15 ∨ k = 16 ∨ k = 17 ∨ k = 18 ∨ 19 ≤ k := by omega
  simp only [q11_R e, q10_R e, q9_R e, q8_R e, q7_R e, q6_R e, q5_R e, q4_R e, q3_R e, q2_R e, q1_R e]
  rcases q with rfl | rfl | rfl | rfl | rfl | rfl | rfl | rfl | rfl | rfl | rfl | rfl | rfl | rfl | rfl | rfl | rfl | rfl | rfl | q
  all_goals first
    | rfl
    | exact absurd rfl hk
    | (refine absurd ?_ hk
       show [45, 0, 46, 47, 48, 49, 0, 50, 0, 51, 0, 0, 52, 53, 0, 0, 0, 54, 55].getD k 0 = 0
       rw [List.getD_eq_getElem?_getD, List.getElem?_eq_none (by simpa using q)]
       rfl)
theorem ref_GM (e : hN h = 45) (e44 : hS h 44 = (1, 8)) (g : GS h) : GM (q11 h) := by
  refine ⟨⟨fun a h3 h4 => ?_, fun a k h3 hk => ?_, ?_⟩, fun a h4 h5 => ref_S2 e e44 h4 h5, fun k hk => ref_R2 e hk⟩
  · rw [ref_S e (by omega)]; exact g.1 a h3 h4
  · rw [ref_R e (by omega)]; exact g.2.1 a k h3 hk
  · rw [ref_R e (by decide), ref_R e (by decide)]; exact g.2.2
theorem rs1 (e : hN h = 45) (e44 : hS h 44 = (1, 8)) : X 119 4 [.ref 44] [] h Q ↔ X 119 13 [.ref 44] [] (q1 h) Q := by
  have n0 : hN h = 45 := e
  have s0 : hS h 44 = (1, 8) := e44
  have s1 : hS (nw h 200 (2, 200)) 44 = (1, 8) := by rw [hS_nw, n0, if_neg (by omega)]; exact s0
  unfold q1
  simp only [x119_4, x119_5, x119_8, x119_10, pv_some, pv_none, c1_int, c1_ref, c1_null, true_and, and_true, ne_eq, not_false_eq_true, not_true_eq_false, if_true, if_false, reduceCtorEq, Option.some.injEq, Value.int.injEq, absI_fold, minI_fold, maxI_fold, n0, s1, show (¬ (200 : Int32) < 0 ∧ (200 : Int32) < 100000) = True by decide, show (200 : Int32).toNatClampNeg = 200 by decide, m_nz, if_true, if_false, true_or, or_true, false_or, or_false, true_and, and_true, false_and, and_false, not_true_eq_false, not_false_eq_true, iff_self, ite_self, ne_eq, true_implies, implies_true, Bool.false_eq_true, decide_true, decide_false, Bool.or_true, Bool.or_false, Bool.true_or, Bool.false_or]
theorem rs2 (e : hN h = 45) (e44 : hS h 44 = (1, 8)) : X 119 13 [.ref 44] [] (q1 h) Q ↔ X 119 21 [.ref 44] [] (q2 h) Q := by
  have n0 : hN (q1 h) = 46 := q1_N e
  have s0 : hS (q1 h) 44 = (1, 8) := by rw [q1_S e, if_neg (by omega)]; exact e44
  have s1 : hS (nw (q1 h) 31 (2, 31)) 44 = (1, 8) := by rw [hS_nw, n0, if_neg (by omega)]; exact s0
  unfold q2
  simp only [x119_13, x119_14, x119_16, x119_18, pv_some, pv_none, c1_int, c1_ref, c1_null, true_and, and_true, ne_eq, not_false_eq_true, not_true_eq_false, if_true, if_false, reduceCtorEq, Option.some.injEq, Value.int.injEq, absI_fold, minI_fold, maxI_fold, n0, s1, show (¬ (31 : Int32) < 0 ∧ (31 : Int32) < 100000) = True by decide, show (31 : Int32).toNatClampNeg = 31 by decide, m_nz, if_true, if_false, true_or, or_true, false_or, or_false, true_and, and_true, false_and, and_false, not_true_eq_false, not_false_eq_true, iff_self, ite_self, ne_eq, true_implies, implies_true, Bool.false_eq_true, decide_true, decide_false, Bool.or_true, Bool.or_false, Bool.true_or, Bool.false_or]
theorem rs3 (e : hN h = 45) (e44 : hS h 44 = (1, 8)) : X 119 21 [.ref 44] [] (q2 h) Q ↔ X 119 29 [.ref 44] [] (q3 h) Q := by
  have n0 : hN (q2 h) = 47 := q2_N e
  have s0 : hS (q2 h) 44 = (1, 8) := by rw [q2_S e, if_neg (by omega), q1_S e, if_neg (by omega)]; exact e44
  have s1 : hS (nw (q2 h) 31 (2, 31)) 44 = (1, 8) := by rw [hS_nw, n0, if_neg (by omega)]; exact s0
  unfold q3
  simp only [x119_21, x119_22, x119_24, x119_26, pv_some, pv_none, c1_int, c1_ref, c1_null, true_and, and_true, ne_eq, not_false_eq_true, not_true_eq_false, if_true, if_false, reduceCtorEq, Option.some.injEq, Value.int.injEq, absI_fold, minI_fold, maxI_fold, n0, s1, show (¬ (31 : Int32) < 0 ∧ (31 : Int32) < 100000) = True by decide, show (31 : Int32).toNatClampNeg = 31 by decide, m_nz, if_true, if_false, true_or, or_true, false_or, or_false, true_and, and_true, false_and, and_false, not_true_eq_false, not_false_eq_true, iff_self, ite_self, ne_eq, true_implies, implies_true, Bool.false_eq_true, decide_true, decide_false, Bool.or_true, Bool.or_false, Bool.true_or, Bool.false_or]
theorem rs4 (e : hN h = 45) (e44 : hS h 44 = (1, 8)) : X 119 29 [.ref 44] [] (q3 h) Q ↔ X 119 37 [.ref 44] [] (q4 h) Q := by
  have n0 : hN (q3 h) = 48 := q3_N e
  have s0 : hS (q3 h) 44 = (1, 8) := by rw [q3_S e, if_neg (by omega), q2_S e, if_neg (by omega), q1_S e, if_neg (by omega)]; exact e44
  have s1 : hS (nw (q3 h) 10 (2, 10)) 44 = (1, 8) := by rw [hS_nw, n0, if_neg (by omega)]; exact s0
  unfold q4
  simp only [x119_29, x119_30, x119_32, x119_34, pv_some, pv_none, c1_int, c1_ref, c1_null, true_and, and_true, ne_eq, not_false_eq_true, not_true_eq_false, if_true, if_false, reduceCtorEq, Option.some.injEq, Value.int.injEq, absI_fold, minI_fold, maxI_fold, n0, s1, show (¬ (10 : Int32) < 0 ∧ (10 : Int32) < 100000) = True by decide, show (10 : Int32).toNatClampNeg = 10 by decide, m_nz, if_true, if_false, true_or, or_true, false_or, or_false, true_and, and_true, false_and, and_false, not_true_eq_false, not_false_eq_true, iff_self, ite_self, ne_eq, true_implies, implies_true, Bool.false_eq_true, decide_true, decide_false, Bool.or_true, Bool.or_false, Bool.true_or, Bool.false_or]
theorem rs5 (e : hN h = 45) (e44 : hS h 44 = (1, 8)) : X 119 37 [.ref 44] [] (q4 h) Q ↔ X 119 45 [.ref 44] [] (q5 h) Q := by
  have n0 : hN (q4 h) = 49 := q4_N e
  have s0 : hS (q4 h) 44 = (1, 8) := by rw [q4_S e, if_neg (by omega), q3_S e, if_neg (by omega), q2_S e, if_neg (by omega), q1_S e, if_neg (by omega)]; exact e44
  have s1 : hS (nw (q4 h) 80 (2, 80)) 44 = (1, 8) := by rw [hS_nw, n0, if_neg (by omega)]; exact s0
  unfold q5
  simp only [x119_37, x119_38, x119_40, x119_42, pv_some, pv_none, c1_int, c1_ref, c1_null, true_and, and_true, ne_eq, not_false_eq_true, not_true_eq_false, if_true, if_false, reduceCtorEq, Option.some.injEq, Value.int.injEq, absI_fold, minI_fold, maxI_fold, n0, s1, show (¬ (80 : Int32) < 0 ∧ (80 : Int32) < 100000) = True by decide, show (80 : Int32).toNatClampNeg = 80 by decide, m_nz, if_true, if_false, true_or, or_true, false_or, or_false, true_and, and_true, false_and, and_false, not_true_eq_false, not_false_eq_true, iff_self, ite_self, ne_eq, true_implies, implies_true, Bool.false_eq_true, decide_true, decide_false, Bool.or_true, Bool.or_false, Bool.true_or, Bool.false_or]
theorem rs6 (e : hN h = 45) (e44 : hS h 44 = (1, 8)) : X 119 45 [.ref 44] [] (q5 h) Q ↔ X 119 53 [.ref 44] [] (q6 h) Q := by
  have n0 : hN (q5 h) = 50 := q5_N e
  have s0 : hS (q5 h) 44 = (1, 8) := by rw [q5_S e, if_neg (by omega), q4_S e, if_neg (by omega), q3_S e, if_neg (by omega), q2_S e, if_neg (by omega), q1_S e, if_neg (by omega)]; exact e44
  have s1 : hS (nw (q5 h) 20 (2, 20)) 44 = (1, 8) := by rw [hS_nw, n0, if_neg (by omega)]; exact s0
  unfold q6
  simp only [x119_45, x119_46, x119_48, x119_50, pv_some, pv_none, c1_int, c1_ref, c1_null, true_and, and_true, ne_eq, not_false_eq_true, not_true_eq_false, if_true, if_false, reduceCtorEq, Option.some.injEq, Value.int.injEq, absI_fold, minI_fold, maxI_fold, n0, s1, show (¬ (20 : Int32) < 0 ∧ (20 : Int32) < 100000) = True by decide, show (20 : Int32).toNatClampNeg = 20 by decide, m_nz, if_true, if_false, true_or, or_true, false_or, or_false, true_and, and_true, false_and, and_false, not_true_eq_false, not_false_eq_true, iff_self, ite_self, ne_eq, true_implies, implies_true, Bool.false_eq_true, decide_true, decide_false, Bool.or_true, Bool.or_false, Bool.true_or, Bool.false_or]
theorem rs7 (e : hN h = 45) (e44 : hS h 44 = (1, 8)) : X 119 53 [.ref 44] [] (q6 h) Q ↔ X 119 61 [.ref 44] [] (q7 h) Q := by
  have n0 : hN (q6 h) = 51 := q6_N e
  have s0 : hS (q6 h) 44 = (1, 8) := by rw [q6_S e, if_neg (by omega), q5_S e, if_neg (by omega), q4_S e, if_neg (by omega), q3_S e, if_neg (by omega), q2_S e, if_neg (by omega), q1_S e, if_neg (by omega)]; exact e44
  have s1 : hS (nw (q6 h) 8 (2, 8)) 44 = (1, 8) := by rw [hS_nw, n0, if_neg (by omega)]; exact s0
  unfold q7
  simp only [x119_53, x119_54, x119_56, x119_58, pv_some, pv_none, c1_int, c1_ref, c1_null, true_and, and_true, ne_eq, not_false_eq_true, not_true_eq_false, if_true, if_false, reduceCtorEq, Option.some.injEq, Value.int.injEq, absI_fold, minI_fold, maxI_fold, n0, s1, show (¬ (8 : Int32) < 0 ∧ (8 : Int32) < 100000) = True by decide, show (8 : Int32).toNatClampNeg = 8 by decide, m_nz, if_true, if_false, true_or, or_true, false_or, or_false, true_and, and_true, false_and, and_false, not_true_eq_false, not_false_eq_true, iff_self, ite_self, ne_eq, true_implies, implies_true, Bool.false_eq_true, decide_true, decide_false, Bool.or_true, Bool.or_false, Bool.true_or, Bool.false_or]
theorem rs8 (e : hN h = 45) (e44 : hS h 44 = (1, 8)) : X 119 61 [.ref 44] [] (q7 h) Q ↔ X 119 68 [.ref 44] [] (q8 h) Q := by
  have n0 : hN (q7 h) = 52 := q7_N e
  have s0 : hS (q7 h) 44 = (1, 8) := by rw [q7_S e, if_neg (by omega), q6_S e, if_neg (by omega), q5_S e, if_neg (by omega), q4_S e, if_neg (by omega), q3_S e, if_neg (by omega), q2_S e, if_neg (by omega), q1_S e, if_neg (by omega)]; exact e44
  have s1 : hS (nw (q7 h) 5 (2, 5)) 44 = (1, 8) := by rw [hS_nw, n0, if_neg (by omega)]; exact s0
  unfold q8
  simp only [x119_61, x119_62, x119_63, x119_65, pv_some, pv_none, c1_int, c1_ref, c1_null, true_and, and_true, ne_eq, not_false_eq_true, not_true_eq_false, if_true, if_false, reduceCtorEq, Option.some.injEq, Value.int.injEq, absI_fold, minI_fold, maxI_fold, n0, s1, show (¬ (5 : Int32) < 0 ∧ (5 : Int32) < 100000) = True by decide, show (5 : Int32).toNatClampNeg = 5 by decide, m_nz, if_true, if_false, true_or, or_true, false_or, or_false, true_and, and_true, false_and, and_false, not_true_eq_false, not_false_eq_true, iff_self, ite_self, ne_eq, true_implies, implies_true, Bool.false_eq_true, decide_true, decide_false, Bool.or_true, Bool.or_false, Bool.true_or, Bool.false_or]
theorem rs9 (e : hN h = 45) (e44 : hS h 44 = (1, 8)) : X 119 68 [.ref 44] [] (q8 h) Q ↔ X 119 75 [.ref 44] [] (q9 h) Q := by
  have n0 : hN (q8 h) = 53 := q8_N e
  have s0 : hS (q8 h) 44 = (1, 8) := by rw [q8_S e, if_neg (by omega), q7_S e, if_neg (by omega), q6_S e, if_neg (by omega), q5_S e, if_neg (by omega), q4_S e, if_neg (by omega), q3_S e, if_neg (by omega), q2_S e, if_neg (by omega), q1_S e, if_neg (by omega)]; exact e44
  have s1 : hS (nw (q8 h) 5 (2, 5)) 44 = (1, 8) := by rw [hS_nw, n0, if_neg (by omega)]; exact s0
  unfold q9
  simp only [x119_68, x119_69, x119_70, x119_72, pv_some, pv_none, c1_int, c1_ref, c1_null, true_and, and_true, ne_eq, not_false_eq_true, not_true_eq_false, if_true, if_false, reduceCtorEq, Option.some.injEq, Value.int.injEq, absI_fold, minI_fold, maxI_fold, n0, s1, show (¬ (5 : Int32) < 0 ∧ (5 : Int32) < 100000) = True by decide, show (5 : Int32).toNatClampNeg = 5 by decide, m_nz, if_true, if_false, true_or, or_true, false_or, or_false, true_and, and_true, false_and, and_false, not_true_eq_false, not_false_eq_true, iff_self, ite_self, ne_eq, true_implies, implies_true, Bool.false_eq_true, decide_true, decide_false, Bool.or_true, Bool.or_false, Bool.true_or, Bool.false_or]
theorem rs10 (e : hN h = 45) (e44 : hS h 44 = (1, 8)) : X 119 75 [.ref 44] [] (q9 h) Q ↔ X 119 84 [.ref 44] [] (q10 h) Q := by
  have n0 : hN (q9 h) = 54 := q9_N e
  have s0 : hS (q9 h) 44 = (1, 8) := by rw [q9_S e, if_neg (by omega), q8_S e, if_neg (by omega), q7_S e, if_neg (by omega), q6_S e, if_neg (by omega), q5_S e, if_neg (by omega), q4_S e, if_neg (by omega), q3_S e, if_neg (by omega), q2_S e, if_neg (by omega), q1_S e, if_neg (by omega)]; exact e44
  have s1 : hS (nw (q9 h) 7776 (2, 7776)) 44 = (1, 8) := by rw [hS_nw, n0, if_neg (by omega)]; exact s0
  unfold q10
  simp only [x119_75, x119_76, x119_79, x119_81, pv_some, pv_none, c1_int, c1_ref, c1_null, true_and, and_true, ne_eq, not_false_eq_true, not_true_eq_false, if_true, if_false, reduceCtorEq, Option.some.injEq, Value.int.injEq, absI_fold, minI_fold, maxI_fold, n0, s1, show (¬ (7776 : Int32) < 0 ∧ (7776 : Int32) < 100000) = True by decide, show (7776 : Int32).toNatClampNeg = 7776 by decide, m_nz, if_true, if_false, true_or, or_true, false_or, or_false, true_and, and_true, false_and, and_false, not_true_eq_false, not_false_eq_true, iff_self, ite_self, ne_eq, true_implies, implies_true, Bool.false_eq_true, decide_true, decide_false, Bool.or_true, Bool.or_false, Bool.true_or, Bool.false_or]
theorem rs11 (e : hN h = 45) (e44 : hS h 44 = (1, 8)) : X 119 84 [.ref 44] [] (q10 h) Q ↔ X 119 92 [.ref 44] [] (q11 h) Q := by
  have n0 : hN (q10 h) = 55 := q10_N e
  have s0 : hS (q10 h) 44 = (1, 8) := by rw [q10_S e, if_neg (by omega), q9_S e, if_neg (by omega), q8_S e, if_neg (by omega), q7_S e, if_neg (by omega), q6_S e, if_neg (by omega), q5_S e, if_neg (by omega), q4_S e, if_neg (by omega), q3_S e, if_neg (by omega), q2_S e, if_neg (by omega), q1_S e, if_neg (by omega)]; exact e44
  have s1 : hS (nw (q10 h) 10 (2, 10)) 44 = (1, 8) := by rw [hS_nw, n0, if_neg (by omega)]; exact s0
  unfold q11
  simp only [x119_84, x119_85, x119_87, x119_89, pv_some, pv_none, c1_int, c1_ref, c1_null, true_and, and_true, ne_eq, not_false_eq_true, not_true_eq_false, if_true, if_false, reduceCtorEq, Option.some.injEq, Value.int.injEq, absI_fold, minI_fold, maxI_fold, n0, s1, show (¬ (10 : Int32) < 0 ∧ (10 : Int32) < 100000) = True by decide, show (10 : Int32).toNatClampNeg = 10 by decide, m_nz, if_true, if_false, true_or, or_true, false_or, or_false, true_and, and_true, false_and, and_false, not_true_eq_false, not_false_eq_true, iff_self, ite_self, ne_eq, true_implies, implies_true, Bool.false_eq_true, decide_true, decide_false, Bool.or_true, Bool.or_false, Bool.true_or, Bool.false_or]
def dr0 (h : aH) : aH := sI (addH (addH (addH (addH (bgH h) 0 0 12 3 9 0) 1 1 8 7 6 1) 2 2 10 0 14 3) 3 3 6 10 5 4) 47 4 8
theorem add_0 (h : aH) (G : Nat) (t0 t1 t2 t3 t4 : Int32) : hI (addH h G t0 t1 t2 t3 t4) 47 0 = nI (G + 1) := by unfold addH; rw [hI_sI, if_pos ⟨rfl, rfl⟩]
theorem add_o (h : aH) (G : Nat) (t0 t1 t2 t3 t4 : Int32) {b j : Nat} (hb : b ≠ 47) : hI (addH h G t0 t1 t2 t3 t4) b j = hI h b j := by
  unfold addH
  rw [hI_sI, if_neg (by omega), hI_sI, if_neg (by omega), hI_sI, if_neg (by omega), hI_sI, if_neg (by omega), hI_sI, if_neg (by omega), hI_sI, if_neg (by omega)]
theorem add_SR (h : aH) (G : Nat) (t0 t1 t2 t3 t4 : Int32) : hS (addH h G t0 t1 t2 t3 t4) = hS h ∧ hR (addH h G t0 t1 t2 t3 t4) = hR h := by
  unfold addH
  exact ⟨by rw [hS_sI, hS_sI, hS_sI, hS_sI, hS_sI, hS_sI], by rw [hR_sI, hR_sI, hR_sI, hR_sI, hR_sI, hR_sI]⟩
theorem bg_SR (h : aH) : hS (bgH h) = hS h ∧ hR (bgH h) = hR h := by
  unfold bgH
  exact ⟨by rw [hS_sI, hS_sI, hS_sI, hS_wI], by rw [hR_sI, hR_sI, hR_sI, hR_wI]⟩
theorem bg_o (h : aH) {b j : Nat} (hb : b ≠ 47) : hI (bgH h) b j = hI h b j := by
  unfold bgH
  rw [hI_sI, if_neg (by omega), hI_sI, if_neg (by omega), hI_sI, if_neg (by omega), hI_wI, if_neg (by omega)]
theorem bg_00 (h : aH) : hI (bgH h) 47 0 = nI 0 := by
  unfold bgH
  rw [hI_sI, if_neg (by omega), hI_sI, if_neg (by omega), hI_sI, if_neg (by omega), hI_wI, if_pos ⟨rfl, by omega⟩]
  rfl
theorem dr_SR (h : aH) : hS (dr0 h) = hS h ∧ hR (dr0 h) = hR h := by
  unfold dr0
  exact ⟨by rw [hS_sI, (add_SR _ _ _ _ _ _ _).1, (add_SR _ _ _ _ _ _ _).1, (add_SR _ _ _ _ _ _ _).1, (add_SR _ _ _ _ _ _ _).1, (bg_SR _).1], by rw [hR_sI, (add_SR _ _ _ _ _ _ _).2, (add_SR _ _ _ _ _ _ _).2, (add_SR _ _ _ _ _ _ _).2, (add_SR _ _ _ _ _ _ _).2, (bg_SR _).2]⟩
theorem dr_o (h : aH) {b j : Nat} (hb : b ≠ 47) : hI (dr0 h) b j = hI h b j := by
  unfold dr0
  rw [hI_sI, if_neg (by omega), add_o _ _ _ _ _ _ _ hb, add_o _ _ _ _ _ _ _ hb, add_o _ _ _ _ _ _ _ hb, add_o _ _ _ _ _ _ _ hb, bg_o _ hb]
theorem mb0 (g : GM h) : X 119 92 [.ref 44] [] h Q ↔ X 119 96 [.ref 44] [] (bgH h) Q := by
  simp only [x119_92, x119_93, pv_some, pv_none, c1_int, c1_ref, c1_null, true_and, and_true, ne_eq, not_false_eq_true, not_true_eq_false, if_true, if_false, reduceCtorEq, Option.some.injEq, Value.int.injEq, absI_fold, minI_fold, maxI_fold, m_s g, m_begins g, if_true, if_false, true_or, or_true, false_or, or_false, true_and, and_true, false_and, and_false, not_true_eq_false, not_false_eq_true, iff_self, ite_self, ne_eq, true_implies, implies_true, Bool.false_eq_true, decide_true, decide_false, Bool.or_true, Bool.or_false, Bool.true_or, Bool.false_or]
theorem mb1 (g : GM h) (e : hI h 47 0 = nI 0) : X 119 96 [.ref 44] [] h Q ↔ X 119 107 [.ref 44] [] (addH h 0 0 12 3 9 0) Q := by
  simp only [x119_96, x119_97, x119_98, x119_100, x119_101, x119_103, x119_104, pv_some, pv_none, c1_int, c1_ref, c1_null, true_and, and_true, ne_eq, not_false_eq_true, not_true_eq_false, if_true, if_false, reduceCtorEq, Option.some.injEq, Value.int.injEq, absI_fold, minI_fold, maxI_fold, m_s g, m_adds g e (by decide), if_true, if_false, true_or, or_true, false_or, or_false, true_and, and_true, false_and, and_false, not_true_eq_false, not_false_eq_true, iff_self, ite_self, ne_eq, true_implies, implies_true, Bool.false_eq_true, decide_true, decide_false, Bool.or_true, Bool.or_false, Bool.true_or, Bool.false_or]
theorem mb2 (g : GM h) (e : hI h 47 0 = nI 1) : X 119 107 [.ref 44] [] h Q ↔ X 119 119 [.ref 44] [] (addH h 1 1 8 7 6 1) Q := by
  simp only [x119_107, x119_108, x119_109, x119_111, x119_113, x119_115, x119_116, pv_some, pv_none, c1_int, c1_ref, c1_null, true_and, and_true, ne_eq, not_false_eq_true, not_true_eq_false, if_true, if_false, reduceCtorEq, Option.some.injEq, Value.int.injEq, absI_fold, minI_fold, maxI_fold, m_s g, m_adds g e (by decide), if_true, if_false, true_or, or_true, false_or, or_false, true_and, and_true, false_and, and_false, not_true_eq_false, not_false_eq_true, iff_self, ite_self, ne_eq, true_implies, implies_true, Bool.false_eq_true, decide_true, decide_false, Bool.or_true, Bool.or_false, Bool.true_or, Bool.false_or]
theorem mb3 (g : GM h) (e : hI h 47 0 = nI 2) : X 119 119 [.ref 44] [] h Q ↔ X 119 130 [.ref 44] [] (addH h 2 2 10 0 14 3) Q := by
  simp only [x119_119, x119_120, x119_121, x119_123, x119_124, x119_126, x119_127, pv_some, pv_none, c1_int, c1_ref, c1_null, true_and, and_true, ne_eq, not_false_eq_true, not_true_eq_false, if_true, if_false, reduceCtorEq, Option.some.injEq, Value.int.injEq, absI_fold, minI_fold, maxI_fold, m_s g, m_adds g e (by decide), if_true, if_false, true_or, or_true, false_or, or_false, true_and, and_true, false_and, and_false, not_true_eq_false, not_false_eq_true, iff_self, ite_self, ne_eq, true_implies, implies_true, Bool.false_eq_true, decide_true, decide_false, Bool.or_true, Bool.or_false, Bool.true_or, Bool.false_or]
theorem mb4 (g : GM h) (e : hI h 47 0 = nI 3) : X 119 130 [.ref 44] [] h Q ↔ X 119 141 [.ref 44] [] (addH h 3 3 6 10 5 4) Q := by
  simp only [x119_130, x119_131, x119_132, x119_134, x119_136, x119_137, x119_138, pv_some, pv_none, c1_int, c1_ref, c1_null, true_and, and_true, ne_eq, not_false_eq_true, not_true_eq_false, if_true, if_false, reduceCtorEq, Option.some.injEq, Value.int.injEq, absI_fold, minI_fold, maxI_fold, m_s g, m_adds g e (by decide), if_true, if_false, true_or, or_true, false_or, or_false, true_and, and_true, false_and, and_false, not_true_eq_false, not_false_eq_true, iff_self, ite_self, ne_eq, true_implies, implies_true, Bool.false_eq_true, decide_true, decide_false, Bool.or_true, Bool.or_false, Bool.true_or, Bool.false_or]
theorem mb5 (g : GM h) : X 119 141 [.ref 44] [] h Q ↔ Q none (layH (sI h 47 4 8)) := by
  have gd : GM (sI h 47 4 8) := g
  simp only [x119_141, x119_142, x119_145, x119_146, x119_148, x119_149, x119_150, x119_153, pv_some, pv_none, c1_int, c1_ref, c1_null, true_and, and_true, ne_eq, not_false_eq_true, not_true_eq_false, if_true, if_false, reduceCtorEq, Option.some.injEq, Value.int.injEq, absI_fold, minI_fold, maxI_fold, m_s g, m_r3 g, m_s47 g, m_nz, show ibw 4 (2, 31) = True from iw31 (k := 4) (by decide), ct4', m_s gd, m_lays gd, if_true, if_false, true_or, or_true, false_or, or_false, true_and, and_true, false_and, and_false, not_true_eq_false, not_false_eq_true, iff_self, ite_self, ne_eq, true_implies, implies_true, Bool.false_eq_true, decide_true, decide_false, Bool.or_true, Bool.or_false, Bool.true_or, Bool.false_or]
theorem m_initBody (g : GM h) : X 119 92 [.ref 44] [] h Q ↔ Q none (layH (dr0 h)) := by
  have gb : GM (bgH h) := GM_of g (bg_SR h).1 (bg_SR h).2
  have b0 := bg_00 h
  rw [mb0 g]
  unfold dr0
  generalize bgH h = h0 at *
  rw [mb1 gb b0]
  have g1 : GM (addH h0 0 0 12 3 9 0) := GM_of gb (add_SR _ _ _ _ _ _ _).1 (add_SR _ _ _ _ _ _ _).2
  have b1 := add_0 h0 0 0 12 3 9 0
  generalize addH h0 0 0 12 3 9 0 = h1 at *
  rw [mb2 g1 b1]
  have g2 : GM (addH h1 1 1 8 7 6 1) := GM_of g1 (add_SR _ _ _ _ _ _ _).1 (add_SR _ _ _ _ _ _ _).2
  have b2 := add_0 h1 1 1 8 7 6 1
  generalize addH h1 1 1 8 7 6 1 = h2 at *
  rw [mb3 g2 b2]
  have g3 : GM (addH h2 2 2 10 0 14 3) := GM_of g2 (add_SR _ _ _ _ _ _ _).1 (add_SR _ _ _ _ _ _ _).2
  have b3 := add_0 h2 2 2 10 0 14 3
  generalize addH h2 2 2 10 0 14 3 = h3 at *
  rw [mb4 g3 b3]
  have g4 : GM (addH h3 3 3 6 10 5 4) := GM_of g3 (add_SR _ _ _ _ _ _ _).1 (add_SR _ _ _ _ _ _ _).2
  exact mb5 g4
theorem m_init (e : hN h = 45) (e44 : hS h 44 = (1, 8)) (g : GS h) : X 119 0 [.ref 44] [] h Q ↔ Q none (layH (dr0 (q11 h))) := by
  have s0 : X 119 0 [.ref 44] [] h Q ↔ X 119 4 [.ref 44] [] h Q := by
    simp only [x119_0, x119_1, pv_some, pv_none, c1_int, c1_ref, c1_null, true_and, and_true, ne_eq, not_false_eq_true, not_true_eq_false, if_true, if_false, reduceCtorEq, Option.some.injEq, Value.int.injEq, absI_fold, minI_fold, maxI_fold, if_true, if_false, true_or, or_true, false_or, or_false, true_and, and_true, false_and, and_false, not_true_eq_false, not_false_eq_true, iff_self, ite_self, ne_eq, true_implies, implies_true, Bool.false_eq_true, decide_true, decide_false, Bool.or_true, Bool.or_false, Bool.true_or, Bool.false_or]
  have gm := ref_GM e e44 g
  rw [s0, rs1 e e44, rs2 e e44, rs3 e e44, rs4 e e44, rs5 e e44, rs6 e e44, rs7 e e44, rs8 e e44, rs9 e e44, rs10 e e44, rs11 e e44]
  exact m_initBody gm
end REFM
