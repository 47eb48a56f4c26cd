/-! MAKING THE CLASS'S CELLS -/
section MK
variable {h : aH} {b n a k z : Nat} {s : Nat × Nat} {Q : Option Value → aH → Prop}
theorem hN_nw (h : aH) (z : Nat) (s : Nat × Nat) : hN (nw h z s) = hN h + 1 := rfl
theorem hS_nw (h : aH) (z : Nat) (s : Nat × Nat) (a : Nat) : hS (nw h z s) a = if a = hN h then s else hS h a := rfl
theorem hI_nw (h : aH) (z : Nat) (s : Nat × Nat) (a k : Nat) : hI (nw h z s) a k = if a = hN h then 0 else hI h a k := rfl
theorem hR_nw (h : aH) (z : Nat) (s : Nat × Nat) (a k : Nat) : hR (nw h z s) a k = if a = hN h then 0 else hR h a k := rfl
def iL (h : aH) (b : Nat) : aH := sR (nw h 5 (2, 5)) b 0 (hN h)
def iT (h : aH) (b : Nat) : aH := sR (nw (sR (nw h 200 (2, 200)) b 0 (hN h)) 5 (2, 5)) b 2 (hN h + 1)
def iR (h : aH) (b : Nat) : aH := sR (nw (sR (nw (sR (nw h 8 (2, 8)) b 0 (hN h)) 8 (2, 8)) b 1 (hN h + 1)) 8 (3, 8)) b 2 (hN h + 2)
def iS (h : aH) (b : Nat) : aH := sR (nw (sR (iL (nw (sR (nw (sR (nw h 720 (2, 720)) b 0 (hN h)) 720 (2, 720)) b 1 (hN h + 1)) 6 (1, 1)) (hN h + 2)) b 3 (hN h + 2)) 6 (2, 6)) b 4 (hN h + 4)
def iH (h : aH) (b n : Nat) : aH := sR (nw (sI h b 0 (nI n)) (n * 10) (2, n * 10)) b 1 (hN h)
def iI (h : aH) (b : Nat) : aH := sI (sI (sI (sR (nw (sR (nw (sR (nw (sR (nw (sR (nw h 5 (2, 5)) b 0 (hN h)) 5 (2, 5)) b 1 (hN h + 1)) 5 (2, 5)) b 2 (hN h + 2)) 5 (2, 5)) b 3 (hN h + 3)) 5 (2, 5)) b 4 (hN h + 4)) b 6 6) b 8 8) b 9 7
theorem w5 : (¬ (5 : Int32) < 0 ∧ (5 : Int32) < 100000) = True := by decide
theorem w6 : (¬ (6 : Int32) < 0 ∧ (6 : Int32) < 100000) = True := by decide
theorem w8 : (¬ (8 : Int32) < 0 ∧ (8 : Int32) < 100000) = True := by decide
theorem w200 : (¬ (200 : Int32) < 0 ∧ (200 : Int32) < 100000) = True := by decide
theorem w720 : (¬ (720 : Int32) < 0 ∧ (720 : Int32) < 100000) = True := by decide
theorem t200 : (200 : Int32).toNatClampNeg = 200 := by decide
theorem t720 : (720 : Int32).toNatClampNeg = 720 := by decide
theorem p2 (h : aH) : hN h + 1 + 1 = hN h + 2 := rfl
theorem p3 (h : aH) : hN h + 2 + 1 = hN h + 3 := rfl
theorem p4 (h : aH) : hN h + 3 + 1 = hN h + 4 := rfl
theorem ii_L (hs : hS h b = (1, 1)) (hb : b < hN h) : X 33 0 [.ref b] [] h Q ↔ Q none (iL h b) := by
  unfold iL
  simp only [x33_0, x33_1, x33_4, x33_5, x33_6, x33_8, x33_11, pv_some, pv_none, c1_int, c1_ref, c1_null, true_and, and_true, ne_eq, not_false_eq_true, not_true_eq_false, if_true, if_false, reduceCtorEq, Option.some.injEq, Value.int.injEq, absI_fold, minI_fold, maxI_fold, hS_nw, hN_nw, show ¬ b = hN h by omega, hs, w5, five_t, show ¬ hN h = 0 by omega, if_true, if_false, true_or, or_true, false_or, or_false, true_and, and_true, false_and, and_false, not_true_eq_false, not_false_eq_true, iff_self, ite_self, ne_eq, true_implies, implies_true, Bool.false_eq_true, decide_true, decide_false, Bool.or_true, Bool.or_false, Bool.true_or, Bool.false_or]
theorem ii_T (hs : hS h b = (1, 5)) (hb : b < hN h) : X 65 0 [.ref b] [] h Q ↔ Q none (iT h b) := by
  unfold iT
  simp only [x65_0, x65_1, x65_4, x65_5, x65_8, x65_10, x65_13, x65_14, x65_15, x65_17, x65_20, pv_some, pv_none, c1_int, c1_ref, c1_null, true_and, and_true, ne_eq, not_false_eq_true, not_true_eq_false, if_true, if_false, reduceCtorEq, Option.some.injEq, Value.int.injEq, absI_fold, minI_fold, maxI_fold, hS_nw, hS_sR, hN_nw, hN_sR, show ¬ b = hN h by omega, show ¬ b = hN h + 1 by omega, hs, w5, w200, t200, five_t, show ¬ hN h = 0 by omega, m_nz, if_true, if_false, true_or, or_true, false_or, or_false, true_and, and_true, false_and, and_false, not_true_eq_false, not_false_eq_true, iff_self, ite_self, ne_eq, true_implies, implies_true, Bool.false_eq_true, decide_true, decide_false, Bool.or_true, Bool.or_false, Bool.true_or, Bool.false_or]
theorem ii_R (hs : hS h b = (1, 2)) (hb : b < hN h) : X 46 0 [.ref b] [] h Q ↔ Q none (iR h b) := by
  unfold iR
  simp only [x46_0, x46_1, x46_4, x46_5, x46_7, x46_9, x46_12, x46_13, x46_15, x46_17, x46_20, x46_21, x46_23, x46_25, x46_28, pv_some, pv_none, c1_int, c1_ref, c1_null, true_and, and_true, ne_eq, not_false_eq_true, not_true_eq_false, if_true, if_false, reduceCtorEq, Option.some.injEq, Value.int.injEq, absI_fold, minI_fold, maxI_fold, hS_nw, hS_sR, hN_nw, hN_sR, show ¬ b = hN h by omega, show ¬ b = hN h + 1 by omega, show ¬ b = hN h + 2 by omega, p2 h, hs, w8, ct8, show ¬ hN h = 0 by omega, m_nz, if_true, if_false, true_or, or_true, false_or, or_false, true_and, and_true, false_and, and_false, not_true_eq_false, not_false_eq_true, iff_self, ite_self, ne_eq, true_implies, implies_true, Bool.false_eq_true, decide_true, decide_false, Bool.or_true, Bool.or_false, Bool.true_or, Bool.false_or]
theorem iL_N (h : aH) (b : Nat) : hN (iL h b) = hN h + 1 := by unfold iL; rw [hN_sR, hN_nw]
theorem iL_S (h : aH) (b a : Nat) : hS (iL h b) a = if a = hN h then (2, 5) else hS h a := by unfold iL; rw [hS_sR, hS_nw]
theorem ii_S1 (hs : hS h b = (1, 3)) (hb : b < hN h) : X 51 0 [.ref b] [] h Q ↔ X 51 23 [.ref b] [.ref b] (sR (nw (sR (nw h 720 (2, 720)) b 0 (hN h)) 720 (2, 720)) b 1 (hN h + 1)) Q := by
  simp only [x51_0, x51_1, x51_4, x51_5, x51_8, x51_10, x51_13, x51_14, x51_17, x51_19, x51_22, x51_26, x51_27, x51_30, x51_33, x51_34, x51_36, x51_38, x51_41, pv_some, pv_none, c1_int, c1_ref, c1_null, true_and, and_true, ne_eq, not_false_eq_true, not_true_eq_false, if_true, if_false, reduceCtorEq, Option.some.injEq, Value.int.injEq, absI_fold, minI_fold, maxI_fold, hS_nw, hS_sR, hN_nw, hN_sR, show ¬ b = hN h by omega, show ¬ b = hN h + 1 by omega, hs, w720, t720, show ¬ hN h = 0 by omega, m_nz, if_true, if_false, true_or, or_true, false_or, or_false, true_and, and_true, false_and, and_false, not_true_eq_false, not_false_eq_true, iff_self, ite_self, ne_eq, true_implies, implies_true, Bool.false_eq_true, decide_true, decide_false, Bool.or_true, Bool.or_false, Bool.true_or, Bool.false_or]
theorem ii_S2 (hs : hS h b = (1, 3)) (hb : b < hN h) : X 51 23 [.ref b] [.ref b] h Q ↔ X 51 30 [.ref b] [.ref (hN h), .ref b] (iL (nw h 6 (1, 1)) (hN h)) Q := by
  have e1 : ∀ Q : Option Value → aH → Prop, X 33 0 [.ref (hN h)] [] (nw h 6 (1, 1)) Q ↔ Q none (iL (nw h 6 (1, 1)) (hN h)) := fun Q => ii_L (by rw [hS_nw, if_pos rfl]) (by rw [hN_nw]; omega)
  simp only [x51_0, x51_1, x51_4, x51_5, x51_8, x51_10, x51_13, x51_14, x51_17, x51_19, x51_22, x51_23, x51_26, x51_27, x51_33, x51_34, x51_36, x51_38, x51_41, pv_some, pv_none, c1_int, c1_ref, c1_null, true_and, and_true, ne_eq, not_false_eq_true, not_true_eq_false, if_true, if_false, reduceCtorEq, Option.some.injEq, Value.int.injEq, absI_fold, minI_fold, maxI_fold, e1, if_true, if_false, true_or, or_true, false_or, or_false, true_and, and_true, false_and, and_false, not_true_eq_false, not_false_eq_true, iff_self, ite_self, ne_eq, true_implies, implies_true, Bool.false_eq_true, decide_true, decide_false, Bool.or_true, Bool.or_false, Bool.true_or, Bool.false_or]
theorem ii_S3 {v : Nat} (hs : hS h b = (1, 3)) (hb : b < hN h) (hv : v ≠ 0) : X 51 30 [.ref b] [.ref v, .ref b] h Q ↔ Q none (sR (nw (sR h b 3 v) 6 (2, 6)) b 4 (hN h)) := by
  simp only [x51_0, x51_1, x51_4, x51_5, x51_8, x51_10, x51_13, x51_14, x51_17, x51_19, x51_22, x51_23, x51_26, x51_27, x51_30, x51_33, x51_34, x51_36, x51_38, x51_41, pv_some, pv_none, c1_int, c1_ref, c1_null, true_and, and_true, ne_eq, not_false_eq_true, not_true_eq_false, if_true, if_false, reduceCtorEq, Option.some.injEq, Value.int.injEq, absI_fold, minI_fold, maxI_fold, hS_nw, hS_sR, hN_nw, hN_sR, show ¬ b = hN h by omega, hs, hv, w6, ct6, show ¬ hN h = 0 by omega, if_true, if_false, true_or, or_true, false_or, or_false, true_and, and_true, false_and, and_false, not_true_eq_false, not_false_eq_true, iff_self, ite_self, ne_eq, true_implies, implies_true, Bool.false_eq_true, decide_true, decide_false, Bool.or_true, Bool.or_false, Bool.true_or, Bool.false_or]
theorem ii_S (hs : hS h b = (1, 3)) (hb : b < hN h) : X 51 0 [.ref b] [] h Q ↔ Q none (iS h b) := by
  have hn : hN (sR (nw (sR (nw h 720 (2, 720)) b 0 (hN h)) 720 (2, 720)) b 1 (hN h + 1)) = hN h + 2 := by rw [hN_sR, hN_nw, hN_sR, hN_nw]
  have hs2 : hS (sR (nw (sR (nw h 720 (2, 720)) b 0 (hN h)) 720 (2, 720)) b 1 (hN h + 1)) b = (1, 3) := by rw [hS_sR, hS_nw, hN_sR, hN_nw, if_neg (by omega), hS_sR, hS_nw, if_neg (by omega)]; exact hs
  have hn3 : hN (iL (nw (sR (nw (sR (nw h 720 (2, 720)) b 0 (hN h)) 720 (2, 720)) b 1 (hN h + 1)) 6 (1, 1)) (hN h + 2)) = hN h + 4 := by rw [iL_N, hN_nw, hn]
  have hs3 : hS (iL (nw (sR (nw (sR (nw h 720 (2, 720)) b 0 (hN h)) 720 (2, 720)) b 1 (hN h + 1)) 6 (1, 1)) (hN h + 2)) b = (1, 3) := by rw [iL_S, hN_nw, hn, if_neg (by omega), hS_nw, hn, if_neg (by omega)]; exact hs2
  have k2 := ii_S2 (Q := Q) hs2 (by rw [hn]; omega)
  rw [hn] at k2
  have k3 := ii_S3 (Q := Q) (v := hN h + 2) hs3 (by rw [hn3]; omega) (by omega)
  rw [hn3] at k3
  unfold iS
  exact (ii_S1 hs hb).trans (k2.trans k3)
theorem ii_H (hs : hS h b = (1, 4)) (hb : b < hN h) (hn : n = 8 ∨ n = 2) : X 59 0 [.ref b, .int (nI n)] [] h Q ↔ Q none (iH h b n) := by
  have m1 : maxI 1 (nI n) = nI n := by rcases hn with rfl | rfl <;> decide
  have x10 : nI n * 10 = nI (n * 10) := nI_mul n 10
  have w : (¬ nI (n * 10) < 0 ∧ nI (n * 10) < 100000) = True := by rcases hn with rfl | rfl <;> decide
  have t : (nI (n * 10)).toNatClampNeg = n * 10 := nI_cl (by rcases hn with rfl | rfl <;> decide)
  have e0 : hI (sI h b 0 (nI n)) b 0 = nI n := by rw [hI_sI, if_pos ⟨rfl, rfl⟩]
  unfold iH
  simp only [x59_0, x59_1, x59_4, x59_5, x59_6, x59_7, x59_10, x59_13, x59_14, x59_15, x59_18, x59_20, x59_21, x59_23, x59_26, pv_some, pv_none, c1_int, c1_ref, c1_null, true_and, and_true, ne_eq, not_false_eq_true, not_true_eq_false, if_true, if_false, reduceCtorEq, Option.some.injEq, Value.int.injEq, absI_fold, minI_fold, maxI_fold, m1, hS_nw, hS_sI, hN_sI, hN_nw, e0, x10, w, t, show ¬ b = hN h by omega, hs, show ¬ hN h = 0 by omega, if_true, if_false, true_or, or_true, false_or, or_false, true_and, and_true, false_and, and_false, not_true_eq_false, not_false_eq_true, iff_self, ite_self, ne_eq, true_implies, implies_true, Bool.false_eq_true, decide_true, decide_false, Bool.or_true, Bool.or_false, Bool.true_or, Bool.false_or]
theorem ii_W : X 74 0 [.ref b] [] h Q ↔ Q none h := by
  simp only [x74_0, x74_1, x74_4, pv_some, pv_none, c1_int, c1_ref, c1_null, true_and, and_true, ne_eq, not_false_eq_true, not_true_eq_false, if_true, if_false, reduceCtorEq, Option.some.injEq, Value.int.injEq, absI_fold, minI_fold, maxI_fold, if_true, if_false, true_or, or_true, false_or, or_false, true_and, and_true, false_and, and_false, not_true_eq_false, not_false_eq_true, iff_self, ite_self, ne_eq, true_implies, implies_true, Bool.false_eq_true, decide_true, decide_false, Bool.or_true, Bool.or_false, Bool.true_or, Bool.false_or]
theorem ii_I (hs : hS h b = (1, 0)) (hb : b < hN h) : X 0 0 [.ref b] [] h Q ↔ Q none (iI h b) := by
  unfold iI
  simp only [x0_0, x0_1, x0_4, x0_5, x0_6, x0_8, x0_11, x0_12, x0_13, x0_15, x0_18, x0_19, x0_20, x0_22, x0_25, x0_26, x0_27, x0_29, x0_32, x0_33, x0_34, x0_36, x0_39, x0_40, x0_42, x0_45, x0_46, x0_48, x0_51, x0_52, x0_54, x0_57, pv_some, pv_none, c1_int, c1_ref, c1_null, true_and, and_true, ne_eq, not_false_eq_true, not_true_eq_false, if_true, if_false, reduceCtorEq, Option.some.injEq, Value.int.injEq, absI_fold, minI_fold, maxI_fold, hS_nw, hS_sR, hS_sI, hN_nw, hN_sR, hN_sI, show ¬ b = hN h by omega, show ¬ b = hN h + 1 by omega, show ¬ b = hN h + 2 by omega, show ¬ b = hN h + 3 by omega, show ¬ b = hN h + 4 by omega, p2 h, p3 h, p4 h, hs, w5, five_t, show ¬ hN h = 0 by omega, m_nz, if_true, if_false, true_or, or_true, false_or, or_false, true_and, and_true, false_and, and_false, not_true_eq_false, not_false_eq_true, iff_self, ite_self, ne_eq, true_implies, implies_true, Bool.false_eq_true, decide_true, decide_false, Bool.or_true, Bool.or_false, Bool.true_or, Bool.false_or]
/-- the eleven fields, one by one -/
def j1 (h : aH) : aH := sR (iT (nw h 4 (1, 5)) 4) 3 0 4
def j2 (h : aH) : aH := sR (iR (nw (j1 h) 4 (1, 2)) 7) 3 1 7
def j3 (h : aH) : aH := sR (nw (j2 h) 3 (1, 6)) 3 2 11
def j4 (h : aH) : aH := sR (iS (nw (j3 h) 5 (1, 3)) 12) 3 3 12
def j5 (h : aH) : aH := sR (iH (nw (j4 h) 3 (1, 4)) 18 8) 3 4 18
def j6 (h : aH) : aH := sR (iH (nw (j5 h) 3 (1, 4)) 20 2) 3 5 20
def j7 (h : aH) : aH := sR (iL (nw (j6 h) 6 (1, 1)) 22) 3 6 22
def j8 (h : aH) : aH := sR (iL (nw (j7 h) 6 (1, 1)) 24) 3 7 24
def j9 (h : aH) : aH := sR (iI (nw (j8 h) 11 (1, 0)) 26) 3 8 26
def j10 (h : aH) : aH := sR (iI (nw (j9 h) 11 (1, 0)) 32) 3 9 32
def j11 (h : aH) : aH := sR (iI (nw (j10 h) 11 (1, 0)) 38) 3 10 38
theorem j1_N (e : hN h = 4) : hN (j1 h) = 7 := by show hN h + 1 + 1 + 1 = 7; omega
theorem j2_N (e : hN h = 4) : hN (j2 h) = 11 := by show hN (j1 h) + 1 + 1 + 1 + 1 = 11; rw [j1_N e]
theorem j3_N (e : hN h = 4) : hN (j3 h) = 12 := by show hN (j2 h) + 1 = 12; rw [j2_N e]
theorem j4_N (e : hN h = 4) : hN (j4 h) = 18 := by show hN (j3 h) + 1 + 1 + 1 + 1 + 1 + 1 = 18; rw [j3_N e]
theorem j5_N (e : hN h = 4) : hN (j5 h) = 20 := by show hN (j4 h) + 1 + 1 = 20; rw [j4_N e]
theorem j6_N (e : hN h = 4) : hN (j6 h) = 22 := by show hN (j5 h) + 1 + 1 = 22; rw [j5_N e]
theorem j7_N (e : hN h = 4) : hN (j7 h) = 24 := by show hN (j6 h) + 1 + 1 = 24; rw [j6_N e]
theorem j8_N (e : hN h = 4) : hN (j8 h) = 26 := by show hN (j7 h) + 1 + 1 = 26; rw [j7_N e]
theorem j9_N (e : hN h = 4) : hN (j9 h) = 32 := by show hN (j8 h) + 1 + 1 + 1 + 1 + 1 + 1 = 32; rw [j8_N e]
theorem j10_N (e : hN h = 4) : hN (j10 h) = 38 := by show hN (j9 h) + 1 + 1 + 1 + 1 + 1 + 1 = 38; rw [j9_N e]
theorem j11_N (e : hN h = 4) : hN (j11 h) = 44 := by show hN (j10 h) + 1 + 1 + 1 + 1 + 1 + 1 = 44; rw [j10_N e]
end MK
