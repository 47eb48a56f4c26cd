/-! SHELF -/
section SHELF
variable {h : aH} {s R z : Nat} {Q : Option Value → aH → Prop}
/-- a shelf at s with room R and z ways on it -/
def ShAt (h : aH) (s R z : Nat) : Prop := GS h ∧ (s = 18 ∧ R = 8 ∨ s = 20 ∧ R = 2) ∧ hI h s 0 = nI R ∧ hI h s 2 = nI z ∧ z ≤ R
theorem ShAt.sh (S : ShAt h s R z) : hS h s = (1, 4) := by
  obtain ⟨g, q, -⟩ := S
  rcases q with ⟨rfl, rfl⟩ | ⟨rfl, rfl⟩ <;> exact g.1 _ (by decide) (by decide)
theorem ShAt.r (S : ShAt h s R z) : hR h s 1 = s + 1 := by
  obtain ⟨g, q, -⟩ := S
  rcases q with ⟨rfl, rfl⟩ | ⟨rfl, rfl⟩ <;> exact g.2.1 _ _ (by decide) (by decide)
theorem ShAt.s1 (S : ShAt h s R z) : hS h (s + 1) = (2, R * 10) := by
  obtain ⟨g, q, -⟩ := S
  rcases q with ⟨rfl, rfl⟩ | ⟨rfl, rfl⟩ <;> exact g.1 _ (by decide) (by decide)
theorem k_shSize (S : ShAt h s R z) : X 60 0 [.ref s] [] h Q ↔ Q (some (.int (nI z))) h := by
  simp only [x60_0, x60_1, x60_4, pv_some, pv_none, c1_int, c1_ref, c1_null, true_and, and_true, ne_eq, not_false_eq_true, not_true_eq_false, if_true, if_false, reduceCtorEq, Option.some.injEq, Value.int.injEq, absI_fold, minI_fold, maxI_fold, S.sh, S.2.2.2.1]
theorem k_isFull (S : ShAt h s R z) : X 61 0 [.ref s] [] h Q ↔ Q (some (.int (bi (¬ z < R)))) h := by
  obtain ⟨g, q, h1, h2, h3⟩ := id S
  have hR : R ≤ 8 := by rcases q with ⟨-, rfl⟩ | ⟨-, rfl⟩ <;> decide
  simp only [x61_0, x61_1, x61_4, x61_5, x61_8, x61_11, x61_12, x61_15, x61_16, pv_some, pv_none, c1_int, c1_ref, c1_null, true_and, and_true, ne_eq, not_false_eq_true, not_true_eq_false, if_true, if_false, reduceCtorEq, Option.some.injEq, Value.int.injEq, absI_fold, minI_fold, maxI_fold, S.sh, h1, h2, nI_lt_iff (show z < 2 ^ 31 by omega) (show R < 2 ^ 31 by omega)]
  by_cases hz : z < R <;> simp only [hz, bi, if_true, if_false, true_or, or_true, false_or, or_false, true_and, and_true, false_and, and_false, not_true_eq_false, not_false_eq_true, iff_self, ite_self, ne_eq, true_implies, implies_true, Bool.false_eq_true, decide_true, decide_false, Bool.or_true, Bool.or_false, Bool.true_or, Bool.false_or]
theorem k_shClear (S : ShAt h s R z) : X 62 0 [.ref s] [] h Q ↔ Q none (sI h s 2 0) := by
  simp only [x62_0, x62_1, x62_2, x62_5, pv_some, pv_none, c1_int, c1_ref, c1_null, true_and, and_true, ne_eq, not_false_eq_true, not_true_eq_false, if_true, if_false, reduceCtorEq, Option.some.injEq, Value.int.injEq, absI_fold, minI_fold, maxI_fold, S.sh]
/-- ten numbers put on a shelf; if it is full the oldest ones fall off -/
def putS (h : aH) (s R z : Nat) (v : Nat → Int32) : aH := wI h (fun b j => if b = s + 1 then (if z < R then (if z * 10 ≤ j ∧ j < z * 10 + 10 then v (j - z * 10) else hI h b j) else (if j < R * 10 - 10 then hI h b (j + 10) else if j < R * 10 then v (j - (R * 10 - 10)) else hI h b j)) else if b = s ∧ j = 2 then nI (if z < R then z + 1 else R) else hI h b j)
theorem ten_t : (10 : Int32).toNatClampNeg = 10 := by decide
theorem z10 : ((0 : Int32) ≤ 10) = True := by decide
set_option maxHeartbeats 4000000 in
theorem k_put (S : ShAt h s R z) : X 63 0 [.ref s, .ref 22] [] h Q ↔ Q none (putS h s R z (lv h 22)) := by
  obtain ⟨g, q, h1, h2, h3⟩ := id S
  have hR : R ≤ 8 ∧ 2 ≤ R := by rcases q with ⟨-, rfl⟩ | ⟨-, rfl⟩ <;> decide
  have hq : isLie 22 := by simp [isLie]
  have hss : s + 1 = 19 ∨ s + 1 = 21 := by omega
  by_cases hz : z < R
  · simp only [x63_0, x63_1, x63_4, x63_7, x63_8, x63_11, x63_13, x63_14, x63_17, x63_18, x63_19, x63_22, x63_23, x63_25, x63_26, x63_29, x63_30, x63_31, x63_34, x63_35, x63_36, x63_39, x63_40, x63_41, x63_44, x63_45, x63_48, x63_50, x63_51, x63_54, x63_55, x63_56, x63_59, x63_60, x63_61, x63_64, pv_some, pv_none, c1_int, c1_ref, c1_null, true_and, and_true, ne_eq, not_false_eq_true, not_true_eq_false, if_true, if_false, reduceCtorEq, Option.some.injEq, Value.int.injEq, absI_fold, minI_fold, maxI_fold, S.sh, S.r, lie_s g hq, k_isFull S, bi_zero, hz, if_true, if_false, true_or, or_true, false_or, or_false, true_and, and_true, false_and, and_false, not_true_eq_false, not_false_eq_true, iff_self, ite_self, ne_eq, true_implies, implies_true, Bool.false_eq_true, decide_true, decide_false, Bool.or_true, Bool.or_false, Bool.true_or, Bool.false_or, Nat.add_eq_zero_iff, h2, nI_x10, k_save g hq S.s1 (by omega) hss (show z * 10 + 10 ≤ R * 10 by omega) (by omega), setRow, hS_wI]
    refine iff_Q (aH_ext rfl rfl rfl rfl (fun b j => ?_))
    simp only [hI_sI, hI_wI, putS, hz, if_true, if_false, true_or, or_true, false_or, or_false, true_and, and_true, false_and, and_false, not_true_eq_false, not_false_eq_true, iff_self, ite_self, ne_eq, true_implies, implies_true, Bool.false_eq_true, decide_true, decide_false, Bool.or_true, Bool.or_false, Bool.true_or, Bool.false_or]
    rcases q with ⟨rfl, rfl⟩ | ⟨rfl, rfl⟩ <;> grind (splits := 40) [nI_add1]
  · have hzR : z = R := by omega
    subst hzR
    have hcp : cpOk (2, z * 10) (2, z * 10) 10 0 (nI (z * 10 - 10)) = True := by
      simp only [cpOk, ten_t, zero_t, z10, z0, nI_cl (show z * 10 - 10 < 2 ^ 31 by omega), nI_pos' (show z * 10 - 10 < 2 ^ 31 by omega), if_true, if_false, true_or, or_true, false_or, or_false, true_and, and_true, false_and, and_false, not_true_eq_false, not_false_eq_true, iff_self, ite_self, ne_eq, true_implies, implies_true, Bool.false_eq_true, decide_true, decide_false, Bool.or_true, Bool.or_false, Bool.true_or, Bool.false_or, Nat.zero_add, show 10 + (z * 10 - 10) ≤ z * 10 by omega, show z * 10 - 10 ≤ z * 10 by omega]
    have g' : GS (cpI h (s + 1) 10 (s + 1) 0 (z * 10 - 10)) := g
    have g2 : GS (sI (cpI h (s + 1) 10 (s + 1) 0 (z * 10 - 10)) s 2 (nI (z - 1))) := g
    have e0 : hI (cpI h (s + 1) 10 (s + 1) 0 (z * 10 - 10)) s 0 = nI z := by
      rw [hI_cpI, if_neg (by omega)]; exact h1
    simp only [x63_0, x63_1, x63_4, x63_7, x63_8, x63_11, x63_13, x63_14, x63_17, x63_18, x63_19, x63_22, x63_23, x63_25, x63_26, x63_29, x63_30, x63_31, x63_34, x63_35, x63_36, x63_39, x63_40, x63_41, x63_44, x63_45, x63_48, x63_50, x63_51, x63_54, x63_55, x63_56, x63_59, x63_60, x63_61, x63_64, pv_some, pv_none, c1_int, c1_ref, c1_null, true_and, and_true, ne_eq, not_false_eq_true, not_true_eq_false, if_true, if_false, reduceCtorEq, Option.some.injEq, Value.int.injEq, absI_fold, minI_fold, maxI_fold, S.sh, S.r, S.s1, lie_s g hq, k_isFull S, bi_zero, hz, if_true, if_false, true_or, or_true, false_or, or_false, true_and, and_true, false_and, and_false, not_true_eq_false, not_false_eq_true, iff_self, ite_self, ne_eq, true_implies, implies_true, Bool.false_eq_true, decide_true, decide_false, Bool.or_true, Bool.or_false, Bool.true_or, Bool.false_or, Nat.add_eq_zero_iff, ofNat_nI, nI_m10 (show 10 ≤ z * 10 by omega), hcp, hS_cpI, hR_cpI, hS_sI, hR_sI, ten_t, zero_t, nI_cl (show z * 10 - 10 < 2 ^ 31 by omega), e0, nI_m1 (show 1 ≤ z by omega)]
    rw [show hI (sI (cpI h (s + 1) 10 (s + 1) 0 (z * 10 - 10)) s 2 (nI (z - 1))) s 2 = nI (z - 1) by rw [hI_sI]; simp]
    simp only [nI_x10, k_save g2 hq (r := s + 1) (n := z * 10) S.s1 (by omega) hss (show (z - 1) * 10 + 10 ≤ z * 10 by omega) (by omega), x63_0, x63_1, x63_4, x63_7, x63_8, x63_11, x63_13, x63_14, x63_17, x63_18, x63_19, x63_22, x63_23, x63_25, x63_26, x63_29, x63_30, x63_31, x63_34, x63_35, x63_36, x63_39, x63_40, x63_41, x63_44, x63_45, x63_48, x63_50, x63_51, x63_54, x63_55, x63_56, x63_59, x63_60, x63_61, x63_64, pv_some, pv_none, c1_int, c1_ref, c1_null, true_and, and_true, ne_eq, not_false_eq_true, not_true_eq_false, if_true, if_false, reduceCtorEq, Option.some.injEq, Value.int.injEq, absI_fold, minI_fold, maxI_fold, setRow, hS_wI, hR_wI, hS_sI, hR_sI, hS_cpI, hR_cpI, S.sh]
    refine iff_Q (aH_ext rfl rfl rfl rfl (fun b j => ?_))
    simp only [hI_sI, hI_wI, putS, hI_cpI, lv, hz, if_true, if_false, true_or, or_true, false_or, or_false, true_and, and_true, false_and, and_false, not_true_eq_false, not_false_eq_true, iff_self, ite_self, ne_eq, true_implies, implies_true, Bool.false_eq_true, decide_true, decide_false, Bool.or_true, Bool.or_false, Bool.true_or, Bool.false_or]
    rcases q with ⟨rfl, rfl⟩ | ⟨rfl, rfl⟩ <;> grind (splits := 60) [nI_add1]
/-- the last way taken off -/
theorem k_takeInto (S : ShAt h s R z) : X 64 0 [.ref s, .ref 22] [] h Q ↔ if z = 0 then Q (some (.int 0)) h else Q (some (.int 1)) (setL (sI h s 2 (nI (z - 1))) 22 (fun j => hI h (s + 1) ((z - 1) * 10 + j))) := by
  obtain ⟨g, q, h1, h2, h3⟩ := id S
  have hR : R ≤ 8 ∧ 2 ≤ R := by rcases q with ⟨-, rfl⟩ | ⟨-, rfl⟩ <;> decide
  have hq : isLie 22 := by simp [isLie]
  have hss : s + 1 = 19 ∨ s + 1 = 21 := by omega
  by_cases hz : z = 0
  · subst hz
    simp only [x64_0, x64_1, x64_4, x64_5, x64_8, x64_9, x64_10, x64_11, x64_12, x64_15, x64_16, x64_17, x64_20, x64_21, x64_22, x64_25, x64_26, x64_29, x64_31, x64_32, x64_35, x64_36, pv_some, pv_none, c1_int, c1_ref, c1_null, true_and, and_true, ne_eq, not_false_eq_true, not_true_eq_false, if_true, if_false, reduceCtorEq, Option.some.injEq, Value.int.injEq, absI_fold, minI_fold, maxI_fold, S.sh, h2, show (nI 0 < 1) = True by decide, if_true, if_false, true_or, or_true, false_or, or_false, true_and, and_true, false_and, and_false, not_true_eq_false, not_false_eq_true, iff_self, ite_self, ne_eq, true_implies, implies_true, Bool.false_eq_true, decide_true, decide_false, Bool.or_true, Bool.or_false, Bool.true_or, Bool.false_or]
  · have g2 : GS (sI h s 2 (nI (z - 1))) := g
    simp only [x64_0, x64_1, x64_4, x64_5, x64_8, x64_9, x64_10, x64_11, x64_12, x64_15, x64_16, x64_17, x64_20, x64_21, x64_22, x64_25, x64_26, x64_29, x64_31, x64_32, x64_35, x64_36, pv_some, pv_none, c1_int, c1_ref, c1_null, true_and, and_true, ne_eq, not_false_eq_true, not_true_eq_false, if_true, if_false, reduceCtorEq, Option.some.injEq, Value.int.injEq, absI_fold, minI_fold, maxI_fold, S.sh, S.r, h2, show (nI z < 1) = False from eq_false (show ¬ nI z < nI 1 from nI_nlt (by omega) (by omega)), hz, nI_m1 (show 1 ≤ z by omega), hS_sI, hR_sI, Nat.add_eq_zero_iff, if_true, if_false, true_or, or_true, false_or, or_false, true_and, and_true, false_and, and_false, not_true_eq_false, not_false_eq_true, iff_self, ite_self, ne_eq, true_implies, implies_true, Bool.false_eq_true, decide_true, decide_false, Bool.or_true, Bool.or_false, Bool.true_or, Bool.false_or, lie_s g hq]
    rw [show hI (sI h s 2 (nI (z - 1))) s 2 = nI (z - 1) by rw [hI_sI]; simp]
    simp only [nI_x10, k_load g2 hq (r := s + 1) (n := R * 10) S.s1 hss (show (z - 1) * 10 + 10 ≤ R * 10 by omega) (by omega), x64_0, x64_1, x64_4, x64_5, x64_8, x64_9, x64_10, x64_11, x64_12, x64_15, x64_16, x64_17, x64_20, x64_21, x64_22, x64_25, x64_26, x64_29, x64_31, x64_32, x64_35, x64_36, pv_some, pv_none, c1_int, c1_ref, c1_null, true_and, and_true, ne_eq, not_false_eq_true, not_true_eq_false, if_true, if_false, reduceCtorEq, Option.some.injEq, Value.int.injEq, absI_fold, minI_fold, maxI_fold, one_ne, if_true, if_false, true_or, or_true, false_or, or_false, true_and, and_true, false_and, and_false, not_true_eq_false, not_false_eq_true, iff_self, ite_self, ne_eq, true_implies, implies_true, Bool.false_eq_true, decide_true, decide_false, Bool.or_true, Bool.or_false, Bool.true_or, Bool.false_or]
    refine iff_Q ?_
    refine congrArg (setL (sI h s 2 (nI (z - 1))) 22) ?_
    funext j
    rw [hI_sI, if_neg (by omega)]
end SHELF
