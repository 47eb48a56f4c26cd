/-! THE CLASS'S CELLS: the constructor, stage by stage -/
section MADE2
variable {h : aH} {Q : Option Value → aH → Prop}
theorem st1 (e : hN h = 4) (e3 : hS h 3 = (1, 7)) : X 80 4 [.ref 3, .null] [] h Q ↔ X 80 15 [.ref 3, .null] [] (j1 h) Q := by
  have n0 : hN h = 4 := e
  have s3 : hS h 3 = (1, 7) := e3
  have k : ∀ Q : Option Value → aH → Prop, X 65 0 [.ref 4] [] (nw h 4 (1, 5)) Q ↔ Q none (iT (nw h 4 (1, 5)) 4) := fun Q => ii_T (by rw [hS_nw, n0, if_pos rfl]) (by rw [hN_nw, n0]; decide)
  have s3' : hS (iT (nw h 4 (1, 5)) 4) 3 = (1, 7) := by
    have := j1_S e 3
    rw [if_neg (by omega), s3] at this
    unfold j1 at this
    rw [hS_sR] at this
    exact this
  unfold j1
  simp only [x80_4, x80_5, x80_8, x80_9, x80_12, pv_some, pv_none, c1_int, c1_ref, c1_null, true_and, and_true, ne_eq, not_false_eq_true, not_true_eq_false, if_true, if_false, reduceCtorEq, Option.some.injEq, Value.int.injEq, absI_fold, minI_fold, maxI_fold, n0, k, s3', m_nz, if_true, if_false, true_or, or_true, false_or, or_false, true_and, and_true, false_and, and_false, not_true_eq_false, not_false_eq_true, iff_self, ite_self, ne_eq, true_implies, implies_true, Bool.false_eq_true, decide_true, decide_false, Bool.or_true, Bool.or_false, Bool.true_or, Bool.false_or]
theorem st2 (e : hN h = 4) (e3 : hS h 3 = (1, 7)) : X 80 15 [.ref 3, .null] [] (j1 h) Q ↔ X 80 26 [.ref 3, .null] [] (j2 h) Q := by
  have n0 : hN (j1 h) = 7 := j1_N e
  have s3 : hS (j1 h) 3 = (1, 7) := (by rw [j1_S e, if_neg (by omega)]; exact e3)
  have k : ∀ Q : Option Value → aH → Prop, X 46 0 [.ref 7] [] (nw (j1 h) 4 (1, 2)) Q ↔ Q none (iR (nw (j1 h) 4 (1, 2)) 7) := fun Q => ii_R (by rw [hS_nw, n0, if_pos rfl]) (by rw [hN_nw, n0]; decide)
  have s3' : hS (iR (nw (j1 h) 4 (1, 2)) 7) 3 = (1, 7) := by
    have := j2_S e 3
    rw [if_neg (by omega), s3] at this
    unfold j2 at this
    rw [hS_sR] at this
    exact this
  unfold j2
  simp only [x80_15, x80_16, x80_19, x80_20, x80_23, pv_some, pv_none, c1_int, c1_ref, c1_null, true_and, and_true, ne_eq, not_false_eq_true, not_true_eq_false, if_true, if_false, reduceCtorEq, Option.some.injEq, Value.int.injEq, absI_fold, minI_fold, maxI_fold, n0, k, s3', m_nz, if_true, if_false, true_or, or_true, false_or, or_false, true_and, and_true, false_and, and_false, not_true_eq_false, not_false_eq_true, iff_self, ite_self, ne_eq, true_implies, implies_true, Bool.false_eq_true, decide_true, decide_false, Bool.or_true, Bool.or_false, Bool.true_or, Bool.false_or]
theorem st3 (e : hN h = 4) (e3 : hS h 3 = (1, 7)) : X 80 26 [.ref 3, .null] [] (j2 h) Q ↔ X 80 37 [.ref 3, .null] [] (j3 h) Q := by
  have n0 : hN (j2 h) = 11 := j2_N e
  have s3 : hS (j2 h) 3 = (1, 7) := (by rw [j2_S e, if_neg (by omega), j1_S e, if_neg (by omega)]; exact e3)
  have s3' : hS (nw (j2 h) 3 (1, 6)) 3 = (1, 7) := by
    rw [hS_nw, n0, if_neg (by omega)]; exact s3
  unfold j3
  simp only [x80_26, x80_27, x80_30, x80_31, x80_34, pv_some, pv_none, c1_int, c1_ref, c1_null, true_and, and_true, ne_eq, not_false_eq_true, not_true_eq_false, if_true, if_false, reduceCtorEq, Option.some.injEq, Value.int.injEq, absI_fold, minI_fold, maxI_fold, n0, ii_W, s3', m_nz, if_true, if_false, true_or, or_true, false_or, or_false, true_and, and_true, false_and, and_false, not_true_eq_false, not_false_eq_true, iff_self, ite_self, ne_eq, true_implies, implies_true, Bool.false_eq_true, decide_true, decide_false, Bool.or_true, Bool.or_false, Bool.true_or, Bool.false_or]
theorem st4 (e : hN h = 4) (e3 : hS h 3 = (1, 7)) : X 80 37 [.ref 3, .null] [] (j3 h) Q ↔ X 80 48 [.ref 3, .null] [] (j4 h) Q := by
  have n0 : hN (j3 h) = 12 := j3_N e
  have s3 : hS (j3 h) 3 = (1, 7) := (by rw [j3_S e, if_neg (by omega), j2_S e, if_neg (by omega), j1_S e, if_neg (by omega)]; exact e3)
  have k : ∀ Q : Option Value → aH → Prop, X 51 0 [.ref 12] [] (nw (j3 h) 5 (1, 3)) Q ↔ Q none (iS (nw (j3 h) 5 (1, 3)) 12) := fun Q => ii_S (by rw [hS_nw, n0, if_pos rfl]) (by rw [hN_nw, n0]; decide)
  have s3' : hS (iS (nw (j3 h) 5 (1, 3)) 12) 3 = (1, 7) := by
    have := j4_S e 3
    rw [if_neg (by omega), s3] at this
    unfold j4 at this
    rw [hS_sR] at this
    exact this
  unfold j4
  simp only [x80_37, x80_38, x80_41, x80_42, x80_45, pv_some, pv_none, c1_int, c1_ref, c1_null, true_and, and_true, ne_eq, not_false_eq_true, not_true_eq_false, if_true, if_false, reduceCtorEq, Option.some.injEq, Value.int.injEq, absI_fold, minI_fold, maxI_fold, n0, k, s3', m_nz, if_true, if_false, true_or, or_true, false_or, or_false, true_and, and_true, false_and, and_false, not_true_eq_false, not_false_eq_true, iff_self, ite_self, ne_eq, true_implies, implies_true, Bool.false_eq_true, decide_true, decide_false, Bool.or_true, Bool.or_false, Bool.true_or, Bool.false_or]
theorem st5 (e : hN h = 4) (e3 : hS h 3 = (1, 7)) : X 80 48 [.ref 3, .null] [] (j4 h) Q ↔ X 80 61 [.ref 3, .null] [] (j5 h) Q := by
  have n0 : hN (j4 h) = 18 := j4_N e
  have s3 : hS (j4 h) 3 = (1, 7) := (by rw [j4_S e, if_neg (by omega), j3_S e, if_neg (by omega), j2_S e, if_neg (by omega), j1_S e, if_neg (by omega)]; exact e3)
  have k : ∀ Q : Option Value → aH → Prop, X 59 0 [.ref 18, .int 8] [] (nw (j4 h) 3 (1, 4)) Q ↔ Q none (iH (nw (j4 h) 3 (1, 4)) 18 8) := fun Q => ii_H (by rw [hS_nw, n0, if_pos rfl]) (by rw [hN_nw, n0]; decide) (Or.inl rfl)
  have s3' : hS (iH (nw (j4 h) 3 (1, 4)) 18 8) 3 = (1, 7) := by
    have := j5_S e 3
    rw [if_neg (by omega), s3] at this
    unfold j5 at this
    rw [hS_sR] at this
    exact this
  unfold j5
  simp only [x80_48, x80_49, x80_52, x80_53, x80_55, x80_58, pv_some, pv_none, c1_int, c1_ref, c1_null, true_and, and_true, ne_eq, not_false_eq_true, not_true_eq_false, if_true, if_false, reduceCtorEq, Option.some.injEq, Value.int.injEq, absI_fold, minI_fold, maxI_fold, n0, k, s3', m_nz, if_true, if_false, true_or, or_true, false_or, or_false, true_and, and_true, false_and, and_false, not_true_eq_false, not_false_eq_true, iff_self, ite_self, ne_eq, true_implies, implies_true, Bool.false_eq_true, decide_true, decide_false, Bool.or_true, Bool.or_false, Bool.true_or, Bool.false_or]
theorem st6 (e : hN h = 4) (e3 : hS h 3 = (1, 7)) : X 80 61 [.ref 3, .null] [] (j5 h) Q ↔ X 80 73 [.ref 3, .null] [] (j6 h) Q := by
  have n0 : hN (j5 h) = 20 := j5_N e
  have s3 : hS (j5 h) 3 = (1, 7) := (by rw [j5_S e, if_neg (by omega), j4_S e, if_neg (by omega), j3_S e, if_neg (by omega), j2_S e, if_neg (by omega), j1_S e, if_neg (by omega)]; exact e3)
  have k : ∀ Q : Option Value → aH → Prop, X 59 0 [.ref 20, .int 2] [] (nw (j5 h) 3 (1, 4)) Q ↔ Q none (iH (nw (j5 h) 3 (1, 4)) 20 2) := fun Q => ii_H (by rw [hS_nw, n0, if_pos rfl]) (by rw [hN_nw, n0]; decide) (Or.inr rfl)
  have s3' : hS (iH (nw (j5 h) 3 (1, 4)) 20 2) 3 = (1, 7) := by
    have := j6_S e 3
    rw [if_neg (by omega), s3] at this
    unfold j6 at this
    rw [hS_sR] at this
    exact this
  unfold j6
  simp only [x80_61, x80_62, x80_65, x80_66, x80_67, x80_70, pv_some, pv_none, c1_int, c1_ref, c1_null, true_and, and_true, ne_eq, not_false_eq_true, not_true_eq_false, if_true, if_false, reduceCtorEq, Option.some.injEq, Value.int.injEq, absI_fold, minI_fold, maxI_fold, n0, k, s3', m_nz, if_true, if_false, true_or, or_true, false_or, or_false, true_and, and_true, false_and, and_false, not_true_eq_false, not_false_eq_true, iff_self, ite_self, ne_eq, true_implies, implies_true, Bool.false_eq_true, decide_true, decide_false, Bool.or_true, Bool.or_false, Bool.true_or, Bool.false_or]
theorem st7 (e : hN h = 4) (e3 : hS h 3 = (1, 7)) : X 80 73 [.ref 3, .null] [] (j6 h) Q ↔ X 80 84 [.ref 3, .null] [] (j7 h) Q := by
  have n0 : hN (j6 h) = 22 := j6_N e
  have s3 : hS (j6 h) 3 = (1, 7) := (by rw [j6_S e, if_neg (by omega), j5_S e, if_neg (by omega), j4_S e, if_neg (by omega), j3_S e, if_neg (by omega), j2_S e, if_neg (by omega), j1_S e, if_neg (by omega)]; exact e3)
  have k : ∀ Q : Option Value → aH → Prop, X 33 0 [.ref 22] [] (nw (j6 h) 6 (1, 1)) Q ↔ Q none (iL (nw (j6 h) 6 (1, 1)) 22) := fun Q => ii_L (by rw [hS_nw, n0, if_pos rfl]) (by rw [hN_nw, n0]; decide)
  have s3' : hS (iL (nw (j6 h) 6 (1, 1)) 22) 3 = (1, 7) := by
    have := j7_S e 3
    rw [if_neg (by omega), s3] at this
    unfold j7 at this
    rw [hS_sR] at this
    exact this
  unfold j7
  simp only [x80_73, x80_74, x80_77, x80_78, x80_81, pv_some, pv_none, c1_int, c1_ref, c1_null, true_and, and_true, ne_eq, not_false_eq_true, not_true_eq_false, if_true, if_false, reduceCtorEq, Option.some.injEq, Value.int.injEq, absI_fold, minI_fold, maxI_fold, n0, k, s3', m_nz, if_true, if_false, true_or, or_true, false_or, or_false, true_and, and_true, false_and, and_false, not_true_eq_false, not_false_eq_true, iff_self, ite_self, ne_eq, true_implies, implies_true, Bool.false_eq_true, decide_true, decide_false, Bool.or_true, Bool.or_false, Bool.true_or, Bool.false_or]
theorem st8 (e : hN h = 4) (e3 : hS h 3 = (1, 7)) : X 80 84 [.ref 3, .null] [] (j7 h) Q ↔ X 80 95 [.ref 3, .null] [] (j8 h) Q := by
  have n0 : hN (j7 h) = 24 := j7_N e
  have s3 : hS (j7 h) 3 = (1, 7) := (by rw [j7_S e, if_neg (by omega), j6_S e, if_neg (by omega), j5_S e, if_neg (by omega), j4_S e, if_neg (by omega), j3_S e, if_neg (by omega), j2_S e, if_neg (by omega), j1_S e, if_neg (by omega)]; exact e3)
  have k : ∀ Q : Option Value → aH → Prop, X 33 0 [.ref 24] [] (nw (j7 h) 6 (1, 1)) Q ↔ Q none (iL (nw (j7 h) 6 (1, 1)) 24) := fun Q => ii_L (by rw [hS_nw, n0, if_pos rfl]) (by rw [hN_nw, n0]; decide)
  have s3' : hS (iL (nw (j7 h) 6 (1, 1)) 24) 3 = (1, 7) := by
    have := j8_S e 3
    rw [if_neg (by omega), s3] at this
    unfold j8 at this
    rw [hS_sR] at this
    exact this
  unfold j8
  simp only [x80_84, x80_85, x80_88, x80_89, x80_92, pv_some, pv_none, c1_int, c1_ref, c1_null, true_and, and_true, ne_eq, not_false_eq_true, not_true_eq_false, if_true, if_false, reduceCtorEq, Option.some.injEq, Value.int.injEq, absI_fold, minI_fold, maxI_fold, n0, k, s3', m_nz, if_true, if_false, true_or, or_true, false_or, or_false, true_and, and_true, false_and, and_false, not_true_eq_false, not_false_eq_true, iff_self, ite_self, ne_eq, true_implies, implies_true, Bool.false_eq_true, decide_true, decide_false, Bool.or_true, Bool.or_false, Bool.true_or, Bool.false_or]
theorem st9 (e : hN h = 4) (e3 : hS h 3 = (1, 7)) : X 80 95 [.ref 3, .null] [] (j8 h) Q ↔ X 80 106 [.ref 3, .null] [] (j9 h) Q := by
  have n0 : hN (j8 h) = 26 := j8_N e
  have s3 : hS (j8 h) 3 = (1, 7) := (by rw [j8_S e, if_neg (by omega), j7_S e, if_neg (by omega), j6_S e, if_neg (by omega), j5_S e, if_neg (by omega), j4_S e, if_neg (by omega), j3_S e, if_neg (by omega), j2_S e, if_neg (by omega), j1_S e, if_neg (by omega)]; exact e3)
  have k : ∀ Q : Option Value → aH → Prop, X 0 0 [.ref 26] [] (nw (j8 h) 11 (1, 0)) Q ↔ Q none (iI (nw (j8 h) 11 (1, 0)) 26) := fun Q => ii_I (by rw [hS_nw, n0, if_pos rfl]) (by rw [hN_nw, n0]; decide)
  have s3' : hS (iI (nw (j8 h) 11 (1, 0)) 26) 3 = (1, 7) := by
    have := j9_S e 3
    rw [if_neg (by omega), s3] at this
    unfold j9 at this
    rw [hS_sR] at this
    exact this
  unfold j9
  simp only [x80_95, x80_96, x80_99, x80_100, x80_103, pv_some, pv_none, c1_int, c1_ref, c1_null, true_and, and_true, ne_eq, not_false_eq_true, not_true_eq_false, if_true, if_false, reduceCtorEq, Option.some.injEq, Value.int.injEq, absI_fold, minI_fold, maxI_fold, n0, k, s3', m_nz, if_true, if_false, true_or, or_true, false_or, or_false, true_and, and_true, false_and, and_false, not_true_eq_false, not_false_eq_true, iff_self, ite_self, ne_eq, true_implies, implies_true, Bool.false_eq_true, decide_true, decide_false, Bool.or_true, Bool.or_false, Bool.true_or, Bool.false_or]
theorem st10 (e : hN h = 4) (e3 : hS h 3 = (1, 7)) : X 80 106 [.ref 3, .null] [] (j9 h) Q ↔ X 80 117 [.ref 3, .null] [] (j10 h) Q := by
  have n0 : hN (j9 h) = 32 := j9_N e
  have s3 : hS (j9 h) 3 = (1, 7) := (by rw [j9_S e, if_neg (by omega), j8_S e, if_neg (by omega), j7_S e, if_neg (by omega), j6_S e, if_neg (by omega), j5_S e, if_neg (by omega), j4_S e, if_neg (by omega), j3_S e, if_neg (by omega), j2_S e, if_neg (by omega), j1_S e, if_neg (by omega)]; exact e3)
  have k : ∀ Q : Option Value → aH → Prop, X 0 0 [.ref 32] [] (nw (j9 h) 11 (1, 0)) Q ↔ Q none (iI (nw (j9 h) 11 (1, 0)) 32) := fun Q => ii_I (by rw [hS_nw, n0, if_pos rfl]) (by rw [hN_nw, n0]; decide)
  have s3' : hS (iI (nw (j9 h) 11 (1, 0)) 32) 3 = (1, 7) := by
    have := j10_S e 3
    rw [if_neg (by omega), s3] at this
    unfold j10 at this
    rw [hS_sR] at this
    exact this
  unfold j10
  simp only [x80_106, x80_107, x80_110, x80_111, x80_114, pv_some, pv_none, c1_int, c1_ref, c1_null, true_and, and_true, ne_eq, not_false_eq_true, not_true_eq_false, if_true, if_false, reduceCtorEq, Option.some.injEq, Value.int.injEq, absI_fold, minI_fold, maxI_fold, n0, k, s3', m_nz, if_true, if_false, true_or, or_true, false_or, or_false, true_and, and_true, false_and, and_false, not_true_eq_false, not_false_eq_true, iff_self, ite_self, ne_eq, true_implies, implies_true, Bool.false_eq_true, decide_true, decide_false, Bool.or_true, Bool.or_false, Bool.true_or, Bool.false_or]
theorem st11 (e : hN h = 4) (e3 : hS h 3 = (1, 7)) : X 80 117 [.ref 3, .null] [] (j10 h) Q ↔ X 80 128 [.ref 3, .null] [] (j11 h) Q := by
  have n0 : hN (j10 h) = 38 := j10_N e
  have s3 : hS (j10 h) 3 = (1, 7) := (by rw [j10_S e, if_neg (by omega), j9_S e, if_neg (by omega), j8_S e, if_neg (by omega), j7_S e, if_neg (by omega), j6_S e, if_neg (by omega), j5_S e, if_neg (by omega), j4_S e, if_neg (by omega), j3_S e, if_neg (by omega), j2_S e, if_neg (by omega), j1_S e, if_neg (by omega)]; exact e3)
  have k : ∀ Q : Option Value → aH → Prop, X 0 0 [.ref 38] [] (nw (j10 h) 11 (1, 0)) Q ↔ Q none (iI (nw (j10 h) 11 (1, 0)) 38) := fun Q => ii_I (by rw [hS_nw, n0, if_pos rfl]) (by rw [hN_nw, n0]; decide)
  have s3' : hS (iI (nw (j10 h) 11 (1, 0)) 38) 3 = (1, 7) := by
    have := j11_S e 3
    rw [if_neg (by omega), s3] at this
    unfold j11 at this
    rw [hS_sR] at this
    exact this
  unfold j11
  simp only [x80_117, x80_118, x80_121, x80_122, x80_125, pv_some, pv_none, c1_int, c1_ref, c1_null, true_and, and_true, ne_eq, not_false_eq_true, not_true_eq_false, if_true, if_false, reduceCtorEq, Option.some.injEq, Value.int.injEq, absI_fold, minI_fold, maxI_fold, n0, k, s3', m_nz, if_true, if_false, true_or, or_true, false_or, or_false, true_and, and_true, false_and, and_false, not_true_eq_false, not_false_eq_true, iff_self, ite_self, ne_eq, true_implies, implies_true, Bool.false_eq_true, decide_true, decide_false, Bool.or_true, Bool.or_false, Bool.true_or, Bool.false_or]
end MADE2
