/-! INN: what a text tells it -/
section INNW
variable {h : aH} {a q G i k : Nat} {Q : Option Value → aH → Prop} {x y : Int32}
def clrH (h : aH) (a : Nat) : aH := sI (sI (sI (sI (sI (sI h a 5 0) a 6 6) a 7 0) a 8 8) a 9 7) a 10 0
theorem k_innClear (g : GS h) (ha : isInn a) : X 1 0 [.ref a] [] h Q ↔ Q none (clrH h a) := by
  simp only [x1_0, x1_1, x1_2, x1_5, x1_6, x1_8, x1_11, x1_12, x1_13, x1_16, x1_17, x1_19, x1_22, x1_23, x1_25, x1_28, x1_29, x1_30, x1_33, pv_some, pv_none, c1_int, c1_ref, c1_null, true_and, and_true, ne_eq, not_false_eq_true, not_true_eq_false, if_true, if_false, reduceCtorEq, Option.some.injEq, Value.int.injEq, absI_fold, minI_fold, maxI_fold, inn_s g ha, hS_sI, if_true, if_false, true_or, or_true, false_or, or_false, true_and, and_true, false_and, and_false, not_true_eq_false, not_false_eq_true, iff_self, ite_self, ne_eq, true_implies, implies_true, Bool.false_eq_true, decide_true, decide_false, Bool.or_true, Bool.or_false, Bool.true_or, Bool.false_or]
  rfl
abbrev okBeds (st x : Int32) : Prop := st = 0 ∧ ¬ x < 2 ∧ ¬ 6 < x
theorem k_setBeds (g : GS h) (ha : isInn a) : X 3 0 [.ref a, .int x] [] h Q ↔ if okBeds (hI h a 10) x then Q (some (.int 1)) (sI h a 6 x) else Q (some (.int 0)) h := by
  simp only [x3_0, x3_1, x3_4, x3_7, x3_8, x3_9, x3_12, x3_13, x3_15, x3_18, x3_19, x3_20, x3_21, x3_22, x3_25, x3_26, pv_some, pv_none, c1_int, c1_ref, c1_null, true_and, and_true, ne_eq, not_false_eq_true, not_true_eq_false, if_true, if_false, reduceCtorEq, Option.some.injEq, Value.int.injEq, absI_fold, minI_fold, maxI_fold, inn_s g ha]
  by_cases h1 : hI h a 10 = 0 <;> by_cases h2 : x < 2 <;> by_cases h3 : 6 < x <;> simp only [h1, h2, h3, okBeds, if_true, if_false, true_or, or_true, false_or, or_false, true_and, and_true, false_and, and_false, not_true_eq_false, not_false_eq_true, iff_self, ite_self, ne_eq, true_implies, implies_true, Bool.false_eq_true, decide_true, decide_false, Bool.or_true, Bool.or_false, Bool.true_or, Bool.false_or]
theorem k_stuffWall (g : GS h) (ha : isInn a) : X 6 0 [.ref a, .int x] [] h Q ↔ if ¬ x < 0 ∧ x < hI h a 6 - 1 then Q (some (.int 1)) (sI (sI h a 7 (hI h a 7 ||| 1 <<< (x &&& 31))) a 10 1) else Q (some (.int 0)) h := by
  simp only [x6_0, x6_1, x6_2, x6_5, x6_8, x6_9, x6_10, x6_11, x6_12, x6_15, x6_16, x6_17, x6_18, x6_19, x6_22, x6_23, x6_24, x6_27, x6_28, pv_some, pv_none, c1_int, c1_ref, c1_null, true_and, and_true, ne_eq, not_false_eq_true, not_true_eq_false, if_true, if_false, reduceCtorEq, Option.some.injEq, Value.int.injEq, absI_fold, minI_fold, maxI_fold, inn_s g ha, k_hasWall g ha, bi_zero, hS_sI]
  by_cases h1 : x < 0 <;> by_cases h2 : x < hI h a 6 - 1 <;> simp only [h1, h2, if_true, if_false, true_or, or_true, false_or, or_false, true_and, and_true, false_and, and_false, not_true_eq_false, not_false_eq_true, iff_self, ite_self, ne_eq, true_implies, implies_true, Bool.false_eq_true, decide_true, decide_false, Bool.or_true, Bool.or_false, Bool.true_or, Bool.false_or]
theorem k_setPorters (g : GS h) (ha : isInn a) : X 7 0 [.ref a, .int x] [] h Q ↔ if 40 < x then Q (some (.int 0)) h else Q (some (.int 1)) (sI (sI h a 8 x) a 10 1) := by
  simp only [x7_0, x7_1, x7_3, x7_6, x7_7, x7_8, x7_9, x7_10, x7_13, x7_14, x7_15, x7_18, x7_19, pv_some, pv_none, c1_int, c1_ref, c1_null, true_and, and_true, ne_eq, not_false_eq_true, not_true_eq_false, if_true, if_false, reduceCtorEq, Option.some.injEq, Value.int.injEq, absI_fold, minI_fold, maxI_fold, inn_s g ha, hS_sI]
  by_cases h1 : 40 < x <;> simp only [h1, if_true, if_false, true_or, or_true, false_or, or_false, true_and, and_true, false_and, and_false, not_true_eq_false, not_false_eq_true, iff_self, ite_self, ne_eq, true_implies, implies_true, Bool.false_eq_true, decide_true, decide_false, Bool.or_true, Bool.or_false, Bool.true_or, Bool.false_or]
theorem k_setNote (g : GS h) (ha : isInn a) : X 8 0 [.ref a, .int x] [] h Q ↔ if 12 < x then Q (some (.int 0)) h else Q (some (.int 1)) (sI (sI h a 9 x) a 10 1) := by
  simp only [x8_0, x8_1, x8_3, x8_6, x8_7, x8_8, x8_9, x8_10, x8_13, x8_14, x8_15, x8_18, x8_19, pv_some, pv_none, c1_int, c1_ref, c1_null, true_and, and_true, ne_eq, not_false_eq_true, not_true_eq_false, if_true, if_false, reduceCtorEq, Option.some.injEq, Value.int.injEq, absI_fold, minI_fold, maxI_fold, inn_s g ha, hS_sI]
  by_cases h1 : 12 < x <;> simp only [h1, if_true, if_false, true_or, or_true, false_or, or_false, true_and, and_true, false_and, and_false, not_true_eq_false, not_false_eq_true, iff_self, ite_self, ne_eq, true_implies, implies_true, Bool.false_eq_true, decide_true, decide_false, Bool.or_true, Bool.or_false, Bool.true_or, Bool.false_or]
def takenF (P : Nat → Int32) (x : Int32) (G : Nat) : Bool := decide (fstN (fun i => decide (P i = x)) G < G)
theorem k_isTaken (I : InnAt h a G) : X 5 0 [.ref a, .int x, .null] [] h Q ↔ Q (some (.int (bi (takenF (hI h (a + 5)) x G = true)))) h := by
  refine X_iff ?_ Q
  obtain ⟨g, ha, hG, h5⟩ := id I
  have hle := fstN_le (fun i => decide (hI h (a + 5) i = x)) G
  simp only [x5_0, x5_1, x5_3, x5_4, x5_7, x5_10, x5_11, x5_12, x5_15, x5_16, x5_19, x5_20, x5_21, x5_22, x5_25, x5_26, x5_27, x5_30, x5_33, x5_34, pv_some, pv_none, c1_int, c1_ref, c1_null, true_and, and_true, ne_eq, not_false_eq_true, not_true_eq_false, if_true, if_false, reduceCtorEq, Option.some.injEq, Value.int.injEq, absI_fold, minI_fold, maxI_fold]
  refine loop_up (P := fun k => X 5 2 [.ref a, .int x, .int (nI k)] [] h _) (n := fstN (fun i => decide (hI h (a + 5) i = x)) G) (fun k hk hp => ?_) ?_
  · have hno := fstN_no _ _ _ hk
    have hn : ¬ hI h (a + 5) k = x := by simpa using hno
    rw [x5_2]
    simp only [x5_0, x5_1, x5_3, x5_4, x5_7, x5_10, x5_11, x5_12, x5_15, x5_16, x5_19, x5_20, x5_21, x5_22, x5_25, x5_26, x5_27, x5_30, x5_33, x5_34, pv_some, pv_none, c1_int, c1_ref, c1_null, true_and, and_true, ne_eq, not_false_eq_true, not_true_eq_false, if_true, if_false, reduceCtorEq, Option.some.injEq, Value.int.injEq, absI_fold, minI_fold, maxI_fold, I.s, ltG I (show k < G by omega), lt5 (show k < 5 by omega), inn_r4 g ha, inn_s5 g ha, ib5 (show k < 5 by omega), cl5 (show k < 5 by omega), hn, nI_add1, Nat.add_eq_zero_iff, if_true, if_false, true_or, or_true, false_or, or_false, true_and, and_true, false_and, and_false, not_true_eq_false, not_false_eq_true, iff_self, ite_self, ne_eq, true_implies, implies_true, Bool.false_eq_true, decide_true, decide_false, Bool.or_true, Bool.or_false, Bool.true_or, Bool.false_or]
    exact hp
  · rw [x5_2]
    unfold takenF
    generalize hf : fstN (fun i => decide (hI h (a + 5) i = x)) G = n0 at hle
    by_cases hl : n0 < G
    · have hy := fstN_yes (fun i => decide (hI h (a + 5) i = x)) G (by rw [hf]; exact hl)
      rw [hf] at hy
      have hn : hI h (a + 5) n0 = x := by simpa using hy
      simp only [x5_0, x5_1, x5_3, x5_4, x5_7, x5_10, x5_11, x5_12, x5_15, x5_16, x5_19, x5_20, x5_21, x5_22, x5_25, x5_26, x5_27, x5_30, x5_33, x5_34, pv_some, pv_none, c1_int, c1_ref, c1_null, true_and, and_true, ne_eq, not_false_eq_true, not_true_eq_false, if_true, if_false, reduceCtorEq, Option.some.injEq, Value.int.injEq, absI_fold, minI_fold, maxI_fold, I.s, ltG I hl, lt5 (show n0 < 5 by omega), inn_r4 g ha, inn_s5 g ha, ib5 (show n0 < 5 by omega), cl5 (show n0 < 5 by omega), hn, Nat.add_eq_zero_iff, if_true, if_false, true_or, or_true, false_or, or_false, true_and, and_true, false_and, and_false, not_true_eq_false, not_false_eq_true, iff_self, ite_self, ne_eq, true_implies, implies_true, Bool.false_eq_true, decide_true, decide_false, Bool.or_true, Bool.or_false, Bool.true_or, Bool.false_or, one_ne, hl, bi_T, bi_tt, hf]
    · have : n0 = G := by omega
      subst this
      simp only [x5_0, x5_1, x5_3, x5_4, x5_7, x5_10, x5_11, x5_12, x5_15, x5_16, x5_19, x5_20, x5_21, x5_22, x5_25, x5_26, x5_27, x5_30, x5_33, x5_34, pv_some, pv_none, c1_int, c1_ref, c1_null, true_and, and_true, ne_eq, not_false_eq_true, not_true_eq_false, if_true, if_false, reduceCtorEq, Option.some.injEq, Value.int.injEq, absI_fold, minI_fold, maxI_fold, I.s, nltG I, if_true, if_false, true_or, or_true, false_or, or_false, true_and, and_true, false_and, and_false, not_true_eq_false, not_false_eq_true, iff_self, ite_self, ne_eq, true_implies, implies_true, Bool.false_eq_true, decide_true, decide_false, Bool.or_true, Bool.or_false, Bool.true_or, Bool.false_or, hl, bi_F, bi_ff, hf, Nat.lt_irrefl]
/-- told numbers that make a guest -/
def okGuest (h : aH) (a G : Nat) (t : Nat → Int32) : Prop := G < 5 ∧ nI G < hI h a 6 - 1 ∧ ¬ 3 < t 0 ∧ ¬ 30 < t 1 ∧ ¬ 12 < t 2 ∧ ¬ t 3 < 1 ∧ ¬ 40 < t 3 ∧ (¬ t 4 < 0 ∧ t 4 < hI h a 6) ∧ takenF (hI h (a + 5)) (t 4) G = false
def gstH (h : aH) (a G : Nat) (t : Nat → Int32) : aH := sI (sI (sI (sI (sI (sI (sI h (a + 1) G (t 0)) (a + 2) G (t 1)) (a + 3) G (t 2)) (a + 4) G (t 3)) (a + 5) G (t 4)) a 5 (nI (G + 1))) a 10 1
theorem txt_s6 (g : GS h) : hS h 6 = (2, 5) := g.1 _ (by decide) (by decide)
theorem c0 : (0 : Int32).toNatClampNeg = 0 := by decide
theorem ct1 : (1 : Int32).toNatClampNeg = 1 := by decide
theorem ct2 : (2 : Int32).toNatClampNeg = 2 := by decide
theorem ct3 : (3 : Int32).toNatClampNeg = 3 := by decide
theorem ct4 : (4 : Int32).toNatClampNeg = 4 := by decide
theorem ibl (k : Nat) (hk : k < 5) : ib (nI k) (2, 5) = True := ib5 hk
theorem k_addGuestNo (I : InnAt h a G) (hno : ¬ okGuest h a G (hI h 6)) : X 4 0 [.ref a, .ref 6] [] h Q ↔ Q (some (.int 0)) h := by
  obtain ⟨g, ha, hG, h5⟩ := id I
  have i0 : ib 0 (2, 5) = True := ibl 0 (by decide)
  have i1 : ib 1 (2, 5) = True := ibl 1 (by decide)
  have i2 : ib 2 (2, 5) = True := ibl 2 (by decide)
  have i3 : ib 3 (2, 5) = True := ibl 3 (by decide)
  have i4 : ib 4 (2, 5) = True := ibl 4 (by decide)
  have l5 : (Int32.ofNat 5 < 5) = False := by decide
  have g5 : (nI G < 5) = (G < 5) := nI_lt_iff (show G < 2 ^ 31 by omega) (show 5 < 2 ^ 31 by decide)
  unfold okGuest at hno
  simp only [x4_0, x4_1, x4_2, x4_3, x4_6, x4_7, x4_10, x4_11, x4_14, x4_15, x4_18, x4_19, x4_22, x4_23, x4_24, x4_27, x4_28, x4_29, x4_30, x4_31, x4_32, x4_33, x4_36, x4_37, x4_38, x4_39, x4_41, x4_44, x4_45, x4_46, x4_47, x4_49, x4_52, x4_53, x4_54, x4_55, x4_56, x4_57, x4_58, x4_61, x4_62, x4_63, x4_64, x4_66, x4_69, x4_70, x4_71, x4_72, x4_73, x4_76, x4_79, x4_80, x4_81, x4_82, x4_83, x4_86, x4_89, x4_90, x4_91, x4_92, x4_95, x4_96, x4_99, x4_100, x4_101, x4_102, x4_103, x4_104, x4_107, x4_108, x4_111, x4_113, x4_114, x4_115, x4_116, x4_119, x4_120, x4_123, x4_124, x4_125, x4_126, x4_127, x4_128, x4_131, x4_132, x4_135, x4_136, x4_137, x4_138, x4_139, x4_140, x4_143, x4_144, x4_147, x4_148, x4_149, x4_150, x4_151, x4_152, x4_153, x4_156, x4_157, x4_158, x4_161, x4_162, x4_163, x4_166, x4_167, pv_some, pv_none, c1_int, c1_ref, c1_null, true_and, and_true, ne_eq, not_false_eq_true, not_true_eq_false, if_true, if_false, reduceCtorEq, Option.some.injEq, Value.int.injEq, absI_fold, minI_fold, maxI_fold, txt_s6 g, I.s, hG, l5, g5, i0, i1, i2, i3, i4, c0, ct1, ct2, ct3, ct4, k_hasBed g ha, k_isTaken I, bi_zero, if_true, if_false, true_or, or_true, false_or, or_false, true_and, and_true, false_and, and_false, not_true_eq_false, not_false_eq_true, iff_self, ite_self, ne_eq, true_implies, implies_true, Bool.false_eq_true, decide_true, decide_false, Bool.or_true, Bool.or_false, Bool.true_or, Bool.false_or]
  by_cases h1 : G < 5 <;> simp only [h1, if_true, if_false, true_or, or_true, false_or, or_false, true_and, and_true, false_and, and_false, not_true_eq_false, not_false_eq_true, iff_self, ite_self, ne_eq, true_implies, implies_true, Bool.false_eq_true, decide_true, decide_false, Bool.or_true, Bool.or_false, Bool.true_or, Bool.false_or]
  by_cases h2 : nI G < hI h a 6 - 1 <;> simp only [h2, if_true, if_false, true_or, or_true, false_or, or_false, true_and, and_true, false_and, and_false, not_true_eq_false, not_false_eq_true, iff_self, ite_self, ne_eq, true_implies, implies_true, Bool.false_eq_true, decide_true, decide_false, Bool.or_true, Bool.or_false, Bool.true_or, Bool.false_or]
  by_cases h3 : 3 < hI h 6 0 <;> simp only [h3, if_true, if_false, true_or, or_true, false_or, or_false, true_and, and_true, false_and, and_false, not_true_eq_false, not_false_eq_true, iff_self, ite_self, ne_eq, true_implies, implies_true, Bool.false_eq_true, decide_true, decide_false, Bool.or_true, Bool.or_false, Bool.true_or, Bool.false_or]
  by_cases h4 : 30 < hI h 6 1 <;> simp only [h4, if_true, if_false, true_or, or_true, false_or, or_false, true_and, and_true, false_and, and_false, not_true_eq_false, not_false_eq_true, iff_self, ite_self, ne_eq, true_implies, implies_true, Bool.false_eq_true, decide_true, decide_false, Bool.or_true, Bool.or_false, Bool.true_or, Bool.false_or]
  by_cases h5' : 12 < hI h 6 2 <;> simp only [h5', if_true, if_false, true_or, or_true, false_or, or_false, true_and, and_true, false_and, and_false, not_true_eq_false, not_false_eq_true, iff_self, ite_self, ne_eq, true_implies, implies_true, Bool.false_eq_true, decide_true, decide_false, Bool.or_true, Bool.or_false, Bool.true_or, Bool.false_or]
  by_cases h6 : hI h 6 3 < 1 <;> simp only [h6, if_true, if_false, true_or, or_true, false_or, or_false, true_and, and_true, false_and, and_false, not_true_eq_false, not_false_eq_true, iff_self, ite_self, ne_eq, true_implies, implies_true, Bool.false_eq_true, decide_true, decide_false, Bool.or_true, Bool.or_false, Bool.true_or, Bool.false_or]
  by_cases h7 : 40 < hI h 6 3 <;> simp only [h7, if_true, if_false, true_or, or_true, false_or, or_false, true_and, and_true, false_and, and_false, not_true_eq_false, not_false_eq_true, iff_self, ite_self, ne_eq, true_implies, implies_true, Bool.false_eq_true, decide_true, decide_false, Bool.or_true, Bool.or_false, Bool.true_or, Bool.false_or]
  by_cases h8 : ¬ hI h 6 4 < 0 ∧ hI h 6 4 < hI h a 6
  · by_cases h9 : takenF (hI h (a + 5)) (hI h 6 4) G = true
    · simp only [h8, h9, if_true, if_false, true_or, or_true, false_or, or_false, true_and, and_true, false_and, and_false, not_true_eq_false, not_false_eq_true, iff_self, ite_self, ne_eq, true_implies, implies_true, Bool.false_eq_true, decide_true, decide_false, Bool.or_true, Bool.or_false, Bool.true_or, Bool.false_or]
    · exact absurd ⟨h1, h2, h3, h4, h5', h6, h7, h8, by simpa using h9⟩ hno
  · simp only [h8, if_true, if_false, true_or, or_true, false_or, or_false, true_and, and_true, false_and, and_false, not_true_eq_false, not_false_eq_true, iff_self, ite_self, ne_eq, true_implies, implies_true, Bool.false_eq_true, decide_true, decide_false, Bool.or_true, Bool.or_false, Bool.true_or, Bool.false_or]
theorem k_addGuestA (I : InnAt h a G) (hok : okGuest h a G (hI h 6)) : X 4 0 [.ref a, .ref 6] [] h Q ↔ X 4 91 [.ref a, .ref 6] [] h Q := by
  obtain ⟨g, ha, hG, h5⟩ := id I
  have i0 : ib 0 (2, 5) = True := ibl 0 (by decide)
  have i1 : ib 1 (2, 5) = True := ibl 1 (by decide)
  have i2 : ib 2 (2, 5) = True := ibl 2 (by decide)
  have i3 : ib 3 (2, 5) = True := ibl 3 (by decide)
  have i4 : ib 4 (2, 5) = True := ibl 4 (by decide)
  have l5 : (Int32.ofNat 5 < 5) = False := by decide
  have g5 : (nI G < 5) = (G < 5) := nI_lt_iff (show G < 2 ^ 31 by omega) (show 5 < 2 ^ 31 by decide)
  obtain ⟨o1, o2, o3, o4, o5, o6, o7, o8, o9⟩ := hok
  simp only [x4_0, x4_1, x4_2, x4_3, x4_6, x4_7, x4_10, x4_11, x4_14, x4_15, x4_18, x4_19, x4_22, x4_23, x4_24, x4_27, x4_28, x4_29, x4_30, x4_31, x4_32, x4_33, x4_36, x4_37, x4_38, x4_39, x4_41, x4_44, x4_45, x4_46, x4_47, x4_49, x4_52, x4_53, x4_54, x4_55, x4_56, x4_57, x4_58, x4_61, x4_62, x4_63, x4_64, x4_66, x4_69, x4_70, x4_71, x4_72, x4_73, x4_76, x4_79, x4_80, x4_81, x4_82, x4_83, x4_86, x4_89, x4_90, x4_92, x4_95, x4_96, x4_99, x4_100, x4_101, x4_102, x4_103, x4_104, x4_107, x4_108, x4_111, x4_112, x4_113, x4_114, x4_115, x4_116, x4_119, x4_120, x4_123, x4_124, x4_125, x4_126, x4_127, x4_128, x4_131, x4_132, x4_135, x4_136, x4_137, x4_138, x4_139, x4_140, x4_143, x4_144, x4_147, x4_148, x4_149, x4_150, x4_151, x4_152, x4_153, x4_156, x4_157, x4_158, x4_161, x4_162, x4_163, x4_166, x4_167, pv_some, pv_none, c1_int, c1_ref, c1_null, true_and, and_true, ne_eq, not_false_eq_true, not_true_eq_false, if_true, if_false, reduceCtorEq, Option.some.injEq, Value.int.injEq, absI_fold, minI_fold, maxI_fold, txt_s6 g, I.s, hG, l5, g5, i0, i1, i2, i3, i4, c0, ct1, ct2, ct3, ct4, k_hasBed g ha, k_isTaken I, bi_zero, if_true, if_false, true_or, or_true, false_or, or_false, true_and, and_true, false_and, and_false, not_true_eq_false, not_false_eq_true, iff_self, ite_self, ne_eq, true_implies, implies_true, Bool.false_eq_true, decide_true, decide_false, Bool.or_true, Bool.or_false, Bool.true_or, Bool.false_or, o1, o2, o3, o4, o5, o6, o7, o8, o9]
theorem k_addGuestB (I : InnAt h a G) (h5 : G < 5) : X 4 91 [.ref a, .ref 6] [] h Q ↔ Q (some (.int 1)) (gstH h a G (hI h 6)) := by
  obtain ⟨g, ha, hG, -⟩ := id I
  have i0 : ib 0 (2, 5) = True := ibl 0 (by decide)
  have i1 : ib 1 (2, 5) = True := ibl 1 (by decide)
  have i2 : ib 2 (2, 5) = True := ibl 2 (by decide)
  have i3 : ib 3 (2, 5) = True := ibl 3 (by decide)
  have i4 : ib 4 (2, 5) = True := ibl 4 (by decide)
  have iw : ibw (nI G) (2, 5) = True := eq_true (ibw_nI h5 (by decide))
  have n6 : ∀ k, (6 = a + (k + 1)) = False := fun k => eq_false (by rcases ha with rfl | rfl | rfl <;> omega)
  have n61 := n6 0
  have n62 := n6 1
  have n63 := n6 2
  have n64 := n6 3
  have n65 := n6 4
  simp only [Nat.reduceAdd] at n61 n62 n63 n64 n65
  have m : ∀ k, (a = a + (k + 1)) = False := fun k => eq_false (by omega)
  have m1 := m 0
  have m2 := m 1
  have m3 := m 2
  have m4 := m 3
  have m5 := m 4
  simp only [Nat.reduceAdd] at m1 m2 m3 m4 m5
  simp only [x4_0, x4_1, x4_2, x4_3, x4_6, x4_7, x4_10, x4_11, x4_14, x4_15, x4_18, x4_19, x4_22, x4_23, x4_24, x4_27, x4_28, x4_29, x4_30, x4_31, x4_32, x4_33, x4_36, x4_37, x4_38, x4_39, x4_41, x4_44, x4_45, x4_46, x4_47, x4_49, x4_52, x4_53, x4_54, x4_55, x4_56, x4_57, x4_58, x4_61, x4_62, x4_63, x4_64, x4_66, x4_69, x4_70, x4_71, x4_72, x4_73, x4_76, x4_79, x4_80, x4_81, x4_82, x4_83, x4_86, x4_89, x4_90, x4_91, x4_92, x4_95, x4_96, x4_99, x4_100, x4_101, x4_102, x4_103, x4_104, x4_107, x4_108, x4_111, x4_112, x4_113, x4_114, x4_115, x4_116, x4_119, x4_120, x4_123, x4_124, x4_125, x4_126, x4_127, x4_128, x4_131, x4_132, x4_135, x4_136, x4_137, x4_138, x4_139, x4_140, x4_143, x4_144, x4_147, x4_148, x4_149, x4_150, x4_151, x4_152, x4_153, x4_156, x4_157, x4_158, x4_161, x4_162, x4_163, x4_166, x4_167, pv_some, pv_none, c1_int, c1_ref, c1_null, true_and, and_true, ne_eq, not_false_eq_true, not_true_eq_false, if_true, if_false, reduceCtorEq, Option.some.injEq, Value.int.injEq, absI_fold, minI_fold, maxI_fold, txt_s6 g, I.s, hG, i0, i1, i2, i3, i4, iw, c0, ct1, ct2, ct3, ct4, inn_r0 g ha, inn_r1 g ha, inn_r2 g ha, inn_r3 g ha, inn_r4 g ha, inn_s1 g ha, inn_s2 g ha, inn_s3 g ha, inn_s4 g ha, inn_s5 g ha, hS_sI, hR_sI, hI_sI, n61, n62, n63, n64, n65, m1, m2, m3, m4, m5, cl5 h5, nI_add1, Nat.add_eq_zero_iff, one_ne, if_true, if_false, true_or, or_true, false_or, or_false, true_and, and_true, false_and, and_false, not_true_eq_false, not_false_eq_true, iff_self, ite_self, ne_eq, true_implies, implies_true, Bool.false_eq_true, decide_true, decide_false, Bool.or_true, Bool.or_false, Bool.true_or, Bool.false_or]
  rfl
theorem k_addGuest (I : InnAt h a G) (hok : okGuest h a G (hI h 6)) : X 4 0 [.ref a, .ref 6] [] h Q ↔ Q (some (.int 1)) (gstH h a G (hI h 6)) := by
  rw [k_addGuestA I hok, k_addGuestB I hok.1]
end INNW
