/-! THE CLASS: its own methods -/
section CLS
variable {h : aH} {a G i j k z n : Nat} {Q : Option Value → aH → Prop} {x y b : Int32}
theorem b_s (g : GS h) : hS h 3 = (1, 7) := g.1 _ (by decide) (by decide)
theorem b_r0 (g : GS h) : hR h 3 0 = 4 := g.2.1 _ _ (by decide) (by decide)
theorem b_r1 (g : GS h) : hR h 3 1 = 7 := g.2.1 _ _ (by decide) (by decide)
theorem b_r2 (g : GS h) : hR h 3 2 = 11 := g.2.1 _ _ (by decide) (by decide)
theorem b_r3 (g : GS h) : hR h 3 3 = 12 := g.2.1 _ _ (by decide) (by decide)
theorem b_r4 (g : GS h) : hR h 3 4 = 18 := g.2.1 _ _ (by decide) (by decide)
theorem b_r5 (g : GS h) : hR h 3 5 = 20 := g.2.1 _ _ (by decide) (by decide)
theorem b_r6 (g : GS h) : hR h 3 6 = 22 := g.2.1 _ _ (by decide) (by decide)
theorem b_r7 (g : GS h) : hR h 3 7 = 24 := g.2.1 _ _ (by decide) (by decide)
theorem b_r10 (g : GS h) : hR h 3 10 = 38 := g.2.1 _ _ (by decide) (by decide)
theorem cs4 (g : GS h) : hS h 4 = (1, 5) := g.1 _ (by decide) (by decide)
theorem cs7 (g : GS h) : hS h 7 = (1, 2) := g.1 _ (by decide) (by decide)
theorem cs11 (g : GS h) : hS h 11 = (1, 6) := g.1 _ (by decide) (by decide)
theorem cs12 (g : GS h) : hS h 12 = (1, 3) := g.1 _ (by decide) (by decide)
theorem cs18 (g : GS h) : hS h 18 = (1, 4) := g.1 _ (by decide) (by decide)
theorem cs20 (g : GS h) : hS h 20 = (1, 4) := g.1 _ (by decide) (by decide)
theorem cs22 (g : GS h) : hS h 22 = (1, 1) := g.1 _ (by decide) (by decide)
theorem cs24 (g : GS h) : hS h 24 = (1, 1) := g.1 _ (by decide) (by decide)
theorem cs38 (g : GS h) : hS h 38 = (1, 0) := g.1 _ (by decide) (by decide)
/-- the class's inn -/
def CI (h : aH) (a G : Nat) : Prop := InnAt h a G ∧ hR h 3 8 = a ∧ (a = 26 ∨ a = 32)
theorem CI.nz (I : CI h a G) : (a = 0) = False := by rcases I.2.2 with rfl | rfl <;> simp
theorem l22 : isLie 22 := Or.inr (Or.inl rfl)
theorem l24 : isLie 24 := Or.inr (Or.inr rfl)
theorem CI.in_ (I : CI h a G) (hi : i < G) : ¬ nI i < 0 ∧ nI i < hI h a 5 := by
  have h5 := I.1.2.2.2
  rw [I.1.2.2.1, nI_neg (by omega), nI_lt_iff (by omega) (by omega)]
  exact ⟨id, hi⟩
def guestC (h : aH) (a G i : Nat) (y : Int32) : Int32 := if y = 0 then hI h (a + 1) i else if y = 1 then hI h (a + 2) i else if y = 2 then hI h (a + 3) i else if y = 3 then hI h (a + 4) i else if y = 4 then hI h 23 i else if y = 5 then loudF (hI h (a + 1) i) (hI h (a + 2) i) (hI h 22 2) else if y = 6 then hearA h a 22 (hI h 22 2) G i else if y = 7 then bi (¬ hearA h a 22 (hI h 22 2) G i < hI h (a + 4) i) else -1
theorem c_guest (I : CI h a G) (hi : i < G) : X 85 0 [.ref 3, .int (nI i), .int y] [] h Q ↔ Q (some (.int (guestC h a G i y))) h := by
  have g := I.1.1
  have h5 := I.1.2.2.2
  simp only [x85_0, x85_1, x85_4, x85_5, x85_8, x85_11, x85_12, x85_13, x85_14, x85_60, x85_61, x85_64, x85_65, x85_68, x85_69, x85_70, x85_73, x85_74, x85_77, x85_78, x85_79, x85_82, x85_83, x85_86, x85_87, x85_88, x85_91, x85_92, x85_95, x85_96, x85_97, x85_100, x85_101, x85_104, x85_105, x85_106, x85_109, x85_110, x85_111, x85_114, x85_117, x85_120, x85_121, x85_122, x85_125, x85_126, x85_127, x85_130, x85_131, x85_134, x85_137, x85_140, x85_141, x85_142, x85_145, x85_146, x85_147, x85_150, x85_151, x85_154, x85_157, x85_160, x85_163, x85_164, x85_167, x85_168, x85_169, x85_170, pv_some, pv_none, c1_int, c1_ref, c1_null, true_and, and_true, ne_eq, not_false_eq_true, not_true_eq_false, if_true, if_false, reduceCtorEq, Option.some.injEq, Value.int.injEq, absI_fold, minI_fold, maxI_fold, b_s g, b_r0 g, b_r1 g, b_r2 g, b_r3 g, b_r4 g, b_r5 g, b_r6 g, b_r7 g, b_r10 g, cs4 g, cs7 g, cs11 g, cs12 g, cs18 g, cs20 g, cs22 g, cs24 g, cs38 g, m_nz, I.2.1, I.nz, inn_s g I.1.2.1, k_hasGuest I.1, bi_zero, I.in_ hi, k_kindOf I.1 hi, k_strengthOf I.1 hi, k_noteOf I.1 hi, k_lightnessOf I.1 hi, k_placeOf g l22 (show i < 5 by omega), k_loudness I.1 hi, k_hearing I.1 l22 hi, k_isWoken I.1 l22 hi, if_true, if_false, true_or, or_true, false_or, or_false, true_and, and_true, false_and, and_false, not_true_eq_false, not_false_eq_true, iff_self, ite_self, ne_eq, true_implies, implies_true, Bool.false_eq_true, decide_true, decide_false, Bool.or_true, Bool.or_false, Bool.true_or, Bool.false_or]
  unfold guestC
  by_cases h0 : y = 0
  · simp only [h0, if_true, if_false, true_or, or_true, false_or, or_false, true_and, and_true, false_and, and_false, not_true_eq_false, not_false_eq_true, iff_self, ite_self, ne_eq, true_implies, implies_true, Bool.false_eq_true, decide_true, decide_false, Bool.or_true, Bool.or_false, Bool.true_or, Bool.false_or]
  · by_cases h1 : y = 1
    · simp only [h0, h1, one_ne, if_true, if_false, true_or, or_true, false_or, or_false, true_and, and_true, false_and, and_false, not_true_eq_false, not_false_eq_true, iff_self, ite_self, ne_eq, true_implies, implies_true, Bool.false_eq_true, decide_true, decide_false, Bool.or_true, Bool.or_false, Bool.true_or, Bool.false_or]
    · by_cases h2 : y = 2
      · simp only [h0, h1, h2, if_true, if_false, true_or, or_true, false_or, or_false, true_and, and_true, false_and, and_false, not_true_eq_false, not_false_eq_true, iff_self, ite_self, ne_eq, true_implies, implies_true, Bool.false_eq_true, decide_true, decide_false, Bool.or_true, Bool.or_false, Bool.true_or, Bool.false_or]; rfl
      · by_cases h3 : y = 3
        · simp only [h0, h1, h2, h3, if_true, if_false, true_or, or_true, false_or, or_false, true_and, and_true, false_and, and_false, not_true_eq_false, not_false_eq_true, iff_self, ite_self, ne_eq, true_implies, implies_true, Bool.false_eq_true, decide_true, decide_false, Bool.or_true, Bool.or_false, Bool.true_or, Bool.false_or]; rfl
        · by_cases h4 : y = 4
          · simp only [h0, h1, h2, h3, h4, if_true, if_false, true_or, or_true, false_or, or_false, true_and, and_true, false_and, and_false, not_true_eq_false, not_false_eq_true, iff_self, ite_self, ne_eq, true_implies, implies_true, Bool.false_eq_true, decide_true, decide_false, Bool.or_true, Bool.or_false, Bool.true_or, Bool.false_or]; rfl
          · by_cases h5 : y = 5
            · simp only [h0, h1, h2, h3, h4, h5, if_true, if_false, true_or, or_true, false_or, or_false, true_and, and_true, false_and, and_false, not_true_eq_false, not_false_eq_true, iff_self, ite_self, ne_eq, true_implies, implies_true, Bool.false_eq_true, decide_true, decide_false, Bool.or_true, Bool.or_false, Bool.true_or, Bool.false_or]; rfl
            · by_cases h6 : y = 6
              · simp only [h0, h1, h2, h3, h4, h5, h6, if_true, if_false, true_or, or_true, false_or, or_false, true_and, and_true, false_and, and_false, not_true_eq_false, not_false_eq_true, iff_self, ite_self, ne_eq, true_implies, implies_true, Bool.false_eq_true, decide_true, decide_false, Bool.or_true, Bool.or_false, Bool.true_or, Bool.false_or]; rfl
              · by_cases h7 : y = 7
                · by_cases h8 : hearA h a 22 (hI h 22 2) G i < hI h (a + 4) i
                  · simp only [h0, h1, h2, h3, h4, h5, h6, h7, h8, bi, if_true, if_false, true_or, or_true, false_or, or_false, true_and, and_true, false_and, and_false, not_true_eq_false, not_false_eq_true, iff_self, ite_self, ne_eq, true_implies, implies_true, Bool.false_eq_true, decide_true, decide_false, Bool.or_true, Bool.or_false, Bool.true_or, Bool.false_or]; rfl
                  · simp only [h0, h1, h2, h3, h4, h5, h6, h7, h8, bi, if_true, if_false, true_or, or_true, false_or, or_false, true_and, and_true, false_and, and_false, not_true_eq_false, not_false_eq_true, iff_self, ite_self, ne_eq, true_implies, implies_true, Bool.false_eq_true, decide_true, decide_false, Bool.or_true, Bool.or_false, Bool.true_or, Bool.false_or]; rfl
                · simp only [h0, h1, h2, h3, h4, h5, h6, h7, if_true, if_false, true_or, or_true, false_or, or_false, true_and, and_true, false_and, and_false, not_true_eq_false, not_false_eq_true, iff_self, ite_self, ne_eq, true_implies, implies_true, Bool.false_eq_true, decide_true, decide_false, Bool.or_true, Bool.or_false, Bool.true_or, Bool.false_or]
theorem c_guestNo (I : CI h a G) (hno : ¬ (¬ x < 0 ∧ x < hI h a 5)) : X 85 0 [.ref 3, .int x, .int y] [] h Q ↔ Q (some (.int (-1))) h := by
  have g := I.1.1
  simp only [x85_0, x85_1, x85_4, x85_5, x85_8, x85_11, x85_12, x85_13, x85_14, x85_60, x85_61, x85_64, x85_65, x85_68, x85_69, x85_70, x85_73, x85_74, x85_77, x85_78, x85_79, x85_82, x85_83, x85_86, x85_87, x85_88, x85_91, x85_92, x85_95, x85_96, x85_97, x85_100, x85_101, x85_104, x85_105, x85_106, x85_109, x85_110, x85_111, x85_114, x85_117, x85_120, x85_121, x85_122, x85_125, x85_126, x85_127, x85_130, x85_131, x85_134, x85_137, x85_140, x85_141, x85_142, x85_145, x85_146, x85_147, x85_150, x85_151, x85_154, x85_157, x85_160, x85_163, x85_164, x85_167, x85_168, x85_169, x85_170, pv_some, pv_none, c1_int, c1_ref, c1_null, true_and, and_true, ne_eq, not_false_eq_true, not_true_eq_false, if_true, if_false, reduceCtorEq, Option.some.injEq, Value.int.injEq, absI_fold, minI_fold, maxI_fold, b_s g, b_r0 g, b_r1 g, b_r2 g, b_r3 g, b_r4 g, b_r5 g, b_r6 g, b_r7 g, b_r10 g, cs4 g, cs7 g, cs11 g, cs12 g, cs18 g, cs20 g, cs22 g, cs24 g, cs38 g, m_nz, I.2.1, I.nz, inn_s g I.1.2.1, k_hasGuest I.1, bi_zero, hno, if_true, if_false, true_or, or_true, false_or, or_false, true_and, and_true, false_and, and_false, not_true_eq_false, not_false_eq_true, iff_self, ite_self, ne_eq, true_implies, implies_true, Bool.false_eq_true, decide_true, decide_false, Bool.or_true, Bool.or_false, Bool.true_or, Bool.false_or]
theorem c_bed (I : CI h a G) : X 86 0 [.ref 3, .int x] [] h Q ↔ if ¬ x < 0 ∧ x < hI h a 6 then Q (some (.int (inF (hI h 23) x G))) h else Q (some (.int (-1))) h := by
  have g := I.1.1
  by_cases h1 : ¬ x < 0 ∧ x < hI h a 6
  · rw [if_pos h1]
    simp only [x86_0, x86_1, x86_4, x86_5, x86_8, x86_11, x86_12, x86_15, x86_16, x86_17, x86_20, x86_23, x86_26, x86_29, x86_30, pv_some, pv_none, c1_int, c1_ref, c1_null, true_and, and_true, ne_eq, not_false_eq_true, not_true_eq_false, if_true, if_false, reduceCtorEq, Option.some.injEq, Value.int.injEq, absI_fold, minI_fold, maxI_fold, b_s g, b_r0 g, b_r1 g, b_r2 g, b_r3 g, b_r4 g, b_r5 g, b_r6 g, b_r7 g, b_r10 g, cs4 g, cs7 g, cs11 g, cs12 g, cs18 g, cs20 g, cs22 g, cs24 g, cs38 g, m_nz, I.2.1, I.nz, inn_s g I.1.2.1, k_hasBed g I.1.2.1, bi_zero, h1, k_guests g I.1.2.1, I.1.2.2.1, k_guestIn g l22 I.1.2.2.2, if_true, if_false, true_or, or_true, false_or, or_false, true_and, and_true, false_and, and_false, not_true_eq_false, not_false_eq_true, iff_self, ite_self, ne_eq, true_implies, implies_true, Bool.false_eq_true, decide_true, decide_false, Bool.or_true, Bool.or_false, Bool.true_or, Bool.false_or]
  · rw [if_neg h1]
    simp only [x86_0, x86_1, x86_4, x86_5, x86_8, x86_11, x86_12, x86_15, x86_16, x86_17, x86_20, x86_23, x86_26, x86_29, x86_30, pv_some, pv_none, c1_int, c1_ref, c1_null, true_and, and_true, ne_eq, not_false_eq_true, not_true_eq_false, if_true, if_false, reduceCtorEq, Option.some.injEq, Value.int.injEq, absI_fold, minI_fold, maxI_fold, b_s g, b_r0 g, b_r1 g, b_r2 g, b_r3 g, b_r4 g, b_r5 g, b_r6 g, b_r7 g, b_r10 g, cs4 g, cs7 g, cs11 g, cs12 g, cs18 g, cs20 g, cs22 g, cs24 g, cs38 g, m_nz, I.2.1, I.nz, inn_s g I.1.2.1, k_hasBed g I.1.2.1, bi_zero, h1, if_true, if_false, true_or, or_true, false_or, or_false, true_and, and_true, false_and, and_false, not_true_eq_false, not_false_eq_true, iff_self, ite_self, ne_eq, true_implies, implies_true, Bool.false_eq_true, decide_true, decide_false, Bool.or_true, Bool.or_false, Bool.true_or, Bool.false_or]
theorem c_wall (I : CI h a G) : X 87 0 [.ref 3, .int x] [] h Q ↔ if ¬ x < 0 ∧ x < hI h a 6 - 1 then Q (some (.int (bi (stufF (hI h 22 1) x = true)))) h else Q (some (.int (-1))) h := by
  have g := I.1.1
  by_cases h1 : ¬ x < 0 ∧ x < hI h a 6 - 1
  · rw [if_pos h1]
    by_cases h2 : stufF (hI h 22 1) x = true
    · simp only [x87_0, x87_1, x87_4, x87_5, x87_8, x87_11, x87_12, x87_13, x87_14, x87_17, x87_18, x87_21, x87_24, x87_25, x87_28, x87_29, pv_some, pv_none, c1_int, c1_ref, c1_null, true_and, and_true, ne_eq, not_false_eq_true, not_true_eq_false, if_true, if_false, reduceCtorEq, Option.some.injEq, Value.int.injEq, absI_fold, minI_fold, maxI_fold, b_s g, b_r0 g, b_r1 g, b_r2 g, b_r3 g, b_r4 g, b_r5 g, b_r6 g, b_r7 g, b_r10 g, cs4 g, cs7 g, cs11 g, cs12 g, cs18 g, cs20 g, cs22 g, cs24 g, cs38 g, m_nz, I.2.1, I.nz, inn_s g I.1.2.1, k_hasWall g I.1.2.1, bi_zero, h1, k_isStuffed g l22, h2, bi_T, one_ne, if_true, if_false, true_or, or_true, false_or, or_false, true_and, and_true, false_and, and_false, not_true_eq_false, not_false_eq_true, iff_self, ite_self, ne_eq, true_implies, implies_true, Bool.false_eq_true, decide_true, decide_false, Bool.or_true, Bool.or_false, Bool.true_or, Bool.false_or]
    · simp only [x87_0, x87_1, x87_4, x87_5, x87_8, x87_11, x87_12, x87_13, x87_14, x87_17, x87_18, x87_21, x87_24, x87_25, x87_28, x87_29, pv_some, pv_none, c1_int, c1_ref, c1_null, true_and, and_true, ne_eq, not_false_eq_true, not_true_eq_false, if_true, if_false, reduceCtorEq, Option.some.injEq, Value.int.injEq, absI_fold, minI_fold, maxI_fold, b_s g, b_r0 g, b_r1 g, b_r2 g, b_r3 g, b_r4 g, b_r5 g, b_r6 g, b_r7 g, b_r10 g, cs4 g, cs7 g, cs11 g, cs12 g, cs18 g, cs20 g, cs22 g, cs24 g, cs38 g, m_nz, I.2.1, I.nz, inn_s g I.1.2.1, k_hasWall g I.1.2.1, bi_zero, h1, k_isStuffed g l22, h2, bi_F, if_true, if_false, true_or, or_true, false_or, or_false, true_and, and_true, false_and, and_false, not_true_eq_false, not_false_eq_true, iff_self, ite_self, ne_eq, true_implies, implies_true, Bool.false_eq_true, decide_true, decide_false, Bool.or_true, Bool.or_false, Bool.true_or, Bool.false_or]
  · rw [if_neg h1]
    simp only [x87_0, x87_1, x87_4, x87_5, x87_8, x87_11, x87_12, x87_13, x87_14, x87_17, x87_18, x87_21, x87_24, x87_25, x87_28, x87_29, pv_some, pv_none, c1_int, c1_ref, c1_null, true_and, and_true, ne_eq, not_false_eq_true, not_true_eq_false, if_true, if_false, reduceCtorEq, Option.some.injEq, Value.int.injEq, absI_fold, minI_fold, maxI_fold, b_s g, b_r0 g, b_r1 g, b_r2 g, b_r3 g, b_r4 g, b_r5 g, b_r6 g, b_r7 g, b_r10 g, cs4 g, cs7 g, cs11 g, cs12 g, cs18 g, cs20 g, cs22 g, cs24 g, cs38 g, m_nz, I.2.1, I.nz, inn_s g I.1.2.1, k_hasWall g I.1.2.1, bi_zero, h1, if_true, if_false, true_or, or_true, false_or, or_false, true_and, and_true, false_and, and_false, not_true_eq_false, not_false_eq_true, iff_self, ite_self, ne_eq, true_implies, implies_true, Bool.false_eq_true, decide_true, decide_false, Bool.or_true, Bool.or_false, Bool.true_or, Bool.false_or]
abbrev rousA (h : aH) (a q G i : Nat) (b : Int32) : Int32 := bitsF (rousC (hI h (a + 4)) (hI h (q + 1)) (hI h a 8) (hI h (q + 1) i) b) G
def movH (h : aH) (q i : Nat) (b x : Int32) : aH := setL h q (fun j => if j = i then b else if j = 7 then lv h q 7 + absI (b - hI h (q + 1) i) else if j = 8 then lv h q 8 + 1 else if j = 9 then lv h q 9 + x else lv h q j)
theorem c_carryIn (I : CI h a G) {q : Nat} (hq : isLie q) (hi : i < G) : X 113 0 [.ref 3, .ref q, .int (nI i), .int b, .null] [] h Q ↔ Q (some (.int (rousA h a q G i b))) (movH h q i b (popC (rousA h a q G i b))) := by
  have g := I.1.1
  have h5 := I.1.2.2.2
  simp only [x113_0, x113_1, x113_4, x113_5, x113_6, x113_7, x113_10, x113_12, x113_13, x113_14, x113_15, x113_17, x113_20, x113_23, x113_25, pv_some, pv_none, c1_int, c1_ref, c1_null, true_and, and_true, ne_eq, not_false_eq_true, not_true_eq_false, if_true, if_false, reduceCtorEq, Option.some.injEq, Value.int.injEq, absI_fold, minI_fold, maxI_fold, b_s g, b_r0 g, b_r1 g, b_r2 g, b_r3 g, b_r4 g, b_r5 g, b_r6 g, b_r7 g, b_r10 g, cs4 g, cs7 g, cs11 g, cs12 g, cs18 g, cs20 g, cs22 g, cs24 g, cs38 g, m_nz, I.2.1, I.nz, inn_s g I.1.2.1, k_roused I.1 hq hi, k_bitCount, lie_s g hq, k_move g hq (show i < 5 by omega), if_true, if_false, true_or, or_true, false_or, or_false, true_and, and_true, false_and, and_false, not_true_eq_false, not_false_eq_true, iff_self, ite_self, ne_eq, true_implies, implies_true, Bool.false_eq_true, decide_true, decide_false, Bool.or_true, Bool.or_false, Bool.true_or, Bool.false_or]
  rfl
end CLS
