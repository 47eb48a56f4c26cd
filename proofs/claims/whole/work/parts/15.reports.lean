/-! REPORTS; an inn supposed -/
section REP
variable {h : aH} {a q G z i k : Nat} {Q : Option Value → aH → Prop} {x y hr b d : Int32} {w : Nat → Nat}
theorem rep_s (g : GS h) : hS h 7 = (1, 2) := g.1 _ (by decide) (by decide)
theorem rep_r0 (g : GS h) : hR h 7 0 = 8 := g.2.1 _ _ (by decide) (by decide)
theorem rep_r1 (g : GS h) : hR h 7 1 = 9 := g.2.1 _ _ (by decide) (by decide)
theorem rep_r2 (g : GS h) : hR h 7 2 = 10 := g.2.1 _ _ (by decide) (by decide)
theorem rep_s8 (g : GS h) : hS h 8 = (2, 8) := g.1 _ (by decide) (by decide)
theorem rep_s9 (g : GS h) : hS h 9 = (2, 8) := g.1 _ (by decide) (by decide)
theorem rep_s10 (g : GS h) : hS h 10 = (3, 8) := g.1 _ (by decide) (by decide)
theorem nz (n : Nat) : (n + 1 = 0) = False := by simp
theorem n8 : ((8 : Nat) = 0) = False := by decide
theorem n9 : ((9 : Nat) = 0) = False := by decide
theorem n10 : ((10 : Nat) = 0) = False := by decide
theorem k_repSize (g : GS h) : X 47 0 [.ref 7] [] h Q ↔ Q (some (.int (hI h 7 3))) h := by
  simp only [x47_0, x47_1, x47_4, pv_some, pv_none, c1_int, c1_ref, c1_null, true_and, and_true, ne_eq, not_false_eq_true, not_true_eq_false, if_true, if_false, reduceCtorEq, Option.some.injEq, Value.int.injEq, absI_fold, minI_fold, maxI_fold, rep_s g]
theorem k_repClear (g : GS h) : X 48 0 [.ref 7] [] h Q ↔ Q none (sI h 7 3 0) := by
  simp only [x48_0, x48_1, x48_2, x48_5, pv_some, pv_none, c1_int, c1_ref, c1_null, true_and, and_true, ne_eq, not_false_eq_true, not_true_eq_false, if_true, if_false, reduceCtorEq, Option.some.injEq, Value.int.injEq, absI_fold, minI_fold, maxI_fold, rep_s g]
theorem k_repAdd (g : GS h) (hz : hI h 7 3 = nI z) (hz8 : z ≤ 8) (hw : d = 0 ∨ d = 1) : X 49 0 [.ref 7, .int x, .int y, .int d] [] h Q ↔ if z < 8 then Q (some (.int 1)) (sI (sI (sI (sI h 8 z x) 9 z y) 10 z d) 7 3 (nI (z + 1))) else Q (some (.int 0)) h := by
  by_cases hlt : z < 8
  · have i1 : ibw (nI z) (2, 8) = True := eq_true (ibw_nI hlt (by decide))
    have i2 : ibz (nI z) (3, 8) = True := eq_true ⟨rfl, nI_in hlt (by decide)⟩
    simp only [x49_0, x49_1, x49_4, x49_6, x49_9, x49_10, x49_11, x49_12, x49_15, x49_16, x49_19, x49_20, x49_21, x49_22, x49_25, x49_26, x49_29, x49_30, x49_31, x49_32, x49_35, x49_36, x49_39, x49_40, x49_41, x49_42, x49_43, x49_46, x49_47, x49_48, x49_51, x49_52, pv_some, pv_none, c1_int, c1_ref, c1_null, true_and, and_true, ne_eq, not_false_eq_true, not_true_eq_false, if_true, if_false, reduceCtorEq, Option.some.injEq, Value.int.injEq, absI_fold, minI_fold, maxI_fold, rep_s g, rep_r0 g, rep_r1 g, rep_r2 g, rep_s8 g, rep_s9 g, rep_s10 g, hz, show (nI z < 8) = True from eq_true (nI_lt hlt (by decide)), hS_sI, hR_sI, hI_sI, n8, n9, n10, i1, i2, hw, nI_cl (show z < 2 ^ 31 by omega), hlt, if_true, if_false, true_or, or_true, false_or, or_false, true_and, and_true, false_and, and_false, not_true_eq_false, not_false_eq_true, iff_self, ite_self, ne_eq, true_implies, implies_true, Bool.false_eq_true, decide_true, decide_false, Bool.or_true, Bool.or_false, Bool.true_or, Bool.false_or, show ((7 : Nat) = 8) = False by decide, show ((7 : Nat) = 9) = False by decide, show ((7 : Nat) = 10) = False by decide, nI_add1]
  · simp only [x49_0, x49_1, x49_4, x49_6, x49_9, x49_10, x49_11, x49_12, x49_15, x49_16, x49_19, x49_20, x49_21, x49_22, x49_25, x49_26, x49_29, x49_30, x49_31, x49_32, x49_35, x49_36, x49_39, x49_40, x49_41, x49_42, x49_43, x49_46, x49_47, x49_48, x49_51, x49_52, pv_some, pv_none, c1_int, c1_ref, c1_null, true_and, and_true, ne_eq, not_false_eq_true, not_true_eq_false, if_true, if_false, reduceCtorEq, Option.some.injEq, Value.int.injEq, absI_fold, minI_fold, maxI_fold, rep_s g, hz, show (nI z < 8) = False from eq_false (show ¬ nI z < nI 8 from nI_nlt (by omega) (by omega)), hlt, if_true, if_false, true_or, or_true, false_or, or_false, true_and, and_true, false_and, and_false, not_true_eq_false, not_false_eq_true, iff_self, ite_self, ne_eq, true_implies, implies_true, Bool.false_eq_true, decide_true, decide_false, Bool.or_true, Bool.or_false, Bool.true_or, Bool.false_or]
/-- whether all that was heard is so of an inn at a, lying as q -/
def holdsF (hear Lt : Int32 → Nat → Int32) (w : Nat → Nat) (hrs wk : Nat → Int32) (z : Nat) : Bool := !decide (fstN (fun k => !decide (bi (¬ hear (hrs k) (w k) < Lt (hrs k) (w k)) = wk k)) z < z)
theorem k_allHold (I : InnAt h a G) (hq : isLie q) (hz : hI h 7 3 = nI z) (hz8 : z ≤ 8) (hw : ∀ k, k < z → hI h 8 k = nI (w k) ∧ w k < G) : X 50 0 [.ref 7, .ref a, .ref q, .null] [] h Q ↔ Q (some (.int (bi (holdsF (fun hr i => hearA h a q hr G i) (fun _ i => hI h (a + 4) i) w (hI h 9) (hI h 10) z = true)))) h := by
  refine X_iff ?_ Q
  have g := I.1
  have h5 := I.2.2.2
  simp only [x50_0, x50_1, x50_3, x50_4, x50_7, x50_10, x50_11, x50_13, x50_16, x50_17, x50_18, x50_21, x50_22, x50_23, x50_24, x50_25, x50_28, x50_29, x50_30, x50_33, x50_34, x50_37, x50_38, x50_39, x50_42, x50_43, x50_44, x50_47, x50_50, x50_51, pv_some, pv_none, c1_int, c1_ref, c1_null, true_and, and_true, ne_eq, not_false_eq_true, not_true_eq_false, if_true, if_false, reduceCtorEq, Option.some.injEq, Value.int.injEq, absI_fold, minI_fold, maxI_fold]
  have hle := fstN_le (fun k => !decide (bi (¬ hearA h a q (hI h 9 k) G (w k) < hI h (a + 4) (w k)) = hI h 10 k)) z
  refine loop_up (P := fun k => X 50 2 [.ref 7, .ref a, .ref q, .int (nI k)] [] h _) (n := fstN (fun k => !decide (bi (¬ hearA h a q (hI h 9 k) G (w k) < hI h (a + 4) (w k)) = hI h 10 k)) z) (fun k hk hp => ?_) ?_
  · have hno := fstN_no _ _ _ hk
    have hkz : k < z := by omega
    have hn : bi (¬ hearA h a q (hI h 9 k) G (w k) < hI h (a + 4) (w k)) = hI h 10 k := by simpa using hno
    rw [x50_2]
    simp only [x50_0, x50_1, x50_3, x50_4, x50_7, x50_10, x50_11, x50_13, x50_16, x50_17, x50_18, x50_21, x50_22, x50_23, x50_24, x50_25, x50_28, x50_29, x50_30, x50_33, x50_34, x50_37, x50_38, x50_39, x50_42, x50_43, x50_44, x50_47, x50_50, x50_51, pv_some, pv_none, c1_int, c1_ref, c1_null, true_and, and_true, ne_eq, not_false_eq_true, not_true_eq_false, if_true, if_false, reduceCtorEq, Option.some.injEq, Value.int.injEq, absI_fold, minI_fold, maxI_fold, rep_s g, rep_r0 g, rep_r1 g, rep_r2 g, rep_s8 g, rep_s9 g, rep_s10 g, hz, nI_lt_iff (show k < 2 ^ 31 by omega) (show z < 2 ^ 31 by omega), hkz, show (nI k < 8) = True from eq_true (nI_lt (show k < 8 by omega) (by decide)), n8, n9, n10, I.s, show ib (nI k) (2, 8) = True from eq_true (ib_nI (show k < 8 by omega) (by decide)), show ibz (nI k) (3, 8) = True from eq_true ⟨rfl, nI_in (show k < 8 by omega) (by decide)⟩, nI_cl (show k < 2 ^ 31 by omega), (hw k hkz).1, k_isWoken I hq (hw k hkz).2, hn, nI_add1, if_true, if_false, true_or, or_true, false_or, or_false, true_and, and_true, false_and, and_false, not_true_eq_false, not_false_eq_true, iff_self, ite_self, ne_eq, true_implies, implies_true, Bool.false_eq_true, decide_true, decide_false, Bool.or_true, Bool.or_false, Bool.true_or, Bool.false_or]
    exact hp
  · rw [x50_2]
    unfold holdsF
    generalize hf : fstN (fun k => !decide (bi (¬ hearA h a q (hI h 9 k) G (w k) < hI h (a + 4) (w k)) = hI h 10 k)) z = n0 at hle
    by_cases hl : n0 < z
    · have hy := fstN_yes (fun k => !decide (bi (¬ hearA h a q (hI h 9 k) G (w k) < hI h (a + 4) (w k)) = hI h 10 k)) z (by rw [hf]; exact hl)
      rw [hf] at hy
      have hn : ¬ bi (¬ hearA h a q (hI h 9 n0) G (w n0) < hI h (a + 4) (w n0)) = hI h 10 n0 := by simpa using hy
      simp only [x50_0, x50_1, x50_3, x50_4, x50_7, x50_10, x50_11, x50_13, x50_16, x50_17, x50_18, x50_21, x50_22, x50_23, x50_24, x50_25, x50_28, x50_29, x50_30, x50_33, x50_34, x50_37, x50_38, x50_39, x50_42, x50_43, x50_44, x50_47, x50_50, x50_51, pv_some, pv_none, c1_int, c1_ref, c1_null, true_and, and_true, ne_eq, not_false_eq_true, not_true_eq_false, if_true, if_false, reduceCtorEq, Option.some.injEq, Value.int.injEq, absI_fold, minI_fold, maxI_fold, rep_s g, rep_r0 g, rep_r1 g, rep_r2 g, rep_s8 g, rep_s9 g, rep_s10 g, hz, nI_lt_iff (show n0 < 2 ^ 31 by omega) (show z < 2 ^ 31 by omega), hl, show (nI n0 < 8) = True from eq_true (nI_lt (show n0 < 8 by omega) (by decide)), n8, n9, n10, I.s, show ib (nI n0) (2, 8) = True from eq_true (ib_nI (show n0 < 8 by omega) (by decide)), show ibz (nI n0) (3, 8) = True from eq_true ⟨rfl, nI_in (show n0 < 8 by omega) (by decide)⟩, nI_cl (show n0 < 2 ^ 31 by omega), (hw n0 hl).1, k_isWoken I hq (hw n0 hl).2, hn, if_true, if_false, true_or, bi_ff, bi_F, Bool.not_true, hf, decide_true, hl]
    · simp only [x50_0, x50_1, x50_3, x50_4, x50_7, x50_10, x50_11, x50_13, x50_16, x50_17, x50_18, x50_21, x50_22, x50_23, x50_24, x50_25, x50_28, x50_29, x50_30, x50_33, x50_34, x50_37, x50_38, x50_39, x50_42, x50_43, x50_44, x50_47, x50_50, x50_51, pv_some, pv_none, c1_int, c1_ref, c1_null, true_and, and_true, ne_eq, not_false_eq_true, not_true_eq_false, if_true, if_false, reduceCtorEq, Option.some.injEq, Value.int.injEq, absI_fold, minI_fold, maxI_fold, rep_s g, hz, nI_lt_iff (show n0 < 2 ^ 31 by omega) (show z < 2 ^ 31 by omega), hl, if_false, or_true, bi_tt, bi_T, Bool.not_false, hf, one_ne, decide_false]
/-- the inn at 38 is made the one at a -/
def copyH (h : aH) (a : Nat) : aH := wI h (fun b j => if 39 ≤ b ∧ b ≤ 43 ∧ j < 5 then hI h (a + (b - 38)) j else if b = 38 ∧ 5 ≤ j ∧ j ≤ 10 then hI h a j else hI h b j)
def arrsH (h : aH) (a : Nat) : aH := cpI (cpI (cpI (cpI (cpI h (a + 1) 0 39 0 5) (a + 2) 0 40 0 5) (a + 3) 0 41 0 5) (a + 4) 0 42 0 5) (a + 5) 0 43 0 5
theorem hS_arrsH (h : aH) (a : Nat) : hS (arrsH h a) = hS h := rfl
theorem hR_arrsH (h : aH) (a : Nat) : hR (arrsH h a) = hR h := rfl
theorem hN_arrsH (h : aH) (a : Nat) : hN (arrsH h a) = hN h := rfl
theorem hZ_arrsH (h : aH) (a : Nat) : hZ (arrsH h a) = hZ h := rfl
theorem hI_arrsH (h : aH) (ha : a = 26 ∨ a = 32) (b j : Nat) : hI (arrsH h a) b j = if 39 ≤ b ∧ b ≤ 43 ∧ j < 5 then hI h (a + (b - 38)) j else hI h b j := by
  unfold arrsH
  simp only [hI_cpI, Nat.zero_le, Nat.zero_add, Nat.sub_zero, true_and]
  have e : ∀ x, a + 1 ≤ x → x ≤ a + 5 → x ≠ 39 ∧ x ≠ 40 ∧ x ≠ 41 ∧ x ≠ 42 ∧ x ≠ 43 := by intro x; omega
  by_cases b39 : b = 39
  · subst b39; simp
  by_cases b40 : b = 40
  · subst b40; simp; rcases ha with rfl | rfl <;> simp
  by_cases b41 : b = 41
  · subst b41; simp; rcases ha with rfl | rfl <;> simp
  by_cases b42 : b = 42
  · subst b42; simp; rcases ha with rfl | rfl <;> simp
  by_cases b43 : b = 43
  · subst b43; simp; rcases ha with rfl | rfl <;> simp
  have : ¬ (39 ≤ b ∧ b ≤ 43 ∧ j < 5) := by omega
  simp only [b39, b40, b41, b42, b43, this, if_true, if_false, true_or, or_true, false_or, or_false, true_and, and_true, false_and, and_false, not_true_eq_false, not_false_eq_true, iff_self, ite_self, ne_eq, true_implies, implies_true, Bool.false_eq_true, decide_true, decide_false, Bool.or_true, Bool.or_false, Bool.true_or, Bool.false_or]
theorem k_innCopyA (g : GS h) (ha : isInn a) : X 2 0 [.ref 38, .ref a] [] h Q ↔ X 2 70 [.ref 38, .ref a] [] (arrsH h a) Q := by
  have h1 : isInn 38 := by simp [isInn]
  simp only [x2_0, x2_1, x2_4, x2_5, x2_6, x2_9, x2_10, x2_11, x2_14, x2_15, x2_18, x2_19, x2_20, x2_23, x2_24, x2_25, x2_28, x2_29, x2_32, x2_33, x2_34, x2_37, x2_38, x2_39, x2_42, x2_43, x2_46, x2_47, x2_48, x2_51, x2_52, x2_53, x2_56, x2_57, x2_60, x2_61, x2_62, x2_65, x2_66, x2_67, x2_71, x2_72, x2_75, x2_78, x2_79, x2_80, x2_83, x2_86, x2_87, x2_88, x2_91, x2_94, x2_95, x2_96, x2_99, x2_102, x2_103, x2_104, x2_107, x2_110, x2_111, x2_112, x2_115, x2_118, pv_some, pv_none, c1_int, c1_ref, c1_null, true_and, and_true, ne_eq, not_false_eq_true, not_true_eq_false, if_true, if_false, reduceCtorEq, Option.some.injEq, Value.int.injEq, absI_fold, minI_fold, maxI_fold, inn_s g h1, inn_s g ha, inn_r0 g h1, inn_r0 g ha, inn_r1 g h1, inn_r1 g ha, inn_r2 g h1, inn_r2 g ha, inn_r3 g h1, inn_r3 g ha, inn_r4 g h1, inn_r4 g ha, inn_s1 g h1, inn_s1 g ha, inn_s2 g h1, inn_s2 g ha, inn_s3 g h1, inn_s3 g ha, inn_s4 g h1, inn_s4 g ha, inn_s5 g h1, inn_s5 g ha, hS_cpI, hR_cpI, cp55, Nat.add_eq_zero_iff, and_false, zero_t, five_t]
  rfl
theorem k_innCopyB (g : GS h) (ha : a = 26 ∨ a = 32) (hb : hI h a 10 = 0 ∨ hI h a 10 = 1) : X 2 70 [.ref 38, .ref a] [] h Q ↔ Q none (sI (sI (sI (sI (sI (sI h 38 5 (hI h a 5)) 38 6 (hI h a 6)) 38 7 (hI h a 7)) 38 8 (hI h a 8)) 38 9 (hI h a 9)) 38 10 (hI h a 10)) := by
  have h1 : isInn 38 := by simp [isInn]
  have h2 : isInn a := by rcases ha with rfl | rfl <;> simp [isInn]
  have h3 : (a = 38) = False := eq_false (by omega)
  simp only [x2_0, x2_1, x2_4, x2_5, x2_6, x2_9, x2_10, x2_11, x2_14, x2_15, x2_18, x2_19, x2_20, x2_23, x2_24, x2_25, x2_28, x2_29, x2_32, x2_33, x2_34, x2_37, x2_38, x2_39, x2_42, x2_43, x2_46, x2_47, x2_48, x2_51, x2_52, x2_53, x2_56, x2_57, x2_60, x2_61, x2_62, x2_65, x2_66, x2_67, x2_70, x2_71, x2_72, x2_75, x2_78, x2_79, x2_80, x2_83, x2_86, x2_87, x2_88, x2_91, x2_94, x2_95, x2_96, x2_99, x2_102, x2_103, x2_104, x2_107, x2_110, x2_111, x2_112, x2_115, x2_118, pv_some, pv_none, c1_int, c1_ref, c1_null, true_and, and_true, ne_eq, not_false_eq_true, not_true_eq_false, if_true, if_false, reduceCtorEq, Option.some.injEq, Value.int.injEq, absI_fold, minI_fold, maxI_fold, inn_s g h1, inn_s g h2, hS_sI, hI_sI, h3, if_true, if_false, true_or, or_true, false_or, or_false, true_and, and_true, false_and, and_false, not_true_eq_false, not_false_eq_true, iff_self, ite_self, ne_eq, true_implies, implies_true, Bool.false_eq_true, decide_true, decide_false, Bool.or_true, Bool.or_false, Bool.true_or, Bool.false_or, hb]
theorem k_innCopy (g : GS h) (ha : a = 26 ∨ a = 32) (hb : hI h a 10 = 0 ∨ hI h a 10 = 1) : X 2 0 [.ref 38, .ref a] [] h Q ↔ Q none (copyH h a) := by
  have h2 : isInn a := by rcases ha with rfl | rfl <;> simp [isInn]
  have e : ∀ k, hI (arrsH h a) a k = hI h a k := by intro k; rw [hI_arrsH h ha, if_neg (by omega)]
  rw [k_innCopyA g h2, k_innCopyB (show GS (arrsH h a) from g) ha (by rw [e]; exact hb)]
  simp only [e]
  refine iff_Q (aH_ext (by simp only [hN_sI, hN_arrsH, hN_wI, copyH]) (by simp only [hZ_sI, hZ_arrsH, hZ_wI, copyH]) (by simp only [hS_sI, hS_arrsH, hS_wI, copyH]) (by simp only [hR_sI, hR_arrsH, hR_wI, copyH]) (fun b j => ?_))
  simp only [hI_sI, hI_arrsH h ha, copyH, hI_wI]
  by_cases b38 : b = 38
  · subst b38
    by_cases j5 : j = 5
    · subst j5; simp
    by_cases j6 : j = 6
    · subst j6; simp
    by_cases j7 : j = 7
    · subst j7; simp
    by_cases j8 : j = 8
    · subst j8; simp
    by_cases j9 : j = 9
    · subst j9; simp
    by_cases j10 : j = 10
    · subst j10; simp
    have : ¬ (5 ≤ j ∧ j ≤ 10) := by omega
    simp [j5, j6, j7, j8, j9, j10, this]
  · simp [b38]
def feignK (K : Nat → Int32) (i : Nat) : Nat → Int32 := fun j => if j = i then 3 else if K j = 3 then 0 else K j
theorem k_suppose (I : InnAt h 38 G) (hi : i < G) : X 9 0 [.ref 38, .int (nI i), .null] [] h Q ↔ Q none (wI h (fun b j => if b = 39 ∧ j < G then feignK (hI h 39) i j else hI h b j)) := by
  refine X_iff ?_ Q
  obtain ⟨g, ha, hG, h5⟩ := id I
  simp only [x9_0, x9_1, x9_3, x9_4, x9_7, x9_10, x9_11, x9_12, x9_15, x9_16, x9_17, x9_20, x9_21, x9_24, x9_25, x9_26, x9_27, x9_30, x9_31, x9_34, x9_35, x9_36, x9_37, x9_40, x9_41, x9_44, x9_45, x9_46, x9_47, x9_50, x9_53, pv_some, pv_none, c1_int, c1_ref, c1_null, true_and, and_true, ne_eq, not_false_eq_true, not_true_eq_false, if_true, if_false, reduceCtorEq, Option.some.injEq, Value.int.injEq, absI_fold, minI_fold, maxI_fold]
  refine X_heap (h1 := wI h (fun b j => if b = 39 ∧ j < 0 then feignK (hI h 39) i j else hI h b j)) (aH_ext rfl rfl rfl rfl (fun b j => by simp [hI_wI])) ?_
  refine loop_up (P := fun k => X 9 2 [.ref 38, .int (nI i), .int (nI k)] [] (wI h (fun b j => if b = 39 ∧ j < k then feignK (hI h 39) i j else hI h b j)) _) (n := G) (fun k hk hp => ?_) ?_
  · have hk5 : k < 5 := by omega
    rw [x9_2]
    have e38 : (if 38 = 39 ∧ 5 < k then feignK (hI h 39) i 5 else hI h 38 5) = nI G := by rw [if_neg (by omega)]; exact hG
    have e39 : (if 39 = 39 ∧ k < k then feignK (hI h 39) i k else hI h 39 k) = hI h 39 k := by rw [if_neg (by omega)]
    simp only [x9_0, x9_1, x9_3, x9_4, x9_7, x9_10, x9_11, x9_12, x9_15, x9_16, x9_17, x9_20, x9_21, x9_24, x9_25, x9_26, x9_27, x9_30, x9_31, x9_34, x9_35, x9_36, x9_37, x9_40, x9_41, x9_44, x9_45, x9_46, x9_47, x9_50, x9_53, pv_some, pv_none, c1_int, c1_ref, c1_null, true_and, and_true, ne_eq, not_false_eq_true, not_true_eq_false, if_true, if_false, reduceCtorEq, Option.some.injEq, Value.int.injEq, absI_fold, minI_fold, maxI_fold, hS_wI, hR_wI, inn_s g ha, inn_r0 g ha, hI_wI, e38, nI_lt_iff (show k < 2 ^ 31 by omega) (show G < 2 ^ 31 by omega), hk, lt5 hk5, nI_eq_iff (show k < 2 ^ 31 by omega) (show i < 2 ^ 31 by omega), Nat.reduceAdd, show hS h 39 = (2, 5) from inn_s1 g ha, show ib (nI k) (2, 5) = True from ib5 hk5, show ibw (nI k) (2, 5) = True from eq_true (ibw_nI hk5 (by decide)), cl5 hk5, e39, nI_add1, show ((39 : Nat) = 0) = False by decide, if_true, if_false, true_or, or_true, false_or, or_false, true_and, and_true, false_and, and_false, not_true_eq_false, not_false_eq_true, iff_self, ite_self, ne_eq, true_implies, implies_true, Bool.false_eq_true, decide_true, decide_false, Bool.or_true, Bool.or_false, Bool.true_or, Bool.false_or]
    have step : ∀ v : Int32, v = feignK (hI h 39) i k → sI (wI h (fun b j => if b = 39 ∧ j < k then feignK (hI h 39) i j else hI h b j)) 39 k v = wI h (fun b j => if b = 39 ∧ j < k + 1 then feignK (hI h 39) i j else hI h b j) := by
      intro v hv
      refine aH_ext rfl rfl rfl rfl (fun b j => ?_)
      simp only [hI_sI, hI_wI, hv]
      grind
    by_cases h1 : k = i
    · rw [if_pos h1, step 3 (by simp [feignK, h1])]
      exact hp
    · by_cases h3 : hI h 39 k = 3
      · rw [if_neg h1, if_pos (by simpa using h3), step 0 (by simp [feignK, h1, h3])]
        exact hp
      · rw [if_neg h1, if_neg (by simpa using h3)]
        refine X_heap ?_ hp
        refine aH_ext rfl rfl rfl rfl (fun b j => ?_)
        have : feignK (hI h 39) i k = hI h 39 k := by simp [feignK, h1, h3]
        simp only [hI_wI]
        grind
  · rw [x9_2]
    have e38 : (if 38 = 39 ∧ 5 < G then feignK (hI h 39) i 5 else hI h 38 5) = nI G := by rw [if_neg (by omega)]; exact hG
    simp only [x9_0, x9_1, x9_3, x9_4, x9_7, x9_10, x9_11, x9_12, x9_15, x9_16, x9_17, x9_20, x9_21, x9_24, x9_25, x9_26, x9_27, x9_30, x9_31, x9_34, x9_35, x9_36, x9_37, x9_40, x9_41, x9_44, x9_45, x9_46, x9_47, x9_50, x9_53, pv_some, pv_none, c1_int, c1_ref, c1_null, true_and, and_true, ne_eq, not_false_eq_true, not_true_eq_false, if_true, if_false, reduceCtorEq, Option.some.injEq, Value.int.injEq, absI_fold, minI_fold, maxI_fold, hS_wI, inn_s g ha, hI_wI, e38, nI_lt_iff (show G < 2 ^ 31 by omega) (show G < 2 ^ 31 by omega), Nat.lt_irrefl]
end REP
