/-! THE REFERENCE: who wakes, who lies where, acts -/
section MOD7
variable {h : aH} {D : Nat → Int32} {i j k z : Nat} {Q : Option Value → aH → Prop} {x y b : Int32}
abbrev wakeM (h : aH) (D : Nat → Int32) : Int32 := wakeF (hI h 53) (DA D 11) (DA D 16) (DA D 21) (hI h 52) (D 3) (hI h 44 14) (hI h 44 15) (gN D)
theorem bit31 : ∀ j, j < 5 → bitB 31 j = true := by decide
theorem foldN_congr {α : Type} {f f' : Nat → α → α} {z : α} {G : Nat} (hf : ∀ k, k < G → ∀ s, f k s = f' k s) : foldN f z G = foldN f' z G := by
  induction G with
  | zero => rfl
  | succ G ih => rw [foldN, foldN, ih (fun k hk => hf k (by omega)), hf G (by omega)]
theorem hearS_31 {K S T P : Nat → Int32} {rn w hr : Int32} {G i : Nat} (hG : G ≤ 5) : hearS K S T P rn w hr 31 G i = hearF K S T P rn w hr G i := by
  unfold hearS hearF
  refine foldN_congr (fun k hk s => ?_)
  rw [bit31 k (by omega)]
  simp only [and_true]
theorem m_wakes (A : MA h D) (h31 : hI h 44 16 = 31) : X 143 0 [.ref 44, .null, .null] [] h Q ↔ Q (some (.int (wakeM h D))) h := by
  have g := A.1
  refine X_iff ?_ Q
  simp only [x143_0, x143_1, x143_2, x143_3, x143_5, x143_6, x143_9, x143_10, x143_11, x143_14, x143_15, x143_16, x143_17, x143_20, x143_21, x143_24, x143_26, x143_27, x143_28, x143_29, x143_32, x143_33, x143_34, x143_35, x143_38, x143_39, x143_40, x143_41, x143_44, x143_47, x143_48, pv_some, pv_none, c1_int, c1_ref, c1_null, true_and, and_true, ne_eq, not_false_eq_true, not_true_eq_false, if_true, if_false, reduceCtorEq, Option.some.injEq, Value.int.injEq, absI_fold, minI_fold, maxI_fold]
  refine loop_up (P := fun k => X 143 4 [.ref 44, .int (bitsF (wakeC (hI h 53) (DA D 11) (DA D 16) (DA D 21) (hI h 52) (D 3) (hI h 44 14) (hI h 44 15) (gN D)) k), .int (nI k)] [] h _) (n := gN D) (fun k hk hp => ?_) ?_
  · have hk5 : k < 5 := Nat.lt_of_lt_of_le hk A.g5
    have he : hearM h D (gN D) k = hearF (hI h 53) (DA D 11) (DA D 16) (hI h 52) (D 3) (hI h 44 14) (hI h 44 15) (gN D) k := by
      unfold hearM
      rw [h31]
      exact hearS_31 A.g5
    rw [x143_4]
    simp only [x143_0, x143_1, x143_2, x143_3, x143_5, x143_6, x143_9, x143_10, x143_11, x143_14, x143_15, x143_16, x143_17, x143_20, x143_21, x143_24, x143_26, x143_27, x143_28, x143_29, x143_32, x143_33, x143_34, x143_35, x143_38, x143_39, x143_40, x143_41, x143_44, x143_47, x143_48, pv_some, pv_none, c1_int, c1_ref, c1_null, true_and, and_true, ne_eq, not_false_eq_true, not_true_eq_false, if_true, if_false, reduceCtorEq, Option.some.injEq, Value.int.injEq, absI_fold, minI_fold, maxI_fold, m_s g, m_r0 g, m_r2 g, m_r3 g, m_r4 g, m_r5 g, m_r7 g, m_r9 g, m_r12 g, m_r13 g, m_r17 g, m_r18 g, m_s45 g, m_s46 g, m_s47 g, m_s48 g, m_s49 g, m_s50 g, m_s51 g, m_s52 g, m_s53 g, m_s54 g, m_s55 g, m_nz, hS_sI, hR_sI, hS_wI, hR_wI, show ib 0 (2, 31) = True from i31 (k := 0) (by decide), c0, mlt_G A hk, m_hearsOf A hk, he, p21, i31a (show 21 ≤ 26 by decide) hk5, ncla (show 21 ≤ 26 by decide) hk5, A.light hk, nI_add1, if_true, if_false, true_or, or_true, false_or, or_false, true_and, and_true, false_and, and_false, not_true_eq_false, not_false_eq_true, iff_self, ite_self, ne_eq, true_implies, implies_true, Bool.false_eq_true, decide_true, decide_false, Bool.or_true, Bool.or_false, Bool.true_or, Bool.false_or]
    unfold bitsF at hp ⊢
    rw [foldN] at hp
    unfold wakeC at hp ⊢
    by_cases h1 : hearF (hI h 53) (DA D 11) (DA D 16) (hI h 52) (D 3) (hI h 44 14) (hI h 44 15) (gN D) k < D (21 + k)
    · simp only [h1, if_true, if_false, true_or, or_true, false_or, or_false, true_and, and_true, false_and, and_false, not_true_eq_false, not_false_eq_true, iff_self, ite_self, ne_eq, true_implies, implies_true, Bool.false_eq_true, decide_true, decide_false, Bool.or_true, Bool.or_false, Bool.true_or, Bool.false_or, Bool.not_true, Int32.or_zero] at hp ⊢
      exact hp
    · simp only [h1, if_true, if_false, true_or, or_true, false_or, or_false, true_and, and_true, false_and, and_false, not_true_eq_false, not_false_eq_true, iff_self, ite_self, ne_eq, true_implies, implies_true, Bool.false_eq_true, decide_true, decide_false, Bool.or_true, Bool.or_false, Bool.true_or, Bool.false_or, Bool.not_false, Int32.or_zero] at hp ⊢
      exact hp
  · rw [x143_4]
    simp only [x143_0, x143_1, x143_2, x143_3, x143_5, x143_6, x143_9, x143_10, x143_11, x143_14, x143_15, x143_16, x143_17, x143_20, x143_21, x143_24, x143_26, x143_27, x143_28, x143_29, x143_32, x143_33, x143_34, x143_35, x143_38, x143_39, x143_40, x143_41, x143_44, x143_47, x143_48, pv_some, pv_none, c1_int, c1_ref, c1_null, true_and, and_true, ne_eq, not_false_eq_true, not_true_eq_false, if_true, if_false, reduceCtorEq, Option.some.injEq, Value.int.injEq, absI_fold, minI_fold, maxI_fold, m_s g, m_r0 g, m_r2 g, m_r3 g, m_r4 g, m_r5 g, m_r7 g, m_r9 g, m_r12 g, m_r13 g, m_r17 g, m_r18 g, m_s45 g, m_s46 g, m_s47 g, m_s48 g, m_s49 g, m_s50 g, m_s51 g, m_s52 g, m_s53 g, m_s54 g, m_s55 g, m_nz, hS_sI, hR_sI, hS_wI, hR_wI, show ib 0 (2, 31) = True from i31 (k := 0) (by decide), c0, mnlt_G A, wakeM, wakeF]
/-- the last one in a bed -/
def lastF (P : Nat → Int32) (b : Int32) (G : Nat) : Int32 := foldN (fun i f => if P i = b then nI i else f) (-4) G
theorem m_inBed (A : MA h D) : X 145 0 [.ref 44, .int b, .null, .null] [] h Q ↔ Q (some (.int (lastF (hI h 48) b (gN D)))) h := by
  have g := A.1
  refine X_iff ?_ Q
  simp only [x145_0, x145_2, x145_3, x145_4, x145_6, x145_7, x145_10, x145_11, x145_12, x145_15, x145_16, x145_19, x145_20, x145_21, x145_22, x145_25, x145_26, x145_29, x145_30, x145_31, x145_34, x145_37, x145_38, pv_some, pv_none, c1_int, c1_ref, c1_null, true_and, and_true, ne_eq, not_false_eq_true, not_true_eq_false, if_true, if_false, reduceCtorEq, Option.some.injEq, Value.int.injEq, absI_fold, minI_fold, maxI_fold]
  refine loop_up (P := fun k => X 145 5 [.ref 44, .int b, .int (lastF (hI h 48) b k), .int (nI k)] [] h _) (n := gN D) (fun k hk hp => ?_) ?_
  · have hk5 : k < 5 := Nat.lt_of_lt_of_le hk A.g5
    rw [x145_5]
    simp only [x145_0, x145_2, x145_3, x145_4, x145_6, x145_7, x145_10, x145_11, x145_12, x145_15, x145_16, x145_19, x145_20, x145_21, x145_22, x145_25, x145_26, x145_29, x145_30, x145_31, x145_34, x145_37, x145_38, pv_some, pv_none, c1_int, c1_ref, c1_null, true_and, and_true, ne_eq, not_false_eq_true, not_true_eq_false, if_true, if_false, reduceCtorEq, Option.some.injEq, Value.int.injEq, absI_fold, minI_fold, maxI_fold, m_s g, m_r0 g, m_r2 g, m_r3 g, m_r4 g, m_r5 g, m_r7 g, m_r9 g, m_r12 g, m_r13 g, m_r17 g, m_r18 g, m_s45 g, m_s46 g, m_s47 g, m_s48 g, m_s49 g, m_s50 g, m_s51 g, m_s52 g, m_s53 g, m_s54 g, m_s55 g, m_nz, hS_sI, hR_sI, hS_wI, hR_wI, show ib 0 (2, 31) = True from i31 (k := 0) (by decide), c0, mlt_G A hk, i10 (show k < 10 by omega), ncl hk5, nI_add1, if_true, if_false, true_or, or_true, false_or, or_false, true_and, and_true, false_and, and_false, not_true_eq_false, not_false_eq_true, iff_self, ite_self, ne_eq, true_implies, implies_true, Bool.false_eq_true, decide_true, decide_false, Bool.or_true, Bool.or_false, Bool.true_or, Bool.false_or]
    unfold lastF at hp ⊢
    rw [foldN] at hp
    by_cases h1 : hI h 48 k = b
    · simp only [h1, if_true, if_false, true_or, or_true, false_or, or_false, true_and, and_true, false_and, and_false, not_true_eq_false, not_false_eq_true, iff_self, ite_self, ne_eq, true_implies, implies_true, Bool.false_eq_true, decide_true, decide_false, Bool.or_true, Bool.or_false, Bool.true_or, Bool.false_or] at hp ⊢
      exact hp
    · simp only [h1, if_true, if_false, true_or, or_true, false_or, or_false, true_and, and_true, false_and, and_false, not_true_eq_false, not_false_eq_true, iff_self, ite_self, ne_eq, true_implies, implies_true, Bool.false_eq_true, decide_true, decide_false, Bool.or_true, Bool.or_false, Bool.true_or, Bool.false_or] at hp ⊢
      exact hp
  · rw [x145_5]
    simp only [x145_0, x145_2, x145_3, x145_4, x145_6, x145_7, x145_10, x145_11, x145_12, x145_15, x145_16, x145_19, x145_20, x145_21, x145_22, x145_25, x145_26, x145_29, x145_30, x145_31, x145_34, x145_37, x145_38, pv_some, pv_none, c1_int, c1_ref, c1_null, true_and, and_true, ne_eq, not_false_eq_true, not_true_eq_false, if_true, if_false, reduceCtorEq, Option.some.injEq, Value.int.injEq, absI_fold, minI_fold, maxI_fold, m_s g, m_r0 g, m_r2 g, m_r3 g, m_r4 g, m_r5 g, m_r7 g, m_r9 g, m_r12 g, m_r13 g, m_r17 g, m_r18 g, m_s45 g, m_s46 g, m_s47 g, m_s48 g, m_s49 g, m_s50 g, m_s51 g, m_s52 g, m_s53 g, m_s54 g, m_s55 g, m_nz, hS_sI, hR_sI, hS_wI, hR_wI, show ib 0 (2, 31) = True from i31 (k := 0) (by decide), c0, mnlt_G A]
/-- no two guests lie in one bed -/
def distP (P : Nat → Int32) (G : Nat) : Prop := ∀ i j, i < G → j < G → P i = P j → i = j
theorem last_in {P : Nat → Int32} {b : Int32} : ∀ {G : Nat}, distP P G → lastF P b G = inF P b G := by
  intro G hd
  unfold inF
  have key : ∀ k, k ≤ G → lastF P b k = if fstN (fun i => decide (P i = b)) G < k then nI (fstN (fun i => decide (P i = b)) G) else -4 := by
    intro k
    induction k with
    | zero => intro _; rw [if_neg (by omega)]; rfl
    | succ k ih =>
      intro hk
      have ih := ih (by omega)
      unfold lastF at ih ⊢
      rw [foldN, ih]
      by_cases h1 : P k = b
      · rw [if_pos h1]
        have hf : fstN (fun i => decide (P i = b)) G = k := by
          have hle : fstN (fun i => decide (P i = b)) G ≤ k := by
            refine Nat.le_of_not_lt (fun q => ?_)
            have := fstN_no (fun i => decide (P i = b)) G k q
            simp [h1] at this
          have hy := fstN_yes (fun i => decide (P i = b)) G (by omega)
          exact hd _ _ (by omega) (by omega) ((of_decide_eq_true hy).trans h1.symm)
        rw [hf, if_pos (by omega)]
      · rw [if_neg h1]
        by_cases h2 : fstN (fun i => decide (P i = b)) G < k
        · rw [if_pos h2, if_pos (by omega)]
        · rw [if_neg h2, if_neg]
          intro q
          have e : fstN (fun i => decide (P i = b)) G = k := by omega
          have hy := fstN_yes (fun i => decide (P i = b)) G (by omega)
          rw [e] at hy
          exact h1 (of_decide_eq_true hy)
  exact key G (Nat.le_refl _)
theorem in_empty (P : Nat → Int32) (b : Int32) {G : Nat} (hG : G ≤ 5) : (inF P b G = -4) = (emptyF P b G = true) := by
  unfold inF emptyF
  by_cases h1 : fstN (fun i => decide (P i = b)) G < G
  · have : ∀ k, k < 5 → ¬ nI k = -4 := by decide
    rw [if_pos h1]
    simp [h1, this _ (Nat.lt_of_lt_of_le h1 hG)]
  · rw [if_neg h1]
    simp [h1]
theorem m_far : X 149 0 [.int x, .int y] [] h Q ↔ Q (some (.int (if x < y then y - x else x - y))) h := by
  by_cases h1 : x < y <;> simp only [x149_0, x149_1, x149_2, x149_5, x149_6, x149_7, x149_8, x149_11, x149_12, x149_13, x149_14, pv_some, pv_none, c1_int, c1_ref, c1_null, true_and, and_true, ne_eq, not_false_eq_true, not_true_eq_false, if_true, if_false, reduceCtorEq, Option.some.injEq, Value.int.injEq, absI_fold, minI_fold, maxI_fold, h1, if_true, if_false, true_or, or_true, false_or, or_false, true_and, and_true, false_and, and_false, not_true_eq_false, not_false_eq_true, iff_self, ite_self, ne_eq, true_implies, implies_true, Bool.false_eq_true, decide_true, decide_false, Bool.or_true, Bool.or_false, Bool.true_or, Bool.false_or]
theorem m_passes (g : GM h) : X 153 0 [.ref 44] [] h Q ↔ Q none (sI h 48 6 (hI h 48 6 + (if hI h 48 6 < 7 then 1 else 0))) := by
  by_cases h1 : hI h 48 6 < 7 <;> simp only [x153_0, x153_1, x153_4, x153_6, x153_7, x153_8, x153_9, x153_12, x153_14, x153_15, x153_17, x153_20, x153_21, x153_24, x153_25, x153_26, x153_27, pv_some, pv_none, c1_int, c1_ref, c1_null, true_and, and_true, ne_eq, not_false_eq_true, not_true_eq_false, if_true, if_false, reduceCtorEq, Option.some.injEq, Value.int.injEq, absI_fold, minI_fold, maxI_fold, m_s g, m_r0 g, m_r2 g, m_r3 g, m_r4 g, m_r5 g, m_r7 g, m_r9 g, m_r12 g, m_r13 g, m_r17 g, m_r18 g, m_s45 g, m_s46 g, m_s47 g, m_s48 g, m_s49 g, m_s50 g, m_s51 g, m_s52 g, m_s53 g, m_s54 g, m_s55 g, m_nz, hS_sI, hR_sI, hS_wI, hR_wI, show ib 6 (2, 10) = True from i10 (k := 6) (by decide), show ibw 6 (2, 10) = True from iw10 (k := 6) (by decide), ct6, h1, if_true, if_false, true_or, or_true, false_or, or_false, true_and, and_true, false_and, and_false, not_true_eq_false, not_false_eq_true, iff_self, ite_self, ne_eq, true_implies, implies_true, Bool.false_eq_true, decide_true, decide_false, Bool.or_true, Bool.or_false, Bool.true_or, Bool.false_or]
theorem betw (p x b : Int32) : ((p < x ∧ x < b) ∨ (x < p ∧ b < x)) = (minI p b < x ∧ x < maxI p b) := by
  apply propext
  unfold minI maxI
  by_cases h1 : b < p <;> by_cases h2 : p < b <;> simp only [h1, h2, if_true, if_false, true_or, or_true, false_or, or_false, true_and, and_true, false_and, and_false, not_true_eq_false, not_false_eq_true, iff_self, ite_self, ne_eq, true_implies, implies_true, Bool.false_eq_true, decide_true, decide_false, Bool.or_true, Bool.or_false, Bool.true_or, Bool.false_or] <;> simp only [Int32.lt_iff_toInt_lt] at * <;> omega
/-- the cells of s after a carry -/
def goS (s : Nat → Int32) (i : Nat) (b wk : Int32) : Nat → Int32 := fun j => if j = i then b else if j = 7 then s 7 + (if s i < b then b - s i else s i - b) else if j = 8 then s 8 + 1 else if j = 9 then s 9 + wk else s j
abbrev rousM (h : aH) (D : Nat → Int32) (i : Nat) (b : Int32) : Int32 := bitsF (rousC (DA D 21) (hI h 48) (D 2) (hI h 48 i) b) (gN D)
theorem ct7 : (7 : Int32).toNatClampNeg = 7 := by decide
theorem ct8 : (8 : Int32).toNatClampNeg = 8 := by decide
theorem ct9 : (9 : Int32).toNatClampNeg = 9 := by decide
theorem m_goes (A : MA h D) (hi : i < gN D) : X 150 0 [.ref 44, .int (nI i), .int b, .null, .null, .null] [] h Q ↔ Q (some (.int (rousM h D i b))) (wI h (fun a j => if a = 48 then goS (hI h 48) i b (bitF (rousM h D i b)) j else hI h a j)) := by
  have g := A.1
  have hi5 : i < 5 := Nat.lt_of_lt_of_le hi A.g5
  have e2 : hI h 46 2 = D 2 := A.2.2.1 2 (by omega)
  refine X_iff ?_ Q
  simp only [x150_0, x150_1, x150_2, x150_3, x150_7, x150_8, x150_11, x150_12, x150_13, x150_16, x150_17, x150_20, x150_22, x150_23, x150_24, x150_27, x150_28, x150_29, x150_32, x150_33, x150_36, x150_38, x150_39, x150_40, x150_43, x150_44, x150_47, x150_49, x150_50, x150_51, x150_54, x150_55, x150_56, x150_59, x150_60, x150_63, x150_65, x150_66, x150_67, x150_70, x150_71, x150_74, x150_75, x150_77, x150_78, x150_80, x150_83, x150_84, x150_87, x150_89, x150_91, x150_92, x150_93, x150_94, x150_97, x150_98, x150_99, x150_102, x150_103, x150_105, x150_106, x150_109, x150_110, x150_111, x150_112, x150_115, x150_118, x150_119, x150_122, x150_124, x150_125, x150_126, x150_127, x150_130, x150_131, x150_132, x150_133, x150_136, x150_137, x150_138, x150_139, x150_142, x150_144, x150_145, x150_146, x150_147, x150_148, x150_149, x150_150, x150_153, x150_155, x150_156, x150_157, x150_158, x150_161, x150_162, x150_163, x150_164, x150_167, x150_168, x150_169, x150_170, x150_171, pv_some, pv_none, c1_int, c1_ref, c1_null, true_and, and_true, ne_eq, not_false_eq_true, not_true_eq_false, if_true, if_false, reduceCtorEq, Option.some.injEq, Value.int.injEq, absI_fold, minI_fold, maxI_fold]
  refine loop_up (P := fun k => ∀ l5 : Value, X 150 5 [.ref 44, .int (nI i), .int b, .int (bitsF (rousC (DA D 21) (hI h 48) (D 2) (hI h 48 i) b) k), .int (nI k), l5] [] h _) (n := gN D) (fun k hk hp l5 => ?_) (fun l5 => ?_) _
  · have hk5 : k < 5 := Nat.lt_of_lt_of_le hk A.g5
    rw [x150_5]
    simp only [x150_0, x150_1, x150_2, x150_3, x150_7, x150_8, x150_11, x150_12, x150_13, x150_16, x150_17, x150_20, x150_22, x150_23, x150_24, x150_27, x150_28, x150_29, x150_32, x150_33, x150_36, x150_38, x150_39, x150_40, x150_43, x150_44, x150_47, x150_49, x150_50, x150_51, x150_54, x150_55, x150_56, x150_59, x150_60, x150_63, x150_65, x150_66, x150_67, x150_70, x150_71, x150_74, x150_75, x150_77, x150_78, x150_80, x150_83, x150_84, x150_87, x150_89, x150_91, x150_92, x150_93, x150_94, x150_97, x150_98, x150_99, x150_102, x150_103, x150_105, x150_106, x150_109, x150_110, x150_111, x150_112, x150_115, x150_118, x150_119, x150_122, x150_124, x150_125, x150_126, x150_127, x150_130, x150_131, x150_132, x150_133, x150_136, x150_137, x150_138, x150_139, x150_142, x150_144, x150_145, x150_146, x150_147, x150_148, x150_149, x150_150, x150_153, x150_155, x150_156, x150_157, x150_158, x150_161, x150_162, x150_163, x150_164, x150_167, x150_168, x150_169, x150_170, x150_171, pv_some, pv_none, c1_int, c1_ref, c1_null, true_and, and_true, ne_eq, not_false_eq_true, not_true_eq_false, if_true, if_false, reduceCtorEq, Option.some.injEq, Value.int.injEq, absI_fold, minI_fold, maxI_fold, m_s g, m_r0 g, m_r2 g, m_r3 g, m_r4 g, m_r5 g, m_r7 g, m_r9 g, m_r12 g, m_r13 g, m_r17 g, m_r18 g, m_s45 g, m_s46 g, m_s47 g, m_s48 g, m_s49 g, m_s50 g, m_s51 g, m_s52 g, m_s53 g, m_s54 g, m_s55 g, m_nz, hS_sI, hR_sI, hS_wI, hR_wI, show ib 0 (2, 31) = True from i31 (k := 0) (by decide), c0, mlt_G A hk, i10 (show k < 10 by omega), i10 (show i < 10 by omega), ncl hk5, ncl hi5, nI_add1, if_true, if_false, true_or, or_true, false_or, or_false, true_and, and_true, false_and, and_false, not_true_eq_false, not_false_eq_true, iff_self, ite_self, ne_eq, true_implies, implies_true, Bool.false_eq_true, decide_true, decide_false, Bool.or_true, Bool.or_false, Bool.true_or, Bool.false_or]
    have hc : rousC (DA D 21) (hI h 48) (D 2) (hI h 48 i) b k = true ↔ ((hI h 48 i < hI h 48 k ∧ hI h 48 k < b) ∨ (hI h 48 k < hI h 48 i ∧ b < hI h 48 k)) ∧ ¬ D 2 < D (21 + k) := by
      rw [betw]
      unfold rousC
      simp only [Bool.and_eq_true, decide_eq_true_eq, Bool.not_eq_true', decide_eq_false_iff_not]
    unfold bitsF at hp ⊢
    rw [foldN] at hp
    by_cases hr : rousC (DA D 21) (hI h 48) (D 2) (hI h 48 i) b k = true
    · rw [if_pos hr] at hp
      obtain ⟨h1, h2⟩ := hc.mp hr
      have hp1 := hp (.int 1)
      rcases h1 with ⟨a1, a2⟩ | ⟨a1, a2⟩
      · simp only [a1, a2, x150_0, x150_1, x150_2, x150_3, x150_7, x150_8, x150_11, x150_12, x150_13, x150_16, x150_17, x150_20, x150_22, x150_23, x150_24, x150_27, x150_28, x150_29, x150_32, x150_33, x150_36, x150_38, x150_39, x150_40, x150_43, x150_44, x150_47, x150_49, x150_50, x150_51, x150_54, x150_55, x150_56, x150_59, x150_60, x150_63, x150_65, x150_66, x150_67, x150_70, x150_71, x150_74, x150_75, x150_77, x150_78, x150_80, x150_83, x150_84, x150_87, x150_89, x150_91, x150_92, x150_93, x150_94, x150_97, x150_98, x150_99, x150_102, x150_103, x150_105, x150_106, x150_109, x150_110, x150_111, x150_112, x150_115, x150_118, x150_119, x150_122, x150_124, x150_125, x150_126, x150_127, x150_130, x150_131, x150_132, x150_133, x150_136, x150_137, x150_138, x150_139, x150_142, x150_144, x150_145, x150_146, x150_147, x150_148, x150_149, x150_150, x150_153, x150_155, x150_156, x150_157, x150_158, x150_161, x150_162, x150_163, x150_164, x150_167, x150_168, x150_169, x150_170, x150_171, pv_some, pv_none, c1_int, c1_ref, c1_null, true_and, and_true, ne_eq, not_false_eq_true, not_true_eq_false, if_true, if_false, reduceCtorEq, Option.some.injEq, Value.int.injEq, absI_fold, minI_fold, maxI_fold, m_s g, m_r0 g, m_r2 g, m_r3 g, m_r4 g, m_r5 g, m_r7 g, m_r9 g, m_r12 g, m_r13 g, m_r17 g, m_r18 g, m_s45 g, m_s46 g, m_s47 g, m_s48 g, m_s49 g, m_s50 g, m_s51 g, m_s52 g, m_s53 g, m_s54 g, m_s55 g, m_nz, hS_sI, hR_sI, hS_wI, hR_wI, p21, i31a (show 21 ≤ 26 by decide) hk5, ncla (show 21 ≤ 26 by decide) hk5, A.light hk, show ib 2 (2, 31) = True from i31 (k := 2) (by decide), ct2, e2, h2, one_ne, nI_add1, if_true, if_false, true_or, or_true, false_or, or_false, true_and, and_true, false_and, and_false, not_true_eq_false, not_false_eq_true, iff_self, ite_self, ne_eq, true_implies, implies_true, Bool.false_eq_true, decide_true, decide_false, Bool.or_true, Bool.or_false, Bool.true_or, Bool.false_or]
        exact hp1
      · by_cases a3 : hI h 48 i < hI h 48 k
        · exact (Int32.lt_irrefl (Int32.lt_trans a1 a3)).elim
        · simp only [a1, a2, a3, x150_0, x150_1, x150_2, x150_3, x150_7, x150_8, x150_11, x150_12, x150_13, x150_16, x150_17, x150_20, x150_22, x150_23, x150_24, x150_27, x150_28, x150_29, x150_32, x150_33, x150_36, x150_38, x150_39, x150_40, x150_43, x150_44, x150_47, x150_49, x150_50, x150_51, x150_54, x150_55, x150_56, x150_59, x150_60, x150_63, x150_65, x150_66, x150_67, x150_70, x150_71, x150_74, x150_75, x150_77, x150_78, x150_80, x150_83, x150_84, x150_87, x150_89, x150_91, x150_92, x150_93, x150_94, x150_97, x150_98, x150_99, x150_102, x150_103, x150_105, x150_106, x150_109, x150_110, x150_111, x150_112, x150_115, x150_118, x150_119, x150_122, x150_124, x150_125, x150_126, x150_127, x150_130, x150_131, x150_132, x150_133, x150_136, x150_137, x150_138, x150_139, x150_142, x150_144, x150_145, x150_146, x150_147, x150_148, x150_149, x150_150, x150_153, x150_155, x150_156, x150_157, x150_158, x150_161, x150_162, x150_163, x150_164, x150_167, x150_168, x150_169, x150_170, x150_171, pv_some, pv_none, c1_int, c1_ref, c1_null, true_and, and_true, ne_eq, not_false_eq_true, not_true_eq_false, if_true, if_false, reduceCtorEq, Option.some.injEq, Value.int.injEq, absI_fold, minI_fold, maxI_fold, m_s g, m_r0 g, m_r2 g, m_r3 g, m_r4 g, m_r5 g, m_r7 g, m_r9 g, m_r12 g, m_r13 g, m_r17 g, m_r18 g, m_s45 g, m_s46 g, m_s47 g, m_s48 g, m_s49 g, m_s50 g, m_s51 g, m_s52 g, m_s53 g, m_s54 g, m_s55 g, m_nz, hS_sI, hR_sI, hS_wI, hR_wI, p21, i31a (show 21 ≤ 26 by decide) hk5, ncla (show 21 ≤ 26 by decide) hk5, A.light hk, show ib 2 (2, 31) = True from i31 (k := 2) (by decide), ct2, e2, h2, one_ne, nI_add1, if_true, if_false, true_or, or_true, false_or, or_false, true_and, and_true, false_and, and_false, not_true_eq_false, not_false_eq_true, iff_self, ite_self, ne_eq, true_implies, implies_true, Bool.false_eq_true, decide_true, decide_false, Bool.or_true, Bool.or_false, Bool.true_or, Bool.false_or]
          exact hp1
    · rw [if_neg hr] at hp
      have hp1 := hp (.int 1)
      have hp0 := hp (.int 0)
      by_cases a1 : hI h 48 i < hI h 48 k <;> by_cases a2 : hI h 48 k < b <;> by_cases a3 : hI h 48 k < hI h 48 i <;> by_cases a4 : b < hI h 48 k <;> by_cases a5 : D 2 < D (21 + k) <;> first
        | exact absurd (hc.mpr ⟨Or.inl ⟨a1, a2⟩, a5⟩) hr
        | exact absurd (hc.mpr ⟨Or.inr ⟨a3, a4⟩, a5⟩) hr
        | (simp only [a1, a2, a3, a4, x150_0, x150_1, x150_2, x150_3, x150_7, x150_8, x150_11, x150_12, x150_13, x150_16, x150_17, x150_20, x150_22, x150_23, x150_24, x150_27, x150_28, x150_29, x150_32, x150_33, x150_36, x150_38, x150_39, x150_40, x150_43, x150_44, x150_47, x150_49, x150_50, x150_51, x150_54, x150_55, x150_56, x150_59, x150_60, x150_63, x150_65, x150_66, x150_67, x150_70, x150_71, x150_74, x150_75, x150_77, x150_78, x150_80, x150_83, x150_84, x150_87, x150_89, x150_91, x150_92, x150_93, x150_94, x150_97, x150_98, x150_99, x150_102, x150_103, x150_105, x150_106, x150_109, x150_110, x150_111, x150_112, x150_115, x150_118, x150_119, x150_122, x150_124, x150_125, x150_126, x150_127, x150_130, x150_131, x150_132, x150_133, x150_136, x150_137, x150_138, x150_139, x150_142, x150_144, x150_145, x150_146, x150_147, x150_148, x150_149, x150_150, x150_153, x150_155, x150_156, x150_157, x150_158, x150_161, x150_162, x150_163, x150_164, x150_167, x150_168, x150_169, x150_170, x150_171, pv_some, pv_none, c1_int, c1_ref, c1_null, true_and, and_true, ne_eq, not_false_eq_true, not_true_eq_false, if_true, if_false, reduceCtorEq, Option.some.injEq, Value.int.injEq, absI_fold, minI_fold, maxI_fold, m_s g, m_r0 g, m_r2 g, m_r3 g, m_r4 g, m_r5 g, m_r7 g, m_r9 g, m_r12 g, m_r13 g, m_r17 g, m_r18 g, m_s45 g, m_s46 g, m_s47 g, m_s48 g, m_s49 g, m_s50 g, m_s51 g, m_s52 g, m_s53 g, m_s54 g, m_s55 g, m_nz, hS_sI, hR_sI, hS_wI, hR_wI, p21, i31a (show 21 ≤ 26 by decide) hk5, ncla (show 21 ≤ 26 by decide) hk5, A.light hk, show ib 2 (2, 31) = True from i31 (k := 2) (by decide), ct2, e2, a5, one_ne, nI_add1, Int32.or_zero, if_true, if_false, true_or, or_true, false_or, or_false, true_and, and_true, false_and, and_false, not_true_eq_false, not_false_eq_true, iff_self, ite_self, ne_eq, true_implies, implies_true, Bool.false_eq_true, decide_true, decide_false, Bool.or_true, Bool.or_false, Bool.true_or, Bool.false_or]
           first | exact hp0 | exact hp1)
  · rw [x150_5]
    simp only [x150_0, x150_1, x150_2, x150_3, x150_7, x150_8, x150_11, x150_12, x150_13, x150_16, x150_17, x150_20, x150_22, x150_23, x150_24, x150_27, x150_28, x150_29, x150_32, x150_33, x150_36, x150_38, x150_39, x150_40, x150_43, x150_44, x150_47, x150_49, x150_50, x150_51, x150_54, x150_55, x150_56, x150_59, x150_60, x150_63, x150_65, x150_66, x150_67, x150_70, x150_71, x150_74, x150_75, x150_77, x150_78, x150_80, x150_83, x150_84, x150_87, x150_89, x150_91, x150_92, x150_93, x150_94, x150_97, x150_98, x150_99, x150_102, x150_103, x150_105, x150_106, x150_109, x150_110, x150_111, x150_112, x150_115, x150_118, x150_119, x150_122, x150_124, x150_125, x150_126, x150_127, x150_130, x150_131, x150_132, x150_133, x150_136, x150_137, x150_138, x150_139, x150_142, x150_144, x150_145, x150_146, x150_147, x150_148, x150_149, x150_150, x150_153, x150_155, x150_156, x150_157, x150_158, x150_161, x150_162, x150_163, x150_164, x150_167, x150_168, x150_169, x150_170, x150_171, pv_some, pv_none, c1_int, c1_ref, c1_null, true_and, and_true, ne_eq, not_false_eq_true, not_true_eq_false, if_true, if_false, reduceCtorEq, Option.some.injEq, Value.int.injEq, absI_fold, minI_fold, maxI_fold, m_s g, m_r0 g, m_r2 g, m_r3 g, m_r4 g, m_r5 g, m_r7 g, m_r9 g, m_r12 g, m_r13 g, m_r17 g, m_r18 g, m_s45 g, m_s46 g, m_s47 g, m_s48 g, m_s49 g, m_s50 g, m_s51 g, m_s52 g, m_s53 g, m_s54 g, m_s55 g, m_nz, hS_sI, hR_sI, hS_wI, hR_wI, show ib 0 (2, 31) = True from i31 (k := 0) (by decide), c0, mnlt_G A, show ib 7 (2, 10) = True from i10 (k := 7) (by decide), show ibw 7 (2, 10) = True from iw10 (k := 7) (by decide), show ib 8 (2, 10) = True from i10 (k := 8) (by decide), show ibw 8 (2, 10) = True from iw10 (k := 8) (by decide), show ib 9 (2, 10) = True from i10 (k := 9) (by decide), show ibw 9 (2, 10) = True from iw10 (k := 9) (by decide), ct7, ct8, ct9, i10 (show i < 10 by omega), iw10 (show i < 10 by omega), ncl hi5, m_far, m_ones, if_true, if_false, true_or, or_true, false_or, or_false, true_and, and_true, false_and, and_false, not_true_eq_false, not_false_eq_true, iff_self, ite_self, ne_eq, true_implies, implies_true, Bool.false_eq_true, decide_true, decide_false, Bool.or_true, Bool.or_false, Bool.true_or, Bool.false_or]
    refine (aH_ext (by simp only [hN_sI, hN_cpI, hN_wI, hN_sI]) (by simp only [hZ_sI, hZ_cpI, hZ_wI, hN_sI]) (by simp only [hS_sI, hS_cpI, hS_wI, hN_sI]) (by simp only [hR_sI, hR_cpI, hR_wI, hN_sI]) (fun b j => ?_))
    simp only [hI_sI, hI_wI, goS]
    grind
/-- the past after an act is kept -/
def keH (h : aH) (z : Nat) : aH := wI h (fun b j => if b = 49 then (if z < 8 then (if z * 10 ≤ j ∧ j < z * 10 + 10 then hI h 48 (j - z * 10) else hI h b j) else (if j < 70 then hI h b (j + 10) else if j < 80 then hI h 48 (j - 70) else hI h b j)) else if b = 44 ∧ j = 6 then nI (if z < 8 then z + 1 else 8) else hI h b j)
/-- the first loop: all go one place on -/
def shH (h : aH) (k : Nat) : aH := wI h (fun b j => if b = 49 ∧ j < k then hI h 49 (j + 10) else hI h b j)
/-- the second loop: a row written -/
def roH (h : aH) (z k : Nat) : aH := wI h (fun b j => if b = 49 ∧ z * 10 ≤ j ∧ j < z * 10 + k then hI h 48 (j - z * 10) else hI h b j)
theorem t10 (a : Nat) : (10 : Int32) * nI a = nI (10 * a) := nI_mul 10 a
theorem a10 (a : Nat) : nI a + 10 = nI (a + 10) := nI_addn a 10
theorem m_keepsB (g : GM h) (hz : hI h 44 6 = nI z) (h8 : z < 8) {l1 : Value} : X 148 48 [.ref 44, l1] [] h Q ↔ Q none (keH h z) := by
  refine X_iff ?_ Q
  simp only [x148_0, x148_1, x148_4, x148_6, x148_9, x148_10, x148_12, x148_14, x148_17, x148_18, x148_21, x148_22, x148_23, x148_26, x148_27, x148_29, x148_30, x148_31, x148_32, x148_35, x148_38, x148_39, x148_40, x148_43, x148_44, x148_45, x148_48, x148_49, x148_51, x148_53, x148_56, x148_57, x148_60, x148_62, x148_63, x148_66, x148_67, x148_68, x148_69, x148_70, x148_73, x148_74, x148_75, x148_76, x148_79, x148_82, x148_83, x148_84, x148_87, x148_88, x148_89, x148_92, pv_some, pv_none, c1_int, c1_ref, c1_null, true_and, and_true, ne_eq, not_false_eq_true, not_true_eq_false, if_true, if_false, reduceCtorEq, Option.some.injEq, Value.int.injEq, absI_fold, minI_fold, maxI_fold]
  refine X_heap (h1 := roH h z 0) (aH_ext rfl rfl rfl rfl (fun b j => by unfold roH; rw [hI_wI, if_neg (by omega)])) ?_
  refine loop_up (P := fun k => X 148 50 [.ref 44, .int (nI k)] [] (roH h z k) _) (n := 10) (fun k hk hp => ?_) ?_
  · have gk : GM (roH h z k) := g
    have q1 : hI (roH h z k) 44 6 = nI z := by unfold roH; rw [hI_wI, if_neg (by omega)]; exact hz
    have q2 : hI (roH h z k) 48 k = hI h 48 k := by unfold roH; rw [hI_wI, if_neg (by omega)]
    rw [x148_50]
    simp only [x148_0, x148_1, x148_4, x148_6, x148_9, x148_10, x148_12, x148_14, x148_17, x148_18, x148_21, x148_22, x148_23, x148_26, x148_27, x148_29, x148_30, x148_31, x148_32, x148_35, x148_38, x148_39, x148_40, x148_43, x148_44, x148_45, x148_48, x148_49, x148_51, x148_53, x148_56, x148_57, x148_60, x148_62, x148_63, x148_66, x148_67, x148_68, x148_69, x148_70, x148_73, x148_74, x148_75, x148_76, x148_79, x148_82, x148_83, x148_84, x148_87, x148_88, x148_89, x148_92, pv_some, pv_none, c1_int, c1_ref, c1_null, true_and, and_true, ne_eq, not_false_eq_true, not_true_eq_false, if_true, if_false, reduceCtorEq, Option.some.injEq, Value.int.injEq, absI_fold, minI_fold, maxI_fold, m_s gk, m_r4 gk, m_r5 gk, m_s48 gk, m_s49 gk, m_nz, show (nI k < 10) = True from eq_true (nI_lt hk (by decide)), q1, q2, t10, nI_addn, i10 hk, nI_cl (show k < 2 ^ 31 by omega), ibwn (show 10 * z + k < 80 by omega) (by decide), nI_cl (show 10 * z + k < 2 ^ 31 by omega), nI_add1, if_true, if_false, true_or, or_true, false_or, or_false, true_and, and_true, false_and, and_false, not_true_eq_false, not_false_eq_true, iff_self, ite_self, ne_eq, true_implies, implies_true, Bool.false_eq_true, decide_true, decide_false, Bool.or_true, Bool.or_false, Bool.true_or, Bool.false_or]
    refine X_heap ?_ hp
    refine (aH_ext (by simp only [hN_sI, hN_cpI, hN_wI, roH]) (by simp only [hZ_sI, hZ_cpI, hZ_wI, roH]) (by simp only [hS_sI, hS_cpI, hS_wI, roH]) (by simp only [hR_sI, hR_cpI, hR_wI, roH]) (fun b j => ?_))
    unfold roH
    simp only [hI_sI, hI_wI]
    grind
  · have gk : GM (roH h z 10) := g
    have q1 : hI (roH h z 10) 44 6 = nI z := by unfold roH; rw [hI_wI, if_neg (by omega)]; exact hz
    rw [x148_50]
    simp only [x148_0, x148_1, x148_4, x148_6, x148_9, x148_10, x148_12, x148_14, x148_17, x148_18, x148_21, x148_22, x148_23, x148_26, x148_27, x148_29, x148_30, x148_31, x148_32, x148_35, x148_38, x148_39, x148_40, x148_43, x148_44, x148_45, x148_48, x148_49, x148_51, x148_53, x148_56, x148_57, x148_60, x148_62, x148_63, x148_66, x148_67, x148_68, x148_69, x148_70, x148_73, x148_74, x148_75, x148_76, x148_79, x148_82, x148_83, x148_84, x148_87, x148_88, x148_89, x148_92, pv_some, pv_none, c1_int, c1_ref, c1_null, true_and, and_true, ne_eq, not_false_eq_true, not_true_eq_false, if_true, if_false, reduceCtorEq, Option.some.injEq, Value.int.injEq, absI_fold, minI_fold, maxI_fold, m_s gk, m_nz, show (nI 10 < 10) = False by decide, q1, nI_add1, if_true, if_false, true_or, or_true, false_or, or_false, true_and, and_true, false_and, and_false, not_true_eq_false, not_false_eq_true, iff_self, ite_self, ne_eq, true_implies, implies_true, Bool.false_eq_true, decide_true, decide_false, Bool.or_true, Bool.or_false, Bool.true_or, Bool.false_or]
    refine (aH_ext (by simp only [hN_sI, hN_cpI, hN_wI, roH, keH]) (by simp only [hZ_sI, hZ_cpI, hZ_wI, roH, keH]) (by simp only [hS_sI, hS_cpI, hS_wI, roH, keH]) (by simp only [hR_sI, hR_cpI, hR_wI, roH, keH]) (fun b j => ?_))
    unfold roH keH
    simp only [hI_sI, hI_wI, h8, if_true]
    grind
theorem m_keeps (g : GM h) (hz : hI h 44 6 = nI z) (h8 : z ≤ 8) : X 148 0 [.ref 44, .null] [] h Q ↔ Q none (keH h z) := by
  by_cases hl : z < 8
  · have ne : (nI z = 8) = False := eq_false (fun q => by
      have := (nI_eq_iff (show z < 2 ^ 31 by omega) (show 8 < 2 ^ 31 by decide)).mp q
      omega)
    rw [show X 148 0 [.ref 44, .null] [] h Q ↔ X 148 48 [.ref 44, .null] [] h Q from by
      simp only [x148_0, x148_1, x148_4, x148_6, x148_9, x148_10, x148_12, x148_14, x148_17, x148_18, x148_21, x148_22, x148_23, x148_26, x148_27, x148_29, x148_30, x148_31, x148_32, x148_35, x148_38, x148_39, x148_40, x148_43, x148_44, x148_45, x148_49, x148_51, x148_53, x148_56, x148_57, x148_60, x148_62, x148_63, x148_66, x148_67, x148_68, x148_69, x148_70, x148_73, x148_74, x148_75, x148_76, x148_79, x148_82, x148_83, x148_84, x148_87, x148_88, x148_89, x148_92, pv_some, pv_none, c1_int, c1_ref, c1_null, true_and, and_true, ne_eq, not_false_eq_true, not_true_eq_false, if_true, if_false, reduceCtorEq, Option.some.injEq, Value.int.injEq, absI_fold, minI_fold, maxI_fold, m_s g, hz, ne, if_true, if_false, true_or, or_true, false_or, or_false, true_and, and_true, false_and, and_false, not_true_eq_false, not_false_eq_true, iff_self, ite_self, ne_eq, true_implies, implies_true, Bool.false_eq_true, decide_true, decide_false, Bool.or_true, Bool.or_false, Bool.true_or, Bool.false_or]]
    exact m_keepsB g hz hl
  · have e8 : z = 8 := by omega
    subst e8
    have go : X 148 0 [.ref 44, .null] [] h (fun a b => a = none ∧ b = keH h 8) := by
      simp only [x148_0, x148_1, x148_4, x148_6, x148_9, x148_10, x148_12, x148_14, x148_17, x148_18, x148_21, x148_22, x148_23, x148_26, x148_27, x148_29, x148_30, x148_31, x148_32, x148_35, x148_38, x148_39, x148_40, x148_43, x148_44, x148_45, x148_49, x148_51, x148_53, x148_56, x148_57, x148_60, x148_62, x148_63, x148_66, x148_67, x148_68, x148_69, x148_70, x148_73, x148_74, x148_75, x148_76, x148_79, x148_82, x148_83, x148_84, x148_87, x148_88, x148_89, x148_92, pv_some, pv_none, c1_int, c1_ref, c1_null, true_and, and_true, ne_eq, not_false_eq_true, not_true_eq_false, if_true, if_false, reduceCtorEq, Option.some.injEq, Value.int.injEq, absI_fold, minI_fold, maxI_fold, m_s g, hz, show (nI 8 = 8) = True from eq_true rfl, if_true, if_false, true_or, or_true, false_or, or_false, true_and, and_true, false_and, and_false, not_true_eq_false, not_false_eq_true, iff_self, ite_self, ne_eq, true_implies, implies_true, Bool.false_eq_true, decide_true, decide_false, Bool.or_true, Bool.or_false, Bool.true_or, Bool.false_or]
      refine X_heap (h1 := shH h 0) (aH_ext rfl rfl rfl rfl (fun b j => by unfold shH; rw [hI_wI, if_neg (by omega)])) ?_
      refine loop_up (P := fun k => X 148 11 [.ref 44, .int (nI k)] [] (shH h k) _) (n := 70) (fun k hk hp => ?_) ?_
      · have gk : GM (shH h k) := g
        have q1 : hI (shH h k) 49 (k + 10) = hI h 49 (k + 10) := by unfold shH; rw [hI_wI, if_neg (by omega)]
        rw [x148_11]
        simp only [x148_0, x148_1, x148_4, x148_6, x148_9, x148_10, x148_12, x148_14, x148_17, x148_18, x148_21, x148_22, x148_23, x148_26, x148_27, x148_29, x148_30, x148_31, x148_32, x148_35, x148_38, x148_39, x148_40, x148_43, x148_44, x148_45, x148_49, x148_51, x148_53, x148_56, x148_57, x148_60, x148_62, x148_63, x148_66, x148_67, x148_68, x148_69, x148_70, x148_73, x148_74, x148_75, x148_76, x148_79, x148_82, x148_83, x148_84, x148_87, x148_88, x148_89, x148_92, pv_some, pv_none, c1_int, c1_ref, c1_null, true_and, and_true, ne_eq, not_false_eq_true, not_true_eq_false, if_true, if_false, reduceCtorEq, Option.some.injEq, Value.int.injEq, absI_fold, minI_fold, maxI_fold, m_s gk, m_r5 gk, m_s49 gk, m_nz, show (nI k < 70) = True from eq_true (nI_lt hk (by decide)), a10, ibn (show k + 10 < 80 by omega) (by decide), nI_cl (show k + 10 < 2 ^ 31 by omega), q1, ibwn (show k < 80 by omega) (by decide), nI_cl (show k < 2 ^ 31 by omega), nI_add1, if_true, if_false, true_or, or_true, false_or, or_false, true_and, and_true, false_and, and_false, not_true_eq_false, not_false_eq_true, iff_self, ite_self, ne_eq, true_implies, implies_true, Bool.false_eq_true, decide_true, decide_false, Bool.or_true, Bool.or_false, Bool.true_or, Bool.false_or]
        refine X_heap ?_ hp
        refine (aH_ext (by simp only [hN_sI, hN_cpI, hN_wI, shH]) (by simp only [hZ_sI, hZ_cpI, hZ_wI, shH]) (by simp only [hS_sI, hS_cpI, hS_wI, shH]) (by simp only [hR_sI, hR_cpI, hR_wI, shH]) (fun b j => ?_))
        unfold shH
        simp only [hI_sI, hI_wI]
        grind
      · have gk : GM (shH h 70) := g
        have q1 : hI (shH h 70) 44 6 = nI 8 := by unfold shH; rw [hI_wI, if_neg (by omega)]; exact hz
        rw [x148_11]
        simp only [x148_0, x148_1, x148_4, x148_6, x148_9, x148_10, x148_12, x148_14, x148_17, x148_18, x148_21, x148_22, x148_23, x148_26, x148_27, x148_29, x148_30, x148_31, x148_32, x148_35, x148_38, x148_39, x148_40, x148_43, x148_44, x148_45, x148_49, x148_51, x148_53, x148_56, x148_57, x148_60, x148_62, x148_63, x148_66, x148_67, x148_68, x148_69, x148_70, x148_73, x148_74, x148_75, x148_76, x148_79, x148_82, x148_83, x148_84, x148_87, x148_88, x148_89, x148_92, pv_some, pv_none, c1_int, c1_ref, c1_null, true_and, and_true, ne_eq, not_false_eq_true, not_true_eq_false, if_true, if_false, reduceCtorEq, Option.some.injEq, Value.int.injEq, absI_fold, minI_fold, maxI_fold, m_s gk, m_nz, show (nI 70 < 70) = False by decide, q1, show nI 8 - 1 = nI 7 from rfl, if_true, if_false, true_or, or_true, false_or, or_false, true_and, and_true, false_and, and_false, not_true_eq_false, not_false_eq_true, iff_self, ite_self, ne_eq, true_implies, implies_true, Bool.false_eq_true, decide_true, decide_false, Bool.or_true, Bool.or_false, Bool.true_or, Bool.false_or]
        rw [m_keepsB (z := 7) (show GM (sI (shH h 70) 44 6 (nI 7)) from g) (by rw [hI_sI, if_pos ⟨rfl, rfl⟩]) (by decide)]
        refine ⟨rfl, ?_⟩
        refine (aH_ext (by simp only [hN_sI, hN_cpI, hN_wI, keH, shH]) (by simp only [hZ_sI, hZ_cpI, hZ_wI, keH, shH]) (by simp only [hS_sI, hS_cpI, hS_wI, keH, shH]) (by simp only [hR_sI, hR_cpI, hR_wI, keH, shH]) (fun b j => ?_))
        unfold keH shH
        simp only [hI_sI, hI_wI]
        grind
    exact X_iff go Q
/-- undo -/
def unH (h : aH) (a f z : Nat) (k : Nat) : aH := wI h (fun b j => if b = 48 ∧ j < k then hI h a (10 * (z - 1) + j) else if b = 44 ∧ j = f then nI (z - 1) else hI h b j)
theorem m_undo (g : GM h) (hz : hI h 44 6 = nI z) (h8 : z ≤ 8) : X 155 0 [.ref 44, .null] [] h Q ↔ if z = 0 then Q (some (.int (-2))) h else Q (some (.int (nI (z - 1)))) (unH h 49 6 z 10) := by
  by_cases h0 : z = 0
  · subst h0
    simp only [x155_0, x155_1, x155_4, x155_7, x155_9, x155_10, x155_11, x155_12, x155_15, x155_16, x155_17, x155_20, x155_21, x155_23, x155_25, x155_28, x155_29, x155_32, x155_33, x155_34, x155_37, x155_39, x155_40, x155_43, x155_44, x155_45, x155_46, x155_47, x155_48, x155_51, x155_54, x155_55, x155_58, pv_some, pv_none, c1_int, c1_ref, c1_null, true_and, and_true, ne_eq, not_false_eq_true, not_true_eq_false, if_true, if_false, reduceCtorEq, Option.some.injEq, Value.int.injEq, absI_fold, minI_fold, maxI_fold, m_s g, hz, show (nI 0 = 0) = True from eq_true rfl, if_true, if_false, true_or, or_true, false_or, or_false, true_and, and_true, false_and, and_false, not_true_eq_false, not_false_eq_true, iff_self, ite_self, ne_eq, true_implies, implies_true, Bool.false_eq_true, decide_true, decide_false, Bool.or_true, Bool.or_false, Bool.true_or, Bool.false_or]
  · rw [if_neg h0]
    have ne : (nI z = 0) = False := eq_false (fun q => by
      have := (nI_eq_iff (show z < 2 ^ 31 by omega) (show 0 < 2 ^ 31 by decide)).mp q
      omega)
    refine X_iff ?_ Q
    simp only [x155_0, x155_1, x155_4, x155_7, x155_9, x155_10, x155_11, x155_12, x155_15, x155_16, x155_17, x155_20, x155_21, x155_23, x155_25, x155_28, x155_29, x155_32, x155_33, x155_34, x155_37, x155_39, x155_40, x155_43, x155_44, x155_45, x155_46, x155_47, x155_48, x155_51, x155_54, x155_55, x155_58, pv_some, pv_none, c1_int, c1_ref, c1_null, true_and, and_true, ne_eq, not_false_eq_true, not_true_eq_false, if_true, if_false, reduceCtorEq, Option.some.injEq, Value.int.injEq, absI_fold, minI_fold, maxI_fold, m_s g, hz, ne, nI_m1 (show 1 ≤ z by omega), if_true, if_false, true_or, or_true, false_or, or_false, true_and, and_true, false_and, and_false, not_true_eq_false, not_false_eq_true, iff_self, ite_self, ne_eq, true_implies, implies_true, Bool.false_eq_true, decide_true, decide_false, Bool.or_true, Bool.or_false, Bool.true_or, Bool.false_or]
    refine X_heap (h1 := unH h 49 6 z 0) (by
      refine (aH_ext (by simp only [hN_sI, hN_cpI, hN_wI, unH]) (by simp only [hZ_sI, hZ_cpI, hZ_wI, unH]) (by simp only [hS_sI, hS_cpI, hS_wI, unH]) (by simp only [hR_sI, hR_cpI, hR_wI, unH]) (fun b j => ?_))
      unfold unH
      simp only [hI_sI, hI_wI]
      grind) ?_
    refine loop_up (P := fun k => X 155 22 [.ref 44, .int (nI k)] [] (unH h 49 6 z k) _) (n := 10) (fun k hk hp => ?_) ?_
    · have gk : GM (unH h 49 6 z k) := g
      have q1 : hI (unH h 49 6 z k) 44 6 = nI (z - 1) := by unfold unH; rw [hI_wI, if_neg (by omega), if_pos ⟨rfl, rfl⟩]
      have q2 : hI (unH h 49 6 z k) 49 (10 * (z - 1) + k) = hI h 49 (10 * (z - 1) + k) := by unfold unH; rw [hI_wI, if_neg (by omega), if_neg (by omega)]
      rw [x155_22]
      simp only [x155_0, x155_1, x155_4, x155_7, x155_9, x155_10, x155_11, x155_12, x155_15, x155_16, x155_17, x155_20, x155_21, x155_23, x155_25, x155_28, x155_29, x155_32, x155_33, x155_34, x155_37, x155_39, x155_40, x155_43, x155_44, x155_45, x155_46, x155_47, x155_48, x155_51, x155_54, x155_55, x155_58, pv_some, pv_none, c1_int, c1_ref, c1_null, true_and, and_true, ne_eq, not_false_eq_true, not_true_eq_false, if_true, if_false, reduceCtorEq, Option.some.injEq, Value.int.injEq, absI_fold, minI_fold, maxI_fold, m_s gk, m_r4 gk, m_r5 gk, m_s48 gk, m_s49 gk, m_nz, show (nI k < 10) = True from eq_true (nI_lt hk (by decide)), q1, q2, t10, nI_addn, iw10 hk, nI_cl (show k < 2 ^ 31 by omega), ibn (show 10 * (z - 1) + k < 80 by omega) (by decide), nI_cl (show 10 * (z - 1) + k < 2 ^ 31 by omega), nI_add1, if_true, if_false, true_or, or_true, false_or, or_false, true_and, and_true, false_and, and_false, not_true_eq_false, not_false_eq_true, iff_self, ite_self, ne_eq, true_implies, implies_true, Bool.false_eq_true, decide_true, decide_false, Bool.or_true, Bool.or_false, Bool.true_or, Bool.false_or]
      refine X_heap ?_ hp
      refine (aH_ext (by simp only [hN_sI, hN_cpI, hN_wI, unH]) (by simp only [hZ_sI, hZ_cpI, hZ_wI, unH]) (by simp only [hS_sI, hS_cpI, hS_wI, unH]) (by simp only [hR_sI, hR_cpI, hR_wI, unH]) (fun b j => ?_))
      unfold unH
      simp only [hI_sI, hI_wI]
      grind
    · have gk : GM (unH h 49 6 z 10) := g
      have q1 : hI (unH h 49 6 z 10) 44 6 = nI (z - 1) := by unfold unH; rw [hI_wI, if_neg (by omega), if_pos ⟨rfl, rfl⟩]
      rw [x155_22]
      simp only [x155_0, x155_1, x155_4, x155_7, x155_9, x155_10, x155_11, x155_12, x155_15, x155_16, x155_17, x155_20, x155_21, x155_23, x155_25, x155_28, x155_29, x155_32, x155_33, x155_34, x155_37, x155_39, x155_40, x155_43, x155_44, x155_45, x155_46, x155_47, x155_48, x155_51, x155_54, x155_55, x155_58, pv_some, pv_none, c1_int, c1_ref, c1_null, true_and, and_true, ne_eq, not_false_eq_true, not_true_eq_false, if_true, if_false, reduceCtorEq, Option.some.injEq, Value.int.injEq, absI_fold, minI_fold, maxI_fold, m_s gk, m_nz, show (nI 10 < 10) = False by decide, q1, if_true, if_false, true_or, or_true, false_or, or_false, true_and, and_true, false_and, and_false, not_true_eq_false, not_false_eq_true, iff_self, ite_self, ne_eq, true_implies, implies_true, Bool.false_eq_true, decide_true, decide_false, Bool.or_true, Bool.or_false, Bool.true_or, Bool.false_or]
end MOD7
