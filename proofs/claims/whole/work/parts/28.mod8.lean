/-! THE REFERENCE: the law, nights, hums -/
section MOD8
variable {h : aH} {D : Nat → Int32} {i j k z : Nat} {Q : Option Value → aH → Prop} {x y b : Int32}
/-- the reference's scratch alone differs -/
def SF (h h' : aH) : Prop := h' = wI h (hI h') ∧ ∀ b j, b ≠ 47 → ¬ (52 ≤ b ∧ b ≤ 55) → ¬ (b = 44 ∧ (j = 11 ∨ j = 14 ∨ j = 15 ∨ j = 16)) → hI h' b j = hI h b j
theorem SF.refl (h : aH) : SF h h := ⟨by obtain ⟨x1, x2, x3, x4, x5⟩ := h; rfl, fun _ _ _ _ _ => rfl⟩
theorem SF.trans {h h1 h2 : aH} (x : SF h h1) (y : SF h1 h2) : SF h h2 := by
  refine ⟨?_, fun b j q1 q2 q3 => (y.2 b j q1 q2 q3).trans (x.2 b j q1 q2 q3)⟩
  have e1 := y.1
  rw [x.1] at e1
  exact e1
theorem SF.GM {h h' : aH} (x : SF h h') (g : GM h) : GM h' := by rw [x.1]; exact g
theorem SF.sI {h h' : aH} (x : SF h h') {b k : Nat} (v : Int32) (hb : b = 47 ∨ 52 ≤ b ∧ b ≤ 55 ∨ b = 44 ∧ (k = 11 ∨ k = 14 ∨ k = 15 ∨ k = 16)) : SF h (sI h' b k v) := by
  refine x.trans ⟨rfl, fun c j q1 q2 q3 => ?_⟩
  rw [hI_sI, if_neg]
  rintro ⟨rfl, rfl⟩
  rcases hb with q | q | q
  · exact q1 q
  · exact q2 q
  · exact q3 q
theorem SF.wI {h : aH} {f : Nat → Nat → Int32} (hf : ∀ b j, b ≠ 47 → ¬ (52 ≤ b ∧ b ≤ 55) → ¬ (b = 44 ∧ (j = 11 ∨ j = 14 ∨ j = 15 ∨ j = 16)) → f b j = hI h b j) : SF h (wI h f) := ⟨rfl, hf⟩
theorem MFr.SF {h h' : aH} (x : MFr h h') : SF h h' := ⟨x.1, fun b j q1 _ q3 => x.2 b j q1 (by omega)⟩
theorem MA.SF {h' : aH} (A : MA h D) (x : SF h h') : MA h' D := ⟨x.GM A.1, A.2.1, fun j hj => by rw [x.2 46 j (by decide) (by decide) (by omega)]; exact A.2.2.1 j hj, fun i hi r hr => by rw [x.2 46 _ (by decide) (by decide) (by omega)]; exact A.2.2.2 i hi r hr⟩
theorem as_SF (h : aH) : SF h (asH h) := SF.wI (fun b j q1 q2 q3 => by grind)
theorem as52 (hj : j < 5) : hI (asH h) 52 j = hI h 48 j := by unfold asH; rw [hI_wI, if_pos ⟨rfl, hj⟩]
theorem as53 (hj : j < 5) : hI (asH h) 53 j = hI h 46 (6 + j) := by unfold asH; rw [hI_wI, if_neg (by omega), if_pos ⟨rfl, hj⟩]
theorem as14 : hI (asH h) 44 14 = hI h 48 5 := by unfold asH; rw [hI_wI, if_neg (by omega), if_neg (by omega), if_pos ⟨rfl, rfl⟩]
theorem as15 : hI (asH h) 44 15 = hI h 48 6 := by unfold asH; rw [hI_wI, if_neg (by omega), if_neg (by omega), if_neg (by omega), if_pos ⟨rfl, rfl⟩]
theorem as16 : hI (asH h) 44 16 = 31 := by unfold asH; rw [hI_wI, if_neg (by omega), if_neg (by omega), if_neg (by omega), if_neg (by omega), if_pos ⟨rfl, rfl⟩]
theorem as48 : hI (asH h) 48 j = hI h 48 j := by unfold asH; rw [hI_wI, if_neg (by omega), if_neg (by omega), if_neg (by omega), if_neg (by omega), if_neg (by omega)]
abbrev loM (h : aH) (D : Nat → Int32) : Nat → Int32 := fun j => loudF (hI h 53 j) (D (11 + j)) (hI h 44 15)
theorem m_lawOf (A : MA h D) (hi : i < gN D) : X 156 0 [.ref 44, .int (nI i), .null, .null] [] h Q ↔ Q (some (.int (lawF (loM h D) (D 1) i (gN D)))) h := by
  have g := A.1
  have hi5 : i < 5 := Nat.lt_of_lt_of_le hi A.g5
  have e1 : hI h 46 1 = D 1 := A.2.2.1 1 (by omega)
  refine X_iff ?_ Q
  simp only [x156_0, x156_1, x156_2, x156_3, x156_5, x156_6, x156_9, x156_10, x156_11, x156_14, x156_15, x156_16, x156_17, x156_20, x156_21, x156_22, x156_25, x156_28, x156_29, x156_30, x156_33, x156_34, x156_35, x156_38, x156_41, x156_42, x156_43, x156_46, x156_47, x156_50, x156_51, x156_52, x156_53, x156_56, x156_59, x156_60, x156_61, x156_62, x156_65, x156_66, x156_67, x156_68, x156_71, x156_72, x156_75, x156_76, x156_77, x156_78, x156_79, x156_80, x156_81, x156_82, x156_83, pv_some, pv_none, c1_int, c1_ref, c1_null, true_and, and_true, ne_eq, not_false_eq_true, not_true_eq_false, if_true, if_false, reduceCtorEq, Option.some.injEq, Value.int.injEq, absI_fold, minI_fold, maxI_fold]
  refine loop_up (P := fun k => X 156 4 [.ref 44, .int (nI i), .int (aheadF (loM h D) i k), .int (nI k)] [] h _) (n := gN D) (fun k hk hp => ?_) ?_
  · have hk5 : k < 5 := Nat.lt_of_lt_of_le hk A.g5
    rw [x156_4]
    simp only [x156_0, x156_1, x156_2, x156_3, x156_5, x156_6, x156_9, x156_10, x156_11, x156_14, x156_15, x156_16, x156_17, x156_20, x156_21, x156_22, x156_25, x156_28, x156_29, x156_30, x156_33, x156_34, x156_35, x156_38, x156_41, x156_42, x156_43, x156_46, x156_47, x156_50, x156_51, x156_52, x156_53, x156_56, x156_59, x156_60, x156_61, x156_62, x156_65, x156_66, x156_67, x156_68, x156_71, x156_72, x156_75, x156_76, x156_77, x156_78, x156_79, x156_80, x156_81, x156_82, x156_83, pv_some, pv_none, c1_int, c1_ref, c1_null, true_and, and_true, ne_eq, not_false_eq_true, not_true_eq_false, if_true, if_false, reduceCtorEq, Option.some.injEq, Value.int.injEq, absI_fold, minI_fold, maxI_fold, m_s g, m_r0 g, m_r2 g, m_r3 g, m_r4 g, m_r5 g, m_r7 g, m_r9 g, m_r12 g, m_r13 g, m_r17 g, m_r18 g, m_s45 g, m_s46 g, m_s47 g, m_s48 g, m_s49 g, m_s50 g, m_s51 g, m_s52 g, m_s53 g, m_s54 g, m_s55 g, m_nz, hS_sI, hR_sI, hS_wI, hR_wI, show ib 0 (2, 31) = True from i31 (k := 0) (by decide), c0, mlt_G A hk, m_loud A hk, m_loud A hi, nI_add1, nI_lt_iff (show k < 2 ^ 31 by omega) (show i < 2 ^ 31 by omega), if_true, if_false, true_or, or_true, false_or, or_false, true_and, and_true, false_and, and_false, not_true_eq_false, not_false_eq_true, iff_self, ite_self, ne_eq, true_implies, implies_true, Bool.false_eq_true, decide_true, decide_false, Bool.or_true, Bool.or_false, Bool.true_or, Bool.false_or]
    unfold aheadF at hp ⊢
    rw [foldN] at hp
    by_cases h1 : loM h D i < loM h D k
    · simp only [h1, if_true, if_false, true_or, or_true, false_or, or_false, true_and, and_true, false_and, and_false, not_true_eq_false, not_false_eq_true, iff_self, ite_self, ne_eq, true_implies, implies_true, Bool.false_eq_true, decide_true, decide_false, Bool.or_true, Bool.or_false, Bool.true_or, Bool.false_or] at hp ⊢
      exact hp
    · by_cases h2 : loM h D k = loM h D i
      · by_cases h3 : k < i
        · simp only [h1, h2, h3, if_true, if_false, true_or, or_true, false_or, or_false, true_and, and_true, false_and, and_false, not_true_eq_false, not_false_eq_true, iff_self, ite_self, ne_eq, true_implies, implies_true, Bool.false_eq_true, decide_true, decide_false, Bool.or_true, Bool.or_false, Bool.true_or, Bool.false_or, Int32.lt_irrefl] at hp ⊢
          exact hp
        · simp only [h1, h2, h3, if_true, if_false, true_or, or_true, false_or, or_false, true_and, and_true, false_and, and_false, not_true_eq_false, not_false_eq_true, iff_self, ite_self, ne_eq, true_implies, implies_true, Bool.false_eq_true, decide_true, decide_false, Bool.or_true, Bool.or_false, Bool.true_or, Bool.false_or, Int32.lt_irrefl, Int32.add_zero] at hp ⊢
          exact hp
      · simp only [h1, h2, if_true, if_false, true_or, or_true, false_or, or_false, true_and, and_true, false_and, and_false, not_true_eq_false, not_false_eq_true, iff_self, ite_self, ne_eq, true_implies, implies_true, Bool.false_eq_true, decide_true, decide_false, Bool.or_true, Bool.or_false, Bool.true_or, Bool.false_or, Int32.add_zero] at hp ⊢
        exact hp
  · rw [x156_4]
    simp only [x156_0, x156_1, x156_2, x156_3, x156_5, x156_6, x156_9, x156_10, x156_11, x156_14, x156_15, x156_16, x156_17, x156_20, x156_21, x156_22, x156_25, x156_28, x156_29, x156_30, x156_33, x156_34, x156_35, x156_38, x156_41, x156_42, x156_43, x156_46, x156_47, x156_50, x156_51, x156_52, x156_53, x156_56, x156_59, x156_60, x156_61, x156_62, x156_65, x156_66, x156_67, x156_68, x156_71, x156_72, x156_75, x156_76, x156_77, x156_78, x156_79, x156_80, x156_81, x156_82, x156_83, pv_some, pv_none, c1_int, c1_ref, c1_null, true_and, and_true, ne_eq, not_false_eq_true, not_true_eq_false, if_true, if_false, reduceCtorEq, Option.some.injEq, Value.int.injEq, absI_fold, minI_fold, maxI_fold, m_s g, m_r0 g, m_r2 g, m_r3 g, m_r4 g, m_r5 g, m_r7 g, m_r9 g, m_r12 g, m_r13 g, m_r17 g, m_r18 g, m_s45 g, m_s46 g, m_s47 g, m_s48 g, m_s49 g, m_s50 g, m_s51 g, m_s52 g, m_s53 g, m_s54 g, m_s55 g, m_nz, hS_sI, hR_sI, hS_wI, hR_wI, show ib 0 (2, 31) = True from i31 (k := 0) (by decide), c0, mnlt_G A, show ib 1 (2, 31) = True from i31 (k := 1) (by decide), ct1, e1, two_ne, if_true, if_false, true_or, or_true, false_or, or_false, true_and, and_true, false_and, and_false, not_true_eq_false, not_false_eq_true, iff_self, ite_self, ne_eq, true_implies, implies_true, Bool.false_eq_true, decide_true, decide_false, Bool.or_true, Bool.or_false, Bool.true_or, Bool.false_or]
    unfold lawF
    by_cases h1 : aheadF (loM h D) i (gN D) - aheadF (loM h D) i (gN D) / 2 * 2 = 0 <;> simp only [h1, if_true, if_false, true_or, or_true, false_or, or_false, true_and, and_true, false_and, and_false, not_true_eq_false, not_false_eq_true, iff_self, ite_self, ne_eq, true_implies, implies_true, Bool.false_eq_true, decide_true, decide_false, Bool.or_true, Bool.or_false, Bool.true_or, Bool.false_or]
/-- all of them -/
def allB (c : Nat → Bool) (G : Nat) : Bool := foldN (fun j b => b && c j) true G
theorem allB_iff (c : Nat → Bool) : ∀ G, allB c G = true ↔ ∀ j, j < G → c j = true := by
  intro G
  induction G with
  | zero => exact ⟨fun _ j hj => by omega, fun _ => rfl⟩
  | succ G ih =>
    unfold allB at ih ⊢
    rw [foldN, Bool.and_eq_true, ih]
    exact ⟨fun q j hj => by
      by_cases e : j = G
      · rw [e]; exact q.2
      · exact q.1 j (by omega), fun q => ⟨fun j hj => q j (by omega), q G (by omega)⟩⟩
theorem m_law1 (A : MA h D) (hi : i < gN D) : X 157 0 [.ref 44, .int (nI i), .null, .null] [] h Q ↔ Q (some (.int (lawF (loM (asH h) D) (D 1) i (gN D)))) (asH h) := by
  have g := A.1
  have h5 := A.g5
  have gi : ¬ nI i < 0 ∧ ¬ hI h 46 0 - 1 < nI i := by
    rw [A.g0, nI_m1 (by omega), nI_neg (by omega), nI_lt_iff (by omega) (by omega)]
    exact ⟨id, by omega⟩
  simp only [x157_0, x157_1, x157_2, x157_5, x157_6, x157_7, x157_10, x157_13, x157_14, x157_15, x157_16, x157_19, x157_20, x157_23, x157_24, x157_25, x157_28, x157_29, x157_30, x157_31, x157_32, x157_34, x157_35, x157_38, x157_39, x157_40, x157_43, x157_44, x157_47, x157_48, x157_49, x157_52, x157_53, x157_56, x157_57, x157_58, x157_61, x157_62, x157_65, x157_66, x157_67, x157_70, x157_73, x157_74, x157_77, x157_78, x157_81, x157_82, pv_some, pv_none, c1_int, c1_ref, c1_null, true_and, and_true, ne_eq, not_false_eq_true, not_true_eq_false, if_true, if_false, reduceCtorEq, Option.some.injEq, Value.int.injEq, absI_fold, minI_fold, maxI_fold, m_s g, m_isGuest g, bi_zero, gi, m_asItIs g, m_s (as_SF h |>.GM g), nI_neg (show i < 2 ^ 31 by omega), m_lawOf (A.SF (as_SF h)) hi, show (nI i = -1) = False from eq_false (fun q => gi.1 (q ▸ by decide)), if_true, if_false, true_or, or_true, false_or, or_false, true_and, and_true, false_and, and_false, not_true_eq_false, not_false_eq_true, iff_self, ite_self, ne_eq, true_implies, implies_true, Bool.false_eq_true, decide_true, decide_false, Bool.or_true, Bool.or_false, Bool.true_or, Bool.false_or]
theorem m_lawNo (A : MA h D) (hx : x ≠ -1) (hno : ¬ (¬ x < 0 ∧ ¬ hI h 46 0 - 1 < x)) : X 157 0 [.ref 44, .int x, .null, .null] [] h Q ↔ Q (some (.int (-1))) h := by
  have g := A.1
  simp only [x157_0, x157_1, x157_2, x157_5, x157_6, x157_7, x157_10, x157_13, x157_14, x157_15, x157_16, x157_19, x157_20, x157_23, x157_24, x157_25, x157_28, x157_29, x157_30, x157_31, x157_32, x157_34, x157_35, x157_38, x157_39, x157_40, x157_43, x157_44, x157_47, x157_48, x157_49, x157_52, x157_53, x157_56, x157_57, x157_58, x157_61, x157_62, x157_65, x157_66, x157_67, x157_70, x157_73, x157_74, x157_77, x157_78, x157_81, x157_82, pv_some, pv_none, c1_int, c1_ref, c1_null, true_and, and_true, ne_eq, not_false_eq_true, not_true_eq_false, if_true, if_false, reduceCtorEq, Option.some.injEq, Value.int.injEq, absI_fold, minI_fold, maxI_fold, m_s g, m_isGuest g, bi_zero, hno, hx, if_true, if_false, true_or, or_true, false_or, or_false, true_and, and_true, false_and, and_false, not_true_eq_false, not_false_eq_true, iff_self, ite_self, ne_eq, true_implies, implies_true, Bool.false_eq_true, decide_true, decide_false, Bool.or_true, Bool.or_false, Bool.true_or, Bool.false_or]
def lawC (h : aH) (D : Nat → Int32) : Nat → Bool := fun j => decide (lawF (loM h D) (D 1) j (gN D) = hI h 48 j)
theorem m_lawAll (A : MA h D) : X 157 0 [.ref 44, .int (-1), .null, .null] [] h Q ↔ Q (some (.int (bi (allB (lawC (asH h) D) (gN D) = true)))) (asH h) := by
  have g := A.1
  have A' := A.SF (as_SF h)
  refine X_iff ?_ Q
  simp only [x157_0, x157_1, x157_2, x157_5, x157_6, x157_7, x157_10, x157_13, x157_14, x157_15, x157_16, x157_19, x157_20, x157_23, x157_24, x157_25, x157_28, x157_29, x157_30, x157_31, x157_32, x157_34, x157_35, x157_38, x157_39, x157_40, x157_43, x157_44, x157_47, x157_48, x157_49, x157_52, x157_53, x157_56, x157_57, x157_58, x157_61, x157_62, x157_65, x157_66, x157_67, x157_70, x157_73, x157_74, x157_77, x157_78, x157_81, x157_82, pv_some, pv_none, c1_int, c1_ref, c1_null, true_and, and_true, ne_eq, not_false_eq_true, not_true_eq_false, if_true, if_false, reduceCtorEq, Option.some.injEq, Value.int.injEq, absI_fold, minI_fold, maxI_fold, m_s g, m_asItIs g, show ((-1 : Int32) < 0) = True by decide, if_true, if_false, true_or, or_true, false_or, or_false, true_and, and_true, false_and, and_false, not_true_eq_false, not_false_eq_true, iff_self, ite_self, ne_eq, true_implies, implies_true, Bool.false_eq_true, decide_true, decide_false, Bool.or_true, Bool.or_false, Bool.true_or, Bool.false_or]
  generalize asH h = h' at *
  have g' := A'.1
  refine loop_up (P := fun k => X 157 33 [.ref 44, .int (-1), .int (bi (allB (lawC h' D) k = true)), .int (nI k)] [] h' _) (n := gN D) (fun k hk hp => ?_) ?_
  · have hk5 : k < 5 := Nat.lt_of_lt_of_le hk A.g5
    rw [x157_33]
    simp only [x157_0, x157_1, x157_2, x157_5, x157_6, x157_7, x157_10, x157_13, x157_14, x157_15, x157_16, x157_19, x157_20, x157_23, x157_24, x157_25, x157_28, x157_29, x157_30, x157_31, x157_32, x157_34, x157_35, x157_38, x157_39, x157_40, x157_43, x157_44, x157_47, x157_48, x157_49, x157_52, x157_53, x157_56, x157_57, x157_58, x157_61, x157_62, x157_65, x157_66, x157_67, x157_70, x157_73, x157_74, x157_77, x157_78, x157_81, x157_82, pv_some, pv_none, c1_int, c1_ref, c1_null, true_and, and_true, ne_eq, not_false_eq_true, not_true_eq_false, if_true, if_false, reduceCtorEq, Option.some.injEq, Value.int.injEq, absI_fold, minI_fold, maxI_fold, m_s g', m_r2 g', m_r4 g', m_s46 g', m_s48 g', m_nz, show ib 0 (2, 31) = True from i31 (k := 0) (by decide), c0, mlt_G A' hk, m_lawOf A' hk, i10 (show k < 10 by omega), ncl hk5, nI_add1, bi_zero, if_true, if_false, true_or, or_true, false_or, or_false, true_and, and_true, false_and, and_false, not_true_eq_false, not_false_eq_true, iff_self, ite_self, ne_eq, true_implies, implies_true, Bool.false_eq_true, decide_true, decide_false, Bool.or_true, Bool.or_false, Bool.true_or, Bool.false_or]
    unfold allB at hp ⊢
    rw [foldN] at hp
    by_cases h1 : foldN (fun j b => b && lawC h' D j) true k = true
    · by_cases h2 : lawF (loM h' D) (D 1) k (gN D) = hI h' 48 k
      · have : lawC h' D k = true := decide_eq_true h2
        simp only [h1, h2, this, if_true, if_false, true_or, or_true, false_or, or_false, true_and, and_true, false_and, and_false, not_true_eq_false, not_false_eq_true, iff_self, ite_self, ne_eq, true_implies, implies_true, Bool.false_eq_true, decide_true, decide_false, Bool.or_true, Bool.or_false, Bool.true_or, Bool.false_or, Bool.and_self, bi_T] at hp ⊢
        exact hp
      · have : lawC h' D k = false := decide_eq_false h2
        simp only [h1, h2, this, if_true, if_false, true_or, or_true, false_or, or_false, true_and, and_true, false_and, and_false, not_true_eq_false, not_false_eq_true, iff_self, ite_self, ne_eq, true_implies, implies_true, Bool.false_eq_true, decide_true, decide_false, Bool.or_true, Bool.or_false, Bool.true_or, Bool.false_or, Bool.and_false, bi_ff, bi_F] at hp ⊢
        exact hp
    · have : foldN (fun j b => b && lawC h' D j) true k = false := by simpa using h1
      simp only [this, if_true, if_false, true_or, or_true, false_or, or_false, true_and, and_true, false_and, and_false, not_true_eq_false, not_false_eq_true, iff_self, ite_self, ne_eq, true_implies, implies_true, Bool.false_eq_true, decide_true, decide_false, Bool.or_true, Bool.or_false, Bool.true_or, Bool.false_or, Bool.false_and, bi_ff, bi_F] at hp ⊢
      exact hp
  · rw [x157_33]
    simp only [x157_0, x157_1, x157_2, x157_5, x157_6, x157_7, x157_10, x157_13, x157_14, x157_15, x157_16, x157_19, x157_20, x157_23, x157_24, x157_25, x157_28, x157_29, x157_30, x157_31, x157_32, x157_34, x157_35, x157_38, x157_39, x157_40, x157_43, x157_44, x157_47, x157_48, x157_49, x157_52, x157_53, x157_56, x157_57, x157_58, x157_61, x157_62, x157_65, x157_66, x157_67, x157_70, x157_73, x157_74, x157_77, x157_78, x157_81, x157_82, pv_some, pv_none, c1_int, c1_ref, c1_null, true_and, and_true, ne_eq, not_false_eq_true, not_true_eq_false, if_true, if_false, reduceCtorEq, Option.some.injEq, Value.int.injEq, absI_fold, minI_fold, maxI_fold, m_s g', m_r2 g', m_s46 g', m_nz, show ib 0 (2, 31) = True from i31 (k := 0) (by decide), c0, mnlt_G A', bi_zero, if_true, if_false, true_or, or_true, false_or, or_false, true_and, and_true, false_and, and_false, not_true_eq_false, not_false_eq_true, iff_self, ite_self, ne_eq, true_implies, implies_true, Bool.false_eq_true, decide_true, decide_false, Bool.or_true, Bool.or_false, Bool.true_or, Bool.false_or]
    unfold bi
    by_cases h1 : allB (lawC h' D) (gN D) = true <;> simp only [h1, if_true, if_false, true_or, or_true, false_or, or_false, true_and, and_true, false_and, and_false, not_true_eq_false, not_false_eq_true, iff_self, ite_self, ne_eq, true_implies, implies_true, Bool.false_eq_true, decide_true, decide_false, Bool.or_true, Bool.or_false, Bool.true_or, Bool.false_or]
end MOD8
