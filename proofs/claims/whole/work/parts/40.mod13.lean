/-! THE REFERENCE: codes of ways to lie -/
def codeN (L : Nat → Nat) (G : Nat) : Nat := foldN (fun i c => 6 * c + L i) 0 G
section MOD13
variable {h : aH} {D : Nat → Int32} {i j k z n nb : Nat} {Q : Option Value → aH → Prop} {x y b : Int32} {L : Nat → Nat}
theorem m_codes (A : MA h D) : X 160 0 [.ref 44, .null, .null] [] h Q ↔ Q (some (.int (nI (6 ^ gN D)))) h := by
  have g := A.1
  refine X_iff ?_ Q
  simp only [x160_0, x160_1, x160_2, x160_3, x160_5, x160_6, x160_9, x160_10, x160_11, x160_14, x160_15, x160_17, x160_18, x160_19, x160_22, x160_25, x160_26, pv_some, pv_none, c1_int, c1_ref, c1_null, true_and, and_true, ne_eq, not_false_eq_true, not_true_eq_false, if_true, if_false, reduceCtorEq, Option.some.injEq, Value.int.injEq, absI_fold, minI_fold, maxI_fold]
  refine loop_up (P := fun k => X 160 4 [.ref 44, .int (nI (6 ^ k)), .int (nI k)] [] h _) (n := gN D) (fun k hk hp => ?_) ?_
  · rw [x160_4]
    simp only [x160_0, x160_1, x160_2, x160_3, x160_5, x160_6, x160_9, x160_10, x160_11, x160_14, x160_15, x160_17, x160_18, x160_19, x160_22, x160_25, x160_26, pv_some, pv_none, c1_int, c1_ref, c1_null, true_and, and_true, ne_eq, not_false_eq_true, not_true_eq_false, if_true, if_false, reduceCtorEq, Option.some.injEq, Value.int.injEq, absI_fold, minI_fold, maxI_fold, m_s g, m_r0 g, m_r2 g, m_r3 g, m_r4 g, m_r5 g, m_r7 g, m_r9 g, m_r12 g, m_r13 g, m_r17 g, m_r18 g, m_s45 g, m_s46 g, m_s47 g, m_s48 g, m_s49 g, m_s50 g, m_s51 g, m_s52 g, m_s53 g, m_s54 g, m_s55 g, m_nz, hS_sI, hR_sI, hS_wI, hR_wI, show ib 0 (2, 31) = True from i31 (k := 0) (by decide), c0, mlt_G A hk, show (6 : Int32) = nI 6 from rfl, nI_mul, ← Nat.pow_succ, nI_add1, if_true, if_false, true_or, or_true, false_or, or_false, true_and, and_true, false_and, and_false, not_true_eq_false, not_false_eq_true, iff_self, ite_self, ne_eq, true_implies, implies_true, Bool.false_eq_true, decide_true, decide_false, Bool.or_true, Bool.or_false, Bool.true_or, Bool.false_or]
    exact hp
  · rw [x160_4]
    simp only [x160_0, x160_1, x160_2, x160_3, x160_5, x160_6, x160_9, x160_10, x160_11, x160_14, x160_15, x160_17, x160_18, x160_19, x160_22, x160_25, x160_26, pv_some, pv_none, c1_int, c1_ref, c1_null, true_and, and_true, ne_eq, not_false_eq_true, not_true_eq_false, if_true, if_false, reduceCtorEq, Option.some.injEq, Value.int.injEq, absI_fold, minI_fold, maxI_fold, m_s g, m_r0 g, m_r2 g, m_r3 g, m_r4 g, m_r5 g, m_r7 g, m_r9 g, m_r12 g, m_r13 g, m_r17 g, m_r18 g, m_s45 g, m_s46 g, m_s47 g, m_s48 g, m_s49 g, m_s50 g, m_s51 g, m_s52 g, m_s53 g, m_s54 g, m_s55 g, m_nz, hS_sI, hR_sI, hS_wI, hR_wI, show ib 0 (2, 31) = True from i31 (k := 0) (by decide), c0, mnlt_G A, if_true, if_false, true_or, or_true, false_or, or_false, true_and, and_true, false_and, and_false, not_true_eq_false, not_false_eq_true, iff_self, ite_self, ne_eq, true_implies, implies_true, Bool.false_eq_true, decide_true, decide_false, Bool.or_true, Bool.or_false, Bool.true_or, Bool.false_or]
theorem m_codeOf (A : MA h D) (hL : ∀ i, i < gN D → hI h 52 i = nI (L i)) : X 158 0 [.ref 44, .null, .null] [] h Q ↔ Q (some (.int (nI (codeN L (gN D))))) h := by
  have g := A.1
  have h5 := A.g5
  refine X_iff ?_ Q
  simp only [x158_0, x158_1, x158_2, x158_3, x158_5, x158_6, x158_9, x158_10, x158_11, x158_14, x158_16, x158_17, x158_18, x158_19, x158_22, x158_23, x158_24, x158_25, x158_26, x158_29, x158_32, x158_33, pv_some, pv_none, c1_int, c1_ref, c1_null, true_and, and_true, ne_eq, not_false_eq_true, not_true_eq_false, if_true, if_false, reduceCtorEq, Option.some.injEq, Value.int.injEq, absI_fold, minI_fold, maxI_fold]
  refine loop_up (P := fun k => X 158 4 [.ref 44, .int (nI (codeN L k)), .int (nI k)] [] h _) (n := gN D) (fun k hk hp => ?_) ?_
  · rw [x158_4]
    simp only [x158_0, x158_1, x158_2, x158_3, x158_5, x158_6, x158_9, x158_10, x158_11, x158_14, x158_16, x158_17, x158_18, x158_19, x158_22, x158_23, x158_24, x158_25, x158_26, x158_29, x158_32, x158_33, pv_some, pv_none, c1_int, c1_ref, c1_null, true_and, and_true, ne_eq, not_false_eq_true, not_true_eq_false, if_true, if_false, reduceCtorEq, Option.some.injEq, Value.int.injEq, absI_fold, minI_fold, maxI_fold, m_s g, m_r0 g, m_r2 g, m_r3 g, m_r4 g, m_r5 g, m_r7 g, m_r9 g, m_r12 g, m_r13 g, m_r17 g, m_r18 g, m_s45 g, m_s46 g, m_s47 g, m_s48 g, m_s49 g, m_s50 g, m_s51 g, m_s52 g, m_s53 g, m_s54 g, m_s55 g, m_nz, hS_sI, hR_sI, hS_wI, hR_wI, show ib 0 (2, 31) = True from i31 (k := 0) (by decide), c0, mlt_G A hk, show (6 : Int32) = nI 6 from rfl, nI_mul, i5 (show k < 5 by omega), ncl (show k < 5 by omega), hL k hk, nI_addn, nI_add1, if_true, if_false, true_or, or_true, false_or, or_false, true_and, and_true, false_and, and_false, not_true_eq_false, not_false_eq_true, iff_self, ite_self, ne_eq, true_implies, implies_true, Bool.false_eq_true, decide_true, decide_false, Bool.or_true, Bool.or_false, Bool.true_or, Bool.false_or]
    exact hp
  · rw [x158_4]
    simp only [x158_0, x158_1, x158_2, x158_3, x158_5, x158_6, x158_9, x158_10, x158_11, x158_14, x158_16, x158_17, x158_18, x158_19, x158_22, x158_23, x158_24, x158_25, x158_26, x158_29, x158_32, x158_33, pv_some, pv_none, c1_int, c1_ref, c1_null, true_and, and_true, ne_eq, not_false_eq_true, not_true_eq_false, if_true, if_false, reduceCtorEq, Option.some.injEq, Value.int.injEq, absI_fold, minI_fold, maxI_fold, m_s g, m_r0 g, m_r2 g, m_r3 g, m_r4 g, m_r5 g, m_r7 g, m_r9 g, m_r12 g, m_r13 g, m_r17 g, m_r18 g, m_s45 g, m_s46 g, m_s47 g, m_s48 g, m_s49 g, m_s50 g, m_s51 g, m_s52 g, m_s53 g, m_s54 g, m_s55 g, m_nz, hS_sI, hR_sI, hS_wI, hR_wI, show ib 0 (2, 31) = True from i31 (k := 0) (by decide), c0, mnlt_G A, if_true, if_false, true_or, or_true, false_or, or_false, true_and, and_true, false_and, and_false, not_true_eq_false, not_false_eq_true, iff_self, ite_self, ne_eq, true_implies, implies_true, Bool.false_eq_true, decide_true, decide_false, Bool.or_true, Bool.or_false, Bool.true_or, Bool.false_or]
theorem codeN_lt (hL : ∀ i, i < n → L i < 6) : codeN L n < 6 ^ n := by
  induction n with
  | zero => exact (show 0 < 1 by decide)
  | succ n ih =>
    have h1 := ih (fun i hi => hL i (by omega))
    have h2 := hL n (by omega)
    show 6 * codeN L n + L n < 6 ^ (n + 1)
    rw [Nat.pow_succ]
    omega
/-- who may be carried where, in the reference's scratch -/
def mayB (L : Nat → Nat) (Lt : Nat → Int32) (po : Int32) (i b : Nat) (j : Nat) : Bool := !decide (L j = b) && (!decide ((L i < L j ∧ L j < b) ∨ (L j < L i ∧ b < L j)) || decide (po < Lt j))
end MOD13
