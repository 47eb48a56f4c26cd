/-! THE CLASS'S CONSTRUCTOR -/
section INIT
variable {h : aH} {Q : Option Value → aH → Prop}
theorem j1_I (e : hN h = 4) {a : Nat} (j : Nat) (ha : a < 4) : hI (j1 h) a j = hI h a j := by
  simp only [j1, iT, hI_sR, hI_sI, hI_nw, hN_sR, hN_sI, hN_nw, e, Nat.reduceAdd, Nat.reduceMul]
  repeat rw [if_neg (by omega)]
theorem j1_4 (e : hN h = 4) : hI (j1 h) 4 1 = 0 := by
  simp only [j1, iT, hI_sR, hI_sI, hI_nw, hN_sR, hN_sI, hN_nw, e, Nat.reduceAdd, Nat.reduceMul]
  repeat rw [if_neg (by omega)]
  rw [if_pos trivial]
theorem j2_I (e : hN h = 4) {a : Nat} (j : Nat) (ha : a < 7) : hI (j2 h) a j = hI (j1 h) a j := by
  simp only [j2, iR, hI_sR, hI_sI, hI_nw, hN_sR, hN_sI, hN_nw, j1_N e, Nat.reduceAdd, Nat.reduceMul]
  repeat rw [if_neg (by omega)]
theorem j3_I (e : hN h = 4) {a : Nat} (j : Nat) (ha : a < 11) : hI (j3 h) a j = hI (j2 h) a j := by
  simp only [j3, hI_sR, hI_sI, hI_nw, hN_sR, hN_sI, hN_nw, j2_N e, Nat.reduceAdd, Nat.reduceMul]
  repeat rw [if_neg (by omega)]
theorem j4_I (e : hN h = 4) {a : Nat} (j : Nat) (ha : a < 12) : hI (j4 h) a j = hI (j3 h) a j := by
  simp only [j4, iS, iL, hI_sR, hI_sI, hI_nw, hN_sR, hN_sI, hN_nw, j3_N e, Nat.reduceAdd, Nat.reduceMul]
  repeat rw [if_neg (by omega)]
theorem j5_I (e : hN h = 4) {a : Nat} (j : Nat) (ha : a < 18) : hI (j5 h) a j = hI (j4 h) a j := by
  simp only [j5, iH, hI_sR, hI_sI, hI_nw, hN_sR, hN_sI, hN_nw, j4_N e, Nat.reduceAdd, Nat.reduceMul]
  repeat rw [if_neg (by omega)]
theorem j5_0 (e : hN h = 4) : hI (j5 h) 18 0 = nI 8 := by
  simp only [j5, iH, hI_sR, hI_sI, hI_nw, hN_sR, hN_sI, hN_nw, j4_N e, Nat.reduceAdd, Nat.reduceMul]
  rw [if_neg (by omega), if_pos ⟨trivial, trivial⟩]
theorem j5_2 (e : hN h = 4) : hI (j5 h) 18 2 = 0 := by
  simp only [j5, iH, hI_sR, hI_sI, hI_nw, hN_sR, hN_sI, hN_nw, j4_N e, Nat.reduceAdd, Nat.reduceMul]
  rw [if_neg (by omega), if_neg (by omega), if_pos trivial]
theorem j6_I (e : hN h = 4) {a : Nat} (j : Nat) (ha : a < 20) : hI (j6 h) a j = hI (j5 h) a j := by
  simp only [j6, iH, hI_sR, hI_sI, hI_nw, hN_sR, hN_sI, hN_nw, j5_N e, Nat.reduceAdd, Nat.reduceMul]
  repeat rw [if_neg (by omega)]
theorem j6_0 (e : hN h = 4) : hI (j6 h) 20 0 = nI 2 := by
  simp only [j6, iH, hI_sR, hI_sI, hI_nw, hN_sR, hN_sI, hN_nw, j5_N e, Nat.reduceAdd, Nat.reduceMul]
  rw [if_neg (by omega), if_pos ⟨trivial, trivial⟩]
theorem j6_2 (e : hN h = 4) : hI (j6 h) 20 2 = 0 := by
  simp only [j6, iH, hI_sR, hI_sI, hI_nw, hN_sR, hN_sI, hN_nw, j5_N e, Nat.reduceAdd, Nat.reduceMul]
  rw [if_neg (by omega), if_neg (by omega), if_pos trivial]
theorem j7_I (e : hN h = 4) {a : Nat} (j : Nat) (ha : a < 22) : hI (j7 h) a j = hI (j6 h) a j := by
  simp only [j7, iL, hI_sR, hI_sI, hI_nw, hN_sR, hN_sI, hN_nw, j6_N e, Nat.reduceAdd, Nat.reduceMul]
  repeat rw [if_neg (by omega)]
theorem j8_I (e : hN h = 4) {a : Nat} (j : Nat) (ha : a < 24) : hI (j8 h) a j = hI (j7 h) a j := by
  simp only [j8, iL, hI_sR, hI_sI, hI_nw, hN_sR, hN_sI, hN_nw, j7_N e, Nat.reduceAdd, Nat.reduceMul]
  repeat rw [if_neg (by omega)]
theorem j9_I (e : hN h = 4) {a : Nat} (j : Nat) (ha : a < 26) : hI (j9 h) a j = hI (j8 h) a j := by
  simp only [j9, iI, hI_sR, hI_sI, hI_nw, hN_sR, hN_sI, hN_nw, j8_N e, Nat.reduceAdd, Nat.reduceMul]
  repeat rw [if_neg (by omega)]
theorem j10_I (e : hN h = 4) {a : Nat} (j : Nat) (ha : a < 32) : hI (j10 h) a j = hI (j9 h) a j := by
  simp only [j10, iI, hI_sR, hI_sI, hI_nw, hN_sR, hN_sI, hN_nw, j9_N e, Nat.reduceAdd, Nat.reduceMul]
  repeat rw [if_neg (by omega)]
theorem j11_I (e : hN h = 4) {a : Nat} (j : Nat) (ha : a < 38) : hI (j11 h) a j = hI (j10 h) a j := by
  simp only [j11, iI, hI_sR, hI_sI, hI_nw, hN_sR, hN_sI, hN_nw, j10_N e, Nat.reduceAdd, Nat.reduceMul]
  repeat rw [if_neg (by omega)]
theorem made_4 (e : hN h = 4) : hI (j11 h) 4 1 = nI 0 := by
  rw [j11_I e 1 (by decide), j10_I e 1 (by decide), j9_I e 1 (by decide), j8_I e 1 (by decide), j7_I e 1 (by decide), j6_I e 1 (by decide), j5_I e 1 (by decide), j4_I e 1 (by decide), j3_I e 1 (by decide), j2_I e 1 (by decide), j1_4 e]
  rfl
theorem made_18 (e : hN h = 4) : hI (j11 h) 18 0 = nI 8 ∧ hI (j11 h) 18 2 = nI 0 := by
  refine ⟨?_, ?_⟩
  · rw [j11_I e 0 (by decide), j10_I e 0 (by decide), j9_I e 0 (by decide), j8_I e 0 (by decide), j7_I e 0 (by decide), j6_I e 0 (by decide), j5_0 e]
  · rw [j11_I e 2 (by decide), j10_I e 2 (by decide), j9_I e 2 (by decide), j8_I e 2 (by decide), j7_I e 2 (by decide), j6_I e 2 (by decide), j5_2 e]
    rfl
theorem made_20 (e : hN h = 4) : hI (j11 h) 20 0 = nI 2 ∧ hI (j11 h) 20 2 = nI 0 := by
  refine ⟨?_, ?_⟩
  · rw [j11_I e 0 (by decide), j10_I e 0 (by decide), j9_I e 0 (by decide), j8_I e 0 (by decide), j7_I e 0 (by decide), j6_0 e]
  · rw [j11_I e 2 (by decide), j10_I e 2 (by decide), j9_I e 2 (by decide), j8_I e 2 (by decide), j7_I e 2 (by decide), j6_2 e]
    rfl
theorem made_89 (e : hN h = 4) : hR (j11 h) 3 8 = 26 ∧ hR (j11 h) 3 9 = 32 := by
  refine ⟨?_, ?_⟩
  · simp only [j11_R e, j10_R e, j9_R e]
    rfl
  · simp only [j11_R e, j10_R e]
    rfl
/-- the text typed -/
def tx0 (p : Nat) : Int32 := txtB.getD p 0
def txH (h : aH) (k : Nat) : aH := wI h (fun b j => if b = 5 ∧ j < k then tx0 j else if b = 4 ∧ j = 1 then nI k else hI h b j)
theorem tx_S (h : aH) (k : Nat) : hS (txH h k) = hS h := by unfold txH; rw [hS_wI]
theorem tx_R (h : aH) (k : Nat) : hR (txH h k) = hR h := by unfold txH; rw [hR_wI]
theorem tx_add (h : aH) (k : Nat) : sI (sI (txH h k) 5 k (tx0 k)) 4 1 (nI (k + 1)) = txH h (k + 1) := by
  refine (aH_ext (by simp only [hN_sI, hN_cpI, hN_wI, txH]) (by simp only [hZ_sI, hZ_cpI, hZ_wI, txH]) (by simp only [hS_sI, hS_cpI, hS_wI, txH]) (by simp only [hR_sI, hR_cpI, hR_wI, txH]) (fun b j => ?_))
  unfold txH
  simp only [hI_sI, hI_wI]
  grind
theorem c_initText (g : GS h) (e : hI h 4 1 = nI 0) : X 80 128 [.ref 3, .null] [] h Q ↔ X 80 159 [.ref 3, .int (nI 60)] [] (txH h 60) Q := by
  have e0 : txH h 0 = h := aH_ext rfl rfl rfl rfl (fun b j => by
    unfold txH
    rw [hI_wI, if_neg (by omega)]
    by_cases q : b = 4 ∧ j = 1
    · rw [if_pos q, q.1, q.2, e]
    · rw [if_neg q])
  have up : ∀ k, k ≤ 60 → (X 80 128 [.ref 3, .null] [] h Q ↔ X 80 130 [.ref 3, .int (nI k)] [] (txH h k) Q) := by
    intro k
    induction k with
    | zero =>
      intro _
      rw [e0]
      simp only [x80_128, x80_129, pv_some, pv_none, c1_int, c1_ref, c1_null, true_and, and_true, ne_eq, not_false_eq_true, not_true_eq_false, if_true, if_false, reduceCtorEq, Option.some.injEq, Value.int.injEq, absI_fold, minI_fold, maxI_fold, if_true, if_false, true_or, or_true, false_or, or_false, true_and, and_true, false_and, and_false, not_true_eq_false, not_false_eq_true, iff_self, ite_self, ne_eq, true_implies, implies_true, Bool.false_eq_true, decide_true, decide_false, Bool.or_true, Bool.or_false, Bool.true_or, Bool.false_or]
      rfl
    | succ k ih =>
      intro hk
      rw [ih (by omega)]
      have gk : GS (txH h k) := g
      have T : TxAt (txH h k) k := ⟨gk, by unfold txH; rw [hI_wI, if_neg (by omega), if_pos ⟨rfl, rfl⟩], by omega⟩
      have lt : (nI k < 60) = True := eq_true (nI_lt (b := 60) (by omega) (by decide))
      have rg : (0 ≤ nI k) = True := eq_true (Int32.not_lt.mp (nI_pos (by omega)))
      have ch : txtB.getD (nI k).toNatClampNeg 0 = tx0 k := by rw [nI_cl (by omega)]; rfl
      rw [x80_130]
      simp only [x80_131, x80_133, x80_136, x80_139, x80_140, x80_143, x80_145, x80_146, x80_149, x80_152, x80_153, x80_156, pv_some, pv_none, c1_int, c1_ref, c1_null, true_and, and_true, ne_eq, not_false_eq_true, not_true_eq_false, if_true, if_false, reduceCtorEq, Option.some.injEq, Value.int.injEq, absI_fold, minI_fold, maxI_fold, lt, rg, ch, b_s gk, b_r0 gk, m_nz, cs4 gk, k_txAdd T, show k < 200 by omega, tx_add, nI_add1, if_true, if_false, true_or, or_true, false_or, or_false, true_and, and_true, false_and, and_false, not_true_eq_false, not_false_eq_true, iff_self, ite_self, ne_eq, true_implies, implies_true, Bool.false_eq_true, decide_true, decide_false, Bool.or_true, Bool.or_false, Bool.true_or, Bool.false_or]
  rw [up 60 (by omega), x80_130]
  simp only [x80_131, x80_133, x80_136, pv_some, pv_none, c1_int, c1_ref, c1_null, true_and, and_true, ne_eq, not_false_eq_true, not_true_eq_false, if_true, if_false, reduceCtorEq, Option.some.injEq, Value.int.injEq, absI_fold, minI_fold, maxI_fold, show (nI 60 < 60) = False by decide, if_true, if_false, true_or, or_true, false_or, or_false, true_and, and_true, false_and, and_false, not_true_eq_false, not_false_eq_true, iff_self, ite_self, ne_eq, true_implies, implies_true, Bool.false_eq_true, decide_true, decide_false, Bool.or_true, Bool.or_false, Bool.true_or, Bool.false_or]
def PR0 : Option Nat × (Nat → Int32) := parseF (ltr tx0 60) 60 201 0 D0
theorem PR0_1 : PR0.1 = none := by decide +kernel
theorem PR0_2 : allB (fun j => decide (PR0.2 j = [4, 6, 8, 7, 8, 1, 0, 1, 2, 3, 0, 12, 8, 10, 6, 0, 3, 7, 0, 10, 0, 9, 6, 14, 5, 0, 0, 1, 3, 4, 0].getD j 0)) 31 = true := by decide +kernel
theorem PR0_v {j : Nat} (hj : j < 31) : PR0.2 j = [4, 6, 8, 7, 8, 1, 0, 1, 2, 3, 0, 12, 8, 10, 6, 0, 3, 7, 0, 10, 0, 9, 6, 14, 5, 0, 0, 1, 3, 4, 0].getD j 0 := of_decide_eq_true ((allB_iff _ _).mp PR0_2 j hj)
theorem PR0_0 : PR0.2 0 = nI 4 := PR0_v (by decide)
theorem PR0_6 : PR0.2 1 = nI 6 := PR0_v (by decide)
theorem PR0_G : gN PR0.2 = 4 := by
  unfold gN
  rw [PR0_0]
  decide
theorem ltr_tx (h : aH) : ltr (hI (txH h 60) 5) 60 = ltr tx0 60 := by
  funext p
  unfold ltr
  by_cases c : p < 60
  · rw [if_pos c, if_pos c]
    unfold txH
    rw [hI_wI, if_pos ⟨rfl, c⟩]
  · rw [if_neg c, if_neg c]
theorem c_init (e : hN h = 4) (e3 : hS h 3 = (1, 7)) : ∃ h2, GS h2 ∧ orOk h2 26 32 ∧ hN h2 = 44 ∧ hI h2 18 0 = nI 8 ∧ hI h2 20 0 = nI 2 ∧ ID h2 32 PR0.2 ∧ DW PR0.2 ∧ ∀ Q : Option Value → aH → Prop, X 80 0 [.ref 3, .null] [] h Q ↔ Q none (sI (miH h2 26 32 4 6) 4 1 0) := by
  have g := made_GS e e3
  have q89 := made_89 e
  have q18 := made_18 e
  have q20 := made_20 e
  have q4 := made_4 e
  have s0 : ∀ Q : Option Value → aH → Prop, X 80 0 [.ref 3, .null] [] h Q ↔ X 80 128 [.ref 3, .null] [] (j11 h) Q := by
    intro Q
    have s0 : X 80 0 [.ref 3, .null] [] h Q ↔ X 80 4 [.ref 3, .null] [] h Q := by
      simp only [x80_0, x80_1, pv_some, pv_none, c1_int, c1_ref, c1_null, true_and, and_true, ne_eq, not_false_eq_true, not_true_eq_false, if_true, if_false, reduceCtorEq, Option.some.injEq, Value.int.injEq, absI_fold, minI_fold, maxI_fold, if_true, if_false, true_or, or_true, false_or, or_false, true_and, and_true, false_and, and_false, not_true_eq_false, not_false_eq_true, iff_self, ite_self, ne_eq, true_implies, implies_true, Bool.false_eq_true, decide_true, decide_false, Bool.or_true, Bool.or_false, Bool.true_or, Bool.false_or]
    rw [s0, st1 e e3, st2 e e3, st3 e e3, st4 e e3, st5 e e3, st6 e e3, st7 e e3, st8 e e3, st9 e e3, st10 e e3, st11 e e3]
  have jN : hN (j11 h) = 44 := j11_N e
  generalize j11 h = H at *
  have gt : GS (txH H 60) := GS_of g (tx_S _ _) (tx_R _ _)
  have T : TxAt (txH H 60) 60 := ⟨gt, by unfold txH; rw [hI_wI, if_neg (by omega), if_pos ⟨rfl, rfl⟩], by omega⟩
  obtain ⟨h2, f2, M2, k2⟩ := k_readInto T (show isInn 32 from Or.inr (Or.inl rfl))
  have ep : parseF (ltr (hI (txH H 60) 5) 60) 60 201 0 D0 = PR0 := by rw [ltr_tx]; rfl
  rw [ep] at M2 k2
  obtain ⟨I2, W2⟩ := M2 PR0_1
  have g2 := f2.GS gt
  have R2 : ∀ b k, hR h2 b k = hR H b k := fun b k => by rw [f2.1, hR_wI, tx_R]
  have w2 : orOk h2 26 32 := ⟨by rw [R2]; exact q89.1, by rw [R2]; exact q89.2, Or.inl ⟨rfl, rfl⟩⟩
  have sh : ∀ b j, b = 18 ∨ b = 20 → hI h2 b j = hI H b j := fun b j q => by
    rw [f2.2 b j (by omega) (by omega) (by omega)]
    unfold txH
    rw [hI_wI, if_neg (by omega), if_neg (by omega)]
  have S1 : ShAt h2 18 8 0 := ⟨g2, Or.inl ⟨rfl, rfl⟩, by rw [sh 18 0 (by omega)]; exact q18.1, by rw [sh 18 2 (by omega)]; exact q18.2, by omega⟩
  have S2 : ShAt h2 20 2 0 := ⟨g2, Or.inr ⟨rfl, rfl⟩, by rw [sh 20 0 (by omega)]; exact q20.1, by rw [sh 20 2 (by omega)]; exact q20.2, by omega⟩
  have km := fun Q : Option Value → aH → Prop => c_moveIn (Q := Q) g2 w2 I2 W2 PR0_6 ⟨by decide, by decide, by rw [PR0_G]; decide⟩ S1 S2
  rw [PR0_G] at km
  have gm : GS (miH h2 26 32 4 6) := mi_GS g2 w2
  have h39 : hR (txH H 60) 3 9 = 32 := by rw [tx_R]; exact q89.2
  refine ⟨h2, g2, w2, by rw [f2.1, hN_wI]; unfold txH; rw [hN_wI]; exact jN, by rw [sh 18 0 (by omega)]; exact q18.1, by rw [sh 20 0 (by omega)]; exact q20.1, I2, W2, fun Q => ?_⟩
  rw [s0, c_initText g q4]
  simp only [x80_159, x80_160, x80_163, x80_164, x80_167, x80_170, x80_172, x80_175, x80_176, x80_179, x80_180, x80_183, x80_186, pv_some, pv_none, c1_int, c1_ref, c1_null, true_and, and_true, ne_eq, not_false_eq_true, not_true_eq_false, if_true, if_false, reduceCtorEq, Option.some.injEq, Value.int.injEq, absI_fold, minI_fold, maxI_fold, b_s gt, b_r0 gt, m_nz, h39, cs4 gt, k2, PR0_1, fltA, b_s g2, km, b_s gm, b_r0 gm, cs4 gm, k_txClear gm, if_true, if_false, true_or, or_true, false_or, or_false, true_and, and_true, false_and, and_false, not_true_eq_false, not_false_eq_true, iff_self, ite_self, ne_eq, true_implies, implies_true, Bool.false_eq_true, decide_true, decide_false, Bool.or_true, Bool.or_false, Bool.true_or, Bool.false_or]
end INIT
