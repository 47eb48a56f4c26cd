/-! TEXT: its letters, its numbers -/
def ltr (tx : Nat → Int32) (n p : Nat) : Int32 := if p < n then tx p else 0
def dig (c : Int32) : Bool := !decide (c < 48) && !decide (57 < c)
/-- the number that begins at p, and the place behind it -/
def vlF (c : Nat → Int32) (p : Nat) : Int32 := if dig (c (p + 1)) = true then (c p - 48) * 10 + c (p + 1) - 48 else c p - 48
def nxF (c : Nat → Int32) (p : Nat) : Nat := if dig (c (p + 1)) = true then p + 2 else p + 1
def psF (c : Nat → Int32) (p : Nat) : Nat → Nat
  | 0 => p
  | k + 1 => nxF c (psF c p k) + 1
/-- at most r numbers from p on: the place behind the semicolon, how many -/
def rdR (c : Nat → Int32) : Nat → Nat → Option (Nat × Nat)
  | 0, _ => none
  | r + 1, p => if dig (c p) = true then (if c (nxF c p) = 59 then some (nxF c p + 1, 1) else if c (nxF c p) = 44 then (rdR c r (nxF c p + 1)).map (fun q => (q.1, q.2 + 1)) else none) else none
/-- what their reading writes -/
def rdH (c : Nat → Int32) : Nat → Nat → Nat → aH → aH
  | 0, _, _, h => h
  | r + 1, p, k, h => if dig (c p) = true then (if c (nxF c p) = 59 then sI (sI h 6 k (vlF c p)) 4 3 (nI (k + 1)) else if c (nxF c p) = 44 then rdH c r (nxF c p + 1) (k + 1) (sI (sI h 6 k (vlF c p)) 4 3 (nI (k + 1))) else sI (sI h 6 k (vlF c p)) 4 3 (nI (k + 1))) else h
def rdA (o : Option (Nat × Nat)) : Int32 := match o with
  | some q => nI q.1
  | none => -4
/-- a text of n letters -/
def TxAt (h : aH) (n : Nat) : Prop := GS h ∧ hI h 4 1 = nI n ∧ n ≤ 200
section TEXT
variable {h : aH} {a n p k : Nat} {Q : Option Value → aH → Prop} {x y : Int32}
theorem tx_s (g : GS h) : hS h 4 = (1, 5) := g.1 _ (by decide) (by decide)
theorem tx_s5 (g : GS h) : hS h 5 = (2, 200) := g.1 _ (by decide) (by decide)
theorem tx_r0 (g : GS h) : hR h 4 0 = 5 := g.2.1 _ _ (by decide) (by decide)
theorem tx_r2 (g : GS h) : hR h 4 2 = 6 := g.2.1 _ _ (by decide) (by decide)
theorem n5z : ((5 : Nat) = 0) = False := by decide
theorem n6z : ((6 : Nat) = 0) = False := by decide
theorem k_txLength (g : GS h) : X 66 0 [.ref 4] [] h Q ↔ Q (some (.int (hI h 4 1))) h := by
  simp only [x66_0, x66_1, x66_4, pv_some, pv_none, c1_int, c1_ref, c1_null, true_and, and_true, ne_eq, not_false_eq_true, not_true_eq_false, if_true, if_false, reduceCtorEq, Option.some.injEq, Value.int.injEq, absI_fold, minI_fold, maxI_fold, tx_s g]
theorem k_txClear (g : GS h) : X 67 0 [.ref 4] [] h Q ↔ Q none (sI h 4 1 0) := by
  simp only [x67_0, x67_1, x67_2, x67_5, pv_some, pv_none, c1_int, c1_ref, c1_null, true_and, and_true, ne_eq, not_false_eq_true, not_true_eq_false, if_true, if_false, reduceCtorEq, Option.some.injEq, Value.int.injEq, absI_fold, minI_fold, maxI_fold, tx_s g]
theorem k_txAdd (T : TxAt h n) : X 68 0 [.ref 4, .int x] [] h Q ↔ if n < 200 then Q (some (.int 1)) (sI (sI h 5 n x) 4 1 (nI (n + 1))) else Q (some (.int 0)) h := by
  obtain ⟨g, h1, h2⟩ := T
  by_cases hn : n < 200
  · simp only [x68_0, x68_1, x68_4, x68_5, x68_8, x68_9, x68_12, x68_13, x68_14, x68_15, x68_18, x68_19, x68_22, x68_23, x68_24, x68_25, x68_26, x68_29, x68_30, x68_31, x68_34, x68_35, pv_some, pv_none, c1_int, c1_ref, c1_null, true_and, and_true, ne_eq, not_false_eq_true, not_true_eq_false, if_true, if_false, reduceCtorEq, Option.some.injEq, Value.int.injEq, absI_fold, minI_fold, maxI_fold, tx_s g, tx_r0 g, tx_s5 g, h1, n5z, show (nI n < Int32.ofNat 200) = True from eq_true (nI_lt hn (by decide)), show ibw (nI n) (2, 200) = True from eq_true (ibw_nI hn (by decide)), nI_cl (show n < 2 ^ 31 by omega), hS_sI, hR_sI, hI_sI, show ((4 : Nat) = 5) = False by decide, nI_add1, hn, one_ne, if_true, if_false, true_or, or_true, false_or, or_false, true_and, and_true, false_and, and_false, not_true_eq_false, not_false_eq_true, iff_self, ite_self, ne_eq, true_implies, implies_true, Bool.false_eq_true, decide_true, decide_false, Bool.or_true, Bool.or_false, Bool.true_or, Bool.false_or]
  · simp only [x68_0, x68_1, x68_4, x68_5, x68_8, x68_9, x68_12, x68_13, x68_14, x68_15, x68_18, x68_19, x68_22, x68_23, x68_24, x68_25, x68_26, x68_29, x68_30, x68_31, x68_34, x68_35, pv_some, pv_none, c1_int, c1_ref, c1_null, true_and, and_true, ne_eq, not_false_eq_true, not_true_eq_false, if_true, if_false, reduceCtorEq, Option.some.injEq, Value.int.injEq, absI_fold, minI_fold, maxI_fold, tx_s g, tx_r0 g, tx_s5 g, h1, n5z, show (nI n < Int32.ofNat 200) = False from eq_false (nI_nlt (show 200 ≤ n by omega) (by omega)), hn, if_true, if_false, true_or, or_true, false_or, or_false, true_and, and_true, false_and, and_false, not_true_eq_false, not_false_eq_true, iff_self, ite_self, ne_eq, true_implies, implies_true, Bool.false_eq_true, decide_true, decide_false, Bool.or_true, Bool.or_false, Bool.true_or, Bool.false_or]
theorem k_letterAt (T : TxAt h n) (hp : p < 1000) : X 70 0 [.ref 4, .int (nI p)] [] h Q ↔ Q (some (.int (ltr (hI h 5) n p))) h := by
  obtain ⟨g, h1, h2⟩ := T
  unfold ltr
  by_cases hn : p < n
  · simp only [x70_0, x70_1, x70_4, x70_5, x70_6, x70_9, x70_12, x70_13, x70_14, x70_17, x70_18, x70_21, x70_22, x70_25, x70_26, x70_27, x70_30, x70_31, pv_some, pv_none, c1_int, c1_ref, c1_null, true_and, and_true, ne_eq, not_false_eq_true, not_true_eq_false, if_true, if_false, reduceCtorEq, Option.some.injEq, Value.int.injEq, absI_fold, minI_fold, maxI_fold, tx_s g, tx_r0 g, tx_s5 g, h1, n5z, nI_neg (show p < 2 ^ 31 by omega), nI_lt_iff (show p < 2 ^ 31 by omega) (show n < 2 ^ 31 by omega), hn, show (nI p < Int32.ofNat 200) = True from eq_true (nI_lt (show p < 200 by omega) (by decide)), show ib (nI p) (2, 200) = True from eq_true (ib_nI (show p < 200 by omega) (by decide)), nI_cl (show p < 2 ^ 31 by omega), if_true, if_false, true_or, or_true, false_or, or_false, true_and, and_true, false_and, and_false, not_true_eq_false, not_false_eq_true, iff_self, ite_self, ne_eq, true_implies, implies_true, Bool.false_eq_true, decide_true, decide_false, Bool.or_true, Bool.or_false, Bool.true_or, Bool.false_or]
  · simp only [x70_0, x70_1, x70_4, x70_5, x70_6, x70_9, x70_12, x70_13, x70_14, x70_17, x70_18, x70_21, x70_22, x70_25, x70_26, x70_27, x70_30, x70_31, pv_some, pv_none, c1_int, c1_ref, c1_null, true_and, and_true, ne_eq, not_false_eq_true, not_true_eq_false, if_true, if_false, reduceCtorEq, Option.some.injEq, Value.int.injEq, absI_fold, minI_fold, maxI_fold, tx_s g, h1, nI_neg (show p < 2 ^ 31 by omega), nI_lt_iff (show p < 2 ^ 31 by omega) (show n < 2 ^ 31 by omega), hn, if_true, if_false, true_or, or_true, false_or, or_false, true_and, and_true, false_and, and_false, not_true_eq_false, not_false_eq_true, iff_self, ite_self, ne_eq, true_implies, implies_true, Bool.false_eq_true, decide_true, decide_false, Bool.or_true, Bool.or_false, Bool.true_or, Bool.false_or]
theorem k_isFigure (T : TxAt h n) (hp : p < 1000) : X 71 0 [.ref 4, .int (nI p)] [] h Q ↔ Q (some (.int (bi (dig (ltr (hI h 5) n p) = true)))) h := by
  simp only [x71_0, x71_1, x71_2, x71_5, x71_7, x71_10, x71_11, x71_12, x71_15, x71_17, x71_20, x71_21, x71_24, x71_25, pv_some, pv_none, c1_int, c1_ref, c1_null, true_and, and_true, ne_eq, not_false_eq_true, not_true_eq_false, if_true, if_false, reduceCtorEq, Option.some.injEq, Value.int.injEq, absI_fold, minI_fold, maxI_fold, tx_s T.1, k_letterAt T hp]
  unfold dig
  by_cases h1 : ltr (hI h 5) n p < 48 <;> by_cases h2 : 57 < ltr (hI h 5) n p <;> simp only [h1, h2, if_true, if_false, true_or, or_true, false_or, or_false, true_and, and_true, false_and, and_false, not_true_eq_false, not_false_eq_true, iff_self, ite_self, ne_eq, true_implies, implies_true, Bool.false_eq_true, decide_true, decide_false, Bool.or_true, Bool.or_false, Bool.true_or, Bool.false_or, Bool.not_true, Bool.not_false, Bool.and_true, Bool.and_false, bi_ff, bi_tt, bi_F, bi_T]
theorem TxAt.w (T : TxAt h n) (k : Nat) (v : Int32) : TxAt (sI h 6 k v) n := ⟨T.1, by rw [hI_sI, if_neg (by omega)]; exact T.2.1, T.2.2⟩
theorem TxAt.t (T : TxAt h n) (v : Int32) : TxAt (sI h 4 3 v) n := ⟨T.1, by rw [hI_sI, if_neg (by omega)]; exact T.2.1, T.2.2⟩
theorem ltr_w (h : aH) (k : Nat) (v : Int32) : ltr (hI (sI h 6 k v) 5) = ltr (hI h 5) := by
  rw [show hI (sI h 6 k v) 5 = hI h 5 from by funext p; rw [hI_sI, if_neg (by omega)]]
theorem ltr_t (h : aH) (v : Int32) : ltr (hI (sI h 4 3 v) 5) = ltr (hI h 5) := by
  rw [show hI (sI h 4 3 v) 5 = hI h 5 from by funext p; rw [hI_sI, if_neg (by omega)]]
theorem sI_sI (h : aH) (a k : Nat) (v w : Int32) : sI (sI h a k v) a k w = sI h a k w := by
  refine (aH_ext (by simp only [hN_sI, hN_cpI, hN_wI, hN_sI]) (by simp only [hZ_sI, hZ_cpI, hZ_wI, hN_sI]) (by simp only [hS_sI, hS_cpI, hS_wI, hN_sI]) (by simp only [hR_sI, hR_cpI, hR_wI, hN_sI]) (fun b j => ?_))
  simp only [hI_sI]
  by_cases hb : b = a ∧ j = k <;> simp only [hb, if_true, if_false, true_or, or_true, false_or, or_false, true_and, and_true, false_and, and_false, not_true_eq_false, not_false_eq_true, iff_self, ite_self, ne_eq, true_implies, implies_true, Bool.false_eq_true, decide_true, decide_false, Bool.or_true, Bool.or_false, Bool.true_or, Bool.false_or]
/-- one number -/
theorem k_readOne (T : TxAt h n) (hp : p < 900) (hk : k < 5) : X 72 4 [.ref 4, .int x, .int (nI p), .int (nI k)] [] h Q ↔ if dig (ltr (hI h 5) n p) = true then (if ltr (hI h 5) n (nxF (ltr (hI h 5) n) p) = 59 then Q (some (.int (nI (nxF (ltr (hI h 5) n) p + 1)))) (sI (sI h 6 k (vlF (ltr (hI h 5) n) p)) 4 3 (nI (k + 1))) else if ltr (hI h 5) n (nxF (ltr (hI h 5) n) p) = 44 then X 72 4 [.ref 4, .int x, .int (nI (nxF (ltr (hI h 5) n) p + 1)), .int (nI (k + 1))] [] (sI (sI h 6 k (vlF (ltr (hI h 5) n) p)) 4 3 (nI (k + 1))) Q else Q (some (.int (-4))) (sI (sI h 6 k (vlF (ltr (hI h 5) n) p)) 4 3 (nI (k + 1)))) else Q (some (.int (-4))) h := by
  have g := T.1
  have l5 : (nI k < Int32.ofNat 5) = True := eq_true (nI_lt hk (by decide))
  have iw : ibw (nI k) (2, 5) = True := eq_true (ibw_nI hk (by decide))
  rw [x72_4]
  simp only [x72_0, x72_1, x72_2, x72_3, x72_5, x72_6, x72_9, x72_10, x72_13, x72_14, x72_15, x72_18, x72_21, x72_23, x72_24, x72_25, x72_28, x72_29, x72_30, x72_31, x72_34, x72_36, x72_37, x72_38, x72_41, x72_42, x72_43, x72_46, x72_49, x72_50, x72_53, x72_54, x72_55, x72_58, x72_59, x72_60, x72_62, x72_63, x72_64, x72_65, x72_68, x72_69, x72_71, x72_72, x72_73, x72_76, x72_77, x72_78, x72_79, x72_80, x72_83, x72_84, x72_85, x72_88, x72_90, x72_93, x72_94, x72_95, x72_96, x72_97, x72_98, x72_99, x72_102, x72_104, x72_107, x72_109, x72_110, x72_113, x72_116, x72_119, x72_121, pv_some, pv_none, c1_int, c1_ref, c1_null, true_and, and_true, ne_eq, not_false_eq_true, not_true_eq_false, if_true, if_false, reduceCtorEq, Option.some.injEq, Value.int.injEq, absI_fold, minI_fold, maxI_fold, tx_s g, tx_r2 g, txt_s6 g, n6z, l5, iw, ib5 hk, cl5 hk, k_isFigure T (show p < 1000 by omega), k_letterAt T (show p < 1000 by omega), bi_zero, nI_add1, hS_sI, hR_sI, k_isFigure (T.w k _) (show p + 1 < 1000 by omega), if_true, if_false, true_or, or_true, false_or, or_false, true_and, and_true, false_and, and_false, not_true_eq_false, not_false_eq_true, iff_self, ite_self, ne_eq, true_implies, implies_true, Bool.false_eq_true, decide_true, decide_false, Bool.or_true, Bool.or_false, Bool.true_or, Bool.false_or, ltr_w, hI_sI, k_letterAt (T.w k _) (show p + 1 < 1000 by omega)]
  by_cases h1 : dig (ltr (hI h 5) n p) = true
  · by_cases h2 : dig (ltr (hI h 5) n (p + 1)) = true
    · have e1 : nxF (ltr (hI h 5) n) p = p + 2 := by simp [nxF, h2]
      have e2 : vlF (ltr (hI h 5) n) p = (ltr (hI h 5) n p - 48) * 10 + ltr (hI h 5) n (p + 1) - 48 := by simp [vlF, h2]
      simp only [h1, h2, if_true, if_false, true_or, or_true, false_or, or_false, true_and, and_true, false_and, and_false, not_true_eq_false, not_false_eq_true, iff_self, ite_self, ne_eq, true_implies, implies_true, Bool.false_eq_true, decide_true, decide_false, Bool.or_true, Bool.or_false, Bool.true_or, Bool.false_or, e1, e2, sI_sI, nI_add1, k_letterAt ((T.w k _).t _) (show p + 2 < 1000 by omega), ltr_w, ltr_t, Nat.add_assoc, Nat.reduceAdd, x72_0, x72_1, x72_2, x72_3, x72_5, x72_6, x72_9, x72_10, x72_13, x72_14, x72_15, x72_18, x72_21, x72_23, x72_24, x72_25, x72_28, x72_29, x72_30, x72_31, x72_34, x72_36, x72_37, x72_38, x72_41, x72_42, x72_43, x72_46, x72_49, x72_50, x72_53, x72_54, x72_55, x72_58, x72_59, x72_60, x72_62, x72_63, x72_64, x72_65, x72_68, x72_69, x72_71, x72_72, x72_73, x72_76, x72_77, x72_78, x72_79, x72_80, x72_83, x72_84, x72_85, x72_88, x72_90, x72_93, x72_94, x72_95, x72_96, x72_97, x72_98, x72_99, x72_102, x72_104, x72_107, x72_109, x72_110, x72_113, x72_116, x72_119, x72_121, pv_some, pv_none, c1_int, c1_ref, c1_null, true_and, and_true, ne_eq, not_false_eq_true, not_true_eq_false, if_true, if_false, reduceCtorEq, Option.some.injEq, Value.int.injEq, absI_fold, minI_fold, maxI_fold, tx_s g, hS_sI]
    · have e1 : nxF (ltr (hI h 5) n) p = p + 1 := by simp [nxF, h2]
      have e2 : vlF (ltr (hI h 5) n) p = ltr (hI h 5) n p - 48 := by simp [vlF, h2]
      simp only [h1, h2, if_true, if_false, true_or, or_true, false_or, or_false, true_and, and_true, false_and, and_false, not_true_eq_false, not_false_eq_true, iff_self, ite_self, ne_eq, true_implies, implies_true, Bool.false_eq_true, decide_true, decide_false, Bool.or_true, Bool.or_false, Bool.true_or, Bool.false_or, e1, e2, sI_sI, nI_add1, k_letterAt ((T.w k _).t _) (show p + 1 < 1000 by omega), ltr_w, ltr_t, Nat.add_assoc, Nat.reduceAdd, x72_0, x72_1, x72_2, x72_3, x72_5, x72_6, x72_9, x72_10, x72_13, x72_14, x72_15, x72_18, x72_21, x72_23, x72_24, x72_25, x72_28, x72_29, x72_30, x72_31, x72_34, x72_36, x72_37, x72_38, x72_41, x72_42, x72_43, x72_46, x72_49, x72_50, x72_53, x72_54, x72_55, x72_58, x72_59, x72_60, x72_62, x72_63, x72_64, x72_65, x72_68, x72_69, x72_71, x72_72, x72_73, x72_76, x72_77, x72_78, x72_79, x72_80, x72_83, x72_84, x72_85, x72_88, x72_90, x72_93, x72_94, x72_95, x72_96, x72_97, x72_98, x72_99, x72_102, x72_104, x72_107, x72_109, x72_110, x72_113, x72_116, x72_119, x72_121, pv_some, pv_none, c1_int, c1_ref, c1_null, true_and, and_true, ne_eq, not_false_eq_true, not_true_eq_false, if_true, if_false, reduceCtorEq, Option.some.injEq, Value.int.injEq, absI_fold, minI_fold, maxI_fold, tx_s g, hS_sI]
  · simp only [h1, if_true, if_false, true_or, or_true, false_or, or_false, true_and, and_true, false_and, and_false, not_true_eq_false, not_false_eq_true, iff_self, ite_self, ne_eq, true_implies, implies_true, Bool.false_eq_true, decide_true, decide_false, Bool.or_true, Bool.or_false, Bool.true_or, Bool.false_or]
theorem nxF_le (c : Nat → Int32) (p : Nat) : nxF c p ≤ p + 2 := by unfold nxF; split <;> omega
theorem k_readLoop : ∀ (r k p : Nat) (h : aH), r + k = 5 → TxAt h n → p + 3 * r < 900 → (X 72 4 [.ref 4, .int x, .int (nI p), .int (nI k)] [] h Q ↔ Q (some (.int (rdA (rdR (ltr (hI h 5) n) r p)))) (rdH (ltr (hI h 5) n) r p k h)) := by
  intro r
  induction r with
  | zero =>
    intro k p h hr T hp
    have hk : k = 5 := by omega
    subst hk
    rw [x72_4]
    simp only [x72_0, x72_1, x72_2, x72_3, x72_5, x72_6, x72_9, x72_10, x72_13, x72_14, x72_15, x72_18, x72_21, x72_23, x72_24, x72_25, x72_28, x72_29, x72_30, x72_31, x72_34, x72_36, x72_37, x72_38, x72_41, x72_42, x72_43, x72_46, x72_49, x72_50, x72_53, x72_54, x72_55, x72_58, x72_59, x72_60, x72_62, x72_63, x72_64, x72_65, x72_68, x72_69, x72_71, x72_72, x72_73, x72_76, x72_77, x72_78, x72_79, x72_80, x72_83, x72_84, x72_85, x72_88, x72_90, x72_93, x72_94, x72_95, x72_96, x72_97, x72_98, x72_99, x72_102, x72_104, x72_107, x72_109, x72_110, x72_113, x72_116, x72_119, x72_121, pv_some, pv_none, c1_int, c1_ref, c1_null, true_and, and_true, ne_eq, not_false_eq_true, not_true_eq_false, if_true, if_false, reduceCtorEq, Option.some.injEq, Value.int.injEq, absI_fold, minI_fold, maxI_fold, tx_s T.1, tx_r2 T.1, txt_s6 T.1, n6z, show (nI 5 < Int32.ofNat 5) = False by decide, if_true, if_false, true_or, or_true, false_or, or_false, true_and, and_true, false_and, and_false, not_true_eq_false, not_false_eq_true, iff_self, ite_self, ne_eq, true_implies, implies_true, Bool.false_eq_true, decide_true, decide_false, Bool.or_true, Bool.or_false, Bool.true_or, Bool.false_or, rdR, rdA, rdH]
  | succ r ih =>
    intro k p h hr T hp
    rw [k_readOne T (by omega) (by omega)]
    have hn := nxF_le (ltr (hI h 5) n) p
    by_cases h1 : dig (ltr (hI h 5) n p) = true
    · by_cases h2 : ltr (hI h 5) n (nxF (ltr (hI h 5) n) p) = 59
      · simp only [h1, h2, if_true, if_false, true_or, or_true, false_or, or_false, true_and, and_true, false_and, and_false, not_true_eq_false, not_false_eq_true, iff_self, ite_self, ne_eq, true_implies, implies_true, Bool.false_eq_true, decide_true, decide_false, Bool.or_true, Bool.or_false, Bool.true_or, Bool.false_or, rdR, rdH, rdA]
      · by_cases h3 : ltr (hI h 5) n (nxF (ltr (hI h 5) n) p) = 44
        · have hi := ih (k + 1) (nxF (ltr (hI h 5) n) p + 1) _ (by omega) ((T.w k (vlF (ltr (hI h 5) n) p)).t (nI (k + 1))) (by omega)
          simp only [ltr_t, ltr_w] at hi
          simp only [h1, h2, h3, if_true, if_false, true_or, or_true, false_or, or_false, true_and, and_true, false_and, and_false, not_true_eq_false, not_false_eq_true, iff_self, ite_self, ne_eq, true_implies, implies_true, Bool.false_eq_true, decide_true, decide_false, Bool.or_true, Bool.or_false, Bool.true_or, Bool.false_or, rdR, rdH, hi, show ((44 : Int32) = 59) = False by decide]
          cases rdR (ltr (hI h 5) n) r (nxF (ltr (hI h 5) n) p + 1) <;> simp [rdA]
        · simp only [h1, h2, h3, if_true, if_false, true_or, or_true, false_or, or_false, true_and, and_true, false_and, and_false, not_true_eq_false, not_false_eq_true, iff_self, ite_self, ne_eq, true_implies, implies_true, Bool.false_eq_true, decide_true, decide_false, Bool.or_true, Bool.or_false, Bool.true_or, Bool.false_or, rdR, rdH, rdA]
    · simp only [h1, if_true, if_false, true_or, or_true, false_or, or_false, true_and, and_true, false_and, and_false, not_true_eq_false, not_false_eq_true, iff_self, ite_self, ne_eq, true_implies, implies_true, Bool.false_eq_true, decide_true, decide_false, Bool.or_true, Bool.or_false, Bool.true_or, Bool.false_or, rdR, rdH, rdA]
theorem k_readNumbers (T : TxAt h n) (hp : p < 800) : X 72 0 [.ref 4, .int (nI p), .null, .null] [] h Q ↔ Q (some (.int (rdA (rdR (ltr (hI h 5) n) 5 p)))) (rdH (ltr (hI h 5) n) 5 p 0 h) := by
  simp only [x72_0, x72_1, x72_2, x72_3, x72_5, x72_6, x72_9, x72_10, x72_13, x72_14, x72_15, x72_18, x72_21, x72_23, x72_24, x72_25, x72_28, x72_29, x72_30, x72_31, x72_34, x72_36, x72_37, x72_38, x72_41, x72_42, x72_43, x72_46, x72_49, x72_50, x72_53, x72_54, x72_55, x72_58, x72_59, x72_60, x72_62, x72_63, x72_64, x72_65, x72_68, x72_69, x72_71, x72_72, x72_73, x72_76, x72_77, x72_78, x72_79, x72_80, x72_83, x72_84, x72_85, x72_88, x72_90, x72_93, x72_94, x72_95, x72_96, x72_97, x72_98, x72_99, x72_102, x72_104, x72_107, x72_109, x72_110, x72_113, x72_116, x72_119, x72_121, pv_some, pv_none, c1_int, c1_ref, c1_null, true_and, and_true, ne_eq, not_false_eq_true, not_true_eq_false, if_true, if_false, reduceCtorEq, Option.some.injEq, Value.int.injEq, absI_fold, minI_fold, maxI_fold]
  exact k_readLoop 5 0 p h rfl T (by omega)
end TEXT
