/-! THE CLASS: a day tried -/
def goC (s : Nat → Int32) (i : Nat) (b x : Int32) : Nat → Int32 := fun j => if j = i then b else if j = 7 then s 7 + absI (b - s i) else if j = 8 then s 8 + 1 else if j = 9 then s 9 + x else s j
section CLS6
variable {h : aH} {a G i j k z n nb : Nat} {Q : Option Value → aH → Prop} {x y b : Int32}
theorem setL_congr {h : aH} {q : Nat} {v v' : Nat → Int32} (hv : ∀ j, j < 10 → v j = v' j) : setL h q v = setL h q v' := by
  refine (aH_ext (by simp only [hN_sI, hN_cpI, hN_wI, setL]) (by simp only [hZ_sI, hZ_cpI, hZ_wI, setL]) (by simp only [hS_sI, hS_cpI, hS_wI, setL]) (by simp only [hR_sI, hR_cpI, hR_wI, setL]) (fun b j => ?_))
  unfold setL
  simp only [hI_wI]
  by_cases q1 : b = q + 1 ∧ j < 5
  · rw [if_pos q1, if_pos q1, hv j (by omega)]
  · rw [if_neg q1, if_neg q1]
    by_cases q2 : b = q ∧ 1 ≤ j ∧ j ≤ 5
    · rw [if_pos q2, if_pos q2, hv (j + 4) (by omega)]
    · rw [if_neg q2, if_neg q2]
theorem setL_setL (h : aH) (q : Nat) (v v' : Nat → Int32) : setL (setL h q v) q v' = setL h q v' := by
  refine (aH_ext (by simp only [hN_sI, hN_cpI, hN_wI, setL]) (by simp only [hZ_sI, hZ_cpI, hZ_wI, setL]) (by simp only [hS_sI, hS_cpI, hS_wI, setL]) (by simp only [hR_sI, hR_cpI, hR_wI, setL]) (fun b j => ?_))
  unfold setL
  simp only [hI_wI]
  grind
theorem lv_setL (h : aH) (q : Nat) (v : Nat → Int32) (hj : j < 10) : lv (setL h q v) q j = v j := by
  unfold lv setL
  by_cases q1 : j < 5
  · rw [if_pos q1, hI_wI, if_pos ⟨rfl, q1⟩]
  · rw [if_neg q1, hI_wI, if_neg (by omega), if_pos ⟨rfl, by omega, by omega⟩, show j - 4 + 4 = j by omega]
theorem setL_o {h : aH} {q : Nat} {v : Nat → Int32} {b j : Nat} (h1 : b ≠ q) (h2 : b ≠ q + 1) : hI (setL h q v) b j = hI h b j := by
  unfold setL
  rw [hI_wI, if_neg (by omega), if_neg (by omega)]
theorem setL_s6 (h : aH) (q : Nat) (v : Nat → Int32) (u : Int32) : sI (setL h q v) q 2 u = setL h q (fun j => if j = 6 then u else v j) := by
  refine (aH_ext (by simp only [hN_sI, hN_cpI, hN_wI, setL]) (by simp only [hZ_sI, hZ_cpI, hZ_wI, setL]) (by simp only [hS_sI, hS_cpI, hS_wI, setL]) (by simp only [hR_sI, hR_cpI, hR_wI, setL]) (fun b j => ?_))
  unfold setL
  simp only [hI_sI, hI_wI]
  grind
theorem mov_set (h : aH) (v : Nat → Int32) (hi : i < 5) : movH (setL h 24 v) 24 i b x = setL h 24 (goC v i b x) := by
  unfold movH
  rw [setL_setL]
  refine setL_congr (fun j hj => ?_)
  unfold goC
  rw [lv_setL _ _ _ (show 7 < 10 by decide), lv_setL _ _ _ (show 8 < 10 by decide), lv_setL _ _ _ (show 9 < 10 by decide), lv_setL _ _ _ hj, setL_lo _ _ _ hi]
def tryC (Lt : Nat → Int32) (po : Int32) (G nb d : Nat) (s : Nat → Int32) : Nat → Int32 := if emptyF s (nI (d / 8 % nb)) G = true then goC s (d % G) (nI (d / 8 % nb)) (popC (bitsF (rousC Lt s po (s (d % G)) (nI (d / 8 % nb))) G)) else s
theorem emptyF_congr {P P' : Nat → Int32} (hP : agr G P P') : emptyF P b G = emptyF P' b G := by
  unfold emptyF
  rw [decide_eq_decide.mpr (fstN_cong (fun k hk => by rw [hP k hk]))]
theorem c_tryDraw (I : CI h a G) (v : Nat → Int32) {d : Nat} (hd : d < 20000) (hG : 0 < G) (hb : hI h a 6 = nI nb) (hnb : 2 ≤ nb ∧ nb ≤ 6) : X 114 0 [.ref 3, .int (nI d), .null, .null] [] (setL h 24 v) Q ↔ Q none (setL h 24 (tryC (hI h (a + 4)) (hI h a 8) G nb d v)) := by
  have h5 := I.1.2.2.2
  have W : CF h (setL h 24 v) := (CF.refl h).lie (Or.inr rfl) v
  have I1 := W.CI I
  have g := I1.1.1
  have hi : d % G < G := Nat.mod_lt _ hG
  have e6 : hI (setL h 24 v) a 6 = nI nb := by rw [show hI (setL h 24 v) a = hI h a from W.inn I.2.2 (c := 0) (by decide)]; exact hb
  have b8 : nI d / 8 = nI (d / 8) := nI_div (b := 8) (by omega) (by decide)
  have bm : nI (d / 8) - nI (d / 8) / nI nb * nI nb = nI (d / 8 % nb) := nI_mod (by omega) (by omega)
  have im : nI d - nI d / nI G * nI G = nI (d % G) := nI_mod (by omega) (by omega)
  have nbz : ¬ nI nb = 0 := fun q => by
    have := (nI_eq_iff (show nb < 2 ^ 31 by omega) (show 0 < 2 ^ 31 by decide)).mp q
    omega
  have gz : ¬ nI G = 0 := fun q => by
    have := (nI_eq_iff (show G < 2 ^ 31 by omega) (show 0 < 2 ^ 31 by decide)).mp q
    omega
  have g1 : ¬ nI G < 1 := by rw [show (1 : Int32) = nI 1 from rfl, nI_lt_iff (by omega) (by decide)]; omega
  have n1 : ¬ nI nb < 1 := by rw [show (1 : Int32) = nI 1 from rfl, nI_lt_iff (by omega) (by decide)]; omega
  have eE : emptyF (hI (setL h 24 v) (24 + 1)) (nI (d / 8 % nb)) G = emptyF v (nI (d / 8 % nb)) G := emptyF_congr (fun j hj => setL_lo h 24 v (by omega))
  have eR : rousA (setL h 24 v) a 24 G (d % G) (nI (d / 8 % nb)) = bitsF (rousC (hI h (a + 4)) v (hI h a 8) (v (d % G)) (nI (d / 8 % nb))) G := by
    unfold rousA
    refine bitsF_congr (fun j hj => ?_)
    unfold rousC
    rw [W.inn I.2.2 (c := 4) (by decide), show hI (setL h 24 v) a = hI h a from W.inn I.2.2 (c := 0) (by decide), setL_lo h 24 v (show j < 5 by omega), setL_lo h 24 v (show d % G < 5 by omega)]
  have kE := fun Q : Option Value → aH → Prop => k_isEmpty (Q := Q) (q := 24) (b := nI (d / 8 % nb)) g l24 h5
  rw [eE] at kE
  have kC := fun Q : Option Value → aH → Prop => c_carryIn (Q := Q) (q := 24) (b := nI (d / 8 % nb)) I1 l24 hi
  rw [eR, mov_set h v (show d % G < 5 by omega)] at kC
  unfold tryC
  by_cases c1 : emptyF v (nI (d / 8 % nb)) G = true
  · simp only [x114_0, x114_1, x114_4, x114_7, x114_8, x114_11, x114_12, x114_15, x114_18, x114_19, x114_22, x114_23, x114_24, x114_25, x114_28, x114_31, x114_32, x114_33, x114_34, x114_36, x114_37, x114_38, x114_41, x114_44, x114_45, x114_46, x114_47, x114_50, x114_51, x114_52, x114_55, x114_58, x114_61, x114_64, x114_65, x114_66, x114_69, x114_70, x114_71, x114_74, x114_75, pv_some, pv_none, c1_int, c1_ref, c1_null, true_and, and_true, ne_eq, not_false_eq_true, not_true_eq_false, if_true, if_false, reduceCtorEq, Option.some.injEq, Value.int.injEq, absI_fold, minI_fold, maxI_fold, b_s g, b_r0 g, b_r1 g, b_r2 g, b_r3 g, b_r4 g, b_r5 g, b_r6 g, b_r7 g, b_r10 g, cs4 g, cs7 g, cs11 g, cs12 g, cs18 g, cs20 g, cs22 g, cs24 g, cs38 g, m_nz, I1.2.1, I.nz, inn_s g I.1.2.1, k_guests g I.1.2.1, k_beds g I.1.2.1, I1.1.2.2.1, e6, g1, n1, im, gz, b8, bm, nbz, kE, c1, bi_zero, kC, show ¬ ((8 : Int32) = 0) by decide, if_true, if_false, true_or, or_true, false_or, or_false, true_and, and_true, false_and, and_false, not_true_eq_false, not_false_eq_true, iff_self, ite_self, ne_eq, true_implies, implies_true, Bool.false_eq_true, decide_true, decide_false, Bool.or_true, Bool.or_false, Bool.true_or, Bool.false_or]
  · simp only [x114_0, x114_1, x114_4, x114_7, x114_8, x114_11, x114_12, x114_15, x114_18, x114_19, x114_22, x114_23, x114_24, x114_25, x114_28, x114_31, x114_32, x114_33, x114_34, x114_36, x114_37, x114_38, x114_41, x114_44, x114_45, x114_46, x114_47, x114_50, x114_51, x114_52, x114_55, x114_58, x114_61, x114_64, x114_65, x114_66, x114_69, x114_70, x114_71, x114_74, x114_75, pv_some, pv_none, c1_int, c1_ref, c1_null, true_and, and_true, ne_eq, not_false_eq_true, not_true_eq_false, if_true, if_false, reduceCtorEq, Option.some.injEq, Value.int.injEq, absI_fold, minI_fold, maxI_fold, b_s g, b_r0 g, b_r1 g, b_r2 g, b_r3 g, b_r4 g, b_r5 g, b_r6 g, b_r7 g, b_r10 g, cs4 g, cs7 g, cs11 g, cs12 g, cs18 g, cs20 g, cs22 g, cs24 g, cs38 g, m_nz, I1.2.1, I.nz, inn_s g I.1.2.1, k_guests g I.1.2.1, k_beds g I.1.2.1, I1.1.2.2.1, e6, g1, n1, im, gz, b8, bm, nbz, kE, c1, bi_zero, show ¬ ((8 : Int32) = 0) by decide, if_true, if_false, true_or, or_true, false_or, or_false, true_and, and_true, false_and, and_false, not_true_eq_false, not_false_eq_true, iff_self, ite_self, ne_eq, true_implies, implies_true, Bool.false_eq_true, decide_true, decide_false, Bool.or_true, Bool.or_false, Bool.true_or, Bool.false_or]
def passC (s : Nat → Int32) : Nat → Int32 := fun j => if j = 6 then minI 7 (s 6 + 1) else s j
def dayCs (Lt : Nat → Int32) (po : Int32) (G nb z k : Nat) (s : Nat → Int32) : Nat → Int32 := if k % 4 = 3 then passC (tryC Lt po G nb (dN z k) s) else tryC Lt po G nb (dN z k) s
def dayCR (Lt : Nat → Int32) (po : Int32) (G nb z : Nat) (s : Nat → Int32) (n : Nat) : Nat → Int32 := foldN (fun k s => dayCs Lt po G nb z k s) s n
def dayCV (h : aH) (a G : Nat) (s : Nat → Int32) (x : Int32) : Int32 := if x = 0 then s 9 - hI h 22 5 else popC (wakeF (hI h (a + 1)) (hI h (a + 2)) (hI h (a + 3)) (hI h (a + 4)) s (hI h a 9) (s 5) (s 6) G)
theorem setL_5 (h : aH) (q : Nat) (v : Nat → Int32) : hI (setL h q v) q 5 = v 9 := by unfold setL; rw [hI_wI, if_neg (by omega), if_pos ⟨rfl, by decide, by decide⟩]
theorem c_day (I : CI h a G) (hz : z < 10000) (hn : 1 ≤ n ∧ n ≤ 30) (hx : x = 0 ∨ x = 1) (hG : 0 < G) (hb : hI h a 6 = nI nb) (hnb : 2 ≤ nb ∧ nb ≤ 6) : ∃ h', CF h h' ∧ ∀ Q : Option Value → aH → Prop, X 104 0 [.ref 3, .int (nI z), .int (nI n), .int x, .null] [] h Q ↔ Q (some (.int (dayCV h a G (dayCR (hI h (a + 4)) (hI h a 8) G nb z (lv h 22) n) x))) h' := by
  have g := I.1.1
  have h5 := I.1.2.2.2
  have c1 : ¬ nI z < 0 := by rw [nI_neg (by omega)]; exact id
  have c1' : ¬ 9999 < nI z := by rw [show (9999 : Int32) = nI 9999 from rfl, nI_lt_iff (by decide) (by omega)]; omega
  have c2 : ¬ nI n < 1 := by rw [show (1 : Int32) = nI 1 from rfl, nI_lt_iff (by omega) (by decide)]; omega
  have c2' : ¬ 30 < nI n := by rw [show (30 : Int32) = nI 30 from rfl, nI_lt_iff (by decide) (by omega)]; omega
  have start : ∀ Q : Option Value → aH → Prop, X 104 0 [.ref 3, .int (nI z), .int (nI n), .int x, .null] [] h Q ↔ X 104 47 [.ref 3, .int (nI z), .int (nI n), .int x, .int 0] [] (setL h 24 (lv h 22)) Q := by
    intro Q
    rcases hx with rfl | rfl
    · simp only [x104_0, x104_1, x104_4, x104_5, x104_8, x104_11, x104_12, x104_13, x104_16, x104_17, x104_19, x104_22, x104_23, x104_26, x104_27, x104_28, x104_31, x104_32, x104_33, x104_34, x104_37, x104_38, x104_41, x104_44, x104_45, x104_49, x104_50, x104_53, x104_54, x104_55, x104_57, x104_60, x104_63, x104_65, x104_66, x104_67, x104_68, x104_71, x104_72, x104_75, x104_78, x104_81, x104_84, x104_85, x104_88, x104_89, x104_92, x104_95, x104_96, x104_99, x104_102, x104_103, x104_104, x104_105, x104_108, x104_109, x104_112, x104_113, x104_116, x104_119, x104_122, x104_125, pv_some, pv_none, c1_int, c1_ref, c1_null, true_and, and_true, ne_eq, not_false_eq_true, not_true_eq_false, if_true, if_false, reduceCtorEq, Option.some.injEq, Value.int.injEq, absI_fold, minI_fold, maxI_fold, b_s g, b_r0 g, b_r1 g, b_r2 g, b_r3 g, b_r4 g, b_r5 g, b_r6 g, b_r7 g, b_r10 g, cs4 g, cs7 g, cs11 g, cs12 g, cs18 g, cs20 g, cs22 g, cs24 g, cs38 g, m_nz, c1, c1', c2, c2', k_lieCopy g (Or.inr rfl), if_true, if_false, true_or, or_true, false_or, or_false, true_and, and_true, false_and, and_false, not_true_eq_false, not_false_eq_true, iff_self, ite_self, ne_eq, true_implies, implies_true, Bool.false_eq_true, decide_true, decide_false, Bool.or_true, Bool.or_false, Bool.true_or, Bool.false_or]
    · simp only [x104_0, x104_1, x104_4, x104_5, x104_8, x104_11, x104_12, x104_13, x104_16, x104_17, x104_19, x104_22, x104_23, x104_26, x104_27, x104_28, x104_31, x104_32, x104_33, x104_34, x104_37, x104_38, x104_41, x104_44, x104_45, x104_49, x104_50, x104_53, x104_54, x104_55, x104_57, x104_60, x104_63, x104_65, x104_66, x104_67, x104_68, x104_71, x104_72, x104_75, x104_78, x104_81, x104_84, x104_85, x104_88, x104_89, x104_92, x104_95, x104_96, x104_99, x104_102, x104_103, x104_104, x104_105, x104_108, x104_109, x104_112, x104_113, x104_116, x104_119, x104_122, x104_125, pv_some, pv_none, c1_int, c1_ref, c1_null, true_and, and_true, ne_eq, not_false_eq_true, not_true_eq_false, if_true, if_false, reduceCtorEq, Option.some.injEq, Value.int.injEq, absI_fold, minI_fold, maxI_fold, b_s g, b_r0 g, b_r1 g, b_r2 g, b_r3 g, b_r4 g, b_r5 g, b_r6 g, b_r7 g, b_r10 g, cs4 g, cs7 g, cs11 g, cs12 g, cs18 g, cs20 g, cs22 g, cs24 g, cs38 g, m_nz, c1, c1', c2, c2', one_ne, k_lieCopy g (Or.inr rfl), if_true, if_false, true_or, or_true, false_or, or_false, true_and, and_true, false_and, and_false, not_true_eq_false, not_false_eq_true, iff_self, ite_self, ne_eq, true_implies, implies_true, Bool.false_eq_true, decide_true, decide_false, Bool.or_true, Bool.or_false, Bool.true_or, Bool.false_or]
  have up : ∀ (Q : Option Value → aH → Prop) k, k ≤ n → (X 104 47 [.ref 3, .int (nI z), .int (nI n), .int x, .int 0] [] (setL h 24 (lv h 22)) Q ↔ X 104 47 [.ref 3, .int (nI z), .int (nI n), .int x, .int (nI k)] [] (setL h 24 (dayCR (hI h (a + 4)) (hI h a 8) G nb z (lv h 22) k)) Q) := by
    intro Q k
    induction k with
    | zero => intro _; rfl
    | succ k ih =>
      intro hk
      rw [ih (by omega)]
      have hdr : dayCR (hI h (a + 4)) (hI h a 8) G nb z (lv h 22) (k + 1) = dayCs (hI h (a + 4)) (hI h a 8) G nb z k (dayCR (hI h (a + 4)) (hI h a 8) G nb z (lv h 22) k) := rfl
      rw [hdr]
      generalize dayCR (hI h (a + 4)) (hI h a 8) G nb z (lv h 22) k = s
      have gs : ∀ v, GS (setL h 24 v) := fun v => g
      have k4 : nI k - nI k / 4 * 4 = nI (k % 4) := nI_mod (b := 4) (by omega) (by decide)
      have k3 : (nI (k % 4) = 3) = (k % 4 = 3) := nI_eq_iff (b := 3) (by omega) (by decide)
      have dl := dN_lt z k
      rw [x104_47]
      simp only [x104_0, x104_1, x104_4, x104_5, x104_8, x104_11, x104_12, x104_13, x104_16, x104_17, x104_19, x104_22, x104_23, x104_26, x104_27, x104_28, x104_31, x104_32, x104_33, x104_34, x104_37, x104_38, x104_41, x104_44, x104_45, x104_49, x104_50, x104_53, x104_54, x104_55, x104_57, x104_60, x104_63, x104_65, x104_66, x104_67, x104_68, x104_71, x104_72, x104_75, x104_78, x104_81, x104_84, x104_85, x104_88, x104_89, x104_92, x104_95, x104_96, x104_99, x104_102, x104_103, x104_104, x104_105, x104_108, x104_109, x104_112, x104_113, x104_116, x104_119, x104_122, x104_125, pv_some, pv_none, c1_int, c1_ref, c1_null, true_and, and_true, ne_eq, not_false_eq_true, not_true_eq_false, if_true, if_false, reduceCtorEq, Option.some.injEq, Value.int.injEq, absI_fold, minI_fold, maxI_fold, b_s (gs s), nI_lt_iff (show k < 2 ^ 31 by omega) (show n < 2 ^ 31 by omega), show k < n by omega, k_drawOf hz (show k < 30 by omega), c_tryDraw I s (show dN z k < 20000 by omega) hG hb hnb, k4, show ¬ ((4 : Int32) = 0) by decide, if_true, if_false, true_or, or_true, false_or, or_false, true_and, and_true, false_and, and_false, not_true_eq_false, not_false_eq_true, iff_self, ite_self, ne_eq, true_implies, implies_true, Bool.false_eq_true, decide_true, decide_false, Bool.or_true, Bool.or_false, Bool.true_or, Bool.false_or]
      unfold dayCs
      generalize tryC (hI h (a + 4)) (hI h a 8) G nb (dN z k) s = s2
      by_cases q2 : k % 4 = 3
      · simp only [k3, q2, show (nI 3 = 3) = True from eq_true rfl, b_s (gs s2), b_r7 (gs s2), cs24 (gs s2), m_nz, k_passHour (gs s2) l24, setL_2, setL_s6, pv_none, nI_add1, if_true, if_false, true_or, or_true, false_or, or_false, true_and, and_true, false_and, and_false, not_true_eq_false, not_false_eq_true, iff_self, ite_self, ne_eq, true_implies, implies_true, Bool.false_eq_true, decide_true, decide_false, Bool.or_true, Bool.or_false, Bool.true_or, Bool.false_or]
        rfl
      · simp only [k3, q2, nI_add1, if_true, if_false, true_or, or_true, false_or, or_false, true_and, and_true, false_and, and_false, not_true_eq_false, not_false_eq_true, iff_self, ite_self, ne_eq, true_implies, implies_true, Bool.false_eq_true, decide_true, decide_false, Bool.or_true, Bool.or_false, Bool.true_or, Bool.false_or]
  have W : CF h (setL h 24 (dayCR (hI h (a + 4)) (hI h a 8) G nb z (lv h 22) n)) := (CF.refl h).lie (Or.inr rfl) _
  have I1 := W.CI I
  have g1 := I1.1.1
  refine ⟨_, W, fun Q => ?_⟩
  rw [start Q, up Q n (Nat.le_refl _)]
  generalize dayCR (hI h (a + 4)) (hI h a 8) G nb z (lv h 22) n = s at *
  rw [x104_47]
  have e5 : hI (setL h 24 s) 22 5 = hI h 22 5 := setL_o (by decide) (by decide)
  have wk : wakeA (setL h 24 s) a 24 (s 6) G = wakeF (hI h (a + 1)) (hI h (a + 2)) (hI h (a + 3)) (hI h (a + 4)) s (hI h a 9) (s 5) (s 6) G := by
    unfold wakeA
    rw [W.inn I.2.2 (c := 1) (by decide), W.inn I.2.2 (c := 2) (by decide), W.inn I.2.2 (c := 3) (by decide), W.inn I.2.2 (c := 4) (by decide), show hI (setL h 24 s) a = hI h a from W.inn I.2.2 (c := 0) (by decide), setL_1]
    exact wakeF_congr agr.rfl' agr.rfl' agr.rfl' agr.rfl' (fun j hj => setL_lo h 24 s (by omega))
  unfold dayCV
  rcases hx with rfl | rfl
  · simp only [x104_0, x104_1, x104_4, x104_5, x104_8, x104_11, x104_12, x104_13, x104_16, x104_17, x104_19, x104_22, x104_23, x104_26, x104_27, x104_28, x104_31, x104_32, x104_33, x104_34, x104_37, x104_38, x104_41, x104_44, x104_45, x104_49, x104_50, x104_53, x104_54, x104_55, x104_57, x104_60, x104_63, x104_65, x104_66, x104_67, x104_68, x104_71, x104_72, x104_75, x104_78, x104_81, x104_84, x104_85, x104_88, x104_89, x104_92, x104_95, x104_96, x104_99, x104_102, x104_103, x104_104, x104_105, x104_108, x104_109, x104_112, x104_113, x104_116, x104_119, x104_122, x104_125, pv_some, pv_none, c1_int, c1_ref, c1_null, true_and, and_true, ne_eq, not_false_eq_true, not_true_eq_false, if_true, if_false, reduceCtorEq, Option.some.injEq, Value.int.injEq, absI_fold, minI_fold, maxI_fold, b_s g1, b_r6 g1, b_r7 g1, cs22 g1, cs24 g1, m_nz, nI_lt_iff (show n < 2 ^ 31 by omega) (show n < 2 ^ 31 by omega), Nat.lt_irrefl, setL_5, e5, if_true, if_false, true_or, or_true, false_or, or_false, true_and, and_true, false_and, and_false, not_true_eq_false, not_false_eq_true, iff_self, ite_self, ne_eq, true_implies, implies_true, Bool.false_eq_true, decide_true, decide_false, Bool.or_true, Bool.or_false, Bool.true_or, Bool.false_or]
  · simp only [x104_0, x104_1, x104_4, x104_5, x104_8, x104_11, x104_12, x104_13, x104_16, x104_17, x104_19, x104_22, x104_23, x104_26, x104_27, x104_28, x104_31, x104_32, x104_33, x104_34, x104_37, x104_38, x104_41, x104_44, x104_45, x104_49, x104_50, x104_53, x104_54, x104_55, x104_57, x104_60, x104_63, x104_65, x104_66, x104_67, x104_68, x104_71, x104_72, x104_75, x104_78, x104_81, x104_84, x104_85, x104_88, x104_89, x104_92, x104_95, x104_96, x104_99, x104_102, x104_103, x104_104, x104_105, x104_108, x104_109, x104_112, x104_113, x104_116, x104_119, x104_122, x104_125, pv_some, pv_none, c1_int, c1_ref, c1_null, true_and, and_true, ne_eq, not_false_eq_true, not_true_eq_false, if_true, if_false, reduceCtorEq, Option.some.injEq, Value.int.injEq, absI_fold, minI_fold, maxI_fold, b_s g1, b_r6 g1, b_r7 g1, cs22 g1, cs24 g1, m_nz, I1.2.1, I.nz, inn_s g1 I.1.2.1, nI_lt_iff (show n < 2 ^ 31 by omega) (show n < 2 ^ 31 by omega), Nat.lt_irrefl, one_ne, setL_2, k_wakers I1.1 l24, wk, k_bitCount, if_true, if_false, true_or, or_true, false_or, or_false, true_and, and_true, false_and, and_false, not_true_eq_false, not_false_eq_true, iff_self, ite_self, ne_eq, true_implies, implies_true, Bool.false_eq_true, decide_true, decide_false, Bool.or_true, Bool.or_false, Bool.true_or, Bool.false_or]
end CLS6
