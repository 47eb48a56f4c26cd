/-! THE CLASS: a day tried -/
def goC (s : Nat → Int32) (i : Nat) (b x : Int32) : Nat → Int32 := fun j => if j = i then b else if j = 7 then s 7 + absI (b - s i) else if j = 8 then s 8 + 1 else if j = 9 then s 9 + x else s j
section CLS6
variable {h : aH} {a G i j k z n nb : Nat} {Q : Option Value → aH → Prop} {x y b : Int32}
theorem setL_congr {h : aH} {q : Nat} {v v' : Nat → Int32} (hv : ∀ j, j < 10 → v j = v' j) : setL h q v = setL h q v' := by
  refine (aH_ext (by simp only [hN_sI, hN_cpI, hN_wI, setL]) (by simp only [hZ_sI, hZ_cpI, hZ_wI, setL]) (by simp only [hS_sI, hS_cpI, hS_wI, setL]) (by simp only [hR_sI, hR_cpI, hR_wI, setL]) (fun b j => ?_))
  unfold setL
  simp only [hI_wI]
  by_cases q1 : b = q + 1 ∧ j < 5
  · rw [if_pos q1, if_pos q1, hv j (by omega)]
  · rw [if_neg q1, if_neg q1]
    by_cases q2 : b = q ∧ 1 ≤ j ∧ j ≤ 5
    · rw [if_pos q2, if_pos q2, hv (j + 4) (by omega)]
    · rw [if_neg q2, if_neg q2]
theorem setL_setL (h : aH) (q : Nat) (v v' : Nat → Int32) : setL (setL h q v) q v' = setL h q v' := by
  refine (aH_ext (by simp only [hN_sI, hN_cpI, hN_wI, setL]) (by simp only [hZ_sI, hZ_cpI, hZ_wI, setL]) (by simp only [hS_sI, hS_cpI, hS_wI, setL]) (by simp only [hR_sI, hR_cpI, hR_wI, setL]) (fun b j => ?_))
  unfold setL
  simp only [hI_wI]
  grind
theorem lv_setL (h : aH) (q : Nat) (v : Nat → Int32) (hj : j < 10) : lv (setL h q v) q j = v j := by
  unfold lv setL
  by_cases q1 : j < 5
  · rw [if_pos q1, hI_wI, if_pos ⟨rfl, q1⟩]
  · rw [if_neg q1, hI_wI, if_neg (by omega), if_pos ⟨rfl, by omega, by omega⟩, show j - 4 + 4 = j by omega]
theorem setL_o {h : aH} {q : Nat} {v : Nat → Int32} {b j : Nat} (h1 : b ≠ q) (h2 : b ≠ q + 1) : hI (setL h q v) b j = hI h b j := by
  unfold setL
  rw [hI_wI, if_neg (by omega), if_neg (by omega)]
theorem setL_s6 (h : aH) (q : Nat) (v : Nat → Int32) (u : Int32) : sI (setL h q v) q 2 u = setL h q (fun j => if j = 6 then u else v j) := by
  refine (aH_ext (by simp only [hN_sI, hN_cpI, hN_wI, setL]) (by simp only [hZ_sI, hZ_cpI, hZ_wI, setL]) (by simp only [hS_sI, hS_cpI, hS_wI, setL]) (by simp only [hR_sI, hR_cpI, hR_wI, setL]) (fun b j => ?_))
  unfold setL
  simp only [hI_sI, hI_wI]
  grind
theorem mov_set (h : aH) (v : Nat → Int32) (hi : i < 5) : movH (setL h 24 v) 24 i b x = setL h 24 (goC v i b x) := by
  unfold movH
  rw [setL_setL]
  refine setL_congr (fun j hj => ?_)
  unfold goC
  rw [lv_setL _ _ _ (show 7 < 10 by decide), lv_setL _ _ _ (show 8 < 10 by decide), lv_setL _ _ _ (show 9 < 10 by decide), lv_setL _ _ _ hj, setL_lo _ _ _ hi]
def tryC (Lt : Nat → Int32) (po : Int32) (G nb d : Nat) (s : Nat → Int32) : Nat → Int32 := if emptyF s (nI (d / 8 % nb)) G = true then goC s (d % G) (nI (d / 8 % nb)) (popC (bitsF (rousC Lt s po (s (d % G)) (nI (d / 8 % nb))) G)) else s
theorem emptyF_congr {P P' : Nat → Int32} (hP : agr G P P') : emptyF P b G = emptyF P' b G := by
  unfold emptyF
  rw [decide_eq_decide.mpr (fstN_cong (fun k hk => by rw [hP k hk]))]
theorem c_tryDraw (I : CI h a G) (v : Nat → Int32) {d : Nat} (hd : d < 20000) (hG : 0 < G) (hb : hI h a 6 = nI nb) (hnb : 2 ≤ nb ∧ nb ≤ 6) : X 114 0 [.ref 3, .int (nI d), .null, .null] [] (setL h 24 v) Q ↔ Q none (setL h 24 (tryC (hI h (a + 4)) (hI h a 8) G nb d v)) := by
  have h5 := I.1.2.2.2
  have W : CF h (setL h 24 v) := (CF.refl h).lie (Or.inr rfl) v
  have I1 := W.CI I
  have g := I1.1.1
  have hi : d % G < G := Nat.mod_lt _ hG
  have e6 : hI (setL h 24 v) a 6 = nI nb := by rw [show hI (setL h 24 v) a = hI h a from W.inn I.2.2 (c := 0) (by decide)]; exact hb
  have b8 : nI d / 8 = nI (d / 8) := nI_div (b := 8) (by omega) (by decide)
  have bm : nI (d / 8) - nI (d / 8) / nI nb * nI nb = nI (d / 8 % nb) := nI_mod (by omega) (by omega)
  have im : nI d - nI d / nI G * nI G = nI (d % G) := nI_mod (by omega) (by omega)
  have nbz : ¬ nI nb = 0 := fun q => by
    have := (nI_eq_iff (show nb < 2 ^ 31 by omega) (show 0 < 2 ^ 31 by decide)).mp q
    omega
  have gz : ¬ nI G = 0 := fun q => by
    have := (nI_eq_iff (show G < 2 ^ 31 by omega) (show 0 < 2 ^ 31 by decide)).mp q
    omega
  have g1 : ¬ nI G < 1 := by rw [show (1 : Int32) = nI 1 from rfl, nI_lt_iff (by omega) (by decide)]; omega
  have n1 : ¬ nI nb < 1 := by rw [show (1 : Int32) = nI 1 from rfl, nI_lt_iff (by omega) (by decide)]; omega
  have eE : emptyF (hI (setL h 24 v) (24 + 1)) (nI (d / 8 % nb)) G = emptyF v (nI (d / 8 % nb)) G := emptyF_congr (fun j hj => setL_lo h 24 v (by omega))
  have eR : rousA (setL h 24 v) a 24 G (d % G) (nI (d / 8 % nb)) = bitsF (rousC (hI h (a + 4)) v (hI h a 8) (v (d % G)) (nI (d / 8 % nb))) G := by
    unfold rousA
    refine bitsF_congr (fun j hj => ?_)
    unfold rousC
    rw [W.inn I.2.2 (c := 4) (by decide), show hI (setL h 24 v) a = hI h a from W.inn I.2.2 (c := 0) (by decide), setL_lo h 24 v (show j < 5 by omega), setL_lo h 24 v (show d % G < 5 by omega)]
  have kE := fun Q : Option Value → aH → Prop => k_isEmpty (Q := Q) (q := 24) (b := nI (d / 8 % nb)) g l24 h5
  rw [eE] at kE
  have kC := fun Q : Option Value → aH → Prop => c_carryIn (Q := Q) (q := 24) (b := nI (d / 8 % nb)) I1 l24 hi
  rw [eR, mov_set h v (show d % G < 5 by omega)] at kC
  unfold tryC
  by_cases c1 : emptyF v (nI (d / 8 % nb)) G = true
  · simp only [x114_0, x114_1, x114_4, x114_7, x114_8, x114_11, x114_12, x114_15, x114_18, x114_19, x114_22, x114_23, x114_24, x114_25, x114_28, x114_31, x114_32, x114_33, x114_34, x114_36, x114_37, x114_38, x114_41, x114_44, x114_45, x114_46, x114_47, x114_50, x114_51, x114_52, x114_55, x114_58, x114_61, x114_64, x114_65, x114_66, x114_69, x114_70, x114_71, x114_74, x114_75, pv_some, pv_none, c1_int, c1_ref, c1_null, true_and, and_true, ne_eq, not_false_eq_true, not_true_eq_false, if_true, if_false, reduceCtorEq, Option.some.injEq, Value.int.injEq, absI_fold, minI_fold, maxI_fold, b_s g, b_r0 g, b_r1 g, b_r2 g, b_r3 g, b_r4 g, b_r5 g, b_r6 g, b_r7 g, b_r10 g, cs4 g, cs7 g, cs11 g, cs12 g, cs18 g, cs20 g, cs22 g, cs24 g, cs38 g, m_nz, I1.2.1, I.nz, inn_s g I.1.2.1, k_guests g I.1.2.1, k_beds g I.1.2.1, I1.1.2.2.1, e6, g1, n1, im, gz, b8, bm, nbz, kE, c1, bi_zero, kC, show ¬ ((8 : Int32) = 0) by decide, if_true, if_false, true_or, or_true, false_or, or_false, true_and, and_true, false_and, and_false, not_true_eq_false, not_false_eq_true, iff_self, ite_self, ne_eq, true_implies, implies_true, Bool.false_eq_true, decide_true, decide_false, Bool.or_true, Bool.or_false, Bool.true_or, Bool.false_or]
  · simp only [x114_0, x114_1, x114_4, x114_7, x114_8, x114_11, x114_12, x114_15, x114_18, x114_19, x114_22, x114_23, x114_24, x114_25, x114_28, x114_31, x114_32, x114_33, x114_34, x114_36, x114_37, x114_38, x114_41, x114_44, x114_45, x114_46, x114_47, x114_50, x114_51, x114_52, x114_55, x114_58, x114_61, x114_64, x114_65, x114_66, x114_69, x114_70, x114_71, x114_74, x114_75, pv_some, pv_none, c1_int, c1_ref, c1_null, true_and, and_true, ne_eq, not_false_eq_true, not_true_eq_false, if_true, if_false, reduceCtorEq, Option.some.injEq, Value.int.injEq, absI_fold, minI_fold, maxI_fold, b_s g, b_r0 g, b_r1 g, b_r2 g, b_r3 g, b_r4 g, b_r5 g, b_r6 g, b_r7 g, b_r10 g, cs4 g, cs7 g, cs11 g, cs12 g, cs18 g, cs20 g, cs22 g, cs24 g, cs38 g, m_nz, I1.2.1, I.nz, inn_s g I.1.2.1, k_guests g I.1.2.1, k_beds g I.1.2.1, I1.1.2.2.1, e6, g1, n1, im, gz, b8, bm, nbz, kE, c1, bi_zero, show ¬ ((8 : Int32) = 0) by decide, if_true, if_false, true_or, or_true, false_or, or_false, true_and, and_true, false_and, and_false, not_true_eq_false, not_false_eq_true, iff_self, ite_self, ne_eq, true_implies, implies_true, Bool.false_eq_true, decide_true, decide_false, Bool.or_true, Bool.or_false, Bool.true_or, Bool.false_or]
end CLS6
