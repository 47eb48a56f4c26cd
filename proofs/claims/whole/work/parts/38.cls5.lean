/-! THE CLASS: who may feign -/
theorem fstN_cong {p p' : Nat → Bool} : ∀ {z : Nat}, (∀ k, k < z → p k = p' k) → (fstN p z < z ↔ fstN p' z < z) := by
  intro z hp
  have key : ∀ {p p' : Nat → Bool}, (∀ k, k < z → p k = p' k) → fstN p z < z → fstN p' z < z := by
    intro p p' hp hl
    have hy := fstN_yes p z hl
    rw [hp _ hl] at hy
    have hle := fstN_le p' z
    refine Nat.lt_of_le_of_ne hle (fun e => ?_)
    have := fstN_no p' z (fstN p z) (by omega)
    rw [hy] at this
    cases this
  exact ⟨key hp, key (fun k hk => (hp k hk).symm)⟩
theorem holdsF_congr {hear hear' Lt Lt' : Int32 → Nat → Int32} {w : Nat → Nat} {hrs wk : Nat → Int32} {z : Nat} (h1 : ∀ k, k < z → hear (hrs k) (w k) = hear' (hrs k) (w k)) (h2 : ∀ k, k < z → Lt (hrs k) (w k) = Lt' (hrs k) (w k)) : holdsF hear Lt w hrs wk z = holdsF hear' Lt' w hrs wk z := by
  unfold holdsF
  rw [decide_eq_decide.mpr (fstN_cong (fun k hk => by rw [h1 k hk, h2 k hk]))]
section CLS5
variable {h : aH} {a G i j k z n : Nat} {Q : Option Value → aH → Prop} {x y b : Int32}
/-- the inn that is supposed -/
def supH (h : aH) (a G i : Nat) : aH := wI (copyH h a) (fun b j => if b = 39 ∧ j < G then feignK (hI (copyH h a) 39) i j else hI (copyH h a) b j)
theorem cp_arr (h : aH) (a : Nat) {c : Nat} (hc : 1 ≤ c ∧ c ≤ 5) (hj : j < 5) : hI (copyH h a) (38 + c) j = hI h (a + c) j := by
  unfold copyH
  rw [hI_wI, if_pos ⟨by omega, by omega, hj⟩, show 38 + c - 38 = c by omega]
theorem cp_fld (h : aH) (a : Nat) (hj : 5 ≤ j ∧ j ≤ 10) : hI (copyH h a) 38 j = hI h a j := by
  unfold copyH
  rw [hI_wI, if_neg (by omega), if_pos ⟨rfl, hj.1, hj.2⟩]
theorem sup_K (h : aH) (a G i : Nat) (hG : G ≤ 5) (hj : j < G) : hI (supH h a G i) 39 j = feignK (hI h (a + 1)) i j := by
  unfold supH
  rw [hI_wI, if_pos ⟨rfl, hj⟩]
  unfold feignK
  rw [show hI (copyH h a) 39 j = hI h (a + 1) j from cp_arr h a (c := 1) (by decide) (by omega)]
theorem sup_o (h : aH) (a G i : Nat) {b : Nat} (hb : b ≠ 39) : hI (supH h a G i) b j = hI (copyH h a) b j := by
  unfold supH
  rw [hI_wI, if_neg (by omega)]
theorem sup_CF (h : aH) (a G i : Nat) : CF h (supH h a G i) := by
  refine (show CF h (copyH h a) from ?_).trans ?_
  · unfold copyH
    exact CF.wI (fun b j q1 q2 q3 => by rw [if_neg (by omega), if_neg (by omega)])
  · unfold supH
    exact CF.wI (fun b j q1 q2 q3 => by rw [if_neg (by omega)])
abbrev fgC (h : aH) (a G z : Nat) (w : Nat → Nat) (i : Nat) : Bool := holdsF (fun hr j => hearF (feignK (hI h (a + 1)) i) (hI h (a + 2)) (hI h (a + 3)) (hI h 23) (hI h a 9) (hI h 22 1) hr G j) (fun _ j => hI h (a + 4) j) w (hI h 9) (hI h 10) z
theorem c_feigned (I : CI h a G) (hb : hI h a 10 = 0 ∨ hI h a 10 = 1) (hz : hI h 7 3 = nI z) (hz8 : z ≤ 8) {w : Nat → Nat} (hw : ∀ k, k < z → hI h 8 k = nI (w k) ∧ w k < G) : ∃ h', CF h h' ∧ ∀ Q : Option Value → aH → Prop, X 100 0 [.ref 3, .null, .null] [] h Q ↔ Q (some (.int (bitsF (fgC h a G z w) G))) h' := by
  have g := I.1.1
  have h5 := I.1.2.2.2
  suffices hs : ∃ h', CF h h' ∧ X 100 4 [.ref 3, .int 0, .int 0] [] h (fun r b => r = some (.int (bitsF (fgC h a G z w) G)) ∧ b = h') by
    obtain ⟨h', fr, hk⟩ := hs
    refine ⟨h', fr, fun Q => X_iff ?_ Q⟩
    simp only [x100_0, x100_1, x100_2, x100_3, x100_5, x100_6, x100_9, x100_12, x100_15, x100_16, x100_19, x100_20, x100_23, x100_26, x100_27, x100_30, x100_31, x100_34, x100_35, x100_38, x100_39, x100_42, x100_43, x100_46, x100_49, x100_52, x100_53, x100_54, x100_55, x100_56, x100_57, x100_58, x100_61, x100_64, x100_65, pv_some, pv_none, c1_int, c1_ref, c1_null, true_and, and_true, ne_eq, not_false_eq_true, not_true_eq_false, if_true, if_false, reduceCtorEq, Option.some.injEq, Value.int.injEq, absI_fold, minI_fold, maxI_fold, if_true, if_false, true_or, or_true, false_or, or_false, true_and, and_true, false_and, and_false, not_true_eq_false, not_false_eq_true, iff_self, ite_self, ne_eq, true_implies, implies_true, Bool.false_eq_true, decide_true, decide_false, Bool.or_true, Bool.or_false, Bool.true_or, Bool.false_or]
    exact hk
  refine loop_up (P := fun i => ∀ (h1 : aH), CF h h1 → ∃ h', CF h h' ∧ X 100 4 [.ref 3, .int (bitsF (fgC h a G z w) i), .int (nI i)] [] h1 (fun r b => r = some (.int (bitsF (fgC h a G z w) G)) ∧ b = h')) (n := G) (fun i hi hp h1 W => ?_) (fun h1 W => ?_) _ (CF.refl h)
  · have I1 := W.CI I
    have g1 := I1.1.1
    have ia : ∀ c, c ≤ 5 → hI h1 (a + c) = hI h (a + c) := fun c hc => W.inn I.2.2 hc
    have ia0 : hI h1 a = hI h a := ia 0 (by decide)
    have lo : ∀ b j, b < 12 ∨ b = 22 ∨ b = 23 → hI h1 b j = hI h b j := fun b j q => W.2 b j (by omega) (by omega) (by omega)
    have W2 : CF h (supH h1 a G i) := W.trans (sup_CF h1 a G i)
    have g2 := W2.GS g
    have Ic : InnAt (copyH h1 a) 38 G := ⟨g1, Or.inr (Or.inr rfl), by rw [cp_fld h1 a (by decide)]; exact I1.1.2.2.1, h5⟩
    have I2 : InnAt (supH h1 a G i) 38 G := ⟨g2, Or.inr (Or.inr rfl), by rw [sup_o _ _ _ _ (by decide), cp_fld h1 a (by decide)]; exact I1.1.2.2.1, h5⟩
    have lo2 : ∀ b j, b < 12 ∨ b = 22 ∨ b = 23 → hI (supH h1 a G i) b j = hI h b j := fun b j q => W2.2 b j (by omega) (by omega) (by omega)
    have hold := fun Q : Option Value → aH → Prop => k_allHold (Q := Q) (z := z) (w := w) I2 l22 (by rw [lo2 _ _ (by omega)]; exact hz) hz8 (fun k hk => by rw [lo2 _ _ (by omega)]; exact hw k hk)
    have eh : holdsF (fun hr j => hearA (supH h1 a G i) 38 22 hr G j) (fun _ j => hI (supH h1 a G i) (38 + 4) j) w (hI (supH h1 a G i) 9) (hI (supH h1 a G i) 10) z = fgC h a G z w i := by
      have e9 : hI (supH h1 a G i) 9 = hI h 9 := by funext j; exact lo2 _ _ (by omega)
      have e10 : hI (supH h1 a G i) 10 = hI h 10 := by funext j; exact lo2 _ _ (by omega)
      rw [e9, e10]
      refine holdsF_congr (fun k hk => ?_) (fun k hk => ?_)
      · have hwk := (hw k hk).2
        have e22 : hI (supH h1 a G i) 22 1 = hI h 22 1 := lo2 _ _ (by omega)
        have e38 : hI (supH h1 a G i) 38 9 = hI h a 9 := by rw [sup_o _ _ _ _ (by decide), cp_fld h1 a (by decide), ia0]
        have e23 : hI (supH h1 a G i) (22 + 1) = hI h 23 := by funext j; exact lo2 _ _ (by omega)
        show hearF _ _ _ _ _ _ _ _ _ = hearF _ _ _ _ _ _ _ _ _
        rw [e22, e38, e23]
        refine hearF_congr (fun q hq => ?_) (fun q hq => ?_) (fun q hq => ?_) agr.rfl' hwk
        · rw [show hI (supH h1 a G i) (38 + 1) q = _ from sup_K h1 a G i h5 hq, ia 1 (by decide)]
        · rw [sup_o _ _ _ _ (by decide), cp_arr h1 a (c := 2) (by decide) (by omega), ia 2 (by decide)]
        · rw [sup_o _ _ _ _ (by decide), cp_arr h1 a (c := 3) (by decide) (by omega), ia 3 (by decide)]
      · have hwk := (hw k hk).2
        rw [sup_o _ _ _ _ (by decide), cp_arr h1 a (c := 4) (by decide) (by omega), ia 4 (by decide)]
    have sp := fun Q : Option Value → aH → Prop => k_suppose (Q := Q) Ic hi
    rw [eh] at hold
    obtain ⟨h', fr, hp3⟩ := hp _ W2
    refine ⟨h', fr, ?_⟩
    have gc : GS (copyH h1 a) := g1
    rw [x100_4]
    simp only [x100_0, x100_1, x100_2, x100_3, x100_5, x100_6, x100_9, x100_12, x100_15, x100_16, x100_19, x100_20, x100_23, x100_26, x100_27, x100_30, x100_31, x100_34, x100_35, x100_38, x100_39, x100_42, x100_43, x100_46, x100_49, x100_52, x100_53, x100_54, x100_55, x100_56, x100_57, x100_58, x100_61, x100_64, x100_65, pv_some, pv_none, c1_int, c1_ref, c1_null, true_and, and_true, ne_eq, not_false_eq_true, not_true_eq_false, if_true, if_false, reduceCtorEq, Option.some.injEq, Value.int.injEq, absI_fold, minI_fold, maxI_fold, b_s g1, b_r10 g1, cs38 g1, m_nz, I1.2.1, I.nz, inn_s g1 I.1.2.1, k_guests g1 I.1.2.1, I1.1.2.2.1, nI_lt_iff (show i < 2 ^ 31 by omega) (show G < 2 ^ 31 by omega), hi, k_innCopy g1 I.2.2 (by rw [ia0]; exact hb), b_s gc, b_r10 gc, cs38 gc, sp, show wI (copyH h1 a) (fun b j => if b = 39 ∧ j < G then feignK (hI (copyH h1 a) 39) i j else hI (copyH h1 a) b j) = supH h1 a G i from rfl, b_s g2, b_r1 g2, b_r10 g2, b_r6 g2, cs7 g2, cs38 g2, cs22 g2, hold, bi_zero, nI_add1, if_true, if_false, true_or, or_true, false_or, or_false, true_and, and_true, false_and, and_false, not_true_eq_false, not_false_eq_true, iff_self, ite_self, ne_eq, true_implies, implies_true, Bool.false_eq_true, decide_true, decide_false, Bool.or_true, Bool.or_false, Bool.true_or, Bool.false_or]
    unfold bitsF at hp3 ⊢
    rw [foldN] at hp3
    by_cases c1 : fgC h a G z w i = true
    · simp only [c1, if_true, if_false, true_or, or_true, false_or, or_false, true_and, and_true, false_and, and_false, not_true_eq_false, not_false_eq_true, iff_self, ite_self, ne_eq, true_implies, implies_true, Bool.false_eq_true, decide_true, decide_false, Bool.or_true, Bool.or_false, Bool.true_or, Bool.false_or] at hp3 ⊢
      exact hp3
    · simp only [c1, if_true, if_false, true_or, or_true, false_or, or_false, true_and, and_true, false_and, and_false, not_true_eq_false, not_false_eq_true, iff_self, ite_self, ne_eq, true_implies, implies_true, Bool.false_eq_true, decide_true, decide_false, Bool.or_true, Bool.or_false, Bool.true_or, Bool.false_or] at hp3 ⊢
      exact hp3
  · have I1 := W.CI I
    have g1 := I1.1.1
    refine ⟨h1, W, ?_⟩
    rw [x100_4]
    simp only [x100_0, x100_1, x100_2, x100_3, x100_5, x100_6, x100_9, x100_12, x100_15, x100_16, x100_19, x100_20, x100_23, x100_26, x100_27, x100_30, x100_31, x100_34, x100_35, x100_38, x100_39, x100_42, x100_43, x100_46, x100_49, x100_52, x100_53, x100_54, x100_55, x100_56, x100_57, x100_58, x100_61, x100_64, x100_65, pv_some, pv_none, c1_int, c1_ref, c1_null, true_and, and_true, ne_eq, not_false_eq_true, not_true_eq_false, if_true, if_false, reduceCtorEq, Option.some.injEq, Value.int.injEq, absI_fold, minI_fold, maxI_fold, b_s g1, m_nz, I1.2.1, I.nz, inn_s g1 I.1.2.1, k_guests g1 I.1.2.1, I1.1.2.2.1, nI_lt_iff (show G < 2 ^ 31 by omega) (show G < 2 ^ 31 by omega), Nat.lt_irrefl, if_true, if_false, true_or, or_true, false_or, or_false, true_and, and_true, false_and, and_false, not_true_eq_false, not_false_eq_true, iff_self, ite_self, ne_eq, true_implies, implies_true, Bool.false_eq_true, decide_true, decide_false, Bool.or_true, Bool.or_false, Bool.true_or, Bool.false_or]
end CLS5
