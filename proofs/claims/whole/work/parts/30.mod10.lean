/-! THE REFERENCE: laying an inn, a guest, the wall to stuff -/
section MOD10
variable {h : aH} {D : Nat → Int32} {i j k z n : Nat} {Q : Option Value → aH → Prop} {x y b : Int32}
def ly1 (h : aH) (k : Nat) : aH := wI h (fun b j => if b = 46 ∧ j < k then hI h 47 j else hI h b j)
def ly2 (h : aH) (k : Nat) : aH := wI h (fun b j => if b = 48 ∧ j < k then (if j < 5 then hI h 46 (26 + j) else 0) else hI h b j)
/-- the heap when the draft is laid -/
def layH (h : aH) : aH := wI h (fun b j => if b = 46 ∧ j < 31 then hI h 47 j else if b = 48 ∧ j < 10 then (if j < 5 then hI h 47 (26 + j) else if j = 5 then hI h 47 4 else 0) else if b = 44 ∧ (j = 6 ∨ j = 8 ∨ j = 10) then 0 else hI h b j)
theorem ct4' : (4 : Int32).toNatClampNeg = 4 := by decide
theorem m_laysA (g : GM h) : X 136 0 [.ref 44, .null] [] h Q ↔ X 136 28 [.ref 44, .int 0] [] (ly1 h 31) Q := by
  have up : ∀ k, k ≤ 31 → (X 136 0 [.ref 44, .null] [] h Q ↔ X 136 2 [.ref 44, .int (nI k)] [] (ly1 h k) Q) := by
    intro k
    induction k with
    | zero =>
      intro _
      simp only [x136_0, x136_1, x136_3, x136_5, x136_8, x136_9, x136_12, x136_13, x136_14, x136_17, x136_18, x136_19, x136_20, x136_23, x136_26, x136_27, x136_29, x136_31, x136_34, x136_35, x136_38, x136_39, x136_40, x136_41, x136_44, x136_45, x136_48, x136_50, x136_51, x136_52, x136_53, x136_56, x136_57, x136_58, x136_61, x136_64, x136_65, x136_68, x136_69, x136_70, x136_73, x136_74, x136_75, x136_76, x136_77, x136_78, x136_81, x136_82, x136_83, x136_86, x136_87, x136_88, x136_91, pv_some, pv_none, c1_int, c1_ref, c1_null, true_and, and_true, ne_eq, not_false_eq_true, not_true_eq_false, if_true, if_false, reduceCtorEq, Option.some.injEq, Value.int.injEq, absI_fold, minI_fold, maxI_fold]
      rw [show ly1 h 0 = h from aH_ext rfl rfl rfl rfl (fun b j => by unfold ly1; rw [hI_wI, if_neg (by omega)])]
      rfl
    | succ k ih =>
      intro hk
      have gk : GM (ly1 h k) := g
      have q1 : hI (ly1 h k) 47 k = hI h 47 k := by unfold ly1; rw [hI_wI, if_neg (by omega)]
      rw [ih (by omega), x136_2]
      simp only [x136_0, x136_1, x136_3, x136_5, x136_8, x136_9, x136_12, x136_13, x136_14, x136_17, x136_18, x136_19, x136_20, x136_23, x136_26, x136_27, x136_29, x136_31, x136_34, x136_35, x136_38, x136_39, x136_40, x136_41, x136_44, x136_45, x136_48, x136_50, x136_51, x136_52, x136_53, x136_56, x136_57, x136_58, x136_61, x136_64, x136_65, x136_68, x136_69, x136_70, x136_73, x136_74, x136_75, x136_76, x136_77, x136_78, x136_81, x136_82, x136_83, x136_86, x136_87, x136_88, x136_91, pv_some, pv_none, c1_int, c1_ref, c1_null, true_and, and_true, ne_eq, not_false_eq_true, not_true_eq_false, if_true, if_false, reduceCtorEq, Option.some.injEq, Value.int.injEq, absI_fold, minI_fold, maxI_fold, m_s gk, m_r2 gk, m_r3 gk, m_s46 gk, m_s47 gk, m_nz, show (nI k < 31) = True from eq_true (nI_lt hk (by decide)), i31 (show k < 31 by omega), iw31 (show k < 31 by omega), nI_cl (show k < 2 ^ 31 by omega), q1, nI_add1, if_true, if_false, true_or, or_true, false_or, or_false, true_and, and_true, false_and, and_false, not_true_eq_false, not_false_eq_true, iff_self, ite_self, ne_eq, true_implies, implies_true, Bool.false_eq_true, decide_true, decide_false, Bool.or_true, Bool.or_false, Bool.true_or, Bool.false_or]
      rw [show sI (ly1 h k) 46 k (hI h 47 k) = ly1 h (k + 1) from by
        refine (aH_ext (by simp only [hN_sI, hN_cpI, hN_wI, ly1]) (by simp only [hZ_sI, hZ_cpI, hZ_wI, ly1]) (by simp only [hS_sI, hS_cpI, hS_wI, ly1]) (by simp only [hR_sI, hR_cpI, hR_wI, ly1]) (fun b j => ?_))
        unfold ly1
        simp only [hI_sI, hI_wI]
        grind]
  rw [up 31 (by omega), x136_2]
  simp only [x136_0, x136_1, x136_3, x136_5, x136_8, x136_9, x136_12, x136_13, x136_14, x136_17, x136_18, x136_19, x136_20, x136_23, x136_26, x136_27, x136_29, x136_31, x136_34, x136_35, x136_38, x136_39, x136_40, x136_41, x136_44, x136_45, x136_48, x136_50, x136_51, x136_52, x136_53, x136_56, x136_57, x136_58, x136_61, x136_64, x136_65, x136_68, x136_69, x136_70, x136_73, x136_74, x136_75, x136_76, x136_77, x136_78, x136_81, x136_82, x136_83, x136_86, x136_87, x136_88, x136_91, pv_some, pv_none, c1_int, c1_ref, c1_null, true_and, and_true, ne_eq, not_false_eq_true, not_true_eq_false, if_true, if_false, reduceCtorEq, Option.some.injEq, Value.int.injEq, absI_fold, minI_fold, maxI_fold, show (nI 31 < 31) = False by decide, if_true, if_false, true_or, or_true, false_or, or_false, true_and, and_true, false_and, and_false, not_true_eq_false, not_false_eq_true, iff_self, ite_self, ne_eq, true_implies, implies_true, Bool.false_eq_true, decide_true, decide_false, Bool.or_true, Bool.or_false, Bool.true_or, Bool.false_or]
theorem m_laysB (g : GM h) : X 136 28 [.ref 44, .int 0] [] h Q ↔ X 136 64 [.ref 44, .int 10] [] (ly2 h 10) Q := by
  have up : ∀ k, k ≤ 10 → (X 136 28 [.ref 44, .int 0] [] h Q ↔ X 136 28 [.ref 44, .int (nI k)] [] (ly2 h k) Q) := by
    intro k
    induction k with
    | zero =>
      intro _
      rw [show ly2 h 0 = h from aH_ext rfl rfl rfl rfl (fun b j => by unfold ly2; rw [hI_wI, if_neg (by omega)])]
      rfl
    | succ k ih =>
      intro hk
      have gk : GM (ly2 h k) := g
      rw [ih (by omega), x136_28]
      by_cases h5 : k < 5
      · have q1 : hI (ly2 h k) 46 (26 + k) = hI h 46 (26 + k) := by unfold ly2; rw [hI_wI, if_neg (by omega)]
        simp only [x136_0, x136_1, x136_3, x136_5, x136_8, x136_9, x136_12, x136_13, x136_14, x136_17, x136_18, x136_19, x136_20, x136_23, x136_26, x136_27, x136_29, x136_31, x136_34, x136_35, x136_38, x136_39, x136_40, x136_41, x136_44, x136_45, x136_48, x136_50, x136_51, x136_52, x136_53, x136_56, x136_57, x136_58, x136_61, x136_64, x136_65, x136_68, x136_69, x136_70, x136_73, x136_74, x136_75, x136_76, x136_77, x136_78, x136_81, x136_82, x136_83, x136_86, x136_87, x136_88, x136_91, pv_some, pv_none, c1_int, c1_ref, c1_null, true_and, and_true, ne_eq, not_false_eq_true, not_true_eq_false, if_true, if_false, reduceCtorEq, Option.some.injEq, Value.int.injEq, absI_fold, minI_fold, maxI_fold, m_s gk, m_r2 gk, m_r4 gk, m_s46 gk, m_s48 gk, m_nz, show (nI k < 10) = True from eq_true (nI_lt hk (by decide)), show (nI k < 5) = True from eq_true (nI_lt h5 (by decide)), p26, i31a (show 26 ≤ 26 by decide) h5, ncla (show 26 ≤ 26 by decide) h5, iw10 (show k < 10 by omega), nI_cl (show k < 2 ^ 31 by omega), q1, nI_add1, if_true, if_false, true_or, or_true, false_or, or_false, true_and, and_true, false_and, and_false, not_true_eq_false, not_false_eq_true, iff_self, ite_self, ne_eq, true_implies, implies_true, Bool.false_eq_true, decide_true, decide_false, Bool.or_true, Bool.or_false, Bool.true_or, Bool.false_or]
        rw [show sI (ly2 h k) 48 k (hI h 46 (26 + k)) = ly2 h (k + 1) from by
          refine (aH_ext (by simp only [hN_sI, hN_cpI, hN_wI, ly2]) (by simp only [hZ_sI, hZ_cpI, hZ_wI, ly2]) (by simp only [hS_sI, hS_cpI, hS_wI, ly2]) (by simp only [hR_sI, hR_cpI, hR_wI, ly2]) (fun b j => ?_))
          unfold ly2
          simp only [hI_sI, hI_wI]
          grind]
      · have n5 : (nI k < 5) = False := eq_false (fun q => h5 (lit_le (b := 5) (by omega) (by decide) q))
        simp only [x136_0, x136_1, x136_3, x136_5, x136_8, x136_9, x136_12, x136_13, x136_14, x136_17, x136_18, x136_19, x136_20, x136_23, x136_26, x136_27, x136_29, x136_31, x136_34, x136_35, x136_38, x136_39, x136_40, x136_41, x136_44, x136_45, x136_48, x136_50, x136_51, x136_52, x136_53, x136_56, x136_57, x136_58, x136_61, x136_64, x136_65, x136_68, x136_69, x136_70, x136_73, x136_74, x136_75, x136_76, x136_77, x136_78, x136_81, x136_82, x136_83, x136_86, x136_87, x136_88, x136_91, pv_some, pv_none, c1_int, c1_ref, c1_null, true_and, and_true, ne_eq, not_false_eq_true, not_true_eq_false, if_true, if_false, reduceCtorEq, Option.some.injEq, Value.int.injEq, absI_fold, minI_fold, maxI_fold, m_s gk, m_r2 gk, m_r4 gk, m_s46 gk, m_s48 gk, m_nz, show (nI k < 10) = True from eq_true (nI_lt hk (by decide)), n5, iw10 (show k < 10 by omega), nI_cl (show k < 2 ^ 31 by omega), nI_add1, if_true, if_false, true_or, or_true, false_or, or_false, true_and, and_true, false_and, and_false, not_true_eq_false, not_false_eq_true, iff_self, ite_self, ne_eq, true_implies, implies_true, Bool.false_eq_true, decide_true, decide_false, Bool.or_true, Bool.or_false, Bool.true_or, Bool.false_or]
        rw [show sI (ly2 h k) 48 k 0 = ly2 h (k + 1) from by
          refine (aH_ext (by simp only [hN_sI, hN_cpI, hN_wI, ly2]) (by simp only [hZ_sI, hZ_cpI, hZ_wI, ly2]) (by simp only [hS_sI, hS_cpI, hS_wI, ly2]) (by simp only [hR_sI, hR_cpI, hR_wI, ly2]) (fun b j => ?_))
          unfold ly2
          simp only [hI_sI, hI_wI]
          grind]
  rw [up 10 (by omega), x136_28]
  simp only [x136_0, x136_1, x136_3, x136_5, x136_8, x136_9, x136_12, x136_13, x136_14, x136_17, x136_18, x136_19, x136_20, x136_23, x136_26, x136_27, x136_29, x136_31, x136_34, x136_35, x136_38, x136_39, x136_40, x136_41, x136_44, x136_45, x136_48, x136_50, x136_51, x136_52, x136_53, x136_56, x136_57, x136_58, x136_61, x136_64, x136_65, x136_68, x136_69, x136_70, x136_73, x136_74, x136_75, x136_76, x136_77, x136_78, x136_81, x136_82, x136_83, x136_86, x136_87, x136_88, x136_91, pv_some, pv_none, c1_int, c1_ref, c1_null, true_and, and_true, ne_eq, not_false_eq_true, not_true_eq_false, if_true, if_false, reduceCtorEq, Option.some.injEq, Value.int.injEq, absI_fold, minI_fold, maxI_fold, show (nI 10 < 10) = False by decide, if_true, if_false, true_or, or_true, false_or, or_false, true_and, and_true, false_and, and_false, not_true_eq_false, not_false_eq_true, iff_self, ite_self, ne_eq, true_implies, implies_true, Bool.false_eq_true, decide_true, decide_false, Bool.or_true, Bool.or_false, Bool.true_or, Bool.false_or]
theorem parse_lt (c : Nat → Int32) (n : Nat) : ∀ f p D q, (parseF c n f p D).1 = some q → q < n := by
  intro f
  induction f with
  | zero => intro p D q e; cases e
  | succ f ih =>
    intro p D q e
    rw [parseF] at e
    by_cases hp : p < n
    · rw [if_pos hp] at e
      cases hi : itemF c p D with
      | none => rw [hi] at e; cases e; exact hp
      | some y => rw [hi] at e; exact ih _ _ _ e
    · rw [if_neg hp] at e
      cases e
theorem m_lays (g : GM h) : X 136 0 [.ref 44, .null] [] h Q ↔ Q none (layH h) := by
  have g1 : GM (ly1 h 31) := g
  have g2 : GM (ly2 (ly1 h 31) 10) := g
  rw [m_laysA g, m_laysB g1]
  have e4 : hI (ly2 (ly1 h 31) 10) 46 4 = hI h 47 4 := by
    unfold ly2
    rw [hI_wI, if_neg (by omega)]
    unfold ly1
    rw [hI_wI, if_pos ⟨rfl, by omega⟩]
  simp only [x136_0, x136_1, x136_3, x136_5, x136_8, x136_9, x136_12, x136_13, x136_14, x136_17, x136_18, x136_19, x136_20, x136_23, x136_26, x136_27, x136_29, x136_31, x136_34, x136_35, x136_38, x136_39, x136_40, x136_41, x136_44, x136_45, x136_48, x136_50, x136_51, x136_52, x136_53, x136_56, x136_57, x136_58, x136_61, x136_64, x136_65, x136_68, x136_69, x136_70, x136_73, x136_74, x136_75, x136_76, x136_77, x136_78, x136_81, x136_82, x136_83, x136_86, x136_87, x136_88, x136_91, pv_some, pv_none, c1_int, c1_ref, c1_null, true_and, and_true, ne_eq, not_false_eq_true, not_true_eq_false, if_true, if_false, reduceCtorEq, Option.some.injEq, Value.int.injEq, absI_fold, minI_fold, maxI_fold, m_s g2, m_r4 g2, m_r2 g2, m_s48 g2, m_s46 g2, m_nz, show ib 4 (2, 31) = True from i31 (k := 4) (by decide), ct4', e4, show ibw 5 (2, 10) = True from iw10 (k := 5) (by decide), ct5, hS_sI, if_true, if_false, true_or, or_true, false_or, or_false, true_and, and_true, false_and, and_false, not_true_eq_false, not_false_eq_true, iff_self, ite_self, ne_eq, true_implies, implies_true, Bool.false_eq_true, decide_true, decide_false, Bool.or_true, Bool.or_false, Bool.true_or, Bool.false_or]
  refine iff_Q ?_
  refine (aH_ext (by simp only [hN_sI, hN_cpI, hN_wI, ly1, ly2, layH]) (by simp only [hZ_sI, hZ_cpI, hZ_wI, ly1, ly2, layH]) (by simp only [hS_sI, hS_cpI, hS_wI, ly1, ly2, layH]) (by simp only [hR_sI, hR_cpI, hR_wI, ly1, ly2, layH]) (fun b j => ?_))
  unfold ly2 ly1 layH
  simp only [hI_sI, hI_wI]
  grind
/-- lay -/
theorem m_lay (T : MT h n) : ∃ h1, MFr h h1 ∧ ((parseF (mlt (hI h 45) n) n 201 0 D0).1 = none → MD h1 (parseF (mlt (hI h 45) n) n 201 0 D0).2 ∧ DW (parseF (mlt (hI h 45) n) n 201 0 D0).2) ∧ ∀ Q : Option Value → aH → Prop, X 137 0 [.ref 44] [] h Q ↔ if (parseF (mlt (hI h 45) n) n 201 0 D0).1 = none ∧ ¬ (parseF (mlt (hI h 45) n) n 201 0 D0).2 0 = 0 then Q (some (.int ((parseF (mlt (hI h 45) n) n 201 0 D0).2 0))) (layH h1) else Q (some (.int (-2))) h1 := by
  obtain ⟨h1, fr, M, kk⟩ := m_reads T
  have hb := parse_lt (mlt (hI h 45) n) n 201 0 D0
  generalize parseF (mlt (hI h 45) n) n 201 0 D0 = R at *
  have g := T.1
  have hn := T.2.2
  have g1 := fr.GM g
  refine ⟨h1, fr, M, fun Q => ?_⟩
  have gl : GM (layH h1) := g1
  have el : hI (layH h1) 46 0 = hI h1 47 0 := by unfold layH; rw [hI_wI, if_pos ⟨rfl, by omega⟩]
  cases hR1 : R.1 with
  | none =>
    obtain ⟨M1, -⟩ := M hR1
    have e0 := M1.1 0 (by omega)
    by_cases h0 : R.2 0 = 0
    · rw [if_neg (fun q => q.2 h0)]
      simp only [x137_0, x137_1, x137_4, x137_6, x137_9, x137_10, x137_13, x137_14, x137_15, x137_18, x137_20, x137_21, x137_22, x137_25, x137_26, x137_29, x137_30, x137_31, pv_some, pv_none, c1_int, c1_ref, c1_null, true_and, and_true, ne_eq, not_false_eq_true, not_true_eq_false, if_true, if_false, reduceCtorEq, Option.some.injEq, Value.int.injEq, absI_fold, minI_fold, maxI_fold, m_s g, kk, hR1, fltA, m_s g1, m_r3 g1, m_s47 g1, m_nz, show ib 0 (2, 31) = True from i31 (k := 0) (by decide), c0, e0, h0, if_true, if_false, true_or, or_true, false_or, or_false, true_and, and_true, false_and, and_false, not_true_eq_false, not_false_eq_true, iff_self, ite_self, ne_eq, true_implies, implies_true, Bool.false_eq_true, decide_true, decide_false, Bool.or_true, Bool.or_false, Bool.true_or, Bool.false_or]
    · rw [if_pos ⟨rfl, h0⟩]
      simp only [x137_0, x137_1, x137_4, x137_6, x137_9, x137_10, x137_13, x137_14, x137_15, x137_18, x137_20, x137_21, x137_22, x137_25, x137_26, x137_29, x137_30, x137_31, pv_some, pv_none, c1_int, c1_ref, c1_null, true_and, and_true, ne_eq, not_false_eq_true, not_true_eq_false, if_true, if_false, reduceCtorEq, Option.some.injEq, Value.int.injEq, absI_fold, minI_fold, maxI_fold, m_s g, kk, hR1, fltA, m_s g1, m_r3 g1, m_s47 g1, m_nz, show ib 0 (2, 31) = True from i31 (k := 0) (by decide), c0, e0, h0, m_lays g1, m_s gl, m_r2 gl, m_s46 gl, el, if_true, if_false, true_or, or_true, false_or, or_false, true_and, and_true, false_and, and_false, not_true_eq_false, not_false_eq_true, iff_self, ite_self, ne_eq, true_implies, implies_true, Bool.false_eq_true, decide_true, decide_false, Bool.or_true, Bool.or_false, Bool.true_or, Bool.false_or]
  | some p =>
    rw [if_neg (fun q => by cases q.1)]
    have hp := hb p hR1
    have ne : (nI p = -4) = False := eq_false (fun q => nI_pos (show p < 2 ^ 31 by omega) (q ▸ by decide))
    simp only [x137_0, x137_1, x137_4, x137_6, x137_9, x137_10, x137_13, x137_14, x137_15, x137_18, x137_20, x137_21, x137_22, x137_25, x137_26, x137_29, x137_30, x137_31, pv_some, pv_none, c1_int, c1_ref, c1_null, true_and, and_true, ne_eq, not_false_eq_true, not_true_eq_false, if_true, if_false, reduceCtorEq, Option.some.injEq, Value.int.injEq, absI_fold, minI_fold, maxI_fold, m_s g, kk, hR1, fltA, ne, if_true, if_false, true_or, or_true, false_or, or_false, true_and, and_true, false_and, and_false, not_true_eq_false, not_false_eq_true, iff_self, ite_self, ne_eq, true_implies, implies_true, Bool.false_eq_true, decide_true, decide_false, Bool.or_true, Bool.or_false, Bool.true_or, Bool.false_or]
/-- a scratch that is as it is, but for its walls and hour -/
def WT (h h1 : aH) : Prop := SF h h1 ∧ hI h1 52 = hI (asH h) 52 ∧ hI h1 53 = hI (asH h) 53 ∧ hI h1 44 16 = 31
theorem WT.as (h : aH) : WT h (asH h) := ⟨as_SF h, rfl, rfl, as16⟩
theorem WT.sI {h1 : aH} (w : WT h h1) {v : Int32} (hk : k = 14 ∨ k = 15) : WT h (sI h1 44 k v) := ⟨w.1.sI v (Or.inr (Or.inr ⟨rfl, by omega⟩)), by rw [← w.2.1]; funext j; rw [hI_sI, if_neg (by omega)], by rw [← w.2.2.1]; funext j; rw [hI_sI, if_neg (by omega)], by rw [hI_sI, if_neg (by omega)]; exact w.2.2.2⟩
def nightW (K P : Nat → Int32) (D : Nat → Int32) (w : Int32) : Int32 := foldN (fun k s => s + bitF (wakeF K (DA D 11) (DA D 16) (DA D 21) P (D 3) w (nI k) (gN D))) 0 8
theorem nightM_W (h1 : aH) (D : Nat → Int32) : nightM h1 D 8 = nightW (hI h1 53) (hI h1 52) D (hI h1 44 14) := rfl
/-- the wall whose stuffing leaves the fewest awake -/
def wtF (st : Nat → Bool) (ni : Nat → Int32) (n : Nat) : Int32 × Int32 := foldN (fun p s => if st p = true then s else if s.1 = -4 ∨ ni p < s.2 then (nI p, ni p) else s) (-4, -4) n
abbrev wtM (h : aH) (D : Nat → Int32) (n : Nat) : Int32 × Int32 := wtF (fun p => !decide (hI h 48 5 >>> (nI p &&& 31) &&& 1 = 0)) (fun p => nightW (hI (asH h) 53) (hI (asH h) 52) D (hI h 48 5 ||| 1 <<< (nI p &&& 31))) n
theorem m_wallTo (A : MA h D) (hx : x = 0 ∨ x = 1) (hn : D 1 = nI n) (hn6 : 1 ≤ n ∧ n ≤ 6) : ∃ h', SF h h' ∧ ∀ Q : Option Value → aH → Prop, X 166 0 [.ref 44, .int x, .null, .null, .null, .null, .null] [] h Q ↔ Q (some (.int (if x = 0 then (wtM h D (n - 1)).1 else (wtM h D (n - 1)).2))) h' := by
  have g := A.1
  have e1 : hI h 46 1 = nI n := (A.2.2.1 1 (by omega)).trans hn
  have inx : ¬ x < 0 ∧ ¬ 1 < x := by rcases hx with rfl | rfl <;> decide
  suffices hs : ∃ h', SF h h' ∧ X 166 24 [.ref 44, .int x, .int (-4), .int (-4), .int 0, .null, .null] [] (asH h) (fun a b => a = some (.int (if x = 0 then (wtM h D (n - 1)).1 else (wtM h D (n - 1)).2)) ∧ b = h') by
    obtain ⟨h', fr, hk⟩ := hs
    refine ⟨h', fr, fun Q => X_iff ?_ Q⟩
    simp only [x166_0, x166_1, x166_2, x166_3, x166_6, x166_9, x166_10, x166_11, x166_12, x166_15, x166_17, x166_18, x166_20, x166_21, x166_22, x166_26, x166_27, x166_28, x166_29, x166_32, x166_33, x166_34, x166_37, x166_38, x166_41, x166_42, x166_43, x166_45, x166_46, x166_47, x166_48, x166_51, x166_52, x166_53, x166_56, x166_57, x166_58, x166_59, x166_61, x166_62, x166_63, x166_66, x166_67, x166_70, x166_72, x166_73, x166_75, x166_78, x166_80, x166_81, x166_84, x166_85, x166_88, x166_89, x166_91, x166_93, x166_96, x166_98, x166_101, x166_102, x166_103, x166_105, x166_108, x166_110, x166_113, x166_114, x166_115, x166_118, x166_121, x166_122, x166_125, x166_126, x166_129, x166_130, pv_some, pv_none, c1_int, c1_ref, c1_null, true_and, and_true, ne_eq, not_false_eq_true, not_true_eq_false, if_true, if_false, reduceCtorEq, Option.some.injEq, Value.int.injEq, absI_fold, minI_fold, maxI_fold, m_in, bi_zero, inx, m_s g, m_asItIs g, if_true, if_false, true_or, or_true, false_or, or_false, true_and, and_true, false_and, and_false, not_true_eq_false, not_false_eq_true, iff_self, ite_self, ne_eq, true_implies, implies_true, Bool.false_eq_true, decide_true, decide_false, Bool.or_true, Bool.or_false, Bool.true_or, Bool.false_or]
    exact hk
  refine loop_up (P := fun k => ∀ (l5 l6 : Value) (h1 : aH), WT h h1 → ∃ h', SF h h' ∧ X 166 24 [.ref 44, .int x, .int (wtM h D k).1, .int (wtM h D k).2, .int (nI k), l5, l6] [] h1 (fun a b => a = some (.int (if x = 0 then (wtM h D (n - 1)).1 else (wtM h D (n - 1)).2)) ∧ b = h')) (n := n - 1) (fun k hk hp l5 l6 h1 W => ?_) (fun l5 l6 h1 W => ?_) _ _ _ (WT.as h)
  · have A1 := A.SF W.1
    have g1 := A1.1
    have e5 : hI h1 48 5 = hI h 48 5 := W.1.2 48 5 (by decide) (by decide) (by omega)
    have e11 : hI h1 46 1 = nI n := (W.1.2 46 1 (by decide) (by decide) (by omega)).trans e1
    by_cases st : hI h 48 5 >>> (nI k &&& 31) &&& 1 = 0
    · have W2 : WT h (sI h1 44 14 (hI h 48 5 ||| 1 <<< (nI k &&& 31))) := W.sI (Or.inl rfl)
      have W3 : WT h (sI (sI h1 44 14 (hI h 48 5 ||| 1 <<< (nI k &&& 31))) 44 15 7) := W2.sI (Or.inr rfl)
      have ni := fun Q : Option Value → aH → Prop => m_allNight (Q := Q) (A.SF W2.1) W2.2.2.2
      rw [nightM_W, W2.2.1, W2.2.2.1, hI_sI, if_pos ⟨rfl, rfl⟩] at ni
      have hp2 := hp (.int (nightW (hI (asH h) 53) (hI (asH h) 52) D (hI h 48 5 ||| 1 <<< (nI k &&& 31)))) (.int (if (wtM h D k).1 = -4 ∨ nightW (hI (asH h) 53) (hI (asH h) 52) D (hI h 48 5 ||| 1 <<< (nI k &&& 31)) < (wtM h D k).2 then 1 else 0)) _ W3
      obtain ⟨h', fr, hp3⟩ := hp2
      refine ⟨h', fr, ?_⟩
      rw [x166_24]
      simp only [x166_0, x166_1, x166_2, x166_3, x166_6, x166_9, x166_10, x166_11, x166_12, x166_15, x166_17, x166_18, x166_20, x166_21, x166_22, x166_26, x166_27, x166_28, x166_29, x166_32, x166_33, x166_34, x166_37, x166_38, x166_41, x166_42, x166_43, x166_45, x166_46, x166_47, x166_48, x166_51, x166_52, x166_53, x166_56, x166_57, x166_58, x166_59, x166_61, x166_62, x166_63, x166_66, x166_67, x166_70, x166_72, x166_73, x166_75, x166_78, x166_80, x166_81, x166_84, x166_85, x166_88, x166_89, x166_91, x166_93, x166_96, x166_98, x166_101, x166_102, x166_103, x166_105, x166_108, x166_110, x166_113, x166_114, x166_115, x166_118, x166_121, x166_122, x166_125, x166_126, x166_129, x166_130, pv_some, pv_none, c1_int, c1_ref, c1_null, true_and, and_true, ne_eq, not_false_eq_true, not_true_eq_false, if_true, if_false, reduceCtorEq, Option.some.injEq, Value.int.injEq, absI_fold, minI_fold, maxI_fold, m_s g1, m_r2 g1, m_r4 g1, m_s46 g1, m_s48 g1, m_nz, hS_sI, show ib 1 (2, 31) = True from i31 (k := 1) (by decide), ct1, e11, nI_add1, nI_lt_iff (show k + 1 < 2 ^ 31 by omega) (show n < 2 ^ 31 by omega), show k + 1 < n by omega, show ib 5 (2, 10) = True from i10 (k := 5) (by decide), ct5, e5, st, ni, if_true, if_false, true_or, or_true, false_or, or_false, true_and, and_true, false_and, and_false, not_true_eq_false, not_false_eq_true, iff_self, ite_self, ne_eq, true_implies, implies_true, Bool.false_eq_true, decide_true, decide_false, Bool.or_true, Bool.or_false, Bool.true_or, Bool.false_or]
      have ew : wtM h D (k + 1) = if (wtM h D k).1 = -4 ∨ nightW (hI (asH h) 53) (hI (asH h) 52) D (hI h 48 5 ||| 1 <<< (nI k &&& 31)) < (wtM h D k).2 then (nI k, nightW (hI (asH h) 53) (hI (asH h) 52) D (hI h 48 5 ||| 1 <<< (nI k &&& 31))) else wtM h D k := by
        unfold wtM wtF
        rw [foldN]
        simp only [st, decide_true, Bool.not_true, if_true, if_false, true_or, or_true, false_or, or_false, true_and, and_true, false_and, and_false, not_true_eq_false, not_false_eq_true, iff_self, ite_self, ne_eq, true_implies, implies_true, Bool.false_eq_true, decide_true, decide_false, Bool.or_true, Bool.or_false, Bool.true_or, Bool.false_or]
      rw [ew] at hp3
      generalize wtM h D k = s0 at *
      generalize nightW (hI (asH h) 53) (hI (asH h) 52) D (hI h 48 5 ||| 1 <<< (nI k &&& 31)) = v0 at *
      by_cases c1 : s0.1 = -4
      · simp only [c1, one_ne, if_true, if_false, true_or, or_true, false_or, or_false, true_and, and_true, false_and, and_false, not_true_eq_false, not_false_eq_true, iff_self, ite_self, ne_eq, true_implies, implies_true, Bool.false_eq_true, decide_true, decide_false, Bool.or_true, Bool.or_false, Bool.true_or, Bool.false_or] at hp3 ⊢
        exact hp3
      · by_cases c2 : v0 < s0.2
        · simp only [c1, c2, one_ne, if_true, if_false, true_or, or_true, false_or, or_false, true_and, and_true, false_and, and_false, not_true_eq_false, not_false_eq_true, iff_self, ite_self, ne_eq, true_implies, implies_true, Bool.false_eq_true, decide_true, decide_false, Bool.or_true, Bool.or_false, Bool.true_or, Bool.false_or] at hp3 ⊢
          exact hp3
        · simp only [c1, c2, one_ne, if_true, if_false, true_or, or_true, false_or, or_false, true_and, and_true, false_and, and_false, not_true_eq_false, not_false_eq_true, iff_self, ite_self, ne_eq, true_implies, implies_true, Bool.false_eq_true, decide_true, decide_false, Bool.or_true, Bool.or_false, Bool.true_or, Bool.false_or] at hp3 ⊢
          exact hp3
    · have ew : wtM h D (k + 1) = wtM h D k := by
        unfold wtM wtF
        rw [foldN]
        simp only [st, decide_false, Bool.not_false, if_true, if_false, true_or, or_true, false_or, or_false, true_and, and_true, false_and, and_false, not_true_eq_false, not_false_eq_true, iff_self, ite_self, ne_eq, true_implies, implies_true, Bool.false_eq_true, decide_true, decide_false, Bool.or_true, Bool.or_false, Bool.true_or, Bool.false_or]
      obtain ⟨h', fr, hp3⟩ := hp l5 l6 h1 W
      rw [ew] at hp3
      refine ⟨h', fr, ?_⟩
      rw [x166_24]
      simp only [x166_0, x166_1, x166_2, x166_3, x166_6, x166_9, x166_10, x166_11, x166_12, x166_15, x166_17, x166_18, x166_20, x166_21, x166_22, x166_26, x166_27, x166_28, x166_29, x166_32, x166_33, x166_34, x166_37, x166_38, x166_41, x166_42, x166_43, x166_45, x166_46, x166_47, x166_48, x166_51, x166_52, x166_53, x166_56, x166_57, x166_58, x166_59, x166_61, x166_62, x166_63, x166_66, x166_67, x166_70, x166_72, x166_73, x166_75, x166_78, x166_80, x166_81, x166_84, x166_85, x166_88, x166_89, x166_91, x166_93, x166_96, x166_98, x166_101, x166_102, x166_103, x166_105, x166_108, x166_110, x166_113, x166_114, x166_115, x166_118, x166_121, x166_122, x166_125, x166_126, x166_129, x166_130, pv_some, pv_none, c1_int, c1_ref, c1_null, true_and, and_true, ne_eq, not_false_eq_true, not_true_eq_false, if_true, if_false, reduceCtorEq, Option.some.injEq, Value.int.injEq, absI_fold, minI_fold, maxI_fold, m_s g1, m_r2 g1, m_r4 g1, m_s46 g1, m_s48 g1, m_nz, show ib 1 (2, 31) = True from i31 (k := 1) (by decide), ct1, e11, nI_add1, nI_lt_iff (show k + 1 < 2 ^ 31 by omega) (show n < 2 ^ 31 by omega), show k + 1 < n by omega, show ib 5 (2, 10) = True from i10 (k := 5) (by decide), ct5, e5, st, if_true, if_false, true_or, or_true, false_or, or_false, true_and, and_true, false_and, and_false, not_true_eq_false, not_false_eq_true, iff_self, ite_self, ne_eq, true_implies, implies_true, Bool.false_eq_true, decide_true, decide_false, Bool.or_true, Bool.or_false, Bool.true_or, Bool.false_or]
      exact hp3
  · have g1 := W.1.GM g
    have e11 : hI h1 46 1 = nI n := (W.1.2 46 1 (by decide) (by decide) (by omega)).trans e1
    refine ⟨h1, W.1, ?_⟩
    rw [x166_24]
    simp only [x166_0, x166_1, x166_2, x166_3, x166_6, x166_9, x166_10, x166_11, x166_12, x166_15, x166_17, x166_18, x166_20, x166_21, x166_22, x166_26, x166_27, x166_28, x166_29, x166_32, x166_33, x166_34, x166_37, x166_38, x166_41, x166_42, x166_43, x166_45, x166_46, x166_47, x166_48, x166_51, x166_52, x166_53, x166_56, x166_57, x166_58, x166_59, x166_61, x166_62, x166_63, x166_66, x166_67, x166_70, x166_72, x166_73, x166_75, x166_78, x166_80, x166_81, x166_84, x166_85, x166_88, x166_89, x166_91, x166_93, x166_96, x166_98, x166_101, x166_102, x166_103, x166_105, x166_108, x166_110, x166_113, x166_114, x166_115, x166_118, x166_121, x166_122, x166_125, x166_126, x166_129, x166_130, pv_some, pv_none, c1_int, c1_ref, c1_null, true_and, and_true, ne_eq, not_false_eq_true, not_true_eq_false, if_true, if_false, reduceCtorEq, Option.some.injEq, Value.int.injEq, absI_fold, minI_fold, maxI_fold, m_s g1, m_r2 g1, m_s46 g1, m_nz, show ib 1 (2, 31) = True from i31 (k := 1) (by decide), ct1, e11, nI_add1, nI_lt_iff (show n - 1 + 1 < 2 ^ 31 by omega) (show n < 2 ^ 31 by omega), show ¬ n - 1 + 1 < n by omega, if_true, if_false, true_or, or_true, false_or, or_false, true_and, and_true, false_and, and_false, not_true_eq_false, not_false_eq_true, iff_self, ite_self, ne_eq, true_implies, implies_true, Bool.false_eq_true, decide_true, decide_false, Bool.or_true, Bool.or_false, Bool.true_or, Bool.false_or]
    by_cases x0 : x = 0 <;> simp only [x0, if_true, if_false, true_or, or_true, false_or, or_false, true_and, and_true, false_and, and_false, not_true_eq_false, not_false_eq_true, iff_self, ite_self, ne_eq, true_implies, implies_true, Bool.false_eq_true, decide_true, decide_false, Bool.or_true, Bool.or_false, Bool.true_or, Bool.false_or]
theorem m_wallToNo (g : GM h) (hx : ¬ (¬ x < 0 ∧ ¬ 1 < x)) : X 166 0 [.ref 44, .int x, .null, .null, .null, .null, .null] [] h Q ↔ Q (some (.int (-1))) h := by
  simp only [x166_0, x166_1, x166_2, x166_3, x166_6, x166_9, x166_10, x166_11, x166_12, x166_15, x166_17, x166_18, x166_20, x166_21, x166_22, x166_26, x166_27, x166_28, x166_29, x166_32, x166_33, x166_34, x166_37, x166_38, x166_41, x166_42, x166_43, x166_45, x166_46, x166_47, x166_48, x166_51, x166_52, x166_53, x166_56, x166_57, x166_58, x166_59, x166_61, x166_62, x166_63, x166_66, x166_67, x166_70, x166_72, x166_73, x166_75, x166_78, x166_80, x166_81, x166_84, x166_85, x166_88, x166_89, x166_91, x166_93, x166_96, x166_98, x166_101, x166_102, x166_103, x166_105, x166_108, x166_110, x166_113, x166_114, x166_115, x166_118, x166_121, x166_122, x166_125, x166_126, x166_129, x166_130, pv_some, pv_none, c1_int, c1_ref, c1_null, true_and, and_true, ne_eq, not_false_eq_true, not_true_eq_false, if_true, if_false, reduceCtorEq, Option.some.injEq, Value.int.injEq, absI_fold, minI_fold, maxI_fold, m_in, bi_zero, hx, if_true, if_false, true_or, or_true, false_or, or_false, true_and, and_true, false_and, and_false, not_true_eq_false, not_false_eq_true, iff_self, ite_self, ne_eq, true_implies, implies_true, Bool.false_eq_true, decide_true, decide_false, Bool.or_true, Bool.or_false, Bool.true_or, Bool.false_or]
end MOD10
