/-! THE CLASS: within -/
section CLS8
variable {h h1 : aH} {a G i j k z n w : Nat} {Q : Option Value → aH → Prop} {x y b hr d : Int32}
theorem evenF_congr {lo lo' P P' : Nat → Int32} (hl : agr G lo lo') (hP : agr G P P') : evenF lo P d G = evenF lo' P' d G := by
  unfold evenF
  rw [fstN_congr (q := fun i => decide (fstN (badF lo' P' d i) i < i)) G (fun i hi => ?_)]
  rw [fstN_congr (q := badF lo' P' d i) i (fun j hj => ?_)]
  unfold badF
  rw [hP i hi, hP j (by omega), hl i hi, hl j (by omega)]
abbrev evW (h : aH) (a G n : Nat) (d : Int32) (w : Nat) : Bool := evenF (loA h a (hI h 22 2)) (wyP n G w) d G
def withS (ev : Nat → Bool) (T : Nat) : Nat × Nat := foldN (fun w s => if ev w = true then (s.1 + 1, if s.1 = 0 then w else s.2) else s) (0, 0) T
theorem withS_lt (ev : Nat → Bool) : ∀ T, (withS ev T).1 ≤ T ∧ (0 < T → (withS ev T).2 < T) := by
  intro T
  induction T with
  | zero => exact ⟨Nat.le_refl 0, fun h => by omega⟩
  | succ T ih =>
    unfold withS at ih ⊢
    rw [foldN]
    split
    · refine ⟨by omega, fun _ => ?_⟩
      show (if _ then _ else _) < _
      split
      · exact Nat.lt_succ_self T
      · rename_i c
        have := ih.1
        exact Nat.lt_succ_of_lt (ih.2 (by omega))
    · refine ⟨by omega, fun _ => ?_⟩
      by_cases c : 0 < T
      · exact Nat.lt_succ_of_lt (ih.2 c)
      · have : T = 0 := by omega
        subst this
        exact Nat.lt_succ_self 0
theorem ev_tried (C : CW h a G n) (t : BT h h1) : evenF (loA (sprH h1 25 n (falN n G) w G) a (hI h 22 2)) (hI (sprH h1 25 n (falN n G) w G) (24 + 1)) d G = evW h a G n d w := by
  have I := C.1
  have t2 : BT h (sprH h1 25 n (falN n G) w G) := t.spr
  unfold evW
  refine evenF_congr (fun j hj => ?_) (fun j hj => spr_at h1 hj)
  show loudF _ _ _ = loudF _ _ _
  rw [t2.1.inn I.2.2 (c := 1) (by decide), t2.1.inn I.2.2 (c := 2) (by decide)]
def withV (h : aH) (a G n : Nat) (d x : Int32) : Int32 := if (withS (evW h a G n d) (falN n G)).1 = 0 then -4 else if x = -1 then nI (withS (evW h a G n d) (falN n G)).1 else nI (wlN n (falN n G) (withS (evW h a G n d) (falN n G)).2 x.toNatClampNeg)
theorem c_within (C : CW h a G n) (hh : ¬ d < 0 ∧ ¬ 40 < d) (hx : x = -1 ∨ (¬ x < 0 ∧ x < nI G)) : ∃ h', CF h h' ∧ ∀ Q : Option Value → aH → Prop, X 96 0 [.ref 3, .int d, .int x, .null, .null, .null] [] h Q ↔ Q (some (.int (withV h a G n d x))) h' := by
  have I := C.1
  have g := I.1.1
  have h5 := I.1.2.2.2
  have b := C.2.2.2
  have hf := fal_pos b
  have hx2 : x = -1 ∨ (¬ x < 0 ∧ x < hI h a 5) := by rw [I.1.2.2.1]; exact hx
  -- the end
  have fin : ∀ (h1 : aH) (k : Nat) (s : Nat × Nat), BT h h1 → s = withS (evW h a G n d) (falN n G) → ∃ h', CF h h' ∧ X 96 106 [.ref 3, .int d, .int x, .int (nI s.1), .int (nI s.2), .int (nI k)] [] h1 (fun r q => r = some (.int (withV h a G n d x)) ∧ q = h') := by
    intro h1 k s t es
    have C1 := C.CF t.1
    have g1 := C1.1.1.1
    have sl := withS_lt (evW h a G n d) (falN n G)
    rw [← es] at sl
    unfold withV
    rw [← es]
    by_cases c0 : s.1 = 0
    · refine ⟨h1, t.1, ?_⟩
      simp only [x96_0, x96_1, x96_4, x96_5, x96_7, x96_10, x96_11, x96_12, x96_15, x96_18, x96_19, x96_20, x96_21, x96_22, x96_23, x96_25, x96_26, x96_29, x96_30, x96_33, x96_36, x96_37, x96_41, x96_42, x96_45, x96_48, x96_51, x96_52, x96_55, x96_57, x96_58, x96_61, x96_64, x96_67, x96_68, x96_71, x96_72, x96_75, x96_76, x96_79, x96_82, x96_83, x96_86, x96_89, x96_90, x96_93, x96_95, x96_97, x96_100, x96_103, x96_106, x96_107, x96_110, x96_112, x96_113, x96_114, x96_115, x96_118, x96_119, x96_122, x96_123, x96_125, x96_126, x96_129, pv_some, pv_none, c1_int, c1_ref, c1_null, true_and, and_true, ne_eq, not_false_eq_true, not_true_eq_false, if_true, if_false, reduceCtorEq, Option.some.injEq, Value.int.injEq, absI_fold, minI_fold, maxI_fold, c0, show (nI 0 = 0) = True from eq_true rfl, if_true, if_false, true_or, or_true, false_or, or_false, true_and, and_true, false_and, and_false, not_true_eq_false, not_false_eq_true, iff_self, ite_self, ne_eq, true_implies, implies_true, Bool.false_eq_true, decide_true, decide_false, Bool.or_true, Bool.or_false, Bool.true_or, Bool.false_or]
    · by_cases c1 : x = -1
      · refine ⟨h1, t.1, ?_⟩
        simp only [x96_0, x96_1, x96_4, x96_5, x96_7, x96_10, x96_11, x96_12, x96_15, x96_18, x96_19, x96_20, x96_21, x96_22, x96_23, x96_25, x96_26, x96_29, x96_30, x96_33, x96_36, x96_37, x96_41, x96_42, x96_45, x96_48, x96_51, x96_52, x96_55, x96_57, x96_58, x96_61, x96_64, x96_67, x96_68, x96_71, x96_72, x96_75, x96_76, x96_79, x96_82, x96_83, x96_86, x96_89, x96_90, x96_93, x96_95, x96_97, x96_100, x96_103, x96_106, x96_107, x96_110, x96_112, x96_113, x96_114, x96_115, x96_118, x96_119, x96_122, x96_123, x96_125, x96_126, x96_129, pv_some, pv_none, c1_int, c1_ref, c1_null, true_and, and_true, ne_eq, not_false_eq_true, not_true_eq_false, if_true, if_false, reduceCtorEq, Option.some.injEq, Value.int.injEq, absI_fold, minI_fold, maxI_fold, c0, c1, nI_z (show s.1 < 2 ^ 31 by omega), if_true, if_false, true_or, or_true, false_or, or_false, true_and, and_true, false_and, and_false, not_true_eq_false, not_false_eq_true, iff_self, ite_self, ne_eq, true_implies, implies_true, Bool.false_eq_true, decide_true, decide_false, Bool.or_true, Bool.or_false, Bool.true_or, Bool.false_or]
      · have hx3 := hx.resolve_left c1
        obtain ⟨i, hi, rfl⟩ : ∃ i, i < G ∧ x = nI i := by
          refine ⟨x.toNatClampNeg, ?_, nI_self hx3.1⟩
          have := hx3.2
          rw [nI_self hx3.1] at this
          exact lit_le (by have := x.toInt_lt; show x.toInt.toNat < 2 ^ 31; omega) (by omega) this
        refine ⟨sprH h1 25 n (falN n G) s.2 G, spr_CF t.1, ?_⟩
        simp only [x96_0, x96_1, x96_4, x96_5, x96_7, x96_10, x96_11, x96_12, x96_15, x96_18, x96_19, x96_20, x96_21, x96_22, x96_23, x96_25, x96_26, x96_29, x96_30, x96_33, x96_36, x96_37, x96_41, x96_42, x96_45, x96_48, x96_51, x96_52, x96_55, x96_57, x96_58, x96_61, x96_64, x96_67, x96_68, x96_71, x96_72, x96_75, x96_76, x96_79, x96_82, x96_83, x96_86, x96_89, x96_90, x96_93, x96_95, x96_97, x96_100, x96_103, x96_106, x96_107, x96_110, x96_112, x96_113, x96_114, x96_115, x96_118, x96_119, x96_122, x96_123, x96_125, x96_126, x96_129, pv_some, pv_none, c1_int, c1_ref, c1_null, true_and, and_true, ne_eq, not_false_eq_true, not_true_eq_false, if_true, if_false, reduceCtorEq, Option.some.injEq, Value.int.injEq, absI_fold, minI_fold, maxI_fold, c0, c1, nI_z (show s.1 < 2 ^ 31 by omega), b_s g1, c_placeInWay C1 (sl.2 hf.1) hi, nI_cl (show i < 2 ^ 31 by omega), if_true, if_false, true_or, or_true, false_or, or_false, true_and, and_true, false_and, and_false, not_true_eq_false, not_false_eq_true, iff_self, ite_self, ne_eq, true_implies, implies_true, Bool.false_eq_true, decide_true, decide_false, Bool.or_true, Bool.or_false, Bool.true_or, Bool.false_or]
  suffices hs : ∃ h', CF h h' ∧ X 96 39 [.ref 3, .int d, .int x, .int 0, .int 0, .int 0] [] (setL h 24 (lv h 22)) (fun r q => r = some (.int (withV h a G n d x)) ∧ q = h') by
    obtain ⟨h', fr, hk⟩ := hs
    refine ⟨h', fr, fun Q => X_iff ?_ Q⟩
    simp only [x96_0, x96_1, x96_4, x96_5, x96_7, x96_10, x96_11, x96_12, x96_15, x96_18, x96_19, x96_20, x96_21, x96_22, x96_23, x96_25, x96_26, x96_29, x96_30, x96_33, x96_36, x96_37, x96_41, x96_42, x96_45, x96_48, x96_51, x96_52, x96_55, x96_57, x96_58, x96_61, x96_64, x96_67, x96_68, x96_71, x96_72, x96_75, x96_76, x96_79, x96_82, x96_83, x96_86, x96_89, x96_90, x96_93, x96_95, x96_97, x96_100, x96_103, x96_106, x96_107, x96_110, x96_112, x96_113, x96_114, x96_115, x96_118, x96_119, x96_122, x96_123, x96_125, x96_126, x96_129, pv_some, pv_none, c1_int, c1_ref, c1_null, true_and, and_true, ne_eq, not_false_eq_true, not_true_eq_false, if_true, if_false, reduceCtorEq, Option.some.injEq, Value.int.injEq, absI_fold, minI_fold, maxI_fold, b_s g, b_r0 g, b_r1 g, b_r2 g, b_r3 g, b_r4 g, b_r5 g, b_r6 g, b_r7 g, b_r10 g, cs4 g, cs7 g, cs11 g, cs12 g, cs18 g, cs20 g, cs22 g, cs24 g, cs38 g, m_nz, c_isGuestOrWhole I, bi_zero, hh, hx2, k_lieCopy g (Or.inr rfl), if_true, if_false, true_or, or_true, false_or, or_false, true_and, and_true, false_and, and_false, not_true_eq_false, not_false_eq_true, iff_self, ite_self, ne_eq, true_implies, implies_true, Bool.false_eq_true, decide_true, decide_false, Bool.or_true, Bool.or_false, Bool.true_or, Bool.false_or]
    exact hk
  refine loop_up (P := fun k => ∀ (h1 : aH), BT h h1 → ∃ h', CF h h' ∧ X 96 39 [.ref 3, .int d, .int x, .int (nI (withS (evW h a G n d) k).1), .int (nI (withS (evW h a G n d) k).2), .int (nI k)] [] h1 (fun r q => r = some (.int (withV h a G n d x)) ∧ q = h')) (n := falN n G) (fun k hk hp h1 t => ?_) (fun h1 t => ?_) _ (BT.set h)
  · have C1 := C.CF t.1
    have g1 := C1.1.1.1
    have t2 : BT h (sprH h1 25 n (falN n G) k G) := t.spr
    have C2 := C.CF t2.1
    have g2 := C2.1.1.1
    have e22 : hI (sprH h1 25 n (falN n G) k G) 22 2 = hI h 22 2 := t2.1.2 22 2 (by decide) (by decide) (by decide)
    have ev : evenF (loA (sprH h1 25 n (falN n G) k G) a (hI h 22 2)) (hI (sprH h1 25 n (falN n G) k G) (24 + 1)) d G = evW h a G n d k := ev_tried C t
    have sl := (withS_lt (evW h a G n d) k).1
    obtain ⟨h', fr, hp3⟩ := hp _ t2
    refine ⟨h', fr, ?_⟩
    rw [x96_39]
    simp only [x96_0, x96_1, x96_4, x96_5, x96_7, x96_10, x96_11, x96_12, x96_15, x96_18, x96_19, x96_20, x96_21, x96_22, x96_23, x96_25, x96_26, x96_29, x96_30, x96_33, x96_36, x96_37, x96_41, x96_42, x96_45, x96_48, x96_51, x96_52, x96_55, x96_57, x96_58, x96_61, x96_64, x96_67, x96_68, x96_71, x96_72, x96_75, x96_76, x96_79, x96_82, x96_83, x96_86, x96_89, x96_90, x96_93, x96_95, x96_97, x96_100, x96_103, x96_106, x96_107, x96_110, x96_112, x96_113, x96_114, x96_115, x96_118, x96_119, x96_122, x96_123, x96_125, x96_126, x96_129, pv_some, pv_none, c1_int, c1_ref, c1_null, true_and, and_true, ne_eq, not_false_eq_true, not_true_eq_false, if_true, if_false, reduceCtorEq, Option.some.injEq, Value.int.injEq, absI_fold, minI_fold, maxI_fold, b_s g1, b_r2 g1, b_r7 g1, cs11 g1, cs24 g1, m_nz, lie_r g1 l24, k_total g1, C1.2.1.2.2, nI_lt_iff (show k < 2 ^ 31 by omega) (show falN n G < 2 ^ 31 by omega), hk, k_spread25 C1 hk, b_s g2, b_r7 g2, b_r6 g2, cs22 g2, C2.1.2.1, I.nz, inn_s g2 I.1.2.1, e22, k_isEven C2.1.1 l24, ev, bi_zero, nI_z (show (withS (evW h a G n d) k).1 < 2 ^ 31 by omega), nI_add1, if_true, if_false, true_or, or_true, false_or, or_false, true_and, and_true, false_and, and_false, not_true_eq_false, not_false_eq_true, iff_self, ite_self, ne_eq, true_implies, implies_true, Bool.false_eq_true, decide_true, decide_false, Bool.or_true, Bool.or_false, Bool.true_or, Bool.false_or]
    have ew : withS (evW h a G n d) (k + 1) = if evW h a G n d k = true then ((withS (evW h a G n d) k).1 + 1, if (withS (evW h a G n d) k).1 = 0 then k else (withS (evW h a G n d) k).2) else withS (evW h a G n d) k := rfl
    rw [ew] at hp3
    generalize withS (evW h a G n d) k = s0 at *
    generalize evW h a G n d k = e0 at *
    by_cases c2 : e0 = true
    · by_cases c3 : s0.1 = 0
      · simp only [c2, c3, if_true, if_false, true_or, or_true, false_or, or_false, true_and, and_true, false_and, and_false, not_true_eq_false, not_false_eq_true, iff_self, ite_self, ne_eq, true_implies, implies_true, Bool.false_eq_true, decide_true, decide_false, Bool.or_true, Bool.or_false, Bool.true_or, Bool.false_or] at hp3 ⊢
        exact hp3
      · simp only [c2, c3, if_true, if_false, true_or, or_true, false_or, or_false, true_and, and_true, false_and, and_false, not_true_eq_false, not_false_eq_true, iff_self, ite_self, ne_eq, true_implies, implies_true, Bool.false_eq_true, decide_true, decide_false, Bool.or_true, Bool.or_false, Bool.true_or, Bool.false_or] at hp3 ⊢
        exact hp3
    · simp only [c2, if_true, if_false, true_or, or_true, false_or, or_false, true_and, and_true, false_and, and_false, not_true_eq_false, not_false_eq_true, iff_self, ite_self, ne_eq, true_implies, implies_true, Bool.false_eq_true, decide_true, decide_false, Bool.or_true, Bool.or_false, Bool.true_or, Bool.false_or] at hp3 ⊢
      exact hp3
  · have C1 := C.CF t.1
    have g1 := C1.1.1.1
    obtain ⟨h', fr, hp3⟩ := fin h1 (falN n G) _ t rfl
    refine ⟨h', fr, ?_⟩
    rw [x96_39]
    simp only [x96_0, x96_1, x96_4, x96_5, x96_7, x96_10, x96_11, x96_12, x96_15, x96_18, x96_19, x96_20, x96_21, x96_22, x96_23, x96_25, x96_26, x96_29, x96_30, x96_33, x96_36, x96_37, x96_41, x96_42, x96_45, x96_48, x96_51, x96_52, x96_55, x96_57, x96_58, x96_61, x96_64, x96_67, x96_68, x96_71, x96_72, x96_75, x96_76, x96_79, x96_82, x96_83, x96_86, x96_89, x96_90, x96_93, x96_95, x96_97, x96_100, x96_103, x96_107, x96_110, x96_112, x96_113, x96_114, x96_115, x96_118, x96_119, x96_122, x96_123, x96_125, x96_126, x96_129, pv_some, pv_none, c1_int, c1_ref, c1_null, true_and, and_true, ne_eq, not_false_eq_true, not_true_eq_false, if_true, if_false, reduceCtorEq, Option.some.injEq, Value.int.injEq, absI_fold, minI_fold, maxI_fold, b_s g1, b_r2 g1, cs11 g1, m_nz, k_total g1, C1.2.1.2.2, nI_lt_iff (show falN n G < 2 ^ 31 by omega) (show falN n G < 2 ^ 31 by omega), Nat.lt_irrefl, if_true, if_false, true_or, or_true, false_or, or_false, true_and, and_true, false_and, and_false, not_true_eq_false, not_false_eq_true, iff_self, ite_self, ne_eq, true_implies, implies_true, Bool.false_eq_true, decide_true, decide_false, Bool.or_true, Bool.or_false, Bool.true_or, Bool.false_or]
    exact hp3
theorem c_withinNo (I : CI h a G) (hno : ¬ ((¬ d < 0 ∧ ¬ 40 < d) ∧ (x = -1 ∨ (¬ x < 0 ∧ x < hI h a 5)))) : X 96 0 [.ref 3, .int d, .int x, .null, .null, .null] [] h Q ↔ Q (some (.int (-1))) h := by
  have g := I.1.1
  by_cases c1 : d < 0
  · simp only [x96_0, x96_1, x96_4, x96_5, x96_7, x96_10, x96_11, x96_12, x96_15, x96_18, x96_19, x96_20, x96_21, x96_22, x96_23, x96_25, x96_26, x96_29, x96_30, x96_33, x96_36, x96_37, x96_41, x96_42, x96_45, x96_48, x96_51, x96_52, x96_55, x96_57, x96_58, x96_61, x96_64, x96_67, x96_68, x96_71, x96_72, x96_75, x96_76, x96_79, x96_82, x96_83, x96_86, x96_89, x96_90, x96_93, x96_95, x96_97, x96_100, x96_103, x96_106, x96_107, x96_110, x96_112, x96_113, x96_114, x96_115, x96_118, x96_119, x96_122, x96_123, x96_125, x96_126, x96_129, pv_some, pv_none, c1_int, c1_ref, c1_null, true_and, and_true, ne_eq, not_false_eq_true, not_true_eq_false, if_true, if_false, reduceCtorEq, Option.some.injEq, Value.int.injEq, absI_fold, minI_fold, maxI_fold, c1, if_true, if_false, true_or, or_true, false_or, or_false, true_and, and_true, false_and, and_false, not_true_eq_false, not_false_eq_true, iff_self, ite_self, ne_eq, true_implies, implies_true, Bool.false_eq_true, decide_true, decide_false, Bool.or_true, Bool.or_false, Bool.true_or, Bool.false_or]
  · by_cases c2 : 40 < d
    · simp only [x96_0, x96_1, x96_4, x96_5, x96_7, x96_10, x96_11, x96_12, x96_15, x96_18, x96_19, x96_20, x96_21, x96_22, x96_23, x96_25, x96_26, x96_29, x96_30, x96_33, x96_36, x96_37, x96_41, x96_42, x96_45, x96_48, x96_51, x96_52, x96_55, x96_57, x96_58, x96_61, x96_64, x96_67, x96_68, x96_71, x96_72, x96_75, x96_76, x96_79, x96_82, x96_83, x96_86, x96_89, x96_90, x96_93, x96_95, x96_97, x96_100, x96_103, x96_106, x96_107, x96_110, x96_112, x96_113, x96_114, x96_115, x96_118, x96_119, x96_122, x96_123, x96_125, x96_126, x96_129, pv_some, pv_none, c1_int, c1_ref, c1_null, true_and, and_true, ne_eq, not_false_eq_true, not_true_eq_false, if_true, if_false, reduceCtorEq, Option.some.injEq, Value.int.injEq, absI_fold, minI_fold, maxI_fold, c1, c2, if_true, if_false, true_or, or_true, false_or, or_false, true_and, and_true, false_and, and_false, not_true_eq_false, not_false_eq_true, iff_self, ite_self, ne_eq, true_implies, implies_true, Bool.false_eq_true, decide_true, decide_false, Bool.or_true, Bool.or_false, Bool.true_or, Bool.false_or]
    · have c3 : ¬ (x = -1 ∨ (¬ x < 0 ∧ x < hI h a 5)) := fun q => hno ⟨⟨c1, c2⟩, q⟩
      simp only [x96_0, x96_1, x96_4, x96_5, x96_7, x96_10, x96_11, x96_12, x96_15, x96_18, x96_19, x96_20, x96_21, x96_22, x96_23, x96_25, x96_26, x96_29, x96_30, x96_33, x96_36, x96_37, x96_41, x96_42, x96_45, x96_48, x96_51, x96_52, x96_55, x96_57, x96_58, x96_61, x96_64, x96_67, x96_68, x96_71, x96_72, x96_75, x96_76, x96_79, x96_82, x96_83, x96_86, x96_89, x96_90, x96_93, x96_95, x96_97, x96_100, x96_103, x96_106, x96_107, x96_110, x96_112, x96_113, x96_114, x96_115, x96_118, x96_119, x96_122, x96_123, x96_125, x96_126, x96_129, pv_some, pv_none, c1_int, c1_ref, c1_null, true_and, and_true, ne_eq, not_false_eq_true, not_true_eq_false, if_true, if_false, reduceCtorEq, Option.some.injEq, Value.int.injEq, absI_fold, minI_fold, maxI_fold, b_s g, b_r0 g, b_r1 g, b_r2 g, b_r3 g, b_r4 g, b_r5 g, b_r6 g, b_r7 g, b_r10 g, cs4 g, cs7 g, cs11 g, cs12 g, cs18 g, cs20 g, cs22 g, cs24 g, cs38 g, m_nz, c_isGuestOrWhole I, bi_zero, c1, c2, c3, if_true, if_false, true_or, or_true, false_or, or_false, true_and, and_true, false_and, and_false, not_true_eq_false, not_false_eq_true, iff_self, ite_self, ne_eq, true_implies, implies_true, Bool.false_eq_true, decide_true, decide_false, Bool.or_true, Bool.or_false, Bool.true_or, Bool.false_or]
end CLS8
