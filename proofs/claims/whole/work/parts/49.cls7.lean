/-! THE CLASS: best, within -/
section CLS7
variable {h h1 : aH} {a G i j k z n w : Nat} {Q : Option Value → aH → Prop} {x y b hr d : Int32}
theorem bitsF_lt {c : Nat → Bool} : ∀ G, G ≤ 5 → ∃ v, v < 32 ∧ bitsF c G = nI v := by
  intro G
  induction G with
  | zero => intro _; exact ⟨0, by decide, rfl⟩
  | succ G ih =>
    intro hG
    obtain ⟨v, hv, e⟩ := ih (by omega)
    by_cases c1 : c G = true
    · obtain ⟨u, hu, e2⟩ := bits_or v hv G (by omega)
      refine ⟨u, hu, ?_⟩
      unfold bitsF at e ⊢
      rw [foldN, e, if_pos c1]
      exact e2
    · refine ⟨v, hv, ?_⟩
      unfold bitsF at e ⊢
      rw [foldN, e, if_neg c1]
theorem popC_lt : ∀ v, v < 32 → popC (nI v) = nI (onesN v) ∧ onesN v ≤ 5 ∧ bitF (nI v) = nI (onesN v) := by decide +kernel
theorem pop_bits {c : Nat → Bool} (hG : G ≤ 5) : ∃ m, m ≤ 5 ∧ popC (bitsF c G) = nI m ∧ bitF (bitsF c G) = nI m := by
  obtain ⟨v, hv, e⟩ := bitsF_lt (c := c) G hG
  rw [e]
  exact ⟨_, (popC_lt v hv).2.1, (popC_lt v hv).1, (popC_lt v hv).2.2⟩
/-- the class's inn, its ways, its beds -/
def CW (h : aH) (a G n : Nat) : Prop := CI h a G ∧ WA h n G ∧ hI h a 6 = nI n ∧ BG n G
theorem CW.CF {h' : aH} (C : CW h a G n) (x : CF h h') : CW h' a G n := by
  refine ⟨x.CI C.1, ⟨?_, ?_, ?_⟩, ?_, C.2.2.2⟩
  · rw [x.2 11 0 (by decide) (by decide) (by decide)]; exact C.2.1.1
  · rw [x.2 11 1 (by decide) (by decide) (by decide)]; exact C.2.1.2.1
  · rw [x.2 11 2 (by decide) (by decide) (by decide)]; exact C.2.1.2.2
  · rw [show hI h' a = hI h a from x.inn C.1.2.2 (c := 0) (by decide)]; exact C.2.2.1
theorem spr_CF {T : Nat} (x : CF h h1) : CF h (sprH h1 25 n T w k) := by
  refine x.trans ?_
  unfold sprH
  exact CF.wI (fun b j q1 q2 q3 => by rw [if_neg (by omega)])
abbrev wyP (n G w : Nat) : Nat → Int32 := fun j => nI (wlN n (falN n G) w j)
theorem k_spread25 (C : CW h a G n) (hw : w < falN n G) : X 78 0 [.ref 11, .int (nI w), .ref 25, .null, .null, .null, .null, .null] [] h Q ↔ Q none (sprH h 25 n (falN n G) w G) := by
  have b := C.2.2.2
  have hf := fal_le n (by have := b.2.2; omega) G (by have := C.1.1.2.2.2; omega)
  exact k_spread C.1.1.1 C.2.1 (Or.inr rfl) b.2.2 C.1.1.2.2.2 b.2.1 (by omega) (way_V b hw).2.2.1
theorem c_placeInWay (C : CW h a G n) (hw : w < falN n G) (hi : i < G) : X 112 0 [.ref 3, .int (nI w), .int (nI i)] [] h Q ↔ Q (some (.int (nI (wlN n (falN n G) w i)))) (sprH h 25 n (falN n G) w G) := by
  have g := C.1.1.1
  have h5 := C.1.1.2.2.2
  have g2 : GS (sprH h 25 n (falN n G) w G) := g
  have e : hI (sprH h 25 n (falN n G) w G) (24 + 1) i = nI (wlN n (falN n G) w i) := spr_at h hi
  simp only [x112_0, x112_1, x112_4, x112_5, x112_6, x112_9, x112_12, x112_15, x112_16, x112_19, x112_20, x112_23, pv_some, pv_none, c1_int, c1_ref, c1_null, true_and, and_true, ne_eq, not_false_eq_true, not_true_eq_false, if_true, if_false, reduceCtorEq, Option.some.injEq, Value.int.injEq, absI_fold, minI_fold, maxI_fold, b_s g, b_r0 g, b_r1 g, b_r2 g, b_r3 g, b_r4 g, b_r5 g, b_r6 g, b_r7 g, b_r10 g, cs4 g, cs7 g, cs11 g, cs12 g, cs18 g, cs20 g, cs22 g, cs24 g, cs38 g, m_nz, lie_r g l24, k_spread25 C hw, b_s g2, b_r7 g2, cs24 g2, k_placeOf g2 l24 (show i < 5 by omega), e, if_true, if_false, true_or, or_true, false_or, or_false, true_and, and_true, false_and, and_false, not_true_eq_false, not_false_eq_true, iff_self, ite_self, ne_eq, true_implies, implies_true, Bool.false_eq_true, decide_true, decide_false, Bool.or_true, Bool.or_false, Bool.true_or, Bool.false_or]
/-- what is tried has the walls that there are -/
def BT (h h1 : aH) : Prop := CF h h1 ∧ hI h1 24 1 = hI h 22 1
theorem BT.spr {T : Nat} (t : BT h h1) : BT h (sprH h1 25 n T w k) := ⟨spr_CF t.1, by rw [spr_o h1 (by decide)]; exact t.2⟩
theorem BT.set (h : aH) : BT h (setL h 24 (lv h 22)) := ⟨(CF.refl h).lie (Or.inr rfl) _, by rw [setL_1, lv_5]⟩
abbrev wkW (h : aH) (a G n : Nat) (hr : Int32) (w : Nat) : Int32 := popC (wakeF (hI h (a + 1)) (hI h (a + 2)) (hI h (a + 3)) (hI h (a + 4)) (wyP n G w) (hI h a 9) (hI h 22 1) hr G)
def bestS (wk : Nat → Int32) (T : Nat) : Int32 × Nat := foldN (fun w s => if wk w < s.1 then (wk w, w) else s) (6, 0) T
theorem bestS_lt (wk : Nat → Int32) : ∀ T, 0 < T → (bestS wk T).2 < T := by
  intro T
  induction T with
  | zero => intro h; omega
  | succ T ih =>
    intro _
    unfold bestS at ih ⊢
    rw [foldN]
    split
    · exact Nat.lt_succ_self T
    · by_cases c : 0 < T
      · exact Nat.lt_succ_of_lt (ih c)
      · have : T = 0 := by omega
        subst this
        exact Nat.lt_succ_self 0
theorem bestS_stop {wk : Nat → Int32} (hwk : ∀ w, ¬ wk w < 0) (k : Nat) (hk : ¬ 0 < (bestS wk k).1) : ∀ d, bestS wk (k + d) = bestS wk k := by
  intro d
  induction d with
  | zero => rfl
  | succ d ih =>
    show (if wk (k + d) < (bestS wk (k + d)).1 then (wk (k + d), k + d) else bestS wk (k + d)) = _
    rw [ih, if_neg (fun q => ?_)]
    have h1 := hwk (k + d)
    rw [Int32.lt_iff_toInt_lt] at *
    omega
theorem wk_tried (C : CW h a G n) (t : BT h h1) : popC (wakeA (sprH h1 25 n (falN n G) w G) a 24 hr G) = wkW h a G n hr w := by
  have I := C.1
  have t2 : BT h (sprH h1 25 n (falN n G) w G) := t.spr
  unfold wkW wakeA
  rw [t2.1.inn I.2.2 (c := 1) (by decide), t2.1.inn I.2.2 (c := 2) (by decide), t2.1.inn I.2.2 (c := 3) (by decide), t2.1.inn I.2.2 (c := 4) (by decide), show hI (sprH h1 25 n (falN n G) w G) a = hI h a from t2.1.inn I.2.2 (c := 0) (by decide), t2.2]
  rw [wakeF_congr (P' := wyP n G w) agr.rfl' agr.rfl' agr.rfl' agr.rfl' (fun j hj => spr_at h1 hj)]
theorem wk_nn (C : CW h a G n) (w : Nat) : ¬ wkW h a G n hr w < 0 := by
  obtain ⟨m, hm, e, -⟩ := pop_bits (c := wakeC (hI h (a + 1)) (hI h (a + 2)) (hI h (a + 3)) (hI h (a + 4)) (wyP n G w) (hI h a 9) (hI h 22 1) hr G) C.1.1.2.2.2
  show ¬ popC (bitsF _ _) < 0
  rw [e]
  exact nI_pos (by omega)
def bestV (h : aH) (a G n : Nat) (hr x : Int32) : Int32 := if x = -1 then (bestS (wkW h a G n hr) (falN n G)).1 else nI (wlN n (falN n G) (bestS (wkW h a G n hr) (falN n G)).2 x.toNatClampNeg)
theorem fal_pos (b : BG n G) : 0 < falN n G ∧ falN n G ≤ 720 := by
  obtain ⟨f1, f2, f3, f4, f5, f6, f7, f8, f9, f10, f11, f12, f13, f14, f15⟩ := falN_vals
  rcases b.cases with ⟨rfl, rfl⟩ | ⟨rfl, rfl⟩ | ⟨rfl, rfl⟩ | ⟨rfl, rfl⟩ | ⟨rfl, rfl⟩ | ⟨rfl, rfl⟩ | ⟨rfl, rfl⟩ | ⟨rfl, rfl⟩ | ⟨rfl, rfl⟩ | ⟨rfl, rfl⟩ | ⟨rfl, rfl⟩ | ⟨rfl, rfl⟩ | ⟨rfl, rfl⟩ | ⟨rfl, rfl⟩ | ⟨rfl, rfl⟩ <;> omega
theorem c_best (C : CW h a G n) (hh : ¬ hr < 0 ∧ ¬ 7 < hr) (hx : x = -1 ∨ (¬ x < 0 ∧ x < nI G)) : ∃ h', CF h h' ∧ ∀ Q : Option Value → aH → Prop, X 94 0 [.ref 3, .int hr, .int x, .null, .null, .null, .null] [] h Q ↔ Q (some (.int (bestV h a G n hr x))) h' := by
  have I := C.1
  have g := I.1.1
  have h5 := I.1.2.2.2
  have b := C.2.2.2
  have hf := fal_pos b
  have hx2 : x = -1 ∨ (¬ x < 0 ∧ x < hI h a 5) := by rw [I.1.2.2.1]; exact hx
  -- the end
  have fin : ∀ (h1 : aH) (k : Nat) (l6 : Value) (s : Int32 × Nat), BT h h1 → s = bestS (wkW h a G n hr) (falN n G) → ∃ h', CF h h' ∧ X 94 105 [.ref 3, .int hr, .int x, .int s.1, .int (nI s.2), .int (nI k), l6] [] h1 (fun r q => r = some (.int (bestV h a G n hr x)) ∧ q = h') := by
    intro h1 k l6 s t es
    have C1 := C.CF t.1
    have g1 := C1.1.1.1
    have sl := bestS_lt (wkW h a G n hr) (falN n G) hf.1
    rw [← es] at sl
    unfold bestV
    rw [← es]
    by_cases c1 : x = -1
    · refine ⟨h1, t.1, ?_⟩
      simp only [x94_0, x94_1, x94_4, x94_7, x94_8, x94_9, x94_12, x94_15, x94_16, x94_17, x94_19, x94_20, x94_21, x94_23, x94_24, x94_27, x94_28, x94_31, x94_34, x94_35, x94_39, x94_40, x94_43, x94_46, x94_49, x94_50, x94_53, x94_54, x94_57, x94_59, x94_60, x94_63, x94_66, x94_69, x94_70, x94_73, x94_74, x94_77, x94_78, x94_81, x94_84, x94_86, x94_88, x94_89, x94_92, x94_94, x94_95, x94_97, x94_99, x94_102, x94_105, x94_106, x94_107, x94_110, x94_111, x94_114, x94_115, x94_117, x94_118, x94_121, pv_some, pv_none, c1_int, c1_ref, c1_null, true_and, and_true, ne_eq, not_false_eq_true, not_true_eq_false, if_true, if_false, reduceCtorEq, Option.some.injEq, Value.int.injEq, absI_fold, minI_fold, maxI_fold, c1, if_true, if_false, true_or, or_true, false_or, or_false, true_and, and_true, false_and, and_false, not_true_eq_false, not_false_eq_true, iff_self, ite_self, ne_eq, true_implies, implies_true, Bool.false_eq_true, decide_true, decide_false, Bool.or_true, Bool.or_false, Bool.true_or, Bool.false_or]
    · have hx3 := hx.resolve_left c1
      obtain ⟨i, hi, rfl⟩ : ∃ i, i < G ∧ x = nI i := by
        refine ⟨x.toNatClampNeg, ?_, nI_self hx3.1⟩
        have := hx3.2
        rw [nI_self hx3.1] at this
        exact lit_le (by have := x.toInt_lt; show x.toInt.toNat < 2 ^ 31; omega) (by omega) this
      refine ⟨sprH h1 25 n (falN n G) s.2 G, spr_CF t.1, ?_⟩
      simp only [x94_0, x94_1, x94_4, x94_7, x94_8, x94_9, x94_12, x94_15, x94_16, x94_17, x94_19, x94_20, x94_21, x94_23, x94_24, x94_27, x94_28, x94_31, x94_34, x94_35, x94_39, x94_40, x94_43, x94_46, x94_49, x94_50, x94_53, x94_54, x94_57, x94_59, x94_60, x94_63, x94_66, x94_69, x94_70, x94_73, x94_74, x94_77, x94_78, x94_81, x94_84, x94_86, x94_88, x94_89, x94_92, x94_94, x94_95, x94_97, x94_99, x94_102, x94_105, x94_106, x94_107, x94_110, x94_111, x94_114, x94_115, x94_117, x94_118, x94_121, pv_some, pv_none, c1_int, c1_ref, c1_null, true_and, and_true, ne_eq, not_false_eq_true, not_true_eq_false, if_true, if_false, reduceCtorEq, Option.some.injEq, Value.int.injEq, absI_fold, minI_fold, maxI_fold, c1, b_s g1, c_placeInWay C1 sl hi, nI_cl (show i < 2 ^ 31 by omega), if_true, if_false, true_or, or_true, false_or, or_false, true_and, and_true, false_and, and_false, not_true_eq_false, not_false_eq_true, iff_self, ite_self, ne_eq, true_implies, implies_true, Bool.false_eq_true, decide_true, decide_false, Bool.or_true, Bool.or_false, Bool.true_or, Bool.false_or]
  suffices hs : ∃ h', CF h h' ∧ X 94 37 [.ref 3, .int hr, .int x, .int 6, .int 0, .int 0, .null] [] (setL h 24 (lv h 22)) (fun r q => r = some (.int (bestV h a G n hr x)) ∧ q = h') by
    obtain ⟨h', fr, hk⟩ := hs
    refine ⟨h', fr, fun Q => X_iff ?_ Q⟩
    simp only [x94_0, x94_1, x94_4, x94_7, x94_8, x94_9, x94_12, x94_15, x94_16, x94_17, x94_19, x94_20, x94_21, x94_23, x94_24, x94_27, x94_28, x94_31, x94_34, x94_35, x94_39, x94_40, x94_43, x94_46, x94_49, x94_50, x94_53, x94_54, x94_57, x94_59, x94_60, x94_63, x94_66, x94_69, x94_70, x94_73, x94_74, x94_77, x94_78, x94_81, x94_84, x94_86, x94_88, x94_89, x94_92, x94_94, x94_95, x94_97, x94_99, x94_102, x94_105, x94_106, x94_107, x94_110, x94_111, x94_114, x94_115, x94_117, x94_118, x94_121, pv_some, pv_none, c1_int, c1_ref, c1_null, true_and, and_true, ne_eq, not_false_eq_true, not_true_eq_false, if_true, if_false, reduceCtorEq, Option.some.injEq, Value.int.injEq, absI_fold, minI_fold, maxI_fold, b_s g, b_r0 g, b_r1 g, b_r2 g, b_r3 g, b_r4 g, b_r5 g, b_r6 g, b_r7 g, b_r10 g, cs4 g, cs7 g, cs11 g, cs12 g, cs18 g, cs20 g, cs22 g, cs24 g, cs38 g, m_nz, c_isHour, c_isGuestOrWhole I, bi_zero, hh, hx2, k_lieCopy g (Or.inr rfl), if_true, if_false, true_or, or_true, false_or, or_false, true_and, and_true, false_and, and_false, not_true_eq_false, not_false_eq_true, iff_self, ite_self, ne_eq, true_implies, implies_true, Bool.false_eq_true, decide_true, decide_false, Bool.or_true, Bool.or_false, Bool.true_or, Bool.false_or]
    exact hk
  refine loop_up (P := fun k => ∀ (l6 : Value) (h1 : aH), c1 l6 = true → BT h h1 → ∃ h', CF h h' ∧ X 94 37 [.ref 3, .int hr, .int x, .int (bestS (wkW h a G n hr) k).1, .int (nI (bestS (wkW h a G n hr) k).2), .int (nI k), l6] [] h1 (fun r q => r = some (.int (bestV h a G n hr x)) ∧ q = h')) (n := falN n G) (fun k hk hp l6 h1 q6 t => ?_) (fun l6 h1 q6 t => ?_) _ _ rfl (BT.set h)
  · have C1 := C.CF t.1
    have g1 := C1.1.1.1
    by_cases c0 : 0 < (bestS (wkW h a G n hr) k).1
    · have t2 : BT h (sprH h1 25 n (falN n G) k G) := t.spr
      have C2 := C.CF t2.1
      have g2 := C2.1.1.1
      have wk : popC (wakeA (sprH h1 25 n (falN n G) k G) a 24 hr G) = wkW h a G n hr k := wk_tried C t
      obtain ⟨h', fr, hp3⟩ := hp (.int (wkW h a G n hr k)) _ rfl t2
      refine ⟨h', fr, ?_⟩
      rw [x94_37]
      simp only [x94_0, x94_1, x94_4, x94_7, x94_8, x94_9, x94_12, x94_15, x94_16, x94_17, x94_19, x94_20, x94_21, x94_23, x94_24, x94_27, x94_28, x94_31, x94_34, x94_35, x94_39, x94_40, x94_43, x94_46, x94_49, x94_50, x94_53, x94_54, x94_57, x94_59, x94_60, x94_63, x94_66, x94_69, x94_70, x94_73, x94_74, x94_77, x94_78, x94_81, x94_84, x94_86, x94_88, x94_89, x94_92, x94_94, x94_95, x94_97, x94_99, x94_102, x94_105, x94_106, x94_107, x94_110, x94_111, x94_114, x94_115, x94_117, x94_118, x94_121, pv_some, pv_none, c1_int, c1_ref, c1_null, true_and, and_true, ne_eq, not_false_eq_true, not_true_eq_false, if_true, if_false, reduceCtorEq, Option.some.injEq, Value.int.injEq, absI_fold, minI_fold, maxI_fold, b_s g1, b_r2 g1, b_r7 g1, cs11 g1, cs24 g1, m_nz, lie_r g1 l24, k_total g1, C1.2.1.2.2, nI_lt_iff (show k < 2 ^ 31 by omega) (show falN n G < 2 ^ 31 by omega), hk, c0, k_spread25 C1 hk, b_s g2, b_r7 g2, C2.1.2.1, I.nz, inn_s g2 I.1.2.1, k_wakers C2.1.1 l24, k_bitCount, wk, nI_add1, if_true, if_false, true_or, or_true, false_or, or_false, true_and, and_true, false_and, and_false, not_true_eq_false, not_false_eq_true, iff_self, ite_self, ne_eq, true_implies, implies_true, Bool.false_eq_true, decide_true, decide_false, Bool.or_true, Bool.or_false, Bool.true_or, Bool.false_or]
      have ew : bestS (wkW h a G n hr) (k + 1) = if wkW h a G n hr k < (bestS (wkW h a G n hr) k).1 then (wkW h a G n hr k, k) else bestS (wkW h a G n hr) k := rfl
      rw [ew] at hp3
      generalize bestS (wkW h a G n hr) k = s0 at *
      by_cases c2 : wkW h a G n hr k < s0.1
      · simp only [c2, if_true, if_false, true_or, or_true, false_or, or_false, true_and, and_true, false_and, and_false, not_true_eq_false, not_false_eq_true, iff_self, ite_self, ne_eq, true_implies, implies_true, Bool.false_eq_true, decide_true, decide_false, Bool.or_true, Bool.or_false, Bool.true_or, Bool.false_or] at hp3 ⊢
        exact hp3
      · simp only [c2, if_true, if_false, true_or, or_true, false_or, or_false, true_and, and_true, false_and, and_false, not_true_eq_false, not_false_eq_true, iff_self, ite_self, ne_eq, true_implies, implies_true, Bool.false_eq_true, decide_true, decide_false, Bool.or_true, Bool.or_false, Bool.true_or, Bool.false_or] at hp3 ⊢
        exact hp3
    · obtain ⟨h', fr, hp3⟩ := fin h1 k l6 (bestS (wkW h a G n hr) k) t (by
        have := bestS_stop (fun w => wk_nn (hr := hr) C w) k c0 (falN n G - k)
        rw [show k + (falN n G - k) = falN n G by omega] at this
        exact this.symm)
      refine ⟨h', fr, ?_⟩
      rw [x94_37]
      simp only [x94_0, x94_1, x94_4, x94_7, x94_8, x94_9, x94_12, x94_15, x94_16, x94_17, x94_19, x94_20, x94_21, x94_23, x94_24, x94_27, x94_28, x94_31, x94_34, x94_35, x94_39, x94_40, x94_43, x94_46, x94_49, x94_50, x94_53, x94_54, x94_57, x94_59, x94_60, x94_63, x94_66, x94_69, x94_70, x94_73, x94_74, x94_77, x94_78, x94_81, x94_84, x94_86, x94_88, x94_89, x94_92, x94_94, x94_95, x94_97, x94_99, x94_102, x94_106, x94_107, x94_110, x94_111, x94_114, x94_115, x94_117, x94_118, x94_121, pv_some, pv_none, c1_int, c1_ref, c1_null, true_and, and_true, ne_eq, not_false_eq_true, not_true_eq_false, if_true, if_false, reduceCtorEq, Option.some.injEq, Value.int.injEq, absI_fold, minI_fold, maxI_fold, b_s g1, b_r2 g1, cs11 g1, m_nz, k_total g1, C1.2.1.2.2, nI_lt_iff (show k < 2 ^ 31 by omega) (show falN n G < 2 ^ 31 by omega), hk, c0, if_true, if_false, true_or, or_true, false_or, or_false, true_and, and_true, false_and, and_false, not_true_eq_false, not_false_eq_true, iff_self, ite_self, ne_eq, true_implies, implies_true, Bool.false_eq_true, decide_true, decide_false, Bool.or_true, Bool.or_false, Bool.true_or, Bool.false_or]
      exact hp3
  · have C1 := C.CF t.1
    have g1 := C1.1.1.1
    obtain ⟨h', fr, hp3⟩ := fin h1 (falN n G) l6 _ t rfl
    refine ⟨h', fr, ?_⟩
    rw [x94_37]
    simp only [x94_0, x94_1, x94_4, x94_7, x94_8, x94_9, x94_12, x94_15, x94_16, x94_17, x94_19, x94_20, x94_21, x94_23, x94_24, x94_27, x94_28, x94_31, x94_34, x94_35, x94_39, x94_40, x94_43, x94_46, x94_49, x94_50, x94_53, x94_54, x94_57, x94_59, x94_60, x94_63, x94_66, x94_69, x94_70, x94_73, x94_74, x94_77, x94_78, x94_81, x94_84, x94_86, x94_88, x94_89, x94_92, x94_94, x94_95, x94_97, x94_99, x94_102, x94_106, x94_107, x94_110, x94_111, x94_114, x94_115, x94_117, x94_118, x94_121, pv_some, pv_none, c1_int, c1_ref, c1_null, true_and, and_true, ne_eq, not_false_eq_true, not_true_eq_false, if_true, if_false, reduceCtorEq, Option.some.injEq, Value.int.injEq, absI_fold, minI_fold, maxI_fold, b_s g1, b_r2 g1, cs11 g1, m_nz, k_total g1, C1.2.1.2.2, nI_lt_iff (show falN n G < 2 ^ 31 by omega) (show falN n G < 2 ^ 31 by omega), Nat.lt_irrefl, if_true, if_false, true_or, or_true, false_or, or_false, true_and, and_true, false_and, and_false, not_true_eq_false, not_false_eq_true, iff_self, ite_self, ne_eq, true_implies, implies_true, Bool.false_eq_true, decide_true, decide_false, Bool.or_true, Bool.or_false, Bool.true_or, Bool.false_or]
    exact hp3
theorem c_bestNo (I : CI h a G) (hno : ¬ ((¬ hr < 0 ∧ ¬ 7 < hr) ∧ (x = -1 ∨ (¬ x < 0 ∧ x < hI h a 5)))) : X 94 0 [.ref 3, .int hr, .int x, .null, .null, .null, .null] [] h Q ↔ Q (some (.int (-1))) h := by
  have g := I.1.1
  by_cases c1 : ¬ hr < 0 ∧ ¬ 7 < hr
  · have c2 : ¬ (x = -1 ∨ (¬ x < 0 ∧ x < hI h a 5)) := fun q => hno ⟨c1, q⟩
    simp only [x94_0, x94_1, x94_4, x94_7, x94_8, x94_9, x94_12, x94_15, x94_16, x94_17, x94_19, x94_20, x94_21, x94_23, x94_24, x94_27, x94_28, x94_31, x94_34, x94_35, x94_39, x94_40, x94_43, x94_46, x94_49, x94_50, x94_53, x94_54, x94_57, x94_59, x94_60, x94_63, x94_66, x94_69, x94_70, x94_73, x94_74, x94_77, x94_78, x94_81, x94_84, x94_86, x94_88, x94_89, x94_92, x94_94, x94_95, x94_97, x94_99, x94_102, x94_105, x94_106, x94_107, x94_110, x94_111, x94_114, x94_115, x94_117, x94_118, x94_121, pv_some, pv_none, c1_int, c1_ref, c1_null, true_and, and_true, ne_eq, not_false_eq_true, not_true_eq_false, if_true, if_false, reduceCtorEq, Option.some.injEq, Value.int.injEq, absI_fold, minI_fold, maxI_fold, b_s g, b_r0 g, b_r1 g, b_r2 g, b_r3 g, b_r4 g, b_r5 g, b_r6 g, b_r7 g, b_r10 g, cs4 g, cs7 g, cs11 g, cs12 g, cs18 g, cs20 g, cs22 g, cs24 g, cs38 g, m_nz, c_isHour, c_isGuestOrWhole I, bi_zero, c1, c2, if_true, if_false, true_or, or_true, false_or, or_false, true_and, and_true, false_and, and_false, not_true_eq_false, not_false_eq_true, iff_self, ite_self, ne_eq, true_implies, implies_true, Bool.false_eq_true, decide_true, decide_false, Bool.or_true, Bool.or_false, Bool.true_or, Bool.false_or]
  · simp only [x94_0, x94_1, x94_4, x94_7, x94_8, x94_9, x94_12, x94_15, x94_16, x94_17, x94_19, x94_20, x94_21, x94_23, x94_24, x94_27, x94_28, x94_31, x94_34, x94_35, x94_39, x94_40, x94_43, x94_46, x94_49, x94_50, x94_53, x94_54, x94_57, x94_59, x94_60, x94_63, x94_66, x94_69, x94_70, x94_73, x94_74, x94_77, x94_78, x94_81, x94_84, x94_86, x94_88, x94_89, x94_92, x94_94, x94_95, x94_97, x94_99, x94_102, x94_105, x94_106, x94_107, x94_110, x94_111, x94_114, x94_115, x94_117, x94_118, x94_121, pv_some, pv_none, c1_int, c1_ref, c1_null, true_and, and_true, ne_eq, not_false_eq_true, not_true_eq_false, if_true, if_false, reduceCtorEq, Option.some.injEq, Value.int.injEq, absI_fold, minI_fold, maxI_fold, b_s g, b_r0 g, b_r1 g, b_r2 g, b_r3 g, b_r4 g, b_r5 g, b_r6 g, b_r7 g, b_r10 g, cs4 g, cs7 g, cs11 g, cs12 g, cs18 g, cs20 g, cs22 g, cs24 g, cs38 g, m_nz, c_isHour, bi_zero, c1, if_true, if_false, true_or, or_true, false_or, or_false, true_and, and_true, false_and, and_false, not_true_eq_false, not_false_eq_true, iff_self, ite_self, ne_eq, true_implies, implies_true, Bool.false_eq_true, decide_true, decide_false, Bool.or_true, Bool.or_false, Bool.true_or, Bool.false_or]
end CLS7
