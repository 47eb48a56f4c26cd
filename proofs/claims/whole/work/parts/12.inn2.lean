/-! INN, LIE: what is asked of all guests -/
def popC (x : Int32) : Int32 :=
  let a := x - ((x.toUInt32 >>> ((1 : Int32).toUInt32 &&& Int32.toUInt32 31)).toInt32 &&& 1431655765)
  let b := (a &&& 858993459) + ((a.toUInt32 >>> ((2 : Int32).toUInt32 &&& Int32.toUInt32 31)).toInt32 &&& 858993459)
  let c := b + (b.toUInt32 >>> ((4 : Int32).toUInt32 &&& Int32.toUInt32 31)).toInt32 &&& 252645135
  let d := c + (c.toUInt32 >>> ((8 : Int32).toUInt32 &&& Int32.toUInt32 31)).toInt32
  let e := d + (d.toUInt32 >>> ((16 : Int32).toUInt32 &&& Int32.toUInt32 31)).toInt32
  e &&& 63
def bitF (x : Int32) : Int32 := foldN (fun k s => s + (x >>> (nI k &&& 31) &&& 1)) 0 8
theorem popC_bitF : ∀ k, k < 64 → popC (nI k) = bitF (nI k) := by decide +kernel
theorem k_bitCount {h : aH} {x : Int32} {Q : Option Value → aH → Prop} : X 179 0 [.int x] [] h Q ↔ Q (some (.int (popC x))) h := by
  simp only [x179_0, x179_1, x179_2, x179_3, x179_4, x179_7, x179_8, x179_9, x179_10, x179_11, x179_14, x179_15, x179_16, x179_17, x179_18, x179_21, x179_22, x179_23, x179_24, x179_25, x179_26, x179_27, x179_28, x179_29, x179_32, x179_33, x179_34, x179_35, x179_36, x179_38, x179_39, x179_40, x179_41, x179_42, x179_43, x179_45, x179_46, x179_47, x179_48, x179_49, x179_51, x179_52, pv_some, pv_none, c1_int, c1_ref, c1_null, true_and, and_true, ne_eq, not_false_eq_true, not_true_eq_false, if_true, if_false, reduceCtorEq, Option.some.injEq, Value.int.injEq, absI_fold, minI_fold, maxI_fold]
  rfl
section INN2
variable {h : aH} {a q G i j k : Nat} {Q : Option Value → aH → Prop} {x y hr b d : Int32}
abbrev wakeA (h : aH) (a q : Nat) (hr : Int32) (G : Nat) : Int32 := wakeF (hI h (a + 1)) (hI h (a + 2)) (hI h (a + 3)) (hI h (a + 4)) (hI h (q + 1)) (hI h a 9) (hI h q 1) hr G
theorem k_isWoken (I : InnAt h a G) (hq : isLie q) (hi : i < G) : X 25 0 [.ref a, .int (nI i), .ref q, .int hr] [] h Q ↔ Q (some (.int (bi (¬ hearA h a q hr G i < hI h (a + 4) i)))) h := by
  simp only [x25_0, x25_1, x25_2, x25_3, x25_4, x25_7, x25_8, x25_9, x25_12, x25_15, x25_16, x25_19, x25_20, pv_some, pv_none, c1_int, c1_ref, c1_null, true_and, and_true, ne_eq, not_false_eq_true, not_true_eq_false, if_true, if_false, reduceCtorEq, Option.some.injEq, Value.int.injEq, absI_fold, minI_fold, maxI_fold, I.s, k_hearing I hq hi, k_lightnessOf I hi]
  by_cases h1 : hearA h a q hr G i < hI h (a + 4) i <;> simp only [h1, bi, if_true, if_false, true_or, or_true, false_or, or_false, true_and, and_true, false_and, and_false, not_true_eq_false, not_false_eq_true, iff_self, ite_self, ne_eq, true_implies, implies_true, Bool.false_eq_true, decide_true, decide_false, Bool.or_true, Bool.or_false, Bool.true_or, Bool.false_or]
theorem k_wakers (I : InnAt h a G) (hq : isLie q) : X 26 0 [.ref a, .ref q, .int hr, .null, .null] [] h Q ↔ Q (some (.int (wakeA h a q hr G))) h := by
  refine X_iff ?_ Q
  simp only [x26_0, x26_1, x26_2, x26_3, x26_7, x26_8, x26_11, x26_14, x26_16, x26_17, x26_20, x26_21, x26_23, x26_24, x26_25, x26_28, x26_29, x26_32, x26_34, x26_35, x26_38, x26_39, x26_40, x26_42, x26_43, x26_44, x26_45, x26_48, x26_51, x26_52, pv_some, pv_none, c1_int, c1_ref, c1_null, true_and, and_true, ne_eq, not_false_eq_true, not_true_eq_false, if_true, if_false, reduceCtorEq, Option.some.injEq, Value.int.injEq, absI_fold, minI_fold, maxI_fold]
  refine loop_up (P := fun k => X 26 5 [.ref a, .ref q, .int hr, .int (bitsF (wakeC (hI h (a + 1)) (hI h (a + 2)) (hI h (a + 3)) (hI h (a + 4)) (hI h (q + 1)) (hI h a 9) (hI h q 1) hr G) k), .int (nI k)] [] h _) (n := G) (fun k hk hp => ?_) ?_
  · have hk5 : k < 5 := Nat.lt_of_lt_of_le hk I.2.2.2
    rw [x26_5]
    simp only [x26_0, x26_1, x26_2, x26_3, x26_7, x26_8, x26_11, x26_14, x26_16, x26_17, x26_20, x26_21, x26_23, x26_24, x26_25, x26_28, x26_29, x26_32, x26_34, x26_35, x26_38, x26_39, x26_40, x26_42, x26_43, x26_44, x26_45, x26_48, x26_51, x26_52, pv_some, pv_none, c1_int, c1_ref, c1_null, true_and, and_true, ne_eq, not_false_eq_true, not_true_eq_false, if_true, if_false, reduceCtorEq, Option.some.injEq, Value.int.injEq, absI_fold, minI_fold, maxI_fold, I.s, ltG I hk, lt5 hk5, lie_s I.1 hq, k_hearing I hq hk, inn_r3 I.1 I.2.1, inn_s4 I.1 I.2.1, ib5 hk5, cl5 hk5, nI_add1]
    by_cases h1 : hearA h a q hr G k < hI h (a + 4) k
    · simpa only [bitsF, foldN, wakeC, h1, if_true, if_false, true_or, or_true, false_or, or_false, true_and, and_true, false_and, and_false, not_true_eq_false, not_false_eq_true, iff_self, ite_self, ne_eq, true_implies, implies_true, Bool.false_eq_true, decide_true, decide_false, Bool.or_true, Bool.or_false, Bool.true_or, Bool.false_or, Bool.not_true, Nat.add_eq_zero_iff] using hp
    · simpa only [bitsF, foldN, wakeC, h1, if_true, if_false, true_or, or_true, false_or, or_false, true_and, and_true, false_and, and_false, not_true_eq_false, not_false_eq_true, iff_self, ite_self, ne_eq, true_implies, implies_true, Bool.false_eq_true, decide_true, decide_false, Bool.or_true, Bool.or_false, Bool.true_or, Bool.false_or, Bool.not_false, Nat.add_eq_zero_iff] using hp
  · rw [x26_5]
    simp only [x26_0, x26_1, x26_2, x26_3, x26_7, x26_8, x26_11, x26_14, x26_16, x26_17, x26_20, x26_21, x26_23, x26_24, x26_25, x26_28, x26_29, x26_32, x26_34, x26_35, x26_38, x26_39, x26_40, x26_42, x26_43, x26_44, x26_45, x26_48, x26_51, x26_52, pv_some, pv_none, c1_int, c1_ref, c1_null, true_and, and_true, ne_eq, not_false_eq_true, not_true_eq_false, if_true, if_false, reduceCtorEq, Option.some.injEq, Value.int.injEq, absI_fold, minI_fold, maxI_fold, I.s, nltG I]
    rfl
def nightA (h : aH) (a q G : Nat) : Int32 := foldN (fun k s => s + popC (wakeA h a q (nI k) G)) 0 8
theorem k_wakingsOfNight (I : InnAt h a G) (hq : isLie q) : X 27 0 [.ref a, .ref q, .null, .null] [] h Q ↔ Q (some (.int (nightA h a q G))) h := by
  refine X_iff ?_ Q
  simp only [x27_0, x27_1, x27_2, x27_3, x27_5, x27_7, x27_10, x27_11, x27_12, x27_13, x27_14, x27_17, x27_20, x27_21, x27_22, x27_25, x27_28, x27_29, pv_some, pv_none, c1_int, c1_ref, c1_null, true_and, and_true, ne_eq, not_false_eq_true, not_true_eq_false, if_true, if_false, reduceCtorEq, Option.some.injEq, Value.int.injEq, absI_fold, minI_fold, maxI_fold]
  refine loop_up (P := fun k => X 27 4 [.ref a, .ref q, .int (foldN (fun k s => s + popC (wakeA h a q (nI k) G)) 0 k), .int (nI k)] [] h _) (n := 8) (fun k hk hp => ?_) ?_
  · rw [x27_4]
    simp only [x27_0, x27_1, x27_2, x27_3, x27_5, x27_7, x27_10, x27_11, x27_12, x27_13, x27_14, x27_17, x27_20, x27_21, x27_22, x27_25, x27_28, x27_29, pv_some, pv_none, c1_int, c1_ref, c1_null, true_and, and_true, ne_eq, not_false_eq_true, not_true_eq_false, if_true, if_false, reduceCtorEq, Option.some.injEq, Value.int.injEq, absI_fold, minI_fold, maxI_fold, I.s, k_wakers I hq, k_bitCount, nI_add1, show (7 < nI k) = False from eq_false (show ¬ nI 7 < nI k from nI_nlt (by omega) (by omega))]
    exact hp
  · rw [x27_4]
    simp only [x27_0, x27_1, x27_2, x27_3, x27_5, x27_7, x27_10, x27_11, x27_12, x27_13, x27_14, x27_17, x27_20, x27_21, x27_22, x27_25, x27_28, x27_29, pv_some, pv_none, c1_int, c1_ref, c1_null, true_and, and_true, ne_eq, not_false_eq_true, not_true_eq_false, if_true, if_false, reduceCtorEq, Option.some.injEq, Value.int.injEq, absI_fold, minI_fold, maxI_fold, show (7 < nI 8) = True by decide]
    rfl
def humsC (T P : Nat → Int32) (rn : Int32) (i : Nat) : Nat → Bool := fun j => nextF (P i) (P j) && humF (T i) (T j) rn
theorem k_nextHummers (I : InnAt h a G) (hq : isLie q) (hi : i < G) : X 28 0 [.ref a, .int (nI i), .ref q, .null, .null] [] h Q ↔ Q (some (.int (bitsF (humsC (hI h (a + 3)) (hI h (q + 1)) (hI h a 9) i) G))) h := by
  refine X_iff ?_ Q
  have hi5 : i < 5 := Nat.lt_of_lt_of_le hi I.2.2.2
  simp only [x28_0, x28_1, x28_2, x28_3, x28_7, x28_8, x28_11, x28_14, x28_15, x28_16, x28_18, x28_21, x28_24, x28_25, x28_26, x28_28, x28_31, x28_34, x28_35, x28_36, x28_38, x28_39, x28_40, x28_41, x28_44, x28_47, x28_48, pv_some, pv_none, c1_int, c1_ref, c1_null, true_and, and_true, ne_eq, not_false_eq_true, not_true_eq_false, if_true, if_false, reduceCtorEq, Option.some.injEq, Value.int.injEq, absI_fold, minI_fold, maxI_fold]
  refine loop_up (P := fun k => X 28 5 [.ref a, .int (nI i), .ref q, .int (bitsF (humsC (hI h (a + 3)) (hI h (q + 1)) (hI h a 9) i) k), .int (nI k)] [] h _) (n := G) (fun k hk hp => ?_) ?_
  · have hk5 : k < 5 := Nat.lt_of_lt_of_le hk I.2.2.2
    rw [x28_5]
    simp only [x28_0, x28_1, x28_2, x28_3, x28_7, x28_8, x28_11, x28_14, x28_15, x28_16, x28_18, x28_21, x28_24, x28_25, x28_26, x28_28, x28_31, x28_34, x28_35, x28_36, x28_38, x28_39, x28_40, x28_41, x28_44, x28_47, x28_48, pv_some, pv_none, c1_int, c1_ref, c1_null, true_and, and_true, ne_eq, not_false_eq_true, not_true_eq_false, if_true, if_false, reduceCtorEq, Option.some.injEq, Value.int.injEq, absI_fold, minI_fold, maxI_fold, I.s, ltG I hk, lie_s I.1 hq, k_areNext I.1 hq hi5 hk5, k_areHumming I hi hk, bi_zero, nI_add1]
    by_cases h1 : nextF (hI h (q + 1) i) (hI h (q + 1) k) = true <;> by_cases h2 : humF (hI h (a + 3) i) (hI h (a + 3) k) (hI h a 9) = true <;> simp only [h1, h2, if_true, if_false, true_or, or_true, false_or, or_false, true_and, and_true, false_and, and_false, not_true_eq_false, not_false_eq_true, iff_self, ite_self, ne_eq, true_implies, implies_true, Bool.false_eq_true, decide_true, decide_false, Bool.or_true, Bool.or_false, Bool.true_or, Bool.false_or] <;> simpa only [bitsF, foldN, humsC, h1, h2, if_true, if_false, true_or, or_true, false_or, or_false, true_and, and_true, false_and, and_false, not_true_eq_false, not_false_eq_true, iff_self, ite_self, ne_eq, true_implies, implies_true, Bool.false_eq_true, decide_true, decide_false, Bool.or_true, Bool.or_false, Bool.true_or, Bool.false_or, Bool.and_true, Bool.true_and, Bool.and_false, Bool.false_and] using hp
  · rw [x28_5]
    simp only [x28_0, x28_1, x28_2, x28_3, x28_7, x28_8, x28_11, x28_14, x28_15, x28_16, x28_18, x28_21, x28_24, x28_25, x28_26, x28_28, x28_31, x28_34, x28_35, x28_36, x28_38, x28_39, x28_40, x28_41, x28_44, x28_47, x28_48, pv_some, pv_none, c1_int, c1_ref, c1_null, true_and, and_true, ne_eq, not_false_eq_true, not_true_eq_false, if_true, if_false, reduceCtorEq, Option.some.injEq, Value.int.injEq, absI_fold, minI_fold, maxI_fold, I.s, nltG I]
theorem k_isRoused (I : InnAt h a G) (hi : i < G) : X 29 0 [.ref a, .int (nI i)] [] h Q ↔ Q (some (.int (bi (¬ hI h a 8 < hI h (a + 4) i)))) h := by
  simp only [x29_0, x29_1, x29_2, x29_5, x29_6, x29_9, x29_12, x29_13, x29_16, x29_17, pv_some, pv_none, c1_int, c1_ref, c1_null, true_and, and_true, ne_eq, not_false_eq_true, not_true_eq_false, if_true, if_false, reduceCtorEq, Option.some.injEq, Value.int.injEq, absI_fold, minI_fold, maxI_fold, I.s, k_lightnessOf I hi]
  by_cases h1 : hI h a 8 < hI h (a + 4) i <;> simp only [h1, bi, if_true, if_false, true_or, or_true, false_or, or_false, true_and, and_true, false_and, and_false, not_true_eq_false, not_false_eq_true, iff_self, ite_self, ne_eq, true_implies, implies_true, Bool.false_eq_true, decide_true, decide_false, Bool.or_true, Bool.or_false, Bool.true_or, Bool.false_or]
/-- who wakes by it if one is carried from bed p to b -/
def rousC (Lt P : Nat → Int32) (po p b : Int32) : Nat → Bool := fun j => decide (minI p b < P j) && decide (P j < maxI p b) && !decide (po < Lt j)
theorem k_roused (I : InnAt h a G) (hq : isLie q) (hi : i < G) : X 30 0 [.ref a, .int (nI i), .int b, .ref q, .null, .null, .null, .null, .null] [] h Q ↔ Q (some (.int (bitsF (rousC (hI h (a + 4)) (hI h (q + 1)) (hI h a 8) (hI h (q + 1) i) b) G))) h := by
  refine X_iff ?_ Q
  have hi5 : i < 5 := Nat.lt_of_lt_of_le hi I.2.2.2
  simp only [x30_0, x30_1, x30_2, x30_5, x30_6, x30_9, x30_11, x30_12, x30_13, x30_16, x30_17, x30_20, x30_22, x30_23, x30_25, x30_26, x30_30, x30_31, x30_34, x30_37, x30_38, x30_40, x30_43, x30_45, x30_47, x30_49, x30_52, x30_54, x30_56, x30_59, x30_60, x30_62, x30_65, x30_68, x30_70, x30_71, x30_73, x30_74, x30_75, x30_77, x30_80, x30_83, x30_85, pv_some, pv_none, c1_int, c1_ref, c1_null, true_and, and_true, ne_eq, not_false_eq_true, not_true_eq_false, if_true, if_false, reduceCtorEq, Option.some.injEq, Value.int.injEq, absI_fold, minI_fold, maxI_fold, I.s, lie_s I.1 hq, k_placeOf I.1 hq hi5]
  have key : ∀ l8 : Value, c1 l8 = true → X 30 28 [.ref a, .int (nI i), .int b, .ref q, .int (minI (hI h (q + 1) i) b), .int (maxI (hI h (q + 1) i) b), .int 0, .int 0, l8] [] h (fun r h' => r = some (.int (bitsF (rousC (hI h (a + 4)) (hI h (q + 1)) (hI h a 8) (hI h (q + 1) i) b) G)) ∧ h' = h) := by
    intro l8 h8
    refine loop_up (P := fun k => ∀ l8 : Value, X 30 28 [.ref a, .int (nI i), .int b, .ref q, .int (minI (hI h (q + 1) i) b), .int (maxI (hI h (q + 1) i) b), .int (bitsF (rousC (hI h (a + 4)) (hI h (q + 1)) (hI h a 8) (hI h (q + 1) i) b) k), .int (nI k), l8] [] h _) (n := G) (fun k hk hp l8 => ?_) (fun l8 => ?_) l8
    · have hk5 : k < 5 := Nat.lt_of_lt_of_le hk I.2.2.2
      rw [x30_28]
      simp only [x30_0, x30_1, x30_2, x30_5, x30_6, x30_9, x30_11, x30_12, x30_13, x30_16, x30_17, x30_20, x30_22, x30_23, x30_25, x30_26, x30_30, x30_31, x30_34, x30_37, x30_38, x30_40, x30_43, x30_45, x30_47, x30_49, x30_52, x30_54, x30_56, x30_59, x30_60, x30_62, x30_65, x30_68, x30_70, x30_71, x30_73, x30_74, x30_75, x30_77, x30_80, x30_83, x30_85, pv_some, pv_none, c1_int, c1_ref, c1_null, true_and, and_true, ne_eq, not_false_eq_true, not_true_eq_false, if_true, if_false, reduceCtorEq, Option.some.injEq, Value.int.injEq, absI_fold, minI_fold, maxI_fold, I.s, ltG I hk, lie_s I.1 hq, k_placeOf I.1 hq hk5, k_isRoused I hk, bi_zero, nI_add1]
      have hp := hp (.int (hI h (q + 1) k))
      by_cases h1 : minI (hI h (q + 1) i) b < hI h (q + 1) k <;> by_cases h2 : hI h (q + 1) k < maxI (hI h (q + 1) i) b <;> by_cases h3 : hI h a 8 < hI h (a + 4) k <;> simp only [h1, h2, h3, if_true, if_false, true_or, or_true, false_or, or_false, true_and, and_true, false_and, and_false, not_true_eq_false, not_false_eq_true, iff_self, ite_self, ne_eq, true_implies, implies_true, Bool.false_eq_true, decide_true, decide_false, Bool.or_true, Bool.or_false, Bool.true_or, Bool.false_or] <;> simpa only [bitsF, foldN, rousC, h1, h2, h3, if_true, if_false, true_or, or_true, false_or, or_false, true_and, and_true, false_and, and_false, not_true_eq_false, not_false_eq_true, iff_self, ite_self, ne_eq, true_implies, implies_true, Bool.false_eq_true, decide_true, decide_false, Bool.or_true, Bool.or_false, Bool.true_or, Bool.false_or, Bool.and_true, Bool.true_and, Bool.and_false, Bool.false_and, Bool.not_true, Bool.not_false] using hp
    · rw [x30_28]
      simp only [x30_0, x30_1, x30_2, x30_5, x30_6, x30_9, x30_11, x30_12, x30_13, x30_16, x30_17, x30_20, x30_22, x30_23, x30_25, x30_26, x30_30, x30_31, x30_34, x30_37, x30_38, x30_40, x30_43, x30_45, x30_47, x30_49, x30_52, x30_54, x30_56, x30_59, x30_60, x30_62, x30_65, x30_68, x30_70, x30_71, x30_73, x30_74, x30_75, x30_77, x30_80, x30_83, x30_85, pv_some, pv_none, c1_int, c1_ref, c1_null, true_and, and_true, ne_eq, not_false_eq_true, not_true_eq_false, if_true, if_false, reduceCtorEq, Option.some.injEq, Value.int.injEq, absI_fold, minI_fold, maxI_fold, I.s, nltG I]
  exact key .null rfl
/-- who is in a bed: the first one, else -4 -/
def inF (P : Nat → Int32) (b : Int32) (G : Nat) : Int32 := if fstN (fun i => decide (P i = b)) G < G then nI (fstN (fun i => decide (P i = b)) G) else -4
theorem k_guestIn (g : GS h) (hq : isLie q) (hG : G ≤ 5) : X 40 0 [.ref q, .int b, .int (nI G), .null] [] h Q ↔ Q (some (.int (inF (hI h (q + 1)) b G))) h := by
  refine X_iff ?_ Q
  have hle := fstN_le (fun i => decide (hI h (q + 1) i = b)) G
  simp only [x40_0, x40_1, x40_3, x40_4, x40_7, x40_8, x40_9, x40_12, x40_13, x40_16, x40_17, x40_18, x40_21, x40_24, x40_26, pv_some, pv_none, c1_int, c1_ref, c1_null, true_and, and_true, ne_eq, not_false_eq_true, not_true_eq_false, if_true, if_false, reduceCtorEq, Option.some.injEq, Value.int.injEq, absI_fold, minI_fold, maxI_fold]
  refine loop_up (P := fun k => X 40 2 [.ref q, .int b, .int (nI G), .int (nI k)] [] h _) (n := fstN (fun i => decide (hI h (q + 1) i = b)) G) (fun k hk hp => ?_) ?_
  · have hno := fstN_no _ _ _ hk
    have hn : ¬ hI h (q + 1) k = b := by simpa using hno
    rw [x40_2]
    simp only [x40_0, x40_1, x40_3, x40_4, x40_7, x40_8, x40_9, x40_12, x40_13, x40_16, x40_17, x40_18, x40_21, x40_24, x40_26, pv_some, pv_none, c1_int, c1_ref, c1_null, true_and, and_true, ne_eq, not_false_eq_true, not_true_eq_false, if_true, if_false, reduceCtorEq, Option.some.injEq, Value.int.injEq, absI_fold, minI_fold, maxI_fold, lie_s g hq, k_placeOf g hq (show k < 5 by omega), nI_lt_iff (show k < 2 ^ 31 by omega) (show G < 2 ^ 31 by omega), show k < G by omega, hn, nI_add1]
    exact hp
  · rw [x40_2]
    unfold inF
    by_cases hl : fstN (fun i => decide (hI h (q + 1) i = b)) G < G
    · have hy : hI h (q + 1) (fstN (fun i => decide (hI h (q + 1) i = b)) G) = b := by simpa using fstN_yes _ _ hl
      rw [if_pos hl]
      generalize fstN (fun i => decide (hI h (q + 1) i = b)) G = n0 at hl hy hle
      simp only [x40_0, x40_1, x40_3, x40_4, x40_7, x40_8, x40_9, x40_12, x40_13, x40_16, x40_17, x40_18, x40_21, x40_24, x40_26, pv_some, pv_none, c1_int, c1_ref, c1_null, true_and, and_true, ne_eq, not_false_eq_true, not_true_eq_false, if_true, if_false, reduceCtorEq, Option.some.injEq, Value.int.injEq, absI_fold, minI_fold, maxI_fold, lie_s g hq, k_placeOf g hq (show n0 < 5 by omega), nI_lt_iff (show n0 < 2 ^ 31 by omega) (show G < 2 ^ 31 by omega), hl, hy]
    · rw [if_neg hl]
      generalize fstN (fun i => decide (hI h (q + 1) i = b)) G = n0 at hl hle
      simp only [x40_0, x40_1, x40_3, x40_4, x40_7, x40_8, x40_9, x40_12, x40_13, x40_16, x40_17, x40_18, x40_21, x40_24, x40_26, pv_some, pv_none, c1_int, c1_ref, c1_null, true_and, and_true, ne_eq, not_false_eq_true, not_true_eq_false, if_true, if_false, reduceCtorEq, Option.some.injEq, Value.int.injEq, absI_fold, minI_fold, maxI_fold, nI_lt_iff (show n0 < 2 ^ 31 by omega) (show G < 2 ^ 31 by omega), hl]
def emptyF (P : Nat → Int32) (b : Int32) (G : Nat) : Bool := !decide (fstN (fun i => decide (P i = b)) G < G)
theorem k_isEmpty (g : GS h) (hq : isLie q) (hG : G ≤ 5) : X 41 0 [.ref q, .int b, .int (nI G)] [] h Q ↔ Q (some (.int (bi (emptyF (hI h (q + 1)) b G = true)))) h := by
  simp only [x41_0, x41_1, x41_2, x41_3, x41_6, x41_8, x41_11, x41_12, x41_15, x41_16, pv_some, pv_none, c1_int, c1_ref, c1_null, true_and, and_true, ne_eq, not_false_eq_true, not_true_eq_false, if_true, if_false, reduceCtorEq, Option.some.injEq, Value.int.injEq, absI_fold, minI_fold, maxI_fold, lie_s g hq, k_guestIn g hq hG]
  unfold inF emptyF
  by_cases hl : fstN (fun i => decide (hI h (q + 1) i = b)) G < G
  · have hne : ¬ nI (fstN (fun i => decide (hI h (q + 1) i = b)) G) = -4 := by
      intro e
      have := nI_toInt (n := fstN (fun i => decide (hI h (q + 1) i = b)) G) (by omega)
      rw [e] at this
      have h4 : (-4 : Int32).toInt = -4 := by decide
      omega
    simp only [hl, hne, bi, if_true, if_false, true_or, or_true, false_or, or_false, true_and, and_true, false_and, and_false, not_true_eq_false, not_false_eq_true, iff_self, ite_self, ne_eq, true_implies, implies_true, Bool.false_eq_true, decide_true, decide_false, Bool.or_true, Bool.or_false, Bool.true_or, Bool.false_or, Bool.not_true]
  · simp only [hl, bi, if_true, if_false, true_or, or_true, false_or, or_false, true_and, and_true, false_and, and_false, not_true_eq_false, not_false_eq_true, iff_self, ite_self, ne_eq, true_implies, implies_true, Bool.false_eq_true, decide_true, decide_false, Bool.or_true, Bool.or_false, Bool.true_or, Bool.false_or, Bool.not_false]
/-- the law's order: how many go ahead; the bed -/
def aheadF (lo : Nat → Int32) (i G : Nat) : Int32 := foldN (fun j s => if lo i < lo j ∨ lo j = lo i ∧ j < i then s + 1 else s) 0 G
def lawF (lo : Nat → Int32) (n : Int32) (i G : Nat) : Int32 := if aheadF lo i G - aheadF lo i G / 2 * 2 = 0 then aheadF lo i G / 2 else n - 1 - aheadF lo i G / 2
abbrev loA (h : aH) (a : Nat) (hr : Int32) : Nat → Int32 := fun j => loudF (hI h (a + 1) j) (hI h (a + 2) j) hr
theorem k_lawfulBed (I : InnAt h a G) (hi : i < G) : X 32 0 [.ref a, .int (nI i), .int hr, .null, .null, .null, .null] [] h Q ↔ Q (some (.int (lawF (loA h a hr) (hI h a 6) i G))) h := by
  refine X_iff ?_ Q
  have h5 := I.2.2.2
  simp only [x32_0, x32_1, x32_2, x32_3, x32_4, x32_5, x32_8, x32_10, x32_11, x32_15, x32_16, x32_19, x32_22, x32_23, x32_25, x32_26, x32_29, x32_31, x32_33, x32_35, x32_38, x32_40, x32_42, x32_45, x32_47, x32_48, x32_51, x32_54, x32_57, x32_60, x32_61, x32_62, x32_63, x32_66, x32_67, x32_68, x32_69, x32_72, x32_73, x32_76, x32_77, x32_78, x32_79, x32_80, x32_81, x32_82, pv_some, pv_none, c1_int, c1_ref, c1_null, true_and, and_true, ne_eq, not_false_eq_true, not_true_eq_false, if_true, if_false, reduceCtorEq, Option.some.injEq, Value.int.injEq, absI_fold, minI_fold, maxI_fold, I.s, k_loudness I hi]
  refine loop_up (P := fun k => ∀ l6 : Value, X 32 13 [.ref a, .int (nI i), .int hr, .int (aheadF (loA h a hr) i k), .int (loudF (hI h (a + 1) i) (hI h (a + 2) i) hr), .int (nI k), l6] [] h _) (n := G) (fun k hk hp l6 => ?_) (fun l6 => ?_) .null
  · have hk5 : k < 5 := Nat.lt_of_lt_of_le hk I.2.2.2
    rw [x32_13]
    simp only [x32_0, x32_1, x32_2, x32_3, x32_4, x32_5, x32_8, x32_10, x32_11, x32_15, x32_16, x32_19, x32_22, x32_23, x32_25, x32_26, x32_29, x32_31, x32_33, x32_35, x32_38, x32_40, x32_42, x32_45, x32_47, x32_48, x32_51, x32_54, x32_57, x32_60, x32_61, x32_62, x32_63, x32_66, x32_67, x32_68, x32_69, x32_72, x32_73, x32_76, x32_77, x32_78, x32_79, x32_80, x32_81, x32_82, pv_some, pv_none, c1_int, c1_ref, c1_null, true_and, and_true, ne_eq, not_false_eq_true, not_true_eq_false, if_true, if_false, reduceCtorEq, Option.some.injEq, Value.int.injEq, absI_fold, minI_fold, maxI_fold, I.s, ltG I hk, k_loudness I hk, nI_lt_iff (show k < 2 ^ 31 by omega) (show i < 2 ^ 31 by omega), nI_add1]
    have hp := hp (.int (loA h a hr k))
    by_cases h1 : loA h a hr i < loA h a hr k
    · simp only [loA] at h1
      simp only [h1, if_true, if_false, true_or, or_true, false_or, or_false, true_and, and_true, false_and, and_false, not_true_eq_false, not_false_eq_true, iff_self, ite_self, ne_eq, true_implies, implies_true, Bool.false_eq_true, decide_true, decide_false, Bool.or_true, Bool.or_false, Bool.true_or, Bool.false_or]
      simpa only [aheadF, foldN, loA, h1, if_true, if_false, true_or, or_true, false_or, or_false, true_and, and_true, false_and, and_false, not_true_eq_false, not_false_eq_true, iff_self, ite_self, ne_eq, true_implies, implies_true, Bool.false_eq_true, decide_true, decide_false, Bool.or_true, Bool.or_false, Bool.true_or, Bool.false_or] using hp
    · simp only [loA] at h1
      by_cases h2 : loA h a hr k = loA h a hr i
      · simp only [loA] at h2
        by_cases h3 : k < i <;> simp only [h1, h2, h3, if_true, if_false, true_or, or_true, false_or, or_false, true_and, and_true, false_and, and_false, not_true_eq_false, not_false_eq_true, iff_self, ite_self, ne_eq, true_implies, implies_true, Bool.false_eq_true, decide_true, decide_false, Bool.or_true, Bool.or_false, Bool.true_or, Bool.false_or, Int32.lt_irrefl] <;> simpa only [aheadF, foldN, loA, h1, h2, h3, if_true, if_false, true_or, or_true, false_or, or_false, true_and, and_true, false_and, and_false, not_true_eq_false, not_false_eq_true, iff_self, ite_self, ne_eq, true_implies, implies_true, Bool.false_eq_true, decide_true, decide_false, Bool.or_true, Bool.or_false, Bool.true_or, Bool.false_or, Int32.lt_irrefl] using hp
      · simp only [loA] at h2
        simp only [h1, h2, if_true, if_false, true_or, or_true, false_or, or_false, true_and, and_true, false_and, and_false, not_true_eq_false, not_false_eq_true, iff_self, ite_self, ne_eq, true_implies, implies_true, Bool.false_eq_true, decide_true, decide_false, Bool.or_true, Bool.or_false, Bool.true_or, Bool.false_or]
        simpa only [aheadF, foldN, loA, h1, h2, if_true, if_false, true_or, or_true, false_or, or_false, true_and, and_true, false_and, and_false, not_true_eq_false, not_false_eq_true, iff_self, ite_self, ne_eq, true_implies, implies_true, Bool.false_eq_true, decide_true, decide_false, Bool.or_true, Bool.or_false, Bool.true_or, Bool.false_or] using hp
  · rw [x32_13]
    simp only [x32_0, x32_1, x32_2, x32_3, x32_4, x32_5, x32_8, x32_10, x32_11, x32_15, x32_16, x32_19, x32_22, x32_23, x32_25, x32_26, x32_29, x32_31, x32_33, x32_35, x32_38, x32_40, x32_42, x32_45, x32_47, x32_48, x32_51, x32_54, x32_57, x32_60, x32_61, x32_62, x32_63, x32_66, x32_67, x32_68, x32_69, x32_72, x32_73, x32_76, x32_77, x32_78, x32_79, x32_80, x32_81, x32_82, pv_some, pv_none, c1_int, c1_ref, c1_null, true_and, and_true, ne_eq, not_false_eq_true, not_true_eq_false, if_true, if_false, reduceCtorEq, Option.some.injEq, Value.int.injEq, absI_fold, minI_fold, maxI_fold, I.s, nltG I, two_ne, if_true, if_false, true_or, or_true, false_or, or_false, true_and, and_true, false_and, and_false, not_true_eq_false, not_false_eq_true, iff_self, ite_self, ne_eq, true_implies, implies_true, Bool.false_eq_true, decide_true, decide_false, Bool.or_true, Bool.or_false, Bool.true_or, Bool.false_or]
    unfold lawF
    by_cases h1 : aheadF (loA h a hr) i G - aheadF (loA h a hr) i G / 2 * 2 = 0 <;> simp only [h1, if_true, if_false, true_or, or_true, false_or, or_false, true_and, and_true, false_and, and_false, not_true_eq_false, not_false_eq_true, iff_self, ite_self, ne_eq, true_implies, implies_true, Bool.false_eq_true, decide_true, decide_false, Bool.or_true, Bool.or_false, Bool.true_or, Bool.false_or]
/-- two on next beds that are too far apart in how loud they are -/
def badF (lo P : Nat → Int32) (d : Int32) (i j : Nat) : Bool := nextF (P i) (P j) && decide (d < absI (lo i - lo j))
def evenF (lo P : Nat → Int32) (d : Int32) (G : Nat) : Bool := !decide (fstN (fun i => decide (fstN (badF lo P d i) i < i)) G < G)
theorem k_isEven (I : InnAt h a G) (hq : isLie q) : X 31 0 [.ref a, .ref q, .int hr, .int d, .null, .null] [] h Q ↔ Q (some (.int (bi (evenF (loA h a hr) (hI h (q + 1)) d G = true)))) h := by
  refine X_iff ?_ Q
  have h5 := I.2.2.2
  have hle := fstN_le (fun i => decide (fstN (badF (loA h a hr) (hI h (q + 1)) d i) i < i)) G
  simp only [x31_0, x31_1, x31_5, x31_6, x31_9, x31_12, x31_13, x31_17, x31_19, x31_22, x31_23, x31_25, x31_27, x31_30, x31_33, x31_34, x31_36, x31_37, x31_40, x31_41, x31_43, x31_44, x31_47, x31_48, x31_51, x31_52, x31_55, x31_56, x31_57, x31_60, x31_63, x31_66, x31_69, x31_70, pv_some, pv_none, c1_int, c1_ref, c1_null, true_and, and_true, ne_eq, not_false_eq_true, not_true_eq_false, if_true, if_false, reduceCtorEq, Option.some.injEq, Value.int.injEq, absI_fold, minI_fold, maxI_fold]
  have inner : ∀ i, i < G → ∀ l5 : Value, (fstN (badF (loA h a hr) (hI h (q + 1)) d i) i < i → evenF (loA h a hr) (hI h (q + 1)) d G = false) → (¬ fstN (badF (loA h a hr) (hI h (q + 1)) d i) i < i → ∀ l5 : Value, X 31 3 [.ref a, .ref q, .int hr, .int d, .int (nI (i + 1)), l5] [] h (fun a_1 b => a_1 = some (.int (bi (evenF (loA h a hr) (hI h (q + 1)) d G = true))) ∧ b = h)) → X 31 3 [.ref a, .ref q, .int hr, .int d, .int (nI i), l5] [] h (fun a_1 b => a_1 = some (.int (bi (evenF (loA h a hr) (hI h (q + 1)) d G = true))) ∧ b = h) := by
    intro i hi l5 hbad hok
    rw [x31_3]
    simp only [x31_0, x31_1, x31_5, x31_6, x31_9, x31_12, x31_13, x31_17, x31_19, x31_22, x31_23, x31_25, x31_27, x31_30, x31_33, x31_34, x31_36, x31_37, x31_40, x31_41, x31_43, x31_44, x31_47, x31_48, x31_51, x31_52, x31_55, x31_56, x31_57, x31_60, x31_63, x31_66, x31_69, x31_70, pv_some, pv_none, c1_int, c1_ref, c1_null, true_and, and_true, ne_eq, not_false_eq_true, not_true_eq_false, if_true, if_false, reduceCtorEq, Option.some.injEq, Value.int.injEq, absI_fold, minI_fold, maxI_fold, I.s, ltG I hi]
    have hli := fstN_le (badF (loA h a hr) (hI h (q + 1)) d i) i
    refine loop_up (P := fun k => X 31 15 [.ref a, .ref q, .int hr, .int d, .int (nI i), .int (nI k)] [] h _) (n := fstN (badF (loA h a hr) (hI h (q + 1)) d i) i) (fun k hk hp => ?_) ?_
    · have hno := fstN_no _ _ _ hk
      rw [x31_15]
      simp only [x31_0, x31_1, x31_5, x31_6, x31_9, x31_12, x31_13, x31_17, x31_19, x31_22, x31_23, x31_25, x31_27, x31_30, x31_33, x31_34, x31_36, x31_37, x31_40, x31_41, x31_43, x31_44, x31_47, x31_48, x31_51, x31_52, x31_55, x31_56, x31_57, x31_60, x31_63, x31_66, x31_69, x31_70, pv_some, pv_none, c1_int, c1_ref, c1_null, true_and, and_true, ne_eq, not_false_eq_true, not_true_eq_false, if_true, if_false, reduceCtorEq, Option.some.injEq, Value.int.injEq, absI_fold, minI_fold, maxI_fold, I.s, lie_s I.1 hq, nI_lt_iff (show k < 2 ^ 31 by omega) (show i < 2 ^ 31 by omega), show k < i by omega, k_areNext I.1 hq (show i < 5 by omega) (show k < 5 by omega), k_loudness I hi, k_loudness I (show k < G by omega), bi_zero, nI_add1]
      unfold badF at hno
      by_cases h1 : nextF (hI h (q + 1) i) (hI h (q + 1) k) = true
      · have h2 : ¬ d < absI (loudF (hI h (a + 1) i) (hI h (a + 2) i) hr - loudF (hI h (a + 1) k) (hI h (a + 2) k) hr) := by simpa [h1] using hno
        simp only [h1, h2, if_true, if_false, true_or, or_true, false_or, or_false, true_and, and_true, false_and, and_false, not_true_eq_false, not_false_eq_true, iff_self, ite_self, ne_eq, true_implies, implies_true, Bool.false_eq_true, decide_true, decide_false, Bool.or_true, Bool.or_false, Bool.true_or, Bool.false_or]
        exact hp
      · simp only [h1, if_true, if_false, true_or, or_true, false_or, or_false, true_and, and_true, false_and, and_false, not_true_eq_false, not_false_eq_true, iff_self, ite_self, ne_eq, true_implies, implies_true, Bool.false_eq_true, decide_true, decide_false, Bool.or_true, Bool.or_false, Bool.true_or, Bool.false_or]
        exact hp
    · rw [x31_15]
      by_cases hl : fstN (badF (loA h a hr) (hI h (q + 1)) d i) i < i
      · have hy := fstN_yes _ _ hl
        have he := hbad hl
        rw [he]
        generalize fstN (badF (loA h a hr) (hI h (q + 1)) d i) i = n0 at hl hy hli
        unfold badF at hy
        simp only [Bool.and_eq_true, decide_eq_true_eq] at hy
        simp only [x31_0, x31_1, x31_5, x31_6, x31_9, x31_12, x31_13, x31_17, x31_19, x31_22, x31_23, x31_25, x31_27, x31_30, x31_33, x31_34, x31_36, x31_37, x31_40, x31_41, x31_43, x31_44, x31_47, x31_48, x31_51, x31_52, x31_55, x31_56, x31_57, x31_60, x31_63, x31_66, x31_69, x31_70, pv_some, pv_none, c1_int, c1_ref, c1_null, true_and, and_true, ne_eq, not_false_eq_true, not_true_eq_false, if_true, if_false, reduceCtorEq, Option.some.injEq, Value.int.injEq, absI_fold, minI_fold, maxI_fold, I.s, lie_s I.1 hq, nI_lt_iff (show n0 < 2 ^ 31 by omega) (show i < 2 ^ 31 by omega), hl, k_areNext I.1 hq (show i < 5 by omega) (show n0 < 5 by omega), k_loudness I hi, k_loudness I (show n0 < G by omega), bi_zero, hy.1]
        have h2 := hy.2
        simp only [loA] at h2
        simp only [h2, if_true, if_false, true_or, or_true, false_or, or_false, true_and, and_true, false_and, and_false, not_true_eq_false, not_false_eq_true, iff_self, ite_self, ne_eq, true_implies, implies_true, Bool.false_eq_true, decide_true, decide_false, Bool.or_true, Bool.or_false, Bool.true_or, Bool.false_or, bi]
      · have hok := hok hl
        generalize fstN (badF (loA h a hr) (hI h (q + 1)) d i) i = n0 at hl hli
        simp only [x31_0, x31_1, x31_5, x31_6, x31_9, x31_12, x31_13, x31_17, x31_19, x31_22, x31_23, x31_25, x31_27, x31_30, x31_33, x31_34, x31_36, x31_37, x31_40, x31_41, x31_43, x31_44, x31_47, x31_48, x31_51, x31_52, x31_55, x31_56, x31_57, x31_60, x31_63, x31_66, x31_69, x31_70, pv_some, pv_none, c1_int, c1_ref, c1_null, true_and, and_true, ne_eq, not_false_eq_true, not_true_eq_false, if_true, if_false, reduceCtorEq, Option.some.injEq, Value.int.injEq, absI_fold, minI_fold, maxI_fold, nI_lt_iff (show n0 < 2 ^ 31 by omega) (show i < 2 ^ 31 by omega), hl, nI_add1]
        exact hok _
  refine loop_up (P := fun k => ∀ l5 : Value, X 31 3 [.ref a, .ref q, .int hr, .int d, .int (nI k), l5] [] h _) (n := fstN (fun i => decide (fstN (badF (loA h a hr) (hI h (q + 1)) d i) i < i)) G) (fun k hk hp l5 => ?_) (fun l5 => ?_) .null
  · have hno := fstN_no _ _ _ hk
    have hn : ¬ fstN (badF (loA h a hr) (hI h (q + 1)) d k) k < k := by simpa using hno
    exact inner k (by omega) l5 (fun z => absurd z hn) (fun _ => hp)
  · by_cases hl : fstN (fun i => decide (fstN (badF (loA h a hr) (hI h (q + 1)) d i) i < i)) G < G
    · have hy := fstN_yes _ _ hl
      simp only [decide_eq_true_eq] at hy
      exact inner _ hl l5 (fun _ => by simp [evenF, hl]) (fun z => absurd hy z)
    · have he : evenF (loA h a hr) (hI h (q + 1)) d G = true := by simp [evenF, hl]
      rw [he]
      rw [x31_3]
      have hG : fstN (fun i => decide (fstN (badF (loA h a hr) (hI h (q + 1)) d i) i < i)) G = G := by omega
      rw [hG]
      simp only [x31_0, x31_1, x31_5, x31_6, x31_9, x31_12, x31_13, x31_17, x31_19, x31_22, x31_23, x31_25, x31_27, x31_30, x31_33, x31_34, x31_36, x31_37, x31_40, x31_41, x31_43, x31_44, x31_47, x31_48, x31_51, x31_52, x31_55, x31_56, x31_57, x31_60, x31_63, x31_66, x31_69, x31_70, pv_some, pv_none, c1_int, c1_ref, c1_null, true_and, and_true, ne_eq, not_false_eq_true, not_true_eq_false, if_true, if_false, reduceCtorEq, Option.some.injEq, Value.int.injEq, absI_fold, minI_fold, maxI_fold, I.s, nltG I, bi, if_true, if_false, true_or, or_true, false_or, or_false, true_and, and_true, false_and, and_false, not_true_eq_false, not_false_eq_true, iff_self, ite_self, ne_eq, true_implies, implies_true, Bool.false_eq_true, decide_true, decide_false, Bool.or_true, Bool.or_false, Bool.true_or, Bool.false_or, one_ne]
end INN2
