/-! LIE, SHELF: what acts write -/
/-- the same heap with other numbers -/
def wI (h : aH) (f : Nat → Nat → Int32) : aH := (hN h, hZ h, hS h, f, hR h)
theorem hI_wI (h : aH) (f : Nat → Nat → Int32) : hI (wI h f) = f := rfl
theorem hN_wI (h : aH) (f : Nat → Nat → Int32) : hN (wI h f) = hN h := rfl
theorem hZ_wI (h : aH) (f : Nat → Nat → Int32) : hZ (wI h f) = hZ h := rfl
theorem hS_wI (h : aH) (f : Nat → Nat → Int32) : hS (wI h f) = hS h := rfl
theorem hR_wI (h : aH) (f : Nat → Nat → Int32) : hR (wI h f) = hR h := rfl
theorem wI_wI (h : aH) (f f' : Nat → Nat → Int32) : wI (wI h f) f' = wI h f' := rfl
theorem sI_wI (h : aH) (a k : Nat) (v : Int32) : sI h a k v = wI h (up2 (hI h) a k v) := rfl
theorem GS.wI {h : aH} (g : GS h) (f : Nat → Nat → Int32) : GS (wI h f) := g
theorem aH_ext {h h' : aH} (h1 : hN h = hN h') (h2 : hZ h = hZ h') (h3 : hS h = hS h') (h4 : hR h = hR h') (h5 : ∀ b j, hI h b j = hI h' b j) : h = h' := by
  obtain ⟨n, z, s, i, r⟩ := h
  obtain ⟨n', z', s', i', r'⟩ := h'
  simp only [hN] at h1
  simp only [hZ] at h2
  simp only [hS] at h3
  simp only [hR] at h4
  have h6 : i = i' := by funext b j; exact h5 b j
  subst h1; subst h2; subst h3; subst h4; subst h6
  rfl
/-- a way to lie as ten numbers: five places, walls, hour, steps, carried, woken -/
def lv (h : aH) (q : Nat) : Nat → Int32 := fun j => if j < 5 then hI h (q + 1) j else hI h q (j - 4)
def setL (h : aH) (q : Nat) (v : Nat → Int32) : aH := wI h (fun b j => if b = q + 1 ∧ j < 5 then v j else if b = q ∧ 1 ≤ j ∧ j ≤ 5 then v (j + 4) else hI h b j)
def setRow (h : aH) (rw t : Nat) (v : Nat → Int32) : aH := wI h (fun b j => if b = rw ∧ t ≤ j ∧ j < t + 10 then v (j - t) else hI h b j)
theorem iff_Q {Q : Option Value → aH → Prop} {r : Option Value} {h h' : aH} (e : h = h') : Q r h ↔ Q r h' := by rw [e]
theorem five_t : (5 : Int32).toNatClampNeg = 5 := by decide
theorem zero_t : (0 : Int32).toNatClampNeg = 0 := by decide
theorem z0 : ((0 : Int32) ≤ 0) = True := by decide
theorem z5 : ((0 : Int32) ≤ 5) = True := by decide
theorem X_heap {m pc : Nat} {L st : List Value} {h1 h2 : aH} {Q : Option Value → aH → Prop} (e : h1 = h2) (hx : X m pc L st h1 Q) : X m pc L st h2 Q := e ▸ hx
section LIE
variable {h : aH} {a q r G i j k t n : Nat} {Q : Option Value → aH → Prop} {x y hr b d : Int32}
theorem cp55 : cpOk (2, 5) (2, 5) 0 0 5 = True := by simp [cpOk, five_t, zero_t]
theorem k_lieCopy (g : GS h) (hq : q = 15 ∨ q = 24) : X 35 0 [.ref q, .ref 22] [] h Q ↔ Q none (setL h q (lv h 22)) := by
  have h1 : isLie q := by rcases hq with rfl | rfl <;> simp [isLie]
  have h2 : isLie 22 := by simp [isLie]
  simp only [x35_0, x35_1, x35_4, x35_5, x35_6, x35_9, x35_10, x35_11, x35_14, x35_15, x35_16, x35_19, x35_22, x35_23, x35_24, x35_27, x35_30, x35_31, x35_32, x35_35, x35_38, x35_39, x35_40, x35_43, x35_46, x35_47, x35_48, x35_51, x35_54, pv_some, pv_none, c1_int, c1_ref, c1_null, true_and, and_true, ne_eq, not_false_eq_true, not_true_eq_false, if_true, if_false, reduceCtorEq, Option.some.injEq, Value.int.injEq, absI_fold, minI_fold, maxI_fold, lie_s g h1, lie_s g h2, lie_r g h1, lie_r g h2, lie_s1 g h1, lie_s1 g h2, hS_cpI, hR_cpI, hS_sI, hR_sI, cp55, Nat.add_eq_zero_iff, and_false, zero_t, five_t]
  refine iff_Q (aH_ext rfl rfl rfl rfl (fun b j => ?_))
  rcases hq with rfl | rfl <;> simp only [hI_sI, hI_cpI, setL, hI_wI, lv] <;> grind
theorem k_turnWall (g : GS h) (hq : isLie q) : X 43 0 [.ref q, .int x] [] h Q ↔ Q none (sI h q 1 (hI h q 1 ^^^ 1 <<< (x &&& 31))) := by
  simp only [x43_0, x43_1, x43_2, x43_5, x43_6, x43_7, x43_8, x43_9, x43_12, pv_some, pv_none, c1_int, c1_ref, c1_null, true_and, and_true, ne_eq, not_false_eq_true, not_true_eq_false, if_true, if_false, reduceCtorEq, Option.some.injEq, Value.int.injEq, absI_fold, minI_fold, maxI_fold, lie_s g hq]
theorem k_passHour (g : GS h) (hq : isLie q) : X 44 0 [.ref q] [] h Q ↔ Q none (sI h q 2 (minI 7 (hI h q 2 + 1))) := by
  simp only [x44_0, x44_1, x44_3, x44_4, x44_7, x44_8, x44_9, x44_12, x44_15, pv_some, pv_none, c1_int, c1_ref, c1_null, true_and, and_true, ne_eq, not_false_eq_true, not_true_eq_false, if_true, if_false, reduceCtorEq, Option.some.injEq, Value.int.injEq, absI_fold, minI_fold, maxI_fold, lie_s g hq]
theorem k_move (g : GS h) (hq : isLie q) (hi : i < 5) : X 45 0 [.ref q, .int (nI i), .int b, .int x] [] h Q ↔ Q none (setL h q (fun j => if j = i then b else if j = 7 then lv h q 7 + absI (b - hI h (q + 1) i) else if j = 8 then lv h q 8 + 1 else if j = 9 then lv h q 9 + x else lv h q j)) := by
  simp only [x45_0, x45_1, x45_4, x45_5, x45_6, x45_9, x45_10, x45_13, x45_14, x45_15, x45_16, x45_19, x45_20, x45_21, x45_24, x45_25, x45_26, x45_27, x45_30, x45_31, x45_34, x45_35, x45_36, x45_39, x45_40, x45_41, x45_44, x45_45, x45_46, x45_49, x45_50, x45_51, x45_54, x45_55, x45_58, x45_59, x45_60, x45_61, pv_some, pv_none, c1_int, c1_ref, c1_null, true_and, and_true, ne_eq, not_false_eq_true, not_true_eq_false, if_true, if_false, reduceCtorEq, Option.some.injEq, Value.int.injEq, absI_fold, minI_fold, maxI_fold, lie_s g hq, lie_r g hq, lie_s1 g hq, hS_sI, hR_sI, nI_neg (show i < 2 ^ 31 by omega), show (nI i < Int32.ofNat 5) = True from eq_true (nI_lt hi (by decide)), ib5 hi, cl5 hi, Nat.add_eq_zero_iff, if_true, if_false, true_or, or_true, false_or, or_false, true_and, and_true, false_and, and_false, not_true_eq_false, not_false_eq_true, iff_self, ite_self, ne_eq, true_implies, implies_true, Bool.false_eq_true, decide_true, decide_false, Bool.or_true, Bool.or_false, Bool.true_or, Bool.false_or, show ibw (nI i) (2, 5) = True from eq_true (ibw_nI hi (by decide))]
  refine iff_Q (aH_ext rfl rfl rfl rfl (fun b j => ?_))
  simp only [hI_sI, setL, hI_wI, lv]
  grind (splits := 40)
theorem nI_addn (a b : Nat) : nI a + nI b = nI (a + b) := (Int32.ofNat_add a b).symm
theorem nI_mul (a b : Nat) : nI a * nI b = nI (a * b) := (Int32.ofNat_mul a b).symm
theorem nI_sub {a b : Nat} (h : b ≤ a) : nI a - nI b = nI (a - b) := by
  have : nI a = nI (a - b) + nI b := by rw [nI_addn, Nat.sub_add_cancel h]
  rw [this, Int32.add_sub_cancel]
theorem nI_p2 (a : Nat) : nI a + 2 = nI (a + 2) := nI_addn a 2
theorem nI_p3 (a : Nat) : nI a + 3 = nI (a + 3) := nI_addn a 3
theorem nI_p4 (a : Nat) : nI a + 4 = nI (a + 4) := nI_addn a 4
theorem nI_p5 (a : Nat) : nI a + 5 = nI (a + 5) := nI_addn a 5
theorem nI_m1 {a : Nat} (h : 1 ≤ a) : nI a - 1 = nI (a - 1) := nI_sub h
theorem nI_m10 {a : Nat} (h : 10 ≤ a) : nI a - 10 = nI (a - 10) := nI_sub h
theorem nI_x10 (a : Nat) : nI a * 10 = nI (a * 10) := nI_mul a 10
theorem ofNat_nI (a : Nat) : Int32.ofNat a = nI a := rfl
/-- ten numbers into a row, out of one -/
theorem k_save (g : GS h) (hq : isLie q) (hr : hS h r = (2, n)) (hr0 : r ≠ 0) (hrq : r = 19 ∨ r = 21) (ht : t + 10 ≤ n) (hn : n ≤ 80) : X 36 0 [.ref q, .ref r, .int (nI t)] [] h Q ↔ Q none (setRow h r t (lv h q)) := by
  have hib : ∀ k, k < 10 → ibw (nI (t + k)) (2, n) = True := fun k hk => eq_true (ibw_nI (by omega) (by omega))
  have hcp : cpOk (2, 5) (2, n) 0 (nI t) 5 = True := by
    simp only [cpOk, five_t, zero_t, nI_cl (show t < 2 ^ 31 by omega), z0, z5, nI_pos' (show t < 2 ^ 31 by omega), if_true, if_false, true_or, or_true, false_or, or_false, true_and, and_true, false_and, and_false, not_true_eq_false, not_false_eq_true, iff_self, ite_self, ne_eq, true_implies, implies_true, Bool.false_eq_true, decide_true, decide_false, Bool.or_true, Bool.or_false, Bool.true_or, Bool.false_or, show t + 5 ≤ n by omega, Nat.zero_add, Nat.le_refl]
  simp only [x36_0, x36_1, x36_4, x36_5, x36_6, x36_7, x36_9, x36_10, x36_13, x36_14, x36_15, x36_18, x36_19, x36_20, x36_21, x36_22, x36_25, x36_26, x36_27, x36_28, x36_29, x36_30, x36_33, x36_34, x36_35, x36_36, x36_37, x36_38, x36_39, x36_40, x36_41, x36_44, x36_45, x36_46, x36_47, x36_48, x36_49, x36_50, x36_51, x36_52, x36_55, x36_56, x36_57, x36_58, x36_59, x36_60, x36_61, x36_62, x36_63, x36_66, x36_67, x36_68, x36_69, x36_70, x36_71, x36_72, x36_73, x36_74, x36_77, x36_78, pv_some, pv_none, c1_int, c1_ref, c1_null, true_and, and_true, ne_eq, not_false_eq_true, not_true_eq_false, if_true, if_false, reduceCtorEq, Option.some.injEq, Value.int.injEq, absI_fold, minI_fold, maxI_fold, lie_s g hq, lie_r g hq, lie_s1 g hq, hr, hS_cpI, hR_cpI, hS_sI, hR_sI, nI_neg (show t < 2 ^ 31 by omega), ofNat_nI, nI_m10 (show 10 ≤ n by omega), nI_lt_iff (show n - 10 < 2 ^ 31 by omega) (show t < 2 ^ 31 by omega), show ¬ n - 10 < t by omega, hcp, nI_add1, nI_p2, nI_p3, nI_p4, nI_p5, Nat.add_assoc, Nat.reduceAdd, hib 5 (by omega), hib 6 (by omega), hib 7 (by omega), hib 8 (by omega), hib 9 (by omega), nI_cl (show t < 2 ^ 31 by omega), nI_cl (show t + 5 < 2 ^ 31 by omega), nI_cl (show t + 6 < 2 ^ 31 by omega), nI_cl (show t + 7 < 2 ^ 31 by omega), nI_cl (show t + 8 < 2 ^ 31 by omega), nI_cl (show t + 9 < 2 ^ 31 by omega), five_t, zero_t, Nat.add_eq_zero_iff, if_true, if_false, true_or, or_true, false_or, or_false, true_and, and_true, false_and, and_false, not_true_eq_false, not_false_eq_true, iff_self, ite_self, ne_eq, true_implies, implies_true, Bool.false_eq_true, decide_true, decide_false, Bool.or_true, Bool.or_false, Bool.true_or, Bool.false_or]
  refine iff_Q (aH_ext rfl rfl rfl rfl (fun b j => ?_))
  simp only [hI_sI, hI_cpI, setRow, hI_wI, lv]
  rcases hq with rfl | rfl | rfl <;> rcases hrq with rfl | rfl <;> grind (splits := 40)
theorem k_load (g : GS h) (hq : isLie q) (hr : hS h r = (2, n)) (hrq : r = 19 ∨ r = 21) (ht : t + 10 ≤ n) (hn : n ≤ 80) : X 37 0 [.ref q, .ref r, .int (nI t)] [] h Q ↔ Q none (setL h q (fun j => hI h r (t + j))) := by
  have hib : ∀ k, k < 10 → ib (nI (t + k)) (2, n) = True := fun k hk => eq_true (ib_nI (by omega) (by omega))
  have hcp : cpOk (2, n) (2, 5) (nI t) 0 5 = True := by
    simp only [cpOk, five_t, zero_t, nI_cl (show t < 2 ^ 31 by omega), z0, z5, nI_pos' (show t < 2 ^ 31 by omega), if_true, if_false, true_or, or_true, false_or, or_false, true_and, and_true, false_and, and_false, not_true_eq_false, not_false_eq_true, iff_self, ite_self, ne_eq, true_implies, implies_true, Bool.false_eq_true, decide_true, decide_false, Bool.or_true, Bool.or_false, Bool.true_or, Bool.false_or, show t + 5 ≤ n by omega, Nat.zero_add, Nat.le_refl]
  simp only [x37_0, x37_1, x37_4, x37_5, x37_6, x37_7, x37_9, x37_10, x37_13, x37_14, x37_15, x37_16, x37_17, x37_20, x37_21, x37_22, x37_25, x37_26, x37_27, x37_28, x37_29, x37_30, x37_31, x37_34, x37_35, x37_36, x37_37, x37_38, x37_39, x37_40, x37_41, x37_42, x37_45, x37_46, x37_47, x37_48, x37_49, x37_50, x37_51, x37_52, x37_53, x37_56, x37_57, x37_58, x37_59, x37_60, x37_61, x37_62, x37_63, x37_64, x37_67, x37_68, x37_69, x37_70, x37_71, x37_72, x37_73, x37_74, x37_75, x37_78, pv_some, pv_none, c1_int, c1_ref, c1_null, true_and, and_true, ne_eq, not_false_eq_true, not_true_eq_false, if_true, if_false, reduceCtorEq, Option.some.injEq, Value.int.injEq, absI_fold, minI_fold, maxI_fold, lie_s g hq, lie_r g hq, lie_s1 g hq, hr, hS_cpI, hR_cpI, hS_sI, hR_sI, nI_neg (show t < 2 ^ 31 by omega), ofNat_nI, nI_m10 (show 10 ≤ n by omega), nI_lt_iff (show n - 10 < 2 ^ 31 by omega) (show t < 2 ^ 31 by omega), show ¬ n - 10 < t by omega, hcp, nI_add1, nI_p2, nI_p3, nI_p4, nI_p5, Nat.add_assoc, Nat.reduceAdd, hib 5 (by omega), hib 6 (by omega), hib 7 (by omega), hib 8 (by omega), hib 9 (by omega), nI_cl (show t < 2 ^ 31 by omega), nI_cl (show t + 5 < 2 ^ 31 by omega), nI_cl (show t + 6 < 2 ^ 31 by omega), nI_cl (show t + 7 < 2 ^ 31 by omega), nI_cl (show t + 8 < 2 ^ 31 by omega), nI_cl (show t + 9 < 2 ^ 31 by omega), five_t, zero_t, Nat.add_eq_zero_iff, if_true, if_false, true_or, or_true, false_or, or_false, true_and, and_true, false_and, and_false, not_true_eq_false, not_false_eq_true, iff_self, ite_self, ne_eq, true_implies, implies_true, Bool.false_eq_true, decide_true, decide_false, Bool.or_true, Bool.or_false, Bool.true_or, Bool.false_or]
  refine iff_Q (aH_ext rfl rfl rfl rfl (fun b j => ?_))
  simp only [hI_sI, hI_cpI, setL, hI_wI]
  rcases hq with rfl | rfl | rfl <;> rcases hrq with rfl | rfl <;> grind (splits := 40)
theorem k_begin (I : InnAt h a G) : X 34 0 [.ref 22, .ref a, .null] [] h Q ↔ Q none (setL h 22 (fun j => if j < 5 then (if j < G then hI h (a + 5) j else 0) else if j = 5 then hI h a 7 else 0)) := by
  refine X_iff ?_ Q
  have hq : isLie 22 := by simp [isLie]
  obtain ⟨g, ha, hG, h5⟩ := id I
  simp only [x34_0, x34_1, x34_3, x34_4, x34_7, x34_8, x34_11, x34_12, x34_13, x34_14, x34_17, x34_18, x34_21, x34_24, x34_25, x34_26, x34_29, x34_32, x34_33, x34_34, x34_37, x34_38, x34_39, x34_42, x34_43, x34_44, x34_47, x34_48, x34_49, x34_52, pv_some, pv_none, c1_int, c1_ref, c1_null, true_and, and_true, ne_eq, not_false_eq_true, not_true_eq_false, if_true, if_false, reduceCtorEq, Option.some.injEq, Value.int.injEq, absI_fold, minI_fold, maxI_fold]
  refine X_heap (h1 := wI h (fun b j => if b = 23 ∧ j < 0 then (if j < G then hI h (a + 5) j else 0) else hI h b j)) (aH_ext rfl rfl rfl rfl (fun b j => by simp [hI_wI])) ?_
  refine loop_up (P := fun k => X 34 2 [.ref 22, .ref a, .int (nI k)] [] (wI h (fun b j => if b = 23 ∧ j < k then (if j < G then hI h (a + 5) j else 0) else hI h b j)) _) (n := 5) (fun k hk hp => ?_) ?_
  · have I' : InnAt (wI h (fun b j => if b = 23 ∧ j < k then (if j < G then hI h (a + 5) j else 0) else hI h b j)) a G := by
      refine ⟨g, ha, ?_, h5⟩
      rw [hI_wI]
      have : a ≠ 23 := by rcases ha with rfl | rfl | rfl <;> decide
      simp only [this, if_true, if_false, true_or, or_true, false_or, or_false, true_and, and_true, false_and, and_false, not_true_eq_false, not_false_eq_true, iff_self, ite_self, ne_eq, true_implies, implies_true, Bool.false_eq_true, decide_true, decide_false, Bool.or_true, Bool.or_false, Bool.true_or, Bool.false_or]
      exact hG
    rw [x34_2]
    simp only [x34_0, x34_1, x34_3, x34_4, x34_7, x34_8, x34_11, x34_12, x34_13, x34_14, x34_17, x34_18, x34_21, x34_24, x34_25, x34_26, x34_29, x34_32, x34_33, x34_34, x34_37, x34_38, x34_39, x34_42, x34_43, x34_44, x34_47, x34_48, x34_49, x34_52, pv_some, pv_none, c1_int, c1_ref, c1_null, true_and, and_true, ne_eq, not_false_eq_true, not_true_eq_false, if_true, if_false, reduceCtorEq, Option.some.injEq, Value.int.injEq, absI_fold, minI_fold, maxI_fold, hS_wI, hR_wI, lie_s g hq, lie_r g hq, lie_s1 g hq, I.s, show (nI k < 5) = True from eq_true (nI_lt hk (by decide)), k_firstPlaceOf I' hk, Nat.add_eq_zero_iff, if_true, if_false, true_or, or_true, false_or, or_false, true_and, and_true, false_and, and_false, not_true_eq_false, not_false_eq_true, iff_self, ite_self, ne_eq, true_implies, implies_true, Bool.false_eq_true, decide_true, decide_false, Bool.or_true, Bool.or_false, Bool.true_or, Bool.false_or, Nat.reduceAdd, show ibw (nI k) (hS h 23) = True from eq_true (by rw [show hS h 23 = (2, 5) from lie_s1 g hq]; exact ibw_nI hk (by decide)), cl5 hk, nI_add1]
    have e : sI (wI h (fun b j => if b = 23 ∧ j < k then (if j < G then hI h (a + 5) j else 0) else hI h b j)) 23 k (if k < G then hI (wI h (fun b j => if b = 23 ∧ j < k then (if j < G then hI h (a + 5) j else 0) else hI h b j)) (a + 5) k else 0) = wI h (fun b j => if b = 23 ∧ j < k + 1 then (if j < G then hI h (a + 5) j else 0) else hI h b j) := by
      refine aH_ext rfl rfl rfl rfl (fun b j => ?_)
      have : a + 5 ≠ 23 := by rcases ha with rfl | rfl | rfl <;> decide
      simp only [hI_sI, hI_wI]
      grind
    rw [e]
    exact ⟨ibw_nI hk (by decide), hp⟩
  · rw [x34_2]
    have I' : GS (wI h (fun b j => if b = 23 ∧ j < 5 then (if j < G then hI h (a + 5) j else 0) else hI h b j)) := g
    simp only [x34_0, x34_1, x34_3, x34_4, x34_7, x34_8, x34_11, x34_12, x34_13, x34_14, x34_17, x34_18, x34_21, x34_24, x34_25, x34_26, x34_29, x34_32, x34_33, x34_34, x34_37, x34_38, x34_39, x34_42, x34_43, x34_44, x34_47, x34_48, x34_49, x34_52, pv_some, pv_none, c1_int, c1_ref, c1_null, true_and, and_true, ne_eq, not_false_eq_true, not_true_eq_false, if_true, if_false, reduceCtorEq, Option.some.injEq, Value.int.injEq, absI_fold, minI_fold, maxI_fold, hS_wI, hR_wI, hS_sI, lie_s g hq, I.s, show (nI 5 < 5) = False by decide, k_walls I' ha]
    refine aH_ext rfl rfl rfl rfl (fun b j => ?_)
    have : a ≠ 23 := by rcases ha with rfl | rfl | rfl <;> decide
    simp only [hI_sI, hI_wI, setL]
    grind (splits := 40)
end LIE
