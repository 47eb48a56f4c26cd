/-! THE REFERENCE: what is heard -/
/-- the inn that is told to the reference -/
def MA (h : aH) (D : Nat → Int32) : Prop := GM h ∧ DW D ∧ (∀ j, j < 5 → hI h 46 j = D j) ∧ ∀ i, i < gN D → ∀ r, r < 5 → hI h 46 (6 + 5 * r + i) = D (6 + 5 * r + i)
section MOD6
variable {h : aH} {D : Nat → Int32} {i j k : Nat} {Q : Option Value → aH → Prop} {x y b : Int32}
theorem MA.g0 (A : MA h D) : hI h 46 0 = nI (gN D) := (A.2.2.1 0 (by omega)).trans A.2.1.1.1
theorem MA.g5 (A : MA h D) : gN D ≤ 5 := A.2.1.1.2
theorem MA.at (A : MA h D) (hi : i < gN D) (r : Nat) (hr : r < 5) : hI h 46 (6 + 5 * r + i) = D (6 + 5 * r + i) := A.2.2.2 i hi r hr
theorem MA.w (A : MA h D) (f : Nat → Nat → Int32) (hf : ∀ j, f 46 j = hI h 46 j) : MA (wI h f) D := ⟨A.1, A.2.1, fun j hj => (hf j).trans (A.2.2.1 j hj), fun i hi r hr => (hf _).trans (A.2.2.2 i hi r hr)⟩
theorem MA.sI (A : MA h D) {a k : Nat} {v : Int32} (ha : a ≠ 46) : MA (sI h a k v) D := ⟨A.1, A.2.1, fun j hj => by rw [hI_sI, if_neg (by omega)]; exact A.2.2.1 j hj, fun i hi r hr => by rw [hI_sI, if_neg (by omega)]; exact A.2.2.2 i hi r hr⟩
theorem mlt_G (A : MA h D) (hk : k < gN D) : (nI k < hI h 46 0) = True := by
  have := A.g5
  rw [A.g0]
  exact eq_true (nI_lt hk (by omega))
theorem mnlt_G (A : MA h D) : (nI (gN D) < hI h 46 0) = False := by
  have := A.g5
  rw [A.g0]
  exact eq_false (nI_nlt (Nat.le_refl _) (by omega))
theorem i5 {k : Nat} (hk : k < 5) : ib (nI k) (2, 5) = True := ibn hk (by decide)
theorem iw5' {k : Nat} (hk : k < 5) : ibw (nI k) (2, 5) = True := ibwn hk (by decide)
theorem i10 {k : Nat} (hk : k < 10) : ib (nI k) (2, 10) = True := ibn hk (by decide)
theorem iw10 {k : Nat} (hk : k < 10) : ibw (nI k) (2, 10) = True := ibwn hk (by decide)
theorem ncl {k : Nat} (hk : k < 5) : (nI k).toNatClampNeg = k := nI_cl (show k < 2 ^ 31 by omega)
theorem i31a {c k : Nat} (hc : c ≤ 26) (hk : k < 5) : ib (nI (c + k)) (2, 31) = True := i31 (by omega)
theorem ncla {c k : Nat} (hc : c ≤ 26) (hk : k < 5) : (nI (c + k)).toNatClampNeg = c + k := nI_cl (by omega)
theorem p6 (k : Nat) : (6 : Int32) + nI k = nI (6 + k) := nI_addn 6 k
theorem p11 (k : Nat) : (11 : Int32) + nI k = nI (11 + k) := nI_addn 11 k
theorem p16 (k : Nat) : (16 : Int32) + nI k = nI (16 + k) := nI_addn 16 k
theorem p21 (k : Nat) : (21 : Int32) + nI k = nI (21 + k) := nI_addn 21 k
theorem p26 (k : Nat) : (26 : Int32) + nI k = nI (26 + k) := nI_addn 26 k
theorem MA.kind (A : MA h D) (hi : i < gN D) : hI h 46 (6 + i) = D (6 + i) := A.at hi 0 (by omega)
theorem MA.loud (A : MA h D) (hi : i < gN D) : hI h 46 (11 + i) = D (11 + i) := A.at hi 1 (by omega)
theorem MA.tune (A : MA h D) (hi : i < gN D) : hI h 46 (16 + i) = D (16 + i) := A.at hi 2 (by omega)
theorem MA.light (A : MA h D) (hi : i < gN D) : hI h 46 (21 + i) = D (21 + i) := A.at hi 3 (by omega)
theorem MA.first (A : MA h D) (hi : i < gN D) : hI h 46 (26 + i) = D (26 + i) := A.at hi 4 (by omega)
/-- the scratch that asItIs fills -/
def asH (h : aH) : aH := wI h (fun b j => if b = 52 ∧ j < 5 then hI h 48 j else if b = 53 ∧ j < 5 then hI h 46 (6 + j) else if b = 44 ∧ j = 14 then hI h 48 5 else if b = 44 ∧ j = 15 then hI h 48 6 else if b = 44 ∧ j = 16 then 31 else hI h b j)
def asK (h : aH) (k : Nat) : aH := wI h (fun b j => if b = 52 ∧ j < k then hI h 48 j else if b = 53 ∧ j < k then hI h 46 (6 + j) else hI h b j)
theorem ct5 : (5 : Int32).toNatClampNeg = 5 := by decide
theorem ct6 : (6 : Int32).toNatClampNeg = 6 := by decide
theorem m_asItIs (g : GM h) : X 138 0 [.ref 44, .null] [] h Q ↔ Q none (asH h) := by
  refine X_iff ?_ Q
  simp only [x138_0, x138_1, x138_3, x138_4, x138_7, x138_8, x138_11, x138_12, x138_13, x138_16, x138_17, x138_18, x138_19, x138_20, x138_23, x138_24, x138_25, x138_28, x138_30, x138_31, x138_32, x138_33, x138_34, x138_37, x138_40, x138_41, x138_42, x138_45, x138_46, x138_47, x138_50, x138_51, x138_52, x138_55, x138_57, x138_58, x138_61, x138_62, x138_64, x138_67, pv_some, pv_none, c1_int, c1_ref, c1_null, true_and, and_true, ne_eq, not_false_eq_true, not_true_eq_false, if_true, if_false, reduceCtorEq, Option.some.injEq, Value.int.injEq, absI_fold, minI_fold, maxI_fold]
  refine X_heap (h1 := asK h 0) (aH_ext rfl rfl rfl rfl (fun b j => by unfold asK; rw [hI_wI, if_neg (by omega), if_neg (by omega)])) ?_
  refine loop_up (P := fun k => X 138 2 [.ref 44, .int (nI k)] [] (asK h k) _) (n := 5) (fun k hk hp => ?_) ?_
  · have gk : GM (asK h k) := g
    rw [x138_2]
    have q1 : hI (asK h k) 48 k = hI h 48 k := by unfold asK; rw [hI_wI, if_neg (by omega), if_neg (by omega)]
    have q2 : hI (asK h k) 46 (6 + k) = hI h 46 (6 + k) := by unfold asK; rw [hI_wI, if_neg (by omega), if_neg (by omega)]
    simp only [x138_0, x138_1, x138_3, x138_4, x138_7, x138_8, x138_11, x138_12, x138_13, x138_16, x138_17, x138_18, x138_19, x138_20, x138_23, x138_24, x138_25, x138_28, x138_30, x138_31, x138_32, x138_33, x138_34, x138_37, x138_40, x138_41, x138_42, x138_45, x138_46, x138_47, x138_50, x138_51, x138_52, x138_55, x138_57, x138_58, x138_61, x138_62, x138_64, x138_67, pv_some, pv_none, c1_int, c1_ref, c1_null, true_and, and_true, ne_eq, not_false_eq_true, not_true_eq_false, if_true, if_false, reduceCtorEq, Option.some.injEq, Value.int.injEq, absI_fold, minI_fold, maxI_fold, m_s gk, m_r12 gk, m_r4 gk, m_r13 gk, m_r2 gk, m_s52 gk, m_s48 gk, m_s53 gk, m_s46 gk, m_nz, hS_sI, hR_sI, show (nI k < 5) = True from eq_true (nI_lt hk (by decide)), iw5' hk, i10 (show k < 10 by omega), ncl hk, p6, i31a (show 6 ≤ 26 by decide) hk, ncla (show 6 ≤ 26 by decide) hk, nI_add1, hI_sI, q1, q2, show ((46 : Nat) = 52) = False by decide, if_true, if_false, true_or, or_true, false_or, or_false, true_and, and_true, false_and, and_false, not_true_eq_false, not_false_eq_true, iff_self, ite_self, ne_eq, true_implies, implies_true, Bool.false_eq_true, decide_true, decide_false, Bool.or_true, Bool.or_false, Bool.true_or, Bool.false_or]
    refine X_heap ?_ hp
    refine (aH_ext (by simp only [hN_sI, hN_cpI, hN_wI, asK]) (by simp only [hZ_sI, hZ_cpI, hZ_wI, asK]) (by simp only [hS_sI, hS_cpI, hS_wI, asK]) (by simp only [hR_sI, hR_cpI, hR_wI, asK]) (fun b j => ?_))
    unfold asK
    simp only [hI_sI, hI_wI]
    grind
  · have gk : GM (asK h 5) := g
    have q1 : hI (asK h 5) 48 5 = hI h 48 5 := by unfold asK; rw [hI_wI, if_neg (by omega), if_neg (by omega)]
    have q2 : hI (asK h 5) 48 6 = hI h 48 6 := by unfold asK; rw [hI_wI, if_neg (by omega), if_neg (by omega)]
    rw [x138_2]
    simp only [x138_0, x138_1, x138_3, x138_4, x138_7, x138_8, x138_11, x138_12, x138_13, x138_16, x138_17, x138_18, x138_19, x138_20, x138_23, x138_24, x138_25, x138_28, x138_30, x138_31, x138_32, x138_33, x138_34, x138_37, x138_40, x138_41, x138_42, x138_45, x138_46, x138_47, x138_50, x138_51, x138_52, x138_55, x138_57, x138_58, x138_61, x138_62, x138_64, x138_67, pv_some, pv_none, c1_int, c1_ref, c1_null, true_and, and_true, ne_eq, not_false_eq_true, not_true_eq_false, if_true, if_false, reduceCtorEq, Option.some.injEq, Value.int.injEq, absI_fold, minI_fold, maxI_fold, m_s gk, m_r4 gk, m_s48 gk, m_nz, hS_sI, hR_sI, show (nI 5 < 5) = False by decide, show ib 5 (2, 10) = True from i10 (k := 5) (by decide), show ib 6 (2, 10) = True from i10 (k := 6) (by decide), ct5, ct6, hI_sI, q1, q2, show ((48 : Nat) = 44) = False by decide, if_true, if_false, true_or, or_true, false_or, or_false, true_and, and_true, false_and, and_false, not_true_eq_false, not_false_eq_true, iff_self, ite_self, ne_eq, true_implies, implies_true, Bool.false_eq_true, decide_true, decide_false, Bool.or_true, Bool.or_false, Bool.true_or, Bool.false_or]
    refine (aH_ext (by simp only [hN_sI, hN_cpI, hN_wI, asK, asH]) (by simp only [hZ_sI, hZ_cpI, hZ_wI, asK, asH]) (by simp only [hS_sI, hS_cpI, hS_wI, asK, asH]) (by simp only [hR_sI, hR_cpI, hR_wI, asK, asH]) (fun b j => ?_))
    unfold asK asH
    simp only [hI_sI, hI_wI]
    grind
theorem min40 (x : Int32) : (if 40 < x then 40 else x) = minI 40 x := by
  unfold minI
  by_cases h1 : 40 < x <;> by_cases h2 : x < 40
  · exact (Int32.lt_irrefl (Int32.lt_trans h1 h2)).elim
  · rw [if_pos h1, if_neg h2]
  · rw [if_neg h1, if_pos h2]
  · rw [if_neg h1, if_neg h2]
    exact Int32.le_antisymm (Int32.not_lt.mp h1) (Int32.not_lt.mp h2)
theorem lt3 (x : Int32) : (x < 3) = ¬ 2 < x := by
  rw [Int32.lt_iff_toInt_lt, Int32.lt_iff_toInt_lt, show (3 : Int32).toInt = 3 from rfl, show (2 : Int32).toInt = 2 from rfl]
  exact propext (by omega)
theorem m_loud (A : MA h D) (hi : i < gN D) : X 139 0 [.ref 44, .int (nI i), .null] [] h Q ↔ Q (some (.int (loudF (hI h 53 i) (D (11 + i)) (hI h 44 15)))) h := by
  have g := A.1
  have h5 : i < 5 := Nat.lt_of_lt_of_le hi A.g5
  have two : ((2 : Int32) = 0) = False := by decide
  unfold loudF
  by_cases k1 : hI h 53 i = 1
  · simp only [x139_0, x139_1, x139_4, x139_6, x139_7, x139_8, x139_9, x139_10, x139_11, x139_14, x139_15, x139_16, x139_44, x139_45, x139_46, x139_48, x139_49, x139_52, x139_53, x139_54, x139_55, x139_56, x139_57, x139_59, x139_62, x139_64, x139_67, x139_68, x139_69, x139_70, x139_73, x139_74, x139_75, x139_78, x139_79, x139_82, x139_83, x139_84, x139_85, x139_88, x139_89, x139_92, x139_93, x139_95, x139_96, x139_99, x139_100, x139_101, x139_102, pv_some, pv_none, c1_int, c1_ref, c1_null, true_and, and_true, ne_eq, not_false_eq_true, not_true_eq_false, if_true, if_false, reduceCtorEq, Option.some.injEq, Value.int.injEq, absI_fold, minI_fold, maxI_fold, m_s g, m_r0 g, m_r2 g, m_r3 g, m_r4 g, m_r5 g, m_r7 g, m_r9 g, m_r12 g, m_r13 g, m_r17 g, m_r18 g, m_s45 g, m_s46 g, m_s47 g, m_s48 g, m_s49 g, m_s50 g, m_s51 g, m_s52 g, m_s53 g, m_s54 g, m_s55 g, m_nz, hS_sI, hR_sI, hS_wI, hR_wI, p11, i31a (show 11 ≤ 26 by decide) h5, ncla (show 11 ≤ 26 by decide) h5, A.loud hi, i5 h5, ncl h5, k1, min40, if_true, if_false, true_or, or_true, false_or, or_false, true_and, and_true, false_and, and_false, not_true_eq_false, not_false_eq_true, iff_self, ite_self, ne_eq, true_implies, implies_true, Bool.false_eq_true, decide_true, decide_false, Bool.or_true, Bool.or_false, Bool.true_or, Bool.false_or]
    by_cases z : 40 < D (11 + i) + 2 * (7 - hI h 44 15) <;> simp only [z, if_true, if_false, true_or, or_true, false_or, or_false, true_and, and_true, false_and, and_false, not_true_eq_false, not_false_eq_true, iff_self, ite_self, ne_eq, true_implies, implies_true, Bool.false_eq_true, decide_true, decide_false, Bool.or_true, Bool.or_false, Bool.true_or, Bool.false_or, ← min40]
  · by_cases k2 : hI h 53 i = 2
    · simp only [x139_0, x139_1, x139_4, x139_6, x139_7, x139_8, x139_9, x139_10, x139_11, x139_14, x139_15, x139_16, x139_44, x139_45, x139_46, x139_48, x139_49, x139_52, x139_53, x139_54, x139_55, x139_56, x139_57, x139_59, x139_62, x139_64, x139_67, x139_68, x139_69, x139_70, x139_73, x139_74, x139_75, x139_78, x139_79, x139_82, x139_83, x139_84, x139_85, x139_88, x139_89, x139_92, x139_93, x139_95, x139_96, x139_99, x139_100, x139_101, x139_102, pv_some, pv_none, c1_int, c1_ref, c1_null, true_and, and_true, ne_eq, not_false_eq_true, not_true_eq_false, if_true, if_false, reduceCtorEq, Option.some.injEq, Value.int.injEq, absI_fold, minI_fold, maxI_fold, m_s g, m_r0 g, m_r2 g, m_r3 g, m_r4 g, m_r5 g, m_r7 g, m_r9 g, m_r12 g, m_r13 g, m_r17 g, m_r18 g, m_s45 g, m_s46 g, m_s47 g, m_s48 g, m_s49 g, m_s50 g, m_s51 g, m_s52 g, m_s53 g, m_s54 g, m_s55 g, m_nz, hS_sI, hR_sI, hS_wI, hR_wI, p11, i31a (show 11 ≤ 26 by decide) h5, ncla (show 11 ≤ 26 by decide) h5, A.loud hi, i5 h5, ncl h5, k1, k2, two, if_true, if_false, true_or, or_true, false_or, or_false, true_and, and_true, false_and, and_false, not_true_eq_false, not_false_eq_true, iff_self, ite_self, ne_eq, true_implies, implies_true, Bool.false_eq_true, decide_true, decide_false, Bool.or_true, Bool.or_false, Bool.true_or, Bool.false_or, show ((2 : Int32) = 1) = False by decide]
      by_cases z : hI h 44 15 - hI h 44 15 / 2 * 2 = 0 <;> simp only [z, if_true, if_false, true_or, or_true, false_or, or_false, true_and, and_true, false_and, and_false, not_true_eq_false, not_false_eq_true, iff_self, ite_self, ne_eq, true_implies, implies_true, Bool.false_eq_true, decide_true, decide_false, Bool.or_true, Bool.or_false, Bool.true_or, Bool.false_or]
    · by_cases k3 : hI h 53 i = 3
      · simp only [x139_0, x139_1, x139_4, x139_6, x139_7, x139_8, x139_9, x139_10, x139_11, x139_14, x139_15, x139_16, x139_44, x139_45, x139_46, x139_48, x139_49, x139_52, x139_53, x139_54, x139_55, x139_56, x139_57, x139_59, x139_62, x139_64, x139_67, x139_68, x139_69, x139_70, x139_73, x139_74, x139_75, x139_78, x139_79, x139_82, x139_83, x139_84, x139_85, x139_88, x139_89, x139_92, x139_93, x139_95, x139_96, x139_99, x139_100, x139_101, x139_102, pv_some, pv_none, c1_int, c1_ref, c1_null, true_and, and_true, ne_eq, not_false_eq_true, not_true_eq_false, if_true, if_false, reduceCtorEq, Option.some.injEq, Value.int.injEq, absI_fold, minI_fold, maxI_fold, m_s g, m_r0 g, m_r2 g, m_r3 g, m_r4 g, m_r5 g, m_r7 g, m_r9 g, m_r12 g, m_r13 g, m_r17 g, m_r18 g, m_s45 g, m_s46 g, m_s47 g, m_s48 g, m_s49 g, m_s50 g, m_s51 g, m_s52 g, m_s53 g, m_s54 g, m_s55 g, m_nz, hS_sI, hR_sI, hS_wI, hR_wI, p11, i31a (show 11 ≤ 26 by decide) h5, ncla (show 11 ≤ 26 by decide) h5, A.loud hi, i5 h5, ncl h5, k1, k2, k3, lt3, if_true, if_false, true_or, or_true, false_or, or_false, true_and, and_true, false_and, and_false, not_true_eq_false, not_false_eq_true, iff_self, ite_self, ne_eq, true_implies, implies_true, Bool.false_eq_true, decide_true, decide_false, Bool.or_true, Bool.or_false, Bool.true_or, Bool.false_or, show ((3 : Int32) = 1) = False by decide, show ((3 : Int32) = 2) = False by decide]
        by_cases z : 2 < hI h 44 15 <;> simp only [z, if_true, if_false, true_or, or_true, false_or, or_false, true_and, and_true, false_and, and_false, not_true_eq_false, not_false_eq_true, iff_self, ite_self, ne_eq, true_implies, implies_true, Bool.false_eq_true, decide_true, decide_false, Bool.or_true, Bool.or_false, Bool.true_or, Bool.false_or]
      · simp only [x139_0, x139_1, x139_4, x139_6, x139_7, x139_8, x139_9, x139_10, x139_11, x139_14, x139_15, x139_16, x139_44, x139_45, x139_46, x139_48, x139_49, x139_52, x139_53, x139_54, x139_55, x139_56, x139_57, x139_59, x139_62, x139_64, x139_67, x139_68, x139_69, x139_70, x139_73, x139_74, x139_75, x139_78, x139_79, x139_82, x139_83, x139_84, x139_85, x139_88, x139_89, x139_92, x139_93, x139_95, x139_96, x139_99, x139_100, x139_101, x139_102, pv_some, pv_none, c1_int, c1_ref, c1_null, true_and, and_true, ne_eq, not_false_eq_true, not_true_eq_false, if_true, if_false, reduceCtorEq, Option.some.injEq, Value.int.injEq, absI_fold, minI_fold, maxI_fold, m_s g, m_r0 g, m_r2 g, m_r3 g, m_r4 g, m_r5 g, m_r7 g, m_r9 g, m_r12 g, m_r13 g, m_r17 g, m_r18 g, m_s45 g, m_s46 g, m_s47 g, m_s48 g, m_s49 g, m_s50 g, m_s51 g, m_s52 g, m_s53 g, m_s54 g, m_s55 g, m_nz, hS_sI, hR_sI, hS_wI, hR_wI, p11, i31a (show 11 ≤ 26 by decide) h5, ncla (show 11 ≤ 26 by decide) h5, A.loud hi, i5 h5, ncl h5, k1, k2, k3, if_true, if_false, true_or, or_true, false_or, or_false, true_and, and_true, false_and, and_false, not_true_eq_false, not_false_eq_true, iff_self, ite_self, ne_eq, true_implies, implies_true, Bool.false_eq_true, decide_true, decide_false, Bool.or_true, Bool.or_false, Bool.true_or, Bool.false_or]
theorem hum_m : ∀ a, a < 13 → ∀ b, b < 13 → ∀ r, r < 13 → (humF (nI b) (nI a) (nI r) = true ↔ (nI a - nI b = nI r ∨ nI b - nI a = nI r ∨ nI a + nI b = nI r)) := by decide +kernel
theorem m_isTuned (A : MA h D) (hi : i < gN D) (hj : j < gN D) : X 140 0 [.ref 44, .int (nI i), .int (nI j), .null, .null] [] h Q ↔ Q (some (.int (bi (humF (D (16 + j)) (D (16 + i)) (D 3) = true)))) h := by
  have g := A.1
  have hi5 : i < 5 := Nat.lt_of_lt_of_le hi A.g5
  have hj5 : j < 5 := Nat.lt_of_lt_of_le hj A.g5
  obtain ⟨-, -, -, ⟨r, r12, er⟩, -, -, -, w12, -⟩ := A.2.1
  obtain ⟨-, -, ⟨a, a12, ea⟩, -⟩ := w12 i hi
  obtain ⟨-, -, ⟨b, b12, eb⟩, -⟩ := w12 j hj
  have e3 : hI h 46 3 = D 3 := A.2.2.1 3 (by omega)
  have hm := hum_m a (by omega) b (by omega) r (by omega)
  simp only [x140_0, x140_1, x140_4, x140_6, x140_7, x140_8, x140_9, x140_10, x140_11, x140_14, x140_16, x140_17, x140_18, x140_19, x140_21, x140_22, x140_24, x140_25, x140_26, x140_29, x140_30, x140_31, x140_34, x140_36, x140_37, x140_38, x140_39, x140_42, x140_43, x140_44, x140_47, x140_48, x140_50, x140_51, x140_52, x140_55, x140_56, x140_57, x140_60, x140_61, x140_64, x140_65, pv_some, pv_none, c1_int, c1_ref, c1_null, true_and, and_true, ne_eq, not_false_eq_true, not_true_eq_false, if_true, if_false, reduceCtorEq, Option.some.injEq, Value.int.injEq, absI_fold, minI_fold, maxI_fold, m_s g, m_r0 g, m_r2 g, m_r3 g, m_r4 g, m_r5 g, m_r7 g, m_r9 g, m_r12 g, m_r13 g, m_r17 g, m_r18 g, m_s45 g, m_s46 g, m_s47 g, m_s48 g, m_s49 g, m_s50 g, m_s51 g, m_s52 g, m_s53 g, m_s54 g, m_s55 g, m_nz, hS_sI, hR_sI, hS_wI, hR_wI, p16, i31a (show 16 ≤ 26 by decide) hi5, ncla (show 16 ≤ 26 by decide) hi5, i31a (show 16 ≤ 26 by decide) hj5, ncla (show 16 ≤ 26 by decide) hj5, A.tune hi, A.tune hj, show ib 3 (2, 31) = True from i31 (k := 3) (by decide), ct3, e3, if_true, if_false, true_or, or_true, false_or, or_false, true_and, and_true, false_and, and_false, not_true_eq_false, not_false_eq_true, iff_self, ite_self, ne_eq, true_implies, implies_true, Bool.false_eq_true, decide_true, decide_false, Bool.or_true, Bool.or_false, Bool.true_or, Bool.false_or]
  rw [er, ea, eb]
  unfold bi
  by_cases z1 : nI a - nI b = nI r
  · rw [if_pos (hm.mpr (Or.inl z1))]; simp only [z1, if_true, if_false, true_or, or_true, false_or, or_false, true_and, and_true, false_and, and_false, not_true_eq_false, not_false_eq_true, iff_self, ite_self, ne_eq, true_implies, implies_true, Bool.false_eq_true, decide_true, decide_false, Bool.or_true, Bool.or_false, Bool.true_or, Bool.false_or]
  · by_cases z2 : nI b - nI a = nI r
    · rw [if_pos (hm.mpr (Or.inr (Or.inl z2)))]; simp only [z1, z2, if_true, if_false, true_or, or_true, false_or, or_false, true_and, and_true, false_and, and_false, not_true_eq_false, not_false_eq_true, iff_self, ite_self, ne_eq, true_implies, implies_true, Bool.false_eq_true, decide_true, decide_false, Bool.or_true, Bool.or_false, Bool.true_or, Bool.false_or]
    · by_cases z3 : nI a + nI b = nI r
      · rw [if_pos (hm.mpr (Or.inr (Or.inr z3)))]; simp only [z1, z2, z3, if_true, if_false, true_or, or_true, false_or, or_false, true_and, and_true, false_and, and_false, not_true_eq_false, not_false_eq_true, iff_self, ite_self, ne_eq, true_implies, implies_true, Bool.false_eq_true, decide_true, decide_false, Bool.or_true, Bool.or_false, Bool.true_or, Bool.false_or]
      · have hno : ¬ humF (nI b) (nI a) (nI r) = true := fun q => by rcases hm.mp q with q | q | q <;> contradiction
        rw [if_neg hno]; simp only [z1, z2, z3, if_true, if_false, true_or, or_true, false_or, or_false, true_and, and_true, false_and, and_false, not_true_eq_false, not_false_eq_true, iff_self, ite_self, ne_eq, true_implies, implies_true, Bool.false_eq_true, decide_true, decide_false, Bool.or_true, Bool.or_false, Bool.true_or, Bool.false_or]
theorem sub_m1 (x y : Int32) : (x - y = -1) = (y - x = 1) := by
  apply propext
  rw [← Int32.neg_sub (a := x) (b := y)]
  constructor
  · intro e; rw [e]; decide
  · intro e; rw [← Int32.neg_neg (a := x - y), e]
theorem m_isBeside (g : GM h) (hi5 : i < 5) (hj5 : j < 5) : X 141 0 [.ref 44, .int (nI i), .int (nI j)] [] h Q ↔ Q (some (.int (bi (nextF (hI h 52 i) (hI h 52 j) = true)))) h := by
  simp only [x141_0, x141_1, x141_4, x141_5, x141_6, x141_7, x141_10, x141_11, x141_12, x141_13, x141_14, x141_17, x141_18, x141_21, x141_22, x141_23, x141_24, x141_27, x141_28, x141_29, x141_30, x141_31, x141_34, x141_35, x141_38, x141_39, pv_some, pv_none, c1_int, c1_ref, c1_null, true_and, and_true, ne_eq, not_false_eq_true, not_true_eq_false, if_true, if_false, reduceCtorEq, Option.some.injEq, Value.int.injEq, absI_fold, minI_fold, maxI_fold, m_s g, m_r0 g, m_r2 g, m_r3 g, m_r4 g, m_r5 g, m_r7 g, m_r9 g, m_r12 g, m_r13 g, m_r17 g, m_r18 g, m_s45 g, m_s46 g, m_s47 g, m_s48 g, m_s49 g, m_s50 g, m_s51 g, m_s52 g, m_s53 g, m_s54 g, m_s55 g, m_nz, hS_sI, hR_sI, hS_wI, hR_wI, i5 hi5, i5 hj5, ncl hi5, ncl hj5, if_true, if_false, true_or, or_true, false_or, or_false, true_and, and_true, false_and, and_false, not_true_eq_false, not_false_eq_true, iff_self, ite_self, ne_eq, true_implies, implies_true, Bool.false_eq_true, decide_true, decide_false, Bool.or_true, Bool.or_false, Bool.true_or, Bool.false_or]
  unfold nextF bi
  simp only [sub_m1 (hI h 52 i) (hI h 52 j)]
  by_cases z1 : hI h 52 i - hI h 52 j = 1 <;> by_cases z2 : hI h 52 j - hI h 52 i = 1 <;> simp only [z1, z2, if_true, if_false, true_or, or_true, false_or, or_false, true_and, and_true, false_and, and_false, not_true_eq_false, not_false_eq_true, iff_self, ite_self, ne_eq, true_implies, implies_true, Bool.false_eq_true, decide_true, decide_false, Bool.or_true, Bool.or_false, Bool.true_or, Bool.false_or]
def bitB (s : Int32) (j : Nat) : Bool := decide (s >>> (nI j &&& 31) &&& 1 = 1)
/-- what is heard if some snore -/
def hearS (K S T P : Nat → Int32) (rn w hr sn : Int32) (G i : Nat) : Int32 := foldN (fun j s => if nextF (P i) (P j) = true ∧ bitB sn j = true then s + sndF K S T P rn w hr j i else s) 0 G
abbrev DA (D : Nat → Int32) (c : Nat) : Nat → Int32 := fun i => D (c + i)
abbrev hearM (h : aH) (D : Nat → Int32) (G i : Nat) : Int32 := hearS (hI h 53) (DA D 11) (DA D 16) (hI h 52) (D 3) (hI h 44 14) (hI h 44 15) (hI h 44 16) G i
theorem m_hearsOf (A : MA h D) (hi : i < gN D) : X 142 0 [.ref 44, .int (nI i), .null, .null, .null] [] h Q ↔ Q (some (.int (hearM h D (gN D) i))) h := by
  have g := A.1
  have hi5 : i < 5 := Nat.lt_of_lt_of_le hi A.g5
  refine X_iff ?_ Q
  simp only [x142_0, x142_1, x142_2, x142_3, x142_5, x142_6, x142_9, x142_10, x142_11, x142_14, x142_15, x142_16, x142_17, x142_20, x142_23, x142_24, x142_27, x142_28, x142_29, x142_30, x142_31, x142_32, x142_35, x142_36, x142_39, x142_40, x142_41, x142_42, x142_45, x142_46, x142_47, x142_50, x142_51, x142_54, x142_55, x142_56, x142_59, x142_60, x142_63, x142_64, x142_65, x142_67, x142_68, x142_69, x142_72, x142_74, x142_75, x142_76, x142_77, x142_78, x142_81, x142_82, x142_83, x142_86, x142_87, x142_88, x142_91, x142_92, x142_93, x142_96, x142_97, x142_98, x142_99, x142_102, x142_105, x142_106, x142_109, x142_110, x142_111, x142_112, x142_113, x142_116, x142_119, x142_120, pv_some, pv_none, c1_int, c1_ref, c1_null, true_and, and_true, ne_eq, not_false_eq_true, not_true_eq_false, if_true, if_false, reduceCtorEq, Option.some.injEq, Value.int.injEq, absI_fold, minI_fold, maxI_fold]
  refine loop_up (P := fun k => ∀ l4 : Value, X 142 4 [.ref 44, .int (nI i), .int (hearM h D k i), .int (nI k), l4] [] h _) (n := gN D) (fun k hk hp l4 => ?_) (fun l4 => ?_) _
  · have hk5 : k < 5 := Nat.lt_of_lt_of_le hk A.g5
    rw [x142_4]
    simp only [x142_0, x142_1, x142_2, x142_3, x142_5, x142_6, x142_9, x142_10, x142_11, x142_14, x142_15, x142_16, x142_17, x142_20, x142_23, x142_24, x142_27, x142_28, x142_29, x142_30, x142_31, x142_32, x142_35, x142_36, x142_39, x142_40, x142_41, x142_42, x142_45, x142_46, x142_47, x142_50, x142_51, x142_54, x142_55, x142_56, x142_59, x142_60, x142_63, x142_64, x142_65, x142_67, x142_68, x142_69, x142_72, x142_74, x142_75, x142_76, x142_77, x142_78, x142_81, x142_82, x142_83, x142_86, x142_87, x142_88, x142_91, x142_92, x142_93, x142_96, x142_97, x142_98, x142_99, x142_102, x142_105, x142_106, x142_109, x142_110, x142_111, x142_112, x142_113, x142_116, x142_119, x142_120, pv_some, pv_none, c1_int, c1_ref, c1_null, true_and, and_true, ne_eq, not_false_eq_true, not_true_eq_false, if_true, if_false, reduceCtorEq, Option.some.injEq, Value.int.injEq, absI_fold, minI_fold, maxI_fold, m_s g, m_r0 g, m_r2 g, m_r3 g, m_r4 g, m_r5 g, m_r7 g, m_r9 g, m_r12 g, m_r13 g, m_r17 g, m_r18 g, m_s45 g, m_s46 g, m_s47 g, m_s48 g, m_s49 g, m_s50 g, m_s51 g, m_s52 g, m_s53 g, m_s54 g, m_s55 g, m_nz, hS_sI, hR_sI, hS_wI, hR_wI, show ib 0 (2, 31) = True from i31 (k := 0) (by decide), c0, mlt_G A hk, m_isBeside g hi5 hk5, bi_zero, i5 hi5, i5 hk5, ncl hi5, ncl hk5, m_loud A hk, m_isTuned A hi hk, nI_add1, two_ne, if_true, if_false, true_or, or_true, false_or, or_false, true_and, and_true, false_and, and_false, not_true_eq_false, not_false_eq_true, iff_self, ite_self, ne_eq, true_implies, implies_true, Bool.false_eq_true, decide_true, decide_false, Bool.or_true, Bool.or_false, Bool.true_or, Bool.false_or]
    by_cases h1 : nextF (hI h 52 i) (hI h 52 k) = true
    · by_cases h2 : hI h 44 16 >>> (nI k &&& 31) &&& 1 = 1
      · have hb : bitB (hI h 44 16) k = true := decide_eq_true h2
        have es : hearM h D (k + 1) i = hearM h D k i + sndF (hI h 53) (DA D 11) (DA D 16) (hI h 52) (D 3) (hI h 44 14) (hI h 44 15) k i := by
          show (if nextF (hI h 52 i) (hI h 52 k) = true ∧ bitB (hI h 44 16) k = true then _ else _) = _
          rw [if_pos ⟨h1, hb⟩]
          rfl
        rw [es] at hp
        simp only [h1, h2, if_true, if_false, true_or, or_true, false_or, or_false, true_and, and_true, false_and, and_false, not_true_eq_false, not_false_eq_true, iff_self, ite_self, ne_eq, true_implies, implies_true, Bool.false_eq_true, decide_true, decide_false, Bool.or_true, Bool.or_false, Bool.true_or, Bool.false_or]
        generalize hearM h D k i = sm at hp ⊢
        unfold sndF minI stufF at hp
        by_cases h3 : hI h 52 i < hI h 52 k
        · have hp' := hp (.int (hI h 52 i))
          by_cases h4 : hI h 44 14 >>> (hI h 52 i &&& 31) &&& 1 = 1 <;> by_cases h5 : humF (D (16 + k)) (D (16 + i)) (D 3) = true <;> simp only [h3, h4, h5, if_true, if_false, true_or, or_true, false_or, or_false, true_and, and_true, false_and, and_false, not_true_eq_false, not_false_eq_true, iff_self, ite_self, ne_eq, true_implies, implies_true, Bool.false_eq_true, decide_true, decide_false, Bool.or_true, Bool.or_false, Bool.true_or, Bool.false_or, decide_true, decide_false] at hp' ⊢ <;> exact hp'
        · have hp' := hp (.int (hI h 52 k))
          by_cases h4 : hI h 44 14 >>> (hI h 52 k &&& 31) &&& 1 = 1 <;> by_cases h5 : humF (D (16 + k)) (D (16 + i)) (D 3) = true <;> simp only [h3, h4, h5, if_true, if_false, true_or, or_true, false_or, or_false, true_and, and_true, false_and, and_false, not_true_eq_false, not_false_eq_true, iff_self, ite_self, ne_eq, true_implies, implies_true, Bool.false_eq_true, decide_true, decide_false, Bool.or_true, Bool.or_false, Bool.true_or, Bool.false_or, decide_true, decide_false] at hp' ⊢ <;> exact hp'
      · have hb : bitB (hI h 44 16) k = false := decide_eq_false h2
        have hp' := hp l4
        simp only [hearM, hearS, foldN, h1, hb, if_true, if_false, true_or, or_true, false_or, or_false, true_and, and_true, false_and, and_false, not_true_eq_false, not_false_eq_true, iff_self, ite_self, ne_eq, true_implies, implies_true, Bool.false_eq_true, decide_true, decide_false, Bool.or_true, Bool.or_false, Bool.true_or, Bool.false_or] at hp'
        simp only [h1, h2, if_true, if_false, true_or, or_true, false_or, or_false, true_and, and_true, false_and, and_false, not_true_eq_false, not_false_eq_true, iff_self, ite_self, ne_eq, true_implies, implies_true, Bool.false_eq_true, decide_true, decide_false, Bool.or_true, Bool.or_false, Bool.true_or, Bool.false_or]
        exact hp'
    · have hp' := hp l4
      simp only [hearM, hearS, foldN, h1, if_true, if_false, true_or, or_true, false_or, or_false, true_and, and_true, false_and, and_false, not_true_eq_false, not_false_eq_true, iff_self, ite_self, ne_eq, true_implies, implies_true, Bool.false_eq_true, decide_true, decide_false, Bool.or_true, Bool.or_false, Bool.true_or, Bool.false_or] at hp'
      simp only [h1, if_true, if_false, true_or, or_true, false_or, or_false, true_and, and_true, false_and, and_false, not_true_eq_false, not_false_eq_true, iff_self, ite_self, ne_eq, true_implies, implies_true, Bool.false_eq_true, decide_true, decide_false, Bool.or_true, Bool.or_false, Bool.true_or, Bool.false_or]
      exact hp'
  · rw [x142_4]
    simp only [x142_0, x142_1, x142_2, x142_3, x142_5, x142_6, x142_9, x142_10, x142_11, x142_14, x142_15, x142_16, x142_17, x142_20, x142_23, x142_24, x142_27, x142_28, x142_29, x142_30, x142_31, x142_32, x142_35, x142_36, x142_39, x142_40, x142_41, x142_42, x142_45, x142_46, x142_47, x142_50, x142_51, x142_54, x142_55, x142_56, x142_59, x142_60, x142_63, x142_64, x142_65, x142_67, x142_68, x142_69, x142_72, x142_74, x142_75, x142_76, x142_77, x142_78, x142_81, x142_82, x142_83, x142_86, x142_87, x142_88, x142_91, x142_92, x142_93, x142_96, x142_97, x142_98, x142_99, x142_102, x142_105, x142_106, x142_109, x142_110, x142_111, x142_112, x142_113, x142_116, x142_119, x142_120, pv_some, pv_none, c1_int, c1_ref, c1_null, true_and, and_true, ne_eq, not_false_eq_true, not_true_eq_false, if_true, if_false, reduceCtorEq, Option.some.injEq, Value.int.injEq, absI_fold, minI_fold, maxI_fold, m_s g, m_r0 g, m_r2 g, m_r3 g, m_r4 g, m_r5 g, m_r7 g, m_r9 g, m_r12 g, m_r13 g, m_r17 g, m_r18 g, m_s45 g, m_s46 g, m_s47 g, m_s48 g, m_s49 g, m_s50 g, m_s51 g, m_s52 g, m_s53 g, m_s54 g, m_s55 g, m_nz, hS_sI, hR_sI, hS_wI, hR_wI, show ib 0 (2, 31) = True from i31 (k := 0) (by decide), c0, mnlt_G A]
end MOD6
