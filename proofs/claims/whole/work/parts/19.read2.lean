/-! THE CLASS READS A TEXT AS parseF SAYS -/
section READ2
variable {h : aH} {a n p m : Nat} {Q : Option Value → aH → Prop} {ch : Int32} {D t : Nat → Int32}
theorem ID.at (I : ID h a D) (g : GS h) (ha : isInn a) (w : DW D) : InnAt h a (gN D) := ⟨g, ha, I.1.1.trans w.1.1, w.1.2⟩
theorem fstN_congr {p q : Nat → Bool} : ∀ n, (∀ i, i < n → p i = q i) → fstN p n = fstN q n := by
  intro n
  induction n with
  | zero => intro _; rfl
  | succ n ih =>
    intro e
    rw [fstN, fstN, ih (fun i hi => e i (by omega)), e n (by omega)]
theorem taken_congr {P P' : Nat → Int32} {x : Int32} {G : Nat} (e : ∀ i, i < G → P i = P' i) : takenF P x G = takenF P' x G := by
  unfold takenF
  rw [fstN_congr G (fun i hi => by rw [e i hi])]
theorem okG_iff (I : ID h a D) (ht : ∀ j, j < 5 → hI h 6 j = t j) : okGuest h a (gN D) (hI h 6) ↔ okGD D t = true := by
  unfold okGuest okGD
  rw [ht 0 (by omega), ht 1 (by omega), ht 2 (by omega), ht 3 (by omega), ht 4 (by omega), I.1.2.1, taken_congr (P' := fun i => D (26 + i)) (fun i hi => (I.2 i hi).2.2.2.2)]
  simp only [Bool.and_eq_true, decide_eq_true_eq, Bool.not_eq_true', decide_eq_false_iff_not]
  constructor
  · rintro ⟨h1, h2, h3, h4, h5, h6, h7, ⟨h8, h9⟩, h10⟩; exact ⟨⟨⟨⟨⟨⟨⟨⟨h1, h2⟩, h3⟩, h4⟩, h5⟩, h6⟩, h7⟩, h8, h9⟩, h10⟩
  · rintro ⟨⟨⟨⟨⟨⟨⟨⟨h1, h2⟩, h3⟩, h4⟩, h5⟩, h6⟩, h7⟩, h8, h9⟩, h10⟩; exact ⟨h1, h2, h3, h4, h5, h6, h7, ⟨h8, h9⟩, h10⟩
theorem gN_up (D : Nat → Int32) {k : Nat} (hk : k ≠ 0) (v : Int32) : gN (upD D k v) = gN D := by
  unfold gN upD
  rw [if_neg (Ne.symm hk)]
theorem gN_gst (t : Nat → Int32) (w : DW D) : gN (gstD D t) = gN D + 1 := by
  unfold gstD
  show (nI (gN D + 1)).toNatClampNeg = _
  exact nI_cl (by have := w.1.2; omega)
theorem ID_gst (I : ID h a D) (w : DW D) (ha : isInn a) (ht : ∀ j, j < 5 → hI h 6 j = t j) (h5 : gN D < 5) : ID (gstH h a (gN D) (hI h 6)) a (gstD D t) := by
  unfold ID
  rw [gN_gst t w]
  have e6 : ∀ k, k < 6 → a + k ≠ 6 := fun k hk => by rcases ha with rfl | rfl | rfl <;> omega
  refine ⟨?_, fun i hi => ?_⟩
  · obtain ⟨i0, i1, i2, i3, i4, i5⟩ := I.1
    unfold gstH gstD
    simp only [hI_sI]
    refine ⟨by simp, ?_, ?_, ?_, ?_, by simp⟩ <;> (simp only [show ∀ k, (a = a + (k + 1)) = False from fun k => eq_false (by omega)]; simp) <;> grind
  · unfold gstH gstD
    simp only [hI_sI]
    by_cases hig : i = gN D
    · subst hig
      refine ⟨?_, ?_, ?_, ?_, ?_⟩ <;> simp <;> grind
    · obtain ⟨q1, q2, q3, q4, q5⟩ := I.2 i (by omega)
      refine ⟨?_, ?_, ?_, ?_, ?_⟩ <;> simp [hig] <;> grind
/-- an item told to an inn -/
theorem k_tell (T : GS h) (ha : isInn a) (w : DW D) (I : ID h a D) (hm : hI h 4 3 = nI m) (hm5 : 1 ≤ m ∧ m ≤ 5) (ht : ∀ j, j < m → hI h 6 j = t j) :
    match tellF ch m t D with
    | none => (∀ Q : Option Value → aH → Prop, X 73 0 [.ref 4, .int ch, .ref a] [] h Q ↔ Q (some (.int 0)) h)
    | some D' => ∃ h', Fr h h' a ∧ ID h' a D' ∧ ∀ Q : Option Value → aH → Prop, X 73 0 [.ref 4, .int ch, .ref a] [] h Q ↔ Q (some (.int 1)) h' := by
  have A := I.at T ha w
  have m5 : (nI m = Int32.ofNat 5) = (m = 5) := nI_eq_iff (show m < 2 ^ 31 by omega) (show 5 < 2 ^ 31 by decide)
  have m1 : (nI m = 1) = (m = 1) := nI_eq_iff (show m < 2 ^ 31 by omega) (show 1 < 2 ^ 31 by decide)
  have i0 : ib 0 (2, 5) = True := ibl 0 (by decide)
  unfold tellF
  by_cases hg : ch = 103
  · rw [if_pos hg]
    by_cases hm' : m = 5
    · have ht5 : ∀ j, j < 5 → hI h 6 j = t j := fun j hj => ht j (by omega)
      by_cases hok : okGD D t = true
      · rw [if_pos ⟨hm', hok⟩]
        have hok' := (okG_iff I ht5).mpr hok
        refine ⟨gstH h a (gN D) (hI h 6), ?_, ID_gst I w ha ht5 hok'.1, fun Q => ?_⟩
        · unfold gstH
          exact (((((((Fr.refl h a).sI _ (Or.inr (Or.inr ⟨by omega, by omega⟩))).sI _ (Or.inr (Or.inr ⟨by omega, by omega⟩))).sI _ (Or.inr (Or.inr ⟨by omega, by omega⟩))).sI _ (Or.inr (Or.inr ⟨by omega, by omega⟩))).sI _ (Or.inr (Or.inr ⟨by omega, by omega⟩))).sI _ (Or.inr (Or.inr ⟨by omega, by omega⟩))).sI _ (Or.inr (Or.inr ⟨by omega, by omega⟩))
        · simp only [x73_0, x73_1, x73_3, x73_6, x73_7, x73_10, x73_11, x73_14, x73_15, x73_18, x73_19, x73_20, x73_23, x73_26, x73_29, x73_30, x73_33, x73_34, x73_35, x73_36, x73_39, x73_40, x73_43, x73_44, x73_45, x73_46, x73_88, x73_89, x73_90, x73_93, x73_94, x73_95, x73_98, x73_99, x73_100, x73_101, x73_104, x73_105, x73_106, x73_109, x73_110, x73_111, x73_112, x73_115, x73_116, x73_117, x73_120, x73_121, x73_122, x73_123, x73_126, x73_127, x73_128, x73_131, x73_132, x73_133, pv_some, pv_none, c1_int, c1_ref, c1_null, true_and, and_true, ne_eq, not_false_eq_true, not_true_eq_false, if_true, if_false, reduceCtorEq, Option.some.injEq, Value.int.injEq, absI_fold, minI_fold, maxI_fold, tx_s T, tx_r2 T, txt_s6 T, n6z, hg, hm, m5.trans (eq_true hm'), A.s, k_addGuest A hok', one_ne, if_true, if_false, true_or, or_true, false_or, or_false, true_and, and_true, false_and, and_false, not_true_eq_false, not_false_eq_true, iff_self, ite_self, ne_eq, true_implies, implies_true, Bool.false_eq_true, decide_true, decide_false, Bool.or_true, Bool.or_false, Bool.true_or, Bool.false_or]
      · rw [if_neg (fun z => hok z.2)]
        intro Q
        have hok' : ¬ okGuest h a (gN D) (hI h 6) := fun z => hok ((okG_iff I ht5).mp z)
        simp only [x73_0, x73_1, x73_3, x73_6, x73_7, x73_10, x73_11, x73_14, x73_15, x73_18, x73_19, x73_20, x73_23, x73_26, x73_29, x73_30, x73_33, x73_34, x73_35, x73_36, x73_39, x73_40, x73_43, x73_44, x73_45, x73_46, x73_88, x73_89, x73_90, x73_93, x73_94, x73_95, x73_98, x73_99, x73_100, x73_101, x73_104, x73_105, x73_106, x73_109, x73_110, x73_111, x73_112, x73_115, x73_116, x73_117, x73_120, x73_121, x73_122, x73_123, x73_126, x73_127, x73_128, x73_131, x73_132, x73_133, pv_some, pv_none, c1_int, c1_ref, c1_null, true_and, and_true, ne_eq, not_false_eq_true, not_true_eq_false, if_true, if_false, reduceCtorEq, Option.some.injEq, Value.int.injEq, absI_fold, minI_fold, maxI_fold, tx_s T, tx_r2 T, txt_s6 T, n6z, hg, hm, m5.trans (eq_true hm'), A.s, k_addGuestNo A hok', if_true, if_false, true_or, or_true, false_or, or_false, true_and, and_true, false_and, and_false, not_true_eq_false, not_false_eq_true, iff_self, ite_self, ne_eq, true_implies, implies_true, Bool.false_eq_true, decide_true, decide_false, Bool.or_true, Bool.or_false, Bool.true_or, Bool.false_or]
    · rw [if_neg (fun z => hm' z.1)]
      intro Q
      simp only [x73_0, x73_1, x73_3, x73_6, x73_7, x73_10, x73_11, x73_14, x73_15, x73_18, x73_19, x73_20, x73_23, x73_26, x73_29, x73_30, x73_33, x73_34, x73_35, x73_36, x73_39, x73_40, x73_43, x73_44, x73_45, x73_46, x73_88, x73_89, x73_90, x73_93, x73_94, x73_95, x73_98, x73_99, x73_100, x73_101, x73_104, x73_105, x73_106, x73_109, x73_110, x73_111, x73_112, x73_115, x73_116, x73_117, x73_120, x73_121, x73_122, x73_123, x73_126, x73_127, x73_128, x73_131, x73_132, x73_133, pv_some, pv_none, c1_int, c1_ref, c1_null, true_and, and_true, ne_eq, not_false_eq_true, not_true_eq_false, if_true, if_false, reduceCtorEq, Option.some.injEq, Value.int.injEq, absI_fold, minI_fold, maxI_fold, tx_s T, tx_r2 T, txt_s6 T, n6z, hg, hm, m5.trans (eq_false hm'), if_true, if_false, true_or, or_true, false_or, or_false, true_and, and_true, false_and, and_false, not_true_eq_false, not_false_eq_true, iff_self, ite_self, ne_eq, true_implies, implies_true, Bool.false_eq_true, decide_true, decide_false, Bool.or_true, Bool.or_false, Bool.true_or, Bool.false_or]
  · rw [if_neg hg]
    by_cases hm' : m = 1
    · rw [if_pos hm']
      have ht0 : hI h 6 0 = t 0 := ht 0 (by omega)
      obtain ⟨⟨j0, j1, j2, j3, j4, j5⟩, jr⟩ := id I
      by_cases hc : ch = 99
      · rw [if_pos hc]
        by_cases hx : 40 < t 0
        · rw [if_pos hx]
          intro Q
          simp only [x73_0, x73_1, x73_3, x73_6, x73_7, x73_10, x73_11, x73_14, x73_15, x73_18, x73_19, x73_20, x73_23, x73_26, x73_29, x73_30, x73_33, x73_34, x73_35, x73_36, x73_39, x73_40, x73_43, x73_44, x73_45, x73_46, x73_88, x73_89, x73_90, x73_93, x73_94, x73_95, x73_98, x73_99, x73_100, x73_101, x73_104, x73_105, x73_106, x73_109, x73_110, x73_111, x73_112, x73_115, x73_116, x73_117, x73_120, x73_121, x73_122, x73_123, x73_126, x73_127, x73_128, x73_131, x73_132, x73_133, pv_some, pv_none, c1_int, c1_ref, c1_null, true_and, and_true, ne_eq, not_false_eq_true, not_true_eq_false, if_true, if_false, reduceCtorEq, Option.some.injEq, Value.int.injEq, absI_fold, minI_fold, maxI_fold, tx_s T, tx_r2 T, txt_s6 T, n6z, hc, hm, m1.trans (eq_true hm'), A.s, i0, c0, ht0, k_setPorters T ha, hx, if_true, if_false, true_or, or_true, false_or, or_false, true_and, and_true, false_and, and_false, not_true_eq_false, not_false_eq_true, iff_self, ite_self, ne_eq, true_implies, implies_true, Bool.false_eq_true, decide_true, decide_false, Bool.or_true, Bool.or_false, Bool.true_or, Bool.false_or, show ((99 : Int32) = 103) = False by decide]
        · rw [if_neg hx]
          refine ⟨sI (sI h a 8 (t 0)) a 10 1, ((Fr.refl h a).sI _ (Or.inr (Or.inr ⟨by omega, by omega⟩))).sI _ (Or.inr (Or.inr ⟨by omega, by omega⟩)), ?_, fun Q => ?_⟩
          · refine ⟨?_, fun i hi => ?_⟩
            · simp only [hI_sI, upD]
              simp [j0, j1, j3, j4]
            · rw [gN_up _ (by decide), gN_up _ (by decide)] at hi
              obtain ⟨q1, q2, q3, q4, q5⟩ := jr i hi
              simp only [hI_sI, upD]
              refine ⟨?_, ?_, ?_, ?_, ?_⟩ <;> simp <;> grind
          · simp only [x73_0, x73_1, x73_3, x73_6, x73_7, x73_10, x73_11, x73_14, x73_15, x73_18, x73_19, x73_20, x73_23, x73_26, x73_29, x73_30, x73_33, x73_34, x73_35, x73_36, x73_39, x73_40, x73_43, x73_44, x73_45, x73_46, x73_88, x73_89, x73_90, x73_93, x73_94, x73_95, x73_98, x73_99, x73_100, x73_101, x73_104, x73_105, x73_106, x73_109, x73_110, x73_111, x73_112, x73_115, x73_116, x73_117, x73_120, x73_121, x73_122, x73_123, x73_126, x73_127, x73_128, x73_131, x73_132, x73_133, pv_some, pv_none, c1_int, c1_ref, c1_null, true_and, and_true, ne_eq, not_false_eq_true, not_true_eq_false, if_true, if_false, reduceCtorEq, Option.some.injEq, Value.int.injEq, absI_fold, minI_fold, maxI_fold, tx_s T, tx_r2 T, txt_s6 T, n6z, hc, hm, m1.trans (eq_true hm'), A.s, i0, c0, ht0, k_setPorters T ha, hx, one_ne, if_true, if_false, true_or, or_true, false_or, or_false, true_and, and_true, false_and, and_false, not_true_eq_false, not_false_eq_true, iff_self, ite_self, ne_eq, true_implies, implies_true, Bool.false_eq_true, decide_true, decide_false, Bool.or_true, Bool.or_false, Bool.true_or, Bool.false_or, show ((99 : Int32) = 103) = False by decide]
      · rw [if_neg hc]
        by_cases hn : ch = 110
        · rw [if_pos hn]
          by_cases hx : okBeds (D 5) (t 0)
          · rw [if_pos hx]
            refine ⟨sI h a 6 (t 0), (Fr.refl h a).sI _ (Or.inr (Or.inr ⟨by omega, by omega⟩)), ?_, fun Q => ?_⟩
            · refine ⟨?_, fun i hi => ?_⟩
              · simp only [hI_sI, upD]
                simp [j0, j2, j3, j4, j5]
              · rw [gN_up _ (by decide)] at hi
                obtain ⟨q1, q2, q3, q4, q5⟩ := jr i hi
                simp only [hI_sI, upD]
                refine ⟨?_, ?_, ?_, ?_, ?_⟩ <;> simp <;> grind
            · simp only [x73_0, x73_1, x73_3, x73_6, x73_7, x73_10, x73_11, x73_14, x73_15, x73_18, x73_19, x73_20, x73_23, x73_26, x73_29, x73_30, x73_33, x73_34, x73_35, x73_36, x73_39, x73_40, x73_43, x73_44, x73_45, x73_46, x73_88, x73_89, x73_90, x73_93, x73_94, x73_95, x73_98, x73_99, x73_100, x73_101, x73_104, x73_105, x73_106, x73_109, x73_110, x73_111, x73_112, x73_115, x73_116, x73_117, x73_120, x73_121, x73_122, x73_123, x73_126, x73_127, x73_128, x73_131, x73_132, x73_133, pv_some, pv_none, c1_int, c1_ref, c1_null, true_and, and_true, ne_eq, not_false_eq_true, not_true_eq_false, if_true, if_false, reduceCtorEq, Option.some.injEq, Value.int.injEq, absI_fold, minI_fold, maxI_fold, tx_s T, tx_r2 T, txt_s6 T, n6z, hn, hm, m1.trans (eq_true hm'), A.s, i0, c0, ht0, k_setBeds T ha, j5, if_pos hx, one_ne, if_true, if_false, true_or, or_true, false_or, or_false, true_and, and_true, false_and, and_false, not_true_eq_false, not_false_eq_true, iff_self, ite_self, ne_eq, true_implies, implies_true, Bool.false_eq_true, decide_true, decide_false, Bool.or_true, Bool.or_false, Bool.true_or, Bool.false_or, show ((110 : Int32) = 103) = False by decide, show ((110 : Int32) = 99) = False by decide]
          · rw [if_neg hx]
            intro Q
            simp only [x73_0, x73_1, x73_3, x73_6, x73_7, x73_10, x73_11, x73_14, x73_15, x73_18, x73_19, x73_20, x73_23, x73_26, x73_29, x73_30, x73_33, x73_34, x73_35, x73_36, x73_39, x73_40, x73_43, x73_44, x73_45, x73_46, x73_88, x73_89, x73_90, x73_93, x73_94, x73_95, x73_98, x73_99, x73_100, x73_101, x73_104, x73_105, x73_106, x73_109, x73_110, x73_111, x73_112, x73_115, x73_116, x73_117, x73_120, x73_121, x73_122, x73_123, x73_126, x73_127, x73_128, x73_131, x73_132, x73_133, pv_some, pv_none, c1_int, c1_ref, c1_null, true_and, and_true, ne_eq, not_false_eq_true, not_true_eq_false, if_true, if_false, reduceCtorEq, Option.some.injEq, Value.int.injEq, absI_fold, minI_fold, maxI_fold, tx_s T, tx_r2 T, txt_s6 T, n6z, hn, hm, m1.trans (eq_true hm'), A.s, i0, c0, ht0, k_setBeds T ha, j5, if_neg hx, if_true, if_false, true_or, or_true, false_or, or_false, true_and, and_true, false_and, and_false, not_true_eq_false, not_false_eq_true, iff_self, ite_self, ne_eq, true_implies, implies_true, Bool.false_eq_true, decide_true, decide_false, Bool.or_true, Bool.or_false, Bool.true_or, Bool.false_or, show ((110 : Int32) = 103) = False by decide, show ((110 : Int32) = 99) = False by decide]
        · rw [if_neg hn]
          by_cases hr : ch = 114
          · rw [if_pos hr]
            by_cases hx : 12 < t 0
            · rw [if_pos hx]
              intro Q
              simp only [x73_0, x73_1, x73_3, x73_6, x73_7, x73_10, x73_11, x73_14, x73_15, x73_18, x73_19, x73_20, x73_23, x73_26, x73_29, x73_30, x73_33, x73_34, x73_35, x73_36, x73_39, x73_40, x73_43, x73_44, x73_45, x73_46, x73_88, x73_89, x73_90, x73_93, x73_94, x73_95, x73_98, x73_99, x73_100, x73_101, x73_104, x73_105, x73_106, x73_109, x73_110, x73_111, x73_112, x73_115, x73_116, x73_117, x73_120, x73_121, x73_122, x73_123, x73_126, x73_127, x73_128, x73_131, x73_132, x73_133, pv_some, pv_none, c1_int, c1_ref, c1_null, true_and, and_true, ne_eq, not_false_eq_true, not_true_eq_false, if_true, if_false, reduceCtorEq, Option.some.injEq, Value.int.injEq, absI_fold, minI_fold, maxI_fold, tx_s T, tx_r2 T, txt_s6 T, n6z, hr, hm, m1.trans (eq_true hm'), A.s, i0, c0, ht0, k_setNote T ha, hx, if_true, if_false, true_or, or_true, false_or, or_false, true_and, and_true, false_and, and_false, not_true_eq_false, not_false_eq_true, iff_self, ite_self, ne_eq, true_implies, implies_true, Bool.false_eq_true, decide_true, decide_false, Bool.or_true, Bool.or_false, Bool.true_or, Bool.false_or, show ((114 : Int32) = 103) = False by decide, show ((114 : Int32) = 99) = False by decide, show ((114 : Int32) = 110) = False by decide]
            · rw [if_neg hx]
              refine ⟨sI (sI h a 9 (t 0)) a 10 1, ((Fr.refl h a).sI _ (Or.inr (Or.inr ⟨by omega, by omega⟩))).sI _ (Or.inr (Or.inr ⟨by omega, by omega⟩)), ?_, fun Q => ?_⟩
              · refine ⟨?_, fun i hi => ?_⟩
                · simp only [hI_sI, upD]
                  simp [j0, j1, j2, j4]
                · rw [gN_up _ (by decide), gN_up _ (by decide)] at hi
                  obtain ⟨q1, q2, q3, q4, q5⟩ := jr i hi
                  simp only [hI_sI, upD]
                  refine ⟨?_, ?_, ?_, ?_, ?_⟩ <;> simp <;> grind
              · simp only [x73_0, x73_1, x73_3, x73_6, x73_7, x73_10, x73_11, x73_14, x73_15, x73_18, x73_19, x73_20, x73_23, x73_26, x73_29, x73_30, x73_33, x73_34, x73_35, x73_36, x73_39, x73_40, x73_43, x73_44, x73_45, x73_46, x73_88, x73_89, x73_90, x73_93, x73_94, x73_95, x73_98, x73_99, x73_100, x73_101, x73_104, x73_105, x73_106, x73_109, x73_110, x73_111, x73_112, x73_115, x73_116, x73_117, x73_120, x73_121, x73_122, x73_123, x73_126, x73_127, x73_128, x73_131, x73_132, x73_133, pv_some, pv_none, c1_int, c1_ref, c1_null, true_and, and_true, ne_eq, not_false_eq_true, not_true_eq_false, if_true, if_false, reduceCtorEq, Option.some.injEq, Value.int.injEq, absI_fold, minI_fold, maxI_fold, tx_s T, tx_r2 T, txt_s6 T, n6z, hr, hm, m1.trans (eq_true hm'), A.s, i0, c0, ht0, k_setNote T ha, hx, one_ne, if_true, if_false, true_or, or_true, false_or, or_false, true_and, and_true, false_and, and_false, not_true_eq_false, not_false_eq_true, iff_self, ite_self, ne_eq, true_implies, implies_true, Bool.false_eq_true, decide_true, decide_false, Bool.or_true, Bool.or_false, Bool.true_or, Bool.false_or, show ((114 : Int32) = 103) = False by decide, show ((114 : Int32) = 99) = False by decide, show ((114 : Int32) = 110) = False by decide]
          · rw [if_neg hr]
            by_cases hw : ch = 119
            · rw [if_pos hw]
              by_cases hx : ¬ t 0 < 0 ∧ t 0 < D 1 - 1
              · rw [if_pos hx]
                refine ⟨sI (sI h a 7 (hI h a 7 ||| 1 <<< (t 0 &&& 31))) a 10 1, ((Fr.refl h a).sI _ (Or.inr (Or.inr ⟨by omega, by omega⟩))).sI _ (Or.inr (Or.inr ⟨by omega, by omega⟩)), ?_, fun Q => ?_⟩
                · refine ⟨?_, fun i hi => ?_⟩
                  · simp only [hI_sI, upD]
                    simp [j0, j1, j2, j3, j4]
                  · rw [gN_up _ (by decide), gN_up _ (by decide)] at hi
                    obtain ⟨q1, q2, q3, q4, q5⟩ := jr i hi
                    simp only [hI_sI, upD]
                    refine ⟨?_, ?_, ?_, ?_, ?_⟩ <;> simp <;> grind
                · simp only [x73_0, x73_1, x73_3, x73_6, x73_7, x73_10, x73_11, x73_14, x73_15, x73_18, x73_19, x73_20, x73_23, x73_26, x73_29, x73_30, x73_33, x73_34, x73_35, x73_36, x73_39, x73_40, x73_43, x73_44, x73_45, x73_46, x73_88, x73_89, x73_90, x73_93, x73_94, x73_95, x73_98, x73_99, x73_100, x73_101, x73_104, x73_105, x73_106, x73_109, x73_110, x73_111, x73_112, x73_115, x73_116, x73_117, x73_120, x73_121, x73_122, x73_123, x73_126, x73_127, x73_128, x73_131, x73_132, x73_133, pv_some, pv_none, c1_int, c1_ref, c1_null, true_and, and_true, ne_eq, not_false_eq_true, not_true_eq_false, if_true, if_false, reduceCtorEq, Option.some.injEq, Value.int.injEq, absI_fold, minI_fold, maxI_fold, tx_s T, tx_r2 T, txt_s6 T, n6z, hw, hm, m1.trans (eq_true hm'), A.s, i0, c0, ht0, k_stuffWall T ha, j1, if_pos hx, one_ne, if_true, if_false, true_or, or_true, false_or, or_false, true_and, and_true, false_and, and_false, not_true_eq_false, not_false_eq_true, iff_self, ite_self, ne_eq, true_implies, implies_true, Bool.false_eq_true, decide_true, decide_false, Bool.or_true, Bool.or_false, Bool.true_or, Bool.false_or, show ((119 : Int32) = 103) = False by decide, show ((119 : Int32) = 99) = False by decide, show ((119 : Int32) = 110) = False by decide, show ((119 : Int32) = 114) = False by decide]
              · rw [if_neg hx]
                intro Q
                simp only [x73_0, x73_1, x73_3, x73_6, x73_7, x73_10, x73_11, x73_14, x73_15, x73_18, x73_19, x73_20, x73_23, x73_26, x73_29, x73_30, x73_33, x73_34, x73_35, x73_36, x73_39, x73_40, x73_43, x73_44, x73_45, x73_46, x73_88, x73_89, x73_90, x73_93, x73_94, x73_95, x73_98, x73_99, x73_100, x73_101, x73_104, x73_105, x73_106, x73_109, x73_110, x73_111, x73_112, x73_115, x73_116, x73_117, x73_120, x73_121, x73_122, x73_123, x73_126, x73_127, x73_128, x73_131, x73_132, x73_133, pv_some, pv_none, c1_int, c1_ref, c1_null, true_and, and_true, ne_eq, not_false_eq_true, not_true_eq_false, if_true, if_false, reduceCtorEq, Option.some.injEq, Value.int.injEq, absI_fold, minI_fold, maxI_fold, tx_s T, tx_r2 T, txt_s6 T, n6z, hw, hm, m1.trans (eq_true hm'), A.s, i0, c0, ht0, k_stuffWall T ha, j1, if_neg hx, if_true, if_false, true_or, or_true, false_or, or_false, true_and, and_true, false_and, and_false, not_true_eq_false, not_false_eq_true, iff_self, ite_self, ne_eq, true_implies, implies_true, Bool.false_eq_true, decide_true, decide_false, Bool.or_true, Bool.or_false, Bool.true_or, Bool.false_or, show ((119 : Int32) = 103) = False by decide, show ((119 : Int32) = 99) = False by decide, show ((119 : Int32) = 110) = False by decide, show ((119 : Int32) = 114) = False by decide]
            · rw [if_neg hw]
              intro Q
              simp only [x73_0, x73_1, x73_3, x73_6, x73_7, x73_10, x73_11, x73_14, x73_15, x73_18, x73_19, x73_20, x73_23, x73_26, x73_29, x73_30, x73_33, x73_34, x73_35, x73_36, x73_39, x73_40, x73_43, x73_44, x73_45, x73_46, x73_88, x73_89, x73_90, x73_93, x73_94, x73_95, x73_98, x73_99, x73_100, x73_101, x73_104, x73_105, x73_106, x73_109, x73_110, x73_111, x73_112, x73_115, x73_116, x73_117, x73_120, x73_121, x73_122, x73_123, x73_126, x73_127, x73_128, x73_131, x73_132, x73_133, pv_some, pv_none, c1_int, c1_ref, c1_null, true_and, and_true, ne_eq, not_false_eq_true, not_true_eq_false, if_true, if_false, reduceCtorEq, Option.some.injEq, Value.int.injEq, absI_fold, minI_fold, maxI_fold, tx_s T, tx_r2 T, txt_s6 T, n6z, hg, hc, hn, hr, hw, hm, m1.trans (eq_true hm'), if_true, if_false, true_or, or_true, false_or, or_false, true_and, and_true, false_and, and_false, not_true_eq_false, not_false_eq_true, iff_self, ite_self, ne_eq, true_implies, implies_true, Bool.false_eq_true, decide_true, decide_false, Bool.or_true, Bool.or_false, Bool.true_or, Bool.false_or]
    · rw [if_neg hm']
      intro Q
      simp only [x73_0, x73_1, x73_3, x73_6, x73_7, x73_10, x73_11, x73_14, x73_15, x73_18, x73_19, x73_20, x73_23, x73_26, x73_29, x73_30, x73_33, x73_34, x73_35, x73_36, x73_39, x73_40, x73_43, x73_44, x73_45, x73_46, x73_88, x73_89, x73_90, x73_93, x73_94, x73_95, x73_98, x73_99, x73_100, x73_101, x73_104, x73_105, x73_106, x73_109, x73_110, x73_111, x73_112, x73_115, x73_116, x73_117, x73_120, x73_121, x73_122, x73_123, x73_126, x73_127, x73_128, x73_131, x73_132, x73_133, pv_some, pv_none, c1_int, c1_ref, c1_null, true_and, and_true, ne_eq, not_false_eq_true, not_true_eq_false, if_true, if_false, reduceCtorEq, Option.some.injEq, Value.int.injEq, absI_fold, minI_fold, maxI_fold, tx_s T, hg, hm, m1.trans (eq_false hm'), if_true, if_false, true_or, or_true, false_or, or_false, true_and, and_true, false_and, and_false, not_true_eq_false, not_false_eq_true, iff_self, ite_self, ne_eq, true_implies, implies_true, Bool.false_eq_true, decide_true, decide_false, Bool.or_true, Bool.or_false, Bool.true_or, Bool.false_or]
end READ2
