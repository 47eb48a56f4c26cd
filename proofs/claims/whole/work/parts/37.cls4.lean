/-! THE CLASS: text, counts, the wall to stuff, feigned -/
section CLS4
variable {h : aH} {a G i j k z n : Nat} {Q : Option Value → aH → Prop} {x y b : Int32}
theorem c_write (T : TxAt h n) : X 81 0 [.ref 3, .int x] [] h Q ↔ if ¬ x < 32 ∧ ¬ 126 < x then (if n < 200 then Q (some (.int (nI (n + 1)))) (sI (sI h 5 n x) 4 1 (nI (n + 1))) else Q (some (.int (-3))) h) else Q (some (.int (-1))) h := by
  have g := T.1
  have g2 : GS (sI (sI h 5 n x) 4 1 (nI (n + 1))) := g
  have e4 : hI (sI (sI h 5 n x) 4 1 (nI (n + 1))) 4 1 = nI (n + 1) := by rw [hI_sI, if_pos ⟨rfl, rfl⟩]
  by_cases h1 : x < 32
  · simp only [x81_0, x81_1, x81_3, x81_6, x81_7, x81_9, x81_12, x81_13, x81_14, x81_15, x81_18, x81_19, x81_22, x81_25, x81_26, x81_29, x81_32, x81_35, x81_37, pv_some, pv_none, c1_int, c1_ref, c1_null, true_and, and_true, ne_eq, not_false_eq_true, not_true_eq_false, if_true, if_false, reduceCtorEq, Option.some.injEq, Value.int.injEq, absI_fold, minI_fold, maxI_fold, h1, if_true, if_false, true_or, or_true, false_or, or_false, true_and, and_true, false_and, and_false, not_true_eq_false, not_false_eq_true, iff_self, ite_self, ne_eq, true_implies, implies_true, Bool.false_eq_true, decide_true, decide_false, Bool.or_true, Bool.or_false, Bool.true_or, Bool.false_or]
  · by_cases h2 : 126 < x
    · simp only [x81_0, x81_1, x81_3, x81_6, x81_7, x81_9, x81_12, x81_13, x81_14, x81_15, x81_18, x81_19, x81_22, x81_25, x81_26, x81_29, x81_32, x81_35, x81_37, pv_some, pv_none, c1_int, c1_ref, c1_null, true_and, and_true, ne_eq, not_false_eq_true, not_true_eq_false, if_true, if_false, reduceCtorEq, Option.some.injEq, Value.int.injEq, absI_fold, minI_fold, maxI_fold, h1, h2, if_true, if_false, true_or, or_true, false_or, or_false, true_and, and_true, false_and, and_false, not_true_eq_false, not_false_eq_true, iff_self, ite_self, ne_eq, true_implies, implies_true, Bool.false_eq_true, decide_true, decide_false, Bool.or_true, Bool.or_false, Bool.true_or, Bool.false_or]
    · by_cases h3 : n < 200
      · simp only [x81_0, x81_1, x81_3, x81_6, x81_7, x81_9, x81_12, x81_13, x81_14, x81_15, x81_18, x81_19, x81_22, x81_25, x81_26, x81_29, x81_32, x81_35, x81_37, pv_some, pv_none, c1_int, c1_ref, c1_null, true_and, and_true, ne_eq, not_false_eq_true, not_true_eq_false, if_true, if_false, reduceCtorEq, Option.some.injEq, Value.int.injEq, absI_fold, minI_fold, maxI_fold, b_s g, b_r0 g, b_r1 g, b_r2 g, b_r3 g, b_r4 g, b_r5 g, b_r6 g, b_r7 g, b_r10 g, cs4 g, cs7 g, cs11 g, cs12 g, cs18 g, cs20 g, cs22 g, cs24 g, cs38 g, m_nz, h1, h2, k_txAdd T, h3, b_s g2, b_r0 g2, cs4 g2, k_txLength g2, e4, one_ne, if_true, if_false, true_or, or_true, false_or, or_false, true_and, and_true, false_and, and_false, not_true_eq_false, not_false_eq_true, iff_self, ite_self, ne_eq, true_implies, implies_true, Bool.false_eq_true, decide_true, decide_false, Bool.or_true, Bool.or_false, Bool.true_or, Bool.false_or]
      · simp only [x81_0, x81_1, x81_3, x81_6, x81_7, x81_9, x81_12, x81_13, x81_14, x81_15, x81_18, x81_19, x81_22, x81_25, x81_26, x81_29, x81_32, x81_35, x81_37, pv_some, pv_none, c1_int, c1_ref, c1_null, true_and, and_true, ne_eq, not_false_eq_true, not_true_eq_false, if_true, if_false, reduceCtorEq, Option.some.injEq, Value.int.injEq, absI_fold, minI_fold, maxI_fold, b_s g, b_r0 g, b_r1 g, b_r2 g, b_r3 g, b_r4 g, b_r5 g, b_r6 g, b_r7 g, b_r10 g, cs4 g, cs7 g, cs11 g, cs12 g, cs18 g, cs20 g, cs22 g, cs24 g, cs38 g, m_nz, h1, h2, k_txAdd T, h3, if_true, if_false, true_or, or_true, false_or, or_false, true_and, and_true, false_and, and_false, not_true_eq_false, not_false_eq_true, iff_self, ite_self, ne_eq, true_implies, implies_true, Bool.false_eq_true, decide_true, decide_false, Bool.or_true, Bool.or_false, Bool.true_or, Bool.false_or]
theorem c_wipe (g : GS h) : X 82 0 [.ref 3, .null] [] h Q ↔ Q (some (.int (hI h 4 1))) (sI h 4 1 0) := by
  simp only [x82_0, x82_1, x82_4, x82_7, x82_8, x82_9, x82_12, x82_15, x82_16, pv_some, pv_none, c1_int, c1_ref, c1_null, true_and, and_true, ne_eq, not_false_eq_true, not_true_eq_false, if_true, if_false, reduceCtorEq, Option.some.injEq, Value.int.injEq, absI_fold, minI_fold, maxI_fold, b_s g, b_r0 g, b_r1 g, b_r2 g, b_r3 g, b_r4 g, b_r5 g, b_r6 g, b_r7 g, b_r10 g, cs4 g, cs7 g, cs11 g, cs12 g, cs18 g, cs20 g, cs22 g, cs24 g, cs38 g, m_nz, k_txLength g, k_txClear g, if_true, if_false, true_or, or_true, false_or, or_false, true_and, and_true, false_and, and_false, not_true_eq_false, not_false_eq_true, iff_self, ite_self, ne_eq, true_implies, implies_true, Bool.false_eq_true, decide_true, decide_false, Bool.or_true, Bool.or_false, Bool.true_or, Bool.false_or]
theorem c_fault (T : TxAt h n) {r : Nat} (hr : hR h 3 9 = r) (h26 : r = 26 ∨ r = 32) : ∃ h', Fr h h' r ∧ ∀ Q : Option Value → aH → Prop, X 83 0 [.ref 3] [] h Q ↔ Q (some (.int (fltA (parseF (ltr (hI h 5) n) n 201 0 D0).1))) h' := by
  have g := T.1
  have hz : (r = 0) = False := by rcases h26 with rfl | rfl <;> simp
  obtain ⟨h', fr, -, k'⟩ := k_readInto T (show isInn r from h26.elim Or.inl (fun q => Or.inr (Or.inl q)))
  generalize parseF (ltr (hI h 5) n) n 201 0 D0 = R at *
  refine ⟨h', fr, fun Q => ?_⟩
  simp only [x83_0, x83_1, x83_4, x83_5, x83_8, x83_11, pv_some, pv_none, c1_int, c1_ref, c1_null, true_and, and_true, ne_eq, not_false_eq_true, not_true_eq_false, if_true, if_false, reduceCtorEq, Option.some.injEq, Value.int.injEq, absI_fold, minI_fold, maxI_fold, b_s g, b_r0 g, b_r1 g, b_r2 g, b_r3 g, b_r4 g, b_r5 g, b_r6 g, b_r7 g, b_r10 g, cs4 g, cs7 g, cs11 g, cs12 g, cs18 g, cs20 g, cs22 g, cs24 g, cs38 g, m_nz, hr, hz, k', if_true, if_false, true_or, or_true, false_or, or_false, true_and, and_true, false_and, and_false, not_true_eq_false, not_false_eq_true, iff_self, ite_self, ne_eq, true_implies, implies_true, Bool.false_eq_true, decide_true, decide_false, Bool.or_true, Bool.or_false, Bool.true_or, Bool.false_or]
theorem c_count (I : CI h a G) {u v : Nat} (U : ShAt h 18 8 u) (V : ShAt h 20 2 v) : X 107 0 [.ref 3, .int x] [] h Q ↔ Q (some (.int (if x = 0 then hI h a 5 else if x = 1 then hI h a 6 else if x = 2 then hI h 22 2 else if x = 3 then popC (hI h 22 1) else if x = 4 then hI h 7 3 else if x = 5 then nI u else if x = 6 then nI v else if x = 7 then hI h 4 1 else -1))) h := by
  have g := I.1.1
  simp only [x107_0, x107_1, x107_48, x107_49, x107_52, x107_55, x107_56, x107_57, x107_60, x107_63, x107_64, x107_65, x107_68, x107_71, x107_72, x107_73, x107_76, x107_79, x107_82, x107_83, x107_84, x107_87, x107_90, x107_91, x107_92, x107_95, x107_98, x107_99, x107_100, x107_103, x107_106, x107_107, x107_108, x107_111, x107_114, x107_115, x107_116, pv_some, pv_none, c1_int, c1_ref, c1_null, true_and, and_true, ne_eq, not_false_eq_true, not_true_eq_false, if_true, if_false, reduceCtorEq, Option.some.injEq, Value.int.injEq, absI_fold, minI_fold, maxI_fold, b_s g, b_r0 g, b_r1 g, b_r2 g, b_r3 g, b_r4 g, b_r5 g, b_r6 g, b_r7 g, b_r10 g, cs4 g, cs7 g, cs11 g, cs12 g, cs18 g, cs20 g, cs22 g, cs24 g, cs38 g, m_nz, I.2.1, I.nz, inn_s g I.1.2.1, k_guests g I.1.2.1, k_beds g I.1.2.1, k_bitCount, k_repSize g, k_shSize U, k_shSize V, k_txLength g, if_true, if_false, true_or, or_true, false_or, or_false, true_and, and_true, false_and, and_false, not_true_eq_false, not_false_eq_true, iff_self, ite_self, ne_eq, true_implies, implies_true, Bool.false_eq_true, decide_true, decide_false, Bool.or_true, Bool.or_false, Bool.true_or, Bool.false_or]
  by_cases h0 : x = 0
  · simp only [h0, if_true, if_false, true_or, or_true, false_or, or_false, true_and, and_true, false_and, and_false, not_true_eq_false, not_false_eq_true, iff_self, ite_self, ne_eq, true_implies, implies_true, Bool.false_eq_true, decide_true, decide_false, Bool.or_true, Bool.or_false, Bool.true_or, Bool.false_or]
  · by_cases h1 : x = 1
    · simp only [h0, h1, one_ne, if_true, if_false, true_or, or_true, false_or, or_false, true_and, and_true, false_and, and_false, not_true_eq_false, not_false_eq_true, iff_self, ite_self, ne_eq, true_implies, implies_true, Bool.false_eq_true, decide_true, decide_false, Bool.or_true, Bool.or_false, Bool.true_or, Bool.false_or]
    · by_cases h2 : x = 2
      · simp only [h0, h1, h2, if_true, if_false, true_or, or_true, false_or, or_false, true_and, and_true, false_and, and_false, not_true_eq_false, not_false_eq_true, iff_self, ite_self, ne_eq, true_implies, implies_true, Bool.false_eq_true, decide_true, decide_false, Bool.or_true, Bool.or_false, Bool.true_or, Bool.false_or]; rfl
      · by_cases h3 : x = 3
        · simp only [h0, h1, h2, h3, if_true, if_false, true_or, or_true, false_or, or_false, true_and, and_true, false_and, and_false, not_true_eq_false, not_false_eq_true, iff_self, ite_self, ne_eq, true_implies, implies_true, Bool.false_eq_true, decide_true, decide_false, Bool.or_true, Bool.or_false, Bool.true_or, Bool.false_or]; rfl
        · by_cases h4 : x = 4
          · simp only [h0, h1, h2, h3, h4, if_true, if_false, true_or, or_true, false_or, or_false, true_and, and_true, false_and, and_false, not_true_eq_false, not_false_eq_true, iff_self, ite_self, ne_eq, true_implies, implies_true, Bool.false_eq_true, decide_true, decide_false, Bool.or_true, Bool.or_false, Bool.true_or, Bool.false_or]; rfl
          · by_cases h5 : x = 5
            · simp only [h0, h1, h2, h3, h4, h5, if_true, if_false, true_or, or_true, false_or, or_false, true_and, and_true, false_and, and_false, not_true_eq_false, not_false_eq_true, iff_self, ite_self, ne_eq, true_implies, implies_true, Bool.false_eq_true, decide_true, decide_false, Bool.or_true, Bool.or_false, Bool.true_or, Bool.false_or]; rfl
            · by_cases h6 : x = 6
              · simp only [h0, h1, h2, h3, h4, h5, h6, if_true, if_false, true_or, or_true, false_or, or_false, true_and, and_true, false_and, and_false, not_true_eq_false, not_false_eq_true, iff_self, ite_self, ne_eq, true_implies, implies_true, Bool.false_eq_true, decide_true, decide_false, Bool.or_true, Bool.or_false, Bool.true_or, Bool.false_or]; rfl
              · by_cases h7 : x = 7
                · simp only [h0, h1, h2, h3, h4, h5, h6, h7, if_true, if_false, true_or, or_true, false_or, or_false, true_and, and_true, false_and, and_false, not_true_eq_false, not_false_eq_true, iff_self, ite_self, ne_eq, true_implies, implies_true, Bool.false_eq_true, decide_true, decide_false, Bool.or_true, Bool.or_false, Bool.true_or, Bool.false_or]; rfl
                · simp only [h0, h1, h2, h3, h4, h5, h6, h7, if_true, if_false, true_or, or_true, false_or, or_false, true_and, and_true, false_and, and_false, not_true_eq_false, not_false_eq_true, iff_self, ite_self, ne_eq, true_implies, implies_true, Bool.false_eq_true, decide_true, decide_false, Bool.or_true, Bool.or_false, Bool.true_or, Bool.false_or]
/-- the class's scratch alone differs -/
def CF (h h' : aH) : Prop := h' = wI h (hI h') ∧ ∀ b j, ¬ (12 ≤ b ∧ b ≤ 17) → ¬ (24 ≤ b ∧ b ≤ 25) → ¬ (38 ≤ b ∧ b ≤ 43) → hI h' b j = hI h b j
theorem CF.refl (h : aH) : CF h h := ⟨by obtain ⟨x1, x2, x3, x4, x5⟩ := h; rfl, fun _ _ _ _ _ => rfl⟩
theorem CF.trans {h h1 h2 : aH} (x : CF h h1) (y : CF h1 h2) : CF h h2 := by
  refine ⟨?_, fun b j q1 q2 q3 => (y.2 b j q1 q2 q3).trans (x.2 b j q1 q2 q3)⟩
  have e1 := y.1
  rw [x.1] at e1
  exact e1
theorem CF.GS {h h' : aH} (x : CF h h') (g : GS h) : GS h' := by rw [x.1]; exact g
theorem CF.wI {h : aH} {f : Nat → Nat → Int32} (hf : ∀ b j, ¬ (12 ≤ b ∧ b ≤ 17) → ¬ (24 ≤ b ∧ b ≤ 25) → ¬ (38 ≤ b ∧ b ≤ 43) → f b j = hI h b j) : CF h (wI h f) := ⟨rfl, hf⟩
theorem CF.sI {h h' : aH} (x : CF h h') {b k : Nat} (v : Int32) (hb : 12 ≤ b ∧ b ≤ 17 ∨ 24 ≤ b ∧ b ≤ 25 ∨ 38 ≤ b ∧ b ≤ 43) : CF h (sI h' b k v) := by
  refine x.trans ⟨rfl, fun c j q1 q2 q3 => ?_⟩
  rw [hI_sI, if_neg]
  rintro ⟨rfl, rfl⟩
  rcases hb with q | q | q
  · exact q1 q
  · exact q2 q
  · exact q3 q
theorem CF.lie {h h' : aH} (x : CF h h') {q : Nat} (hq : q = 15 ∨ q = 24) (v : Nat → Int32) : CF h (setL h' q v) := by
  refine x.trans ?_
  unfold setL
  exact CF.wI (fun b j q1 q2 q3 => by rw [if_neg (by omega), if_neg (by omega)])
theorem CF.R {h h' : aH} (x : CF h h') (b k : Nat) : hR h' b k = hR h b k := by rw [x.1]; rfl
theorem CF.CI {h' : aH} (x : CF h h') (I : CI h a G) : CI h' a G := by
  refine ⟨⟨x.GS I.1.1, I.1.2.1, ?_, I.1.2.2.2⟩, by rw [x.R]; exact I.2.1, I.2.2⟩
  rw [x.2 _ _ (by rcases I.2.2 with rfl | rfl <;> omega) (by rcases I.2.2 with rfl | rfl <;> omega) (by rcases I.2.2 with rfl | rfl <;> omega)]
  exact I.1.2.2.1
def nightC (h : aH) (a G : Nat) (w : Int32) : Int32 := foldN (fun k s => s + popC (wakeF (hI h (a + 1)) (hI h (a + 2)) (hI h (a + 3)) (hI h (a + 4)) (hI h 23) (hI h a 9) w (nI k) G)) 0 8
theorem lv_5 (h : aH) (q : Nat) : lv h q 5 = hI h q 1 := by unfold lv; rw [if_neg (by decide)]
theorem lv_lo (h : aH) (q : Nat) (hj : j < 5) : lv h q j = hI h (q + 1) j := by unfold lv; rw [if_pos hj]
theorem setL_1 (h : aH) (q : Nat) (v : Nat → Int32) : hI (setL h q v) q 1 = v 5 := by unfold setL; rw [hI_wI, if_neg (by omega), if_pos ⟨rfl, by decide, by decide⟩]
theorem setL_2 (h : aH) (q : Nat) (v : Nat → Int32) : hI (setL h q v) q 2 = v 6 := by unfold setL; rw [hI_wI, if_neg (by omega), if_pos ⟨rfl, by decide, by decide⟩]
theorem setL_lo (h : aH) (q : Nat) (v : Nat → Int32) (hj : j < 5) : hI (setL h q v) (q + 1) j = v j := by unfold setL; rw [hI_wI, if_pos ⟨rfl, hj⟩]
theorem CF.inn {h' : aH} (x : CF h h') (ha : a = 26 ∨ a = 32) {c : Nat} (hc : c ≤ 5) : hI h' (a + c) = hI h (a + c) := by
  funext j
  exact x.2 _ _ (by rcases ha with rfl | rfl <;> omega) (by rcases ha with rfl | rfl <;> omega) (by rcases ha with rfl | rfl <;> omega)
theorem night_t {h1 : aH} (I : CI h a G) (x : CF h h1) (w : Int32) (hw : hI h1 24 1 = w) (hp : ∀ j, j < G → hI h1 25 j = hI h 23 j) : nightA h1 a 24 G = nightC h a G w := by
  unfold nightA nightC
  refine foldN_congr (fun k hk s => ?_)
  unfold wakeA
  rw [x.inn I.2.2 (c := 1) (by decide), x.inn I.2.2 (c := 2) (by decide), x.inn I.2.2 (c := 3) (by decide), x.inn I.2.2 (c := 4) (by decide), show hI h1 a = hI h a from x.inn I.2.2 (c := 0) (by decide), hw]
  rw [wakeF_congr (P' := hI h 23) agr.rfl' agr.rfl' agr.rfl' agr.rfl' (fun j hj => hp j hj)]
abbrev wtC (h : aH) (a G n : Nat) : Int32 × Int32 := wtF (fun p => stufF (hI h 22 1) (nI p)) (fun p => nightC h a G (hI h 22 1 ^^^ 1 <<< (nI p &&& 31))) n
theorem c_wallTo (I : CI h a G) (hx : x = 0 ∨ x = 1) (hn : hI h a 6 = nI n) (hn6 : 1 ≤ n ∧ n ≤ 6) : ∃ h', CF h h' ∧ ∀ Q : Option Value → aH → Prop, X 95 0 [.ref 3, .int x, .null, .null, .null, .null] [] h Q ↔ Q (some (.int (if x = 0 then (wtC h a G (n - 1)).1 else (wtC h a G (n - 1)).2))) h' := by
  have g := I.1.1
  have h5 := I.1.2.2.2
  suffices hs : ∃ h', CF h h' ∧ X 95 20 [.ref 3, .int x, .int (-4), .int (-4), .int 0, .null] [] h (fun r b => r = some (.int (if x = 0 then (wtC h a G (n - 1)).1 else (wtC h a G (n - 1)).2)) ∧ b = h') by
    obtain ⟨h', fr, hk⟩ := hs
    refine ⟨h', fr, fun Q => X_iff ?_ Q⟩
    rcases hx with rfl | rfl
    · simp only [x95_0, x95_1, x95_4, x95_5, x95_6, x95_9, x95_10, x95_11, x95_13, x95_14, x95_16, x95_17, x95_18, x95_22, x95_23, x95_26, x95_29, x95_30, x95_31, x95_34, x95_35, x95_38, x95_40, x95_43, x95_46, x95_47, x95_50, x95_51, x95_54, x95_57, x95_58, x95_61, x95_63, x95_66, x95_67, x95_70, x95_71, x95_74, x95_77, x95_79, x95_80, x95_82, x95_85, x95_87, x95_88, x95_91, x95_93, x95_94, x95_96, x95_97, x95_100, x95_103, x95_104, x95_107, x95_108, x95_111, x95_112, pv_some, pv_none, c1_int, c1_ref, c1_null, true_and, and_true, ne_eq, not_false_eq_true, not_true_eq_false, if_true, if_false, reduceCtorEq, Option.some.injEq, Value.int.injEq, absI_fold, minI_fold, maxI_fold, if_true, if_false, true_or, or_true, false_or, or_false, true_and, and_true, false_and, and_false, not_true_eq_false, not_false_eq_true, iff_self, ite_self, ne_eq, true_implies, implies_true, Bool.false_eq_true, decide_true, decide_false, Bool.or_true, Bool.or_false, Bool.true_or, Bool.false_or]
      exact hk
    · simp only [x95_0, x95_1, x95_4, x95_5, x95_6, x95_9, x95_10, x95_11, x95_13, x95_14, x95_16, x95_17, x95_18, x95_22, x95_23, x95_26, x95_29, x95_30, x95_31, x95_34, x95_35, x95_38, x95_40, x95_43, x95_46, x95_47, x95_50, x95_51, x95_54, x95_57, x95_58, x95_61, x95_63, x95_66, x95_67, x95_70, x95_71, x95_74, x95_77, x95_79, x95_80, x95_82, x95_85, x95_87, x95_88, x95_91, x95_93, x95_94, x95_96, x95_97, x95_100, x95_103, x95_104, x95_107, x95_108, x95_111, x95_112, pv_some, pv_none, c1_int, c1_ref, c1_null, true_and, and_true, ne_eq, not_false_eq_true, not_true_eq_false, if_true, if_false, reduceCtorEq, Option.some.injEq, Value.int.injEq, absI_fold, minI_fold, maxI_fold, one_ne, if_true, if_false, true_or, or_true, false_or, or_false, true_and, and_true, false_and, and_false, not_true_eq_false, not_false_eq_true, iff_self, ite_self, ne_eq, true_implies, implies_true, Bool.false_eq_true, decide_true, decide_false, Bool.or_true, Bool.or_false, Bool.true_or, Bool.false_or]
      exact hk
  refine loop_up (P := fun k => ∀ (l5 : Value) (h1 : aH), CF h h1 → ∃ h', CF h h' ∧ X 95 20 [.ref 3, .int x, .int (wtC h a G k).1, .int (wtC h a G k).2, .int (nI k), l5] [] h1 (fun r b => r = some (.int (if x = 0 then (wtC h a G (n - 1)).1 else (wtC h a G (n - 1)).2)) ∧ b = h')) (n := n - 1) (fun k hk hp l5 h1 W => ?_) (fun l5 h1 W => ?_) _ _ (CF.refl h)
  · have I1 := W.CI I
    have g1 := I1.1.1
    have e6 : hI h1 a 6 = nI n := by rw [show hI h1 a = hI h a from W.inn I.2.2 (c := 0) (by decide)]; exact hn
    have e1 : hI h1 22 1 = hI h 22 1 := W.2 22 1 (by decide) (by decide) (by decide)
    by_cases st : stufF (hI h 22 1) (nI k) = true
    · have ew : wtC h a G (k + 1) = wtC h a G k := by
        unfold wtC wtF
        rw [foldN]
        simp only [st, if_true, if_false, true_or, or_true, false_or, or_false, true_and, and_true, false_and, and_false, not_true_eq_false, not_false_eq_true, iff_self, ite_self, ne_eq, true_implies, implies_true, Bool.false_eq_true, decide_true, decide_false, Bool.or_true, Bool.or_false, Bool.true_or, Bool.false_or]
      obtain ⟨h', fr, hp3⟩ := hp l5 h1 W
      rw [ew] at hp3
      refine ⟨h', fr, ?_⟩
      rw [x95_20]
      simp only [x95_0, x95_1, x95_4, x95_5, x95_6, x95_9, x95_10, x95_11, x95_13, x95_14, x95_16, x95_17, x95_18, x95_22, x95_23, x95_26, x95_29, x95_30, x95_31, x95_34, x95_35, x95_38, x95_40, x95_43, x95_46, x95_47, x95_50, x95_51, x95_54, x95_57, x95_58, x95_61, x95_63, x95_66, x95_67, x95_70, x95_71, x95_74, x95_77, x95_79, x95_80, x95_82, x95_85, x95_87, x95_88, x95_91, x95_93, x95_94, x95_96, x95_97, x95_100, x95_103, x95_104, x95_107, x95_108, x95_111, x95_112, pv_some, pv_none, c1_int, c1_ref, c1_null, true_and, and_true, ne_eq, not_false_eq_true, not_true_eq_false, if_true, if_false, reduceCtorEq, Option.some.injEq, Value.int.injEq, absI_fold, minI_fold, maxI_fold, b_s g1, b_r6 g1, b_r7 g1, cs22 g1, cs24 g1, m_nz, I1.2.1, I.nz, inn_s g1 I.1.2.1, k_beds g1 I.1.2.1, e6, nI_m1 hn6.1, nI_lt_iff (show k < 2 ^ 31 by omega) (show n - 1 < 2 ^ 31 by omega), hk, k_isStuffed g1 l22, e1, st, bi_zero, nI_add1, if_true, if_false, true_or, or_true, false_or, or_false, true_and, and_true, false_and, and_false, not_true_eq_false, not_false_eq_true, iff_self, ite_self, ne_eq, true_implies, implies_true, Bool.false_eq_true, decide_true, decide_false, Bool.or_true, Bool.or_false, Bool.true_or, Bool.false_or]
      exact hp3
    · have W2 : CF h (setL h1 24 (lv h1 22)) := W.lie (Or.inr rfl) _
      have W3 : CF h (sI (setL h1 24 (lv h1 22)) 24 1 (hI h 22 1 ^^^ 1 <<< (nI k &&& 31))) := W2.sI _ (Or.inr (Or.inl ⟨by decide, by decide⟩))
      have g2 := W2.GS g
      have I3 := W3.CI I
      have g3 := I3.1.1
      have et : hI (setL h1 24 (lv h1 22)) 24 1 = hI h 22 1 := by rw [setL_1, lv_5, e1]
      have ni : nightA (sI (setL h1 24 (lv h1 22)) 24 1 (hI h 22 1 ^^^ 1 <<< (nI k &&& 31))) a 24 G = nightC h a G (hI h 22 1 ^^^ 1 <<< (nI k &&& 31)) := by
        refine night_t I W3 _ (by rw [hI_sI, if_pos ⟨rfl, rfl⟩]) (fun j hj => ?_)
        rw [hI_sI, if_neg (by omega), setL_lo h1 24 _ (show j < 5 by omega), lv_lo h1 22 (show j < 5 by omega)]
        exact W.2 23 j (by decide) (by decide) (by decide)
      obtain ⟨h', fr, hp3⟩ := hp (.int (nightC h a G (hI h 22 1 ^^^ 1 <<< (nI k &&& 31)))) _ W3
      have ew : wtC h a G (k + 1) = if (wtC h a G k).1 = -4 ∨ nightC h a G (hI h 22 1 ^^^ 1 <<< (nI k &&& 31)) < (wtC h a G k).2 then (nI k, nightC h a G (hI h 22 1 ^^^ 1 <<< (nI k &&& 31))) else wtC h a G k := by
        unfold wtC wtF
        rw [foldN]
        simp only [st, if_true, if_false, true_or, or_true, false_or, or_false, true_and, and_true, false_and, and_false, not_true_eq_false, not_false_eq_true, iff_self, ite_self, ne_eq, true_implies, implies_true, Bool.false_eq_true, decide_true, decide_false, Bool.or_true, Bool.or_false, Bool.true_or, Bool.false_or]
      rw [ew] at hp3
      refine ⟨h', fr, ?_⟩
      rw [x95_20]
      simp only [x95_0, x95_1, x95_4, x95_5, x95_6, x95_9, x95_10, x95_11, x95_13, x95_14, x95_16, x95_17, x95_18, x95_22, x95_23, x95_26, x95_29, x95_30, x95_31, x95_34, x95_35, x95_38, x95_40, x95_43, x95_46, x95_47, x95_50, x95_51, x95_54, x95_57, x95_58, x95_61, x95_63, x95_66, x95_67, x95_70, x95_71, x95_74, x95_77, x95_79, x95_80, x95_82, x95_85, x95_87, x95_88, x95_91, x95_93, x95_94, x95_96, x95_97, x95_100, x95_103, x95_104, x95_107, x95_108, x95_111, x95_112, pv_some, pv_none, c1_int, c1_ref, c1_null, true_and, and_true, ne_eq, not_false_eq_true, not_true_eq_false, if_true, if_false, reduceCtorEq, Option.some.injEq, Value.int.injEq, absI_fold, minI_fold, maxI_fold, b_s g1, b_r6 g1, b_r7 g1, cs22 g1, cs24 g1, m_nz, I1.2.1, I.nz, inn_s g1 I.1.2.1, k_beds g1 I.1.2.1, e6, nI_m1 hn6.1, nI_lt_iff (show k < 2 ^ 31 by omega) (show n - 1 < 2 ^ 31 by omega), hk, k_isStuffed g1 l22, e1, st, bi_zero, nI_add1, k_lieCopy g1 (Or.inr rfl), b_s g2, b_r7 g2, cs24 g2, k_turnWall g2 l24, et, b_s g3, b_r7 g3, I3.2.1, inn_s g3 I.1.2.1, k_wakingsOfNight I3.1 l24, ni, if_true, if_false, true_or, or_true, false_or, or_false, true_and, and_true, false_and, and_false, not_true_eq_false, not_false_eq_true, iff_self, ite_self, ne_eq, true_implies, implies_true, Bool.false_eq_true, decide_true, decide_false, Bool.or_true, Bool.or_false, Bool.true_or, Bool.false_or]
      generalize wtC h a G k = s0 at *
      generalize nightC h a G (hI h 22 1 ^^^ 1 <<< (nI k &&& 31)) = v0 at *
      by_cases c1 : s0.1 = -4
      · simp only [c1, if_true, if_false, true_or, or_true, false_or, or_false, true_and, and_true, false_and, and_false, not_true_eq_false, not_false_eq_true, iff_self, ite_self, ne_eq, true_implies, implies_true, Bool.false_eq_true, decide_true, decide_false, Bool.or_true, Bool.or_false, Bool.true_or, Bool.false_or] at hp3 ⊢
        exact hp3
      · by_cases c2 : v0 < s0.2
        · simp only [c1, c2, if_true, if_false, true_or, or_true, false_or, or_false, true_and, and_true, false_and, and_false, not_true_eq_false, not_false_eq_true, iff_self, ite_self, ne_eq, true_implies, implies_true, Bool.false_eq_true, decide_true, decide_false, Bool.or_true, Bool.or_false, Bool.true_or, Bool.false_or] at hp3 ⊢
          exact hp3
        · simp only [c1, c2, if_true, if_false, true_or, or_true, false_or, or_false, true_and, and_true, false_and, and_false, not_true_eq_false, not_false_eq_true, iff_self, ite_self, ne_eq, true_implies, implies_true, Bool.false_eq_true, decide_true, decide_false, Bool.or_true, Bool.or_false, Bool.true_or, Bool.false_or] at hp3 ⊢
          exact hp3
  · have I1 := W.CI I
    have g1 := I1.1.1
    have e6 : hI h1 a 6 = nI n := by rw [show hI h1 a = hI h a from W.inn I.2.2 (c := 0) (by decide)]; exact hn
    refine ⟨h1, W, ?_⟩
    rw [x95_20]
    simp only [x95_0, x95_1, x95_4, x95_5, x95_6, x95_9, x95_10, x95_11, x95_13, x95_14, x95_16, x95_17, x95_18, x95_22, x95_23, x95_26, x95_29, x95_30, x95_31, x95_34, x95_35, x95_38, x95_40, x95_43, x95_46, x95_47, x95_50, x95_51, x95_54, x95_57, x95_58, x95_61, x95_63, x95_66, x95_67, x95_70, x95_71, x95_74, x95_77, x95_79, x95_80, x95_82, x95_85, x95_87, x95_88, x95_91, x95_93, x95_94, x95_96, x95_97, x95_100, x95_103, x95_104, x95_107, x95_108, x95_111, x95_112, pv_some, pv_none, c1_int, c1_ref, c1_null, true_and, and_true, ne_eq, not_false_eq_true, not_true_eq_false, if_true, if_false, reduceCtorEq, Option.some.injEq, Value.int.injEq, absI_fold, minI_fold, maxI_fold, b_s g1, m_nz, I1.2.1, I.nz, inn_s g1 I.1.2.1, k_beds g1 I.1.2.1, e6, nI_m1 hn6.1, nI_lt_iff (show n - 1 < 2 ^ 31 by omega) (show n - 1 < 2 ^ 31 by omega), Nat.lt_irrefl, if_true, if_false, true_or, or_true, false_or, or_false, true_and, and_true, false_and, and_false, not_true_eq_false, not_false_eq_true, iff_self, ite_self, ne_eq, true_implies, implies_true, Bool.false_eq_true, decide_true, decide_false, Bool.or_true, Bool.or_false, Bool.true_or, Bool.false_or]
    by_cases x0 : x = 0 <;> simp only [x0, if_true, if_false, true_or, or_true, false_or, or_false, true_and, and_true, false_and, and_false, not_true_eq_false, not_false_eq_true, iff_self, ite_self, ne_eq, true_implies, implies_true, Bool.false_eq_true, decide_true, decide_false, Bool.or_true, Bool.or_false, Bool.true_or, Bool.false_or]
theorem c_wallToNo (h0 : x ≠ 0) (h1 : x ≠ 1) : X 95 0 [.ref 3, .int x, .null, .null, .null, .null] [] h Q ↔ Q (some (.int (-1))) h := by
  simp only [x95_0, x95_1, x95_4, x95_5, x95_6, x95_9, x95_10, x95_11, x95_13, x95_14, x95_16, x95_17, x95_18, x95_22, x95_23, x95_26, x95_29, x95_30, x95_31, x95_34, x95_35, x95_38, x95_40, x95_43, x95_46, x95_47, x95_50, x95_51, x95_54, x95_57, x95_58, x95_61, x95_63, x95_66, x95_67, x95_70, x95_71, x95_74, x95_77, x95_79, x95_80, x95_82, x95_85, x95_87, x95_88, x95_91, x95_93, x95_94, x95_96, x95_97, x95_100, x95_103, x95_104, x95_107, x95_108, x95_111, x95_112, pv_some, pv_none, c1_int, c1_ref, c1_null, true_and, and_true, ne_eq, not_false_eq_true, not_true_eq_false, if_true, if_false, reduceCtorEq, Option.some.injEq, Value.int.injEq, absI_fold, minI_fold, maxI_fold, h0, h1, if_true, if_false, true_or, or_true, false_or, or_false, true_and, and_true, false_and, and_false, not_true_eq_false, not_false_eq_true, iff_self, ite_self, ne_eq, true_implies, implies_true, Bool.false_eq_true, decide_true, decide_false, Bool.or_true, Bool.or_false, Bool.true_or, Bool.false_or]
end CLS4
