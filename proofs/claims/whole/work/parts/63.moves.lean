/-! THE CLASS: moves -/
def FMs (c : Nat → Nat → Prop) (G n : Nat) (ans : Int32) : Prop := (∃ i b, i < G ∧ b < n ∧ c i b ∧ (∀ i' b', i' < G → b' < n → c i' b' → i < i' ∨ i = i' ∧ b ≤ b') ∧ ans = nI (8 * i + b)) ∨ ((∀ i b, i < G → b < n → ¬ c i b) ∧ ans = -4)
theorem FMs_uniq {c c' : Nat → Nat → Prop} {G n : Nat} {x y : Int32} (h : FMs c G n x) (h' : FMs c' G n y) (e : ∀ i b, i < G → b < n → (c i b ↔ c' i b)) : x = y := by
  rcases h with ⟨i, b, h1, h2, h3, h4, h5⟩ | ⟨h1, h2⟩
  · rcases h' with ⟨i', b', q1, q2, q3, q4, q5⟩ | ⟨q1, q2⟩
    · have a1 := h4 i' b' q1 q2 ((e i' b' q1 q2).mpr q3)
      have a2 := q4 i b h1 h2 ((e i b h1 h2).mp h3)
      rw [h5, q5]
      congr 1
      omega
    · exact absurd ((e i b h1 h2).mp h3) (q1 i b h1 h2)
  · rcases h' with ⟨i', b', q1, q2, q3, q4, q5⟩ | ⟨q1, q2⟩
    · exact absurd ((e i' b' q1 q2).mpr q3) (h1 i' b' q1 q2)
    · rw [h2, q2]
def MVS (E : Nat → Nat → Prop) (s0 g : Nat) (x : Int32) (mv : Nat → Nat → Prop) (nx : Nat → Nat → Nat) (G n : Nat) (ans : Int32) : Prop := ((∀ m, ¬ Bl E s0 m g) ∧ ans = -4) ∨ ∃ d, Ly E s0 d g ∧ ((x = 0 ∧ ans = nI d) ∨ (x ≠ 0 ∧ d = 0 ∧ ans = -4) ∨ (x ≠ 0 ∧ ∃ e, d = e + 1 ∧ FMs (fun i b => mv i b ∧ Ly E s0 e (nx i b)) G n ans))
section MOVES
variable {h h1 : aH} {a c G i j k z n w d T u du : Nat} {Q : Option Value → aH → Prop} {L P : Nat → Nat} {s : St} {Lt Pv : Nat → Int32} {po x : Int32}
theorem bits_zero {c : Nat → Bool} (hG : G ≤ 5) : bitsF c G = 0 ↔ ∀ j, j < G → c j = false := by
  constructor
  · intro e j hj
    have := bitsF_at (c := c) hG hj
    rw [e] at this
    have z : (0 : Int32) >>> (nI j &&& 31) &&& 1 = 0 := by
      rw [Int32.zero_shiftRight]
      decide
    rw [z] at this
    have h2 : (bi (c j = true) = 0) = ¬ c j = true := bi_zero _
    have h3 : ¬ c j = true := h2 ▸ this.symm
    simpa using h3
  · intro hc
    have key : ∀ m, m ≤ G → bitsF c m = 0 := by
      intro m
      induction m with
      | zero => intro _; rfl
      | succ m ih =>
        intro hm
        have i := ih (by omega)
        unfold bitsF at i ⊢
        rw [foldN, i, hc m (by omega)]
        rfl
    exact key G (Nat.le_refl G)
theorem empty_iff {b : Int32} : emptyF Pv b G = true ↔ ∀ j, j < G → Pv j ≠ b := by
  unfold emptyF
  constructor
  · intro q j hj e
    have q' : ¬ fstN (fun i => decide (Pv i = b)) G < G := by simpa using q
    have hle := fstN_le (fun i => decide (Pv i = b)) G
    have := fstN_no (fun i => decide (Pv i = b)) G j (by omega)
    exact absurd e (of_decide_eq_false this)
  · intro q
    have : ¬ fstN (fun i => decide (Pv i = b)) G < G := fun z => q _ z (of_decide_eq_true (fstN_yes (fun i => decide (Pv i = b)) G z))
    simp [this]
theorem may_cls (hG : G ≤ 5) (hP : ∀ j, j < G → Pv j = nI (P j) ∧ P j < 6) {b : Nat} (hb : b < 6) (hi : i < G) : (emptyF Pv (nI b) G = true ∧ bitsF (rousC Lt Pv po (Pv i) (nI b)) G = 0) ↔ allB (mayB P Lt po i b) G = true := by
  rw [may_iff, empty_iff, bits_zero hG]
  obtain ⟨ei, li⟩ := hP i hi
  have be : ∀ j, j < G → ((P i < P j ∧ P j < b ∨ P j < P i ∧ b < P j) ↔ (minI (Pv i) (nI b) < Pv j ∧ Pv j < maxI (Pv i) (nI b))) := by
    intro j hj
    obtain ⟨ej, lj⟩ := hP j hj
    rw [← betw, ei, ej, nI_lt_iff (by omega) (by omega), nI_lt_iff (by omega) (by omega), nI_lt_iff (by omega) (by omega), nI_lt_iff (by omega) (by omega)]
  constructor
  · rintro ⟨q1, q2⟩
    refine ⟨fun j hj e => q1 j hj (by rw [(hP j hj).1, e]), fun j hj hb => ?_⟩
    have := q2 j hj
    have bb := (be j hj).mp hb
    unfold rousC at this
    simp only [bb.1, bb.2, decide_true, Bool.true_and, Bool.not_eq_false', decide_eq_true_eq] at this
    exact this
  · rintro ⟨q1, q2⟩
    refine ⟨fun j hj e => q1 j hj ?_, fun j hj => ?_⟩
    · rw [(hP j hj).1] at e
      have lj := (hP j hj).2
      exact (nI_eq_iff (by omega) (by omega)).mp e
    · unfold rousC
      by_cases c0 : minI (Pv i) (nI b) < Pv j ∧ Pv j < maxI (Pv i) (nI b)
      · have := q2 j hj ((be j hj).mpr c0)
        simp [this]
      · by_cases c1 : minI (Pv i) (nI b) < Pv j
        · have c2 : ¬ Pv j < maxI (Pv i) (nI b) := fun z => c0 ⟨c1, z⟩
          simp [c2]
        · simp [c1]
theorem k_firstMove (C : CW h a G n) (v : VL n G P) (hP : ∀ i, i < G → hI h 23 i = nI (P i)) (S : SQ h h1 n G s) {e : Nat} (he : s.1 (numN P n G) = some (e + 1)) : ∃ ans h', CF h h' ∧ FMs (fun i b => asP h a G n P i b ∧ s.1 (numN (updL P i b) n G) = some e) G n ans ∧ ∀ Q : Option Value → aH → Prop, X 54 0 [.ref 12, .ref a, .ref 22, .ref 11, .null, .null, .null, .null] [] h1 Q ↔ Q (some (.int ans)) h' := by
  have hf := fal_pos C.2.2.2
  have I := C.1
  have h5 := I.1.2.2.2
  obtain ⟨b1, b2, b3⟩ := C.2.2.2
  have C1 := C.CF S.1
  have g1 := C1.1.1.1
  have e1 := S.bd hf.2 _ _ he
  have hP1 : ∀ i, i < G → hI h1 23 i = nI (P i) := fun i hi => by rw [S.1.2 23 i (by decide) (by decide) (by decide)]; exact hP i hi
  have kd1 := fun Q : Option Value → aH → Prop => k_distanceOf (Q := Q) C S (Or.inr rfl) hP1 v
  rw [he] at kd1
  -- the heap with the places copied
  generalize hH : setL h1 15 (lv h1 22) = H
  have FH : CF h H := by rw [← hH]; exact S.1.lie (Or.inl rfl) _
  have CH := C.CF FH
  have gH := CH.1.1.1
  have eH : ∀ i, i < G → hI H 16 i = nI (P i) := fun i hi => by
    rw [← hH, setL_lo h1 15 _ (show i < 5 by omega), lv_lo h1 22 (show i < 5 by omega)]
    exact hP1 i hi
  have SH : SQ h H n G s := ⟨FH, S.2.1.congr (fun b j q1 q2 => by rw [← hH, setL_o (by omega) (by omega)]), S.2.2⟩
  have a4 : hI H (a + 4) = hI h (a + 4) := FH.inn I.2.2 (c := 4) (by decide)
  have a0 : hI H a = hI h a := FH.inn I.2.2 (c := 0) (by decide)
  suffices hs : ∃ ans h', CF h h' ∧ FMs (fun i b => asP h a G n P i b ∧ s.1 (numN (updL P i b) n G) = some e) G n ans ∧ ∀ Q : Option Value → aH → Prop, X 54 24 [.ref 12, .ref a, .ref 22, .ref 11, .int (nI e), .int 0, .null, .null] [] H Q ↔ Q (some (.int ans)) h' by
    obtain ⟨ans, h', F', M', k'⟩ := hs
    refine ⟨ans, h', F', M', fun Q => ?_⟩
    have kk := k' Q
    have ee : nI (e + 1) - 1 = nI e := nI_m1 (by omega)
    simp only [x54_0, x54_1, x54_2, x54_5, x54_6, x54_9, x54_10, x54_11, x54_13, x54_14, x54_17, x54_18, x54_21, x54_22, x54_26, x54_27, x54_30, x54_33, x54_35, x54_36, x54_39, x54_40, x54_43, x54_45, x54_48, x54_50, x54_51, x54_55, x54_56, x54_59, x54_62, x54_63, x54_66, x54_68, x54_69, x54_72, x54_75, x54_78, x54_79, x54_81, x54_83, x54_84, x54_87, x54_90, x54_93, x54_94, x54_97, x54_100, x54_102, x54_104, x54_105, x54_106, x54_107, x54_110, x54_113, x54_114, x54_117, x54_119, x54_122, x54_124, x54_126, x54_127, x54_129, x54_130, x54_131, x54_132, x54_135, x54_138, x54_140, x54_142, x54_143, x54_146, x54_149, x54_152, x54_155, x54_157, pv_some, pv_none, c1_int, c1_ref, c1_null, true_and, and_true, ne_eq, not_false_eq_true, not_true_eq_false, if_true, if_false, reduceCtorEq, Option.some.injEq, Value.int.injEq, absI_fold, minI_fold, maxI_fold, cs22 g1, lie_r g1 l22, ss12 g1, sr3 g1, ss15 g1, m_nz, kd1, dsV, ee, k_lieCopy g1 (Or.inl rfl), hH, if_true, if_false, true_or, or_true, false_or, or_false, true_and, and_true, false_and, and_false, not_true_eq_false, not_false_eq_true, iff_self, ite_self, ne_eq, true_implies, implies_true, Bool.false_eq_true, decide_true, decide_false, Bool.or_true, Bool.or_false, Bool.true_or, Bool.false_or]
    exact kk
  have outer : ∀ m i, i + m = G → (∀ i' b', i' < i → b' < n → ¬ (asP h a G n P i' b' ∧ s.1 (numN (updL P i' b') n G) = some e)) → ∀ l6 l7 : Value, c1 l6 = true → c1 l7 = true → ∃ ans h', CF h h' ∧ FMs (fun i b => asP h a G n P i b ∧ s.1 (numN (updL P i b) n G) = some e) G n ans ∧ ∀ Q : Option Value → aH → Prop, X 54 24 [.ref 12, .ref a, .ref 22, .ref 11, .int (nI e), .int (nI i), l6, l7] [] H Q ↔ Q (some (.int ans)) h' := by
    intro m
    induction m with
    | zero =>
      intro i hi hno l6 l7 q6 q7
      refine ⟨-4, H, FH, Or.inr ⟨fun i' b' q1 q2 => hno i' b' (by omega) q2, rfl⟩, fun Q => ?_⟩
      rw [x54_24]
      simp only [x54_0, x54_1, x54_2, x54_5, x54_6, x54_9, x54_10, x54_11, x54_13, x54_14, x54_17, x54_18, x54_21, x54_22, x54_26, x54_27, x54_30, x54_33, x54_35, x54_36, x54_39, x54_40, x54_43, x54_45, x54_48, x54_50, x54_51, x54_55, x54_56, x54_59, x54_62, x54_63, x54_66, x54_68, x54_69, x54_72, x54_75, x54_78, x54_79, x54_81, x54_83, x54_84, x54_87, x54_90, x54_93, x54_94, x54_97, x54_100, x54_102, x54_104, x54_105, x54_106, x54_107, x54_110, x54_113, x54_114, x54_117, x54_119, x54_122, x54_124, x54_126, x54_127, x54_129, x54_130, x54_131, x54_132, x54_135, x54_138, x54_140, x54_142, x54_143, x54_146, x54_149, x54_152, x54_155, x54_157, pv_some, pv_none, c1_int, c1_ref, c1_null, true_and, and_true, ne_eq, not_false_eq_true, not_true_eq_false, if_true, if_false, reduceCtorEq, Option.some.injEq, Value.int.injEq, absI_fold, minI_fold, maxI_fold, inn_s gH I.1.2.1, k_guests gH I.1.2.1, CH.1.1.2.2.1, nI_lt_iff (show i < 2 ^ 31 by omega) (show G < 2 ^ 31 by omega), show ¬ i < G by omega, if_true, if_false, true_or, or_true, false_or, or_false, true_and, and_true, false_and, and_false, not_true_eq_false, not_false_eq_true, iff_self, ite_self, ne_eq, true_implies, implies_true, Bool.false_eq_true, decide_true, decide_false, Bool.or_true, Bool.or_false, Bool.true_or, Bool.false_or]
    | succ m ih =>
      intro i hi hno l6 l7 q6 q7
      have iG : i < G := by omega
      have vi := v.1 i iG
      have i5 : (nI i < 5) = True := eq_true (nI_lt (b := 5) (by omega) (by decide))
      have inner : ∀ mb b, b + mb = n → (∀ b', b' < b → ¬ (asP h a G n P i b' ∧ s.1 (numN (updL P i b') n G) = some e)) → ∃ ans h', CF h h' ∧ FMs (fun i b => asP h a G n P i b ∧ s.1 (numN (updL P i b) n G) = some e) G n ans ∧ ∀ Q : Option Value → aH → Prop, X 54 53 [.ref 12, .ref a, .ref 22, .ref 11, .int (nI e), .int (nI i), .int (nI (P i)), .int (nI b)] [] H Q ↔ Q (some (.int ans)) h' := by
        intro mb
        induction mb with
        | zero =>
          intro b hb hnb
          obtain ⟨ans, h', F', M', k'⟩ := ih (i + 1) (by omega) (fun i' b' q1 q2 => by
            by_cases q : i' = i
            · subst q; exact hnb b' (by omega)
            · exact hno i' b' (by omega) q2) (.int (nI (P i))) (.int (nI b)) rfl rfl
          refine ⟨ans, h', F', M', fun Q => ?_⟩
          rw [x54_53]
          simp only [x54_0, x54_1, x54_2, x54_5, x54_6, x54_9, x54_10, x54_11, x54_13, x54_14, x54_17, x54_18, x54_21, x54_22, x54_26, x54_27, x54_30, x54_33, x54_35, x54_36, x54_39, x54_40, x54_43, x54_45, x54_48, x54_50, x54_51, x54_55, x54_56, x54_59, x54_62, x54_63, x54_66, x54_68, x54_69, x54_72, x54_75, x54_78, x54_79, x54_81, x54_83, x54_84, x54_87, x54_90, x54_93, x54_94, x54_97, x54_100, x54_102, x54_104, x54_105, x54_106, x54_107, x54_110, x54_113, x54_114, x54_117, x54_119, x54_122, x54_124, x54_126, x54_127, x54_129, x54_130, x54_131, x54_132, x54_135, x54_138, x54_140, x54_142, x54_143, x54_146, x54_149, x54_152, x54_155, x54_157, pv_some, pv_none, c1_int, c1_ref, c1_null, true_and, and_true, ne_eq, not_false_eq_true, not_true_eq_false, if_true, if_false, reduceCtorEq, Option.some.injEq, Value.int.injEq, absI_fold, minI_fold, maxI_fold, inn_s gH I.1.2.1, k_beds gH I.1.2.1, CH.2.2.1, nI_lt_iff (show b < 2 ^ 31 by omega) (show n < 2 ^ 31 by omega), show ¬ b < n by omega, nI_add1, if_true, if_false, true_or, or_true, false_or, or_false, true_and, and_true, false_and, and_false, not_true_eq_false, not_false_eq_true, iff_self, ite_self, ne_eq, true_implies, implies_true, Bool.false_eq_true, decide_true, decide_false, Bool.or_true, Bool.or_false, Bool.true_or, Bool.false_or]
          exact k' Q
        | succ mb ihb =>
          intro b hb hnb
          have bn : b < n := by omega
          have mc := may_cls (Lt := hI h (a + 4)) (Pv := hI H 16) (P := P) (po := hI h a 8) h5 (fun j hj => ⟨eH j hj, Nat.lt_of_lt_of_le (v.1 j hj) b3⟩) (show b < 6 by omega) iG
          have kE := fun Q : Option Value → aH → Prop => k_isEmpty (Q := Q) (q := 15) (b := nI b) gH l15 h5
          have kR := fun Q : Option Value → aH → Prop => k_roused (Q := Q) (q := 15) (b := nI b) CH.1.1 l15 iG
          rw [a4, a0] at kR
          have step : ∀ Q : Option Value → aH → Prop, X 54 53 [.ref 12, .ref a, .ref 22, .ref 11, .int (nI e), .int (nI i), .int (nI (P i)), .int (nI b)] [] H Q ↔ if asP h a G n P i b then X 54 93 [.ref 12, .ref a, .ref 22, .ref 11, .int (nI e), .int (nI i), .int (nI (P i)), .int (nI b)] [] H Q else X 54 53 [.ref 12, .ref a, .ref 22, .ref 11, .int (nI e), .int (nI i), .int (nI (P i)), .int (nI (b + 1))] [] H Q := by
            intro Q
            rw [x54_53]
            by_cases c1 : emptyF (hI H 16) (nI b) G = true
            · by_cases c2 : bitsF (rousC (hI h (a + 4)) (hI H 16) (hI h a 8) (hI H 16 i) (nI b)) G = 0
              · rw [if_pos (mc.mp ⟨c1, c2⟩)]
                simp only [x54_0, x54_1, x54_2, x54_5, x54_6, x54_9, x54_10, x54_11, x54_13, x54_14, x54_17, x54_18, x54_21, x54_22, x54_26, x54_27, x54_30, x54_33, x54_35, x54_36, x54_39, x54_40, x54_43, x54_45, x54_48, x54_50, x54_51, x54_55, x54_56, x54_59, x54_62, x54_63, x54_66, x54_68, x54_69, x54_72, x54_75, x54_78, x54_79, x54_81, x54_83, x54_84, x54_87, x54_90, x54_94, x54_97, x54_100, x54_102, x54_104, x54_105, x54_106, x54_107, x54_110, x54_113, x54_114, x54_117, x54_119, x54_122, x54_124, x54_126, x54_127, x54_129, x54_130, x54_131, x54_132, x54_135, x54_138, x54_140, x54_142, x54_143, x54_146, x54_149, x54_152, x54_155, x54_157, pv_some, pv_none, c1_int, c1_ref, c1_null, true_and, and_true, ne_eq, not_false_eq_true, not_true_eq_false, if_true, if_false, reduceCtorEq, Option.some.injEq, Value.int.injEq, absI_fold, minI_fold, maxI_fold, inn_s gH I.1.2.1, k_beds gH I.1.2.1, CH.2.2.1, nI_lt_iff (show b < 2 ^ 31 by omega) (show n < 2 ^ 31 by omega), bn, ss12 gH, sr3 gH, ss15 gH, m_nz, k_guests gH I.1.2.1, CH.1.1.2.2.1, kE, bi_zero, c1, kR, c2, if_true, if_false, true_or, or_true, false_or, or_false, true_and, and_true, false_and, and_false, not_true_eq_false, not_false_eq_true, iff_self, ite_self, ne_eq, true_implies, implies_true, Bool.false_eq_true, decide_true, decide_false, Bool.or_true, Bool.or_false, Bool.true_or, Bool.false_or]
              · rw [if_neg (fun z => c2 (mc.mpr z).2)]
                simp only [x54_0, x54_1, x54_2, x54_5, x54_6, x54_9, x54_10, x54_11, x54_13, x54_14, x54_17, x54_18, x54_21, x54_22, x54_26, x54_27, x54_30, x54_33, x54_35, x54_36, x54_39, x54_40, x54_43, x54_45, x54_48, x54_50, x54_51, x54_55, x54_56, x54_59, x54_62, x54_63, x54_66, x54_68, x54_69, x54_72, x54_75, x54_78, x54_79, x54_81, x54_83, x54_84, x54_87, x54_90, x54_94, x54_97, x54_100, x54_102, x54_104, x54_105, x54_106, x54_107, x54_110, x54_113, x54_114, x54_117, x54_119, x54_122, x54_124, x54_126, x54_127, x54_129, x54_130, x54_131, x54_132, x54_135, x54_138, x54_140, x54_142, x54_143, x54_146, x54_149, x54_152, x54_155, x54_157, pv_some, pv_none, c1_int, c1_ref, c1_null, true_and, and_true, ne_eq, not_false_eq_true, not_true_eq_false, if_true, if_false, reduceCtorEq, Option.some.injEq, Value.int.injEq, absI_fold, minI_fold, maxI_fold, inn_s gH I.1.2.1, k_beds gH I.1.2.1, CH.2.2.1, nI_lt_iff (show b < 2 ^ 31 by omega) (show n < 2 ^ 31 by omega), bn, ss12 gH, sr3 gH, ss15 gH, m_nz, k_guests gH I.1.2.1, CH.1.1.2.2.1, kE, bi_zero, c1, kR, c2, nI_add1, if_true, if_false, true_or, or_true, false_or, or_false, true_and, and_true, false_and, and_false, not_true_eq_false, not_false_eq_true, iff_self, ite_self, ne_eq, true_implies, implies_true, Bool.false_eq_true, decide_true, decide_false, Bool.or_true, Bool.or_false, Bool.true_or, Bool.false_or]
            · rw [if_neg (fun z => c1 (mc.mpr z).1)]
              simp only [x54_0, x54_1, x54_2, x54_5, x54_6, x54_9, x54_10, x54_11, x54_13, x54_14, x54_17, x54_18, x54_21, x54_22, x54_26, x54_27, x54_30, x54_33, x54_35, x54_36, x54_39, x54_40, x54_43, x54_45, x54_48, x54_50, x54_51, x54_55, x54_56, x54_59, x54_62, x54_63, x54_66, x54_68, x54_69, x54_72, x54_75, x54_78, x54_79, x54_81, x54_83, x54_84, x54_87, x54_90, x54_94, x54_97, x54_100, x54_102, x54_104, x54_105, x54_106, x54_107, x54_110, x54_113, x54_114, x54_117, x54_119, x54_122, x54_124, x54_126, x54_127, x54_129, x54_130, x54_131, x54_132, x54_135, x54_138, x54_140, x54_142, x54_143, x54_146, x54_149, x54_152, x54_155, x54_157, pv_some, pv_none, c1_int, c1_ref, c1_null, true_and, and_true, ne_eq, not_false_eq_true, not_true_eq_false, if_true, if_false, reduceCtorEq, Option.some.injEq, Value.int.injEq, absI_fold, minI_fold, maxI_fold, inn_s gH I.1.2.1, k_beds gH I.1.2.1, CH.2.2.1, nI_lt_iff (show b < 2 ^ 31 by omega) (show n < 2 ^ 31 by omega), bn, ss12 gH, sr3 gH, ss15 gH, m_nz, k_guests gH I.1.2.1, CH.1.1.2.2.1, kE, bi_zero, c1, nI_add1, if_true, if_false, true_or, or_true, false_or, or_false, true_and, and_true, false_and, and_false, not_true_eq_false, not_false_eq_true, iff_self, ite_self, ne_eq, true_implies, implies_true, Bool.false_eq_true, decide_true, decide_false, Bool.or_true, Bool.or_false, Bool.true_or, Bool.false_or]
          by_cases cm : asP h a G n P i b
          · have he' := (may_iff.mp cm).1
            have v2 := v.upd (i := i) bn he'
            have F2 : CF h (sI H 16 i (nI b)) := FH.sI _ (Or.inl ⟨by decide, by decide⟩)
            have g2 := F2.GS C.1.1.1
            have S2 : SQ h (sI H 16 i (nI b)) n G s := ⟨F2, SH.2.1.congr (fun b j q1 q2 => by rw [hI_sI, if_neg (by omega)]), SH.2.2⟩
            have hL2 : ∀ j, j < G → hI (sI H 16 i (nI b)) 16 j = nI (updL P i b j) := fun j hj => by
              rw [hI_sI]
              unfold updL
              by_cases q : j = i
              · rw [if_pos ⟨rfl, q⟩, if_pos q]
              · rw [if_neg (fun z => q z.2), if_neg q]
                exact eH j hj
            have kd := fun Q : Option Value → aH → Prop => k_distanceOf (Q := Q) C S2 (Or.inl rfl) hL2 v2
            have back : sI (sI H 16 i (nI b)) 16 i (nI (P i)) = H := by rw [sI_sI]; exact sI_same (eH i iG)
            have nw := (num_V C.2.2.2 v2).1
            have de : (dsV (s.1 (numN (updL P i b) n G)) = nI e) ↔ s.1 (numN (updL P i b) n G) = some e := by
              constructor
              · intro q
                cases hs : s.1 (numN (updL P i b) n G) with
                | none =>
                  rw [hs] at q
                  exact absurd (show nI e = -4 from q.symm) (fun z => nI_pos (show e < 2 ^ 31 by omega) (z ▸ by decide))
                | some e' =>
                  rw [hs] at q
                  have := S.bd hf.2 _ _ hs
                  have := (nI_eq_iff (show e' < 2 ^ 31 by omega) (show e < 2 ^ 31 by omega)).mp q
                  rw [this]
              · intro q; rw [q]; rfl
            by_cases cd : s.1 (numN (updL P i b) n G) = some e
            · refine ⟨nI (8 * i + b), sI H 16 i (nI b), F2, Or.inl ⟨i, b, iG, bn, ⟨cm, cd⟩, fun i' b' q1 q2 q3 => ?_, rfl⟩, fun Q => ?_⟩
              · by_cases z1 : i' < i
                · exact absurd q3 (hno i' b' z1 q2)
                · by_cases z2 : i' = i
                  · subst z2
                    by_cases z3 : b' < b
                    · exact absurd q3 (hnb b' z3)
                    · omega
                  · omega
              · rw [step Q, if_pos cm]
                have e8 : (8 : Int32) * nI i + nI b = nI (8 * i + b) := by rw [show (8 : Int32) = nI 8 from rfl, nI_mul, nI_addn]
                simp only [x54_0, x54_1, x54_2, x54_5, x54_6, x54_9, x54_10, x54_11, x54_13, x54_14, x54_17, x54_18, x54_21, x54_22, x54_26, x54_27, x54_30, x54_33, x54_35, x54_36, x54_39, x54_40, x54_43, x54_45, x54_48, x54_50, x54_51, x54_55, x54_56, x54_59, x54_62, x54_63, x54_66, x54_68, x54_69, x54_72, x54_75, x54_78, x54_79, x54_81, x54_83, x54_84, x54_87, x54_90, x54_93, x54_94, x54_97, x54_100, x54_102, x54_104, x54_105, x54_106, x54_107, x54_110, x54_113, x54_114, x54_117, x54_119, x54_122, x54_124, x54_126, x54_127, x54_129, x54_130, x54_131, x54_132, x54_135, x54_138, x54_140, x54_142, x54_143, x54_146, x54_149, x54_152, x54_155, x54_157, pv_some, pv_none, c1_int, c1_ref, c1_null, true_and, and_true, ne_eq, not_false_eq_true, not_true_eq_false, if_true, if_false, reduceCtorEq, Option.some.injEq, Value.int.injEq, absI_fold, minI_fold, maxI_fold, ss12 gH, sr3 gH, ss15 gH, sr15 gH, ss16 gH, m_nz, ibwn (show i < 5 by omega) (by decide), nI_cl (show i < 2 ^ 31 by omega), ss12 g2, sr3 g2, ss15 g2, sr15 g2, kd, eq_true (de.mpr cd), e8, if_true, if_false, true_or, or_true, false_or, or_false, true_and, and_true, false_and, and_false, not_true_eq_false, not_false_eq_true, iff_self, ite_self, ne_eq, true_implies, implies_true, Bool.false_eq_true, decide_true, decide_false, Bool.or_true, Bool.or_false, Bool.true_or, Bool.false_or]
            · obtain ⟨ans, h', F', M', k'⟩ := ihb (b + 1) (by omega) (fun b' q => by
                by_cases z : b' = b
                · subst z; exact fun y => cd y.2
                · exact hnb b' (by omega))
              refine ⟨ans, h', F', M', fun Q => ?_⟩
              rw [step Q, if_pos cm]
              have nd : (dsV (s.1 (numN (updL P i b) n G)) = nI e) = False := eq_false (fun z => cd (de.mp z))
              simp only [x54_0, x54_1, x54_2, x54_5, x54_6, x54_9, x54_10, x54_11, x54_13, x54_14, x54_17, x54_18, x54_21, x54_22, x54_26, x54_27, x54_30, x54_33, x54_35, x54_36, x54_39, x54_40, x54_43, x54_45, x54_48, x54_50, x54_51, x54_55, x54_56, x54_59, x54_62, x54_63, x54_66, x54_68, x54_69, x54_72, x54_75, x54_78, x54_79, x54_81, x54_83, x54_84, x54_87, x54_90, x54_93, x54_94, x54_97, x54_100, x54_102, x54_104, x54_105, x54_106, x54_107, x54_110, x54_113, x54_114, x54_117, x54_119, x54_122, x54_124, x54_126, x54_127, x54_129, x54_130, x54_131, x54_132, x54_135, x54_138, x54_140, x54_142, x54_143, x54_146, x54_149, x54_152, x54_155, x54_157, pv_some, pv_none, c1_int, c1_ref, c1_null, true_and, and_true, ne_eq, not_false_eq_true, not_true_eq_false, if_true, if_false, reduceCtorEq, Option.some.injEq, Value.int.injEq, absI_fold, minI_fold, maxI_fold, ss12 gH, sr3 gH, ss15 gH, sr15 gH, ss16 gH, m_nz, ibwn (show i < 5 by omega) (by decide), nI_cl (show i < 2 ^ 31 by omega), ss12 g2, sr3 g2, ss15 g2, sr15 g2, ss16 g2, kd, nd, back, nI_add1, if_true, if_false, true_or, or_true, false_or, or_false, true_and, and_true, false_and, and_false, not_true_eq_false, not_false_eq_true, iff_self, ite_self, ne_eq, true_implies, implies_true, Bool.false_eq_true, decide_true, decide_false, Bool.or_true, Bool.or_false, Bool.true_or, Bool.false_or]
              exact k' Q
          · obtain ⟨ans, h', F', M', k'⟩ := ihb (b + 1) (by omega) (fun b' q => by
              by_cases z : b' = b
              · subst z; exact fun y => cm y.1
              · exact hnb b' (by omega))
            refine ⟨ans, h', F', M', fun Q => ?_⟩
            rw [step Q, if_neg cm]
            exact k' Q
      obtain ⟨ans, h', F', M', k'⟩ := inner n 0 (by omega) (fun b' q => by omega)
      refine ⟨ans, h', F', M', fun Q => ?_⟩
      have kk := k' Q
      have e16 : hI H (15 + 1) i = nI (P i) := eH i iG
      rw [x54_24]
      simp only [x54_0, x54_1, x54_2, x54_5, x54_6, x54_9, x54_10, x54_11, x54_13, x54_14, x54_17, x54_18, x54_21, x54_22, x54_26, x54_27, x54_30, x54_33, x54_35, x54_36, x54_39, x54_40, x54_43, x54_45, x54_48, x54_50, x54_51, x54_55, x54_56, x54_59, x54_62, x54_63, x54_66, x54_68, x54_69, x54_72, x54_75, x54_78, x54_79, x54_81, x54_83, x54_84, x54_87, x54_90, x54_93, x54_94, x54_97, x54_100, x54_102, x54_104, x54_105, x54_106, x54_107, x54_110, x54_113, x54_114, x54_117, x54_119, x54_122, x54_124, x54_126, x54_127, x54_129, x54_130, x54_131, x54_132, x54_135, x54_138, x54_140, x54_142, x54_143, x54_146, x54_149, x54_152, x54_155, x54_157, pv_some, pv_none, c1_int, c1_ref, c1_null, true_and, and_true, ne_eq, not_false_eq_true, not_true_eq_false, if_true, if_false, reduceCtorEq, Option.some.injEq, Value.int.injEq, absI_fold, minI_fold, maxI_fold, inn_s gH I.1.2.1, k_guests gH I.1.2.1, CH.1.1.2.2.1, nI_lt_iff (show i < 2 ^ 31 by omega) (show G < 2 ^ 31 by omega), iG, i5, ss12 gH, sr3 gH, ss15 gH, m_nz, k_placeOf gH l15 (show i < 5 by omega), e16, q6, q7, if_true, if_false, true_or, or_true, false_or, or_false, true_and, and_true, false_and, and_false, not_true_eq_false, not_false_eq_true, iff_self, ite_self, ne_eq, true_implies, implies_true, Bool.false_eq_true, decide_true, decide_false, Bool.or_true, Bool.or_false, Bool.true_or, Bool.false_or]
      exact kk
  exact outer G 0 (by omega) (fun i' b' q => by omega) .null .null rfl rfl
theorem c_moves (C : CW h a G n) (v : VL n G P) (hP : ∀ i, i < G → hI h 23 i = nI (P i)) (hx : x = 0 ∨ x = 1) : ∃ ans h', CF h h' ∧ MVS (EW h a G n) (numN (lwC h a n G) n G) (numN P n G) x (asP h a G n P) (fun i b => numN (updL P i b) n G) G n ans ∧ ∀ Q : Option Value → aH → Prop, X 93 0 [.ref 3, .int x, .null] [] h Q ↔ Q (some (.int ans)) h' := by
  have hf := fal_pos C.2.2.2
  have I := C.1
  have g := I.1.1
  obtain ⟨h1, s, S, M, km⟩ := k_measure C v hP
  have C1 := C.CF S.1
  have g1 := C1.1.1.1
  have hP1 : ∀ i, i < G → hI h1 23 i = nI (P i) := fun i hi => by rw [S.1.2 23 i (by decide) (by decide) (by decide)]; exact hP i hi
  have kd := fun Q : Option Value → aH → Prop => k_distanceOf (Q := Q) C S (Or.inr rfl) hP1 v
  have start : ∀ Q : Option Value → aH → Prop, X 93 0 [.ref 3, .int x, .null] [] h Q ↔ X 93 49 [.ref 3, .int x, .int (dsV (s.1 (numN P n G)))] [] h1 Q := by
    intro Q
    rcases hx with rfl | rfl
    · simp only [x93_0, x93_1, x93_4, x93_5, x93_6, x93_9, x93_10, x93_11, x93_12, x93_15, x93_16, x93_19, x93_20, x93_23, x93_24, x93_27, x93_30, x93_31, x93_34, x93_35, x93_38, x93_41, x93_42, x93_45, x93_48, x93_50, x93_53, x93_54, x93_56, x93_59, x93_60, x93_61, x93_62, x93_65, x93_67, x93_70, x93_71, x93_74, x93_75, x93_78, x93_79, x93_82, x93_83, x93_86, x93_89, pv_some, pv_none, c1_int, c1_ref, c1_null, true_and, and_true, ne_eq, not_false_eq_true, not_true_eq_false, if_true, if_false, reduceCtorEq, Option.some.injEq, Value.int.injEq, absI_fold, minI_fold, maxI_fold, b_s g, b_r0 g, b_r1 g, b_r2 g, b_r3 g, b_r4 g, b_r5 g, b_r6 g, b_r7 g, b_r10 g, cs4 g, cs7 g, cs11 g, cs12 g, cs18 g, cs20 g, cs22 g, cs24 g, cs38 g, m_nz, b_r3 g, I.2.1, I.nz, ss12 g, km, b_s g1, b_r3 g1, b_r6 g1, b_r2 g1, cs22 g1, lie_r g1 l22, ss12 g1, kd, if_true, if_false, true_or, or_true, false_or, or_false, true_and, and_true, false_and, and_false, not_true_eq_false, not_false_eq_true, iff_self, ite_self, ne_eq, true_implies, implies_true, Bool.false_eq_true, decide_true, decide_false, Bool.or_true, Bool.or_false, Bool.true_or, Bool.false_or]
    · simp only [x93_0, x93_1, x93_4, x93_5, x93_6, x93_9, x93_10, x93_11, x93_12, x93_15, x93_16, x93_19, x93_20, x93_23, x93_24, x93_27, x93_30, x93_31, x93_34, x93_35, x93_38, x93_41, x93_42, x93_45, x93_48, x93_50, x93_53, x93_54, x93_56, x93_59, x93_60, x93_61, x93_62, x93_65, x93_67, x93_70, x93_71, x93_74, x93_75, x93_78, x93_79, x93_82, x93_83, x93_86, x93_89, pv_some, pv_none, c1_int, c1_ref, c1_null, true_and, and_true, ne_eq, not_false_eq_true, not_true_eq_false, if_true, if_false, reduceCtorEq, Option.some.injEq, Value.int.injEq, absI_fold, minI_fold, maxI_fold, b_s g, b_r0 g, b_r1 g, b_r2 g, b_r3 g, b_r4 g, b_r5 g, b_r6 g, b_r7 g, b_r10 g, cs4 g, cs7 g, cs11 g, cs12 g, cs18 g, cs20 g, cs22 g, cs24 g, cs38 g, m_nz, b_r3 g, I.2.1, I.nz, ss12 g, km, b_s g1, b_r3 g1, b_r6 g1, b_r2 g1, cs22 g1, lie_r g1 l22, ss12 g1, kd, one_ne, if_true, if_false, true_or, or_true, false_or, or_false, true_and, and_true, false_and, and_false, not_true_eq_false, not_false_eq_true, iff_self, ite_self, ne_eq, true_implies, implies_true, Bool.false_eq_true, decide_true, decide_false, Bool.or_true, Bool.or_false, Bool.true_or, Bool.false_or]
  rcases M with ⟨d, hd, hl, hv⟩ | ⟨hd, hn⟩
  · have d7 := S.bd hf.2 _ _ hd
    have n4 : (nI d = -4) = False := eq_false (fun z => nI_pos (show d < 2 ^ 31 by omega) (z ▸ by decide))
    have dz : (nI d = 0) = (d = 0) := nI_z (by omega)
    rw [hd] at start
    rcases hx with rfl | rfl
    · refine ⟨nI d, h1, S.1, Or.inr ⟨d, hl, Or.inl ⟨rfl, rfl⟩⟩, fun Q => ?_⟩
      rw [start Q]
      simp only [x93_0, x93_1, x93_4, x93_5, x93_6, x93_9, x93_10, x93_11, x93_12, x93_15, x93_16, x93_19, x93_20, x93_23, x93_24, x93_27, x93_30, x93_31, x93_34, x93_35, x93_38, x93_41, x93_42, x93_45, x93_48, x93_49, x93_50, x93_53, x93_54, x93_56, x93_59, x93_60, x93_61, x93_62, x93_65, x93_67, x93_70, x93_71, x93_74, x93_75, x93_78, x93_79, x93_82, x93_83, x93_86, x93_89, pv_some, pv_none, c1_int, c1_ref, c1_null, true_and, and_true, ne_eq, not_false_eq_true, not_true_eq_false, if_true, if_false, reduceCtorEq, Option.some.injEq, Value.int.injEq, absI_fold, minI_fold, maxI_fold, dsV, if_true, if_false, true_or, or_true, false_or, or_false, true_and, and_true, false_and, and_false, not_true_eq_false, not_false_eq_true, iff_self, ite_self, ne_eq, true_implies, implies_true, Bool.false_eq_true, decide_true, decide_false, Bool.or_true, Bool.or_false, Bool.true_or, Bool.false_or]
    · by_cases c0 : d = 0
      · refine ⟨-4, h1, S.1, Or.inr ⟨d, hl, Or.inr (Or.inl ⟨by decide, c0, rfl⟩)⟩, fun Q => ?_⟩
        rw [start Q]
        have z1 : (nI 0 = -4) = False := by decide
        have z2 : (nI 0 = 0) = True := by decide
        simp only [x93_0, x93_1, x93_4, x93_5, x93_6, x93_9, x93_10, x93_11, x93_12, x93_15, x93_16, x93_19, x93_20, x93_23, x93_24, x93_27, x93_30, x93_31, x93_34, x93_35, x93_38, x93_41, x93_42, x93_45, x93_48, x93_49, x93_50, x93_53, x93_54, x93_56, x93_59, x93_60, x93_61, x93_62, x93_65, x93_67, x93_70, x93_71, x93_74, x93_75, x93_78, x93_79, x93_82, x93_83, x93_86, x93_89, pv_some, pv_none, c1_int, c1_ref, c1_null, true_and, and_true, ne_eq, not_false_eq_true, not_true_eq_false, if_true, if_false, reduceCtorEq, Option.some.injEq, Value.int.injEq, absI_fold, minI_fold, maxI_fold, dsV, one_ne, c0, z1, z2, if_true, if_false, true_or, or_true, false_or, or_false, true_and, and_true, false_and, and_false, not_true_eq_false, not_false_eq_true, iff_self, ite_self, ne_eq, true_implies, implies_true, Bool.false_eq_true, decide_true, decide_false, Bool.or_true, Bool.or_false, Bool.true_or, Bool.false_or]
      · obtain ⟨e, rfl⟩ : ∃ e, d = e + 1 := ⟨d - 1, by omega⟩
        obtain ⟨ans, h', F', M', k'⟩ := k_firstMove C v hP S hd
        refine ⟨ans, h', F', Or.inr ⟨e + 1, hl, Or.inr (Or.inr ⟨by decide, e, rfl, ?_⟩)⟩, fun Q => ?_⟩
        · have : (fun i b => asP h a G n P i b ∧ s.1 (numN (updL P i b) n G) = some e) = fun i b => asP h a G n P i b ∧ Ly (EW h a G n) (numN (lwC h a n G) n G) e (numN (updL P i b) n G) := by
            funext i b
            rw [hv _ e (by omega)]
          rw [← this]
          exact M'
        · rw [start Q]
          simp only [x93_0, x93_1, x93_4, x93_5, x93_6, x93_9, x93_10, x93_11, x93_12, x93_15, x93_16, x93_19, x93_20, x93_23, x93_24, x93_27, x93_30, x93_31, x93_34, x93_35, x93_38, x93_41, x93_42, x93_45, x93_48, x93_49, x93_50, x93_53, x93_54, x93_56, x93_59, x93_60, x93_61, x93_62, x93_65, x93_67, x93_70, x93_71, x93_74, x93_75, x93_78, x93_79, x93_82, x93_83, x93_86, x93_89, pv_some, pv_none, c1_int, c1_ref, c1_null, true_and, and_true, ne_eq, not_false_eq_true, not_true_eq_false, if_true, if_false, reduceCtorEq, Option.some.injEq, Value.int.injEq, absI_fold, minI_fold, maxI_fold, dsV, one_ne, n4, dz, c0, b_s g1, b_r3 g1, b_r6 g1, b_r2 g1, C1.1.2.1, I.nz, m_nz, ss12 g1, k', if_true, if_false, true_or, or_true, false_or, or_false, true_and, and_true, false_and, and_false, not_true_eq_false, not_false_eq_true, iff_self, ite_self, ne_eq, true_implies, implies_true, Bool.false_eq_true, decide_true, decide_false, Bool.or_true, Bool.or_false, Bool.true_or, Bool.false_or]
  · rw [hd] at start
    refine ⟨-4, h1, S.1, Or.inl ⟨hn, rfl⟩, fun Q => ?_⟩
    rw [start Q]
    rcases hx with rfl | rfl
    · simp only [x93_0, x93_1, x93_4, x93_5, x93_6, x93_9, x93_10, x93_11, x93_12, x93_15, x93_16, x93_19, x93_20, x93_23, x93_24, x93_27, x93_30, x93_31, x93_34, x93_35, x93_38, x93_41, x93_42, x93_45, x93_48, x93_49, x93_50, x93_53, x93_54, x93_56, x93_59, x93_60, x93_61, x93_62, x93_65, x93_67, x93_70, x93_71, x93_74, x93_75, x93_78, x93_79, x93_82, x93_83, x93_86, x93_89, pv_some, pv_none, c1_int, c1_ref, c1_null, true_and, and_true, ne_eq, not_false_eq_true, not_true_eq_false, if_true, if_false, reduceCtorEq, Option.some.injEq, Value.int.injEq, absI_fold, minI_fold, maxI_fold, dsV, if_true, if_false, true_or, or_true, false_or, or_false, true_and, and_true, false_and, and_false, not_true_eq_false, not_false_eq_true, iff_self, ite_self, ne_eq, true_implies, implies_true, Bool.false_eq_true, decide_true, decide_false, Bool.or_true, Bool.or_false, Bool.true_or, Bool.false_or]
    · simp only [x93_0, x93_1, x93_4, x93_5, x93_6, x93_9, x93_10, x93_11, x93_12, x93_15, x93_16, x93_19, x93_20, x93_23, x93_24, x93_27, x93_30, x93_31, x93_34, x93_35, x93_38, x93_41, x93_42, x93_45, x93_48, x93_49, x93_50, x93_53, x93_54, x93_56, x93_59, x93_60, x93_61, x93_62, x93_65, x93_67, x93_70, x93_71, x93_74, x93_75, x93_78, x93_79, x93_82, x93_83, x93_86, x93_89, pv_some, pv_none, c1_int, c1_ref, c1_null, true_and, and_true, ne_eq, not_false_eq_true, not_true_eq_false, if_true, if_false, reduceCtorEq, Option.some.injEq, Value.int.injEq, absI_fold, minI_fold, maxI_fold, dsV, one_ne, if_true, if_false, true_or, or_true, false_or, or_false, true_and, and_true, false_and, and_false, not_true_eq_false, not_false_eq_true, iff_self, ite_self, ne_eq, true_implies, implies_true, Bool.false_eq_true, decide_true, decide_false, Bool.or_true, Bool.or_false, Bool.true_or, Bool.false_or]
theorem c_movesNo (h0 : x ≠ 0) (h1 : x ≠ 1) : X 93 0 [.ref 3, .int x, .null] [] h Q ↔ Q (some (.int (-1))) h := by
  simp only [x93_0, x93_1, x93_4, x93_5, x93_6, x93_9, x93_10, x93_11, x93_12, x93_15, x93_16, x93_19, x93_20, x93_23, x93_24, x93_27, x93_30, x93_31, x93_34, x93_35, x93_38, x93_41, x93_42, x93_45, x93_48, x93_49, x93_50, x93_53, x93_54, x93_56, x93_59, x93_60, x93_61, x93_62, x93_65, x93_67, x93_70, x93_71, x93_74, x93_75, x93_78, x93_79, x93_82, x93_83, x93_86, x93_89, pv_some, pv_none, c1_int, c1_ref, c1_null, true_and, and_true, ne_eq, not_false_eq_true, not_true_eq_false, if_true, if_false, reduceCtorEq, Option.some.injEq, Value.int.injEq, absI_fold, minI_fold, maxI_fold, h0, h1, if_true, if_false, true_or, or_true, false_or, or_false, true_and, and_true, false_and, and_false, not_true_eq_false, not_false_eq_true, iff_self, ite_self, ne_eq, true_implies, implies_true, Bool.false_eq_true, decide_true, decide_false, Bool.or_true, Bool.or_false, Bool.true_or, Bool.false_or]
end MOVES
