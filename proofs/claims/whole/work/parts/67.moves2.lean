/-! THE REFERENCE: moves -/
section MOVES2
variable {h h1 : aH} {D : Nat → Int32} {i j k z n G c d r w N : Nat} {Q : Option Value → aH → Prop} {x y b hr : Int32} {L P : Nat → Nat} {s : St} {ans : Int32}
theorem FMs_congr {c c' : Nat → Nat → Prop} (e : ∀ i b, i < G → b < n → (c i b ↔ c' i b)) (h : FMs c G n ans) : FMs c' G n ans := by
  rcases h with ⟨i, b, h1, h2, h3, h4, h5⟩ | ⟨h1, h2⟩
  · exact Or.inl ⟨i, b, h1, h2, (e i b h1 h2).mp h3, fun i' b' q1 q2 q3 => h4 i' b' q1 q2 ((e i' b' q1 q2).mpr q3), h5⟩
  · exact Or.inr ⟨fun i b q1 q2 q3 => h1 i b q1 q2 ((e i b q1 q2).mpr q3), h2⟩
/-- pairs not ahead of (i, b) -/
def domP (i b i' b' : Nat) : Prop := i < i' ∨ i' = i ∧ b ≤ b'
theorem m_moves (A : MA h D) (hn : D 1 = nI n) (B : BG n (gN D)) (hP : ∀ i, i < gN D → hI h 48 i = nI (P i)) (v : VL n (gN D) P) (hx : x = 0 ∨ x = 1) : ∃ ans h', SF h h' ∧ MVS (EC D n) (codeN (lwM (asH h) D n) (gN D)) (codeN P (gN D)) x (mvM D P) (fun i b => codeN (updL P i b) (gN D)) (gN D) n ans ∧ ∀ Q : Option Value → aH → Prop, X 163 0 [.ref 44, .int x, .null, .null, .null, .null] [] h Q ↔ Q (some (.int ans)) h' := by
  have g := A.1
  have h5 := A.g5
  have p6 : 6 ^ gN D ≤ 7776 := Nat.pow_le_pow_right (by decide : 0 < 6) h5
  obtain ⟨b1, b2, b3⟩ := B
  have Aa := A.SF (as_SF h)
  have ga := Aa.1
  obtain ⟨h1, s, F1, R1, k1⟩ := m_laysFars Aa hn ⟨b1, b2, b3⟩
  have S1 : SF h h1 := (as_SF h).trans F1.1
  have A1 := A.SF S1
  have g1 := A1.1
  -- the heap as it is again
  generalize hH : asH h1 = H
  have SH : SF h H := by rw [← hH]; exact S1.trans (as_SF h1)
  have AH := A.SF SH
  have gH := AH.1
  have e48 : ∀ i, i < gN D → hI H 48 i = nI (P i) := fun i hi => by rw [SH.2 48 i (by decide) (by decide) (by omega)]; exact hP i hi
  have e52 : ∀ i, i < gN D → hI H 52 i = nI (P i) := fun i hi => by
    rw [← hH, as52 (show i < 5 by omega), S1.2 48 i (by decide) (by decide) (by omega)]
    exact hP i hi
  have e52' : ∀ i, i < gN D → hI H 52 i = nI (P i) ∧ P i < 6 := fun i hi => ⟨e52 i hi, Nat.lt_of_lt_of_le (v.1 i hi) b3⟩
  have e54 : ∀ c, c < 6 ^ gN D → hI H 54 c = frV (s.1 c) := fun c hc => by
    rw [← hH]
    unfold asH
    rw [hI_wI, if_neg (by omega), if_neg (by omega), if_neg (by omega), if_neg (by omega), if_neg (by omega)]
    exact F1.2.1 c hc
  have eb : hI H 46 1 = nI n := (AH.2.2.1 1 (by omega)).trans hn
  have cP := codeN_lt (fun i hi => (e52' i hi).2)
  have kc := fun Q : Option Value → aH → Prop => m_codeOf (Q := Q) AH e52
  have inx : ¬ x < 0 ∧ ¬ 1 < x := by rcases hx with rfl | rfl <;> decide
  have start : ∀ Q : Option Value → aH → Prop, X 163 0 [.ref 44, .int x, .null, .null, .null, .null] [] h Q ↔ X 163 33 [.ref 44, .int x, .int (frV (s.1 (codeN P (gN D)))), .null, .null, .null] [] H Q := by
    intro Q
    simp only [x163_0, x163_1, x163_2, x163_3, x163_6, x163_9, x163_10, x163_11, x163_12, x163_15, x163_16, x163_19, x163_20, x163_23, x163_24, x163_27, x163_28, x163_31, x163_32, x163_34, x163_37, x163_39, x163_40, x163_41, x163_44, x163_45, x163_46, x163_48, x163_49, x163_50, x163_53, x163_54, x163_55, x163_56, x163_57, x163_61, x163_64, x163_65, x163_68, x163_69, x163_72, x163_73, x163_74, x163_75, x163_76, x163_80, x163_83, x163_84, x163_86, x163_88, x163_91, x163_94, x163_95, x163_98, x163_100, x163_102, x163_103, x163_104, x163_107, x163_108, x163_111, x163_112, x163_113, x163_114, x163_115, x163_118, x163_120, x163_122, x163_123, x163_125, x163_126, x163_129, x163_130, x163_131, x163_132, x163_135, x163_137, x163_138, x163_141, x163_143, x163_144, x163_145, x163_148, x163_151, x163_154, x163_157, x163_158, pv_some, pv_none, c1_int, c1_ref, c1_null, true_and, and_true, ne_eq, not_false_eq_true, not_true_eq_false, if_true, if_false, reduceCtorEq, Option.some.injEq, Value.int.injEq, absI_fold, minI_fold, maxI_fold, m_in, bi_zero, inx, m_s g, m_asItIs g, m_s ga, k1, m_s g1, m_asItIs g1, hH, m_s gH, m_r17 gH, m_s54 gH, m_nz, kc, ibn (show codeN P (gN D) < 7776 by omega) (by decide), nI_cl (show codeN P (gN D) < 2 ^ 31 by omega), e54 _ cP, if_true, if_false, true_or, or_true, false_or, or_false, true_and, and_true, false_and, and_false, not_true_eq_false, not_false_eq_true, iff_self, ite_self, ne_eq, true_implies, implies_true, Bool.false_eq_true, decide_true, decide_false, Bool.or_true, Bool.or_false, Bool.true_or, Bool.false_or]
  have bd : ∀ v e, s.1 v = some e → e < 100000 := F1.2.2
  cases hg : s.1 (codeN P (gN D)) with
  | none =>
    refine ⟨-4, H, SH, Or.inl ⟨(R1 _).2.mp hg, rfl⟩, fun Q => ?_⟩
    rw [start Q, hg]
    simp only [x163_0, x163_1, x163_2, x163_3, x163_6, x163_9, x163_10, x163_11, x163_12, x163_15, x163_16, x163_19, x163_20, x163_23, x163_24, x163_27, x163_28, x163_31, x163_32, x163_33, x163_34, x163_37, x163_39, x163_40, x163_41, x163_44, x163_45, x163_46, x163_48, x163_49, x163_50, x163_53, x163_54, x163_55, x163_56, x163_57, x163_61, x163_64, x163_65, x163_68, x163_69, x163_72, x163_73, x163_74, x163_75, x163_76, x163_80, x163_83, x163_84, x163_86, x163_88, x163_91, x163_94, x163_95, x163_98, x163_100, x163_102, x163_103, x163_104, x163_107, x163_108, x163_111, x163_112, x163_113, x163_114, x163_115, x163_118, x163_120, x163_122, x163_123, x163_125, x163_126, x163_129, x163_130, x163_131, x163_132, x163_135, x163_137, x163_138, x163_141, x163_143, x163_144, x163_145, x163_148, x163_151, x163_154, x163_157, x163_158, pv_some, pv_none, c1_int, c1_ref, c1_null, true_and, and_true, ne_eq, not_false_eq_true, not_true_eq_false, if_true, if_false, reduceCtorEq, Option.some.injEq, Value.int.injEq, absI_fold, minI_fold, maxI_fold, frV, show ((-1 : Int32) < 0) = True by decide, if_true, if_false, true_or, or_true, false_or, or_false, true_and, and_true, false_and, and_false, not_true_eq_false, not_false_eq_true, iff_self, ite_self, ne_eq, true_implies, implies_true, Bool.false_eq_true, decide_true, decide_false, Bool.or_true, Bool.or_false, Bool.true_or, Bool.false_or]
  | some d =>
    have hl := ((R1 _).1 d).mp hg
    have dl := bd _ _ hg
    rw [hg] at start
    rcases hx with rfl | rfl
    · refine ⟨nI d, H, SH, Or.inr ⟨d, hl, Or.inl ⟨rfl, rfl⟩⟩, fun Q => ?_⟩
      rw [start Q]
      simp only [x163_0, x163_1, x163_2, x163_3, x163_6, x163_9, x163_10, x163_11, x163_12, x163_15, x163_16, x163_19, x163_20, x163_23, x163_24, x163_27, x163_28, x163_31, x163_32, x163_33, x163_34, x163_37, x163_39, x163_40, x163_41, x163_44, x163_45, x163_46, x163_48, x163_49, x163_50, x163_53, x163_54, x163_55, x163_56, x163_57, x163_61, x163_64, x163_65, x163_68, x163_69, x163_72, x163_73, x163_74, x163_75, x163_76, x163_80, x163_83, x163_84, x163_86, x163_88, x163_91, x163_94, x163_95, x163_98, x163_100, x163_102, x163_103, x163_104, x163_107, x163_108, x163_111, x163_112, x163_113, x163_114, x163_115, x163_118, x163_120, x163_122, x163_123, x163_125, x163_126, x163_129, x163_130, x163_131, x163_132, x163_135, x163_137, x163_138, x163_141, x163_143, x163_144, x163_145, x163_148, x163_151, x163_154, x163_157, x163_158, pv_some, pv_none, c1_int, c1_ref, c1_null, true_and, and_true, ne_eq, not_false_eq_true, not_true_eq_false, if_true, if_false, reduceCtorEq, Option.some.injEq, Value.int.injEq, absI_fold, minI_fold, maxI_fold, frV, nI_neg (show d < 2 ^ 31 by omega), if_true, if_false, true_or, or_true, false_or, or_false, true_and, and_true, false_and, and_false, not_true_eq_false, not_false_eq_true, iff_self, ite_self, ne_eq, true_implies, implies_true, Bool.false_eq_true, decide_true, decide_false, Bool.or_true, Bool.or_false, Bool.true_or, Bool.false_or]
    · have st2 : ∀ Q : Option Value → aH → Prop, X 163 0 [.ref 44, .int 1, .null, .null, .null, .null] [] h Q ↔ X 163 59 [.ref 44, .int 1, .int (nI d), .int (-4), .int (nI (gN D) - 1), .null] [] H Q := by
        intro Q
        rw [start Q]
        simp only [x163_0, x163_1, x163_2, x163_3, x163_6, x163_9, x163_10, x163_11, x163_12, x163_15, x163_16, x163_19, x163_20, x163_23, x163_24, x163_27, x163_28, x163_31, x163_32, x163_33, x163_34, x163_37, x163_39, x163_40, x163_41, x163_44, x163_45, x163_46, x163_48, x163_49, x163_50, x163_53, x163_54, x163_55, x163_56, x163_57, x163_61, x163_64, x163_65, x163_68, x163_69, x163_72, x163_73, x163_74, x163_75, x163_76, x163_80, x163_83, x163_84, x163_86, x163_88, x163_91, x163_94, x163_95, x163_98, x163_100, x163_102, x163_103, x163_104, x163_107, x163_108, x163_111, x163_112, x163_113, x163_114, x163_115, x163_118, x163_120, x163_122, x163_123, x163_125, x163_126, x163_129, x163_130, x163_131, x163_132, x163_135, x163_137, x163_138, x163_141, x163_143, x163_144, x163_145, x163_148, x163_151, x163_154, x163_157, x163_158, pv_some, pv_none, c1_int, c1_ref, c1_null, true_and, and_true, ne_eq, not_false_eq_true, not_true_eq_false, if_true, if_false, reduceCtorEq, Option.some.injEq, Value.int.injEq, absI_fold, minI_fold, maxI_fold, frV, nI_neg (show d < 2 ^ 31 by omega), one_ne, m_s gH, m_r2 gH, m_s46 gH, m_nz, show ib 0 (2, 31) = True from i31 (k := 0) (by decide), c0, AH.g0, if_true, if_false, true_or, or_true, false_or, or_false, true_and, and_true, false_and, and_false, not_true_eq_false, not_false_eq_true, iff_self, ite_self, ne_eq, true_implies, implies_true, Bool.false_eq_true, decide_true, decide_false, Bool.or_true, Bool.or_false, Bool.true_or, Bool.false_or]
      by_cases d0 : d = 0
      · refine ⟨-4, H, SH, Or.inr ⟨d, hl, Or.inr (Or.inl ⟨by decide, d0, rfl⟩)⟩, fun Q => ?_⟩
        have z1 : (0 < nI d) = False := by rw [d0]; decide
        rw [st2 Q, x163_59]
        have gn : (nI (gN D) - 1 < 0) = False := by rw [nI_m1 b1]; exact nI_neg (by omega)
        simp only [x163_0, x163_1, x163_2, x163_3, x163_6, x163_9, x163_10, x163_11, x163_12, x163_15, x163_16, x163_19, x163_20, x163_23, x163_24, x163_27, x163_28, x163_31, x163_32, x163_33, x163_34, x163_37, x163_39, x163_40, x163_41, x163_44, x163_45, x163_46, x163_48, x163_49, x163_50, x163_53, x163_54, x163_55, x163_56, x163_57, x163_61, x163_64, x163_65, x163_68, x163_69, x163_72, x163_73, x163_74, x163_75, x163_76, x163_80, x163_83, x163_84, x163_86, x163_88, x163_91, x163_94, x163_95, x163_98, x163_100, x163_102, x163_103, x163_104, x163_107, x163_108, x163_111, x163_112, x163_113, x163_114, x163_115, x163_118, x163_120, x163_122, x163_123, x163_125, x163_126, x163_129, x163_130, x163_131, x163_132, x163_135, x163_137, x163_138, x163_141, x163_143, x163_144, x163_145, x163_148, x163_151, x163_154, x163_157, x163_158, pv_some, pv_none, c1_int, c1_ref, c1_null, true_and, and_true, ne_eq, not_false_eq_true, not_true_eq_false, if_true, if_false, reduceCtorEq, Option.some.injEq, Value.int.injEq, absI_fold, minI_fold, maxI_fold, gn, z1, if_true, if_false, true_or, or_true, false_or, or_false, true_and, and_true, false_and, and_false, not_true_eq_false, not_false_eq_true, iff_self, ite_self, ne_eq, true_implies, implies_true, Bool.false_eq_true, decide_true, decide_false, Bool.or_true, Bool.or_false, Bool.true_or, Bool.false_or]
      · obtain ⟨e, rfl⟩ : ∃ e, d = e + 1 := ⟨d - 1, by omega⟩
        have dp : (0 < nI (e + 1)) = True := eq_true (nI_lt (a := 0) (by omega) (by omega))
        have de : nI (e + 1) - 1 = nI e := nI_m1 (by omega)
        -- the search, from the last on
        have outer : ∀ ii, ii ≤ gN D → ∀ (f : Int32) (l5 : Value), c1 l5 = true → FMs (fun i' b' => ii ≤ i' ∧ mvM D P i' b' ∧ s.1 (codeN (updL P i' b') (gN D)) = some e) (gN D) n f → ∃ ans, FMs (fun i' b' => mvM D P i' b' ∧ s.1 (codeN (updL P i' b') (gN D)) = some e) (gN D) n ans ∧ ∀ Q : Option Value → aH → Prop, X 163 59 [.ref 44, .int 1, .int (nI (e + 1)), .int f, .int (nI ii - 1), l5] [] H Q ↔ Q (some (.int ans)) H := by
          intro ii
          induction ii with
          | zero =>
            intro _ f l5 q5 M
            refine ⟨f, FMs_congr (fun i b q1 q2 => ⟨fun z => z.2, fun z => ⟨Nat.zero_le _, z⟩⟩) M, fun Q => ?_⟩
            rw [x163_59]
            simp only [x163_0, x163_1, x163_2, x163_3, x163_6, x163_9, x163_10, x163_11, x163_12, x163_15, x163_16, x163_19, x163_20, x163_23, x163_24, x163_27, x163_28, x163_31, x163_32, x163_33, x163_34, x163_37, x163_39, x163_40, x163_41, x163_44, x163_45, x163_46, x163_48, x163_49, x163_50, x163_53, x163_54, x163_55, x163_56, x163_57, x163_61, x163_64, x163_65, x163_68, x163_69, x163_72, x163_73, x163_74, x163_75, x163_76, x163_80, x163_83, x163_84, x163_86, x163_88, x163_91, x163_94, x163_95, x163_98, x163_100, x163_102, x163_103, x163_104, x163_107, x163_108, x163_111, x163_112, x163_113, x163_114, x163_115, x163_118, x163_120, x163_122, x163_123, x163_125, x163_126, x163_129, x163_130, x163_131, x163_132, x163_135, x163_137, x163_138, x163_141, x163_143, x163_144, x163_145, x163_148, x163_151, x163_154, x163_157, x163_158, pv_some, pv_none, c1_int, c1_ref, c1_null, true_and, and_true, ne_eq, not_false_eq_true, not_true_eq_false, if_true, if_false, reduceCtorEq, Option.some.injEq, Value.int.injEq, absI_fold, minI_fold, maxI_fold, show (nI 0 - 1 < 0) = True by decide, if_true, if_false, true_or, or_true, false_or, or_false, true_and, and_true, false_and, and_false, not_true_eq_false, not_false_eq_true, iff_self, ite_self, ne_eq, true_implies, implies_true, Bool.false_eq_true, decide_true, decide_false, Bool.or_true, Bool.or_false, Bool.true_or, Bool.false_or]
          | succ i ih =>
            intro hi f l5 q5 M
            have iG : i < gN D := by omega
            have inner : ∀ bb, bb ≤ n → ∀ f, FMs (fun i' b' => domP i bb i' b' ∧ mvM D P i' b' ∧ s.1 (codeN (updL P i' b') (gN D)) = some e) (gN D) n f → ∃ ans, FMs (fun i' b' => mvM D P i' b' ∧ s.1 (codeN (updL P i' b') (gN D)) = some e) (gN D) n ans ∧ ∀ Q : Option Value → aH → Prop, X 163 78 [.ref 44, .int 1, .int (nI (e + 1)), .int f, .int (nI i), .int (nI bb - 1)] [] H Q ↔ Q (some (.int ans)) H := by
              intro bb
              induction bb with
              | zero =>
                intro _ f M
                obtain ⟨ans, M', k'⟩ := ih (by omega) f (.int (nI 0 - 1)) rfl (FMs_congr (fun i' b' q1 q2 => ⟨fun z => ⟨by rcases z.1 with y | y <;> omega, z.2⟩, fun z => ⟨by unfold domP; omega, z.2⟩⟩) M)
                refine ⟨ans, M', fun Q => ?_⟩
                have kk := k' Q
                rw [x163_78]
                simp only [x163_0, x163_1, x163_2, x163_3, x163_6, x163_9, x163_10, x163_11, x163_12, x163_15, x163_16, x163_19, x163_20, x163_23, x163_24, x163_27, x163_28, x163_31, x163_32, x163_33, x163_34, x163_37, x163_39, x163_40, x163_41, x163_44, x163_45, x163_46, x163_48, x163_49, x163_50, x163_53, x163_54, x163_55, x163_56, x163_57, x163_61, x163_64, x163_65, x163_68, x163_69, x163_72, x163_73, x163_74, x163_75, x163_76, x163_80, x163_83, x163_84, x163_86, x163_88, x163_91, x163_94, x163_95, x163_98, x163_100, x163_102, x163_103, x163_104, x163_107, x163_108, x163_111, x163_112, x163_113, x163_114, x163_115, x163_118, x163_120, x163_122, x163_123, x163_125, x163_126, x163_129, x163_130, x163_131, x163_132, x163_135, x163_137, x163_138, x163_141, x163_143, x163_144, x163_145, x163_148, x163_151, x163_154, x163_157, x163_158, pv_some, pv_none, c1_int, c1_ref, c1_null, true_and, and_true, ne_eq, not_false_eq_true, not_true_eq_false, if_true, if_false, reduceCtorEq, Option.some.injEq, Value.int.injEq, absI_fold, minI_fold, maxI_fold, show (nI 0 - 1 < 0) = True by decide, nI_m1', if_true, if_false, true_or, or_true, false_or, or_false, true_and, and_true, false_and, and_false, not_true_eq_false, not_false_eq_true, iff_self, ite_self, ne_eq, true_implies, implies_true, Bool.false_eq_true, decide_true, decide_false, Bool.or_true, Bool.or_false, Bool.true_or, Bool.false_or]
                exact kk
              | succ b ihb =>
                intro hb f M
                have eb' : nI (b + 1) - 1 = nI b := nI_m1 (by omega)
                have km := fun Q : Option Value → aH → Prop => m_mayCarry (Q := Q) (c := b) AH e52' iG (show b < 6 by omega)
                have head : ∀ f' : Int32, FMs (fun i' b' => domP i b i' b' ∧ mvM D P i' b' ∧ s.1 (codeN (updL P i' b') (gN D)) = some e) (gN D) n f' → (∀ Q : Option Value → aH → Prop, X 163 78 [.ref 44, .int 1, .int (nI (e + 1)), .int f, .int (nI i), .int (nI (b + 1) - 1)] [] H Q ↔ X 163 78 [.ref 44, .int 1, .int (nI (e + 1)), .int f', .int (nI i), .int (nI b - 1)] [] H Q) → ∃ ans, FMs (fun i' b' => mvM D P i' b' ∧ s.1 (codeN (updL P i' b') (gN D)) = some e) (gN D) n ans ∧ ∀ Q : Option Value → aH → Prop, X 163 78 [.ref 44, .int 1, .int (nI (e + 1)), .int f, .int (nI i), .int (nI (b + 1) - 1)] [] H Q ↔ Q (some (.int ans)) H := by
                  intro f' M2 k2
                  obtain ⟨ans, M', k'⟩ := ihb (by omega) f' M2
                  exact ⟨ans, M', fun Q => (k2 Q).trans (k' Q)⟩
                have skip : ¬ (mvM D P i b ∧ s.1 (codeN (updL P i b) (gN D)) = some e) → FMs (fun i' b' => domP i b i' b' ∧ mvM D P i' b' ∧ s.1 (codeN (updL P i' b') (gN D)) = some e) (gN D) n f := by
                  intro no
                  refine FMs_congr (fun i' b' q1 q2 => ⟨fun z => ⟨?_, z.2⟩, fun z => ⟨?_, z.2⟩⟩) M
                  · have := z.1
                    unfold domP at *
                    omega
                  · have y := z.1
                    unfold domP at *
                    rcases y with y | y
                    · exact Or.inl y
                    · by_cases yb : b' = b
                      · obtain ⟨y1, _⟩ := y
                        subst y1; subst yb
                        exact absurd z.2 no
                      · omega
                by_cases c1 : mvM D P i b
                · have he := (may_iff.mp c1).1
                  have v2 := v.upd (i := i) (show b < n by omega) he
                  have wl := codeN_lt (fun j hj => Nat.lt_of_lt_of_le (v2.1 j hj) b3)
                  generalize hw : codeN (updL P i b) (gN D) = w at *
                  have S2 : SF h (sI H 52 i (nI b)) := SH.sI _ (Or.inr (Or.inl ⟨by decide, by decide⟩))
                  have A2 := A.SF S2
                  have g2 := A2.1
                  have hL2 : ∀ j, j < gN D → hI (sI H 52 i (nI b)) 52 j = nI (updL P i b j) := fun j hj => by
                    rw [hI_sI]
                    unfold updL
                    by_cases q : j = i
                    · rw [if_pos ⟨rfl, q⟩, if_pos q]
                    · rw [if_neg (fun z => q z.2), if_neg q]
                      exact e52 j hj
                  have kc2 := fun Q : Option Value → aH → Prop => m_codeOf (Q := Q) A2 hL2
                  rw [hw] at kc2
                  have back : sI (sI H 52 i (nI b)) 52 i (nI (P i)) = H := by rw [sI_sI]; exact sI_same (e52 i iG)
                  have e54w : hI (sI H 52 i (nI b)) 54 w = frV (s.1 w) := by rw [hI_sI, if_neg (by omega)]; exact e54 w wl
                  have e48w : hI (sI H 52 i (nI b)) 48 i = nI (P i) := by rw [hI_sI, if_neg (by omega)]; exact e48 i iG
                  have fe : (frV (s.1 w) = nI e) = (s.1 w = some e) := frV_eq (fun d q => by have := bd w d q; omega) (by omega)
                  have c1' : bi (allB (mayB P (DA D 21) (D 2) i b) (gN D) = true) = 1 := bi_t c1
                  have bn0 : (nI b < 0) = False := nI_neg (by omega)
                  by_cases c2 : s.1 w = some e
                  · refine head (nI (8 * i + b)) (Or.inl ⟨i, b, iG, by omega, ⟨Or.inr ⟨rfl, Nat.le_refl b⟩, c1, by rw [hw]; exact c2⟩, fun i' b' q1 q2 q3 => ?_, rfl⟩) (fun Q => ?_)
                    · have := q3.1
                      unfold domP at this
                      omega
                    · have e8 : (8 : Int32) * nI i + nI b = nI (8 * i + b) := by rw [show (8 : Int32) = nI 8 from rfl, nI_mul, nI_addn]
                      rw [x163_78, eb']
                      simp only [x163_0, x163_1, x163_2, x163_3, x163_6, x163_9, x163_10, x163_11, x163_12, x163_15, x163_16, x163_19, x163_20, x163_23, x163_24, x163_27, x163_28, x163_31, x163_32, x163_33, x163_34, x163_37, x163_39, x163_40, x163_41, x163_44, x163_45, x163_46, x163_48, x163_49, x163_50, x163_53, x163_54, x163_55, x163_56, x163_57, x163_61, x163_64, x163_65, x163_68, x163_69, x163_72, x163_73, x163_74, x163_75, x163_76, x163_80, x163_83, x163_84, x163_86, x163_88, x163_91, x163_94, x163_95, x163_98, x163_100, x163_102, x163_103, x163_104, x163_107, x163_108, x163_111, x163_112, x163_113, x163_114, x163_115, x163_118, x163_120, x163_122, x163_123, x163_125, x163_126, x163_129, x163_130, x163_131, x163_132, x163_135, x163_137, x163_138, x163_141, x163_143, x163_144, x163_145, x163_148, x163_151, x163_154, x163_157, x163_158, pv_some, pv_none, c1_int, c1_ref, c1_null, true_and, and_true, ne_eq, not_false_eq_true, not_true_eq_false, if_true, if_false, reduceCtorEq, Option.some.injEq, Value.int.injEq, absI_fold, minI_fold, maxI_fold, bn0, m_s gH, m_r12 gH, m_s52 gH, m_nz, km, c1', one_ne, ibwn (show i < 5 by omega) (by decide), nI_cl (show i < 2 ^ 31 by omega), m_s g2, m_r12 g2, m_r17 g2, m_r4 g2, m_s52 g2, m_s54 g2, m_s48 g2, kc2, ibn (show w < 7776 by omega) (by decide), nI_cl (show w < 2 ^ 31 by omega), e54w, de, fe, c2, show (frV (some e) = nI e) = True from eq_true rfl, e8, ibn (show i < 10 by omega) (by decide), e48w, back, nI_m1', if_true, if_false, true_or, or_true, false_or, or_false, true_and, and_true, false_and, and_false, not_true_eq_false, not_false_eq_true, iff_self, ite_self, ne_eq, true_implies, implies_true, Bool.false_eq_true, decide_true, decide_false, Bool.or_true, Bool.or_false, Bool.true_or, Bool.false_or]
                  · refine head f (skip (fun z => c2 z.2)) (fun Q => ?_)
                    rw [x163_78, eb']
                    simp only [x163_0, x163_1, x163_2, x163_3, x163_6, x163_9, x163_10, x163_11, x163_12, x163_15, x163_16, x163_19, x163_20, x163_23, x163_24, x163_27, x163_28, x163_31, x163_32, x163_33, x163_34, x163_37, x163_39, x163_40, x163_41, x163_44, x163_45, x163_46, x163_48, x163_49, x163_50, x163_53, x163_54, x163_55, x163_56, x163_57, x163_61, x163_64, x163_65, x163_68, x163_69, x163_72, x163_73, x163_74, x163_75, x163_76, x163_80, x163_83, x163_84, x163_86, x163_88, x163_91, x163_94, x163_95, x163_98, x163_100, x163_102, x163_103, x163_104, x163_107, x163_108, x163_111, x163_112, x163_113, x163_114, x163_115, x163_118, x163_120, x163_122, x163_123, x163_125, x163_126, x163_129, x163_130, x163_131, x163_132, x163_135, x163_137, x163_138, x163_141, x163_143, x163_144, x163_145, x163_148, x163_151, x163_154, x163_157, x163_158, pv_some, pv_none, c1_int, c1_ref, c1_null, true_and, and_true, ne_eq, not_false_eq_true, not_true_eq_false, if_true, if_false, reduceCtorEq, Option.some.injEq, Value.int.injEq, absI_fold, minI_fold, maxI_fold, bn0, m_s gH, m_r12 gH, m_s52 gH, m_nz, km, c1', one_ne, ibwn (show i < 5 by omega) (by decide), nI_cl (show i < 2 ^ 31 by omega), m_s g2, m_r12 g2, m_r17 g2, m_r4 g2, m_s52 g2, m_s54 g2, m_s48 g2, kc2, ibn (show w < 7776 by omega) (by decide), nI_cl (show w < 2 ^ 31 by omega), e54w, de, fe, c2, ibn (show i < 10 by omega) (by decide), e48w, back, nI_m1', if_true, if_false, true_or, or_true, false_or, or_false, true_and, and_true, false_and, and_false, not_true_eq_false, not_false_eq_true, iff_self, ite_self, ne_eq, true_implies, implies_true, Bool.false_eq_true, decide_true, decide_false, Bool.or_true, Bool.or_false, Bool.true_or, Bool.false_or]
                · refine head f (skip (fun z => c1 z.1)) (fun Q => ?_)
                  have c1' : bi (allB (mayB P (DA D 21) (D 2) i b) (gN D) = true) = 0 := bi_f c1
                  have bn0 : (nI b < 0) = False := nI_neg (by omega)
                  rw [x163_78, eb']
                  simp only [x163_0, x163_1, x163_2, x163_3, x163_6, x163_9, x163_10, x163_11, x163_12, x163_15, x163_16, x163_19, x163_20, x163_23, x163_24, x163_27, x163_28, x163_31, x163_32, x163_33, x163_34, x163_37, x163_39, x163_40, x163_41, x163_44, x163_45, x163_46, x163_48, x163_49, x163_50, x163_53, x163_54, x163_55, x163_56, x163_57, x163_61, x163_64, x163_65, x163_68, x163_69, x163_72, x163_73, x163_74, x163_75, x163_76, x163_80, x163_83, x163_84, x163_86, x163_88, x163_91, x163_94, x163_95, x163_98, x163_100, x163_102, x163_103, x163_104, x163_107, x163_108, x163_111, x163_112, x163_113, x163_114, x163_115, x163_118, x163_120, x163_122, x163_123, x163_125, x163_126, x163_129, x163_130, x163_131, x163_132, x163_135, x163_137, x163_138, x163_141, x163_143, x163_144, x163_145, x163_148, x163_151, x163_154, x163_157, x163_158, pv_some, pv_none, c1_int, c1_ref, c1_null, true_and, and_true, ne_eq, not_false_eq_true, not_true_eq_false, if_true, if_false, reduceCtorEq, Option.some.injEq, Value.int.injEq, absI_fold, minI_fold, maxI_fold, bn0, m_s gH, km, c1', nI_m1', if_true, if_false, true_or, or_true, false_or, or_false, true_and, and_true, false_and, and_false, not_true_eq_false, not_false_eq_true, iff_self, ite_self, ne_eq, true_implies, implies_true, Bool.false_eq_true, decide_true, decide_false, Bool.or_true, Bool.or_false, Bool.true_or, Bool.false_or]
            obtain ⟨ans, M', k'⟩ := inner n (Nat.le_refl n) f (FMs_congr (fun i' b' q1 q2 => ⟨fun z => ⟨Or.inl (by omega), z.2⟩, fun z => ⟨by rcases z.1 with y | y <;> omega, z.2⟩⟩) M)
            refine ⟨ans, M', fun Q => ?_⟩
            have kk := k' Q
            have ei : nI (i + 1) - 1 = nI i := nI_m1 (by omega)
            have in0 : (nI i < 0) = False := nI_neg (by omega)
            rw [x163_59, ei]
            simp only [x163_0, x163_1, x163_2, x163_3, x163_6, x163_9, x163_10, x163_11, x163_12, x163_15, x163_16, x163_19, x163_20, x163_23, x163_24, x163_27, x163_28, x163_31, x163_32, x163_33, x163_34, x163_37, x163_39, x163_40, x163_41, x163_44, x163_45, x163_46, x163_48, x163_49, x163_50, x163_53, x163_54, x163_55, x163_56, x163_57, x163_61, x163_64, x163_65, x163_68, x163_69, x163_72, x163_73, x163_74, x163_75, x163_76, x163_80, x163_83, x163_84, x163_86, x163_88, x163_91, x163_94, x163_95, x163_98, x163_100, x163_102, x163_103, x163_104, x163_107, x163_108, x163_111, x163_112, x163_113, x163_114, x163_115, x163_118, x163_120, x163_122, x163_123, x163_125, x163_126, x163_129, x163_130, x163_131, x163_132, x163_135, x163_137, x163_138, x163_141, x163_143, x163_144, x163_145, x163_148, x163_151, x163_154, x163_157, x163_158, pv_some, pv_none, c1_int, c1_ref, c1_null, true_and, and_true, ne_eq, not_false_eq_true, not_true_eq_false, if_true, if_false, reduceCtorEq, Option.some.injEq, Value.int.injEq, absI_fold, minI_fold, maxI_fold, in0, dp, m_s gH, m_r2 gH, m_s46 gH, m_nz, show ib 1 (2, 31) = True from i31 (k := 1) (by decide), ct1, eb, q5, if_true, if_false, true_or, or_true, false_or, or_false, true_and, and_true, false_and, and_false, not_true_eq_false, not_false_eq_true, iff_self, ite_self, ne_eq, true_implies, implies_true, Bool.false_eq_true, decide_true, decide_false, Bool.or_true, Bool.or_false, Bool.true_or, Bool.false_or]
            exact kk
        obtain ⟨ans, M', k'⟩ := outer (gN D) (Nat.le_refl _) (-4) .null rfl (Or.inr ⟨fun i' b' q1 q2 q3 => by omega, rfl⟩)
        refine ⟨ans, H, SH, Or.inr ⟨e + 1, hl, Or.inr (Or.inr ⟨by decide, e, rfl, ?_⟩)⟩, fun Q => (st2 Q).trans (k' Q)⟩
        exact FMs_congr (fun i' b' q1 q2 => by rw [(R1 _).1 e]) M'
theorem m_movesNo (hx : ¬ (¬ x < 0 ∧ ¬ 1 < x)) : X 163 0 [.ref 44, .int x, .null, .null, .null, .null] [] h Q ↔ Q (some (.int (-1))) h := by
  simp only [x163_0, x163_1, x163_2, x163_3, x163_6, x163_9, x163_10, x163_11, x163_12, x163_15, x163_16, x163_19, x163_20, x163_23, x163_24, x163_27, x163_28, x163_31, x163_32, x163_33, x163_34, x163_37, x163_39, x163_40, x163_41, x163_44, x163_45, x163_46, x163_48, x163_49, x163_50, x163_53, x163_54, x163_55, x163_56, x163_57, x163_61, x163_64, x163_65, x163_68, x163_69, x163_72, x163_73, x163_74, x163_75, x163_76, x163_80, x163_83, x163_84, x163_86, x163_88, x163_91, x163_94, x163_95, x163_98, x163_100, x163_102, x163_103, x163_104, x163_107, x163_108, x163_111, x163_112, x163_113, x163_114, x163_115, x163_118, x163_120, x163_122, x163_123, x163_125, x163_126, x163_129, x163_130, x163_131, x163_132, x163_135, x163_137, x163_138, x163_141, x163_143, x163_144, x163_145, x163_148, x163_151, x163_154, x163_157, x163_158, pv_some, pv_none, c1_int, c1_ref, c1_null, true_and, and_true, ne_eq, not_false_eq_true, not_true_eq_false, if_true, if_false, reduceCtorEq, Option.some.injEq, Value.int.injEq, absI_fold, minI_fold, maxI_fold, m_in, bi_zero, hx, if_true, if_false, true_or, or_true, false_or, or_false, true_and, and_true, false_and, and_false, not_true_eq_false, not_false_eq_true, iff_self, ite_self, ne_eq, true_implies, implies_true, Bool.false_eq_true, decide_true, decide_false, Bool.or_true, Bool.or_false, Bool.true_or, Bool.false_or]
end MOVES2
