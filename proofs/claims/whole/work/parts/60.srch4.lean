/-! THE CLASS: the search: to the left -/
section SRCH2
variable {h h1 : aH} {a c G i j k z n w d T : Nat} {Q : Option Value → aH → Prop} {L : Nat → Nat} {s : St} {Lt : Nat → Int32} {po : Int32}
theorem nI_m1' (a : Nat) : nI a + (-1) = nI a - 1 := (Int32.sub_eq_add_neg _ _).symm
theorem k_asideDown (C : CW h a G n) (v : VL n G L) (hi : i < G) : ∀ c, c ≤ L i → (∀ j, j < G → L j < L i → c ≤ L j → hI h a 8 < hI h (a + 4) j) → ∀ h1 s, SS h h1 a G n L s → d ≤ s.2.length → ∃ h' s', SS h h' a G n L s' ∧ Ext d (fun w => ∃ b', b' < c ∧ asP h a G n L i b' ∧ w = numN (updL L i b') n G) s s' ∧ s.2.length ≤ s'.2.length ∧ ∀ Q : Option Value → aH → Prop, X 58 30 [.ref 12, .int (nI i), .int (-1), .int (nI d), .ref a, .ref 11, .int (nI (L i)), .int (nI c - 1), .int (nI (L i + 1 - c))] [] h1 Q ↔ Q none h' := by
  intro c
  have h5 := C.1.1.2.2.2
  have bn := C.2.2.2.2.2
  have I := C.1
  have vi := v.1 i hi
  induction c with
  | zero =>
    intro hlt hfr h1 s S hd
    have C1 := C.CF S.1
    have g1 := C1.1.1.1
    refine ⟨h1, s, S, Ext.none (fun w ⟨b', q1, _⟩ => by omega) s, Nat.le_refl _, fun Q => ?_⟩
    have k6 : L i + 1 - 0 < 6 ∨ ¬ L i + 1 - 0 < 6 := Decidable.em _
    have nb : ¬ (¬ nI 0 - 1 < 0 ∧ nI 0 - 1 < nI n) := fun q => q.1 (by decide)
    have lk : (nI (L i + 1 - 0) < 6) = (L i + 1 - 0 < 6) := nI_lt_iff (b := 6) (by omega) (by decide)
    rw [x58_30]
    rcases k6 with k6 | k6
    · simp only [x58_0, x58_1, x58_4, x58_5, x58_6, x58_9, x58_10, x58_11, x58_14, x58_17, x58_18, x58_19, x58_21, x58_23, x58_24, x58_25, x58_27, x58_28, x58_32, x58_34, x58_37, x58_39, x58_41, x58_44, x58_47, x58_49, x58_51, x58_54, x58_55, x58_58, x58_60, x58_61, x58_62, x58_65, x58_66, x58_67, x58_70, x58_72, x58_73, x58_76, x58_77, x58_80, x58_83, x58_84, x58_86, x58_87, x58_88, x58_90, x58_91, x58_94, x58_97, x58_100, x58_101, x58_104, x58_105, x58_108, x58_111, x58_112, x58_114, x58_115, x58_117, x58_118, x58_119, x58_121, x58_124, x58_127, pv_some, pv_none, c1_int, c1_ref, c1_null, true_and, and_true, ne_eq, not_false_eq_true, not_true_eq_false, if_true, if_false, reduceCtorEq, Option.some.injEq, Value.int.injEq, absI_fold, minI_fold, maxI_fold, lk, k6, inn_s g1 I.1.2.1, k_hasBed g1 I.1.2.1, C1.2.2.1, bi_zero, nb, if_true, if_false, true_or, or_true, false_or, or_false, true_and, and_true, false_and, and_false, not_true_eq_false, not_false_eq_true, iff_self, ite_self, ne_eq, true_implies, implies_true, Bool.false_eq_true, decide_true, decide_false, Bool.or_true, Bool.or_false, Bool.true_or, Bool.false_or]
    · simp only [x58_0, x58_1, x58_4, x58_5, x58_6, x58_9, x58_10, x58_11, x58_14, x58_17, x58_18, x58_19, x58_21, x58_23, x58_24, x58_25, x58_27, x58_28, x58_32, x58_34, x58_37, x58_39, x58_41, x58_44, x58_47, x58_49, x58_51, x58_54, x58_55, x58_58, x58_60, x58_61, x58_62, x58_65, x58_66, x58_67, x58_70, x58_72, x58_73, x58_76, x58_77, x58_80, x58_83, x58_84, x58_86, x58_87, x58_88, x58_90, x58_91, x58_94, x58_97, x58_100, x58_101, x58_104, x58_105, x58_108, x58_111, x58_112, x58_114, x58_115, x58_117, x58_118, x58_119, x58_121, x58_124, x58_127, pv_some, pv_none, c1_int, c1_ref, c1_null, true_and, and_true, ne_eq, not_false_eq_true, not_true_eq_false, if_true, if_false, reduceCtorEq, Option.some.injEq, Value.int.injEq, absI_fold, minI_fold, maxI_fold, lk, k6, if_true, if_false, true_or, or_true, false_or, or_false, true_and, and_true, false_and, and_false, not_true_eq_false, not_false_eq_true, iff_self, ite_self, ne_eq, true_implies, implies_true, Bool.false_eq_true, decide_true, decide_false, Bool.or_true, Bool.or_false, Bool.true_or, Bool.false_or]
  | succ b ih =>
    intro hlt hfr h1 s S hd
    have C1 := C.CF S.1
    have g1 := C1.1.1.1
    have inb : ¬ nI b < 0 ∧ nI b < nI n := ⟨nI_pos (by omega), nI_lt (by omega) (by omega)⟩
    have eb : nI (b + 1) - 1 = nI b := nI_m1 (by omega)
    have lk : (nI (L i + 1 - (b + 1)) < 6) = True := eq_true (nI_lt (b := 6) (by omega) (by decide))
    have b6 : (nI b < 6) = True := eq_true (nI_lt (b := 6) (by omega) (by decide))
    have es := S.2.2.1 b (by omega)
    have nx : L i + 1 - (b + 1) + 1 = L i + 1 - b := by omega
    rw [eb]
    by_cases c0 : ∃ j, j < G ∧ L j = b
    · obtain ⟨j, hj, ej⟩ := c0
      rw [← ej, slF_at v hj, ej] at es
      by_cases c1 : hI h a 8 < hI h (a + 4) j
      · rw [if_pos c1] at es
        obtain ⟨h', s', S', x', le', hk⟩ := ih (by omega) (fun j' hj' q1 q2 => by
          by_cases q3 : L j' = b
          · have := v.2 j' j hj' hj (q3.trans ej.symm)
            rw [this]; exact c1
          · exact hfr j' hj' q1 (by omega)) h1 s S hd
        refine ⟨h', s', S', x'.congr (fun w => ?_), le', fun Q => ?_⟩
        · constructor
          · rintro ⟨b', q1, q2⟩; exact ⟨b', by omega, q2⟩
          · rintro ⟨b', q1, q3, q4⟩
            refine ⟨b', ?_, q3, q4⟩
            by_cases q5 : b' = b
            · exact absurd ej (q5 ▸ (may_iff.mp q3).1 j hj)
            · omega
        · rw [x58_30]
          simp only [x58_0, x58_1, x58_4, x58_5, x58_6, x58_9, x58_10, x58_11, x58_14, x58_17, x58_18, x58_19, x58_21, x58_23, x58_24, x58_25, x58_27, x58_28, x58_32, x58_34, x58_37, x58_39, x58_41, x58_44, x58_47, x58_49, x58_51, x58_54, x58_55, x58_58, x58_60, x58_61, x58_62, x58_65, x58_66, x58_67, x58_70, x58_72, x58_73, x58_77, x58_80, x58_83, x58_84, x58_86, x58_87, x58_88, x58_90, x58_91, x58_94, x58_97, x58_100, x58_101, x58_104, x58_105, x58_108, x58_111, x58_112, x58_114, x58_115, x58_117, x58_118, x58_119, x58_121, x58_124, x58_127, pv_some, pv_none, c1_int, c1_ref, c1_null, true_and, and_true, ne_eq, not_false_eq_true, not_true_eq_false, if_true, if_false, reduceCtorEq, Option.some.injEq, Value.int.injEq, absI_fold, minI_fold, maxI_fold, lk, inn_s g1 I.1.2.1, k_hasBed g1 I.1.2.1, C1.2.2.1, bi_zero, inb, b6, ss12 g1, sr4 g1, ss17 g1, m_nz, ibn (show b < 6 by omega) (by decide), nI_cl (show b < 2 ^ 31 by omega), es, show ¬ ((1 : Int32) = 2) by decide, one_ne, nI_m1', nI_add1, nx, if_true, if_false, true_or, or_true, false_or, or_false, true_and, and_true, false_and, and_false, not_true_eq_false, not_false_eq_true, iff_self, ite_self, ne_eq, true_implies, implies_true, Bool.false_eq_true, decide_true, decide_false, Bool.or_true, Bool.or_false, Bool.true_or, Bool.false_or]
          exact hk Q
      · rw [if_neg c1] at es
        have nob : ∀ w, ¬ ∃ b', b' < b + 1 ∧ asP h a G n L i b' ∧ w = numN (updL L i b') n G := by
          rintro w ⟨b', q1, q3, -⟩
          have mm := may_iff.mp q3
          by_cases q5 : b' = b
          · exact absurd ej (q5 ▸ mm.1 j hj)
          · exact c1 (mm.2 j hj (Or.inr ⟨by omega, by omega⟩))
        refine ⟨h1, s, S, Ext.none nob s, Nat.le_refl _, fun Q => ?_⟩
        · rw [x58_30]
          simp only [x58_0, x58_1, x58_4, x58_5, x58_6, x58_9, x58_10, x58_11, x58_14, x58_17, x58_18, x58_19, x58_21, x58_23, x58_24, x58_25, x58_27, x58_28, x58_32, x58_34, x58_37, x58_39, x58_41, x58_44, x58_47, x58_49, x58_51, x58_54, x58_55, x58_58, x58_60, x58_61, x58_62, x58_65, x58_66, x58_67, x58_70, x58_72, x58_73, x58_77, x58_80, x58_83, x58_84, x58_86, x58_87, x58_88, x58_90, x58_91, x58_94, x58_97, x58_100, x58_101, x58_104, x58_105, x58_108, x58_111, x58_112, x58_114, x58_115, x58_117, x58_118, x58_119, x58_121, x58_124, x58_127, pv_some, pv_none, c1_int, c1_ref, c1_null, true_and, and_true, ne_eq, not_false_eq_true, not_true_eq_false, if_true, if_false, reduceCtorEq, Option.some.injEq, Value.int.injEq, absI_fold, minI_fold, maxI_fold, lk, inn_s g1 I.1.2.1, k_hasBed g1 I.1.2.1, C1.2.2.1, bi_zero, inb, b6, ss12 g1, sr4 g1, ss17 g1, m_nz, ibn (show b < 6 by omega) (by decide), nI_cl (show b < 2 ^ 31 by omega), es, if_true, if_false, true_or, or_true, false_or, or_false, true_and, and_true, false_and, and_false, not_true_eq_false, not_false_eq_true, iff_self, ite_self, ne_eq, true_implies, implies_true, Bool.false_eq_true, decide_true, decide_false, Bool.or_true, Bool.or_false, Bool.true_or, Bool.false_or]
    · have he : ∀ j, j < G → L j ≠ b := fun j hj e => c0 ⟨j, hj, e⟩
      rw [slF_no he] at es
      have S2 := S.mv C v hi (show b < n by omega) he hd
      have rl := rch_len (numN (updL L i b) n G) d s
      obtain ⟨h', s', S', x', le', hk⟩ := ih (by omega) (fun j' hj' q1 q2 => hfr j' hj' q1 (by have := he j' hj'; omega)) _ _ S2 (by omega)
      refine ⟨h', s', S', ((rch_Ext (w := numN (updL L i b) n G) s).trans x').congr (fun w => ?_), by omega, fun Q => ?_⟩
      · have mb : asP h a G n L i b := may_iff.mpr ⟨he, fun j hj q => by
          rcases q with q | q
          · omega
          · exact hfr j hj q.1 (by omega)⟩
        constructor
        · rintro (q | ⟨b', q1, q2⟩)
          · exact ⟨b, by omega, mb, q⟩
          · exact ⟨b', by omega, q2⟩
        · rintro ⟨b', q1, q3, q4⟩
          by_cases q5 : b' = b
          · subst q5; exact Or.inl q4
          · exact Or.inr ⟨b', by omega, q3, q4⟩
      · rw [x58_30]
        simp only [x58_0, x58_1, x58_4, x58_5, x58_6, x58_9, x58_10, x58_11, x58_14, x58_17, x58_18, x58_19, x58_21, x58_23, x58_24, x58_25, x58_27, x58_28, x58_32, x58_34, x58_37, x58_39, x58_41, x58_44, x58_47, x58_49, x58_51, x58_54, x58_55, x58_58, x58_60, x58_61, x58_62, x58_65, x58_66, x58_67, x58_70, x58_72, x58_73, x58_77, x58_80, x58_83, x58_84, x58_86, x58_87, x58_88, x58_90, x58_91, x58_94, x58_97, x58_100, x58_101, x58_104, x58_105, x58_108, x58_111, x58_112, x58_114, x58_115, x58_117, x58_118, x58_119, x58_121, x58_124, x58_127, pv_some, pv_none, c1_int, c1_ref, c1_null, true_and, and_true, ne_eq, not_false_eq_true, not_true_eq_false, if_true, if_false, reduceCtorEq, Option.some.injEq, Value.int.injEq, absI_fold, minI_fold, maxI_fold, lk, inn_s g1 I.1.2.1, k_hasBed g1 I.1.2.1, C1.2.2.1, bi_zero, inb, b6, ss12 g1, sr4 g1, ss17 g1, m_nz, ibn (show b < 6 by omega) (by decide), nI_cl (show b < 2 ^ 31 by omega), es, show ¬ ((0 : Int32) = 2) by decide, k_asideMv C v S hi (show b < n by omega) he, nI_m1', nI_add1, nx, if_true, if_false, true_or, or_true, false_or, or_false, true_and, and_true, false_and, and_false, not_true_eq_false, not_false_eq_true, iff_self, ite_self, ne_eq, true_implies, implies_true, Bool.false_eq_true, decide_true, decide_false, Bool.or_true, Bool.or_false, Bool.true_or, Bool.false_or]
        exact hk Q
theorem k_goAside1 (C : CW h a G n) (v : VL n G L) (hi : i < G) (S : SS h h1 a G n L s) (hd : d ≤ s.2.length) : ∃ h' s', SS h h' a G n L s' ∧ Ext d (fun w => ∃ b', L i < b' ∧ b' < n ∧ asP h a G n L i b' ∧ w = numN (updL L i b') n G) s s' ∧ s.2.length ≤ s'.2.length ∧ ∀ Q : Option Value → aH → Prop, X 58 0 [.ref 12, .int (nI i), .int 1, .int (nI d), .ref a, .ref 11, .null, .null, .null] [] h1 Q ↔ Q none h' := by
  have h5 := C.1.1.2.2.2
  have bn := C.2.2.2.2.2
  have vi := v.1 i hi
  have g1 := (C.CF S.1).1.1.1
  obtain ⟨h', s', S', x', le', hk⟩ := k_asideUp (d := d) C v hi (n - (L i + 1)) (L i + 1) (by omega) (by omega) (fun j hj q1 q2 => by omega) h1 s S hd
  refine ⟨h', s', S', x', le', fun Q => ?_⟩
  have e1 : L i + 1 - L i = 1 := by omega
  have hk := hk Q
  rw [e1] at hk
  have i5 : (nI i < 5) = True := eq_true (nI_lt (b := 5) (by omega) (by decide))
  simp only [x58_0, x58_1, x58_4, x58_5, x58_6, x58_9, x58_10, x58_11, x58_14, x58_17, x58_18, x58_19, x58_21, x58_23, x58_24, x58_25, x58_27, x58_28, x58_32, x58_34, x58_37, x58_39, x58_41, x58_44, x58_47, x58_49, x58_51, x58_54, x58_55, x58_58, x58_60, x58_61, x58_62, x58_65, x58_66, x58_67, x58_70, x58_72, x58_73, x58_76, x58_77, x58_80, x58_83, x58_84, x58_86, x58_87, x58_88, x58_90, x58_91, x58_94, x58_97, x58_100, x58_101, x58_104, x58_105, x58_108, x58_111, x58_112, x58_114, x58_115, x58_117, x58_118, x58_119, x58_121, x58_124, x58_127, pv_some, pv_none, c1_int, c1_ref, c1_null, true_and, and_true, ne_eq, not_false_eq_true, not_true_eq_false, if_true, if_false, reduceCtorEq, Option.some.injEq, Value.int.injEq, absI_fold, minI_fold, maxI_fold, nI_neg (show i < 2 ^ 31 by omega), i5, ss12 g1, sr3 g1, ss15 g1, sr15 g1, ss16 g1, m_nz, ibn (show i < 5 by omega) (by decide), nI_cl (show i < 2 ^ 31 by omega), S.2.1 i hi, nI_add1, if_true, if_false, true_or, or_true, false_or, or_false, true_and, and_true, false_and, and_false, not_true_eq_false, not_false_eq_true, iff_self, ite_self, ne_eq, true_implies, implies_true, Bool.false_eq_true, decide_true, decide_false, Bool.or_true, Bool.or_false, Bool.true_or, Bool.false_or]
  exact hk
theorem k_goAside2 (C : CW h a G n) (v : VL n G L) (hi : i < G) (S : SS h h1 a G n L s) (hd : d ≤ s.2.length) : ∃ h' s', SS h h' a G n L s' ∧ Ext d (fun w => ∃ b', b' < L i ∧ asP h a G n L i b' ∧ w = numN (updL L i b') n G) s s' ∧ s.2.length ≤ s'.2.length ∧ ∀ Q : Option Value → aH → Prop, X 58 0 [.ref 12, .int (nI i), .int (-1), .int (nI d), .ref a, .ref 11, .null, .null, .null] [] h1 Q ↔ Q none h' := by
  have h5 := C.1.1.2.2.2
  have bn := C.2.2.2.2.2
  have vi := v.1 i hi
  have g1 := (C.CF S.1).1.1.1
  obtain ⟨h', s', S', x', le', hk⟩ := k_asideDown (d := d) C v hi (L i) (Nat.le_refl _) (fun j hj q1 q2 => by omega) h1 s S hd
  refine ⟨h', s', S', x', le', fun Q => ?_⟩
  have e1 : L i + 1 - L i = 1 := by omega
  have hk := hk Q
  rw [e1] at hk
  have i5 : (nI i < 5) = True := eq_true (nI_lt (b := 5) (by omega) (by decide))
  simp only [x58_0, x58_1, x58_4, x58_5, x58_6, x58_9, x58_10, x58_11, x58_14, x58_17, x58_18, x58_19, x58_21, x58_23, x58_24, x58_25, x58_27, x58_28, x58_32, x58_34, x58_37, x58_39, x58_41, x58_44, x58_47, x58_49, x58_51, x58_54, x58_55, x58_58, x58_60, x58_61, x58_62, x58_65, x58_66, x58_67, x58_70, x58_72, x58_73, x58_76, x58_77, x58_80, x58_83, x58_84, x58_86, x58_87, x58_88, x58_90, x58_91, x58_94, x58_97, x58_100, x58_101, x58_104, x58_105, x58_108, x58_111, x58_112, x58_114, x58_115, x58_117, x58_118, x58_119, x58_121, x58_124, x58_127, pv_some, pv_none, c1_int, c1_ref, c1_null, true_and, and_true, ne_eq, not_false_eq_true, not_true_eq_false, if_true, if_false, reduceCtorEq, Option.some.injEq, Value.int.injEq, absI_fold, minI_fold, maxI_fold, nI_neg (show i < 2 ^ 31 by omega), i5, ss12 g1, sr3 g1, ss15 g1, sr15 g1, ss16 g1, m_nz, ibn (show i < 5 by omega) (by decide), nI_cl (show i < 2 ^ 31 by omega), S.2.1 i hi, nI_m1', if_true, if_false, true_or, or_true, false_or, or_false, true_and, and_true, false_and, and_false, not_true_eq_false, not_false_eq_true, iff_self, ite_self, ne_eq, true_implies, implies_true, Bool.false_eq_true, decide_true, decide_false, Bool.or_true, Bool.or_false, Bool.true_or, Bool.false_or]
  exact hk
end SRCH2
