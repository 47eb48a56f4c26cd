/-! THE CLASS: the search measured; how many carries -/
section SRCH6
variable {h h1 : aH} {a c G i j k z n w d T u du : Nat} {Q : Option Value → aH → Prop} {L P : Nat → Nat} {s : St} {Lt : Nat → Int32} {po x : Int32}
theorem dsV_none {o : Option Nat} (hd : ∀ d, o = some d → d < 2 ^ 31) : (dsV o = -4) = (o = none) := by
  refine propext ⟨fun q => ?_, fun q => by rw [q]; rfl⟩
  cases o with
  | none => rfl
  | some d =>
    have e : nI d = -4 := q
    exact absurd (e ▸ (by decide : (-4 : Int32) < 0)) (nI_pos (hd d rfl))
theorem SQ.bd (S : SQ h h1 n G s) (hT : falN n G ≤ 720) : ∀ w d, s.1 w = some d → d < 720 := fun w d q => by
  have := S.2.2.2 w d q
  have := S.2.2.1.le
  omega
theorem k_distanceOf (C : CW h a G n) (S : SQ h h1 n G s) (hc : c = 16 ∨ c = 23) (hL : ∀ i, i < G → hI h1 c i = nI (L i)) (v : VL n G L) : X 53 0 [.ref 12, .ref c, .ref 11, .null] [] h1 Q ↔ Q (some (.int (dsV (s.1 (numN L n G))))) h1 := by
  have C1 := C.CF S.1
  have g1 := C1.1.1.1
  have hf := fal_pos C.2.2.2
  have nw := (num_V C.2.2.2 v).1
  have kn := fun Q : Option Value → aH → Prop => k_numberOf (Q := Q) g1 C1.2.1 (show c = 16 ∨ c = 23 ∨ c = 25 by omega) C.2.2.2 hL v
  have n7 : (nI (numN L n G) < 720) = True := eq_true (nI_lt (b := 720) (by omega) (by decide))
  simp only [x53_0, x53_1, x53_2, x53_5, x53_6, x53_7, x53_10, x53_11, x53_14, x53_17, x53_18, x53_21, x53_22, x53_23, x53_26, x53_28, pv_some, pv_none, c1_int, c1_ref, c1_null, true_and, and_true, ne_eq, not_false_eq_true, not_true_eq_false, if_true, if_false, reduceCtorEq, Option.some.injEq, Value.int.injEq, absI_fold, minI_fold, maxI_fold, cs11 g1, kn, nI_neg (show numN L n G < 2 ^ 31 by omega), n7, ss12 g1, sr0 g1, ss13 g1, m_nz, ibn (show numN L n G < 720 by omega) (by decide), nI_cl (show numN L n G < 2 ^ 31 by omega), S.2.1.1 (numN L n G) (by omega), if_true, if_false, true_or, or_true, false_or, or_false, true_and, and_true, false_and, and_false, not_true_eq_false, not_false_eq_true, iff_self, ite_self, ne_eq, true_implies, implies_true, Bool.false_eq_true, decide_true, decide_false, Bool.or_true, Bool.or_false, Bool.true_or, Bool.false_or]
/-- what is known at the end of a measuring -/
def MR (E : Nat → Nat → Prop) (s0 g : Nat) (s : St) : Prop := (∃ d, s.1 g = some d ∧ Ly E s0 d g ∧ ∀ v e, e < d → (s.1 v = some e ↔ Ly E s0 e v)) ∨ (s.1 g = none ∧ ∀ m, ¬ Bl E s0 m g)
theorem k_measureLoop (C : CW h a G n) {s0 g : Nat} (hg : g < falN n G) : ∀ m k, k + m = 720 → ∀ h1 s, SQ h h1 n G s → BI (EW h a G n) s0 k s → k ≤ s.2.length → ∃ h' s', SQ h h' n G s' ∧ MR (EW h a G n) s0 g s' ∧ ∀ Q : Option Value → aH → Prop, X 52 101 [.ref 12, .ref a, .ref 22, .ref 11, .int (nI g), .int (nI k)] [] h1 Q ↔ Q none h' := by
  intro m
  have hf := fal_pos C.2.2.2
  have I := C.1
  induction m with
  | zero =>
    intro k hk h1 s S B kl
    have le := S.2.2.1.le
    have g1 := (C.CF S.1).1.1.1
    have kl2 : k = s.2.length := by omega
    refine ⟨h1, s, S, ?_, fun Q => ?_⟩
    · cases hs : s.1 g with
      | none => exact Or.inr ⟨hs, BI_end2 (kl2 ▸ B) hs⟩
      | some d => exact Or.inl ⟨d, hs, BI_end1 B hs⟩
    · rw [x52_101]
      simp only [x52_0, x52_1, x52_4, x52_6, x52_9, x52_10, x52_11, x52_14, x52_15, x52_19, x52_20, x52_23, x52_26, x52_28, x52_29, x52_32, x52_33, x52_36, x52_39, x52_41, x52_42, x52_44, x52_45, x52_48, x52_51, x52_52, x52_55, x52_58, x52_59, x52_60, x52_61, x52_64, x52_67, x52_70, x52_71, x52_74, x52_75, x52_76, x52_79, x52_82, x52_84, x52_86, x52_89, x52_91, x52_94, x52_97, x52_98, x52_99, x52_103, x52_104, x52_107, x52_110, x52_112, x52_115, x52_118, x52_119, x52_122, x52_124, x52_125, x52_127, x52_130, x52_131, x52_132, x52_135, x52_137, x52_138, x52_139, x52_140, x52_143, x52_146, x52_149, pv_some, pv_none, c1_int, c1_ref, c1_null, true_and, and_true, ne_eq, not_false_eq_true, not_true_eq_false, if_true, if_false, reduceCtorEq, Option.some.injEq, Value.int.injEq, absI_fold, minI_fold, maxI_fold, ss12 g1, S.2.1.2.1, nI_lt_iff (show k < 2 ^ 31 by omega) (show s.2.length < 2 ^ 31 by omega), show ¬ k < s.2.length by omega, if_true, if_false, true_or, or_true, false_or, or_false, true_and, and_true, false_and, and_false, not_true_eq_false, not_false_eq_true, iff_self, ite_self, ne_eq, true_implies, implies_true, Bool.false_eq_true, decide_true, decide_false, Bool.or_true, Bool.or_false, Bool.true_or, Bool.false_or]
  | succ m ih =>
    intro k hk h1 s S B kl
    have le := S.2.2.1.le
    have g1 := (C.CF S.1).1.1.1
    by_cases c0 : k < s.2.length
    · have k7 : (nI k < 720) = True := eq_true (nI_lt (b := 720) (by omega) (by decide))
      have eg := S.2.1.1 g (by omega)
      have dn : (dsV (s.1 g) = -4) = (s.1 g = none) := dsV_none (fun d q => by have := S.bd hf.2 g d q; omega)
      cases hs : s.1 g with
      | none =>
        obtain ⟨u, hu⟩ : ∃ u, s.2[k]? = some u := ⟨_, List.getElem?_eq_getElem c0⟩
        obtain ⟨du, hdu⟩ := BI_dist B hu
        have ul := S.2.2.1.2.1 u (List.mem_iff_getElem?.mpr ⟨k, hu⟩)
        obtain ⟨h2, s2, S2, x2, k2⟩ := k_goOn C S ul hdu
        have B2 := BI_next B hu hdu x2
        have l2 : s.2.length ≤ s2.2.length := by
          obtain ⟨-, l, e, -⟩ := x2
          rw [e, List.length_append]
          omega
        obtain ⟨h', s', S', M', k'⟩ := ih (k + 1) (by omega) h2 s2 S2 B2 (by omega)
        refine ⟨h', s', S', M', fun Q => ?_⟩
        have eq := S.2.1.2.2 k u hu
        rw [hs] at dn
        rw [x52_101]
        simp only [x52_0, x52_1, x52_4, x52_6, x52_9, x52_10, x52_11, x52_14, x52_15, x52_19, x52_20, x52_23, x52_26, x52_28, x52_29, x52_32, x52_33, x52_36, x52_39, x52_41, x52_42, x52_44, x52_45, x52_48, x52_51, x52_52, x52_55, x52_58, x52_59, x52_60, x52_61, x52_64, x52_67, x52_70, x52_71, x52_74, x52_75, x52_76, x52_79, x52_82, x52_84, x52_86, x52_89, x52_91, x52_94, x52_97, x52_98, x52_99, x52_103, x52_104, x52_107, x52_110, x52_112, x52_115, x52_118, x52_119, x52_122, x52_124, x52_125, x52_127, x52_130, x52_131, x52_132, x52_135, x52_137, x52_138, x52_139, x52_140, x52_143, x52_146, x52_149, pv_some, pv_none, c1_int, c1_ref, c1_null, true_and, and_true, ne_eq, not_false_eq_true, not_true_eq_false, if_true, if_false, reduceCtorEq, Option.some.injEq, Value.int.injEq, absI_fold, minI_fold, maxI_fold, ss12 g1, sr0 g1, sr1 g1, ss13 g1, ss14 g1, m_nz, S.2.1.2.1, nI_lt_iff (show k < 2 ^ 31 by omega) (show s.2.length < 2 ^ 31 by omega), c0, k7, ibn (show g < 720 by omega) (by decide), nI_cl (show g < 2 ^ 31 by omega), eg, hs, dn, ibn (show k < 720 by omega) (by decide), nI_cl (show k < 2 ^ 31 by omega), eq, k2, nI_add1, if_true, if_false, true_or, or_true, false_or, or_false, true_and, and_true, false_and, and_false, not_true_eq_false, not_false_eq_true, iff_self, ite_self, ne_eq, true_implies, implies_true, Bool.false_eq_true, decide_true, decide_false, Bool.or_true, Bool.or_false, Bool.true_or, Bool.false_or]
        exact k' Q
      | some d =>
        refine ⟨h1, s, S, Or.inl ⟨d, hs, BI_end1 B hs⟩, fun Q => ?_⟩
        rw [hs] at dn
        rw [x52_101]
        simp only [x52_0, x52_1, x52_4, x52_6, x52_9, x52_10, x52_11, x52_14, x52_15, x52_19, x52_20, x52_23, x52_26, x52_28, x52_29, x52_32, x52_33, x52_36, x52_39, x52_41, x52_42, x52_44, x52_45, x52_48, x52_51, x52_52, x52_55, x52_58, x52_59, x52_60, x52_61, x52_64, x52_67, x52_70, x52_71, x52_74, x52_75, x52_76, x52_79, x52_82, x52_84, x52_86, x52_89, x52_91, x52_94, x52_97, x52_98, x52_99, x52_103, x52_104, x52_107, x52_110, x52_112, x52_115, x52_118, x52_119, x52_122, x52_124, x52_125, x52_127, x52_130, x52_131, x52_132, x52_135, x52_137, x52_138, x52_139, x52_140, x52_143, x52_146, x52_149, pv_some, pv_none, c1_int, c1_ref, c1_null, true_and, and_true, ne_eq, not_false_eq_true, not_true_eq_false, if_true, if_false, reduceCtorEq, Option.some.injEq, Value.int.injEq, absI_fold, minI_fold, maxI_fold, ss12 g1, sr0 g1, ss13 g1, m_nz, S.2.1.2.1, nI_lt_iff (show k < 2 ^ 31 by omega) (show s.2.length < 2 ^ 31 by omega), c0, k7, ibn (show g < 720 by omega) (by decide), nI_cl (show g < 2 ^ 31 by omega), eg, hs, dn, reduceCtorEq, if_true, if_false, true_or, or_true, false_or, or_false, true_and, and_true, false_and, and_false, not_true_eq_false, not_false_eq_true, iff_self, ite_self, ne_eq, true_implies, implies_true, Bool.false_eq_true, decide_true, decide_false, Bool.or_true, Bool.or_false, Bool.true_or, Bool.false_or]
    · have kl2 : k = s.2.length := by omega
      refine ⟨h1, s, S, ?_, fun Q => ?_⟩
      · cases hs : s.1 g with
        | none => exact Or.inr ⟨hs, BI_end2 (kl2 ▸ B) hs⟩
        | some d => exact Or.inl ⟨d, hs, BI_end1 B hs⟩
      · rw [x52_101]
        simp only [x52_0, x52_1, x52_4, x52_6, x52_9, x52_10, x52_11, x52_14, x52_15, x52_19, x52_20, x52_23, x52_26, x52_28, x52_29, x52_32, x52_33, x52_36, x52_39, x52_41, x52_42, x52_44, x52_45, x52_48, x52_51, x52_52, x52_55, x52_58, x52_59, x52_60, x52_61, x52_64, x52_67, x52_70, x52_71, x52_74, x52_75, x52_76, x52_79, x52_82, x52_84, x52_86, x52_89, x52_91, x52_94, x52_97, x52_98, x52_99, x52_103, x52_104, x52_107, x52_110, x52_112, x52_115, x52_118, x52_119, x52_122, x52_124, x52_125, x52_127, x52_130, x52_131, x52_132, x52_135, x52_137, x52_138, x52_139, x52_140, x52_143, x52_146, x52_149, pv_some, pv_none, c1_int, c1_ref, c1_null, true_and, and_true, ne_eq, not_false_eq_true, not_true_eq_false, if_true, if_false, reduceCtorEq, Option.some.injEq, Value.int.injEq, absI_fold, minI_fold, maxI_fold, ss12 g1, S.2.1.2.1, nI_lt_iff (show k < 2 ^ 31 by omega) (show s.2.length < 2 ^ 31 by omega), c0, if_true, if_false, true_or, or_true, false_or, or_false, true_and, and_true, false_and, and_false, not_true_eq_false, not_false_eq_true, iff_self, ite_self, ne_eq, true_implies, implies_true, Bool.false_eq_true, decide_true, decide_false, Bool.or_true, Bool.or_false, Bool.true_or, Bool.false_or]
abbrev lwC (h : aH) (a n G : Nat) : Nat → Nat := lwN (loA h a (hI h 22 2)) n G
theorem k_measure (C : CW h a G n) (v : VL n G P) (hP : ∀ i, i < G → hI h 23 i = nI (P i)) : ∃ h' s', SQ h h' n G s' ∧ MR (EW h a G n) (numN (lwC h a n G) n G) (numN P n G) s' ∧ ∀ Q : Option Value → aH → Prop, X 52 0 [.ref 12, .ref a, .ref 22, .ref 11, .null, .null] [] h Q ↔ Q none h' := by
  have hf := fal_pos C.2.2.2
  have I := C.1
  have g := I.1.1
  have h5 := I.1.2.2.2
  have vl : VL n G (lwC h a n G) := law_V C.2.2.2
  have nl := (num_V C.2.2.2 vl).1
  have np := (num_V C.2.2.2 v).1
  -- the heap when the law's places stand up to k
  generalize hB : sI (fillH h 13 720 (-4)) 12 2 0 = B0
  have FB : CF h B0 := by
    rw [← hB]
    refine CF.sI ?_ _ (Or.inl ⟨by decide, by decide⟩)
    unfold fillH
    exact CF.wI (fun b j q1 q2 q3 => by rw [if_neg (by omega)])
  have RB : SR B0 (fun _ => none, []) := by
    rw [← hB]
    refine ⟨fun w hw => ?_, ?_, fun k w q => (by cases q)⟩
    · rw [hI_sI, if_neg (by omega)]
      unfold fillH
      rw [hI_wI, if_pos ⟨rfl, hw⟩]
      rfl
    · rw [hI_sI, if_pos ⟨rfl, rfl⟩]
      rfl
  have WB : WfD (falN n G) (fun _ => none, []) := by
    refine ⟨⟨fun v q => absurd rfl q, fun v q => absurd q List.not_mem_nil, ?_⟩, fun w d q => (by cases q)⟩
    have : ∀ T, cntB (fun v => ((fun _ => none : Nat → Option Nat) v).isSome) T = 0 := by
      intro T
      induction T with
      | zero => rfl
      | succ T ih =>
        unfold cntB at ih ⊢
        rw [foldN, ih]
        rfl
    rw [this]
    rfl
  have up : ∀ k, k ≤ G → ∃ h2, (CF h h2 ∧ SR h2 (fun _ => none, []) ∧ ∀ i, i < k → hI h2 16 i = nI (lwC h a n G i)) ∧ ∀ Q : Option Value → aH → Prop, (X 52 0 [.ref 12, .ref a, .ref 22, .ref 11, .null, .null] [] h Q ↔ X 52 17 [.ref 12, .ref a, .ref 22, .ref 11, .int (nI k), .null] [] h2 Q) := by
    intro k
    induction k with
    | zero =>
      intro _
      refine ⟨B0, ⟨FB, RB, fun i hi => by omega⟩, fun Q => ?_⟩
      have gf : GS (fillH h 13 720 (-4)) := g
      simp only [x52_0, x52_1, x52_4, x52_6, x52_9, x52_10, x52_11, x52_14, x52_15, x52_19, x52_20, x52_23, x52_26, x52_28, x52_29, x52_32, x52_33, x52_36, x52_39, x52_41, x52_42, x52_44, x52_45, x52_48, x52_51, x52_52, x52_55, x52_58, x52_59, x52_60, x52_61, x52_64, x52_67, x52_70, x52_71, x52_74, x52_75, x52_76, x52_79, x52_82, x52_84, x52_86, x52_89, x52_91, x52_94, x52_97, x52_98, x52_99, x52_103, x52_104, x52_107, x52_110, x52_112, x52_115, x52_118, x52_119, x52_122, x52_124, x52_125, x52_127, x52_130, x52_131, x52_132, x52_135, x52_137, x52_138, x52_139, x52_140, x52_143, x52_146, x52_149, pv_some, pv_none, c1_int, c1_ref, c1_null, true_and, and_true, ne_eq, not_false_eq_true, not_true_eq_false, if_true, if_false, reduceCtorEq, Option.some.injEq, Value.int.injEq, absI_fold, minI_fold, maxI_fold, ss12 g, sr0 g, m_nz, k_fill (ss13 g) (by decide), ss12 gf, hB, if_true, if_false, true_or, or_true, false_or, or_false, true_and, and_true, false_and, and_false, not_true_eq_false, not_false_eq_true, iff_self, ite_self, ne_eq, true_implies, implies_true, Bool.false_eq_true, decide_true, decide_false, Bool.or_true, Bool.or_false, Bool.true_or, Bool.false_or]
      rfl
    | succ k ih =>
      intro hk
      obtain ⟨h2, ⟨F2, R2, e2⟩, k2⟩ := ih (by omega)
      have C2 := C.CF F2
      have g2 := C2.1.1.1
      have lw : lawF (loA h2 a (hI h 22 2)) (hI h2 a 6) k G = nI (lwC h a n G k) := by
        rw [C2.2.2.1, lawF_congr (lo' := loA h a (hI h 22 2)) (fun j hj => by show loudF _ _ _ = loudF _ _ _; rw [F2.inn I.2.2 (c := 1) (by decide), F2.inn I.2.2 (c := 2) (by decide)]) (show k < G by omega)]
        exact law_N C.2.2.2 (by omega)
      have e22 : hI h2 22 2 = hI h 22 2 := F2.2 22 2 (by decide) (by decide) (by decide)
      refine ⟨sI h2 16 k (nI (lwC h a n G k)), ⟨F2.sI _ (Or.inl ⟨by decide, by decide⟩), R2.congr (fun b j q1 q2 => by rw [hI_sI, if_neg (by omega)]), fun i hi => ?_⟩, fun Q => (k2 Q).trans ?_⟩
      · rw [hI_sI]
        by_cases q : i = k
        · rw [if_pos ⟨rfl, q⟩, q]
        · rw [if_neg (fun z => q z.2)]
          exact e2 i (by omega)
      · have k5 : (nI k < 5) = True := eq_true (nI_lt (b := 5) (by omega) (by decide))
        rw [x52_17]
        simp only [x52_0, x52_1, x52_4, x52_6, x52_9, x52_10, x52_11, x52_14, x52_15, x52_19, x52_20, x52_23, x52_26, x52_28, x52_29, x52_32, x52_33, x52_36, x52_39, x52_41, x52_42, x52_44, x52_45, x52_48, x52_51, x52_52, x52_55, x52_58, x52_59, x52_60, x52_61, x52_64, x52_67, x52_70, x52_71, x52_74, x52_75, x52_76, x52_79, x52_82, x52_84, x52_86, x52_89, x52_91, x52_94, x52_97, x52_98, x52_99, x52_103, x52_104, x52_107, x52_110, x52_112, x52_115, x52_118, x52_119, x52_122, x52_124, x52_125, x52_127, x52_130, x52_131, x52_132, x52_135, x52_137, x52_138, x52_139, x52_140, x52_143, x52_146, x52_149, pv_some, pv_none, c1_int, c1_ref, c1_null, true_and, and_true, ne_eq, not_false_eq_true, not_true_eq_false, if_true, if_false, reduceCtorEq, Option.some.injEq, Value.int.injEq, absI_fold, minI_fold, maxI_fold, inn_s g2 I.1.2.1, k_guests g2 I.1.2.1, C2.1.1.2.2.1, nI_lt_iff (show k < 2 ^ 31 by omega) (show G < 2 ^ 31 by omega), show k < G by omega, k5, ss12 g2, sr3 g2, ss15 g2, sr15 g2, ss16 g2, cs22 g2, m_nz, e22, k_lawfulBed C2.1.1 (show k < G by omega), lw, ibwn (show k < 5 by omega) (by decide), nI_cl (show k < 2 ^ 31 by omega), nI_add1, if_true, if_false, true_or, or_true, false_or, or_false, true_and, and_true, false_and, and_false, not_true_eq_false, not_false_eq_true, iff_self, ite_self, ne_eq, true_implies, implies_true, Bool.false_eq_true, decide_true, decide_false, Bool.or_true, Bool.or_false, Bool.true_or, Bool.false_or]
  have key : ∀ h2, (CF h h2 ∧ SR h2 (fun _ => none, []) ∧ ∀ i, i < G → hI h2 16 i = nI (lwC h a n G i)) → ∃ h' s', SQ h h' n G s' ∧ MR (EW h a G n) (numN (lwC h a n G) n G) (numN P n G) s' ∧ ∀ Q : Option Value → aH → Prop, X 52 17 [.ref 12, .ref a, .ref 22, .ref 11, .int (nI G), .null] [] h2 Q ↔ Q none h' := by
    rintro h2 ⟨F2, R2, e2⟩
    have C2 := C.CF F2
    have g2 := C2.1.1.1
    have F3 : CF h (rchH h2 (fun _ => none, []) (numN (lwC h a n G) n G) 0) := rch_CF F2
    have C3 := C.CF F3
    have g3 := C3.1.1.1
    have S3 : SQ h (rchH h2 (fun _ => none, []) (numN (lwC h a n G) n G) 0) n G (rchS (numN (lwC h a n G) n G) 0 (fun _ => none, [])) := ⟨F3, R2.rch WB hf.2 nl, WB.rch nl (Nat.le_refl 0)⟩
    have B3 : BI (EW h a G n) (numN (lwC h a n G) n G) 0 (rchS (numN (lwC h a n G) n G) 0 (fun _ => none, [])) := BI_start _ (rch_Ext _)
    obtain ⟨h', s', S', M', k'⟩ := k_measureLoop C np 720 0 (by omega) _ _ S3 B3 (Nat.zero_le _)
    refine ⟨h', s', S', M', fun Q => ?_⟩
    have kn := fun Q : Option Value → aH → Prop => k_numberOf (Q := Q) g2 C2.2.1 (Or.inl rfl) C.2.2.2 e2 vl
    have kr := fun Q : Option Value → aH → Prop => k_reach (Q := Q) (d := 0) g2 R2 WB hf.2 nl
    have hP3 : ∀ i, i < G → hI (rchH h2 (fun _ => none, []) (numN (lwC h a n G) n G) 0) 23 i = nI (P i) := fun i hi => by rw [F3.2 23 i (by decide) (by decide) (by decide)]; exact hP i hi
    have kp := fun Q : Option Value → aH → Prop => k_numberOf (Q := Q) g3 C3.2.1 (Or.inr (Or.inl rfl)) C.2.2.2 hP3 v
    have n7 : (nI (numN P n G) < 720) = True := eq_true (nI_lt (b := 720) (by omega) (by decide))
    have kr' : ∀ Q : Option Value → aH → Prop, X 55 0 [.ref 12, .int (nI (numN (lwC h a n G) n G)), .int 0] [] h2 Q ↔ Q none (rchH h2 (fun _ => none, []) (numN (lwC h a n G) n G) 0) := kr
    rw [x52_17]
    simp only [x52_0, x52_1, x52_4, x52_6, x52_9, x52_10, x52_11, x52_14, x52_15, x52_19, x52_20, x52_23, x52_26, x52_28, x52_29, x52_32, x52_33, x52_36, x52_39, x52_41, x52_42, x52_44, x52_45, x52_48, x52_51, x52_52, x52_55, x52_58, x52_59, x52_60, x52_61, x52_64, x52_67, x52_70, x52_71, x52_74, x52_75, x52_76, x52_79, x52_82, x52_84, x52_86, x52_89, x52_91, x52_94, x52_97, x52_98, x52_99, x52_103, x52_104, x52_107, x52_110, x52_112, x52_115, x52_118, x52_119, x52_122, x52_124, x52_125, x52_127, x52_130, x52_131, x52_132, x52_135, x52_137, x52_138, x52_139, x52_140, x52_143, x52_146, x52_149, pv_some, pv_none, c1_int, c1_ref, c1_null, true_and, and_true, ne_eq, not_false_eq_true, not_true_eq_false, if_true, if_false, reduceCtorEq, Option.some.injEq, Value.int.injEq, absI_fold, minI_fold, maxI_fold, inn_s g2 I.1.2.1, k_guests g2 I.1.2.1, C2.1.1.2.2.1, nI_lt_iff (show G < 2 ^ 31 by omega) (show G < 2 ^ 31 by omega), Nat.lt_irrefl, ss12 g2, sr3 g2, ss15 g2, sr15 g2, cs11 g2, m_nz, kn, kr', cs22 g3, lie_r g3 l22, cs11 g3, kp, nI_neg (show numN P n G < 2 ^ 31 by omega), n7, if_true, if_false, true_or, or_true, false_or, or_false, true_and, and_true, false_and, and_false, not_true_eq_false, not_false_eq_true, iff_self, ite_self, ne_eq, true_implies, implies_true, Bool.false_eq_true, decide_true, decide_false, Bool.or_true, Bool.or_false, Bool.true_or, Bool.false_or]
    exact k' Q
  obtain ⟨h2, q2, e2⟩ := up G (Nat.le_refl G)
  obtain ⟨h', s', S', M', k'⟩ := key h2 q2
  exact ⟨h', s', S', M', fun Q => (e2 Q).trans (k' Q)⟩
end SRCH6
