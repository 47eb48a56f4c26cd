/-! THE REFERENCE READS A TEXT AS parseF SAYS -/
theorem rdR_iff (c : Nat → Int32) : ∀ (r q e m : Nat), rdR c r q = some (e, m) ↔ (1 ≤ m ∧ m ≤ r) ∧ (∀ j, j < m → dig (c (psF c q j)) = true) ∧ (∀ j, j + 1 < m → c (nxF c (psF c q j)) = 44) ∧ c (nxF c (psF c q (m - 1))) = 59 ∧ e = nxF c (psF c q (m - 1)) + 1 := by
  intro r
  induction r with
  | zero => intro q e m; simp [rdR]; omega
  | succ r ih =>
    intro q e m
    rw [rdR]
    by_cases h1 : dig (c q) = true
    · rw [if_pos h1]
      by_cases h2 : c (nxF c q) = 59
      · rw [if_pos h2]
        constructor
        · intro z
          simp only [Option.some.injEq, Prod.mk.injEq] at z
          obtain ⟨rfl, rfl⟩ := z
          exact ⟨by omega, fun j hj => by have : j = 0 := by omega
                                          subst this; exact h1, fun j hj => by omega, h2, rfl⟩
        · rintro ⟨z1, z2, z3, z4, z5⟩
          have hm : m = 1 := by
            rcases Nat.lt_or_ge 1 m with q1 | q1
            · have := z3 0 (by omega)
              rw [show psF c q 0 = q from rfl, h2] at this
              exact absurd this (by decide)
            · omega
          subst hm
          rw [z5]; rfl
      · rw [if_neg h2]
        by_cases h3 : c (nxF c q) = 44
        · rw [if_pos h3]
          constructor
          · intro z
            cases hq : rdR c r (nxF c q + 1) with
            | none => rw [hq] at z; simp at z
            | some y =>
              obtain ⟨e', m'⟩ := y
              rw [hq] at z
              simp only [Option.map_some, Option.some.injEq, Prod.mk.injEq] at z
              obtain ⟨rfl, rfl⟩ := z
              obtain ⟨i1, i2, i3, i4, i5⟩ := (ih _ _ _).mp hq
              rw [psF_sh] at i4 i5
              rw [show m' - 1 + 1 = m' by omega] at i4 i5
              refine ⟨by omega, fun j hj => ?_, fun j hj => ?_, by rw [show m' + 1 - 1 = m' by omega]; exact i4, by rw [show m' + 1 - 1 = m' by omega]; exact i5⟩
              · cases j with
                | zero => exact h1
                | succ j => have := i2 j (by omega); rw [psF_sh] at this; exact this
              · cases j with
                | zero => exact h3
                | succ j => have := i3 j (by omega); rw [psF_sh] at this; exact this
          · rintro ⟨z1, z2, z3, z4, z5⟩
            have hm : 2 ≤ m := by
              rcases Nat.lt_or_ge 1 m with q1 | q1
              · omega
              · have : m = 1 := by omega
                subst this
                rw [show psF c q (1 - 1) = q from rfl, h3] at z4
                exact absurd z4 (by decide)
            have : rdR c r (nxF c q + 1) = some (e, m - 1) := by
              refine (ih _ _ _).mpr ⟨by omega, fun j hj => ?_, fun j hj => ?_, ?_, ?_⟩
              · rw [psF_sh]; exact z2 _ (by omega)
              · rw [psF_sh]; exact z3 _ (by omega)
              · rw [psF_sh, show m - 1 - 1 + 1 = m - 1 by omega]; exact z4
              · rw [psF_sh, show m - 1 - 1 + 1 = m - 1 by omega]; exact z5
            rw [this]
            simp only [Option.map_some, Option.some.injEq, Prod.mk.injEq, true_and]
            omega
        · rw [if_neg h3]
          constructor
          · intro z; cases z
          · rintro ⟨z1, z2, z3, z4, z5⟩
            exfalso
            rcases Nat.lt_or_ge 1 m with q1 | q1
            · exact h3 (z3 0 (by omega))
            · have : m = 1 := by omega
              subst this
              exact h2 z4
    · rw [if_neg h1]
      constructor
      · intro z; cases z
      · rintro ⟨z1, z2, -⟩
        exact absurd (z2 0 (by omega)) h1
theorem small_nn {v : Int32} (h : smallV v) : ¬ v < 0 := by
  obtain ⟨k, hk, rfl⟩ := h
  exact nI_pos (by omega)
theorem nm_ok (c : Nat → Int32) (q : Nat) (lo hi en : Int32) : ¬ nmV c q lo hi en < 0 ↔ dig (c q) = true ∧ c (nxF c q) = en ∧ ¬ vlF c q < lo ∧ ¬ hi < vlF c q := by
  unfold nmV
  by_cases h1 : dig (c q) = true
  · rw [if_pos h1]
    by_cases h2 : c (nxF c q) = en ∧ ¬ vlF c q < lo ∧ ¬ hi < vlF c q
    · rw [if_pos h2]
      exact ⟨fun _ => ⟨h1, h2⟩, fun _ => small_nn (vlF_small c q h1)⟩
    · rw [if_neg h2]
      exact ⟨fun z => absurd (by decide) z, fun z => absurd z.2 h2⟩
  · rw [if_neg h1]
    exact ⟨fun z => absurd (by decide) z, fun z => absurd z.1 h1⟩
theorem nm_val {c : Nat → Int32} {q : Nat} {lo hi en : Int32} (h : ¬ nmV c q lo hi en < 0) : nmV c q lo hi en = vlF c q ∧ nmP c q = nxF c q + 1 := by
  have h2 := (nm_ok c q lo hi en).mp h
  unfold nmV nmP
  rw [if_pos h2.1, if_pos h2.2, if_pos h2.1]
  exact ⟨rfl, rfl⟩
/-- heaps that differ in the reference's draft and place alone -/
def MFr (h h' : aH) : Prop := h' = wI h (hI h') ∧ ∀ b j, b ≠ 47 → ¬ (b = 44 ∧ j = 11) → hI h' b j = hI h b j
theorem MFr.refl (h : aH) : MFr h h := ⟨by obtain ⟨x1, x2, x3, x4, x5⟩ := h; rfl, fun _ _ _ _ => rfl⟩
theorem MFr.trans {h h1 h2 : aH} (x : MFr h h1) (y : MFr h1 h2) : MFr h h2 := by
  refine ⟨?_, fun b j q1 q2 => (y.2 b j q1 q2).trans (x.2 b j q1 q2)⟩
  have e1 := y.1
  rw [x.1] at e1
  exact e1
theorem MFr.GM {h h' : aH} (x : MFr h h') (g : GM h) : GM h' := by rw [x.1]; exact g
theorem MFr.MT {h h' : aH} {n : Nat} (x : MFr h h') (T : MT h n) : MT h' n := ⟨x.GM T.1, by rw [x.2 44 1 (by decide) (by decide)]; exact T.2.1, T.2.2⟩
theorem MFr.mlt {h h' : aH} (x : MFr h h') : mlt (hI h' 45) = mlt (hI h 45) := by
  rw [show hI h' 45 = hI h 45 from by funext p; exact x.2 45 p (by decide) (by omega)]
theorem MFr.sI {h h' : aH} (x : MFr h h') {b k : Nat} (v : Int32) (hb : b = 47 ∨ b = 44 ∧ k = 11) : MFr h (sI h' b k v) := by
  refine x.trans ⟨rfl, fun c j q1 q2 => ?_⟩
  rw [hI_sI, if_neg]
  rintro ⟨rfl, rfl⟩
  rcases hb with q | q
  · exact q1 q
  · exact q2 q
/-- the reference's draft is a draft -/
def MD (h : aH) (D : Nat → Int32) : Prop := (∀ j, j < 6 → hI h 47 j = D j) ∧ ∀ i, i < gN D → ∀ r, r < 5 → hI h 47 (6 + 5 * r + i) = D (6 + 5 * r + i)
section MOD2
variable {h : aH} {n p q : Nat} {Q : Option Value → aH → Prop} {D : Nat → Int32} {ch : Int32}
theorem psF_lt (c : Nat → Int32) (q : Nat) : ∀ j, psF c q j ≤ q + 3 * j := by
  intro j
  induction j with
  | zero => exact Nat.le_refl _
  | succ j ih =>
    have := nxF_le c (psF c q j)
    rw [psF]
    omega
/-- the guest's numbers, all as they are to be -/
def gNum (c : Nat → Int32) (q : Nat) (b1 : Int32) : Prop := ¬ nmV c q 0 3 44 < 0 ∧ ¬ nmV c (psF c q 1) 0 30 44 < 0 ∧ ¬ nmV c (psF c q 2) 0 12 44 < 0 ∧ ¬ nmV c (psF c q 3) 1 40 44 < 0 ∧ ¬ nmV c (psF c q 4) 0 (b1 - 1) 59 < 0
def gOk (c : Nat → Int32) (q : Nat) (D : Nat → Int32) : Prop := gNum c q (D 1) ∧ gN D < 5 ∧ nI (gN D) + 1 < D 1 ∧ takenF (fun i => D (26 + i)) (vlF c (psF c q 4)) (gN D) = false
theorem gdead (g : GM h) {l1 l2 l3 l4 l5 : Value} : X 132 132 [.ref 44, l1, l2, l3, l4, l5, .int 0, .int 0] [] h Q ↔ Q (some (.int 0)) h := by
  rw [x132_132]
  simp only [x132_0, x132_1, x132_2, x132_3, x132_5, x132_8, x132_9, x132_10, x132_13, x132_14, x132_17, x132_18, x132_19, x132_21, x132_23, x132_26, x132_27, x132_28, x132_31, x132_32, x132_35, x132_36, x132_37, x132_39, x132_41, x132_44, x132_45, x132_46, x132_49, x132_50, x132_53, x132_54, x132_55, x132_57, x132_59, x132_62, x132_64, x132_66, x132_69, x132_70, x132_73, x132_74, x132_75, x132_76, x132_79, x132_80, x132_81, x132_82, x132_83, x132_85, x132_88, x132_90, x132_92, x132_95, x132_96, x132_99, x132_100, x132_101, x132_102, x132_105, x132_106, x132_109, x132_110, x132_111, x132_112, x132_113, x132_114, x132_117, x132_118, x132_119, x132_122, x132_123, x132_126, x132_127, x132_129, x132_130, x132_134, x132_135, x132_138, x132_139, x132_140, x132_143, x132_145, x132_148, x132_149, x132_152, x132_154, x132_156, x132_157, x132_158, x132_160, x132_163, x132_164, x132_167, x132_168, x132_170, x132_173, x132_176, x132_178, x132_181, x132_182, x132_183, x132_184, x132_185, x132_187, x132_189, x132_192, x132_194, pv_some, pv_none, c1_int, c1_ref, c1_null, true_and, and_true, ne_eq, not_false_eq_true, not_true_eq_false, if_true, if_false, reduceCtorEq, Option.some.injEq, Value.int.injEq, absI_fold, minI_fold, maxI_fold, m_s g, m_r0 g, m_r2 g, m_r3 g, m_r4 g, m_r5 g, m_r7 g, m_r9 g, m_r12 g, m_r13 g, m_r17 g, m_r18 g, m_s45 g, m_s46 g, m_s47 g, m_s48 g, m_s49 g, m_s50 g, m_s51 g, m_s52 g, m_s53 g, m_s54 g, m_s55 g, m_nz, hS_sI, hR_sI, hS_wI, hR_wI, show ib 0 (2, 31) = True from i31 (k := 0) (by decide), c0, ite_self, if_true, if_false, true_or, or_true, false_or, or_false, true_and, and_true, false_and, and_false, not_true_eq_false, not_false_eq_true, iff_self, ite_self, ne_eq, true_implies, implies_true, Bool.false_eq_true, decide_true, decide_false, Bool.or_true, Bool.or_false, Bool.true_or, Bool.false_or]
theorem MT.w2 (T : MT h n) (v : Int32) : GM (sI h 44 11 v) := T.1
/-- the five numbers -/
theorem m_gnums (T : MT h n) (hq : q < 800) (hat : hI h 44 11 = nI q) (hb : hI h 47 1 = D 1) (hG : hI h 47 0 = nI (gN D)) (h5 : gN D ≤ 5) (hok : gNum (mlt (hI h 45) n) q (D 1)) (l : Value) : X 132 0 [.ref 44, .null, .null, .null, .null, .null, .null, l] [] h Q ↔ X 132 132 [.ref 44, .int (vlF (mlt (hI h 45) n) q), .int (vlF (mlt (hI h 45) n) (psF (mlt (hI h 45) n) q 1)), .int (vlF (mlt (hI h 45) n) (psF (mlt (hI h 45) n) q 2)), .int (vlF (mlt (hI h 45) n) (psF (mlt (hI h 45) n) q 3)), .int (vlF (mlt (hI h 45) n) (psF (mlt (hI h 45) n) q 4)), .int (if gN D < 5 ∧ nI (gN D) + 1 < D 1 then 1 else 0), .int 0] [] (sI h 44 11 (nI (psF (mlt (hI h 45) n) q 5))) Q := by
  have g := T.1
  obtain ⟨o0, o1, o2, o3, o4⟩ := hok
  obtain ⟨v0, p0⟩ := nm_val o0
  obtain ⟨v1, p1⟩ := nm_val o1
  obtain ⟨v2, p2⟩ := nm_val o2
  obtain ⟨v3, p3⟩ := nm_val o3
  obtain ⟨v4, p4⟩ := nm_val o4
  have b := psF_lt (mlt (hI h 45) n) q
  have b1 := b 1
  have b2 := b 2
  have b3 := b 3
  have b4 := b 4
  have k0 := fun (Q : Option Value → aH → Prop) (lo hi en : Int32) => m_number (Q := Q) (lo := lo) (hi := hi) (en := en) T (show q < 900 by omega) hat
  have at1 : ∀ j, hI (sI h 44 11 (nI (psF (mlt (hI h 45) n) q j))) 44 11 = nI (psF (mlt (hI h 45) n) q j) := fun j => by rw [hI_sI, if_pos ⟨rfl, rfl⟩]
  have kj := fun (j : Nat) (hj : j ≤ 4) (Q : Option Value → aH → Prop) (lo hi en : Int32) => m_number (Q := Q) (lo := lo) (hi := hi) (en := en) (T.w (nI (psF (mlt (hI h 45) n) q j))) (show psF (mlt (hI h 45) n) q j < 900 by have := b j; omega) (at1 j)
  simp only [mlt_w, sI_sI] at kj
  have e1 : nmP (mlt (hI h 45) n) q = psF (mlt (hI h 45) n) q 1 := p0
  have e2 : nmP (mlt (hI h 45) n) (psF (mlt (hI h 45) n) q 1) = psF (mlt (hI h 45) n) q 2 := p1
  have e3 : nmP (mlt (hI h 45) n) (psF (mlt (hI h 45) n) q 2) = psF (mlt (hI h 45) n) q 3 := p2
  have e4 : nmP (mlt (hI h 45) n) (psF (mlt (hI h 45) n) q 3) = psF (mlt (hI h 45) n) q 4 := p3
  have e5 : nmP (mlt (hI h 45) n) (psF (mlt (hI h 45) n) q 4) = psF (mlt (hI h 45) n) q 5 := p4
  rw [v0] at o0
  rw [v1] at o1
  rw [v2] at o2
  rw [v3] at o3
  rw [v4] at o4
  have r47 : ∀ (v : Int32) (j : Nat), hI (sI h 44 11 v) 47 j = hI h 47 j := fun v j => by rw [hI_sI, if_neg (by omega)]
  simp only [x132_0, x132_1, x132_2, x132_3, x132_5, x132_8, x132_9, x132_10, x132_13, x132_14, x132_17, x132_18, x132_19, x132_21, x132_23, x132_26, x132_27, x132_28, x132_31, x132_32, x132_35, x132_36, x132_37, x132_39, x132_41, x132_44, x132_45, x132_46, x132_49, x132_50, x132_53, x132_54, x132_55, x132_57, x132_59, x132_62, x132_64, x132_66, x132_69, x132_70, x132_73, x132_74, x132_75, x132_76, x132_79, x132_80, x132_81, x132_82, x132_83, x132_85, x132_88, x132_90, x132_92, x132_95, x132_96, x132_99, x132_100, x132_101, x132_102, x132_105, x132_106, x132_109, x132_110, x132_111, x132_112, x132_113, x132_114, x132_117, x132_118, x132_119, x132_122, x132_123, x132_126, x132_127, x132_129, x132_130, x132_134, x132_135, x132_138, x132_139, x132_140, x132_143, x132_145, x132_148, x132_149, x132_152, x132_154, x132_156, x132_157, x132_158, x132_160, x132_163, x132_164, x132_167, x132_168, x132_170, x132_173, x132_176, x132_178, x132_181, x132_182, x132_183, x132_184, x132_185, x132_187, x132_189, x132_192, x132_194, pv_some, pv_none, c1_int, c1_ref, c1_null, true_and, and_true, ne_eq, not_false_eq_true, not_true_eq_false, if_true, if_false, reduceCtorEq, Option.some.injEq, Value.int.injEq, absI_fold, minI_fold, maxI_fold, m_s g, m_r0 g, m_r2 g, m_r3 g, m_r4 g, m_r5 g, m_r7 g, m_r9 g, m_r12 g, m_r13 g, m_r17 g, m_r18 g, m_s45 g, m_s46 g, m_s47 g, m_s48 g, m_s49 g, m_s50 g, m_s51 g, m_s52 g, m_s53 g, m_s54 g, m_s55 g, m_nz, hS_sI, hR_sI, hS_wI, hR_wI, k0, e1, v0, o0, kj 1 (by omega), e2, v1, o1, kj 2 (by omega), e3, v2, o2, kj 3 (by omega), e4, v3, o3, show ib 1 (2, 31) = True from i31 (k := 1) (by decide), show ib 0 (2, 31) = True from i31 (k := 0) (by decide), c0, ct1, r47, hb, kj 4 (by omega), e5, v4, o4, hG, show (nI (gN D) < 5) = (gN D < 5) from nI_lt_iff (show gN D < 2 ^ 31 by omega) (show 5 < 2 ^ 31 by decide), if_true, if_false, true_or, or_true, false_or, or_false, true_and, and_true, false_and, and_false, not_true_eq_false, not_false_eq_true, iff_self, ite_self, ne_eq, true_implies, implies_true, Bool.false_eq_true, decide_true, decide_false, Bool.or_true, Bool.or_false, Bool.true_or, Bool.false_or]
  by_cases z1 : gN D < 5 <;> by_cases z2 : nI (gN D) + 1 < D 1 <;> simp only [z1, z2, if_true, if_false, true_or, or_true, false_or, or_false, true_and, and_true, false_and, and_false, not_true_eq_false, not_false_eq_true, iff_self, ite_self, ne_eq, true_implies, implies_true, Bool.false_eq_true, decide_true, decide_false, Bool.or_true, Bool.or_false, Bool.true_or, Bool.false_or]
end MOD2
