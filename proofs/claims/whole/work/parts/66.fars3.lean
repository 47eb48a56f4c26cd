/-! THE REFERENCE: how far all is; moves -/
section FARS3
variable {E : Nat → Nat → Prop} {h h1 : aH} {D : Nat → Int32} {i j k z n G c d r w N c0 : Nat} {Q : Option Value → aH → Prop} {x y b hr : Int32} {L P : Nat → Nat} {s : St} {f : Nat → Option Nat}
/-- what is known behind r rounds -/
def RI (E : Nat → Nat → Prop) (c0 r : Nat) (f : Nat → Option Nat) : Prop := ∀ v, (Bl E c0 r v → ∃ d, d ≤ r ∧ f v = some d ∧ Ly E c0 d v) ∧ (¬ Bl E c0 r v → f v = none)
def RF (E : Nat → Nat → Prop) (c0 : Nat) (f : Nat → Option Nat) : Prop := ∀ v, (∀ d, f v = some d ↔ Ly E c0 d v) ∧ (f v = none ↔ ∀ m, ¬ Bl E c0 m v)
theorem RI_at (R : RI E c0 r f) (v : Nat) : f v = some r ↔ Ly E c0 r v := by
  constructor
  · intro q
    by_cases c : Bl E c0 r v
    · obtain ⟨d, d1, d2, d3⟩ := (R v).1 c
      rw [q] at d2
      cases d2
      exact d3
    · rw [(R v).2 c] at q
      cases q
  · intro q
    obtain ⟨d, d1, d2, d3⟩ := (R v).1 (Ly_Bl q)
    rw [d2, Ly_uniq d3 q]
theorem RI_next {s s1 : St} (R : RI E c0 r s.1) (x : Ext (r + 1) (fun w => ∃ u, Ly E c0 r u ∧ E u w) s s1) : RI E c0 (r + 1) s1.1 := by
  intro v
  by_cases c : Bl E c0 r v
  · refine ⟨fun _ => ?_, fun q => absurd (Or.inl c) q⟩
    obtain ⟨d, d1, d2, d3⟩ := (R v).1 c
    exact ⟨d, by omega, (x.1 v).1 d d2, d3⟩
  · have fn := (R v).2 c
    by_cases c2 : ∃ u, Ly E c0 r u ∧ E u v
    · have hl : Ly E c0 (r + 1) v := Ly_succ.mpr ⟨c, c2⟩
      exact ⟨fun _ => ⟨r + 1, Nat.le_refl _, (x.1 v).2.1 fn c2, hl⟩, fun q => absurd (Ly_Bl hl) q⟩
    · refine ⟨fun q => absurd (Ly_succ.mp ⟨q, c⟩).2 c2, fun _ => (x.1 v).2.2 fn c2⟩
theorem RI_end {s s1 : St} (R : RI E c0 r s.1) (x : Ext (r + 1) (fun w => ∃ u, Ly E c0 r u ∧ E u w) s s1) (hs : s.2 = []) (he : s1.2 = []) : RF E c0 s1.1 := by
  have R1 := RI_next R x
  have st : ∀ v, ¬ Ly E c0 (r + 1) v := by
    intro v hv
    obtain ⟨q1, q2⟩ := Ly_succ.mp hv
    obtain ⟨-, l, e1, e2⟩ := x
    rw [hs, List.nil_append, he] at e1
    have := (e2 v).mpr ⟨(R v).2 q1, q2⟩
    rw [← e1] at this
    cases this
  intro v
  have key : ∀ m, Bl E c0 m v → Bl E c0 (r + 1) v := fun m q => Or.inl (Bl_stop st m v q)
  refine ⟨fun d => ⟨fun q => ?_, fun q => ?_⟩, fun q m z => ?_, fun q => (R1 v).2 (q _)⟩
  · by_cases c : Bl E c0 (r + 1) v
    · obtain ⟨d', d1, d2, d3⟩ := (R1 v).1 c
      rw [q] at d2
      cases d2
      exact d3
    · rw [(R1 v).2 c] at q
      cases q
  · obtain ⟨d', d1, d2, d3⟩ := (R1 v).1 (key d (Ly_Bl q))
    rw [d2, Ly_uniq d3 q]
  · obtain ⟨d', d1, d2, d3⟩ := (R1 v).1 (key m z)
    rw [q] at d2
    cases d2
theorem EC_lt (B : BG n (gN D)) {u v : Nat} (e : EC D n u v) : v < 6 ^ gN D := by
  obtain ⟨hu, ho, i, hi, b, hb, hm, rfl⟩ := e
  have v2 := ((okW_iff B hu).mp ho).upd (i := i) hb (may_iff.mp hm).1
  exact codeN_lt (fun j hj => Nat.lt_of_lt_of_le (v2.1 j hj) B.2.2)
theorem m_farsRounds (A : MA h D) (hn : D 1 = nI n) (B : BG n (gN D)) : ∀ m r h1 f, FT2 h h1 D (f, []) → RI (EC D n) c0 r f → r + 1 ≤ cntB (fun v => (f v).isSome) (6 ^ gN D) → 6 ^ gN D ≤ cntB (fun v => (f v).isSome) (6 ^ gN D) + m → ∀ l4 l5 l6 l7 l8 : Value, (c1 l4 = true ∧ c1 l5 = true ∧ c1 l6 = true ∧ c1 l7 = true ∧ c1 l8 = true) → ∃ h' s', FT2 h h' D s' ∧ RF (EC D n) c0 s'.1 ∧ ∀ Q : Option Value → aH → Prop, X 162 68 [.ref 44, .int (nI (6 ^ gN D)), .int 1, .int (nI r), l4, l5, l6, l7, l8] [] h1 Q ↔ Q none h' := by
  intro m
  have h5 := A.g5
  have p6 : 6 ^ gN D ≤ 7776 := Nat.pow_le_pow_right (by decide : 0 < 6) h5
  induction m with
  | zero =>
    intro r h1 f F R hr hm l4 l5 l6 l7 l8 q
    have cl := cntB_le (fun v => (f v).isSome) (6 ^ gN D)
    obtain ⟨h2, s2, m4, m5, m6, m7, m8, F2, q2, x2, k2⟩ := m_farsRound (r := r) (s0 := (f, [])) A hn B (by omega) (6 ^ gN D) 0 (by omega) h1 (f, []) F (Ext.none (fun w ⟨c', z, _⟩ => by omega) _) l5 l6 l7 l8 ⟨q.2.1, q.2.2.1, q.2.2.2.1, q.2.2.2.2⟩
    have x3 : Ext (r + 1) (fun w => ∃ u, Ly (EC D n) c0 r u ∧ EC D n u w) (f, []) s2 := x2.congr (fun w => by
      constructor
      · rintro ⟨c', z1, z2, z3⟩; exact ⟨c', (RI_at R c').mp z2, z3⟩
      · rintro ⟨u, z1, z2⟩; exact ⟨u, z2.1, (RI_at R u).mpr z1, z2⟩)
    have hnil : s2.2 = [] := by
      obtain ⟨y1, l, y2, y3⟩ := x3
      cases hl : s2.2 with
      | nil => rfl
      | cons v t =>
        exfalso
        have hv : v ∈ l := by
          have : l = v :: t := by rw [← hl, y2]; rfl
          rw [this]; exact List.mem_cons_self
        have z := (y3 v).mp hv
        obtain ⟨u, _, he⟩ := z.2
        have z1 : f v = none := z.1
        have := cntB_lt (p := fun v => (f v).isSome) (w := v) (by simp [z1]) (6 ^ gN D) (EC_lt B he)
        omega
    refine ⟨h2, s2, F2, RI_end R x3 rfl hnil, fun Q => ?_⟩
    have kk := k2 Q
    rw [moV_nil] at kk
    have m0 : moV s2 = 0 := by rw [moV_zero]; exact hnil
    rw [m0, x162_68] at kk
    rw [x162_68]
    simp only [x162_0, x162_1, x162_4, x162_5, x162_6, x162_8, x162_9, x162_12, x162_13, x162_16, x162_17, x162_18, x162_19, x162_22, x162_25, x162_26, x162_28, x162_29, x162_32, x162_33, x162_34, x162_37, x162_38, x162_41, x162_42, x162_43, x162_44, x162_47, x162_48, x162_51, x162_54, x162_55, x162_58, x162_59, x162_62, x162_63, x162_64, x162_65, x162_66, x162_67, x162_69, x162_72, x162_73, x162_74, x162_75, x162_79, x162_80, x162_83, x162_84, x162_87, x162_89, x162_90, x162_91, x162_94, x162_95, x162_97, x162_100, x162_103, x162_104, x162_108, x162_109, x162_112, x162_113, x162_114, x162_117, x162_118, x162_121, x162_123, x162_124, x162_126, x162_127, x162_131, x162_132, x162_135, x162_136, x162_137, x162_140, x162_141, x162_143, x162_145, x162_148, x162_151, x162_152, x162_155, x162_157, x162_159, x162_160, x162_161, x162_164, x162_166, x162_167, x162_170, x162_172, x162_174, x162_175, x162_176, x162_179, x162_180, x162_183, x162_185, x162_186, x162_189, x162_190, x162_193, x162_194, x162_195, x162_196, x162_199, x162_201, x162_202, x162_205, x162_207, x162_208, x162_211, x162_212, x162_213, x162_214, x162_217, x162_218, x162_221, x162_223, x162_224, x162_225, x162_228, x162_231, x162_234, x162_237, x162_240, x162_243, x162_246, x162_249, pv_some, pv_none, c1_int, c1_ref, c1_null, true_and, and_true, ne_eq, not_false_eq_true, not_true_eq_false, if_true, if_false, reduceCtorEq, Option.some.injEq, Value.int.injEq, absI_fold, minI_fold, maxI_fold, one_ne, q.1, if_true, if_false, true_or, or_true, false_or, or_false, true_and, and_true, false_and, and_false, not_true_eq_false, not_false_eq_true, iff_self, ite_self, ne_eq, true_implies, implies_true, Bool.false_eq_true, decide_true, decide_false, Bool.or_true, Bool.or_false, Bool.true_or, Bool.false_or] at kk ⊢
    exact kk
  | succ m ih =>
    intro r h1 f F R hr hm l4 l5 l6 l7 l8 q
    have cl := cntB_le (fun v => (f v).isSome) (6 ^ gN D)
    obtain ⟨h2, s2, m4, m5, m6, m7, m8, F2, q2, x2, k2⟩ := m_farsRound (r := r) (s0 := (f, [])) A hn B (by omega) (6 ^ gN D) 0 (by omega) h1 (f, []) F (Ext.none (fun w ⟨c', z, _⟩ => by omega) _) l5 l6 l7 l8 ⟨q.2.1, q.2.2.1, q.2.2.2.1, q.2.2.2.2⟩
    have x3 : Ext (r + 1) (fun w => ∃ u, Ly (EC D n) c0 r u ∧ EC D n u w) (f, []) s2 := x2.congr (fun w => by
      constructor
      · rintro ⟨c', z1, z2, z3⟩; exact ⟨c', (RI_at R c').mp z2, z3⟩
      · rintro ⟨u, z1, z2⟩; exact ⟨u, z2.1, (RI_at R u).mpr z1, z2⟩)
    have kk0 := k2
    by_cases hnil : s2.2 = []
    · refine ⟨h2, s2, F2, RI_end R x3 rfl hnil, fun Q => ?_⟩
      have kk := k2 Q
      rw [moV_nil] at kk
      have m0 : moV s2 = 0 := by rw [moV_zero]; exact hnil
      rw [m0, x162_68] at kk
      rw [x162_68]
      simp only [x162_0, x162_1, x162_4, x162_5, x162_6, x162_8, x162_9, x162_12, x162_13, x162_16, x162_17, x162_18, x162_19, x162_22, x162_25, x162_26, x162_28, x162_29, x162_32, x162_33, x162_34, x162_37, x162_38, x162_41, x162_42, x162_43, x162_44, x162_47, x162_48, x162_51, x162_54, x162_55, x162_58, x162_59, x162_62, x162_63, x162_64, x162_65, x162_66, x162_67, x162_69, x162_72, x162_73, x162_74, x162_75, x162_79, x162_80, x162_83, x162_84, x162_87, x162_89, x162_90, x162_91, x162_94, x162_95, x162_97, x162_100, x162_103, x162_104, x162_108, x162_109, x162_112, x162_113, x162_114, x162_117, x162_118, x162_121, x162_123, x162_124, x162_126, x162_127, x162_131, x162_132, x162_135, x162_136, x162_137, x162_140, x162_141, x162_143, x162_145, x162_148, x162_151, x162_152, x162_155, x162_157, x162_159, x162_160, x162_161, x162_164, x162_166, x162_167, x162_170, x162_172, x162_174, x162_175, x162_176, x162_179, x162_180, x162_183, x162_185, x162_186, x162_189, x162_190, x162_193, x162_194, x162_195, x162_196, x162_199, x162_201, x162_202, x162_205, x162_207, x162_208, x162_211, x162_212, x162_213, x162_214, x162_217, x162_218, x162_221, x162_223, x162_224, x162_225, x162_228, x162_231, x162_234, x162_237, x162_240, x162_243, x162_246, x162_249, pv_some, pv_none, c1_int, c1_ref, c1_null, true_and, and_true, ne_eq, not_false_eq_true, not_true_eq_false, if_true, if_false, reduceCtorEq, Option.some.injEq, Value.int.injEq, absI_fold, minI_fold, maxI_fold, one_ne, q.1, if_true, if_false, true_or, or_true, false_or, or_false, true_and, and_true, false_and, and_false, not_true_eq_false, not_false_eq_true, iff_self, ite_self, ne_eq, true_implies, implies_true, Bool.false_eq_true, decide_true, decide_false, Bool.or_true, Bool.or_false, Bool.true_or, Bool.false_or] at kk ⊢
      exact kk
    · have m1 : moV s2 = 1 := (moV_01 s2).resolve_left (fun z => hnil (by rw [moV_zero] at z; exact z))
      have grow : cntB (fun v => (f v).isSome) (6 ^ gN D) < cntB (fun v => (s2.1 v).isSome) (6 ^ gN D) := by
        obtain ⟨y1, l, y2, y3⟩ := x3
        cases hl : s2.2 with
        | nil => exact absurd hl hnil
        | cons v t =>
          have hv : v ∈ l := by
            have : l = v :: t := by rw [← hl, y2]; rfl
            rw [this]; exact List.mem_cons_self
          have z := (y3 v).mp hv
          obtain ⟨u, _, he⟩ := z.2
          have z1 : f v = none := z.1
          have z2 : s2.1 v = some (r + 1) := (y1 v).2.1 z.1 z.2
          refine cntB_strict (w := v) (fun k _ hk => ?_) (EC_lt B he) (by simp [z2]) (by simp [z1])
          cases hf : f k with
          | none => rw [hf] at hk; cases hk
          | some e => rw [(y1 k).1 e hf]; rfl
      obtain ⟨h', s', F', R', k'⟩ := ih (r + 1) h2 s2.1 ⟨F2.1, F2.2.1, F2.2.2⟩ (RI_next R x3) (by omega) (by omega) m4 m5 m6 m7 m8 q2
      refine ⟨h', s', F', R', fun Q => ?_⟩
      have kk := (k2 Q)
      rw [moV_nil, m1, k' Q] at kk
      rw [x162_68]
      simp only [x162_0, x162_1, x162_4, x162_5, x162_6, x162_8, x162_9, x162_12, x162_13, x162_16, x162_17, x162_18, x162_19, x162_22, x162_25, x162_26, x162_28, x162_29, x162_32, x162_33, x162_34, x162_37, x162_38, x162_41, x162_42, x162_43, x162_44, x162_47, x162_48, x162_51, x162_54, x162_55, x162_58, x162_59, x162_62, x162_63, x162_64, x162_65, x162_66, x162_67, x162_69, x162_72, x162_73, x162_74, x162_75, x162_79, x162_80, x162_83, x162_84, x162_87, x162_89, x162_90, x162_91, x162_94, x162_95, x162_97, x162_100, x162_103, x162_104, x162_108, x162_109, x162_112, x162_113, x162_114, x162_117, x162_118, x162_121, x162_123, x162_124, x162_126, x162_127, x162_131, x162_132, x162_135, x162_136, x162_137, x162_140, x162_141, x162_143, x162_145, x162_148, x162_151, x162_152, x162_155, x162_157, x162_159, x162_160, x162_161, x162_164, x162_166, x162_167, x162_170, x162_172, x162_174, x162_175, x162_176, x162_179, x162_180, x162_183, x162_185, x162_186, x162_189, x162_190, x162_193, x162_194, x162_195, x162_196, x162_199, x162_201, x162_202, x162_205, x162_207, x162_208, x162_211, x162_212, x162_213, x162_214, x162_217, x162_218, x162_221, x162_223, x162_224, x162_225, x162_228, x162_231, x162_234, x162_237, x162_240, x162_243, x162_246, x162_249, pv_some, pv_none, c1_int, c1_ref, c1_null, true_and, and_true, ne_eq, not_false_eq_true, not_true_eq_false, if_true, if_false, reduceCtorEq, Option.some.injEq, Value.int.injEq, absI_fold, minI_fold, maxI_fold, one_ne, q.1, if_true, if_false, true_or, or_true, false_or, or_false, true_and, and_true, false_and, and_false, not_true_eq_false, not_false_eq_true, iff_self, ite_self, ne_eq, true_implies, implies_true, Bool.false_eq_true, decide_true, decide_false, Bool.or_true, Bool.or_false, Bool.true_or, Bool.false_or]
      exact kk
abbrev lwM (h : aH) (D : Nat → Int32) (n : Nat) : Nat → Nat := lwN (loM h D) n (gN D)
theorem m_laysFars (A : MA h D) (hn : D 1 = nI n) (B : BG n (gN D)) : ∃ h' s', FT2 h h' D s' ∧ RF (EC D n) (codeN (lwM h D n) (gN D)) s'.1 ∧ ∀ Q : Option Value → aH → Prop, X 162 0 [.ref 44, .null, .null, .null, .null, .null, .null, .null, .null] [] h Q ↔ Q none h' := by
  have g := A.1
  have h5 := A.g5
  have p6 : 6 ^ gN D ≤ 7776 := Nat.pow_le_pow_right (by decide : 0 < 6) h5
  have vl : VL n (gN D) (lwM h D n) := law_V B
  have ll : ∀ i, i < gN D → lwM h D n i < 6 := fun i hi => Nat.lt_of_lt_of_le (vl.1 i hi) B.2.2
  have cl := codeN_lt ll
  -- the codes are filled
  have up : ∀ k, k ≤ 6 ^ gN D → ∀ Q : Option Value → aH → Prop, (X 162 0 [.ref 44, .null, .null, .null, .null, .null, .null, .null, .null] [] h Q ↔ X 162 7 [.ref 44, .int (nI (6 ^ gN D)), .int (nI k), .null, .null, .null, .null, .null, .null] [] (fillH h 54 k (-1)) Q) := by
    intro k
    induction k with
    | zero =>
      intro _ Q
      have e0 : fillH h 54 0 (-1) = h := aH_ext rfl rfl rfl rfl (fun b j => by unfold fillH; rw [hI_wI, if_neg (by omega)])
      simp only [x162_0, x162_1, x162_4, x162_5, x162_6, x162_8, x162_9, x162_12, x162_13, x162_16, x162_17, x162_18, x162_19, x162_22, x162_25, x162_26, x162_28, x162_29, x162_32, x162_33, x162_34, x162_37, x162_38, x162_41, x162_42, x162_43, x162_44, x162_47, x162_48, x162_51, x162_54, x162_55, x162_58, x162_59, x162_62, x162_63, x162_64, x162_65, x162_66, x162_67, x162_69, x162_72, x162_73, x162_74, x162_75, x162_79, x162_80, x162_83, x162_84, x162_87, x162_89, x162_90, x162_91, x162_94, x162_95, x162_97, x162_100, x162_103, x162_104, x162_108, x162_109, x162_112, x162_113, x162_114, x162_117, x162_118, x162_121, x162_123, x162_124, x162_126, x162_127, x162_131, x162_132, x162_135, x162_136, x162_137, x162_140, x162_141, x162_143, x162_145, x162_148, x162_151, x162_152, x162_155, x162_157, x162_159, x162_160, x162_161, x162_164, x162_166, x162_167, x162_170, x162_172, x162_174, x162_175, x162_176, x162_179, x162_180, x162_183, x162_185, x162_186, x162_189, x162_190, x162_193, x162_194, x162_195, x162_196, x162_199, x162_201, x162_202, x162_205, x162_207, x162_208, x162_211, x162_212, x162_213, x162_214, x162_217, x162_218, x162_221, x162_223, x162_224, x162_225, x162_228, x162_231, x162_234, x162_237, x162_240, x162_243, x162_246, x162_249, pv_some, pv_none, c1_int, c1_ref, c1_null, true_and, and_true, ne_eq, not_false_eq_true, not_true_eq_false, if_true, if_false, reduceCtorEq, Option.some.injEq, Value.int.injEq, absI_fold, minI_fold, maxI_fold, m_s g, m_codes A, e0, if_true, if_false, true_or, or_true, false_or, or_false, true_and, and_true, false_and, and_false, not_true_eq_false, not_false_eq_true, iff_self, ite_self, ne_eq, true_implies, implies_true, Bool.false_eq_true, decide_true, decide_false, Bool.or_true, Bool.or_false, Bool.true_or, Bool.false_or]
      rfl
    | succ k ih =>
      intro hk Q
      have gk : GM (fillH h 54 k (-1)) := g
      have es : sI (fillH h 54 k (-1)) 54 k (-1) = fillH h 54 (k + 1) (-1) := by
        refine (aH_ext (by simp only [hN_sI, hN_cpI, hN_wI, fillH]) (by simp only [hZ_sI, hZ_cpI, hZ_wI, fillH]) (by simp only [hS_sI, hS_cpI, hS_wI, fillH]) (by simp only [hR_sI, hR_cpI, hR_wI, fillH]) (fun b j => ?_))
        unfold fillH
        simp only [hI_sI, hI_wI]
        grind
      rw [ih (by omega) Q, x162_7]
      simp only [x162_0, x162_1, x162_4, x162_5, x162_6, x162_8, x162_9, x162_12, x162_13, x162_16, x162_17, x162_18, x162_19, x162_22, x162_25, x162_26, x162_28, x162_29, x162_32, x162_33, x162_34, x162_37, x162_38, x162_41, x162_42, x162_43, x162_44, x162_47, x162_48, x162_51, x162_54, x162_55, x162_58, x162_59, x162_62, x162_63, x162_64, x162_65, x162_66, x162_67, x162_69, x162_72, x162_73, x162_74, x162_75, x162_79, x162_80, x162_83, x162_84, x162_87, x162_89, x162_90, x162_91, x162_94, x162_95, x162_97, x162_100, x162_103, x162_104, x162_108, x162_109, x162_112, x162_113, x162_114, x162_117, x162_118, x162_121, x162_123, x162_124, x162_126, x162_127, x162_131, x162_132, x162_135, x162_136, x162_137, x162_140, x162_141, x162_143, x162_145, x162_148, x162_151, x162_152, x162_155, x162_157, x162_159, x162_160, x162_161, x162_164, x162_166, x162_167, x162_170, x162_172, x162_174, x162_175, x162_176, x162_179, x162_180, x162_183, x162_185, x162_186, x162_189, x162_190, x162_193, x162_194, x162_195, x162_196, x162_199, x162_201, x162_202, x162_205, x162_207, x162_208, x162_211, x162_212, x162_213, x162_214, x162_217, x162_218, x162_221, x162_223, x162_224, x162_225, x162_228, x162_231, x162_234, x162_237, x162_240, x162_243, x162_246, x162_249, pv_some, pv_none, c1_int, c1_ref, c1_null, true_and, and_true, ne_eq, not_false_eq_true, not_true_eq_false, if_true, if_false, reduceCtorEq, Option.some.injEq, Value.int.injEq, absI_fold, minI_fold, maxI_fold, nI_lt_iff (show k < 2 ^ 31 by omega) (show 6 ^ gN D < 2 ^ 31 by omega), show k < 6 ^ gN D by omega, m_s gk, m_r17 gk, m_s54 gk, m_nz, ibwn (show k < 7776 by omega) (by decide), nI_cl (show k < 2 ^ 31 by omega), es, nI_add1, if_true, if_false, true_or, or_true, false_or, or_false, true_and, and_true, false_and, and_false, not_true_eq_false, not_false_eq_true, iff_self, ite_self, ne_eq, true_implies, implies_true, Bool.false_eq_true, decide_true, decide_false, Bool.or_true, Bool.or_false, Bool.true_or, Bool.false_or]
  -- the law's places
  have lw : ∀ k, k ≤ gN D → ∃ h2, (SF h h2 ∧ hI h2 53 = hI h 53 ∧ hI h2 44 15 = hI h 44 15 ∧ (∀ c, c < 6 ^ gN D → hI h2 54 c = -1) ∧ ∀ i, i < k → hI h2 52 i = nI (lwM h D n i)) ∧ ∀ Q : Option Value → aH → Prop, (X 162 0 [.ref 44, .null, .null, .null, .null, .null, .null, .null, .null] [] h Q ↔ X 162 27 [.ref 44, .int (nI (6 ^ gN D)), .int (nI k), .null, .null, .null, .null, .null, .null] [] h2 Q) := by
    intro k
    induction k with
    | zero =>
      intro _
      have gk : GM (fillH h 54 (6 ^ gN D) (-1)) := g
      refine ⟨fillH h 54 (6 ^ gN D) (-1), ⟨?_, ?_, ?_, fun c hc => ?_, fun i hi => by omega⟩, fun Q => ?_⟩
      · unfold fillH
        exact SF.wI (fun b j q1 q2 q3 => by rw [if_neg (by omega)])
      · funext j
        unfold fillH
        rw [hI_wI, if_neg (by omega)]
      · unfold fillH
        rw [hI_wI, if_neg (by omega)]
      · unfold fillH
        rw [hI_wI, if_pos ⟨rfl, hc⟩]
      · rw [up (6 ^ gN D) (Nat.le_refl _) Q, x162_7]
        simp only [x162_0, x162_1, x162_4, x162_5, x162_6, x162_8, x162_9, x162_12, x162_13, x162_16, x162_17, x162_18, x162_19, x162_22, x162_25, x162_26, x162_28, x162_29, x162_32, x162_33, x162_34, x162_37, x162_38, x162_41, x162_42, x162_43, x162_44, x162_47, x162_48, x162_51, x162_54, x162_55, x162_58, x162_59, x162_62, x162_63, x162_64, x162_65, x162_66, x162_67, x162_69, x162_72, x162_73, x162_74, x162_75, x162_79, x162_80, x162_83, x162_84, x162_87, x162_89, x162_90, x162_91, x162_94, x162_95, x162_97, x162_100, x162_103, x162_104, x162_108, x162_109, x162_112, x162_113, x162_114, x162_117, x162_118, x162_121, x162_123, x162_124, x162_126, x162_127, x162_131, x162_132, x162_135, x162_136, x162_137, x162_140, x162_141, x162_143, x162_145, x162_148, x162_151, x162_152, x162_155, x162_157, x162_159, x162_160, x162_161, x162_164, x162_166, x162_167, x162_170, x162_172, x162_174, x162_175, x162_176, x162_179, x162_180, x162_183, x162_185, x162_186, x162_189, x162_190, x162_193, x162_194, x162_195, x162_196, x162_199, x162_201, x162_202, x162_205, x162_207, x162_208, x162_211, x162_212, x162_213, x162_214, x162_217, x162_218, x162_221, x162_223, x162_224, x162_225, x162_228, x162_231, x162_234, x162_237, x162_240, x162_243, x162_246, x162_249, pv_some, pv_none, c1_int, c1_ref, c1_null, true_and, and_true, ne_eq, not_false_eq_true, not_true_eq_false, if_true, if_false, reduceCtorEq, Option.some.injEq, Value.int.injEq, absI_fold, minI_fold, maxI_fold, nI_lt_iff (show 6 ^ gN D < 2 ^ 31 by omega) (show 6 ^ gN D < 2 ^ 31 by omega), Nat.lt_irrefl, if_true, if_false, true_or, or_true, false_or, or_false, true_and, and_true, false_and, and_false, not_true_eq_false, not_false_eq_true, iff_self, ite_self, ne_eq, true_implies, implies_true, Bool.false_eq_true, decide_true, decide_false, Bool.or_true, Bool.or_false, Bool.true_or, Bool.false_or]
        rfl
    | succ k ih =>
      intro hk
      obtain ⟨h2, ⟨F2, e53, e15, e54, e52⟩, k2⟩ := ih (by omega)
      have kG : k < gN D := by omega
      have A2 := A.SF F2
      have g2 := A2.1
      have lv : lawF (loM h2 D) (D 1) k (gN D) = nI (lwM h D n k) := by
        have : loM h2 D = loM h D := by
          funext j
          show loudF _ _ _ = loudF _ _ _
          rw [e53, e15]
        rw [this, hn]
        exact law_N B kG
      refine ⟨sI h2 52 k (nI (lwM h D n k)), ⟨F2.sI _ (Or.inr (Or.inl ⟨by decide, by decide⟩)), ?_, ?_, fun c hc => ?_, fun i hi => ?_⟩, fun Q => (k2 Q).trans ?_⟩
      · rw [← e53]; funext j; rw [hI_sI, if_neg (by omega)]
      · rw [hI_sI, if_neg (by omega)]; exact e15
      · rw [hI_sI, if_neg (by omega)]; exact e54 c hc
      · rw [hI_sI]
        by_cases q : i = k
        · rw [if_pos ⟨rfl, q⟩, q]
        · rw [if_neg (fun z => q z.2)]
          exact e52 i (by omega)
      · rw [x162_27]
        simp only [x162_0, x162_1, x162_4, x162_5, x162_6, x162_8, x162_9, x162_12, x162_13, x162_16, x162_17, x162_18, x162_19, x162_22, x162_25, x162_26, x162_28, x162_29, x162_32, x162_33, x162_34, x162_37, x162_38, x162_41, x162_42, x162_43, x162_44, x162_47, x162_48, x162_51, x162_54, x162_55, x162_58, x162_59, x162_62, x162_63, x162_64, x162_65, x162_66, x162_67, x162_69, x162_72, x162_73, x162_74, x162_75, x162_79, x162_80, x162_83, x162_84, x162_87, x162_89, x162_90, x162_91, x162_94, x162_95, x162_97, x162_100, x162_103, x162_104, x162_108, x162_109, x162_112, x162_113, x162_114, x162_117, x162_118, x162_121, x162_123, x162_124, x162_126, x162_127, x162_131, x162_132, x162_135, x162_136, x162_137, x162_140, x162_141, x162_143, x162_145, x162_148, x162_151, x162_152, x162_155, x162_157, x162_159, x162_160, x162_161, x162_164, x162_166, x162_167, x162_170, x162_172, x162_174, x162_175, x162_176, x162_179, x162_180, x162_183, x162_185, x162_186, x162_189, x162_190, x162_193, x162_194, x162_195, x162_196, x162_199, x162_201, x162_202, x162_205, x162_207, x162_208, x162_211, x162_212, x162_213, x162_214, x162_217, x162_218, x162_221, x162_223, x162_224, x162_225, x162_228, x162_231, x162_234, x162_237, x162_240, x162_243, x162_246, x162_249, pv_some, pv_none, c1_int, c1_ref, c1_null, true_and, and_true, ne_eq, not_false_eq_true, not_true_eq_false, if_true, if_false, reduceCtorEq, Option.some.injEq, Value.int.injEq, absI_fold, minI_fold, maxI_fold, m_s g2, m_r2 g2, m_r12 g2, m_s46 g2, m_s52 g2, m_nz, show ib 0 (2, 31) = True from i31 (k := 0) (by decide), c0, mlt_G A2 kG, m_lawOf A2 kG, lv, ibwn (show k < 5 by omega) (by decide), nI_cl (show k < 2 ^ 31 by omega), nI_add1, if_true, if_false, true_or, or_true, false_or, or_false, true_and, and_true, false_and, and_false, not_true_eq_false, not_false_eq_true, iff_self, ite_self, ne_eq, true_implies, implies_true, Bool.false_eq_true, decide_true, decide_false, Bool.or_true, Bool.or_false, Bool.true_or, Bool.false_or]
  obtain ⟨h2, ⟨F2, e53, e15, e54, e52⟩, k2⟩ := lw (gN D) (Nat.le_refl _)
  have A2 := A.SF F2
  have g2 := A2.1
  generalize hc : codeN (lwM h D n) (gN D) = cc at *
  have F3 : FT2 h (sI h2 54 cc 0) D (fun v => if v = cc then some 0 else none, []) := by
    refine ⟨F2.sI _ (Or.inr (Or.inl ⟨by decide, by decide⟩)), fun c hc => ?_, fun v e q => ?_⟩
    · rw [hI_sI]
      by_cases q : c = cc
      · rw [if_pos ⟨rfl, q⟩]
        show (0 : Int32) = frV (if c = cc then some 0 else none)
        rw [if_pos q]
        rfl
      · rw [if_neg (fun z => q z.2), e54 c hc]
        show (-1 : Int32) = frV (if c = cc then some 0 else none)
        rw [if_neg q]
        rfl
    · have q' : (if v = cc then some 0 else none) = some e := q
      split at q'
      · cases q'; decide
      · cases q'
  have R3 : RI (EC D n) cc 0 (fun v => if v = cc then some 0 else none) := by
    intro v
    refine ⟨fun q => ⟨0, Nat.le_refl 0, if_pos q, q⟩, fun q => if_neg q⟩
  have cnt : 0 + 1 ≤ cntB (fun v => ((fun v => if v = cc then some 0 else none : Nat → Option Nat) v).isSome) (6 ^ gN D) := by
    have := cntB_strict (p := fun _ => false) (q := fun v => ((fun v => if v = cc then some 0 else none : Nat → Option Nat) v).isSome) (G := 6 ^ gN D) (w := cc) (fun k _ q => by cases q) cl (by simp) rfl
    omega
  obtain ⟨h', s', F', R', k'⟩ := m_farsRounds A hn B (6 ^ gN D) 0 _ _ F3 R3 cnt (by omega) .null .null .null .null .null ⟨rfl, rfl, rfl, rfl, rfl⟩
  refine ⟨h', s', F', R', fun Q => ?_⟩
  have kc := fun Q : Option Value → aH → Prop => m_codeOf (Q := Q) A2 e52
  rw [hc] at kc
  rw [k2 Q, x162_27]
  have kk := k' Q
  simp only [x162_0, x162_1, x162_4, x162_5, x162_6, x162_8, x162_9, x162_12, x162_13, x162_16, x162_17, x162_18, x162_19, x162_22, x162_25, x162_26, x162_28, x162_29, x162_32, x162_33, x162_34, x162_37, x162_38, x162_41, x162_42, x162_43, x162_44, x162_47, x162_48, x162_51, x162_54, x162_55, x162_58, x162_59, x162_62, x162_63, x162_64, x162_65, x162_66, x162_67, x162_69, x162_72, x162_73, x162_74, x162_75, x162_79, x162_80, x162_83, x162_84, x162_87, x162_89, x162_90, x162_91, x162_94, x162_95, x162_97, x162_100, x162_103, x162_104, x162_108, x162_109, x162_112, x162_113, x162_114, x162_117, x162_118, x162_121, x162_123, x162_124, x162_126, x162_127, x162_131, x162_132, x162_135, x162_136, x162_137, x162_140, x162_141, x162_143, x162_145, x162_148, x162_151, x162_152, x162_155, x162_157, x162_159, x162_160, x162_161, x162_164, x162_166, x162_167, x162_170, x162_172, x162_174, x162_175, x162_176, x162_179, x162_180, x162_183, x162_185, x162_186, x162_189, x162_190, x162_193, x162_194, x162_195, x162_196, x162_199, x162_201, x162_202, x162_205, x162_207, x162_208, x162_211, x162_212, x162_213, x162_214, x162_217, x162_218, x162_221, x162_223, x162_224, x162_225, x162_228, x162_231, x162_234, x162_237, x162_240, x162_243, x162_246, x162_249, pv_some, pv_none, c1_int, c1_ref, c1_null, true_and, and_true, ne_eq, not_false_eq_true, not_true_eq_false, if_true, if_false, reduceCtorEq, Option.some.injEq, Value.int.injEq, absI_fold, minI_fold, maxI_fold, m_s g2, m_r2 g2, m_r17 g2, m_s46 g2, m_s54 g2, m_nz, show ib 0 (2, 31) = True from i31 (k := 0) (by decide), c0, mnlt_G A2, kc, ibwn (show cc < 7776 by omega) (by decide), nI_cl (show cc < 2 ^ 31 by omega), if_true, if_false, true_or, or_true, false_or, or_false, true_and, and_true, false_and, and_false, not_true_eq_false, not_false_eq_true, iff_self, ite_self, ne_eq, true_implies, implies_true, Bool.false_eq_true, decide_true, decide_false, Bool.or_true, Bool.or_false, Bool.true_or, Bool.false_or]
  exact kk
end FARS3
