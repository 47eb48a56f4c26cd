/-! THE REFERENCE: how far all is, from one code; a round -/
section FARS2
variable {h h1 : aH} {D : Nat → Int32} {i j k z n G c d r w N : Nat} {Q : Option Value → aH → Prop} {x y b hr : Int32} {L : Nat → Nat} {s : St}
theorem m_farsBeds (A : MA h D) (hn : D 1 = nI n) (hn6 : n ≤ 6) (v : VL n (gN D) L) (hi : i < gN D) (hr : r < 90000) {v1 v4 : Int32} : ∀ m b, b + m = n → ∀ h1 s, FS h h1 D L s → ∀ l8 : Value, c1 l8 = true → ∃ h' s' l8', FS h h' D L s' ∧ c1 l8' = true ∧ Ext (r + 1) (fun w => ∃ b', b ≤ b' ∧ b' < n ∧ mvM D L i b' ∧ w = codeN (updL L i b') (gN D)) s s' ∧ ∀ Q : Option Value → aH → Prop, X 162 129 [.ref 44, .int v1, .int (moV s), .int (nI r), .int v4, .int (nI i), .int (nI (L i)), .int (nI b), l8] [] h1 Q ↔ X 162 106 [.ref 44, .int v1, .int (moV s'), .int (nI r), .int v4, .int (nI (i + 1)), .int (nI (L i)), .int (nI n), l8'] [] h' Q := by
  intro m
  induction m with
  | zero =>
    intro b hb h1 s F l8 q8
    have A1 := A.SF F.1
    have g1 := A1.1
    have e1 : hI h1 46 1 = nI n := (A1.2.2.1 1 (by omega)).trans hn
    have hbn : b = n := by omega
    subst hbn
    refine ⟨h1, s, l8, F, q8, Ext.none (fun w ⟨b', q1, q2, _⟩ => by omega) s, fun Q => ?_⟩
    rw [x162_129]
    simp only [x162_0, x162_1, x162_4, x162_5, x162_6, x162_8, x162_9, x162_12, x162_13, x162_16, x162_17, x162_18, x162_19, x162_22, x162_25, x162_26, x162_28, x162_29, x162_32, x162_33, x162_34, x162_37, x162_38, x162_41, x162_42, x162_43, x162_44, x162_47, x162_48, x162_51, x162_54, x162_55, x162_58, x162_59, x162_62, x162_63, x162_64, x162_65, x162_66, x162_67, x162_69, x162_72, x162_73, x162_74, x162_75, x162_79, x162_80, x162_83, x162_84, x162_87, x162_89, x162_90, x162_91, x162_94, x162_95, x162_97, x162_100, x162_103, x162_104, x162_108, x162_109, x162_112, x162_113, x162_114, x162_117, x162_118, x162_121, x162_123, x162_124, x162_126, x162_127, x162_131, x162_132, x162_135, x162_136, x162_137, x162_140, x162_141, x162_143, x162_145, x162_148, x162_151, x162_152, x162_155, x162_157, x162_159, x162_160, x162_161, x162_164, x162_166, x162_167, x162_170, x162_172, x162_174, x162_175, x162_176, x162_179, x162_180, x162_183, x162_185, x162_186, x162_189, x162_190, x162_193, x162_194, x162_195, x162_196, x162_199, x162_201, x162_202, x162_205, x162_207, x162_208, x162_211, x162_212, x162_213, x162_214, x162_217, x162_218, x162_221, x162_223, x162_224, x162_225, x162_228, x162_231, x162_234, x162_237, x162_240, x162_243, x162_246, x162_249, pv_some, pv_none, c1_int, c1_ref, c1_null, true_and, and_true, ne_eq, not_false_eq_true, not_true_eq_false, if_true, if_false, reduceCtorEq, Option.some.injEq, Value.int.injEq, absI_fold, minI_fold, maxI_fold, m_s g1, m_r2 g1, m_s46 g1, m_nz, show ib 1 (2, 31) = True from i31 (k := 1) (by decide), ct1, e1, nI_lt_iff (show b < 2 ^ 31 by omega) (show b < 2 ^ 31 by omega), Nat.lt_irrefl, nI_add1, if_true, if_false, true_or, or_true, false_or, or_false, true_and, and_true, false_and, and_false, not_true_eq_false, not_false_eq_true, iff_self, ite_self, ne_eq, true_implies, implies_true, Bool.false_eq_true, decide_true, decide_false, Bool.or_true, Bool.or_false, Bool.true_or, Bool.false_or]
  | succ m ih =>
    intro b hb h1 s F l8 q8
    obtain ⟨h2, s2, l2, F2, q2, x2, k2⟩ := m_farsBed (v1 := v1) (v4 := v4) A hn hn6 v F hi (show b < n by omega) hr q8
    obtain ⟨h', s', l8', F', q', x', k'⟩ := ih (b + 1) (by omega) h2 s2 F2 l2 q2
    refine ⟨h', s', l8', F', q', (x2.trans x').congr (fun w => ?_), fun Q => (k2 Q).trans (k' Q)⟩
    constructor
    · rintro (⟨q1, q2⟩ | ⟨b', q1, q2⟩)
      · exact ⟨b, Nat.le_refl b, by omega, q1, q2⟩
      · exact ⟨b', by omega, q2⟩
    · rintro ⟨b', q1, q2, q3, q4⟩
      by_cases z : b' = b
      · subst z; exact Or.inl ⟨q3, q4⟩
      · exact Or.inr ⟨b', by omega, q2, q3, q4⟩
theorem m_farsGuests (A : MA h D) (hn : D 1 = nI n) (hn6 : n ≤ 6) (v : VL n (gN D) L) (hr : r < 90000) {v1 v4 : Int32} : ∀ m i, i + m = gN D → ∀ h1 s, FS h h1 D L s → ∀ l6 l7 l8 : Value, c1 l6 = true → c1 l7 = true → c1 l8 = true → ∃ h' s' l6' l7' l8', FS h h' D L s' ∧ (c1 l6' = true ∧ c1 l7' = true ∧ c1 l8' = true) ∧ Ext (r + 1) (fun w => ∃ i', i ≤ i' ∧ i' < gN D ∧ ∃ b', b' < n ∧ mvM D L i' b' ∧ w = codeN (updL L i' b') (gN D)) s s' ∧ ∀ Q : Option Value → aH → Prop, X 162 106 [.ref 44, .int v1, .int (moV s), .int (nI r), .int v4, .int (nI i), l6, l7, l8] [] h1 Q ↔ X 162 77 [.ref 44, .int v1, .int (moV s'), .int (nI r), .int (v4 + 1), .int (nI (gN D)), l6', l7', l8'] [] h' Q := by
  intro m
  have h5 := A.g5
  induction m with
  | zero =>
    intro i hi h1 s F l6 l7 l8 q6 q7 q8
    have A1 := A.SF F.1
    have g1 := A1.1
    have hbn : i = gN D := by omega
    subst hbn
    refine ⟨h1, s, l6, l7, l8, F, ⟨q6, q7, q8⟩, Ext.none (fun w ⟨i', q1, q2, _⟩ => by omega) s, fun Q => ?_⟩
    rw [x162_106]
    simp only [x162_0, x162_1, x162_4, x162_5, x162_6, x162_8, x162_9, x162_12, x162_13, x162_16, x162_17, x162_18, x162_19, x162_22, x162_25, x162_26, x162_28, x162_29, x162_32, x162_33, x162_34, x162_37, x162_38, x162_41, x162_42, x162_43, x162_44, x162_47, x162_48, x162_51, x162_54, x162_55, x162_58, x162_59, x162_62, x162_63, x162_64, x162_65, x162_66, x162_67, x162_69, x162_72, x162_73, x162_74, x162_75, x162_79, x162_80, x162_83, x162_84, x162_87, x162_89, x162_90, x162_91, x162_94, x162_95, x162_97, x162_100, x162_103, x162_104, x162_108, x162_109, x162_112, x162_113, x162_114, x162_117, x162_118, x162_121, x162_123, x162_124, x162_126, x162_127, x162_131, x162_132, x162_135, x162_136, x162_137, x162_140, x162_141, x162_143, x162_145, x162_148, x162_151, x162_152, x162_155, x162_157, x162_159, x162_160, x162_161, x162_164, x162_166, x162_167, x162_170, x162_172, x162_174, x162_175, x162_176, x162_179, x162_180, x162_183, x162_185, x162_186, x162_189, x162_190, x162_193, x162_194, x162_195, x162_196, x162_199, x162_201, x162_202, x162_205, x162_207, x162_208, x162_211, x162_212, x162_213, x162_214, x162_217, x162_218, x162_221, x162_223, x162_224, x162_225, x162_228, x162_231, x162_234, x162_237, x162_240, x162_243, x162_246, x162_249, pv_some, pv_none, c1_int, c1_ref, c1_null, true_and, and_true, ne_eq, not_false_eq_true, not_true_eq_false, if_true, if_false, reduceCtorEq, Option.some.injEq, Value.int.injEq, absI_fold, minI_fold, maxI_fold, m_s g1, m_r2 g1, m_s46 g1, m_nz, show ib 0 (2, 31) = True from i31 (k := 0) (by decide), c0, mnlt_G A1, if_true, if_false, true_or, or_true, false_or, or_false, true_and, and_true, false_and, and_false, not_true_eq_false, not_false_eq_true, iff_self, ite_self, ne_eq, true_implies, implies_true, Bool.false_eq_true, decide_true, decide_false, Bool.or_true, Bool.or_false, Bool.true_or, Bool.false_or]
  | succ m ih =>
    intro i hi h1 s F l6 l7 l8 q6 q7 q8
    have iG : i < gN D := by omega
    have A1 := A.SF F.1
    have g1 := A1.1
    obtain ⟨h2, s2, l2, F2, q2, x2, k2⟩ := m_farsBeds (v1 := v1) (v4 := v4) A hn hn6 v iG hr n 0 (by omega) h1 s F l8 q8
    obtain ⟨h', s', l6', l7', l8', F', q', x', k'⟩ := ih (i + 1) (by omega) h2 s2 F2 (.int (nI (L i))) (.int (nI n)) l2 rfl rfl q2
    refine ⟨h', s', l6', l7', l8', F', q', (x2.trans x').congr (fun w => ?_), fun Q => ?_⟩
    · constructor
      · rintro (⟨b', q1, q2, q3, q4⟩ | ⟨i', q1, q2⟩)
        · exact ⟨i, Nat.le_refl i, iG, b', q2, q3, q4⟩
        · exact ⟨i', by omega, q2⟩
      · rintro ⟨i', q1, q2, b', q3, q4, q5⟩
        by_cases z : i' = i
        · subst z; exact Or.inl ⟨b', Nat.zero_le _, q3, q4, q5⟩
        · exact Or.inr ⟨i', by omega, q2, b', q3, q4, q5⟩
    · have kk := (k2 Q).trans (k' Q)
      rw [x162_106]
      simp only [x162_0, x162_1, x162_4, x162_5, x162_6, x162_8, x162_9, x162_12, x162_13, x162_16, x162_17, x162_18, x162_19, x162_22, x162_25, x162_26, x162_28, x162_29, x162_32, x162_33, x162_34, x162_37, x162_38, x162_41, x162_42, x162_43, x162_44, x162_47, x162_48, x162_51, x162_54, x162_55, x162_58, x162_59, x162_62, x162_63, x162_64, x162_65, x162_66, x162_67, x162_69, x162_72, x162_73, x162_74, x162_75, x162_79, x162_80, x162_83, x162_84, x162_87, x162_89, x162_90, x162_91, x162_94, x162_95, x162_97, x162_100, x162_103, x162_104, x162_108, x162_109, x162_112, x162_113, x162_114, x162_117, x162_118, x162_121, x162_123, x162_124, x162_126, x162_127, x162_131, x162_132, x162_135, x162_136, x162_137, x162_140, x162_141, x162_143, x162_145, x162_148, x162_151, x162_152, x162_155, x162_157, x162_159, x162_160, x162_161, x162_164, x162_166, x162_167, x162_170, x162_172, x162_174, x162_175, x162_176, x162_179, x162_180, x162_183, x162_185, x162_186, x162_189, x162_190, x162_193, x162_194, x162_195, x162_196, x162_199, x162_201, x162_202, x162_205, x162_207, x162_208, x162_211, x162_212, x162_213, x162_214, x162_217, x162_218, x162_221, x162_223, x162_224, x162_225, x162_228, x162_231, x162_234, x162_237, x162_240, x162_243, x162_246, x162_249, pv_some, pv_none, c1_int, c1_ref, c1_null, true_and, and_true, ne_eq, not_false_eq_true, not_true_eq_false, if_true, if_false, reduceCtorEq, Option.some.injEq, Value.int.injEq, absI_fold, minI_fold, maxI_fold, m_s g1, m_r2 g1, m_r12 g1, m_s46 g1, m_s52 g1, m_nz, show ib 0 (2, 31) = True from i31 (k := 0) (by decide), c0, mlt_G A1 iG, ibn (show i < 5 by omega) (by decide), nI_cl (show i < 2 ^ 31 by omega), F.2.1 i iG, q6, q7, if_true, if_false, true_or, or_true, false_or, or_false, true_and, and_true, false_and, and_false, not_true_eq_false, not_false_eq_true, iff_self, ite_self, ne_eq, true_implies, implies_true, Bool.false_eq_true, decide_true, decide_false, Bool.or_true, Bool.or_false, Bool.true_or, Bool.false_or]
      exact kk
/-- a carry among codes -/
def EC (D : Nat → Int32) (n : Nat) (u v : Nat) : Prop := u < 6 ^ gN D ∧ okW n (gN D) u = true ∧ ∃ i, i < gN D ∧ ∃ b, b < n ∧ mvM D (cdN (gN D) u) i b ∧ v = codeN (updL (cdN (gN D) u) i b) (gN D)
/-- between codes -/
def FT2 (h h1 : aH) (D : Nat → Int32) (s : St) : Prop := SF h h1 ∧ FR h1 (gN D) s ∧ ∀ v e, s.1 v = some e → e < 100000
theorem FR.lb (F : FR h1 G s) : FR (lbH h1 G c) G s := fun w hw => by rw [lb_o h1 (by decide)]; exact F w hw
/-- one code -/
theorem m_farsCode (A : MA h D) (hn : D 1 = nI n) (B : BG n (gN D)) (hr : r < 90000) (hc : c < 6 ^ gN D) (F : FT2 h h1 D s) {l5 l6 l7 l8 : Value} (q : c1 l5 = true ∧ c1 l6 = true ∧ c1 l7 = true ∧ c1 l8 = true) : ∃ h' s' l5' l6' l7' l8', FT2 h h' D s' ∧ (c1 l5' = true ∧ c1 l6' = true ∧ c1 l7' = true ∧ c1 l8' = true) ∧ Ext (r + 1) (fun w => s.1 c = some r ∧ EC D n c w) s s' ∧ ∀ Q : Option Value → aH → Prop, X 162 77 [.ref 44, .int (nI (6 ^ gN D)), .int (moV s), .int (nI r), .int (nI c), l5, l6, l7, l8] [] h1 Q ↔ X 162 77 [.ref 44, .int (nI (6 ^ gN D)), .int (moV s'), .int (nI r), .int (nI (c + 1)), l5', l6', l7', l8'] [] h' Q := by
  have h5 := A.g5
  have hn6 := B.2.2
  have p6 : 6 ^ gN D ≤ 7776 := Nat.pow_le_pow_right (by decide : 0 < 6) h5
  have A1 := A.SF F.1
  have g1 := A1.1
  have e54 := F.2.1 c hc
  have fe : (frV (s.1 c) = nI r) = (s.1 c = some r) := frV_eq (fun d z => by have := F.2.2 c d z; omega) (by omega)
  obtain ⟨q5, q6, q7, q8⟩ := q
  by_cases c0 : s.1 c = some r
  · by_cases c1 : okW n (gN D) c = true
    · have v := (okW_iff B hc).mp c1
      have F2 : FS h (lbH h1 (gN D) c) D (cdN (gN D) c) s := ⟨lb_SF F.1, fun j hj => lb_at h1 hj, F.2.1.lb, F.2.2⟩
      obtain ⟨h', s', l6', l7', l8', F', q', x', k'⟩ := m_farsGuests (r := r) (v1 := nI (6 ^ gN D)) (v4 := nI c) A hn hn6 v hr (gN D) 0 (by omega) _ _ F2 l6 l7 l8 q6 q7 q8
      refine ⟨h', s', .int (nI (gN D)), l6', l7', l8', ⟨F'.1, F'.2.2.1, F'.2.2.2⟩, ⟨rfl, q'⟩, x'.congr (fun w => ?_), fun Q => ?_⟩
      · constructor
        · rintro ⟨i', _, q2, q3⟩; exact ⟨c0, hc, c1, i', q2, q3⟩
        · rintro ⟨_, _, _, i', q2, q3⟩; exact ⟨i', Nat.zero_le _, q2, q3⟩
      · have kk := k' Q
        rw [nI_add1] at kk
        have c1' : bi (okW n (gN D) c = true) = 1 := bi_t c1
        rw [x162_77]
        simp only [x162_0, x162_1, x162_4, x162_5, x162_6, x162_8, x162_9, x162_12, x162_13, x162_16, x162_17, x162_18, x162_19, x162_22, x162_25, x162_26, x162_28, x162_29, x162_32, x162_33, x162_34, x162_37, x162_38, x162_41, x162_42, x162_43, x162_44, x162_47, x162_48, x162_51, x162_54, x162_55, x162_58, x162_59, x162_62, x162_63, x162_64, x162_65, x162_66, x162_67, x162_69, x162_72, x162_73, x162_74, x162_75, x162_79, x162_80, x162_83, x162_84, x162_87, x162_89, x162_90, x162_91, x162_94, x162_95, x162_97, x162_100, x162_103, x162_104, x162_108, x162_109, x162_112, x162_113, x162_114, x162_117, x162_118, x162_121, x162_123, x162_124, x162_126, x162_127, x162_131, x162_132, x162_135, x162_136, x162_137, x162_140, x162_141, x162_143, x162_145, x162_148, x162_151, x162_152, x162_155, x162_157, x162_159, x162_160, x162_161, x162_164, x162_166, x162_167, x162_170, x162_172, x162_174, x162_175, x162_176, x162_179, x162_180, x162_183, x162_185, x162_186, x162_189, x162_190, x162_193, x162_194, x162_195, x162_196, x162_199, x162_201, x162_202, x162_205, x162_207, x162_208, x162_211, x162_212, x162_213, x162_214, x162_217, x162_218, x162_221, x162_223, x162_224, x162_225, x162_228, x162_231, x162_234, x162_237, x162_240, x162_243, x162_246, x162_249, pv_some, pv_none, c1_int, c1_ref, c1_null, true_and, and_true, ne_eq, not_false_eq_true, not_true_eq_false, if_true, if_false, reduceCtorEq, Option.some.injEq, Value.int.injEq, absI_fold, minI_fold, maxI_fold, nI_lt_iff (show c < 2 ^ 31 by omega) (show 6 ^ gN D < 2 ^ 31 by omega), hc, m_s g1, m_r17 g1, m_s54 g1, m_nz, ibn (show c < 7776 by omega) (by decide), nI_cl (show c < 2 ^ 31 by omega), e54, fe, c0, show (frV (some r) = nI r) = True from eq_true rfl, m_lieBy A1 hn hn6 (show c < 2 ^ 31 by omega), c1', one_ne, q5, if_true, if_false, true_or, or_true, false_or, or_false, true_and, and_true, false_and, and_false, not_true_eq_false, not_false_eq_true, iff_self, ite_self, ne_eq, true_implies, implies_true, Bool.false_eq_true, decide_true, decide_false, Bool.or_true, Bool.or_false, Bool.true_or, Bool.false_or]
        exact kk
    · have F2 : FT2 h (lbH h1 (gN D) c) D s := ⟨lb_SF F.1, F.2.1.lb, F.2.2⟩
      refine ⟨lbH h1 (gN D) c, s, l5, l6, l7, l8, F2, ⟨q5, q6, q7, q8⟩, Ext.none (fun w z => c1 z.2.2.1) s, fun Q => ?_⟩
      have c1' : bi (okW n (gN D) c = true) = 0 := bi_f c1
      rw [x162_77]
      simp only [x162_0, x162_1, x162_4, x162_5, x162_6, x162_8, x162_9, x162_12, x162_13, x162_16, x162_17, x162_18, x162_19, x162_22, x162_25, x162_26, x162_28, x162_29, x162_32, x162_33, x162_34, x162_37, x162_38, x162_41, x162_42, x162_43, x162_44, x162_47, x162_48, x162_51, x162_54, x162_55, x162_58, x162_59, x162_62, x162_63, x162_64, x162_65, x162_66, x162_67, x162_69, x162_72, x162_73, x162_74, x162_75, x162_79, x162_80, x162_83, x162_84, x162_87, x162_89, x162_90, x162_91, x162_94, x162_95, x162_97, x162_100, x162_103, x162_104, x162_108, x162_109, x162_112, x162_113, x162_114, x162_117, x162_118, x162_121, x162_123, x162_124, x162_126, x162_127, x162_131, x162_132, x162_135, x162_136, x162_137, x162_140, x162_141, x162_143, x162_145, x162_148, x162_151, x162_152, x162_155, x162_157, x162_159, x162_160, x162_161, x162_164, x162_166, x162_167, x162_170, x162_172, x162_174, x162_175, x162_176, x162_179, x162_180, x162_183, x162_185, x162_186, x162_189, x162_190, x162_193, x162_194, x162_195, x162_196, x162_199, x162_201, x162_202, x162_205, x162_207, x162_208, x162_211, x162_212, x162_213, x162_214, x162_217, x162_218, x162_221, x162_223, x162_224, x162_225, x162_228, x162_231, x162_234, x162_237, x162_240, x162_243, x162_246, x162_249, pv_some, pv_none, c1_int, c1_ref, c1_null, true_and, and_true, ne_eq, not_false_eq_true, not_true_eq_false, if_true, if_false, reduceCtorEq, Option.some.injEq, Value.int.injEq, absI_fold, minI_fold, maxI_fold, nI_lt_iff (show c < 2 ^ 31 by omega) (show 6 ^ gN D < 2 ^ 31 by omega), hc, m_s g1, m_r17 g1, m_s54 g1, m_nz, ibn (show c < 7776 by omega) (by decide), nI_cl (show c < 2 ^ 31 by omega), e54, fe, c0, show (frV (some r) = nI r) = True from eq_true rfl, m_lieBy A1 hn hn6 (show c < 2 ^ 31 by omega), c1', nI_add1, if_true, if_false, true_or, or_true, false_or, or_false, true_and, and_true, false_and, and_false, not_true_eq_false, not_false_eq_true, iff_self, ite_self, ne_eq, true_implies, implies_true, Bool.false_eq_true, decide_true, decide_false, Bool.or_true, Bool.or_false, Bool.true_or, Bool.false_or]
  · refine ⟨h1, s, l5, l6, l7, l8, F, ⟨q5, q6, q7, q8⟩, Ext.none (fun w z => c0 z.1) s, fun Q => ?_⟩
    rw [x162_77]
    simp only [x162_0, x162_1, x162_4, x162_5, x162_6, x162_8, x162_9, x162_12, x162_13, x162_16, x162_17, x162_18, x162_19, x162_22, x162_25, x162_26, x162_28, x162_29, x162_32, x162_33, x162_34, x162_37, x162_38, x162_41, x162_42, x162_43, x162_44, x162_47, x162_48, x162_51, x162_54, x162_55, x162_58, x162_59, x162_62, x162_63, x162_64, x162_65, x162_66, x162_67, x162_69, x162_72, x162_73, x162_74, x162_75, x162_79, x162_80, x162_83, x162_84, x162_87, x162_89, x162_90, x162_91, x162_94, x162_95, x162_97, x162_100, x162_103, x162_104, x162_108, x162_109, x162_112, x162_113, x162_114, x162_117, x162_118, x162_121, x162_123, x162_124, x162_126, x162_127, x162_131, x162_132, x162_135, x162_136, x162_137, x162_140, x162_141, x162_143, x162_145, x162_148, x162_151, x162_152, x162_155, x162_157, x162_159, x162_160, x162_161, x162_164, x162_166, x162_167, x162_170, x162_172, x162_174, x162_175, x162_176, x162_179, x162_180, x162_183, x162_185, x162_186, x162_189, x162_190, x162_193, x162_194, x162_195, x162_196, x162_199, x162_201, x162_202, x162_205, x162_207, x162_208, x162_211, x162_212, x162_213, x162_214, x162_217, x162_218, x162_221, x162_223, x162_224, x162_225, x162_228, x162_231, x162_234, x162_237, x162_240, x162_243, x162_246, x162_249, pv_some, pv_none, c1_int, c1_ref, c1_null, true_and, and_true, ne_eq, not_false_eq_true, not_true_eq_false, if_true, if_false, reduceCtorEq, Option.some.injEq, Value.int.injEq, absI_fold, minI_fold, maxI_fold, nI_lt_iff (show c < 2 ^ 31 by omega) (show 6 ^ gN D < 2 ^ 31 by omega), hc, m_s g1, m_r17 g1, m_s54 g1, m_nz, ibn (show c < 7776 by omega) (by decide), nI_cl (show c < 2 ^ 31 by omega), e54, fe, c0, nI_add1, if_true, if_false, true_or, or_true, false_or, or_false, true_and, and_true, false_and, and_false, not_true_eq_false, not_false_eq_true, iff_self, ite_self, ne_eq, true_implies, implies_true, Bool.false_eq_true, decide_true, decide_false, Bool.or_true, Bool.or_false, Bool.true_or, Bool.false_or]
/-- a round from code c on; s0 is what was known when it began -/
theorem m_farsRound (A : MA h D) (hn : D 1 = nI n) (B : BG n (gN D)) (hr : r < 90000) {s0 : St} : ∀ m c, c + m = 6 ^ gN D → ∀ h1 s, FT2 h h1 D s → Ext (r + 1) (fun w => ∃ c', c' < c ∧ s0.1 c' = some r ∧ EC D n c' w) s0 s → ∀ l5 l6 l7 l8 : Value, (c1 l5 = true ∧ c1 l6 = true ∧ c1 l7 = true ∧ c1 l8 = true) → ∃ h' s' l4' l5' l6' l7' l8', FT2 h h' D s' ∧ (c1 l4' = true ∧ c1 l5' = true ∧ c1 l6' = true ∧ c1 l7' = true ∧ c1 l8' = true) ∧ Ext (r + 1) (fun w => ∃ c', c' < 6 ^ gN D ∧ s0.1 c' = some r ∧ EC D n c' w) s0 s' ∧ ∀ Q : Option Value → aH → Prop, X 162 77 [.ref 44, .int (nI (6 ^ gN D)), .int (moV s), .int (nI r), .int (nI c), l5, l6, l7, l8] [] h1 Q ↔ X 162 68 [.ref 44, .int (nI (6 ^ gN D)), .int (moV s'), .int (nI (r + 1)), l4', l5', l6', l7', l8'] [] h' Q := by
  intro m
  have h5 := A.g5
  have p6 : 6 ^ gN D ≤ 7776 := Nat.pow_le_pow_right (by decide : 0 < 6) h5
  induction m with
  | zero =>
    intro c hc h1 s F x l5 l6 l7 l8 q
    have hcn : c = 6 ^ gN D := by omega
    refine ⟨h1, s, .int (nI c), l5, l6, l7, l8, F, ⟨rfl, q⟩, by rw [← hcn]; exact x, fun Q => ?_⟩
    rw [x162_77]
    simp only [x162_0, x162_1, x162_4, x162_5, x162_6, x162_8, x162_9, x162_12, x162_13, x162_16, x162_17, x162_18, x162_19, x162_22, x162_25, x162_26, x162_28, x162_29, x162_32, x162_33, x162_34, x162_37, x162_38, x162_41, x162_42, x162_43, x162_44, x162_47, x162_48, x162_51, x162_54, x162_55, x162_58, x162_59, x162_62, x162_63, x162_64, x162_65, x162_66, x162_67, x162_69, x162_72, x162_73, x162_74, x162_75, x162_79, x162_80, x162_83, x162_84, x162_87, x162_89, x162_90, x162_91, x162_94, x162_95, x162_97, x162_100, x162_103, x162_104, x162_108, x162_109, x162_112, x162_113, x162_114, x162_117, x162_118, x162_121, x162_123, x162_124, x162_126, x162_127, x162_131, x162_132, x162_135, x162_136, x162_137, x162_140, x162_141, x162_143, x162_145, x162_148, x162_151, x162_152, x162_155, x162_157, x162_159, x162_160, x162_161, x162_164, x162_166, x162_167, x162_170, x162_172, x162_174, x162_175, x162_176, x162_179, x162_180, x162_183, x162_185, x162_186, x162_189, x162_190, x162_193, x162_194, x162_195, x162_196, x162_199, x162_201, x162_202, x162_205, x162_207, x162_208, x162_211, x162_212, x162_213, x162_214, x162_217, x162_218, x162_221, x162_223, x162_224, x162_225, x162_228, x162_231, x162_234, x162_237, x162_240, x162_243, x162_246, x162_249, pv_some, pv_none, c1_int, c1_ref, c1_null, true_and, and_true, ne_eq, not_false_eq_true, not_true_eq_false, if_true, if_false, reduceCtorEq, Option.some.injEq, Value.int.injEq, absI_fold, minI_fold, maxI_fold, nI_lt_iff (show c < 2 ^ 31 by omega) (show 6 ^ gN D < 2 ^ 31 by omega), show ¬ c < 6 ^ gN D by omega, nI_add1, if_true, if_false, true_or, or_true, false_or, or_false, true_and, and_true, false_and, and_false, not_true_eq_false, not_false_eq_true, iff_self, ite_self, ne_eq, true_implies, implies_true, Bool.false_eq_true, decide_true, decide_false, Bool.or_true, Bool.or_false, Bool.true_or, Bool.false_or]
  | succ m ih =>
    intro c hc h1 s F x l5 l6 l7 l8 q
    obtain ⟨h2, s2, l5', l6', l7', l8', F2, q2, x2, k2⟩ := m_farsCode (r := r) A hn B hr (show c < 6 ^ gN D by omega) F q
    have same : s.1 c = some r ↔ s0.1 c = some r := by
      cases hs : s0.1 c with
      | some e => rw [(x.1 c).1 e hs]
      | none =>
        constructor
        · intro z
          by_cases y : ∃ c', c' < c ∧ s0.1 c' = some r ∧ EC D n c' c
          · rw [(x.1 c).2.1 hs y] at z
            have : r + 1 = r := by injection z
            omega
          · rw [(x.1 c).2.2 hs y] at z
            cases z
        · intro z; cases z
    have x3 : Ext (r + 1) (fun w => ∃ c', c' < c + 1 ∧ s0.1 c' = some r ∧ EC D n c' w) s0 s2 := (x.trans x2).congr (fun w => by
      constructor
      · rintro (⟨c', z1, z2⟩ | ⟨z1, z2⟩)
        · exact ⟨c', by omega, z2⟩
        · exact ⟨c, by omega, same.mp z1, z2⟩
      · rintro ⟨c', z1, z2, z3⟩
        by_cases y : c' = c
        · subst y; exact Or.inr ⟨same.mpr z2, z3⟩
        · exact Or.inl ⟨c', by omega, z2, z3⟩)
    obtain ⟨h', s', m4, m5, m6, m7, m8, F', q', x', k'⟩ := ih (c + 1) (by omega) h2 s2 F2 x3 _ _ _ _ q2
    exact ⟨h', s', m4, m5, m6, m7, m8, F', q', x', fun Q => (k2 Q).trans (k' Q)⟩
end FARS2
