/-! THE REFERENCE: how far all is, inner loops -/
def frV (o : Option Nat) : Int32 := match o with
  | none => -1
  | some d => nI d
def moV (s : St) : Int32 := match s.2 with
  | [] => 0
  | _ => 1
def FR (h : aH) (G : Nat) (s : St) : Prop := ∀ c, c < 6 ^ G → hI h 54 c = frV (s.1 c)
section FARS
variable {h h1 : aH} {D : Nat → Int32} {i j k z n G c d r w N : Nat} {Q : Option Value → aH → Prop} {x y b hr : Int32} {L : Nat → Nat} {s : St}
theorem frV_neg {o : Option Nat} (hd : ∀ d, o = some d → d < 2 ^ 31) : (frV o < 0) = (o = none) := by
  refine propext ⟨fun q => ?_, fun q => by rw [q]; decide⟩
  cases o with
  | none => rfl
  | some d => exact absurd q (nI_pos (hd d rfl))
theorem frV_eq {o : Option Nat} (hd : ∀ d, o = some d → d < 2 ^ 31) (hr : r < 2 ^ 31) : (frV o = nI r) = (o = some r) := by
  refine propext ⟨fun q => ?_, fun q => by rw [q]; rfl⟩
  cases o with
  | none =>
    have e : nI r = -1 := q.symm
    exact absurd (e ▸ (by decide : (-1 : Int32) < 0)) (nI_pos hr)
  | some d =>
    have := (nI_eq_iff (hd d rfl) hr).mp q
    rw [this]
theorem moV_nil (f : Nat → Option Nat) : moV (f, []) = 0 := rfl
theorem moV_01 (s : St) : moV s = 0 ∨ moV s = 1 := by
  unfold moV
  split
  · exact Or.inl rfl
  · exact Or.inr rfl
theorem moV_zero (s : St) : (moV s = 0) = (s.2 = []) := by
  obtain ⟨f, l⟩ := s
  cases l with
  | nil => exact propext ⟨fun _ => rfl, fun _ => rfl⟩
  | cons a l => exact propext ⟨fun q => absurd q (by show ¬ ((1 : Int32) = 0); decide), fun q => by cases q⟩
/-- while a code is gone on from -/
def FS (h h1 : aH) (D : Nat → Int32) (L : Nat → Nat) (s : St) : Prop := SF h h1 ∧ (∀ j, j < gN D → hI h1 52 j = nI (L j)) ∧ FR h1 (gN D) s ∧ ∀ v e, s.1 v = some e → e < 100000
/-- one carry in the reference's codes -/
def mvM (D : Nat → Int32) (L : Nat → Nat) (i b : Nat) : Prop := allB (mayB L (DA D 21) (D 2) i b) (gN D) = true
def upF (h : aH) (s : St) (w d : Nat) : aH := if s.1 w = none then sI h 54 w (nI d) else h
theorem upF_FS (F : FS h h1 D L s) (hw : w < 6 ^ gN D) (hd : d < 100000) : FS h (upF h1 s w d) D L (rchS w d s) := by
  obtain ⟨F1, F2, F3, F4⟩ := F
  unfold upF rchS
  by_cases c0 : s.1 w = none
  · rw [if_pos c0, if_pos c0]
    refine ⟨F1.sI _ (Or.inr (Or.inl ⟨by decide, by decide⟩)), fun j hj => by rw [hI_sI, if_neg (by omega)]; exact F2 j hj, fun c hc => ?_, fun v e q => ?_⟩
    · rw [hI_sI]
      by_cases q : c = w
      · rw [if_pos ⟨rfl, q⟩]
        show nI d = frV (if c = w then some d else s.1 c)
        rw [if_pos q]
        rfl
      · rw [if_neg (fun z => q z.2)]
        show hI h1 54 c = frV (if c = w then some d else s.1 c)
        rw [if_neg q]
        exact F3 c hc
    · have q' : (if v = w then some d else s.1 v) = some e := q
      by_cases z : v = w
      · rw [if_pos z] at q'
        cases q'
        exact hd
      · rw [if_neg z] at q'
        exact F4 v e q'
  · rw [if_neg c0, if_neg c0]
    exact ⟨F1, F2, F3, F4⟩
theorem mo_rch (s : St) (w d : Nat) : moV (rchS w d s) = if moV s = 0 then (if s.1 w = none then 1 else 0) else 1 := by
  unfold rchS
  obtain ⟨f, l⟩ := s
  by_cases c0 : f w = none
  · rw [if_pos c0]
    cases l with
    | nil => show (1 : Int32) = if (0 : Int32) = 0 then (if f w = none then 1 else 0) else 1; rw [if_pos rfl, if_pos c0]
    | cons a l => show (1 : Int32) = if (1 : Int32) = 0 then (if f w = none then 1 else 0) else 1; rw [if_neg (by decide)]
  · rw [if_neg c0]
    cases l with
    | nil => show (0 : Int32) = if (0 : Int32) = 0 then (if f w = none then 1 else 0) else 1; rw [if_pos rfl, if_neg c0]
    | cons a l => show (1 : Int32) = if (1 : Int32) = 0 then (if f w = none then 1 else 0) else 1; rw [if_neg (by decide)]
/-- one bed -/
theorem m_farsBed (A : MA h D) (hn : D 1 = nI n) (hn6 : n ≤ 6) (v : VL n (gN D) L) (F : FS h h1 D L s) (hi : i < gN D) {b : Nat} (hb : b < n) (hr : r < 90000) {l8 : Value} (q8 : c1 l8 = true) {v1 v4 : Int32} : ∃ h' s' l8', FS h h' D L s' ∧ c1 l8' = true ∧ Ext (r + 1) (fun w => mvM D L i b ∧ w = codeN (updL L i b) (gN D)) s s' ∧ ∀ Q : Option Value → aH → Prop, X 162 129 [.ref 44, .int v1, .int (moV s), .int (nI r), .int v4, .int (nI i), .int (nI (L i)), .int (nI b), l8] [] h1 Q ↔ X 162 129 [.ref 44, .int v1, .int (moV s'), .int (nI r), .int v4, .int (nI i), .int (nI (L i)), .int (nI (b + 1)), l8'] [] h' Q := by
  have h5 := A.g5
  have A1 := A.SF F.1
  have g1 := A1.1
  have e1 : hI h1 46 1 = nI n := (A1.2.2.1 1 (by omega)).trans hn
  have hL : ∀ j, j < gN D → hI h1 52 j = nI (L j) ∧ L j < 6 := fun j hj => ⟨F.2.1 j hj, Nat.lt_of_lt_of_le (v.1 j hj) hn6⟩
  have km := fun Q : Option Value → aH → Prop => m_mayCarry (Q := Q) (c := b) A1 hL hi (show b < 6 by omega)
  by_cases c0 : mvM D L i b
  · have he := (may_iff.mp c0).1
    have v2 := v.upd (i := i) hb he
    have l2 : ∀ j, j < gN D → updL L i b j < 6 := fun j hj => Nat.lt_of_lt_of_le (v2.1 j hj) hn6
    have p6 : 6 ^ gN D ≤ 7776 := Nat.pow_le_pow_right (by decide : 0 < 6) h5
    have wl := codeN_lt l2
    generalize hw : codeN (updL L i b) (gN D) = w at *
    have G2 : SF h (sI h1 52 i (nI b)) := F.1.sI _ (Or.inr (Or.inl ⟨by decide, by decide⟩))
    have A2 := A.SF G2
    have g2 := A2.1
    have hL2 : ∀ j, j < gN D → hI (sI h1 52 i (nI b)) 52 j = nI (updL L i b j) := fun j hj => by
      rw [hI_sI]
      unfold updL
      by_cases q : j = i
      · rw [if_pos ⟨rfl, q⟩, if_pos q]
      · rw [if_neg (fun z => q z.2), if_neg q]
        exact F.2.1 j hj
    have kc := fun Q : Option Value → aH → Prop => m_codeOf (Q := Q) A2 hL2
    rw [hw] at kc
    have back : sI (sI h1 52 i (nI b)) 52 i (nI (L i)) = h1 := by rw [sI_sI]; exact sI_same (F.2.1 i hi)
    have e54 := F.2.2.1 w wl
    have fn : (frV (s.1 w) < 0) = (s.1 w = none) := frV_neg (fun d q => by have := F.2.2.2 w d q; omega)
    refine ⟨upF h1 s w (r + 1), rchS w (r + 1) s, .int (nI w), upF_FS F wl (by omega), rfl, (rch_Ext s).congr (fun u => ⟨fun q => ⟨c0, q⟩, fun q => q.2⟩), fun Q => ?_⟩
    rw [x162_129, mo_rch]
    have c0' : bi (allB (mayB L (DA D 21) (D 2) i b) (gN D) = true) = 1 := bi_t c0
    unfold upF
    have same : ∀ e, s.1 w = some e → sI h1 54 w (nI e) = h1 := fun e q => sI_same (by rw [e54, q]; rfl)
    cases hs : s.1 w with
    | none =>
      rw [hs] at fn e54
      simp only [x162_0, x162_1, x162_4, x162_5, x162_6, x162_8, x162_9, x162_12, x162_13, x162_16, x162_17, x162_18, x162_19, x162_22, x162_25, x162_26, x162_28, x162_29, x162_32, x162_33, x162_34, x162_37, x162_38, x162_41, x162_42, x162_43, x162_44, x162_47, x162_48, x162_51, x162_54, x162_55, x162_58, x162_59, x162_62, x162_63, x162_64, x162_65, x162_66, x162_67, x162_69, x162_72, x162_73, x162_74, x162_75, x162_79, x162_80, x162_83, x162_84, x162_87, x162_89, x162_90, x162_91, x162_94, x162_95, x162_97, x162_100, x162_103, x162_104, x162_108, x162_109, x162_112, x162_113, x162_114, x162_117, x162_118, x162_121, x162_123, x162_124, x162_126, x162_127, x162_131, x162_132, x162_135, x162_136, x162_137, x162_140, x162_141, x162_143, x162_145, x162_148, x162_151, x162_152, x162_155, x162_157, x162_159, x162_160, x162_161, x162_164, x162_166, x162_167, x162_170, x162_172, x162_174, x162_175, x162_176, x162_179, x162_180, x162_183, x162_185, x162_186, x162_189, x162_190, x162_193, x162_194, x162_195, x162_196, x162_199, x162_201, x162_202, x162_205, x162_207, x162_208, x162_211, x162_212, x162_213, x162_214, x162_217, x162_218, x162_221, x162_223, x162_224, x162_225, x162_228, x162_231, x162_234, x162_237, x162_240, x162_243, x162_246, x162_249, pv_some, pv_none, c1_int, c1_ref, c1_null, true_and, and_true, ne_eq, not_false_eq_true, not_true_eq_false, if_true, if_false, reduceCtorEq, Option.some.injEq, Value.int.injEq, absI_fold, minI_fold, maxI_fold, m_s g1, m_r2 g1, m_r12 g1, m_r17 g1, m_s46 g1, m_s52 g1, m_s54 g1, m_nz, show ib 1 (2, 31) = True from i31 (k := 1) (by decide), ct1, e1, nI_lt_iff (show b < 2 ^ 31 by omega) (show n < 2 ^ 31 by omega), hb, km, c0', one_ne, ibwn (show i < 5 by omega) (by decide), nI_cl (show i < 2 ^ 31 by omega), m_s g2, m_r12 g2, m_s52 g2, kc, back, ibn (show w < 7776 by omega) (by decide), ibwn (show w < 7776 by omega) (by decide), nI_cl (show w < 2 ^ 31 by omega), e54, fn, nI_add1, q8, if_true, if_false, true_or, or_true, false_or, or_false, true_and, and_true, false_and, and_false, not_true_eq_false, not_false_eq_true, iff_self, ite_self, ne_eq, true_implies, implies_true, Bool.false_eq_true, decide_true, decide_false, Bool.or_true, Bool.or_false, Bool.true_or, Bool.false_or]
    | some e =>
      rw [hs] at fn e54
      have sm := same e hs
      have fn' : (frV (some e) < 0) = False := by rw [fn]; exact eq_false (fun q => by cases q)
      have ef : frV (some e) = nI e := rfl
      rw [ef] at fn' e54
      simp only [x162_0, x162_1, x162_4, x162_5, x162_6, x162_8, x162_9, x162_12, x162_13, x162_16, x162_17, x162_18, x162_19, x162_22, x162_25, x162_26, x162_28, x162_29, x162_32, x162_33, x162_34, x162_37, x162_38, x162_41, x162_42, x162_43, x162_44, x162_47, x162_48, x162_51, x162_54, x162_55, x162_58, x162_59, x162_62, x162_63, x162_64, x162_65, x162_66, x162_67, x162_69, x162_72, x162_73, x162_74, x162_75, x162_79, x162_80, x162_83, x162_84, x162_87, x162_89, x162_90, x162_91, x162_94, x162_95, x162_97, x162_100, x162_103, x162_104, x162_108, x162_109, x162_112, x162_113, x162_114, x162_117, x162_118, x162_121, x162_123, x162_124, x162_126, x162_127, x162_131, x162_132, x162_135, x162_136, x162_137, x162_140, x162_141, x162_143, x162_145, x162_148, x162_151, x162_152, x162_155, x162_157, x162_159, x162_160, x162_161, x162_164, x162_166, x162_167, x162_170, x162_172, x162_174, x162_175, x162_176, x162_179, x162_180, x162_183, x162_185, x162_186, x162_189, x162_190, x162_193, x162_194, x162_195, x162_196, x162_199, x162_201, x162_202, x162_205, x162_207, x162_208, x162_211, x162_212, x162_213, x162_214, x162_217, x162_218, x162_221, x162_223, x162_224, x162_225, x162_228, x162_231, x162_234, x162_237, x162_240, x162_243, x162_246, x162_249, pv_some, pv_none, c1_int, c1_ref, c1_null, true_and, and_true, ne_eq, not_false_eq_true, not_true_eq_false, if_true, if_false, reduceCtorEq, Option.some.injEq, Value.int.injEq, absI_fold, minI_fold, maxI_fold, m_s g1, m_r2 g1, m_r12 g1, m_r17 g1, m_s46 g1, m_s52 g1, m_s54 g1, m_nz, show ib 1 (2, 31) = True from i31 (k := 1) (by decide), ct1, e1, nI_lt_iff (show b < 2 ^ 31 by omega) (show n < 2 ^ 31 by omega), hb, km, c0', one_ne, ibwn (show i < 5 by omega) (by decide), nI_cl (show i < 2 ^ 31 by omega), m_s g2, m_r12 g2, m_s52 g2, kc, back, ibn (show w < 7776 by omega) (by decide), ibwn (show w < 7776 by omega) (by decide), nI_cl (show w < 2 ^ 31 by omega), e54, fn', sm, nI_add1, q8, reduceCtorEq, if_true, if_false, true_or, or_true, false_or, or_false, true_and, and_true, false_and, and_false, not_true_eq_false, not_false_eq_true, iff_self, ite_self, ne_eq, true_implies, implies_true, Bool.false_eq_true, decide_true, decide_false, Bool.or_true, Bool.or_false, Bool.true_or, Bool.false_or]
      rcases moV_01 s with e | e
      · simp only [e, if_true, if_false, true_or, or_true, false_or, or_false, true_and, and_true, false_and, and_false, not_true_eq_false, not_false_eq_true, iff_self, ite_self, ne_eq, true_implies, implies_true, Bool.false_eq_true, decide_true, decide_false, Bool.or_true, Bool.or_false, Bool.true_or, Bool.false_or]
      · simp only [e, one_ne, if_true, if_false, true_or, or_true, false_or, or_false, true_and, and_true, false_and, and_false, not_true_eq_false, not_false_eq_true, iff_self, ite_self, ne_eq, true_implies, implies_true, Bool.false_eq_true, decide_true, decide_false, Bool.or_true, Bool.or_false, Bool.true_or, Bool.false_or]
  · have c0' : bi (allB (mayB L (DA D 21) (D 2) i b) (gN D) = true) = 0 := bi_f c0
    refine ⟨h1, s, l8, F, q8, Ext.none (fun w q => c0 q.1) s, fun Q => ?_⟩
    rw [x162_129]
    simp only [x162_0, x162_1, x162_4, x162_5, x162_6, x162_8, x162_9, x162_12, x162_13, x162_16, x162_17, x162_18, x162_19, x162_22, x162_25, x162_26, x162_28, x162_29, x162_32, x162_33, x162_34, x162_37, x162_38, x162_41, x162_42, x162_43, x162_44, x162_47, x162_48, x162_51, x162_54, x162_55, x162_58, x162_59, x162_62, x162_63, x162_64, x162_65, x162_66, x162_67, x162_69, x162_72, x162_73, x162_74, x162_75, x162_79, x162_80, x162_83, x162_84, x162_87, x162_89, x162_90, x162_91, x162_94, x162_95, x162_97, x162_100, x162_103, x162_104, x162_108, x162_109, x162_112, x162_113, x162_114, x162_117, x162_118, x162_121, x162_123, x162_124, x162_126, x162_127, x162_131, x162_132, x162_135, x162_136, x162_137, x162_140, x162_141, x162_143, x162_145, x162_148, x162_151, x162_152, x162_155, x162_157, x162_159, x162_160, x162_161, x162_164, x162_166, x162_167, x162_170, x162_172, x162_174, x162_175, x162_176, x162_179, x162_180, x162_183, x162_185, x162_186, x162_189, x162_190, x162_193, x162_194, x162_195, x162_196, x162_199, x162_201, x162_202, x162_205, x162_207, x162_208, x162_211, x162_212, x162_213, x162_214, x162_217, x162_218, x162_221, x162_223, x162_224, x162_225, x162_228, x162_231, x162_234, x162_237, x162_240, x162_243, x162_246, x162_249, pv_some, pv_none, c1_int, c1_ref, c1_null, true_and, and_true, ne_eq, not_false_eq_true, not_true_eq_false, if_true, if_false, reduceCtorEq, Option.some.injEq, Value.int.injEq, absI_fold, minI_fold, maxI_fold, m_s g1, m_r2 g1, m_s46 g1, m_nz, show ib 1 (2, 31) = True from i31 (k := 1) (by decide), ct1, e1, nI_lt_iff (show b < 2 ^ 31 by omega) (show n < 2 ^ 31 by omega), hb, km, c0', nI_add1, if_true, if_false, true_or, or_true, false_or, or_false, true_and, and_true, false_and, and_false, not_true_eq_false, not_false_eq_true, iff_self, ite_self, ne_eq, true_implies, implies_true, Bool.false_eq_true, decide_true, decide_false, Bool.or_true, Bool.or_false, Bool.true_or, Bool.false_or]
end FARS
