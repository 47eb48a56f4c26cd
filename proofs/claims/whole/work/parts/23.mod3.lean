/-! THE REFERENCE: a guest, an item, a text -/
section MOD3
variable {h : aH} {n p q : Nat} {D : Nat → Int32} {ch : Int32}
theorem m_gnumsNo (T : MT h n) (hq : q < 800) (hat : hI h 44 11 = nI q) (hb : hI h 47 1 = D 1) (hno : ¬ gNum (mlt (hI h 45) n) q (D 1)) : ∃ h', MFr h h' ∧ ∀ (Q : Option Value → aH → Prop) (l : Value), X 132 0 [.ref 44, .null, .null, .null, .null, .null, .null, l] [] h Q ↔ Q (some (.int 0)) h' := by
  have g := T.1
  have b := psF_lt (mlt (hI h 45) n) q
  have at1 : ∀ j, hI (sI h 44 11 (nI (psF (mlt (hI h 45) n) q j))) 44 11 = nI (psF (mlt (hI h 45) n) q j) := fun j => by rw [hI_sI, if_pos ⟨rfl, rfl⟩]
  have k0 := fun (Q : Option Value → aH → Prop) (lo hi en : Int32) => m_number (Q := Q) (lo := lo) (hi := hi) (en := en) T (show q < 900 by omega) hat
  have kj := fun (j : Nat) (hj : j ≤ 4) (Q : Option Value → aH → Prop) (lo hi en : Int32) => m_number (Q := Q) (lo := lo) (hi := hi) (en := en) (T.w (nI (psF (mlt (hI h 45) n) q j))) (show psF (mlt (hI h 45) n) q j < 900 by have := b j; omega) (at1 j)
  simp only [mlt_w, sI_sI] at kj
  have r47 : ∀ (v : Int32) (j : Nat), hI (sI h 44 11 v) 47 j = hI h 47 j := fun v j => by rw [hI_sI, if_neg (by omega)]
  have fr : ∀ v : Int32, MFr h (sI h 44 11 v) := fun v => (MFr.refl h).sI v (Or.inr ⟨rfl, rfl⟩)
  have gd := fun (v : Int32) (Q : Option Value → aH → Prop) (l1 l2 l3 l4 l5 : Value) => gdead (h := sI h 44 11 v) (Q := Q) (l1 := l1) (l2 := l2) (l3 := l3) (l4 := l4) (l5 := l5) T.1
  have m1 : ((-1 : Int32) < 0) = True := by decide
  by_cases o0 : nmV (mlt (hI h 45) n) q 0 3 44 < 0
  · exact ⟨sI h 44 11 (nI (nmP (mlt (hI h 45) n) q)), fr _, fun Q l => by simp only [x132_0, x132_1, x132_2, x132_3, x132_5, x132_8, x132_9, x132_10, x132_13, x132_14, x132_17, x132_18, x132_19, x132_21, x132_23, x132_26, x132_27, x132_28, x132_31, x132_32, x132_35, x132_36, x132_37, x132_39, x132_41, x132_44, x132_45, x132_46, x132_49, x132_50, x132_53, x132_54, x132_55, x132_57, x132_59, x132_62, x132_64, x132_66, x132_69, x132_70, x132_73, x132_74, x132_75, x132_76, x132_79, x132_80, x132_81, x132_82, x132_83, x132_85, x132_88, x132_90, x132_92, x132_95, x132_96, x132_99, x132_100, x132_101, x132_102, x132_105, x132_106, x132_109, x132_110, x132_111, x132_112, x132_113, x132_114, x132_117, x132_118, x132_119, x132_122, x132_123, x132_126, x132_127, x132_129, x132_130, x132_134, x132_135, x132_138, x132_139, x132_140, x132_143, x132_145, x132_148, x132_149, x132_152, x132_154, x132_156, x132_157, x132_158, x132_160, x132_163, x132_164, x132_167, x132_168, x132_170, x132_173, x132_176, x132_178, x132_181, x132_182, x132_183, x132_184, x132_185, x132_187, x132_189, x132_192, x132_194, pv_some, pv_none, c1_int, c1_ref, c1_null, true_and, and_true, ne_eq, not_false_eq_true, not_true_eq_false, if_true, if_false, reduceCtorEq, Option.some.injEq, Value.int.injEq, absI_fold, minI_fold, maxI_fold, m_s g, m_r0 g, m_r2 g, m_r3 g, m_r4 g, m_r5 g, m_r7 g, m_r9 g, m_r12 g, m_r13 g, m_r17 g, m_r18 g, m_s45 g, m_s46 g, m_s47 g, m_s48 g, m_s49 g, m_s50 g, m_s51 g, m_s52 g, m_s53 g, m_s54 g, m_s55 g, m_nz, hS_sI, hR_sI, hS_wI, hR_wI, k0, o0, m1, if_true, if_false, true_or, or_true, false_or, or_false, true_and, and_true, false_and, and_false, not_true_eq_false, not_false_eq_true, iff_self, ite_self, ne_eq, true_implies, implies_true, Bool.false_eq_true, decide_true, decide_false, Bool.or_true, Bool.or_false, Bool.true_or, Bool.false_or, gd]⟩
  obtain ⟨v0, p0⟩ := nm_val o0
  have e1 : nmP (mlt (hI h 45) n) q = psF (mlt (hI h 45) n) q 1 := p0
  by_cases o1 : nmV (mlt (hI h 45) n) (psF (mlt (hI h 45) n) q 1) 0 30 44 < 0
  · exact ⟨sI h 44 11 (nI (nmP (mlt (hI h 45) n) (psF (mlt (hI h 45) n) q 1))), fr _, fun Q l => by simp only [x132_0, x132_1, x132_2, x132_3, x132_5, x132_8, x132_9, x132_10, x132_13, x132_14, x132_17, x132_18, x132_19, x132_21, x132_23, x132_26, x132_27, x132_28, x132_31, x132_32, x132_35, x132_36, x132_37, x132_39, x132_41, x132_44, x132_45, x132_46, x132_49, x132_50, x132_53, x132_54, x132_55, x132_57, x132_59, x132_62, x132_64, x132_66, x132_69, x132_70, x132_73, x132_74, x132_75, x132_76, x132_79, x132_80, x132_81, x132_82, x132_83, x132_85, x132_88, x132_90, x132_92, x132_95, x132_96, x132_99, x132_100, x132_101, x132_102, x132_105, x132_106, x132_109, x132_110, x132_111, x132_112, x132_113, x132_114, x132_117, x132_118, x132_119, x132_122, x132_123, x132_126, x132_127, x132_129, x132_130, x132_134, x132_135, x132_138, x132_139, x132_140, x132_143, x132_145, x132_148, x132_149, x132_152, x132_154, x132_156, x132_157, x132_158, x132_160, x132_163, x132_164, x132_167, x132_168, x132_170, x132_173, x132_176, x132_178, x132_181, x132_182, x132_183, x132_184, x132_185, x132_187, x132_189, x132_192, x132_194, pv_some, pv_none, c1_int, c1_ref, c1_null, true_and, and_true, ne_eq, not_false_eq_true, not_true_eq_false, if_true, if_false, reduceCtorEq, Option.some.injEq, Value.int.injEq, absI_fold, minI_fold, maxI_fold, m_s g, m_r0 g, m_r2 g, m_r3 g, m_r4 g, m_r5 g, m_r7 g, m_r9 g, m_r12 g, m_r13 g, m_r17 g, m_r18 g, m_s45 g, m_s46 g, m_s47 g, m_s48 g, m_s49 g, m_s50 g, m_s51 g, m_s52 g, m_s53 g, m_s54 g, m_s55 g, m_nz, hS_sI, hR_sI, hS_wI, hR_wI, k0, e1, o0, kj 1 (by omega), o1, m1, if_true, if_false, true_or, or_true, false_or, or_false, true_and, and_true, false_and, and_false, not_true_eq_false, not_false_eq_true, iff_self, ite_self, ne_eq, true_implies, implies_true, Bool.false_eq_true, decide_true, decide_false, Bool.or_true, Bool.or_false, Bool.true_or, Bool.false_or, gd]⟩
  obtain ⟨v1, p1⟩ := nm_val o1
  have e2 : nmP (mlt (hI h 45) n) (psF (mlt (hI h 45) n) q 1) = psF (mlt (hI h 45) n) q 2 := p1
  by_cases o2 : nmV (mlt (hI h 45) n) (psF (mlt (hI h 45) n) q 2) 0 12 44 < 0
  · exact ⟨sI h 44 11 (nI (nmP (mlt (hI h 45) n) (psF (mlt (hI h 45) n) q 2))), fr _, fun Q l => by simp only [x132_0, x132_1, x132_2, x132_3, x132_5, x132_8, x132_9, x132_10, x132_13, x132_14, x132_17, x132_18, x132_19, x132_21, x132_23, x132_26, x132_27, x132_28, x132_31, x132_32, x132_35, x132_36, x132_37, x132_39, x132_41, x132_44, x132_45, x132_46, x132_49, x132_50, x132_53, x132_54, x132_55, x132_57, x132_59, x132_62, x132_64, x132_66, x132_69, x132_70, x132_73, x132_74, x132_75, x132_76, x132_79, x132_80, x132_81, x132_82, x132_83, x132_85, x132_88, x132_90, x132_92, x132_95, x132_96, x132_99, x132_100, x132_101, x132_102, x132_105, x132_106, x132_109, x132_110, x132_111, x132_112, x132_113, x132_114, x132_117, x132_118, x132_119, x132_122, x132_123, x132_126, x132_127, x132_129, x132_130, x132_134, x132_135, x132_138, x132_139, x132_140, x132_143, x132_145, x132_148, x132_149, x132_152, x132_154, x132_156, x132_157, x132_158, x132_160, x132_163, x132_164, x132_167, x132_168, x132_170, x132_173, x132_176, x132_178, x132_181, x132_182, x132_183, x132_184, x132_185, x132_187, x132_189, x132_192, x132_194, pv_some, pv_none, c1_int, c1_ref, c1_null, true_and, and_true, ne_eq, not_false_eq_true, not_true_eq_false, if_true, if_false, reduceCtorEq, Option.some.injEq, Value.int.injEq, absI_fold, minI_fold, maxI_fold, m_s g, m_r0 g, m_r2 g, m_r3 g, m_r4 g, m_r5 g, m_r7 g, m_r9 g, m_r12 g, m_r13 g, m_r17 g, m_r18 g, m_s45 g, m_s46 g, m_s47 g, m_s48 g, m_s49 g, m_s50 g, m_s51 g, m_s52 g, m_s53 g, m_s54 g, m_s55 g, m_nz, hS_sI, hR_sI, hS_wI, hR_wI, k0, e1, o0, kj 1 (by omega), e2, o1, kj 2 (by omega), o2, m1, if_true, if_false, true_or, or_true, false_or, or_false, true_and, and_true, false_and, and_false, not_true_eq_false, not_false_eq_true, iff_self, ite_self, ne_eq, true_implies, implies_true, Bool.false_eq_true, decide_true, decide_false, Bool.or_true, Bool.or_false, Bool.true_or, Bool.false_or, gd]⟩
  obtain ⟨v2, p2⟩ := nm_val o2
  have e3 : nmP (mlt (hI h 45) n) (psF (mlt (hI h 45) n) q 2) = psF (mlt (hI h 45) n) q 3 := p2
  by_cases o3 : nmV (mlt (hI h 45) n) (psF (mlt (hI h 45) n) q 3) 1 40 44 < 0
  · exact ⟨sI h 44 11 (nI (nmP (mlt (hI h 45) n) (psF (mlt (hI h 45) n) q 3))), fr _, fun Q l => by simp only [x132_0, x132_1, x132_2, x132_3, x132_5, x132_8, x132_9, x132_10, x132_13, x132_14, x132_17, x132_18, x132_19, x132_21, x132_23, x132_26, x132_27, x132_28, x132_31, x132_32, x132_35, x132_36, x132_37, x132_39, x132_41, x132_44, x132_45, x132_46, x132_49, x132_50, x132_53, x132_54, x132_55, x132_57, x132_59, x132_62, x132_64, x132_66, x132_69, x132_70, x132_73, x132_74, x132_75, x132_76, x132_79, x132_80, x132_81, x132_82, x132_83, x132_85, x132_88, x132_90, x132_92, x132_95, x132_96, x132_99, x132_100, x132_101, x132_102, x132_105, x132_106, x132_109, x132_110, x132_111, x132_112, x132_113, x132_114, x132_117, x132_118, x132_119, x132_122, x132_123, x132_126, x132_127, x132_129, x132_130, x132_134, x132_135, x132_138, x132_139, x132_140, x132_143, x132_145, x132_148, x132_149, x132_152, x132_154, x132_156, x132_157, x132_158, x132_160, x132_163, x132_164, x132_167, x132_168, x132_170, x132_173, x132_176, x132_178, x132_181, x132_182, x132_183, x132_184, x132_185, x132_187, x132_189, x132_192, x132_194, pv_some, pv_none, c1_int, c1_ref, c1_null, true_and, and_true, ne_eq, not_false_eq_true, not_true_eq_false, if_true, if_false, reduceCtorEq, Option.some.injEq, Value.int.injEq, absI_fold, minI_fold, maxI_fold, m_s g, m_r0 g, m_r2 g, m_r3 g, m_r4 g, m_r5 g, m_r7 g, m_r9 g, m_r12 g, m_r13 g, m_r17 g, m_r18 g, m_s45 g, m_s46 g, m_s47 g, m_s48 g, m_s49 g, m_s50 g, m_s51 g, m_s52 g, m_s53 g, m_s54 g, m_s55 g, m_nz, hS_sI, hR_sI, hS_wI, hR_wI, k0, e1, o0, kj 1 (by omega), e2, o1, kj 2 (by omega), e3, o2, kj 3 (by omega), o3, m1, if_true, if_false, true_or, or_true, false_or, or_false, true_and, and_true, false_and, and_false, not_true_eq_false, not_false_eq_true, iff_self, ite_self, ne_eq, true_implies, implies_true, Bool.false_eq_true, decide_true, decide_false, Bool.or_true, Bool.or_false, Bool.true_or, Bool.false_or, gd]⟩
  obtain ⟨v3, p3⟩ := nm_val o3
  have e4 : nmP (mlt (hI h 45) n) (psF (mlt (hI h 45) n) q 3) = psF (mlt (hI h 45) n) q 4 := p3
  by_cases o4 : nmV (mlt (hI h 45) n) (psF (mlt (hI h 45) n) q 4) 0 (D 1 - 1) 59 < 0
  · exact ⟨sI h 44 11 (nI (nmP (mlt (hI h 45) n) (psF (mlt (hI h 45) n) q 4))), fr _, fun Q l => by simp only [x132_0, x132_1, x132_2, x132_3, x132_5, x132_8, x132_9, x132_10, x132_13, x132_14, x132_17, x132_18, x132_19, x132_21, x132_23, x132_26, x132_27, x132_28, x132_31, x132_32, x132_35, x132_36, x132_37, x132_39, x132_41, x132_44, x132_45, x132_46, x132_49, x132_50, x132_53, x132_54, x132_55, x132_57, x132_59, x132_62, x132_64, x132_66, x132_69, x132_70, x132_73, x132_74, x132_75, x132_76, x132_79, x132_80, x132_81, x132_82, x132_83, x132_85, x132_88, x132_90, x132_92, x132_95, x132_96, x132_99, x132_100, x132_101, x132_102, x132_105, x132_106, x132_109, x132_110, x132_111, x132_112, x132_113, x132_114, x132_117, x132_118, x132_119, x132_122, x132_123, x132_126, x132_127, x132_129, x132_130, x132_134, x132_135, x132_138, x132_139, x132_140, x132_143, x132_145, x132_148, x132_149, x132_152, x132_154, x132_156, x132_157, x132_158, x132_160, x132_163, x132_164, x132_167, x132_168, x132_170, x132_173, x132_176, x132_178, x132_181, x132_182, x132_183, x132_184, x132_185, x132_187, x132_189, x132_192, x132_194, pv_some, pv_none, c1_int, c1_ref, c1_null, true_and, and_true, ne_eq, not_false_eq_true, not_true_eq_false, if_true, if_false, reduceCtorEq, Option.some.injEq, Value.int.injEq, absI_fold, minI_fold, maxI_fold, m_s g, m_r0 g, m_r2 g, m_r3 g, m_r4 g, m_r5 g, m_r7 g, m_r9 g, m_r12 g, m_r13 g, m_r17 g, m_r18 g, m_s45 g, m_s46 g, m_s47 g, m_s48 g, m_s49 g, m_s50 g, m_s51 g, m_s52 g, m_s53 g, m_s54 g, m_s55 g, m_nz, hS_sI, hR_sI, hS_wI, hR_wI, k0, e1, o0, kj 1 (by omega), e2, o1, kj 2 (by omega), e3, o2, kj 3 (by omega), e4, o3, show ib 1 (2, 31) = True from i31 (k := 1) (by decide), ct1, r47, hb, kj 4 (by omega), o4, m1, if_true, if_false, true_or, or_true, false_or, or_false, true_and, and_true, false_and, and_false, not_true_eq_false, not_false_eq_true, iff_self, ite_self, ne_eq, true_implies, implies_true, Bool.false_eq_true, decide_true, decide_false, Bool.or_true, Bool.or_false, Bool.true_or, Bool.false_or, gd]⟩
  exact absurd ⟨o0, o1, o2, o3, o4⟩ hno
/-- whether the bed is taken; the guest added -/
theorem m_gbed {Q : Option Value → aH → Prop} {t0 t1 t2 t3 t4 : Int32} (g : GM h) (hG : hI h 47 0 = nI (gN D)) (h5 : gN D < 5) (h26 : ∀ i, i < gN D → hI h 47 (26 + i) = D (26 + i)) : X 132 132 [.ref 44, .int t0, .int t1, .int t2, .int t3, .int t4, .int 1, .int 0] [] h Q ↔ if takenF (fun i => D (26 + i)) t4 (gN D) = true then Q (some (.int 0)) h else Q (some (.int 1)) (addH h (gN D) t0 t1 t2 t3 t4) := by
  have hle := fstN_le (fun i => decide (D (26 + i) = t4)) (gN D)
  have p26 : ∀ k, (26 : Int32) + nI k = nI (26 + k) := fun k => nI_addn 26 k
  have i0 : ib 0 (2, 31) = True := i31 (k := 0) (by decide)
  have step : ∀ k, k < gN D → (X 132 132 [.ref 44, .int t0, .int t1, .int t2, .int t3, .int t4, .int 1, .int (nI k)] [] h Q ↔ X 132 132 [.ref 44, .int t0, .int t1, .int t2, .int t3, .int t4, .int (if D (26 + k) = t4 then 0 else 1), .int (nI (k + 1))] [] h Q) := by
    intro k hk
    rw [x132_132]
    simp only [x132_0, x132_1, x132_2, x132_3, x132_5, x132_8, x132_9, x132_10, x132_13, x132_14, x132_17, x132_18, x132_19, x132_21, x132_23, x132_26, x132_27, x132_28, x132_31, x132_32, x132_35, x132_36, x132_37, x132_39, x132_41, x132_44, x132_45, x132_46, x132_49, x132_50, x132_53, x132_54, x132_55, x132_57, x132_59, x132_62, x132_64, x132_66, x132_69, x132_70, x132_73, x132_74, x132_75, x132_76, x132_79, x132_80, x132_81, x132_82, x132_83, x132_85, x132_88, x132_90, x132_92, x132_95, x132_96, x132_99, x132_100, x132_101, x132_102, x132_105, x132_106, x132_109, x132_110, x132_111, x132_112, x132_113, x132_114, x132_117, x132_118, x132_119, x132_122, x132_123, x132_126, x132_127, x132_129, x132_130, x132_134, x132_135, x132_138, x132_139, x132_140, x132_143, x132_145, x132_148, x132_149, x132_152, x132_154, x132_156, x132_157, x132_158, x132_160, x132_163, x132_164, x132_167, x132_168, x132_170, x132_173, x132_176, x132_178, x132_181, x132_182, x132_183, x132_184, x132_185, x132_187, x132_189, x132_192, x132_194, pv_some, pv_none, c1_int, c1_ref, c1_null, true_and, and_true, ne_eq, not_false_eq_true, not_true_eq_false, if_true, if_false, reduceCtorEq, Option.some.injEq, Value.int.injEq, absI_fold, minI_fold, maxI_fold, m_s g, m_r0 g, m_r2 g, m_r3 g, m_r4 g, m_r5 g, m_r7 g, m_r9 g, m_r12 g, m_r13 g, m_r17 g, m_r18 g, m_s45 g, m_s46 g, m_s47 g, m_s48 g, m_s49 g, m_s50 g, m_s51 g, m_s52 g, m_s53 g, m_s54 g, m_s55 g, m_nz, hS_sI, hR_sI, hS_wI, hR_wI, i0, c0, hG, nI_lt_iff (show k < 2 ^ 31 by omega) (show gN D < 2 ^ 31 by omega), hk, one_ne, p26, i31 (show 26 + k < 31 by omega), nI_cl (show 26 + k < 2 ^ 31 by omega), h26 k hk, nI_add1, if_true, if_false, true_or, or_true, false_or, or_false, true_and, and_true, false_and, and_false, not_true_eq_false, not_false_eq_true, iff_self, ite_self, ne_eq, true_implies, implies_true, Bool.false_eq_true, decide_true, decide_false, Bool.or_true, Bool.or_false, Bool.true_or, Bool.false_or]
    by_cases z : D (26 + k) = t4 <;> simp only [z, if_true, if_false, true_or, or_true, false_or, or_false, true_and, and_true, false_and, and_false, not_true_eq_false, not_false_eq_true, iff_self, ite_self, ne_eq, true_implies, implies_true, Bool.false_eq_true, decide_true, decide_false, Bool.or_true, Bool.or_false, Bool.true_or, Bool.false_or]
  have go : ∀ m, m ≤ fstN (fun i => decide (D (26 + i) = t4)) (gN D) → (X 132 132 [.ref 44, .int t0, .int t1, .int t2, .int t3, .int t4, .int 1, .int 0] [] h Q ↔ X 132 132 [.ref 44, .int t0, .int t1, .int t2, .int t3, .int t4, .int 1, .int (nI m)] [] h Q) := by
    intro m
    induction m with
    | zero => intro _; rfl
    | succ m ih =>
      intro hm
      rw [ih (by omega), step m (by omega)]
      have hno := fstN_no (fun i => decide (D (26 + i) = t4)) (gN D) m (by omega)
      have : ¬ D (26 + m) = t4 := by simpa using hno
      rw [if_neg this]
  rw [go _ (Nat.le_refl _)]
  unfold takenF
  generalize hf : fstN (fun i => decide (D (26 + i) = t4)) (gN D) = n0 at hle
  by_cases hl : n0 < gN D
  · have hy := fstN_yes (fun i => decide (D (26 + i) = t4)) (gN D) (by rw [hf]; exact hl)
    rw [hf] at hy
    have hn : D (26 + n0) = t4 := by simpa using hy
    rw [step n0 hl, if_pos hn, x132_132]
    simp only [x132_0, x132_1, x132_2, x132_3, x132_5, x132_8, x132_9, x132_10, x132_13, x132_14, x132_17, x132_18, x132_19, x132_21, x132_23, x132_26, x132_27, x132_28, x132_31, x132_32, x132_35, x132_36, x132_37, x132_39, x132_41, x132_44, x132_45, x132_46, x132_49, x132_50, x132_53, x132_54, x132_55, x132_57, x132_59, x132_62, x132_64, x132_66, x132_69, x132_70, x132_73, x132_74, x132_75, x132_76, x132_79, x132_80, x132_81, x132_82, x132_83, x132_85, x132_88, x132_90, x132_92, x132_95, x132_96, x132_99, x132_100, x132_101, x132_102, x132_105, x132_106, x132_109, x132_110, x132_111, x132_112, x132_113, x132_114, x132_117, x132_118, x132_119, x132_122, x132_123, x132_126, x132_127, x132_129, x132_130, x132_134, x132_135, x132_138, x132_139, x132_140, x132_143, x132_145, x132_148, x132_149, x132_152, x132_154, x132_156, x132_157, x132_158, x132_160, x132_163, x132_164, x132_167, x132_168, x132_170, x132_173, x132_176, x132_178, x132_181, x132_182, x132_183, x132_184, x132_185, x132_187, x132_189, x132_192, x132_194, pv_some, pv_none, c1_int, c1_ref, c1_null, true_and, and_true, ne_eq, not_false_eq_true, not_true_eq_false, if_true, if_false, reduceCtorEq, Option.some.injEq, Value.int.injEq, absI_fold, minI_fold, maxI_fold, m_s g, m_r0 g, m_r2 g, m_r3 g, m_r4 g, m_r5 g, m_r7 g, m_r9 g, m_r12 g, m_r13 g, m_r17 g, m_r18 g, m_s45 g, m_s46 g, m_s47 g, m_s48 g, m_s49 g, m_s50 g, m_s51 g, m_s52 g, m_s53 g, m_s54 g, m_s55 g, m_nz, hS_sI, hR_sI, hS_wI, hR_wI, i0, c0, hG, hf, hl, if_true, if_false, true_or, or_true, false_or, or_false, true_and, and_true, false_and, and_false, not_true_eq_false, not_false_eq_true, iff_self, ite_self, ne_eq, true_implies, implies_true, Bool.false_eq_true, decide_true, decide_false, Bool.or_true, Bool.or_false, Bool.true_or, Bool.false_or, ite_self]
  · have : n0 = gN D := by omega
    subst this
    rw [x132_132]
    simp only [x132_0, x132_1, x132_2, x132_3, x132_5, x132_8, x132_9, x132_10, x132_13, x132_14, x132_17, x132_18, x132_19, x132_21, x132_23, x132_26, x132_27, x132_28, x132_31, x132_32, x132_35, x132_36, x132_37, x132_39, x132_41, x132_44, x132_45, x132_46, x132_49, x132_50, x132_53, x132_54, x132_55, x132_57, x132_59, x132_62, x132_64, x132_66, x132_69, x132_70, x132_73, x132_74, x132_75, x132_76, x132_79, x132_80, x132_81, x132_82, x132_83, x132_85, x132_88, x132_90, x132_92, x132_95, x132_96, x132_99, x132_100, x132_101, x132_102, x132_105, x132_106, x132_109, x132_110, x132_111, x132_112, x132_113, x132_114, x132_117, x132_118, x132_119, x132_122, x132_123, x132_126, x132_127, x132_129, x132_130, x132_134, x132_135, x132_138, x132_139, x132_140, x132_143, x132_145, x132_148, x132_149, x132_152, x132_154, x132_156, x132_157, x132_158, x132_160, x132_163, x132_164, x132_167, x132_168, x132_170, x132_173, x132_176, x132_178, x132_181, x132_182, x132_183, x132_184, x132_185, x132_187, x132_189, x132_192, x132_194, pv_some, pv_none, c1_int, c1_ref, c1_null, true_and, and_true, ne_eq, not_false_eq_true, not_true_eq_false, if_true, if_false, reduceCtorEq, Option.some.injEq, Value.int.injEq, absI_fold, minI_fold, maxI_fold, m_s g, m_r0 g, m_r2 g, m_r3 g, m_r4 g, m_r5 g, m_r7 g, m_r9 g, m_r12 g, m_r13 g, m_r17 g, m_r18 g, m_s45 g, m_s46 g, m_s47 g, m_s48 g, m_s49 g, m_s50 g, m_s51 g, m_s52 g, m_s53 g, m_s54 g, m_s55 g, m_nz, hS_sI, hR_sI, hS_wI, hR_wI, i0, c0, hG, nI_lt_iff (show gN D < 2 ^ 31 by omega) (show gN D < 2 ^ 31 by omega), Nat.lt_irrefl, one_ne, m_adds g hG h5, hf, if_true, if_false, true_or, or_true, false_or, or_false, true_and, and_true, false_and, and_false, not_true_eq_false, not_false_eq_true, iff_self, ite_self, ne_eq, true_implies, implies_true, Bool.false_eq_true, decide_true, decide_false, Bool.or_true, Bool.or_false, Bool.true_or, Bool.false_or]
theorem MD_add {t : Nat → Int32} (M : MD h D) (w : DW D) (h5 : gN D < 5) (ho : hI h 47 5 = 1) : MD (addH h (gN D) (t 0) (t 1) (t 2) (t 3) (t 4)) (gstD D t) := by
  unfold MD
  rw [gN_gst t w]
  unfold addH gstD
  simp only [hI_sI]
  refine ⟨fun j hj => ?_, fun i hi r hr => ?_⟩
  · have := M.1 j hj
    grind
  · by_cases hig : i = gN D
    · subst hig
      have : r = 0 ∨ r = 1 ∨ r = 2 ∨ r = 3 ∨ r = 4 := by omega
      rcases this with rfl | rfl | rfl | rfl | rfl <;> grind
    · have := M.2 i (by omega) r hr
      have : r = 0 ∨ r = 1 ∨ r = 2 ∨ r = 3 ∨ r = 4 := by omega
      rcases this with rfl | rfl | rfl | rfl | rfl <;> grind
/-- the reference's guest item -/
theorem gOk_iff (c : Nat → Int32) (w : DW D) (e : Nat) : (∃ m, rdR c 5 q = some (e, m) ∧ m = 5 ∧ okGD D (fun j => vlF c (psF c q j)) = true) ↔ gOk c q D ∧ e = psF c q 5 := by
  obtain ⟨⟨w1, w1'⟩, ⟨n, w2, w3, w4, w5, -⟩, -⟩ := w
  have sm : ∀ j, dig (c (psF c q j)) = true → ¬ vlF c (psF c q j) < 0 := fun j hj => small_nn (vlF_small c _ hj)
  have e1 : nI (gN D) + 1 < D 1 ↔ nI (gN D) < D 1 - 1 := by
    rw [w2, nI_add1, show (1 : Int32) = nI 1 from rfl, nI_sub (by omega), nI_lt_iff (by omega) (by omega), nI_lt_iff (by omega) (by omega)]
    omega
  constructor
  · rintro ⟨m, hr, rfl, hok⟩
    obtain ⟨-, i2, i3, i4, i5⟩ := (rdR_iff c _ _ _ _).mp hr
    unfold okGD at hok
    simp only [Bool.and_eq_true, decide_eq_true_eq, Bool.not_eq_true', decide_eq_false_iff_not] at hok
    obtain ⟨⟨⟨⟨⟨⟨⟨⟨o1, o2⟩, o3⟩, o4⟩, o5⟩, o6⟩, o7⟩, o8, o9⟩, o10⟩ := hok
    refine ⟨⟨⟨(nm_ok _ _ _ _ _).mpr ⟨i2 0 (by omega), i3 0 (by omega), sm 0 (i2 0 (by omega)), o3⟩, (nm_ok _ _ _ _ _).mpr ⟨i2 1 (by omega), i3 1 (by omega), sm 1 (i2 1 (by omega)), o4⟩, (nm_ok _ _ _ _ _).mpr ⟨i2 2 (by omega), i3 2 (by omega), sm 2 (i2 2 (by omega)), o5⟩, (nm_ok _ _ _ _ _).mpr ⟨i2 3 (by omega), i3 3 (by omega), o6, o7⟩, (nm_ok _ _ _ _ _).mpr ⟨i2 4 (by omega), i4, sm 4 (i2 4 (by omega)), ?_⟩⟩, o1, e1.mpr o2, o10⟩, i5⟩
    obtain ⟨v, hv, ev⟩ := vlF_small c _ (i2 4 (by omega))
    have o9' : nI v < D 1 := by rw [← ev]; exact o9
    rw [w2, show (1 : Int32) = nI 1 from rfl, nI_sub (by omega), ev, nI_lt_iff (by omega) (by omega)]
    rw [w2] at o9'
    have := lit_le (by omega) (by omega) o9'
    omega
  · rintro ⟨⟨⟨a0, a1, a2, a3, a4⟩, o1, o2, o10⟩, rfl⟩
    obtain ⟨d0, t0, l0, u0⟩ := (nm_ok _ _ _ _ _).mp a0
    obtain ⟨d1, t1, l1, u1⟩ := (nm_ok _ _ _ _ _).mp a1
    obtain ⟨d2, t2, l2, u2⟩ := (nm_ok _ _ _ _ _).mp a2
    obtain ⟨d3, t3, l3, u3⟩ := (nm_ok _ _ _ _ _).mp a3
    obtain ⟨d4, t4, l4, u4⟩ := (nm_ok _ _ _ _ _).mp a4
    refine ⟨5, (rdR_iff c _ _ _ _).mpr ⟨by omega, fun j hj => ?_, fun j hj => ?_, t4, rfl⟩, rfl, ?_⟩
    · rcases (show j = 0 ∨ j = 1 ∨ j = 2 ∨ j = 3 ∨ j = 4 by omega) with rfl | rfl | rfl | rfl | rfl
      · exact d0
      · exact d1
      · exact d2
      · exact d3
      · exact d4
    · rcases (show j = 0 ∨ j = 1 ∨ j = 2 ∨ j = 3 by omega) with rfl | rfl | rfl | rfl
      · exact t0
      · exact t1
      · exact t2
      · exact t3
    · unfold okGD
      simp only [Bool.and_eq_true, decide_eq_true_eq, Bool.not_eq_true', decide_eq_false_iff_not]
      refine ⟨⟨⟨⟨⟨⟨⟨⟨o1, e1.mp o2⟩, u0⟩, u1⟩, u2⟩, l3⟩, u3⟩, l4, ?_⟩, o10⟩
      obtain ⟨v, hv, ev⟩ := vlF_small c _ d4
      rw [w2, show (1 : Int32) = nI 1 from rfl, nI_sub (by omega), ev, nI_lt_iff (by omega) (by omega)] at u4
      rw [w2, ev, nI_lt_iff (by omega) (by omega)]
      omega
theorem m_readsGuest (T : MT h n) (hq : q < 800) (hat : hI h 44 11 = nI q) (M : MD h D) (w : DW D) (ho : hI h 47 5 = 1) (M1 : hI h 47 1 = D 1) (M0 : hI h 47 0 = nI (gN D)) :
    (gOk (mlt (hI h 45) n) q D → ∃ h', MFr h h' ∧ MD h' (gstD D (fun j => vlF (mlt (hI h 45) n) (psF (mlt (hI h 45) n) q j))) ∧ hI h' 44 11 = nI (psF (mlt (hI h 45) n) q 5) ∧ ∀ Q : Option Value → aH → Prop, X 132 0 [.ref 44, .null, .null, .null, .null, .null, .null, .null] [] h Q ↔ Q (some (.int 1)) h') ∧
    (¬ gOk (mlt (hI h 45) n) q D → ∃ h', MFr h h' ∧ ∀ Q : Option Value → aH → Prop, X 132 0 [.ref 44, .null, .null, .null, .null, .null, .null, .null] [] h Q ↔ Q (some (.int 0)) h') := by
  have g := T.1
  have h5 := w.1.2
  have r47 : ∀ (v : Int32) (j : Nat), hI (sI h 44 11 v) 47 j = hI h 47 j := fun v j => by rw [hI_sI, if_neg (by omega)]
  have h26 : ∀ v : Int32, ∀ i, i < gN D → hI (sI h 44 11 v) 47 (26 + i) = D (26 + i) := fun v i hi => by
    rw [r47]
    have := M.2 i hi 4 (by omega)
    rw [show 6 + 5 * 4 + i = 26 + i by omega] at this
    exact this
  have MDw : ∀ v : Int32, MD (sI h 44 11 v) D := fun v => ⟨fun j hj => by rw [r47]; exact M.1 j hj, fun i hi r hr => by rw [r47]; exact M.2 i hi r hr⟩
  have fr : ∀ v : Int32, MFr h (sI h 44 11 v) := fun v => (MFr.refl h).sI v (Or.inr ⟨rfl, rfl⟩)
  refine ⟨fun hok => ?_, fun hno => ?_⟩
  · obtain ⟨hn, g5, g6, tk⟩ := hok
    refine ⟨addH (sI h 44 11 (nI (psF (mlt (hI h 45) n) q 5))) (gN D) (vlF (mlt (hI h 45) n) (psF (mlt (hI h 45) n) q 0)) (vlF (mlt (hI h 45) n) (psF (mlt (hI h 45) n) q 1)) (vlF (mlt (hI h 45) n) (psF (mlt (hI h 45) n) q 2)) (vlF (mlt (hI h 45) n) (psF (mlt (hI h 45) n) q 3)) (vlF (mlt (hI h 45) n) (psF (mlt (hI h 45) n) q 4)), ?_, MD_add (t := fun j => vlF (mlt (hI h 45) n) (psF (mlt (hI h 45) n) q j)) (MDw _) w g5 (by rw [r47]; exact ho), ?_, fun Q => ?_⟩
    · unfold addH
      exact ((((((fr _).sI _ (Or.inl rfl)).sI _ (Or.inl rfl)).sI _ (Or.inl rfl)).sI _ (Or.inl rfl)).sI _ (Or.inl rfl)).sI _ (Or.inl rfl)
    · unfold addH
      rw [hI_sI, if_neg (by omega), hI_sI, if_neg (by omega), hI_sI, if_neg (by omega), hI_sI, if_neg (by omega), hI_sI, if_neg (by omega), hI_sI, if_neg (by omega), hI_sI, if_pos ⟨rfl, rfl⟩]
    · rw [m_gnums T hq hat M1 M0 h5 hn, if_pos ⟨g5, g6⟩, m_gbed (D := D) (show GM (sI h 44 11 (nI (psF (mlt (hI h 45) n) q 5))) from g) (by rw [r47]; exact M0) g5 (h26 _), if_neg (by rw [tk]; exact Bool.false_ne_true)]
      simp only [psF]
  · by_cases hn : gNum (mlt (hI h 45) n) q (D 1)
    · refine ⟨sI h 44 11 (nI (psF (mlt (hI h 45) n) q 5)), fr _, fun Q => ?_⟩
      rw [m_gnums T hq hat M1 M0 h5 hn]
      by_cases gg : gN D < 5 ∧ nI (gN D) + 1 < D 1
      · rw [if_pos gg, m_gbed (D := D) (show GM (sI h 44 11 (nI (psF (mlt (hI h 45) n) q 5))) from g) (by rw [r47]; exact M0) gg.1 (h26 _)]
        have : takenF (fun i => D (26 + i)) (vlF (mlt (hI h 45) n) (psF (mlt (hI h 45) n) q 4)) (gN D) = true := by
          cases hz : takenF (fun i => D (26 + i)) (vlF (mlt (hI h 45) n) (psF (mlt (hI h 45) n) q 4)) (gN D) with
          | true => rfl
          | false => exact absurd ⟨hn, gg.1, gg.2, hz⟩ hno
        rw [if_pos this]
      · rw [if_neg gg]
        exact gdead (show GM (sI h 44 11 (nI (psF (mlt (hI h 45) n) q 5))) from g)
    · obtain ⟨h', f', k'⟩ := m_gnumsNo T hq hat M1 hn
      exact ⟨h', f', fun Q => k' Q _⟩
theorem gst_up5 (D t : Nat → Int32) : gstD (upD D 5 1) t = gstD D t := by
  funext j
  unfold gstD
  rw [gN_up D (by decide)]
  by_cases h5 : j = 5
  · subst h5; rfl
  · have : upD D 5 1 j = D j := by unfold upD; rw [if_neg h5]
    simp only [this]
theorem gOk_up5 (c : Nat → Int32) (q : Nat) (D : Nat → Int32) : gOk c q (upD D 5 1) ↔ gOk c q D := by
  unfold gOk
  rw [gN_up D (by decide), show upD D 5 1 1 = D 1 from rfl, show (fun i => upD D 5 1 (26 + i)) = fun i => D (26 + i) from by funext i; unfold upD; rw [if_neg (by omega)]]
theorem rd_one (c : Nat → Int32) (e : Nat) : rdR c 5 q = some (e, 1) ↔ dig (c q) = true ∧ c (nxF c q) = 59 ∧ e = nxF c q + 1 := by
  rw [rdR_iff]
  constructor
  · rintro ⟨-, i2, -, i4, i5⟩
    exact ⟨i2 0 (by omega), i4, i5⟩
  · rintro ⟨i2, i4, i5⟩
    exact ⟨by omega, fun j hj => by have : j = 0 := by omega
                                    subst this; exact i2, fun j hj => by omega, i4, i5⟩
theorem MD_up {k : Nat} {v : Int32} (M : MD h D) (hk : k < 6) (hk0 : k ≠ 0) : MD (sI h 47 k v) (upD D k v) := by
  unfold MD
  rw [gN_up D hk0]
  refine ⟨fun j hj => ?_, fun i hi r hr => ?_⟩
  · unfold upD
    rw [hI_sI]
    by_cases z : j = k
    · rw [if_pos ⟨rfl, z⟩, if_pos z]
    · rw [if_neg (fun y => z y.2), if_neg z]; exact M.1 j hj
  · unfold upD
    rw [hI_sI, if_neg (by omega), if_neg (by omega)]
    exact M.2 i hi r hr
theorem MD_at {v : Int32} (M : MD h D) : MD (sI h 44 11 v) D := by
  have r47 : ∀ (j : Nat), hI (sI h 44 11 v) 47 j = hI h 47 j := fun j => by rw [hI_sI, if_neg (by omega)]
  exact ⟨fun j hj => by rw [r47]; exact M.1 j hj, fun i hi r hr => by rw [r47]; exact M.2 i hi r hr⟩
end MOD3
