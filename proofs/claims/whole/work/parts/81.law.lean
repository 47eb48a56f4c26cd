/-! THE LAW'S LOOP -/
section LAW
variable {h h1 h2 : aH} {N k Z : Nat} {Q : Option Value → aH → Prop}
/-- between two calls -/
def LwS (h : aH) (N Z : Nat) : Prop := Rel h ∧ hS h 1 = (4, N) ∧ hN h = 56 ∧ hZ h = Z
abbrev lL (k : Nat) : List Value := [.ref 1, .ref 3, .ref 44, .int (nI (4 * k))]
theorem Rel.g (R : Rel h) : GS h := by
  obtain ⟨D, n, a, r, nt, zu, zk, zr, R⟩ := R
  exact R.g
theorem Rel.gm (R : Rel h) : GM h := by
  obtain ⟨D, n, a, r, nt, zu, zk, zr, R⟩ := R
  exact R.gm
theorem LwS.next (S : LwS h N Z) (i1 : Ivh h h1) (i2 : Ivh h1 h2) (R : Rel h2) (s1 : hN h1 = hN h ∧ hZ h1 = hZ h) (s2 : hN h2 = hN h1 ∧ hZ h2 = hZ h1) : LwS h2 N Z := ⟨R, by rw [(i1.trans i2).2.1 1 (by have := S.2.2.1; omega)]; exact S.2.1, s2.1.trans (s1.1.trans S.2.2.1), s2.2.trans (s1.2.trans S.2.2.2)⟩
theorem LwS.s44 (S : LwS h N Z) (i1 : Ivh h h1) : hS h1 44 = (1, 8) := by
  rw [i1.2.1 44 (by have := S.2.2.1; omega)]
  exact m_s S.1.gm
theorem LwS.s1 (S : LwS h N Z) (i1 : Ivh h h1) : hS h1 1 = (4, N) := by
  rw [i1.2.1 1 (by have := S.2.2.1; omega)]
  exact S.2.1
theorem LwS.c1 (S : LwS h N Z) (i1 : Ivh h h1) (j : Nat) : hI h1 1 j = hI h 1 j := i1.2.2.1 1 (by have := S.2.2.1; omega) (by rw [S.2.1]) j
theorem ib4 {k n : Nat} (hk : k < n) (hn : n < 2 ^ 31) : ib (nI k) (4, n) = True := eq_true ⟨Or.inr rfl, nI_in hk hn⟩
theorem w_write (S : LwS h N Z) (hN : N ≤ 256) (hk : 4 * k + 4 ≤ N) (hp : ∀ h2, LwS h2 N Z → X 181 787 (lL k) [] h2 Q) : X 181 156 (lL k) [] h Q := by
  obtain ⟨v, h1, h2, R2, k1, k2⟩ := a_write (x := hI h 1 (4 * k + 1)) S.1
  have i1 := X_inv k1
  have i2 := X_inv k2
  simp only [lL, x181_156, x181_157, x181_158, x181_159, x181_160, x181_161, x181_162, x181_165, x181_166, x181_167, x181_168, x181_169, x181_170, x181_171, x181_174, x181_177, x181_178, pv_some, pv_none, c1_int, c1_ref, c1_null, true_and, and_true, ne_eq, not_false_eq_true, not_true_eq_false, if_true, if_false, reduceCtorEq, Option.some.injEq, Value.int.injEq, absI_fold, minI_fold, maxI_fold, b_s S.1.g, S.2.1, S.s1 i1, S.s44 i1, show nI (4 * k) + 1 = nI (4 * k + 1) from nI_addn _ 1, ib4 (show 4 * k + 1 < N by omega) (show N < 2 ^ 31 by omega), nI_cl (show 4 * k + 1 < 2 ^ 31 by omega), S.c1 i1 (4 * k + 1), k1, k2, if_true, if_false, true_or, or_true, false_or, or_false, true_and, and_true, false_and, and_false, not_true_eq_false, not_false_eq_true, iff_self, ite_self, ne_eq, true_implies, implies_true, Bool.false_eq_true, decide_true, decide_false, Bool.or_true, Bool.or_false, Bool.true_or, Bool.false_or]
  exact hp h2 (S.next i1 i2 R2 (X_st k1 (by decide) rfl) (X_st k2 (by decide) rfl))
theorem w_wipe (S : LwS h N Z) (hN : N ≤ 256) (hk : 4 * k + 4 ≤ N) (hp : ∀ h2, LwS h2 N Z → X 181 787 (lL k) [] h2 Q) : X 181 179 (lL k) [] h Q := by
  obtain ⟨v, h1, h2, R2, k1, k2⟩ := a_wipe  S.1
  have i1 := X_inv k1
  have i2 := X_inv k2
  simp only [lL, x181_179, x181_180, x181_183, x181_184, x181_187, x181_190, x181_191, pv_some, pv_none, c1_int, c1_ref, c1_null, true_and, and_true, ne_eq, not_false_eq_true, not_true_eq_false, if_true, if_false, reduceCtorEq, Option.some.injEq, Value.int.injEq, absI_fold, minI_fold, maxI_fold, b_s S.1.g, S.2.1, S.s1 i1, S.s44 i1, k1, k2, if_true, if_false, true_or, or_true, false_or, or_false, true_and, and_true, false_and, and_false, not_true_eq_false, not_false_eq_true, iff_self, ite_self, ne_eq, true_implies, implies_true, Bool.false_eq_true, decide_true, decide_false, Bool.or_true, Bool.or_false, Bool.true_or, Bool.false_or]
  exact hp h2 (S.next i1 i2 R2 (X_st k1 (by decide) rfl) (X_st k2 (by decide) rfl))
theorem w_fault (S : LwS h N Z) (hN : N ≤ 256) (hk : 4 * k + 4 ≤ N) (hp : ∀ h2, LwS h2 N Z → X 181 787 (lL k) [] h2 Q) : X 181 192 (lL k) [] h Q := by
  obtain ⟨v, h1, h2, R2, k1, k2⟩ := a_fault  S.1
  have i1 := X_inv k1
  have i2 := X_inv k2
  simp only [lL, x181_192, x181_193, x181_196, x181_197, x181_200, x181_203, x181_204, pv_some, pv_none, c1_int, c1_ref, c1_null, true_and, and_true, ne_eq, not_false_eq_true, not_true_eq_false, if_true, if_false, reduceCtorEq, Option.some.injEq, Value.int.injEq, absI_fold, minI_fold, maxI_fold, b_s S.1.g, S.2.1, S.s1 i1, S.s44 i1, k1, k2, if_true, if_false, true_or, or_true, false_or, or_false, true_and, and_true, false_and, and_false, not_true_eq_false, not_false_eq_true, iff_self, ite_self, ne_eq, true_implies, implies_true, Bool.false_eq_true, decide_true, decide_false, Bool.or_true, Bool.or_false, Bool.true_or, Bool.false_or]
  exact hp h2 (S.next i1 i2 R2 (X_st k1 (by decide) rfl) (X_st k2 (by decide) rfl))
theorem w_lay (S : LwS h N Z) (hN : N ≤ 256) (hk : 4 * k + 4 ≤ N) (hp : ∀ h2, LwS h2 N Z → X 181 787 (lL k) [] h2 Q) : X 181 205 (lL k) [] h Q := by
  obtain ⟨v, h1, h2, R2, k1, k2⟩ := a_lay  S.1
  have i1 := X_inv k1
  have i2 := X_inv k2
  simp only [lL, x181_205, x181_206, x181_209, x181_210, x181_213, x181_216, x181_217, pv_some, pv_none, c1_int, c1_ref, c1_null, true_and, and_true, ne_eq, not_false_eq_true, not_true_eq_false, if_true, if_false, reduceCtorEq, Option.some.injEq, Value.int.injEq, absI_fold, minI_fold, maxI_fold, b_s S.1.g, S.2.1, S.s1 i1, S.s44 i1, k1, k2, if_true, if_false, true_or, or_true, false_or, or_false, true_and, and_true, false_and, and_false, not_true_eq_false, not_false_eq_true, iff_self, ite_self, ne_eq, true_implies, implies_true, Bool.false_eq_true, decide_true, decide_false, Bool.or_true, Bool.or_false, Bool.true_or, Bool.false_or]
  exact hp h2 (S.next i1 i2 R2 (X_st k1 (by decide) rfl) (X_st k2 (by decide) rfl))
theorem w_guest (S : LwS h N Z) (hN : N ≤ 256) (hk : 4 * k + 4 ≤ N) (hp : ∀ h2, LwS h2 N Z → X 181 787 (lL k) [] h2 Q) : X 181 218 (lL k) [] h Q := by
  obtain ⟨v, h1, h2, R2, k1, k2⟩ := a_guest (x := hI h 1 (4 * k + 1)) (y := hI h 1 (4 * k + 2)) S.1
  have i1 := X_inv k1
  have i2 := X_inv k2
  simp only [lL, x181_218, x181_219, x181_220, x181_221, x181_222, x181_223, x181_224, x181_225, x181_226, x181_227, x181_228, x181_229, x181_232, x181_233, x181_234, x181_235, x181_236, x181_237, x181_238, x181_239, x181_240, x181_241, x181_242, x181_243, x181_246, x181_249, x181_250, pv_some, pv_none, c1_int, c1_ref, c1_null, true_and, and_true, ne_eq, not_false_eq_true, not_true_eq_false, if_true, if_false, reduceCtorEq, Option.some.injEq, Value.int.injEq, absI_fold, minI_fold, maxI_fold, b_s S.1.g, S.2.1, S.s1 i1, S.s44 i1, show nI (4 * k) + 1 = nI (4 * k + 1) from nI_addn _ 1, ib4 (show 4 * k + 1 < N by omega) (show N < 2 ^ 31 by omega), nI_cl (show 4 * k + 1 < 2 ^ 31 by omega), S.c1 i1 (4 * k + 1), show nI (4 * k) + 2 = nI (4 * k + 2) from nI_addn _ 2, ib4 (show 4 * k + 2 < N by omega) (show N < 2 ^ 31 by omega), nI_cl (show 4 * k + 2 < 2 ^ 31 by omega), S.c1 i1 (4 * k + 2), k1, k2, if_true, if_false, true_or, or_true, false_or, or_false, true_and, and_true, false_and, and_false, not_true_eq_false, not_false_eq_true, iff_self, ite_self, ne_eq, true_implies, implies_true, Bool.false_eq_true, decide_true, decide_false, Bool.or_true, Bool.or_false, Bool.true_or, Bool.false_or]
  exact hp h2 (S.next i1 i2 R2 (X_st k1 (by decide) rfl) (X_st k2 (by decide) rfl))
theorem w_bed (S : LwS h N Z) (hN : N ≤ 256) (hk : 4 * k + 4 ≤ N) (hp : ∀ h2, LwS h2 N Z → X 181 787 (lL k) [] h2 Q) : X 181 251 (lL k) [] h Q := by
  obtain ⟨v, h1, h2, R2, k1, k2⟩ := a_bed (x := hI h 1 (4 * k + 1)) S.1
  have i1 := X_inv k1
  have i2 := X_inv k2
  simp only [lL, x181_251, x181_252, x181_253, x181_254, x181_255, x181_256, x181_257, x181_260, x181_261, x181_262, x181_263, x181_264, x181_265, x181_266, x181_269, x181_272, x181_273, pv_some, pv_none, c1_int, c1_ref, c1_null, true_and, and_true, ne_eq, not_false_eq_true, not_true_eq_false, if_true, if_false, reduceCtorEq, Option.some.injEq, Value.int.injEq, absI_fold, minI_fold, maxI_fold, b_s S.1.g, S.2.1, S.s1 i1, S.s44 i1, show nI (4 * k) + 1 = nI (4 * k + 1) from nI_addn _ 1, ib4 (show 4 * k + 1 < N by omega) (show N < 2 ^ 31 by omega), nI_cl (show 4 * k + 1 < 2 ^ 31 by omega), S.c1 i1 (4 * k + 1), k1, k2, if_true, if_false, true_or, or_true, false_or, or_false, true_and, and_true, false_and, and_false, not_true_eq_false, not_false_eq_true, iff_self, ite_self, ne_eq, true_implies, implies_true, Bool.false_eq_true, decide_true, decide_false, Bool.or_true, Bool.or_false, Bool.true_or, Bool.false_or]
  exact hp h2 (S.next i1 i2 R2 (X_st k1 (by decide) rfl) (X_st k2 (by decide) rfl))
theorem w_wall (S : LwS h N Z) (hN : N ≤ 256) (hk : 4 * k + 4 ≤ N) (hp : ∀ h2, LwS h2 N Z → X 181 787 (lL k) [] h2 Q) : X 181 274 (lL k) [] h Q := by
  obtain ⟨v, h1, h2, R2, k1, k2⟩ := a_wall (x := hI h 1 (4 * k + 1)) S.1
  have i1 := X_inv k1
  have i2 := X_inv k2
  simp only [lL, x181_274, x181_275, x181_276, x181_277, x181_278, x181_279, x181_280, x181_283, x181_284, x181_285, x181_286, x181_287, x181_288, x181_289, x181_292, x181_295, x181_296, pv_some, pv_none, c1_int, c1_ref, c1_null, true_and, and_true, ne_eq, not_false_eq_true, not_true_eq_false, if_true, if_false, reduceCtorEq, Option.some.injEq, Value.int.injEq, absI_fold, minI_fold, maxI_fold, b_s S.1.g, S.2.1, S.s1 i1, S.s44 i1, show nI (4 * k) + 1 = nI (4 * k + 1) from nI_addn _ 1, ib4 (show 4 * k + 1 < N by omega) (show N < 2 ^ 31 by omega), nI_cl (show 4 * k + 1 < 2 ^ 31 by omega), S.c1 i1 (4 * k + 1), k1, k2, if_true, if_false, true_or, or_true, false_or, or_false, true_and, and_true, false_and, and_false, not_true_eq_false, not_false_eq_true, iff_self, ite_self, ne_eq, true_implies, implies_true, Bool.false_eq_true, decide_true, decide_false, Bool.or_true, Bool.or_false, Bool.true_or, Bool.false_or]
  exact hp h2 (S.next i1 i2 R2 (X_st k1 (by decide) rfl) (X_st k2 (by decide) rfl))
theorem w_carry (S : LwS h N Z) (hN : N ≤ 256) (hk : 4 * k + 4 ≤ N) (hp : ∀ h2, LwS h2 N Z → X 181 787 (lL k) [] h2 Q) : X 181 297 (lL k) [] h Q := by
  obtain ⟨v, h1, h2, R2, k1, k2⟩ := a_carry (y := hI h 1 (4 * k + 1)) (x := hI h 1 (4 * k + 2)) S.1
  have i1 := X_inv k1
  have i2 := X_inv k2
  simp only [lL, x181_297, x181_298, x181_299, x181_300, x181_301, x181_302, x181_303, x181_304, x181_305, x181_306, x181_307, x181_308, x181_311, x181_312, x181_313, x181_314, x181_315, x181_316, x181_317, x181_318, x181_319, x181_320, x181_321, x181_322, x181_325, x181_328, x181_329, pv_some, pv_none, c1_int, c1_ref, c1_null, true_and, and_true, ne_eq, not_false_eq_true, not_true_eq_false, if_true, if_false, reduceCtorEq, Option.some.injEq, Value.int.injEq, absI_fold, minI_fold, maxI_fold, b_s S.1.g, S.2.1, S.s1 i1, S.s44 i1, show nI (4 * k) + 1 = nI (4 * k + 1) from nI_addn _ 1, ib4 (show 4 * k + 1 < N by omega) (show N < 2 ^ 31 by omega), nI_cl (show 4 * k + 1 < 2 ^ 31 by omega), S.c1 i1 (4 * k + 1), show nI (4 * k) + 2 = nI (4 * k + 2) from nI_addn _ 2, ib4 (show 4 * k + 2 < N by omega) (show N < 2 ^ 31 by omega), nI_cl (show 4 * k + 2 < 2 ^ 31 by omega), S.c1 i1 (4 * k + 2), k1, k2, if_true, if_false, true_or, or_true, false_or, or_false, true_and, and_true, false_and, and_false, not_true_eq_false, not_false_eq_true, iff_self, ite_self, ne_eq, true_implies, implies_true, Bool.false_eq_true, decide_true, decide_false, Bool.or_true, Bool.or_false, Bool.true_or, Bool.false_or]
  exact hp h2 (S.next i1 i2 R2 (X_st k1 (by decide) rfl) (X_st k2 (by decide) rfl))
theorem w_stuff (S : LwS h N Z) (hN : N ≤ 256) (hk : 4 * k + 4 ≤ N) (hp : ∀ h2, LwS h2 N Z → X 181 787 (lL k) [] h2 Q) : X 181 330 (lL k) [] h Q := by
  obtain ⟨v, h1, h2, R2, k1, k2⟩ := a_stuff (x := hI h 1 (4 * k + 1)) S.1
  have i1 := X_inv k1
  have i2 := X_inv k2
  simp only [lL, x181_330, x181_331, x181_332, x181_333, x181_334, x181_335, x181_336, x181_339, x181_340, x181_341, x181_342, x181_343, x181_344, x181_345, x181_348, x181_351, x181_352, pv_some, pv_none, c1_int, c1_ref, c1_null, true_and, and_true, ne_eq, not_false_eq_true, not_true_eq_false, if_true, if_false, reduceCtorEq, Option.some.injEq, Value.int.injEq, absI_fold, minI_fold, maxI_fold, b_s S.1.g, S.2.1, S.s1 i1, S.s44 i1, show nI (4 * k) + 1 = nI (4 * k + 1) from nI_addn _ 1, ib4 (show 4 * k + 1 < N by omega) (show N < 2 ^ 31 by omega), nI_cl (show 4 * k + 1 < 2 ^ 31 by omega), S.c1 i1 (4 * k + 1), k1, k2, if_true, if_false, true_or, or_true, false_or, or_false, true_and, and_true, false_and, and_false, not_true_eq_false, not_false_eq_true, iff_self, ite_self, ne_eq, true_implies, implies_true, Bool.false_eq_true, decide_true, decide_false, Bool.or_true, Bool.or_false, Bool.true_or, Bool.false_or]
  exact hp h2 (S.next i1 i2 R2 (X_st k1 (by decide) rfl) (X_st k2 (by decide) rfl))
theorem w_hour (S : LwS h N Z) (hN : N ≤ 256) (hk : 4 * k + 4 ≤ N) (hp : ∀ h2, LwS h2 N Z → X 181 787 (lL k) [] h2 Q) : X 181 353 (lL k) [] h Q := by
  obtain ⟨v, h1, h2, R2, k1, k2⟩ := a_hour  S.1
  have i1 := X_inv k1
  have i2 := X_inv k2
  simp only [lL, x181_353, x181_354, x181_357, x181_358, x181_361, x181_364, x181_365, pv_some, pv_none, c1_int, c1_ref, c1_null, true_and, and_true, ne_eq, not_false_eq_true, not_true_eq_false, if_true, if_false, reduceCtorEq, Option.some.injEq, Value.int.injEq, absI_fold, minI_fold, maxI_fold, b_s S.1.g, S.2.1, S.s1 i1, S.s44 i1, k1, k2, if_true, if_false, true_or, or_true, false_or, or_false, true_and, and_true, false_and, and_false, not_true_eq_false, not_false_eq_true, iff_self, ite_self, ne_eq, true_implies, implies_true, Bool.false_eq_true, decide_true, decide_false, Bool.or_true, Bool.or_false, Bool.true_or, Bool.false_or]
  exact hp h2 (S.next i1 i2 R2 (X_st k1 (by decide) rfl) (X_st k2 (by decide) rfl))
theorem w_undo (S : LwS h N Z) (hN : N ≤ 256) (hk : 4 * k + 4 ≤ N) (hp : ∀ h2, LwS h2 N Z → X 181 787 (lL k) [] h2 Q) : X 181 366 (lL k) [] h Q := by
  obtain ⟨v, h1, h2, R2, k1, k2⟩ := a_undo  S.1
  have i1 := X_inv k1
  have i2 := X_inv k2
  simp only [lL, x181_366, x181_367, x181_370, x181_371, x181_374, x181_377, x181_378, pv_some, pv_none, c1_int, c1_ref, c1_null, true_and, and_true, ne_eq, not_false_eq_true, not_true_eq_false, if_true, if_false, reduceCtorEq, Option.some.injEq, Value.int.injEq, absI_fold, minI_fold, maxI_fold, b_s S.1.g, S.2.1, S.s1 i1, S.s44 i1, k1, k2, if_true, if_false, true_or, or_true, false_or, or_false, true_and, and_true, false_and, and_false, not_true_eq_false, not_false_eq_true, iff_self, ite_self, ne_eq, true_implies, implies_true, Bool.false_eq_true, decide_true, decide_false, Bool.or_true, Bool.or_false, Bool.true_or, Bool.false_or]
  exact hp h2 (S.next i1 i2 R2 (X_st k1 (by decide) rfl) (X_st k2 (by decide) rfl))
theorem w_law (S : LwS h N Z) (hN : N ≤ 256) (hk : 4 * k + 4 ≤ N) (hp : ∀ h2, LwS h2 N Z → X 181 787 (lL k) [] h2 Q) : X 181 379 (lL k) [] h Q := by
  obtain ⟨v, h1, h2, R2, k1, k2⟩ := a_law (x := hI h 1 (4 * k + 1)) S.1
  have i1 := X_inv k1
  have i2 := X_inv k2
  simp only [lL, x181_379, x181_380, x181_381, x181_382, x181_383, x181_384, x181_385, x181_388, x181_389, x181_390, x181_391, x181_392, x181_393, x181_394, x181_397, x181_400, x181_401, pv_some, pv_none, c1_int, c1_ref, c1_null, true_and, and_true, ne_eq, not_false_eq_true, not_true_eq_false, if_true, if_false, reduceCtorEq, Option.some.injEq, Value.int.injEq, absI_fold, minI_fold, maxI_fold, b_s S.1.g, S.2.1, S.s1 i1, S.s44 i1, show nI (4 * k) + 1 = nI (4 * k + 1) from nI_addn _ 1, ib4 (show 4 * k + 1 < N by omega) (show N < 2 ^ 31 by omega), nI_cl (show 4 * k + 1 < 2 ^ 31 by omega), S.c1 i1 (4 * k + 1), k1, k2, if_true, if_false, true_or, or_true, false_or, or_false, true_and, and_true, false_and, and_false, not_true_eq_false, not_false_eq_true, iff_self, ite_self, ne_eq, true_implies, implies_true, Bool.false_eq_true, decide_true, decide_false, Bool.or_true, Bool.or_false, Bool.true_or, Bool.false_or]
  exact hp h2 (S.next i1 i2 R2 (X_st k1 (by decide) rfl) (X_st k2 (by decide) rfl))
theorem w_moves (S : LwS h N Z) (hN : N ≤ 256) (hk : 4 * k + 4 ≤ N) (hp : ∀ h2, LwS h2 N Z → X 181 787 (lL k) [] h2 Q) : X 181 402 (lL k) [] h Q := by
  obtain ⟨v, h1, h2, R2, k1, k2⟩ := a_moves (x := hI h 1 (4 * k + 1)) S.1
  have i1 := X_inv k1
  have i2 := X_inv k2
  simp only [lL, x181_402, x181_403, x181_404, x181_405, x181_406, x181_407, x181_408, x181_411, x181_412, x181_413, x181_414, x181_415, x181_416, x181_417, x181_420, x181_423, x181_424, pv_some, pv_none, c1_int, c1_ref, c1_null, true_and, and_true, ne_eq, not_false_eq_true, not_true_eq_false, if_true, if_false, reduceCtorEq, Option.some.injEq, Value.int.injEq, absI_fold, minI_fold, maxI_fold, b_s S.1.g, S.2.1, S.s1 i1, S.s44 i1, show nI (4 * k) + 1 = nI (4 * k + 1) from nI_addn _ 1, ib4 (show 4 * k + 1 < N by omega) (show N < 2 ^ 31 by omega), nI_cl (show 4 * k + 1 < 2 ^ 31 by omega), S.c1 i1 (4 * k + 1), k1, k2, if_true, if_false, true_or, or_true, false_or, or_false, true_and, and_true, false_and, and_false, not_true_eq_false, not_false_eq_true, iff_self, ite_self, ne_eq, true_implies, implies_true, Bool.false_eq_true, decide_true, decide_false, Bool.or_true, Bool.or_false, Bool.true_or, Bool.false_or]
  exact hp h2 (S.next i1 i2 R2 (X_st k1 (by decide) rfl) (X_st k2 (by decide) rfl))
theorem w_best (S : LwS h N Z) (hN : N ≤ 256) (hk : 4 * k + 4 ≤ N) (hp : ∀ h2, LwS h2 N Z → X 181 787 (lL k) [] h2 Q) : X 181 425 (lL k) [] h Q := by
  obtain ⟨v, h1, h2, R2, k1, k2⟩ := a_best (hr := hI h 1 (4 * k + 1)) (x := hI h 1 (4 * k + 2)) S.1
  have i1 := X_inv k1
  have i2 := X_inv k2
  simp only [lL, x181_425, x181_426, x181_427, x181_428, x181_429, x181_430, x181_431, x181_432, x181_433, x181_434, x181_435, x181_436, x181_439, x181_440, x181_441, x181_442, x181_443, x181_444, x181_445, x181_446, x181_447, x181_448, x181_449, x181_450, x181_453, x181_456, x181_457, pv_some, pv_none, c1_int, c1_ref, c1_null, true_and, and_true, ne_eq, not_false_eq_true, not_true_eq_false, if_true, if_false, reduceCtorEq, Option.some.injEq, Value.int.injEq, absI_fold, minI_fold, maxI_fold, b_s S.1.g, S.2.1, S.s1 i1, S.s44 i1, show nI (4 * k) + 1 = nI (4 * k + 1) from nI_addn _ 1, ib4 (show 4 * k + 1 < N by omega) (show N < 2 ^ 31 by omega), nI_cl (show 4 * k + 1 < 2 ^ 31 by omega), S.c1 i1 (4 * k + 1), show nI (4 * k) + 2 = nI (4 * k + 2) from nI_addn _ 2, ib4 (show 4 * k + 2 < N by omega) (show N < 2 ^ 31 by omega), nI_cl (show 4 * k + 2 < 2 ^ 31 by omega), S.c1 i1 (4 * k + 2), k1, k2, if_true, if_false, true_or, or_true, false_or, or_false, true_and, and_true, false_and, and_false, not_true_eq_false, not_false_eq_true, iff_self, ite_self, ne_eq, true_implies, implies_true, Bool.false_eq_true, decide_true, decide_false, Bool.or_true, Bool.or_false, Bool.true_or, Bool.false_or]
  exact hp h2 (S.next i1 i2 R2 (X_st k1 (by decide) rfl) (X_st k2 (by decide) rfl))
theorem w_wallTo (S : LwS h N Z) (hN : N ≤ 256) (hk : 4 * k + 4 ≤ N) (hp : ∀ h2, LwS h2 N Z → X 181 787 (lL k) [] h2 Q) : X 181 458 (lL k) [] h Q := by
  obtain ⟨v, h1, h2, R2, k1, k2⟩ := a_wallTo (x := hI h 1 (4 * k + 1)) S.1
  have i1 := X_inv k1
  have i2 := X_inv k2
  simp only [lL, x181_458, x181_459, x181_460, x181_461, x181_462, x181_463, x181_464, x181_467, x181_468, x181_469, x181_470, x181_471, x181_472, x181_473, x181_476, x181_479, x181_480, pv_some, pv_none, c1_int, c1_ref, c1_null, true_and, and_true, ne_eq, not_false_eq_true, not_true_eq_false, if_true, if_false, reduceCtorEq, Option.some.injEq, Value.int.injEq, absI_fold, minI_fold, maxI_fold, b_s S.1.g, S.2.1, S.s1 i1, S.s44 i1, show nI (4 * k) + 1 = nI (4 * k + 1) from nI_addn _ 1, ib4 (show 4 * k + 1 < N by omega) (show N < 2 ^ 31 by omega), nI_cl (show 4 * k + 1 < 2 ^ 31 by omega), S.c1 i1 (4 * k + 1), k1, k2, if_true, if_false, true_or, or_true, false_or, or_false, true_and, and_true, false_and, and_false, not_true_eq_false, not_false_eq_true, iff_self, ite_self, ne_eq, true_implies, implies_true, Bool.false_eq_true, decide_true, decide_false, Bool.or_true, Bool.or_false, Bool.true_or, Bool.false_or]
  exact hp h2 (S.next i1 i2 R2 (X_st k1 (by decide) rfl) (X_st k2 (by decide) rfl))
theorem w_within (S : LwS h N Z) (hN : N ≤ 256) (hk : 4 * k + 4 ≤ N) (hp : ∀ h2, LwS h2 N Z → X 181 787 (lL k) [] h2 Q) : X 181 481 (lL k) [] h Q := by
  obtain ⟨v, h1, h2, R2, k1, k2⟩ := a_within (d := hI h 1 (4 * k + 1)) (x := hI h 1 (4 * k + 2)) S.1
  have i1 := X_inv k1
  have i2 := X_inv k2
  simp only [lL, x181_481, x181_482, x181_483, x181_484, x181_485, x181_486, x181_487, x181_488, x181_489, x181_490, x181_491, x181_492, x181_495, x181_496, x181_497, x181_498, x181_499, x181_500, x181_501, x181_502, x181_503, x181_504, x181_505, x181_506, x181_509, x181_512, x181_513, pv_some, pv_none, c1_int, c1_ref, c1_null, true_and, and_true, ne_eq, not_false_eq_true, not_true_eq_false, if_true, if_false, reduceCtorEq, Option.some.injEq, Value.int.injEq, absI_fold, minI_fold, maxI_fold, b_s S.1.g, S.2.1, S.s1 i1, S.s44 i1, show nI (4 * k) + 1 = nI (4 * k + 1) from nI_addn _ 1, ib4 (show 4 * k + 1 < N by omega) (show N < 2 ^ 31 by omega), nI_cl (show 4 * k + 1 < 2 ^ 31 by omega), S.c1 i1 (4 * k + 1), show nI (4 * k) + 2 = nI (4 * k + 2) from nI_addn _ 2, ib4 (show 4 * k + 2 < N by omega) (show N < 2 ^ 31 by omega), nI_cl (show 4 * k + 2 < 2 ^ 31 by omega), S.c1 i1 (4 * k + 2), k1, k2, if_true, if_false, true_or, or_true, false_or, or_false, true_and, and_true, false_and, and_false, not_true_eq_false, not_false_eq_true, iff_self, ite_self, ne_eq, true_implies, implies_true, Bool.false_eq_true, decide_true, decide_false, Bool.or_true, Bool.or_false, Bool.true_or, Bool.false_or]
  exact hp h2 (S.next i1 i2 R2 (X_st k1 (by decide) rfl) (X_st k2 (by decide) rfl))
theorem w_night (S : LwS h N Z) (hN : N ≤ 256) (hk : 4 * k + 4 ≤ N) (hp : ∀ h2, LwS h2 N Z → X 181 787 (lL k) [] h2 Q) : X 181 514 (lL k) [] h Q := by
  obtain ⟨v, h1, h2, R2, k1, k2⟩ := a_night (x := hI h 1 (4 * k + 1)) S.1
  have i1 := X_inv k1
  have i2 := X_inv k2
  simp only [lL, x181_514, x181_515, x181_516, x181_517, x181_518, x181_519, x181_520, x181_523, x181_524, x181_525, x181_526, x181_527, x181_528, x181_529, x181_532, x181_535, x181_536, pv_some, pv_none, c1_int, c1_ref, c1_null, true_and, and_true, ne_eq, not_false_eq_true, not_true_eq_false, if_true, if_false, reduceCtorEq, Option.some.injEq, Value.int.injEq, absI_fold, minI_fold, maxI_fold, b_s S.1.g, S.2.1, S.s1 i1, S.s44 i1, show nI (4 * k) + 1 = nI (4 * k + 1) from nI_addn _ 1, ib4 (show 4 * k + 1 < N by omega) (show N < 2 ^ 31 by omega), nI_cl (show 4 * k + 1 < 2 ^ 31 by omega), S.c1 i1 (4 * k + 1), k1, k2, if_true, if_false, true_or, or_true, false_or, or_false, true_and, and_true, false_and, and_false, not_true_eq_false, not_false_eq_true, iff_self, ite_self, ne_eq, true_implies, implies_true, Bool.false_eq_true, decide_true, decide_false, Bool.or_true, Bool.or_false, Bool.true_or, Bool.false_or]
  exact hp h2 (S.next i1 i2 R2 (X_st k1 (by decide) rfl) (X_st k2 (by decide) rfl))
theorem w_heard (S : LwS h N Z) (hN : N ≤ 256) (hk : 4 * k + 4 ≤ N) (hp : ∀ h2, LwS h2 N Z → X 181 787 (lL k) [] h2 Q) : X 181 537 (lL k) [] h Q := by
  obtain ⟨v, h1, h2, R2, k1, k2⟩ := a_heard (v := hI h 1 (4 * k + 1)) (w := hI h 1 (4 * k + 2)) (u := hI h 1 (4 * k + 3)) S.1
  have i1 := X_inv k1
  have i2 := X_inv k2
  simp only [lL, x181_537, x181_538, x181_539, x181_540, x181_541, x181_542, x181_543, x181_544, x181_545, x181_546, x181_547, x181_548, x181_549, x181_550, x181_551, x181_552, x181_553, x181_556, x181_557, x181_558, x181_559, x181_560, x181_561, x181_562, x181_563, x181_564, x181_565, x181_566, x181_567, x181_568, x181_569, x181_570, x181_571, x181_572, x181_575, x181_578, x181_579, pv_some, pv_none, c1_int, c1_ref, c1_null, true_and, and_true, ne_eq, not_false_eq_true, not_true_eq_false, if_true, if_false, reduceCtorEq, Option.some.injEq, Value.int.injEq, absI_fold, minI_fold, maxI_fold, b_s S.1.g, S.2.1, S.s1 i1, S.s44 i1, show nI (4 * k) + 1 = nI (4 * k + 1) from nI_addn _ 1, ib4 (show 4 * k + 1 < N by omega) (show N < 2 ^ 31 by omega), nI_cl (show 4 * k + 1 < 2 ^ 31 by omega), S.c1 i1 (4 * k + 1), show nI (4 * k) + 2 = nI (4 * k + 2) from nI_addn _ 2, ib4 (show 4 * k + 2 < N by omega) (show N < 2 ^ 31 by omega), nI_cl (show 4 * k + 2 < 2 ^ 31 by omega), S.c1 i1 (4 * k + 2), show nI (4 * k) + 3 = nI (4 * k + 3) from nI_addn _ 3, ib4 (show 4 * k + 3 < N by omega) (show N < 2 ^ 31 by omega), nI_cl (show 4 * k + 3 < 2 ^ 31 by omega), S.c1 i1 (4 * k + 3), k1, k2, if_true, if_false, true_or, or_true, false_or, or_false, true_and, and_true, false_and, and_false, not_true_eq_false, not_false_eq_true, iff_self, ite_self, ne_eq, true_implies, implies_true, Bool.false_eq_true, decide_true, decide_false, Bool.or_true, Bool.or_false, Bool.true_or, Bool.false_or]
  exact hp h2 (S.next i1 i2 R2 (X_st k1 (by decide) rfl) (X_st k2 (by decide) rfl))
theorem w_forget (S : LwS h N Z) (hN : N ≤ 256) (hk : 4 * k + 4 ≤ N) (hp : ∀ h2, LwS h2 N Z → X 181 787 (lL k) [] h2 Q) : X 181 580 (lL k) [] h Q := by
  obtain ⟨v, h1, h2, R2, k1, k2⟩ := a_forget  S.1
  have i1 := X_inv k1
  have i2 := X_inv k2
  simp only [lL, x181_580, x181_581, x181_584, x181_585, x181_588, x181_591, x181_592, pv_some, pv_none, c1_int, c1_ref, c1_null, true_and, and_true, ne_eq, not_false_eq_true, not_true_eq_false, if_true, if_false, reduceCtorEq, Option.some.injEq, Value.int.injEq, absI_fold, minI_fold, maxI_fold, b_s S.1.g, S.2.1, S.s1 i1, S.s44 i1, k1, k2, if_true, if_false, true_or, or_true, false_or, or_false, true_and, and_true, false_and, and_false, not_true_eq_false, not_false_eq_true, iff_self, ite_self, ne_eq, true_implies, implies_true, Bool.false_eq_true, decide_true, decide_false, Bool.or_true, Bool.or_false, Bool.true_or, Bool.false_or]
  exact hp h2 (S.next i1 i2 R2 (X_st k1 (by decide) rfl) (X_st k2 (by decide) rfl))
theorem w_feigned (S : LwS h N Z) (hN : N ≤ 256) (hk : 4 * k + 4 ≤ N) (hp : ∀ h2, LwS h2 N Z → X 181 787 (lL k) [] h2 Q) : X 181 593 (lL k) [] h Q := by
  obtain ⟨v, h1, h2, R2, k1, k2⟩ := a_feigned  S.1
  have i1 := X_inv k1
  have i2 := X_inv k2
  simp only [lL, x181_593, x181_594, x181_597, x181_598, x181_601, x181_604, x181_605, pv_some, pv_none, c1_int, c1_ref, c1_null, true_and, and_true, ne_eq, not_false_eq_true, not_true_eq_false, if_true, if_false, reduceCtorEq, Option.some.injEq, Value.int.injEq, absI_fold, minI_fold, maxI_fold, b_s S.1.g, S.2.1, S.s1 i1, S.s44 i1, k1, k2, if_true, if_false, true_or, or_true, false_or, or_false, true_and, and_true, false_and, and_false, not_true_eq_false, not_false_eq_true, iff_self, ite_self, ne_eq, true_implies, implies_true, Bool.false_eq_true, decide_true, decide_false, Bool.or_true, Bool.or_false, Bool.true_or, Bool.false_or]
  exact hp h2 (S.next i1 i2 R2 (X_st k1 (by decide) rfl) (X_st k2 (by decide) rfl))
theorem w_hums (S : LwS h N Z) (hN : N ≤ 256) (hk : 4 * k + 4 ≤ N) (hp : ∀ h2, LwS h2 N Z → X 181 787 (lL k) [] h2 Q) : X 181 606 (lL k) [] h Q := by
  obtain ⟨v, h1, h2, R2, k1, k2⟩ := a_hums (x := hI h 1 (4 * k + 1)) S.1
  have i1 := X_inv k1
  have i2 := X_inv k2
  simp only [lL, x181_606, x181_607, x181_608, x181_609, x181_610, x181_611, x181_612, x181_615, x181_616, x181_617, x181_618, x181_619, x181_620, x181_621, x181_624, x181_627, x181_628, pv_some, pv_none, c1_int, c1_ref, c1_null, true_and, and_true, ne_eq, not_false_eq_true, not_true_eq_false, if_true, if_false, reduceCtorEq, Option.some.injEq, Value.int.injEq, absI_fold, minI_fold, maxI_fold, b_s S.1.g, S.2.1, S.s1 i1, S.s44 i1, show nI (4 * k) + 1 = nI (4 * k + 1) from nI_addn _ 1, ib4 (show 4 * k + 1 < N by omega) (show N < 2 ^ 31 by omega), nI_cl (show 4 * k + 1 < 2 ^ 31 by omega), S.c1 i1 (4 * k + 1), k1, k2, if_true, if_false, true_or, or_true, false_or, or_false, true_and, and_true, false_and, and_false, not_true_eq_false, not_false_eq_true, iff_self, ite_self, ne_eq, true_implies, implies_true, Bool.false_eq_true, decide_true, decide_false, Bool.or_true, Bool.or_false, Bool.true_or, Bool.false_or]
  exact hp h2 (S.next i1 i2 R2 (X_st k1 (by decide) rfl) (X_st k2 (by decide) rfl))
theorem w_odds (S : LwS h N Z) (hN : N ≤ 256) (hk : 4 * k + 4 ≤ N) (hp : ∀ h2, LwS h2 N Z → X 181 787 (lL k) [] h2 Q) : X 181 629 (lL k) [] h Q := by
  obtain ⟨v, h1, h2, R2, k1, k2⟩ := a_odds (x := hI h 1 (4 * k + 1)) (y := hI h 1 (4 * k + 2)) (z := hI h 1 (4 * k + 3)) S.1
  have i1 := X_inv k1
  have i2 := X_inv k2
  simp only [lL, x181_629, x181_630, x181_631, x181_632, x181_633, x181_634, x181_635, x181_636, x181_637, x181_638, x181_639, x181_640, x181_641, x181_642, x181_643, x181_644, x181_645, x181_648, x181_649, x181_650, x181_651, x181_652, x181_653, x181_654, x181_655, x181_656, x181_657, x181_658, x181_659, x181_660, x181_661, x181_662, x181_663, x181_664, x181_667, x181_670, x181_671, pv_some, pv_none, c1_int, c1_ref, c1_null, true_and, and_true, ne_eq, not_false_eq_true, not_true_eq_false, if_true, if_false, reduceCtorEq, Option.some.injEq, Value.int.injEq, absI_fold, minI_fold, maxI_fold, b_s S.1.g, S.2.1, S.s1 i1, S.s44 i1, show nI (4 * k) + 1 = nI (4 * k + 1) from nI_addn _ 1, ib4 (show 4 * k + 1 < N by omega) (show N < 2 ^ 31 by omega), nI_cl (show 4 * k + 1 < 2 ^ 31 by omega), S.c1 i1 (4 * k + 1), show nI (4 * k) + 2 = nI (4 * k + 2) from nI_addn _ 2, ib4 (show 4 * k + 2 < N by omega) (show N < 2 ^ 31 by omega), nI_cl (show 4 * k + 2 < 2 ^ 31 by omega), S.c1 i1 (4 * k + 2), show nI (4 * k) + 3 = nI (4 * k + 3) from nI_addn _ 3, ib4 (show 4 * k + 3 < N by omega) (show N < 2 ^ 31 by omega), nI_cl (show 4 * k + 3 < 2 ^ 31 by omega), S.c1 i1 (4 * k + 3), k1, k2, if_true, if_false, true_or, or_true, false_or, or_false, true_and, and_true, false_and, and_false, not_true_eq_false, not_false_eq_true, iff_self, ite_self, ne_eq, true_implies, implies_true, Bool.false_eq_true, decide_true, decide_false, Bool.or_true, Bool.or_false, Bool.true_or, Bool.false_or]
  exact hp h2 (S.next i1 i2 R2 (X_st k1 (by decide) rfl) (X_st k2 (by decide) rfl))
theorem w_steps (S : LwS h N Z) (hN : N ≤ 256) (hk : 4 * k + 4 ≤ N) (hp : ∀ h2, LwS h2 N Z → X 181 787 (lL k) [] h2 Q) : X 181 672 (lL k) [] h Q := by
  obtain ⟨v, h1, h2, R2, k1, k2⟩ := a_steps (x := hI h 1 (4 * k + 1)) S.1
  have i1 := X_inv k1
  have i2 := X_inv k2
  simp only [lL, x181_672, x181_673, x181_674, x181_675, x181_676, x181_677, x181_678, x181_681, x181_682, x181_683, x181_684, x181_685, x181_686, x181_687, x181_690, x181_693, x181_694, pv_some, pv_none, c1_int, c1_ref, c1_null, true_and, and_true, ne_eq, not_false_eq_true, not_true_eq_false, if_true, if_false, reduceCtorEq, Option.some.injEq, Value.int.injEq, absI_fold, minI_fold, maxI_fold, b_s S.1.g, S.2.1, S.s1 i1, S.s44 i1, show nI (4 * k) + 1 = nI (4 * k + 1) from nI_addn _ 1, ib4 (show 4 * k + 1 < N by omega) (show N < 2 ^ 31 by omega), nI_cl (show 4 * k + 1 < 2 ^ 31 by omega), S.c1 i1 (4 * k + 1), k1, k2, if_true, if_false, true_or, or_true, false_or, or_false, true_and, and_true, false_and, and_false, not_true_eq_false, not_false_eq_true, iff_self, ite_self, ne_eq, true_implies, implies_true, Bool.false_eq_true, decide_true, decide_false, Bool.or_true, Bool.or_false, Bool.true_or, Bool.false_or]
  exact hp h2 (S.next i1 i2 R2 (X_st k1 (by decide) rfl) (X_st k2 (by decide) rfl))
theorem w_day (S : LwS h N Z) (hN : N ≤ 256) (hk : 4 * k + 4 ≤ N) (hp : ∀ h2, LwS h2 N Z → X 181 787 (lL k) [] h2 Q) : X 181 695 (lL k) [] h Q := by
  obtain ⟨v, h1, h2, R2, k1, k2⟩ := a_day (v := hI h 1 (4 * k + 1)) (w := hI h 1 (4 * k + 2)) (u := hI h 1 (4 * k + 3)) S.1
  have i1 := X_inv k1
  have i2 := X_inv k2
  simp only [lL, x181_695, x181_696, x181_697, x181_698, x181_699, x181_700, x181_701, x181_702, x181_703, x181_704, x181_705, x181_706, x181_707, x181_708, x181_709, x181_710, x181_711, x181_714, x181_715, x181_716, x181_717, x181_718, x181_719, x181_720, x181_721, x181_722, x181_723, x181_724, x181_725, x181_726, x181_727, x181_728, x181_729, x181_730, x181_733, x181_736, x181_737, pv_some, pv_none, c1_int, c1_ref, c1_null, true_and, and_true, ne_eq, not_false_eq_true, not_true_eq_false, if_true, if_false, reduceCtorEq, Option.some.injEq, Value.int.injEq, absI_fold, minI_fold, maxI_fold, b_s S.1.g, S.2.1, S.s1 i1, S.s44 i1, show nI (4 * k) + 1 = nI (4 * k + 1) from nI_addn _ 1, ib4 (show 4 * k + 1 < N by omega) (show N < 2 ^ 31 by omega), nI_cl (show 4 * k + 1 < 2 ^ 31 by omega), S.c1 i1 (4 * k + 1), show nI (4 * k) + 2 = nI (4 * k + 2) from nI_addn _ 2, ib4 (show 4 * k + 2 < N by omega) (show N < 2 ^ 31 by omega), nI_cl (show 4 * k + 2 < 2 ^ 31 by omega), S.c1 i1 (4 * k + 2), show nI (4 * k) + 3 = nI (4 * k + 3) from nI_addn _ 3, ib4 (show 4 * k + 3 < N by omega) (show N < 2 ^ 31 by omega), nI_cl (show 4 * k + 3 < 2 ^ 31 by omega), S.c1 i1 (4 * k + 3), k1, k2, if_true, if_false, true_or, or_true, false_or, or_false, true_and, and_true, false_and, and_false, not_true_eq_false, not_false_eq_true, iff_self, ite_self, ne_eq, true_implies, implies_true, Bool.false_eq_true, decide_true, decide_false, Bool.or_true, Bool.or_false, Bool.true_or, Bool.false_or]
  exact hp h2 (S.next i1 i2 R2 (X_st k1 (by decide) rfl) (X_st k2 (by decide) rfl))
theorem w_keep (S : LwS h N Z) (hN : N ≤ 256) (hk : 4 * k + 4 ≤ N) (hp : ∀ h2, LwS h2 N Z → X 181 787 (lL k) [] h2 Q) : X 181 738 (lL k) [] h Q := by
  obtain ⟨v, h1, h2, R2, k1, k2⟩ := a_keep  S.1
  have i1 := X_inv k1
  have i2 := X_inv k2
  simp only [lL, x181_738, x181_739, x181_742, x181_743, x181_746, x181_749, x181_750, pv_some, pv_none, c1_int, c1_ref, c1_null, true_and, and_true, ne_eq, not_false_eq_true, not_true_eq_false, if_true, if_false, reduceCtorEq, Option.some.injEq, Value.int.injEq, absI_fold, minI_fold, maxI_fold, b_s S.1.g, S.2.1, S.s1 i1, S.s44 i1, k1, k2, if_true, if_false, true_or, or_true, false_or, or_false, true_and, and_true, false_and, and_false, not_true_eq_false, not_false_eq_true, iff_self, ite_self, ne_eq, true_implies, implies_true, Bool.false_eq_true, decide_true, decide_false, Bool.or_true, Bool.or_false, Bool.true_or, Bool.false_or]
  exact hp h2 (S.next i1 i2 R2 (X_st k1 (by decide) rfl) (X_st k2 (by decide) rfl))
theorem w_back (S : LwS h N Z) (hN : N ≤ 256) (hk : 4 * k + 4 ≤ N) (hp : ∀ h2, LwS h2 N Z → X 181 787 (lL k) [] h2 Q) : X 181 751 (lL k) [] h Q := by
  obtain ⟨v, h1, h2, R2, k1, k2⟩ := a_back  S.1
  have i1 := X_inv k1
  have i2 := X_inv k2
  simp only [lL, x181_751, x181_752, x181_755, x181_756, x181_759, x181_762, x181_763, pv_some, pv_none, c1_int, c1_ref, c1_null, true_and, and_true, ne_eq, not_false_eq_true, not_true_eq_false, if_true, if_false, reduceCtorEq, Option.some.injEq, Value.int.injEq, absI_fold, minI_fold, maxI_fold, b_s S.1.g, S.2.1, S.s1 i1, S.s44 i1, k1, k2, if_true, if_false, true_or, or_true, false_or, or_false, true_and, and_true, false_and, and_false, not_true_eq_false, not_false_eq_true, iff_self, ite_self, ne_eq, true_implies, implies_true, Bool.false_eq_true, decide_true, decide_false, Bool.or_true, Bool.or_false, Bool.true_or, Bool.false_or]
  exact hp h2 (S.next i1 i2 R2 (X_st k1 (by decide) rfl) (X_st k2 (by decide) rfl))
theorem w_count (S : LwS h N Z) (hN : N ≤ 256) (hk : 4 * k + 4 ≤ N) (hp : ∀ h2, LwS h2 N Z → X 181 787 (lL k) [] h2 Q) : X 181 764 (lL k) [] h Q := by
  obtain ⟨v, h1, h2, R2, k1, k2⟩ := a_count (x := hI h 1 (4 * k + 1)) S.1
  have i1 := X_inv k1
  have i2 := X_inv k2
  simp only [lL, x181_764, x181_765, x181_766, x181_767, x181_768, x181_769, x181_770, x181_773, x181_774, x181_775, x181_776, x181_777, x181_778, x181_779, x181_782, x181_785, x181_786, pv_some, pv_none, c1_int, c1_ref, c1_null, true_and, and_true, ne_eq, not_false_eq_true, not_true_eq_false, if_true, if_false, reduceCtorEq, Option.some.injEq, Value.int.injEq, absI_fold, minI_fold, maxI_fold, b_s S.1.g, S.2.1, S.s1 i1, S.s44 i1, show nI (4 * k) + 1 = nI (4 * k + 1) from nI_addn _ 1, ib4 (show 4 * k + 1 < N by omega) (show N < 2 ^ 31 by omega), nI_cl (show 4 * k + 1 < 2 ^ 31 by omega), S.c1 i1 (4 * k + 1), k1, k2, if_true, if_false, true_or, or_true, false_or, or_false, true_and, and_true, false_and, and_false, not_true_eq_false, not_false_eq_true, iff_self, ite_self, ne_eq, true_implies, implies_true, Bool.false_eq_true, decide_true, decide_false, Bool.or_true, Bool.or_false, Bool.true_or, Bool.false_or]
  exact hp h2 (S.next i1 i2 R2 (X_st k1 (by decide) rfl) (X_st k2 (by decide) rfl))
theorem law_end : ∀ N, N ≤ 256 → ∀ k, 4 * k ≤ N → N < 4 * k + 4 → nI N - 4 < nI (4 * k) := by
  intro N hN k h1 h2
  by_cases c : 4 ≤ N
  · rw [show (4 : Int32) = nI 4 from rfl, nI_sub c]
    exact nI_lt (by omega) (by omega)
  · have k0 : k = 0 := by omega
    subst k0
    have : N = 0 ∨ N = 1 ∨ N = 2 ∨ N = 3 := by omega
    rcases this with rfl | rfl | rfl | rfl <;> decide
theorem law_go (hN : N ≤ 256) (hk : 4 * k + 4 ≤ N) : ¬ nI N - 4 < nI (4 * k) := by
  rw [show (4 : Int32) = nI 4 from rfl, nI_sub (show 4 ≤ N by omega), nI_lt_iff (by omega) (by omega)]
  omega
theorem law_step (S : LwS h N Z) (hN : N ≤ 256) (hk : 4 * k + 4 ≤ N) (hp : ∀ h2, LwS h2 N Z → X 181 787 (lL k) [] h2 Q) : X 181 18 (lL k) [] h Q := by
  have e0 : (4 = 2 ∨ 4 = 3 ∨ 4 = 4) := Or.inr (Or.inr rfl)
  simp only [lL, x181_18, x181_19, x181_20, x181_21, x181_22, x181_23, x181_26, x181_27, x181_28, x181_29, x181_31, pv_some, pv_none, c1_int, c1_ref, c1_null, true_and, and_true, ne_eq, not_false_eq_true, not_true_eq_false, if_true, if_false, reduceCtorEq, Option.some.injEq, Value.int.injEq, absI_fold, minI_fold, maxI_fold, S.2.1, ofNat_nI, e0, law_go hN hk, ib4 (show 4 * k < N by omega) (show N < 2 ^ 31 by omega), nI_cl (show 4 * k < 2 ^ 31 by omega), if_true, if_false, true_or, or_true, false_or, or_false, true_and, and_true, false_and, and_false, not_true_eq_false, not_false_eq_true, iff_self, ite_self, ne_eq, true_implies, implies_true, Bool.false_eq_true, decide_true, decide_false, Bool.or_true, Bool.or_false, Bool.true_or, Bool.false_or]
  generalize hI h 1 (4 * k) &&& 31 = y
  rw [x181_32]
  by_cases c0 : y = 0
  · rw [if_pos c0]
    exact w_write S hN hk hp
  rw [if_neg c0]
  by_cases c1 : y = 1
  · rw [if_pos c1]
    exact w_wipe S hN hk hp
  rw [if_neg c1]
  by_cases c2 : y = 2
  · rw [if_pos c2]
    exact w_fault S hN hk hp
  rw [if_neg c2]
  by_cases c3 : y = 3
  · rw [if_pos c3]
    exact w_lay S hN hk hp
  rw [if_neg c3]
  by_cases c4 : y = 4
  · rw [if_pos c4]
    exact w_guest S hN hk hp
  rw [if_neg c4]
  by_cases c5 : y = 5
  · rw [if_pos c5]
    exact w_bed S hN hk hp
  rw [if_neg c5]
  by_cases c6 : y = 6
  · rw [if_pos c6]
    exact w_wall S hN hk hp
  rw [if_neg c6]
  by_cases c7 : y = 7
  · rw [if_pos c7]
    exact w_carry S hN hk hp
  rw [if_neg c7]
  by_cases c8 : y = 8
  · rw [if_pos c8]
    exact w_stuff S hN hk hp
  rw [if_neg c8]
  by_cases c9 : y = 9
  · rw [if_pos c9]
    exact w_hour S hN hk hp
  rw [if_neg c9]
  by_cases c10 : y = 10
  · rw [if_pos c10]
    exact w_undo S hN hk hp
  rw [if_neg c10]
  by_cases c11 : y = 11
  · rw [if_pos c11]
    exact w_law S hN hk hp
  rw [if_neg c11]
  by_cases c12 : y = 12
  · rw [if_pos c12]
    exact w_moves S hN hk hp
  rw [if_neg c12]
  by_cases c13 : y = 13
  · rw [if_pos c13]
    exact w_best S hN hk hp
  rw [if_neg c13]
  by_cases c14 : y = 14
  · rw [if_pos c14]
    exact w_wallTo S hN hk hp
  rw [if_neg c14]
  by_cases c15 : y = 15
  · rw [if_pos c15]
    exact w_within S hN hk hp
  rw [if_neg c15]
  by_cases c16 : y = 16
  · rw [if_pos c16]
    exact w_night S hN hk hp
  rw [if_neg c16]
  by_cases c17 : y = 17
  · rw [if_pos c17]
    exact w_heard S hN hk hp
  rw [if_neg c17]
  by_cases c18 : y = 18
  · rw [if_pos c18]
    exact w_forget S hN hk hp
  rw [if_neg c18]
  by_cases c19 : y = 19
  · rw [if_pos c19]
    exact w_feigned S hN hk hp
  rw [if_neg c19]
  by_cases c20 : y = 20
  · rw [if_pos c20]
    exact w_hums S hN hk hp
  rw [if_neg c20]
  by_cases c21 : y = 21
  · rw [if_pos c21]
    exact w_odds S hN hk hp
  rw [if_neg c21]
  by_cases c22 : y = 22
  · rw [if_pos c22]
    exact w_steps S hN hk hp
  rw [if_neg c22]
  by_cases c23 : y = 23
  · rw [if_pos c23]
    exact w_day S hN hk hp
  rw [if_neg c23]
  by_cases c24 : y = 24
  · rw [if_pos c24]
    exact w_keep S hN hk hp
  rw [if_neg c24]
  by_cases c25 : y = 25
  · rw [if_pos c25]
    exact w_back S hN hk hp
  rw [if_neg c25]
  by_cases c26 : y = 26
  · rw [if_pos c26]
    exact w_count S hN hk hp
  rw [if_neg c26]
  exact hp h S
theorem law_loop (hM : N ≤ 256) : ∀ m k, 4 * k ≤ N → N ≤ 4 * k + m → ∀ h, LwS h N Z → X 181 18 (lL k) [] h (fun r h' => r = some (.int 1) ∧ hN h' = 56 ∧ hZ h' = Z) := by
  intro m
  induction m using Nat.strongRecOn with
  | ind m ih =>
    intro k h1 h2 h S
    by_cases c : 4 * k + 4 ≤ N
    · refine law_step S hM c (fun h2' S2 => ?_)
      have := ih (m - 4) (by omega) (k + 1) (by omega) (by omega) h2' S2
      have e : nI (4 * k) + 4 = nI (4 * (k + 1)) := by
        rw [show (4 : Int32) = nI 4 from rfl, nI_addn]
        congr 1
      simp only [lL, x181_787, x181_790, pv_some, pv_none, c1_int, c1_ref, c1_null, true_and, and_true, ne_eq, not_false_eq_true, not_true_eq_false, if_true, if_false, reduceCtorEq, Option.some.injEq, Value.int.injEq, absI_fold, minI_fold, maxI_fold, e, if_true, if_false, true_or, or_true, false_or, or_false, true_and, and_true, false_and, and_false, not_true_eq_false, not_false_eq_true, iff_self, ite_self, ne_eq, true_implies, implies_true, Bool.false_eq_true, decide_true, decide_false, Bool.or_true, Bool.or_false, Bool.true_or, Bool.false_or]
      exact this
    · have e0 : (4 = 2 ∨ 4 = 3 ∨ 4 = 4) := Or.inr (Or.inr rfl)
      have le : (nI N - 4 < nI (4 * k)) = True := eq_true (law_end N hM k h1 (by omega))
      simp only [lL, x181_18, x181_19, x181_20, x181_21, x181_22, x181_23, x181_793, x181_794, pv_some, pv_none, c1_int, c1_ref, c1_null, true_and, and_true, ne_eq, not_false_eq_true, not_true_eq_false, if_true, if_false, reduceCtorEq, Option.some.injEq, Value.int.injEq, absI_fold, minI_fold, maxI_fold, S.2.1, ofNat_nI, e0, le, one_ne, S.2.2.1, S.2.2.2, if_true, if_false, true_or, or_true, false_or, or_false, true_and, and_true, false_and, and_false, not_true_eq_false, not_false_eq_true, iff_self, ite_self, ne_eq, true_implies, implies_true, Bool.false_eq_true, decide_true, decide_false, Bool.or_true, Bool.or_false, Bool.true_or, Bool.false_or]
end LAW
