/-! THE REFERENCE: a day tried -/
def h48 (h : aH) (f : Nat → Int32) : aH := wI h (fun a j => if a = 48 then f j else hI h a j)
/-- one try of a day -/
def tryS (D : Nat → Int32) (nb z k : Nat) (s : Nat → Int32) : Nat → Int32 := if lastF s (nI (dN z k / 8 % nb)) (gN D) = -4 then goS s (dN z k % gN D) (nI (dN z k / 8 % nb)) (bitF (bitsF (rousC (DA D 21) s (D 2) (s (dN z k % gN D)) (nI (dN z k / 8 % nb))) (gN D))) else s
def passS (s : Nat → Int32) : Nat → Int32 := fun j => if j = 6 then s 6 + (if s 6 < 7 then 1 else 0) else s j
def dayS (D : Nat → Int32) (nb z k : Nat) (s : Nat → Int32) : Nat → Int32 := if k % 4 = 3 then passS (tryS D nb z k s) else tryS D nb z k s
def dayR (D : Nat → Int32) (nb z : Nat) (s : Nat → Int32) (n : Nat) : Nat → Int32 := foldN (fun k s => dayS D nb z k s) s n
section MOD12
variable {h : aH} {D : Nat → Int32} {i j k z n nb : Nat} {Q : Option Value → aH → Prop} {x y b : Int32}
theorem h48_48 (h : aH) (f : Nat → Int32) : hI (h48 h f) 48 = f := by funext j; unfold h48; rw [hI_wI, if_pos rfl]
theorem h48_o (h : aH) (f : Nat → Int32) {a : Nat} (ha : a ≠ 48) : hI (h48 h f) a = hI h a := by funext j; unfold h48; rw [hI_wI, if_neg ha]
theorem MA.h48 (A : MA h D) (f : Nat → Int32) : MA (h48 h f) D := A.w _ (fun j => if_neg (by decide))
theorem h48_go (h : aH) (f f' : Nat → Int32) : wI (h48 h f) (fun a j => if a = 48 then f' j else hI (h48 h f) a j) = h48 h f' := by
  refine (aH_ext (by simp only [hN_sI, hN_cpI, hN_wI, h48]) (by simp only [hZ_sI, hZ_cpI, hZ_wI, h48]) (by simp only [hS_sI, hS_cpI, hS_wI, h48]) (by simp only [hR_sI, hR_cpI, hR_wI, h48]) (fun b j => ?_))
  unfold h48
  simp only [hI_wI]
  by_cases q : b = 48 <;> simp only [q, if_true, if_false, true_or, or_true, false_or, or_false, true_and, and_true, false_and, and_false, not_true_eq_false, not_false_eq_true, iff_self, ite_self, ne_eq, true_implies, implies_true, Bool.false_eq_true, decide_true, decide_false, Bool.or_true, Bool.or_false, Bool.true_or, Bool.false_or]
theorem h48_pass (h : aH) (f : Nat → Int32) : sI (h48 h f) 48 6 (f 6 + (if f 6 < 7 then 1 else 0)) = h48 h (passS f) := by
  refine (aH_ext (by simp only [hN_sI, hN_cpI, hN_wI, h48]) (by simp only [hZ_sI, hZ_cpI, hZ_wI, h48]) (by simp only [hS_sI, hS_cpI, hS_wI, h48]) (by simp only [hR_sI, hR_cpI, hR_wI, h48]) (fun b j => ?_))
  unfold h48 passS
  simp only [hI_sI, hI_wI]
  by_cases q : b = 48 <;> by_cases q2 : j = 6 <;> simp only [q, q2, if_true, if_false, true_or, or_true, false_or, or_false, true_and, and_true, false_and, and_false, not_true_eq_false, not_false_eq_true, iff_self, ite_self, ne_eq, true_implies, implies_true, Bool.false_eq_true, decide_true, decide_false, Bool.or_true, Bool.or_false, Bool.true_or, Bool.false_or]
theorem try_ge (s : Nat → Int32) (hG : 0 < gN D) (h5 : gN D ≤ 5) (hj : 10 ≤ j) : tryS D nb z k s j = s j := by
  have := Nat.mod_lt (dN z k) hG
  unfold tryS
  split
  · unfold goS
    rw [if_neg (by omega), if_neg (by omega), if_neg (by omega), if_neg (by omega)]
  · rfl
theorem dayS_ge (s : Nat → Int32) (hG : 0 < gN D) (h5 : gN D ≤ 5) (hj : 10 ≤ j) : dayS D nb z k s j = s j := by
  unfold dayS
  split
  · unfold passS
    rw [if_neg (by omega), try_ge _ hG h5 hj]
  · rw [try_ge _ hG h5 hj]
theorem dayR_ge (s : Nat → Int32) (hG : 0 < gN D) (h5 : gN D ≤ 5) (hj : 10 ≤ j) : ∀ n, dayR D nb z s n j = s j := by
  intro n
  induction n with
  | zero => rfl
  | succ n ih => exact (dayS_ge _ hG h5 hj).trans ih
def heH (h : aH) (k : Nat) : aH := wI h (fun b j => if b = 55 ∧ j < k then hI h 48 j else hI h b j)
theorem m_dayA (g : GM h) (hz : z < 10000) (hn : 1 ≤ n ∧ n ≤ 30) (hx : x = 0 ∨ x = 1) : X 175 0 [.ref 44, .int (nI z), .int (nI n), .int x, .null, .null, .null, .null, .null] [] h Q ↔ X 175 65 [.ref 44, .int (nI z), .int (nI n), .int x, .int 0, .null, .null, .null, .null] [] (heH h 10) Q := by
  have c1 : ¬ nI z < 0 ∧ ¬ 9999 < nI z := by
    rw [nI_neg (by omega), show (9999 : Int32) = nI 9999 from rfl, nI_lt_iff (by decide) (by omega)]
    exact ⟨id, by omega⟩
  have c2 : ¬ nI n < 1 ∧ ¬ 30 < nI n := by
    rw [show (1 : Int32) = nI 1 from rfl, show (30 : Int32) = nI 30 from rfl, nI_lt_iff (by omega) (by decide), nI_lt_iff (by decide) (by omega)]
    omega
  have c3 : ¬ x < 0 ∧ ¬ 1 < x := by rcases hx with rfl | rfl <;> decide
  have up : ∀ k, k ≤ 10 → (X 175 0 [.ref 44, .int (nI z), .int (nI n), .int x, .null, .null, .null, .null, .null] [] h Q ↔ X 175 35 [.ref 44, .int (nI z), .int (nI n), .int x, .int (nI k), .null, .null, .null, .null] [] (heH h k) Q) := by
    intro k
    induction k with
    | zero =>
      intro _
      simp only [x175_0, x175_1, x175_2, x175_5, x175_8, x175_11, x175_12, x175_13, x175_15, x175_18, x175_21, x175_22, x175_23, x175_24, x175_27, x175_30, x175_31, x175_32, x175_33, x175_37, x175_39, x175_42, x175_43, x175_46, x175_48, x175_49, x175_52, x175_54, x175_55, x175_56, x175_59, x175_62, x175_63, x175_67, x175_68, x175_71, x175_74, x175_75, x175_76, x175_77, x175_80, x175_82, x175_83, x175_84, x175_85, x175_86, x175_87, x175_89, x175_91, x175_93, x175_94, x175_97, x175_98, x175_99, x175_100, x175_101, x175_103, x175_105, x175_107, x175_108, x175_109, x175_112, x175_113, x175_114, x175_115, x175_117, x175_118, x175_120, x175_123, x175_125, x175_128, x175_129, x175_131, x175_132, x175_135, x175_136, x175_137, x175_138, x175_140, x175_143, x175_144, x175_146, x175_147, x175_148, x175_149, x175_152, x175_153, x175_156, x175_159, x175_162, x175_163, x175_166, x175_167, x175_170, x175_171, x175_174, x175_176, x175_177, x175_178, x175_181, x175_183, x175_184, x175_185, x175_188, x175_189, x175_192, x175_195, x175_197, x175_198, x175_202, x175_204, x175_207, x175_208, x175_211, x175_213, x175_214, x175_217, x175_219, x175_220, x175_221, x175_224, x175_227, x175_229, pv_some, pv_none, c1_int, c1_ref, c1_null, true_and, and_true, ne_eq, not_false_eq_true, not_true_eq_false, if_true, if_false, reduceCtorEq, Option.some.injEq, Value.int.injEq, absI_fold, minI_fold, maxI_fold, m_in, bi_zero, c1, c2, c3, if_true, if_false, true_or, or_true, false_or, or_false, true_and, and_true, false_and, and_false, not_true_eq_false, not_false_eq_true, iff_self, ite_self, ne_eq, true_implies, implies_true, Bool.false_eq_true, decide_true, decide_false, Bool.or_true, Bool.or_false, Bool.true_or, Bool.false_or]
      rw [show heH h 0 = h from aH_ext rfl rfl rfl rfl (fun b j => by unfold heH; rw [hI_wI, if_neg (by omega)])]
      rfl
    | succ k ih =>
      intro hk
      have gk : GM (heH h k) := g
      have q1 : hI (heH h k) 48 k = hI h 48 k := by unfold heH; rw [hI_wI, if_neg (by omega)]
      rw [ih (by omega), x175_35]
      simp only [x175_0, x175_1, x175_2, x175_5, x175_8, x175_11, x175_12, x175_13, x175_15, x175_18, x175_21, x175_22, x175_23, x175_24, x175_27, x175_30, x175_31, x175_32, x175_33, x175_37, x175_39, x175_42, x175_43, x175_46, x175_48, x175_49, x175_52, x175_54, x175_55, x175_56, x175_59, x175_62, x175_63, x175_67, x175_68, x175_71, x175_74, x175_75, x175_76, x175_77, x175_80, x175_82, x175_83, x175_84, x175_85, x175_86, x175_87, x175_89, x175_91, x175_93, x175_94, x175_97, x175_98, x175_99, x175_100, x175_101, x175_103, x175_105, x175_107, x175_108, x175_109, x175_112, x175_113, x175_114, x175_115, x175_117, x175_118, x175_120, x175_123, x175_125, x175_128, x175_129, x175_131, x175_132, x175_135, x175_136, x175_137, x175_138, x175_140, x175_143, x175_144, x175_146, x175_147, x175_148, x175_149, x175_152, x175_153, x175_156, x175_159, x175_162, x175_163, x175_166, x175_167, x175_170, x175_171, x175_174, x175_176, x175_177, x175_178, x175_181, x175_183, x175_184, x175_185, x175_188, x175_189, x175_192, x175_195, x175_197, x175_198, x175_202, x175_204, x175_207, x175_208, x175_211, x175_213, x175_214, x175_217, x175_219, x175_220, x175_221, x175_224, x175_227, x175_229, pv_some, pv_none, c1_int, c1_ref, c1_null, true_and, and_true, ne_eq, not_false_eq_true, not_true_eq_false, if_true, if_false, reduceCtorEq, Option.some.injEq, Value.int.injEq, absI_fold, minI_fold, maxI_fold, m_s gk, m_r4 gk, m_r18 gk, m_s48 gk, m_s55 gk, m_nz, show (nI k < 10) = True from eq_true (nI_lt hk (by decide)), i10 (show k < 10 by omega), iw10 (show k < 10 by omega), nI_cl (show k < 2 ^ 31 by omega), q1, nI_add1, if_true, if_false, true_or, or_true, false_or, or_false, true_and, and_true, false_and, and_false, not_true_eq_false, not_false_eq_true, iff_self, ite_self, ne_eq, true_implies, implies_true, Bool.false_eq_true, decide_true, decide_false, Bool.or_true, Bool.or_false, Bool.true_or, Bool.false_or]
      rw [show sI (heH h k) 55 k (hI h 48 k) = heH h (k + 1) from by
        refine (aH_ext (by simp only [hN_sI, hN_cpI, hN_wI, heH]) (by simp only [hZ_sI, hZ_cpI, hZ_wI, heH]) (by simp only [hS_sI, hS_cpI, hS_wI, heH]) (by simp only [hR_sI, hR_cpI, hR_wI, heH]) (fun b j => ?_))
        unfold heH
        simp only [hI_sI, hI_wI]
        grind]
  rw [up 10 (by omega), x175_35]
  simp only [x175_0, x175_1, x175_2, x175_5, x175_8, x175_11, x175_12, x175_13, x175_15, x175_18, x175_21, x175_22, x175_23, x175_24, x175_27, x175_30, x175_31, x175_32, x175_33, x175_37, x175_39, x175_42, x175_43, x175_46, x175_48, x175_49, x175_52, x175_54, x175_55, x175_56, x175_59, x175_62, x175_63, x175_67, x175_68, x175_71, x175_74, x175_75, x175_76, x175_77, x175_80, x175_82, x175_83, x175_84, x175_85, x175_86, x175_87, x175_89, x175_91, x175_93, x175_94, x175_97, x175_98, x175_99, x175_100, x175_101, x175_103, x175_105, x175_107, x175_108, x175_109, x175_112, x175_113, x175_114, x175_115, x175_117, x175_118, x175_120, x175_123, x175_125, x175_128, x175_129, x175_131, x175_132, x175_135, x175_136, x175_137, x175_138, x175_140, x175_143, x175_144, x175_146, x175_147, x175_148, x175_149, x175_152, x175_153, x175_156, x175_159, x175_162, x175_163, x175_166, x175_167, x175_170, x175_171, x175_174, x175_176, x175_177, x175_178, x175_181, x175_183, x175_184, x175_185, x175_188, x175_189, x175_192, x175_195, x175_197, x175_198, x175_202, x175_204, x175_207, x175_208, x175_211, x175_213, x175_214, x175_217, x175_219, x175_220, x175_221, x175_224, x175_227, x175_229, pv_some, pv_none, c1_int, c1_ref, c1_null, true_and, and_true, ne_eq, not_false_eq_true, not_true_eq_false, if_true, if_false, reduceCtorEq, Option.some.injEq, Value.int.injEq, absI_fold, minI_fold, maxI_fold, show (nI 10 < 10) = False by decide, if_true, if_false, true_or, or_true, false_or, or_false, true_and, and_true, false_and, and_false, not_true_eq_false, not_false_eq_true, iff_self, ite_self, ne_eq, true_implies, implies_true, Bool.false_eq_true, decide_true, decide_false, Bool.or_true, Bool.or_false, Bool.true_or, Bool.false_or]
theorem m_dayB (A : MA h D) (hz : z < 10000) (hn : 1 ≤ n ∧ n ≤ 30) (hG : 0 < gN D) (hb : D 1 = nI nb) (hnb : 2 ≤ nb ∧ nb ≤ 6) : ∃ l5 l6 l7 l8 : Value, X 175 65 [.ref 44, .int (nI z), .int (nI n), .int x, .int 0, .null, .null, .null, .null] [] h Q ↔ X 175 162 [.ref 44, .int (nI z), .int (nI n), .int x, .int (nI n), l5, l6, l7, l8] [] (h48 h (dayR D nb z (hI h 48) n)) Q := by
  have up : ∀ k, k ≤ n → ∃ l5 l6 l7 l8 : Value, X 175 65 [.ref 44, .int (nI z), .int (nI n), .int x, .int 0, .null, .null, .null, .null] [] h Q ↔ X 175 65 [.ref 44, .int (nI z), .int (nI n), .int x, .int (nI k), l5, l6, l7, l8] [] (h48 h (dayR D nb z (hI h 48) k)) Q := by
    intro k
    induction k with
    | zero =>
      intro _
      refine ⟨.null, .null, .null, .null, ?_⟩
      rw [show h48 h (dayR D nb z (hI h 48) 0) = h from aH_ext rfl rfl rfl rfl (fun b j => by
        show hI (h48 h (hI h 48)) b j = _
        by_cases q : b = 48
        · rw [q, h48_48]
        · rw [h48_o _ _ q])]
      rfl
    | succ k ih =>
      intro hk
      obtain ⟨l5, l6, l7, l8, ih⟩ := ih (by omega)
      have hdr : dayR D nb z (hI h 48) (k + 1) = dayS D nb z k (dayR D nb z (hI h 48) k) := rfl
      rw [hdr]
      generalize dayR D nb z (hI h 48) k = s at *
      refine ⟨.long (nL (dX z k)), .null, .int (nI (dN z k)), .int (nI (dN z k / 8 % nb)), ?_⟩
      rw [ih, x175_65]
      have dl := dN_lt z k
      have A1 := A.h48 s
      have g1 := A1.1
      have e1 : hI (h48 h s) 46 1 = nI nb := (A1.2.2.1 1 (by omega)).trans hb
      have b8 : nI (dN z k) / 8 = nI (dN z k / 8) := nI_div (b := 8) (by omega) (by decide)
      have bm : nI (dN z k / 8) - nI (dN z k / 8) / nI nb * nI nb = nI (dN z k / 8 % nb) := nI_mod (by omega) (by omega)
      have im : nI (dN z k) - nI (dN z k) / nI (gN D) * nI (gN D) = nI (dN z k % gN D) := nI_mod (by omega) (by have := A.g5; omega)
      have k4 : nI k - nI k / 4 * 4 = nI (k % 4) := nI_mod (b := 4) (by omega) (by decide)
      have nbz : ¬ nI nb = 0 := fun q => by
        have := (nI_eq_iff (show nb < 2 ^ 31 by omega) (show 0 < 2 ^ 31 by decide)).mp q
        omega
      have gz : ¬ nI (gN D) = 0 := fun q => by
        have := (nI_eq_iff (show gN D < 2 ^ 31 by have := A.g5; omega) (show 0 < 2 ^ 31 by decide)).mp q
        omega
      have k3 : (nI (k % 4) = 3) = (k % 4 = 3) := nI_eq_iff (b := 3) (by omega) (by decide)
      have hi : dN z k % gN D < gN D := Nat.mod_lt _ hG
      simp only [x175_0, x175_1, x175_2, x175_5, x175_8, x175_11, x175_12, x175_13, x175_15, x175_18, x175_21, x175_22, x175_23, x175_24, x175_27, x175_30, x175_31, x175_32, x175_33, x175_37, x175_39, x175_42, x175_43, x175_46, x175_48, x175_49, x175_52, x175_54, x175_55, x175_56, x175_59, x175_62, x175_63, x175_67, x175_68, x175_71, x175_74, x175_75, x175_76, x175_77, x175_80, x175_82, x175_83, x175_84, x175_85, x175_86, x175_87, x175_89, x175_91, x175_93, x175_94, x175_97, x175_98, x175_99, x175_100, x175_101, x175_103, x175_105, x175_107, x175_108, x175_109, x175_112, x175_113, x175_114, x175_115, x175_117, x175_118, x175_120, x175_123, x175_125, x175_128, x175_129, x175_131, x175_132, x175_135, x175_136, x175_137, x175_138, x175_140, x175_143, x175_146, x175_147, x175_148, x175_149, x175_152, x175_153, x175_156, x175_159, x175_162, x175_163, x175_166, x175_167, x175_170, x175_171, x175_174, x175_176, x175_177, x175_178, x175_181, x175_183, x175_184, x175_185, x175_188, x175_189, x175_192, x175_195, x175_197, x175_198, x175_202, x175_204, x175_207, x175_208, x175_211, x175_213, x175_214, x175_217, x175_219, x175_220, x175_221, x175_224, x175_227, x175_229, pv_some, pv_none, c1_int, c1_ref, c1_null, true_and, and_true, ne_eq, not_false_eq_true, not_true_eq_false, if_true, if_false, reduceCtorEq, Option.some.injEq, Value.int.injEq, absI_fold, minI_fold, maxI_fold, m_s g1, m_r2 g1, m_s46 g1, m_nz, nI_lt_iff (show k < 2 ^ 31 by omega) (show n < 2 ^ 31 by omega), show k < n by omega, dX_long hz (show k < 30 by omega), dr_mod hz (show k < 30 by omega), dr_m, b8, show ib 1 (2, 31) = True from i31 (k := 1) (by decide), ct1, e1, bm, nbz, m_inBed A1, h48_48, show ib 0 (2, 31) = True from i31 (k := 0) (by decide), c0, A1.g0, im, gz, m_goes A1 hi, show ¬ ((65521 : Int64) = 0) by decide, show ¬ ((4 : Int32) = 0) by decide, show ¬ ((8 : Int32) = 0) by decide, rousM, if_true, if_false, true_or, or_true, false_or, or_false, true_and, and_true, false_and, and_false, not_true_eq_false, not_false_eq_true, iff_self, ite_self, ne_eq, true_implies, implies_true, Bool.false_eq_true, decide_true, decide_false, Bool.or_true, Bool.or_false, Bool.true_or, Bool.false_or]
      unfold dayS tryS
      by_cases q1 : lastF s (nI (dN z k / 8 % nb)) (gN D) = -4
      · simp only [q1, if_true, if_false, true_or, or_true, false_or, or_false, true_and, and_true, false_and, and_false, not_true_eq_false, not_false_eq_true, iff_self, ite_self, ne_eq, true_implies, implies_true, Bool.false_eq_true, decide_true, decide_false, Bool.or_true, Bool.or_false, Bool.true_or, Bool.false_or, h48_go]
        generalize goS s (dN z k % gN D) (nI (dN z k / 8 % nb)) (bitF (bitsF (rousC (DA D 21) s (D 2) (s (dN z k % gN D)) (nI (dN z k / 8 % nb))) (gN D))) = s2
        have g2 : GM (h48 h s2) := A.1
        by_cases q2 : k % 4 = 3
        · simp only [x175_0, x175_1, x175_2, x175_5, x175_8, x175_11, x175_12, x175_13, x175_15, x175_18, x175_21, x175_22, x175_23, x175_24, x175_27, x175_30, x175_31, x175_32, x175_33, x175_37, x175_39, x175_42, x175_43, x175_46, x175_48, x175_49, x175_52, x175_54, x175_55, x175_56, x175_59, x175_62, x175_63, x175_67, x175_68, x175_71, x175_74, x175_75, x175_76, x175_77, x175_80, x175_82, x175_83, x175_84, x175_85, x175_86, x175_87, x175_89, x175_91, x175_93, x175_94, x175_97, x175_98, x175_99, x175_100, x175_101, x175_103, x175_105, x175_107, x175_108, x175_109, x175_112, x175_113, x175_114, x175_115, x175_117, x175_118, x175_120, x175_123, x175_125, x175_128, x175_129, x175_131, x175_132, x175_135, x175_136, x175_137, x175_138, x175_140, x175_143, x175_144, x175_146, x175_147, x175_148, x175_149, x175_152, x175_153, x175_156, x175_159, x175_162, x175_163, x175_166, x175_167, x175_170, x175_171, x175_174, x175_176, x175_177, x175_178, x175_181, x175_183, x175_184, x175_185, x175_188, x175_189, x175_192, x175_195, x175_197, x175_198, x175_202, x175_204, x175_207, x175_208, x175_211, x175_213, x175_214, x175_217, x175_219, x175_220, x175_221, x175_224, x175_227, x175_229, pv_some, pv_none, c1_int, c1_ref, c1_null, true_and, and_true, ne_eq, not_false_eq_true, not_true_eq_false, if_true, if_false, reduceCtorEq, Option.some.injEq, Value.int.injEq, absI_fold, minI_fold, maxI_fold, k4, k3, q2, show (nI 3 = 3) = True from eq_true rfl, m_s g2, m_passes g2, h48_48, h48_pass, nI_add1, show ¬ ((4 : Int32) = 0) by decide, if_true, if_false, true_or, or_true, false_or, or_false, true_and, and_true, false_and, and_false, not_true_eq_false, not_false_eq_true, iff_self, ite_self, ne_eq, true_implies, implies_true, Bool.false_eq_true, decide_true, decide_false, Bool.or_true, Bool.or_false, Bool.true_or, Bool.false_or]
        · simp only [x175_0, x175_1, x175_2, x175_5, x175_8, x175_11, x175_12, x175_13, x175_15, x175_18, x175_21, x175_22, x175_23, x175_24, x175_27, x175_30, x175_31, x175_32, x175_33, x175_37, x175_39, x175_42, x175_43, x175_46, x175_48, x175_49, x175_52, x175_54, x175_55, x175_56, x175_59, x175_62, x175_63, x175_67, x175_68, x175_71, x175_74, x175_75, x175_76, x175_77, x175_80, x175_82, x175_83, x175_84, x175_85, x175_86, x175_87, x175_89, x175_91, x175_93, x175_94, x175_97, x175_98, x175_99, x175_100, x175_101, x175_103, x175_105, x175_107, x175_108, x175_109, x175_112, x175_113, x175_114, x175_115, x175_117, x175_118, x175_120, x175_123, x175_125, x175_128, x175_129, x175_131, x175_132, x175_135, x175_136, x175_137, x175_138, x175_140, x175_143, x175_144, x175_146, x175_147, x175_148, x175_149, x175_152, x175_153, x175_156, x175_159, x175_162, x175_163, x175_166, x175_167, x175_170, x175_171, x175_174, x175_176, x175_177, x175_178, x175_181, x175_183, x175_184, x175_185, x175_188, x175_189, x175_192, x175_195, x175_197, x175_198, x175_202, x175_204, x175_207, x175_208, x175_211, x175_213, x175_214, x175_217, x175_219, x175_220, x175_221, x175_224, x175_227, x175_229, pv_some, pv_none, c1_int, c1_ref, c1_null, true_and, and_true, ne_eq, not_false_eq_true, not_true_eq_false, if_true, if_false, reduceCtorEq, Option.some.injEq, Value.int.injEq, absI_fold, minI_fold, maxI_fold, k4, k3, q2, nI_add1, show ¬ ((4 : Int32) = 0) by decide, if_true, if_false, true_or, or_true, false_or, or_false, true_and, and_true, false_and, and_false, not_true_eq_false, not_false_eq_true, iff_self, ite_self, ne_eq, true_implies, implies_true, Bool.false_eq_true, decide_true, decide_false, Bool.or_true, Bool.or_false, Bool.true_or, Bool.false_or]
      · simp only [q1, if_true, if_false, true_or, or_true, false_or, or_false, true_and, and_true, false_and, and_false, not_true_eq_false, not_false_eq_true, iff_self, ite_self, ne_eq, true_implies, implies_true, Bool.false_eq_true, decide_true, decide_false, Bool.or_true, Bool.or_false, Bool.true_or, Bool.false_or]
        by_cases q2 : k % 4 = 3
        · simp only [x175_0, x175_1, x175_2, x175_5, x175_8, x175_11, x175_12, x175_13, x175_15, x175_18, x175_21, x175_22, x175_23, x175_24, x175_27, x175_30, x175_31, x175_32, x175_33, x175_37, x175_39, x175_42, x175_43, x175_46, x175_48, x175_49, x175_52, x175_54, x175_55, x175_56, x175_59, x175_62, x175_63, x175_67, x175_68, x175_71, x175_74, x175_75, x175_76, x175_77, x175_80, x175_82, x175_83, x175_84, x175_85, x175_86, x175_87, x175_89, x175_91, x175_93, x175_94, x175_97, x175_98, x175_99, x175_100, x175_101, x175_103, x175_105, x175_107, x175_108, x175_109, x175_112, x175_113, x175_114, x175_115, x175_117, x175_118, x175_120, x175_123, x175_125, x175_128, x175_129, x175_131, x175_132, x175_135, x175_136, x175_137, x175_138, x175_140, x175_143, x175_144, x175_146, x175_147, x175_148, x175_149, x175_152, x175_153, x175_156, x175_159, x175_162, x175_163, x175_166, x175_167, x175_170, x175_171, x175_174, x175_176, x175_177, x175_178, x175_181, x175_183, x175_184, x175_185, x175_188, x175_189, x175_192, x175_195, x175_197, x175_198, x175_202, x175_204, x175_207, x175_208, x175_211, x175_213, x175_214, x175_217, x175_219, x175_220, x175_221, x175_224, x175_227, x175_229, pv_some, pv_none, c1_int, c1_ref, c1_null, true_and, and_true, ne_eq, not_false_eq_true, not_true_eq_false, if_true, if_false, reduceCtorEq, Option.some.injEq, Value.int.injEq, absI_fold, minI_fold, maxI_fold, k4, k3, q2, show (nI 3 = 3) = True from eq_true rfl, m_s g1, m_passes g1, h48_48, h48_pass, nI_add1, show ¬ ((4 : Int32) = 0) by decide, if_true, if_false, true_or, or_true, false_or, or_false, true_and, and_true, false_and, and_false, not_true_eq_false, not_false_eq_true, iff_self, ite_self, ne_eq, true_implies, implies_true, Bool.false_eq_true, decide_true, decide_false, Bool.or_true, Bool.or_false, Bool.true_or, Bool.false_or]
        · simp only [x175_0, x175_1, x175_2, x175_5, x175_8, x175_11, x175_12, x175_13, x175_15, x175_18, x175_21, x175_22, x175_23, x175_24, x175_27, x175_30, x175_31, x175_32, x175_33, x175_37, x175_39, x175_42, x175_43, x175_46, x175_48, x175_49, x175_52, x175_54, x175_55, x175_56, x175_59, x175_62, x175_63, x175_67, x175_68, x175_71, x175_74, x175_75, x175_76, x175_77, x175_80, x175_82, x175_83, x175_84, x175_85, x175_86, x175_87, x175_89, x175_91, x175_93, x175_94, x175_97, x175_98, x175_99, x175_100, x175_101, x175_103, x175_105, x175_107, x175_108, x175_109, x175_112, x175_113, x175_114, x175_115, x175_117, x175_118, x175_120, x175_123, x175_125, x175_128, x175_129, x175_131, x175_132, x175_135, x175_136, x175_137, x175_138, x175_140, x175_143, x175_144, x175_146, x175_147, x175_148, x175_149, x175_152, x175_153, x175_156, x175_159, x175_162, x175_163, x175_166, x175_167, x175_170, x175_171, x175_174, x175_176, x175_177, x175_178, x175_181, x175_183, x175_184, x175_185, x175_188, x175_189, x175_192, x175_195, x175_197, x175_198, x175_202, x175_204, x175_207, x175_208, x175_211, x175_213, x175_214, x175_217, x175_219, x175_220, x175_221, x175_224, x175_227, x175_229, pv_some, pv_none, c1_int, c1_ref, c1_null, true_and, and_true, ne_eq, not_false_eq_true, not_true_eq_false, if_true, if_false, reduceCtorEq, Option.some.injEq, Value.int.injEq, absI_fold, minI_fold, maxI_fold, k4, k3, q2, nI_add1, show ¬ ((4 : Int32) = 0) by decide, if_true, if_false, true_or, or_true, false_or, or_false, true_and, and_true, false_and, and_false, not_true_eq_false, not_false_eq_true, iff_self, ite_self, ne_eq, true_implies, implies_true, Bool.false_eq_true, decide_true, decide_false, Bool.or_true, Bool.or_false, Bool.true_or, Bool.false_or]
  obtain ⟨l5, l6, l7, l8, e⟩ := up n (Nat.le_refl _)
  refine ⟨l5, l6, l7, l8, ?_⟩
  rw [e, x175_65]
  simp only [x175_0, x175_1, x175_2, x175_5, x175_8, x175_11, x175_12, x175_13, x175_15, x175_18, x175_21, x175_22, x175_23, x175_24, x175_27, x175_30, x175_31, x175_32, x175_33, x175_37, x175_39, x175_42, x175_43, x175_46, x175_48, x175_49, x175_52, x175_54, x175_55, x175_56, x175_59, x175_62, x175_63, x175_67, x175_68, x175_71, x175_74, x175_75, x175_76, x175_77, x175_80, x175_82, x175_83, x175_84, x175_85, x175_86, x175_87, x175_89, x175_91, x175_93, x175_94, x175_97, x175_98, x175_99, x175_100, x175_101, x175_103, x175_105, x175_107, x175_108, x175_109, x175_112, x175_113, x175_114, x175_115, x175_117, x175_118, x175_120, x175_123, x175_125, x175_128, x175_129, x175_131, x175_132, x175_135, x175_136, x175_137, x175_138, x175_140, x175_143, x175_144, x175_146, x175_147, x175_148, x175_149, x175_152, x175_153, x175_156, x175_159, x175_163, x175_166, x175_167, x175_170, x175_171, x175_174, x175_176, x175_177, x175_178, x175_181, x175_183, x175_184, x175_185, x175_188, x175_189, x175_192, x175_195, x175_197, x175_198, x175_202, x175_204, x175_207, x175_208, x175_211, x175_213, x175_214, x175_217, x175_219, x175_220, x175_221, x175_224, x175_227, x175_229, pv_some, pv_none, c1_int, c1_ref, c1_null, true_and, and_true, ne_eq, not_false_eq_true, not_true_eq_false, if_true, if_false, reduceCtorEq, Option.some.injEq, Value.int.injEq, absI_fold, minI_fold, maxI_fold, nI_lt_iff (show n < 2 ^ 31 by omega) (show n < 2 ^ 31 by omega), Nat.lt_irrefl, if_true, if_false, true_or, or_true, false_or, or_false, true_and, and_true, false_and, and_false, not_true_eq_false, not_false_eq_true, iff_self, ite_self, ne_eq, true_implies, implies_true, Bool.false_eq_true, decide_true, decide_false, Bool.or_true, Bool.or_false, Bool.true_or, Bool.false_or]
def reH (h : aH) (k : Nat) : aH := wI h (fun b j => if b = 48 ∧ j < k then hI h 55 j else hI h b j)
theorem m_dayC (g : GM h) {v : Int32} {l4 l6 l7 l8 : Value} {x1 x2 x3 : Int32} : X 175 200 [.ref 44, .int x1, .int x2, .int x3, .int v, .int 0, l6, l7, l8] [] h Q ↔ Q (some (.int v)) (reH h 10) := by
  refine X_iff ?_ Q
  refine X_heap (h1 := reH h 0) (aH_ext rfl rfl rfl rfl (fun b j => by unfold reH; rw [hI_wI, if_neg (by omega)])) ?_
  refine loop_up (P := fun k => X 175 200 [.ref 44, .int x1, .int x2, .int x3, .int v, .int (nI k), l6, l7, l8] [] (reH h k) _) (n := 10) (fun k hk hp => ?_) ?_
  · have gk : GM (reH h k) := g
    have q1 : hI (reH h k) 55 k = hI h 55 k := by unfold reH; rw [hI_wI, if_neg (by omega)]
    rw [x175_200]
    simp only [x175_0, x175_1, x175_2, x175_5, x175_8, x175_11, x175_12, x175_13, x175_15, x175_18, x175_21, x175_22, x175_23, x175_24, x175_27, x175_30, x175_31, x175_32, x175_33, x175_37, x175_39, x175_42, x175_43, x175_46, x175_48, x175_49, x175_52, x175_54, x175_55, x175_56, x175_59, x175_62, x175_63, x175_67, x175_68, x175_71, x175_74, x175_75, x175_76, x175_77, x175_80, x175_82, x175_83, x175_84, x175_85, x175_86, x175_87, x175_89, x175_91, x175_93, x175_94, x175_97, x175_98, x175_99, x175_100, x175_101, x175_103, x175_105, x175_107, x175_108, x175_109, x175_112, x175_113, x175_114, x175_115, x175_117, x175_118, x175_120, x175_123, x175_125, x175_128, x175_129, x175_131, x175_132, x175_135, x175_136, x175_137, x175_138, x175_140, x175_143, x175_144, x175_146, x175_147, x175_148, x175_149, x175_152, x175_153, x175_156, x175_159, x175_162, x175_163, x175_166, x175_167, x175_170, x175_171, x175_174, x175_176, x175_177, x175_178, x175_181, x175_183, x175_184, x175_185, x175_188, x175_189, x175_192, x175_195, x175_197, x175_198, x175_202, x175_204, x175_207, x175_208, x175_211, x175_213, x175_214, x175_217, x175_219, x175_220, x175_221, x175_224, x175_227, x175_229, pv_some, pv_none, c1_int, c1_ref, c1_null, true_and, and_true, ne_eq, not_false_eq_true, not_true_eq_false, if_true, if_false, reduceCtorEq, Option.some.injEq, Value.int.injEq, absI_fold, minI_fold, maxI_fold, m_s gk, m_r4 gk, m_r18 gk, m_s48 gk, m_s55 gk, m_nz, show (nI k < 10) = True from eq_true (nI_lt hk (by decide)), i10 (show k < 10 by omega), iw10 (show k < 10 by omega), nI_cl (show k < 2 ^ 31 by omega), q1, nI_add1, if_true, if_false, true_or, or_true, false_or, or_false, true_and, and_true, false_and, and_false, not_true_eq_false, not_false_eq_true, iff_self, ite_self, ne_eq, true_implies, implies_true, Bool.false_eq_true, decide_true, decide_false, Bool.or_true, Bool.or_false, Bool.true_or, Bool.false_or]
    refine X_heap ?_ hp
    refine (aH_ext (by simp only [hN_sI, hN_cpI, hN_wI, reH]) (by simp only [hZ_sI, hZ_cpI, hZ_wI, reH]) (by simp only [hS_sI, hS_cpI, hS_wI, reH]) (by simp only [hR_sI, hR_cpI, hR_wI, reH]) (fun b j => ?_))
    unfold reH
    simp only [hI_sI, hI_wI]
    grind
  · rw [x175_200]
    simp only [x175_0, x175_1, x175_2, x175_5, x175_8, x175_11, x175_12, x175_13, x175_15, x175_18, x175_21, x175_22, x175_23, x175_24, x175_27, x175_30, x175_31, x175_32, x175_33, x175_37, x175_39, x175_42, x175_43, x175_46, x175_48, x175_49, x175_52, x175_54, x175_55, x175_56, x175_59, x175_62, x175_63, x175_67, x175_68, x175_71, x175_74, x175_75, x175_76, x175_77, x175_80, x175_82, x175_83, x175_84, x175_85, x175_86, x175_87, x175_89, x175_91, x175_93, x175_94, x175_97, x175_98, x175_99, x175_100, x175_101, x175_103, x175_105, x175_107, x175_108, x175_109, x175_112, x175_113, x175_114, x175_115, x175_117, x175_118, x175_120, x175_123, x175_125, x175_128, x175_129, x175_131, x175_132, x175_135, x175_136, x175_137, x175_138, x175_140, x175_143, x175_144, x175_146, x175_147, x175_148, x175_149, x175_152, x175_153, x175_156, x175_159, x175_162, x175_163, x175_166, x175_167, x175_170, x175_171, x175_174, x175_176, x175_177, x175_178, x175_181, x175_183, x175_184, x175_185, x175_188, x175_189, x175_192, x175_195, x175_197, x175_198, x175_202, x175_204, x175_207, x175_208, x175_211, x175_213, x175_214, x175_217, x175_219, x175_220, x175_221, x175_224, x175_227, x175_229, pv_some, pv_none, c1_int, c1_ref, c1_null, true_and, and_true, ne_eq, not_false_eq_true, not_true_eq_false, if_true, if_false, reduceCtorEq, Option.some.injEq, Value.int.injEq, absI_fold, minI_fold, maxI_fold, show (nI 10 < 10) = False by decide, if_true, if_false, true_or, or_true, false_or, or_false, true_and, and_true, false_and, and_false, not_true_eq_false, not_false_eq_true, iff_self, ite_self, ne_eq, true_implies, implies_true, Bool.false_eq_true, decide_true, decide_false, Bool.or_true, Bool.or_false, Bool.true_or, Bool.false_or]
/-- what a day tried answers -/
def dayV (D : Nat → Int32) (s0 s : Nat → Int32) (x : Int32) : Int32 := if x = 0 then s 9 - s0 9 else bitF (wakeF (DA D 6) (DA D 11) (DA D 16) (DA D 21) s (D 3) (s 5) (s 6) (gN D))
theorem m_day (A : MA h D) (hz : z < 10000) (hn : 1 ≤ n ∧ n ≤ 30) (hx : x = 0 ∨ x = 1) (hG : 0 < gN D) (hb : D 1 = nI nb) (hnb : 2 ≤ nb ∧ nb ≤ 6) : ∃ h', SF h h' ∧ ∀ Q : Option Value → aH → Prop, X 175 0 [.ref 44, .int (nI z), .int (nI n), .int x, .null, .null, .null, .null, .null] [] h Q ↔ Q (some (.int (dayV D (hI h 48) (dayR D nb z (hI h 48) n) x))) h' := by
  have g := A.1
  have h5 := A.g5
  have A1 : MA (heH h 10) D := A.w _ (fun j => if_neg (by omega))
  have e48 : hI (heH h 10) 48 = hI h 48 := by funext j; unfold heH; rw [hI_wI, if_neg (by omega)]
  have A2 := A1.h48 (dayR D nb z (hI h 48) n)
  have A3 := A2.SF (as_SF _)
  have g2 := A2.1
  have g3 := A3.1
  refine ⟨reH (asH (h48 (heH h 10) (dayR D nb z (hI h 48) n))) 10, ?_, fun Q => ?_⟩
  · refine ⟨rfl, fun b j q1 q2 q3 => ?_⟩
    have f1 : hI (asH (h48 (heH h 10) (dayR D nb z (hI h 48) n))) b j = hI (h48 (heH h 10) (dayR D nb z (hI h 48) n)) b j := (as_SF _).2 b j q1 q2 q3
    unfold reH
    rw [hI_wI]
    by_cases c1 : b = 48 ∧ j < 10
    · rw [if_pos c1, (show hI (asH (h48 (heH h 10) (dayR D nb z (hI h 48) n))) 55 j = hI (heH h 10) 55 j from by
        unfold asH
        rw [hI_wI, if_neg (by omega), if_neg (by omega), if_neg (by omega), if_neg (by omega), if_neg (by omega), h48_o _ _ (by decide)])]
      unfold heH
      rw [hI_wI, if_pos ⟨rfl, c1.2⟩, c1.1]
    · rw [if_neg c1, f1]
      by_cases c2 : b = 48
      · rw [c2, h48_48, dayR_ge _ hG h5 (by omega)]
      · rw [h48_o _ _ c2]
        unfold heH
        rw [hI_wI, if_neg (by omega)]
  · rw [m_dayA g hz hn hx]
    obtain ⟨l5, l6, l7, l8, e⟩ := m_dayB (Q := Q) (x := x) A1 hz hn hG hb hnb
    rw [e, e48]
    have s9 : hI (asH (h48 (heH h 10) (dayR D nb z (hI h 48) n))) 48 9 = dayR D nb z (hI h 48) n 9 := by rw [as48, h48_48]
    have t9 : hI (asH (h48 (heH h 10) (dayR D nb z (hI h 48) n))) 55 9 = hI h 48 9 := by
      unfold asH
      rw [hI_wI, if_neg (by omega), if_neg (by omega), if_neg (by omega), if_neg (by omega), if_neg (by omega), h48_o _ _ (by decide)]
      unfold heH
      rw [hI_wI, if_pos ⟨rfl, by omega⟩]
    have wk : wakeM (asH (h48 (heH h 10) (dayR D nb z (hI h 48) n))) D = wakeF (DA D 6) (DA D 11) (DA D 16) (DA D 21) (dayR D nb z (hI h 48) n) (D 3) (dayR D nb z (hI h 48) n 5) (dayR D nb z (hI h 48) n 6) (gN D) := by
      unfold wakeM
      rw [as14, as15, h48_48]
      refine wakeF_congr (fun q hq => ?_) agr.rfl' agr.rfl' agr.rfl' (fun q hq => ?_)
      · rw [as53 (by omega)]
        exact A2.kind hq
      · rw [as52 (by omega), h48_48]
    unfold dayV
    generalize dayR D nb z (hI h 48) n = s at *
    rcases hx with rfl | rfl
    · simp only [x175_0, x175_1, x175_2, x175_5, x175_8, x175_11, x175_12, x175_13, x175_15, x175_18, x175_21, x175_22, x175_23, x175_24, x175_27, x175_30, x175_31, x175_32, x175_33, x175_37, x175_39, x175_42, x175_43, x175_46, x175_48, x175_49, x175_52, x175_54, x175_55, x175_56, x175_59, x175_62, x175_63, x175_67, x175_68, x175_71, x175_74, x175_75, x175_76, x175_77, x175_80, x175_82, x175_83, x175_84, x175_85, x175_86, x175_87, x175_89, x175_91, x175_93, x175_94, x175_97, x175_98, x175_99, x175_100, x175_101, x175_103, x175_105, x175_107, x175_108, x175_109, x175_112, x175_113, x175_114, x175_115, x175_117, x175_118, x175_120, x175_123, x175_125, x175_128, x175_129, x175_131, x175_132, x175_135, x175_136, x175_137, x175_138, x175_140, x175_143, x175_144, x175_146, x175_147, x175_148, x175_149, x175_152, x175_153, x175_156, x175_159, x175_162, x175_163, x175_166, x175_167, x175_170, x175_171, x175_174, x175_176, x175_177, x175_178, x175_181, x175_183, x175_184, x175_185, x175_188, x175_189, x175_192, x175_195, x175_197, x175_198, x175_202, x175_204, x175_207, x175_208, x175_211, x175_213, x175_214, x175_217, x175_219, x175_220, x175_221, x175_224, x175_227, x175_229, pv_some, pv_none, c1_int, c1_ref, c1_null, true_and, and_true, ne_eq, not_false_eq_true, not_true_eq_false, if_true, if_false, reduceCtorEq, Option.some.injEq, Value.int.injEq, absI_fold, minI_fold, maxI_fold, m_s g2, m_asItIs g2, m_s g3, m_r4 g3, m_r18 g3, m_s48 g3, m_s55 g3, m_nz, show ib 9 (2, 10) = True from i10 (k := 9) (by decide), ct9, s9, t9, m_dayC (l4 := .null) g3, if_true, if_false, true_or, or_true, false_or, or_false, true_and, and_true, false_and, and_false, not_true_eq_false, not_false_eq_true, iff_self, ite_self, ne_eq, true_implies, implies_true, Bool.false_eq_true, decide_true, decide_false, Bool.or_true, Bool.or_false, Bool.true_or, Bool.false_or]
    · simp only [x175_0, x175_1, x175_2, x175_5, x175_8, x175_11, x175_12, x175_13, x175_15, x175_18, x175_21, x175_22, x175_23, x175_24, x175_27, x175_30, x175_31, x175_32, x175_33, x175_37, x175_39, x175_42, x175_43, x175_46, x175_48, x175_49, x175_52, x175_54, x175_55, x175_56, x175_59, x175_62, x175_63, x175_67, x175_68, x175_71, x175_74, x175_75, x175_76, x175_77, x175_80, x175_82, x175_83, x175_84, x175_85, x175_86, x175_87, x175_89, x175_91, x175_93, x175_94, x175_97, x175_98, x175_99, x175_100, x175_101, x175_103, x175_105, x175_107, x175_108, x175_109, x175_112, x175_113, x175_114, x175_115, x175_117, x175_118, x175_120, x175_123, x175_125, x175_128, x175_129, x175_131, x175_132, x175_135, x175_136, x175_137, x175_138, x175_140, x175_143, x175_144, x175_146, x175_147, x175_148, x175_149, x175_152, x175_153, x175_156, x175_159, x175_162, x175_163, x175_166, x175_167, x175_170, x175_171, x175_174, x175_176, x175_177, x175_178, x175_181, x175_183, x175_184, x175_185, x175_188, x175_189, x175_192, x175_195, x175_197, x175_198, x175_202, x175_204, x175_207, x175_208, x175_211, x175_213, x175_214, x175_217, x175_219, x175_220, x175_221, x175_224, x175_227, x175_229, pv_some, pv_none, c1_int, c1_ref, c1_null, true_and, and_true, ne_eq, not_false_eq_true, not_true_eq_false, if_true, if_false, reduceCtorEq, Option.some.injEq, Value.int.injEq, absI_fold, minI_fold, maxI_fold, m_s g2, m_asItIs g2, m_s g3, one_ne, m_wakes A3 as16, wk, m_ones, m_dayC (l4 := .null) g3, if_true, if_false, true_or, or_true, false_or, or_false, true_and, and_true, false_and, and_false, not_true_eq_false, not_false_eq_true, iff_self, ite_self, ne_eq, true_implies, implies_true, Bool.false_eq_true, decide_true, decide_false, Bool.or_true, Bool.or_false, Bool.true_or, Bool.false_or]
end MOD12
