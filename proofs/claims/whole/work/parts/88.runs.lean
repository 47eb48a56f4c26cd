/-! THE LAW'S WHOLE RUN in the abstract machine -/
section RUNS
variable {h : aH} {N : Nat}
theorem ly_N (h : aH) : hN (layH h) = hN h := by unfold layH; simp only [hN_wI, hN_sI]
theorem add_N (h : aH) (i : Nat) (a b c d e : Int32) : hN (addH h i a b c d e) = hN h := by unfold addH; simp only [hN_wI, hN_sI]
theorem bg_N (h : aH) : hN (bgH h) = hN h := by unfold bgH; simp only [hN_wI, hN_sI]
theorem dr_N (h : aH) : hN (dr0 h) = hN h := by unfold dr0; rw [hN_sI, add_N, add_N, add_N, add_N, bg_N]
theorem shp_sum : sumZ shp 56 ≤ 7302250 := by decide +kernel
theorem law_runs (e : hN h = 3) (ez : hZ h = 0) (e0 : hS h 0 = (0, 0)) (e1 : hS h 1 = (4, N)) (e2 : hS h 2 = (0, 0)) (hN2 : N ≤ 256) : X 181 0 [.ref 1, .null, .null, .null] [] h (fun r h' => r = some (.int 1) ∧ hN h' ≤ 600000 ∧ hZ h' ≤ 7302250) := by
  have z0 : Zs h := by
    show hZ h = sumZ (hS h) (hN h)
    rw [e, ez]
    show 0 = 0 + szS (hS h 0) + szS (hS h 1) + szS (hS h 2)
    rw [e0, e1, e2]
    rfl
  have v0 : Ivh h (nw h 11 (1, 7)) := Ivh.nw (by decide +kernel)
  have n0 : hN (nw h 11 (1, 7)) = 4 := by rw [hN_nw, e]
  have s0 : hS (nw h 11 (1, 7)) 3 = (1, 7) := by rw [hS_nw, e, if_pos rfl]
  have s1 : hS (nw h 11 (1, 7)) 1 = (4, N) := by rw [hS_nw, e, if_neg (by decide)]; exact e1
  rw [x181_0, e]
  generalize nw h 11 (1, 7) = H at *
  obtain ⟨h2, g2, w2, n2, e18, e20, I2, W2, kc⟩ := c_init n0 s0
  have v1 := v0.trans (X_inv kc)
  have f := first_rel g2 w2 n2 I2 W2 e18 e20 rfl
  rw [x181_3, x181_4, kc]
  generalize sI (miH h2 26 32 4 6) 4 1 0 = C at *
  have nC : hN C = 44 := by have := f.1; rw [hN_nw] at this; omega
  have sB : hS (nw C 19 (1, 8)) 1 = (4, N) := by rw [hS_nw, nC, if_neg (by decide), v1.2.1 1 (by omega)]; exact e1
  simp only [x181_7, x181_8, pv_some, pv_none, c1_int, c1_ref, c1_null, true_and, and_true, ne_eq, not_false_eq_true, not_true_eq_false, if_true, if_false, reduceCtorEq, Option.some.injEq, Value.int.injEq, absI_fold, minI_fold, maxI_fold, if_true, if_false, true_or, or_true, false_or, or_false, true_and, and_true, false_and, and_false, not_true_eq_false, not_false_eq_true, iff_self, ite_self, ne_eq, true_implies, implies_true, Bool.false_eq_true, decide_true, decide_false, Bool.or_true, Bool.or_false, Bool.true_or, Bool.false_or, nC]
  have v3 : Ivh C (nw C 19 (1, 8)) := Ivh.nw (by decide +kernel)
  generalize nw C 19 (1, 8) = B at *
  obtain ⟨n4, s4, g4, R⟩ := f
  have km := fun Q : Option Value → aH → Prop => m_init (Q := Q) n4 s4 g4
  have v2 := v1.trans (v3.trans (X_inv km))
  have nF : hN (layH (dr0 (q11 B))) = 56 := by rw [ly_N, dr_N]; exact q11_N n4
  rw [x181_11, x181_12, km]
  generalize layH (dr0 (q11 B)) = F at *
  simp only [x181_15, x181_16, x181_17, pv_some, pv_none, c1_int, c1_ref, c1_null, true_and, and_true, ne_eq, not_false_eq_true, not_true_eq_false, if_true, if_false, reduceCtorEq, Option.some.injEq, Value.int.injEq, absI_fold, minI_fold, maxI_fold, if_true, if_false, true_or, or_true, false_or, or_false, true_and, and_true, false_and, and_false, not_true_eq_false, not_false_eq_true, iff_self, ite_self, ne_eq, true_implies, implies_true, Bool.false_eq_true, decide_true, decide_false, Bool.or_true, Bool.or_false, Bool.true_or, Bool.false_or]
  refine X_mono (law_loop (Z := hZ F) hN2 N 0 (by omega) (by omega) F ⟨R, by rw [v2.2.1 1 (by omega)]; exact e1, nF, rfl⟩) (fun r h' q => ⟨q.1, by rw [q.2.1]; decide, ?_⟩)
  have zF : hZ F = sumZ (hS F) (hN F) := v2.2.2.2 z0
  rw [q.2.2, zF, nF, sumZ_congr (f' := shp) 56 ?_]
  · exact shp_sum
  · intro a ha
    have gmF := Rel.gm R
    by_cases c0 : a = 0
    · rw [c0, v2.2.1 0 (by omega), e0]; rfl
    by_cases c1 : a = 1
    · rw [c1, v2.2.1 1 (by omega), e1]; rfl
    by_cases c2 : a = 2
    · rw [c2, v2.2.1 2 (by omega), e2]; rfl
    by_cases c3 : a < 44
    · rw [gmF.1.1 a (by omega) c3]
    · rw [gmF.2.1 a (by omega) ha]
end RUNS
