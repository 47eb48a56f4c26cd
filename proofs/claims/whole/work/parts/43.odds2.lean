/-! THE CLASS: lowest terms -/
section ODDS2
variable {h : aH} {Q : Option Value → aH → Prop} {x y b : Int32} {A k : Nat}
theorem k_lowest (hA : A ≤ 100) (hx : x = 0 ∨ x = 1) : X 118 0 [.int (nI A), .int 100, .int x, .null, .null] [] h Q ↔ Q (some (.int (nI ((if x = 0 then A else 100) / Nat.gcd A 100)))) h := by
  have gp : 0 < Nat.gcd A 100 := Nat.gcd_pos_of_pos_right _ (by decide)
  have gl : Nat.gcd A 100 ≤ 100 := Nat.le_of_dvd (by decide) (Nat.gcd_dvd_right A 100)
  have gd1 : A % Nat.gcd A 100 = 0 := Nat.mod_eq_zero_of_dvd (Nat.gcd_dvd_left A 100)
  have gd2 : 100 % Nat.gcd A 100 = 0 := Nat.mod_eq_zero_of_dvd (Nat.gcd_dvd_right A 100)
  have gmax : ∀ d, Nat.gcd A 100 < d → ¬ (100 % d = 0 ∧ A % d = 0) := fun d hd q => by
    have := Nat.le_of_dvd gp (Nat.dvd_gcd (Nat.dvd_of_mod_eq_zero q.2) (Nat.dvd_of_mod_eq_zero q.1))
    omega
  generalize Nat.gcd A 100 = g at *
  have main : ∀ as : Nat, as ≤ 100 → X 118 13 [.int (nI A), .int 100, .int x, .int (nI as), .int 100] [] h (fun r b => r = some (.int (nI (as / g))) ∧ b = h) := by
    intro as has
    refine loop_up (P := fun k => X 118 13 [.int (nI A), .int 100, .int x, .int (nI as), .int (nI (100 - k))] [] h _) (n := 100 - g) (fun k hk hp => ?_) ?_
    · have hno := gmax (100 - k) (by omega)
      have dz : (nI (100 - k) = 0) = False := eq_false (fun q => by
        have := (nI_eq_iff (show 100 - k < 2 ^ 31 by omega) (show 0 < 2 ^ 31 by decide)).mp q
        omega)
      have d1 : (1 : Int32) < nI (100 - k) := nI_lt (a := 1) (by omega) (by omega)
      have r1 : (100 : Int32) - 100 / nI (100 - k) * nI (100 - k) = nI (100 % (100 - k)) := nI_mod (a := 100) (by decide) (by omega)
      have r2 : nI A - nI A / nI (100 - k) * nI (100 - k) = nI (A % (100 - k)) := nI_mod (by omega) (by omega)
      have z1 : (nI (100 % (100 - k)) = 0) = (100 % (100 - k) = 0) := nI_eq_iff (b := 0) (by have := Nat.mod_le 100 (100 - k); omega) (by decide)
      have z2 : (nI (A % (100 - k)) = 0) = (A % (100 - k) = 0) := nI_eq_iff (b := 0) (by have := Nat.mod_le A (100 - k); omega) (by decide)
      have m1 : nI (100 - k) + -1 = nI (100 - (k + 1)) := by
        rw [← Int32.sub_eq_add_neg, nI_m1 (by omega)]
        congr 1
      rw [x118_13]
      by_cases q1 : 100 % (100 - k) = 0
      · have q2 : ¬ A % (100 - k) = 0 := fun q => hno ⟨q1, q⟩
        simp only [x118_0, x118_1, x118_4, x118_5, x118_8, x118_9, x118_10, x118_11, x118_15, x118_16, x118_19, x118_20, x118_22, x118_23, x118_26, x118_27, x118_29, x118_30, x118_33, x118_34, x118_36, x118_37, x118_38, x118_41, x118_44, x118_45, pv_some, pv_none, c1_int, c1_ref, c1_null, true_and, and_true, ne_eq, not_false_eq_true, not_true_eq_false, if_true, if_false, reduceCtorEq, Option.some.injEq, Value.int.injEq, absI_fold, minI_fold, maxI_fold, d1, dz, r1, r2, z1, z2, q1, q2, m1, show (nI 0 = 0) = True from eq_true rfl, if_true, if_false, true_or, or_true, false_or, or_false, true_and, and_true, false_and, and_false, not_true_eq_false, not_false_eq_true, iff_self, ite_self, ne_eq, true_implies, implies_true, Bool.false_eq_true, decide_true, decide_false, Bool.or_true, Bool.or_false, Bool.true_or, Bool.false_or]
        exact hp
      · simp only [x118_0, x118_1, x118_4, x118_5, x118_8, x118_9, x118_10, x118_11, x118_15, x118_16, x118_19, x118_20, x118_22, x118_23, x118_26, x118_27, x118_29, x118_30, x118_33, x118_34, x118_36, x118_37, x118_38, x118_41, x118_44, x118_45, pv_some, pv_none, c1_int, c1_ref, c1_null, true_and, and_true, ne_eq, not_false_eq_true, not_true_eq_false, if_true, if_false, reduceCtorEq, Option.some.injEq, Value.int.injEq, absI_fold, minI_fold, maxI_fold, d1, dz, r1, z1, q1, m1, if_true, if_false, true_or, or_true, false_or, or_false, true_and, and_true, false_and, and_false, not_true_eq_false, not_false_eq_true, iff_self, ite_self, ne_eq, true_implies, implies_true, Bool.false_eq_true, decide_true, decide_false, Bool.or_true, Bool.or_false, Bool.true_or, Bool.false_or]
        exact hp
    · rw [show 100 - (100 - g) = g by omega, x118_13]
      have dz : (nI g = 0) = False := eq_false (fun q => by
        have := (nI_eq_iff (show g < 2 ^ 31 by omega) (show 0 < 2 ^ 31 by decide)).mp q
        omega)
      by_cases g1 : g = 1
      · subst g1
        simp only [x118_0, x118_1, x118_4, x118_5, x118_8, x118_9, x118_10, x118_11, x118_15, x118_16, x118_19, x118_20, x118_22, x118_23, x118_26, x118_27, x118_29, x118_30, x118_33, x118_34, x118_36, x118_37, x118_38, x118_41, x118_44, x118_45, pv_some, pv_none, c1_int, c1_ref, c1_null, true_and, and_true, ne_eq, not_false_eq_true, not_true_eq_false, if_true, if_false, reduceCtorEq, Option.some.injEq, Value.int.injEq, absI_fold, minI_fold, maxI_fold, show ((1 : Int32) < nI 1) = False by decide, Nat.div_one, if_true, if_false, true_or, or_true, false_or, or_false, true_and, and_true, false_and, and_false, not_true_eq_false, not_false_eq_true, iff_self, ite_self, ne_eq, true_implies, implies_true, Bool.false_eq_true, decide_true, decide_false, Bool.or_true, Bool.or_false, Bool.true_or, Bool.false_or]
      · have d1 : (1 : Int32) < nI g := nI_lt (a := 1) (by omega) (by omega)
        have r1 : (100 : Int32) - 100 / nI g * nI g = nI (100 % g) := nI_mod (a := 100) (by decide) (by omega)
        have r2 : nI A - nI A / nI g * nI g = nI (A % g) := nI_mod (by omega) (by omega)
        have r3 : nI as / nI g = nI (as / g) := nI_div (by omega) (by omega)
        simp only [x118_0, x118_1, x118_4, x118_5, x118_8, x118_9, x118_10, x118_11, x118_15, x118_16, x118_19, x118_20, x118_22, x118_23, x118_26, x118_27, x118_29, x118_30, x118_33, x118_34, x118_36, x118_37, x118_38, x118_41, x118_44, x118_45, pv_some, pv_none, c1_int, c1_ref, c1_null, true_and, and_true, ne_eq, not_false_eq_true, not_true_eq_false, if_true, if_false, reduceCtorEq, Option.some.injEq, Value.int.injEq, absI_fold, minI_fold, maxI_fold, d1, dz, r1, r2, r3, gd1, gd2, show (nI 0 = 0) = True from eq_true rfl, if_true, if_false, true_or, or_true, false_or, or_false, true_and, and_true, false_and, and_false, not_true_eq_false, not_false_eq_true, iff_self, ite_self, ne_eq, true_implies, implies_true, Bool.false_eq_true, decide_true, decide_false, Bool.or_true, Bool.or_false, Bool.true_or, Bool.false_or]
  refine X_iff ?_ Q
  rcases hx with rfl | rfl
  · simp only [x118_0, x118_1, x118_4, x118_5, x118_8, x118_9, x118_10, x118_11, x118_15, x118_16, x118_19, x118_20, x118_22, x118_23, x118_26, x118_27, x118_29, x118_30, x118_33, x118_34, x118_36, x118_37, x118_38, x118_41, x118_44, x118_45, pv_some, pv_none, c1_int, c1_ref, c1_null, true_and, and_true, ne_eq, not_false_eq_true, not_true_eq_false, if_true, if_false, reduceCtorEq, Option.some.injEq, Value.int.injEq, absI_fold, minI_fold, maxI_fold, if_true, if_false, true_or, or_true, false_or, or_false, true_and, and_true, false_and, and_false, not_true_eq_false, not_false_eq_true, iff_self, ite_self, ne_eq, true_implies, implies_true, Bool.false_eq_true, decide_true, decide_false, Bool.or_true, Bool.or_false, Bool.true_or, Bool.false_or]
    exact main A hA
  · simp only [x118_0, x118_1, x118_4, x118_5, x118_8, x118_9, x118_10, x118_11, x118_15, x118_16, x118_19, x118_20, x118_22, x118_23, x118_26, x118_27, x118_29, x118_30, x118_33, x118_34, x118_36, x118_37, x118_38, x118_41, x118_44, x118_45, pv_some, pv_none, c1_int, c1_ref, c1_null, true_and, and_true, ne_eq, not_false_eq_true, not_true_eq_false, if_true, if_false, reduceCtorEq, Option.some.injEq, Value.int.injEq, absI_fold, minI_fold, maxI_fold, one_ne, if_true, if_false, true_or, or_true, false_or, or_false, true_and, and_true, false_and, and_false, not_true_eq_false, not_false_eq_true, iff_self, ite_self, ne_eq, true_implies, implies_true, Bool.false_eq_true, decide_true, decide_false, Bool.or_true, Bool.or_false, Bool.true_or, Bool.false_or]
    exact main 100 (by decide)
end ODDS2
