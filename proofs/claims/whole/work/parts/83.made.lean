/-! THE CLASS'S CELLS, ONE BY ONE -/
section MADE
variable {h : aH} {Q : Option Value → aH → Prop}
theorem j1_S (e : hN h = 4) (a : Nat) : hS (j1 h) a = if 4 ≤ a ∧ a < 7 then shp a else hS h a := by
  simp only [j1, iT, hS_sR, hS_sI, hS_nw, hR_sR, hR_sI, hR_nw, hN_sR, hN_sI, hN_nw, e, Nat.reduceAdd, Nat.reduceMul]
  by_cases c : 4 ≤ a ∧ a < 7
  · rw [if_pos c]
    have q : a = 4 ∨ a = 5 ∨ a = 6 := by omega
    rcases q with rfl | rfl | rfl <;> rfl
  · rw [if_neg c]
    repeat rw [if_neg (by omega)]
theorem j1_R (e : hN h = 4) (a k : Nat) : hR (j1 h) a k = if a = 3 ∧ k = 0 then 4 else if 4 ≤ a ∧ a < 7 then rfs a k else hR h a k := by
  simp only [j1, iT, hS_sR, hS_sI, hS_nw, hR_sR, hR_sI, hR_nw, hN_sR, hN_sI, hN_nw, e, Nat.reduceAdd, Nat.reduceMul]
  by_cases c3 : a = 3 ∧ k = 0
  · rw [if_pos c3, if_pos c3]
  rw [if_neg c3, if_neg c3]
  by_cases c : 4 ≤ a ∧ a < 7
  · rw [if_pos c]
    have q : a = 4 ∨ a = 5 ∨ a = 6 := by omega
    rcases q with rfl | rfl | rfl <;> rcases k with _ | _ | _ | _ | _ | k <;> rfl
  · rw [if_neg c]
    repeat rw [if_neg (by omega)]
theorem j2_S (e : hN h = 4) (a : Nat) : hS (j2 h) a = if 7 ≤ a ∧ a < 11 then shp a else hS (j1 h) a := by
  simp only [j2, iR, hS_sR, hS_sI, hS_nw, hR_sR, hR_sI, hR_nw, hN_sR, hN_sI, hN_nw, j1_N e, Nat.reduceAdd, Nat.reduceMul]
  by_cases c : 7 ≤ a ∧ a < 11
  · rw [if_pos c]
    have q : a = 7 ∨ a = 8 ∨ a = 9 ∨ a = 10 := by omega
    rcases q with rfl | rfl | rfl | rfl <;> rfl
  · rw [if_neg c]
    repeat rw [if_neg (by omega)]
theorem j2_R (e : hN h = 4) (a k : Nat) : hR (j2 h) a k = if a = 3 ∧ k = 1 then 7 else if 7 ≤ a ∧ a < 11 then rfs a k else hR (j1 h) a k := by
  simp only [j2, iR, hS_sR, hS_sI, hS_nw, hR_sR, hR_sI, hR_nw, hN_sR, hN_sI, hN_nw, j1_N e, Nat.reduceAdd, Nat.reduceMul]
  by_cases c3 : a = 3 ∧ k = 1
  · rw [if_pos c3, if_pos c3]
  rw [if_neg c3, if_neg c3]
  by_cases c : 7 ≤ a ∧ a < 11
  · rw [if_pos c]
    have q : a = 7 ∨ a = 8 ∨ a = 9 ∨ a = 10 := by omega
    rcases q with rfl | rfl | rfl | rfl <;> rcases k with _ | _ | _ | _ | _ | k <;> rfl
  · rw [if_neg c]
    repeat rw [if_neg (by omega)]
theorem j3_S (e : hN h = 4) (a : Nat) : hS (j3 h) a = if 11 ≤ a ∧ a < 12 then shp a else hS (j2 h) a := by
  simp only [j3, hS_sR, hS_sI, hS_nw, hR_sR, hR_sI, hR_nw, hN_sR, hN_sI, hN_nw, j2_N e, Nat.reduceAdd, Nat.reduceMul]
  by_cases c : 11 ≤ a ∧ a < 12
  · rw [if_pos c]
    have q : a = 11 := by omega
    rcases q with rfl <;> rfl
  · rw [if_neg c]
    repeat rw [if_neg (by omega)]
theorem j3_R (e : hN h = 4) (a k : Nat) : hR (j3 h) a k = if a = 3 ∧ k = 2 then 11 else if 11 ≤ a ∧ a < 12 then rfs a k else hR (j2 h) a k := by
  simp only [j3, hS_sR, hS_sI, hS_nw, hR_sR, hR_sI, hR_nw, hN_sR, hN_sI, hN_nw, j2_N e, Nat.reduceAdd, Nat.reduceMul]
  by_cases c3 : a = 3 ∧ k = 2
  · rw [if_pos c3, if_pos c3]
  rw [if_neg c3, if_neg c3]
  by_cases c : 11 ≤ a ∧ a < 12
  · rw [if_pos c]
    have q : a = 11 := by omega
    rcases q with rfl <;> rcases k with _ | _ | _ | _ | _ | k <;> rfl
  · rw [if_neg c]
    repeat rw [if_neg (by omega)]
theorem j4_S (e : hN h = 4) (a : Nat) : hS (j4 h) a = if 12 ≤ a ∧ a < 18 then shp a else hS (j3 h) a := by
  simp only [j4, iS, iL, hS_sR, hS_sI, hS_nw, hR_sR, hR_sI, hR_nw, hN_sR, hN_sI, hN_nw, j3_N e, Nat.reduceAdd, Nat.reduceMul]
  by_cases c : 12 ≤ a ∧ a < 18
  · rw [if_pos c]
    have q : a = 12 ∨ a = 13 ∨ a = 14 ∨ a = 15 ∨ a = 16 ∨ a = 17 := by omega
    rcases q with rfl | rfl | rfl | rfl | rfl | rfl <;> rfl
  · rw [if_neg c]
    repeat rw [if_neg (by omega)]
theorem j4_R (e : hN h = 4) (a k : Nat) : hR (j4 h) a k = if a = 3 ∧ k = 3 then 12 else if 12 ≤ a ∧ a < 18 then rfs a k else hR (j3 h) a k := by
  simp only [j4, iS, iL, hS_sR, hS_sI, hS_nw, hR_sR, hR_sI, hR_nw, hN_sR, hN_sI, hN_nw, j3_N e, Nat.reduceAdd, Nat.reduceMul]
  by_cases c3 : a = 3 ∧ k = 3
  · rw [if_pos c3, if_pos c3]
  rw [if_neg c3, if_neg c3]
  by_cases c : 12 ≤ a ∧ a < 18
  · rw [if_pos c]
    have q : a = 12 ∨ a = 13 ∨ a = 14 ∨ a = 15 ∨ a = 16 ∨ a = 17 := by omega
    rcases q with rfl | rfl | rfl | rfl | rfl | rfl <;> rcases k with _ | _ | _ | _ | _ | k <;> rfl
  · rw [if_neg c]
    repeat rw [if_neg (by omega)]
theorem j5_S (e : hN h = 4) (a : Nat) : hS (j5 h) a = if 18 ≤ a ∧ a < 20 then shp a else hS (j4 h) a := by
  simp only [j5, iH, hS_sR, hS_sI, hS_nw, hR_sR, hR_sI, hR_nw, hN_sR, hN_sI, hN_nw, j4_N e, Nat.reduceAdd, Nat.reduceMul]
  by_cases c : 18 ≤ a ∧ a < 20
  · rw [if_pos c]
    have q : a = 18 ∨ a = 19 := by omega
    rcases q with rfl | rfl <;> rfl
  · rw [if_neg c]
    repeat rw [if_neg (by omega)]
theorem j5_R (e : hN h = 4) (a k : Nat) : hR (j5 h) a k = if a = 3 ∧ k = 4 then 18 else if 18 ≤ a ∧ a < 20 then rfs a k else hR (j4 h) a k := by
  simp only [j5, iH, hS_sR, hS_sI, hS_nw, hR_sR, hR_sI, hR_nw, hN_sR, hN_sI, hN_nw, j4_N e, Nat.reduceAdd, Nat.reduceMul]
  by_cases c3 : a = 3 ∧ k = 4
  · rw [if_pos c3, if_pos c3]
  rw [if_neg c3, if_neg c3]
  by_cases c : 18 ≤ a ∧ a < 20
  · rw [if_pos c]
    have q : a = 18 ∨ a = 19 := by omega
    rcases q with rfl | rfl <;> rcases k with _ | _ | _ | _ | _ | k <;> rfl
  · rw [if_neg c]
    repeat rw [if_neg (by omega)]
theorem j6_S (e : hN h = 4) (a : Nat) : hS (j6 h) a = if 20 ≤ a ∧ a < 22 then shp a else hS (j5 h) a := by
  simp only [j6, iH, hS_sR, hS_sI, hS_nw, hR_sR, hR_sI, hR_nw, hN_sR, hN_sI, hN_nw, j5_N e, Nat.reduceAdd, Nat.reduceMul]
  by_cases c : 20 ≤ a ∧ a < 22
  · rw [if_pos c]
    have q : a = 20 ∨ a = 21 := by omega
    rcases q with rfl | rfl <;> rfl
  · rw [if_neg c]
    repeat rw [if_neg (by omega)]
theorem j6_R (e : hN h = 4) (a k : Nat) : hR (j6 h) a k = if a = 3 ∧ k = 5 then 20 else if 20 ≤ a ∧ a < 22 then rfs a k else hR (j5 h) a k := by
  simp only [j6, iH, hS_sR, hS_sI, hS_nw, hR_sR, hR_sI, hR_nw, hN_sR, hN_sI, hN_nw, j5_N e, Nat.reduceAdd, Nat.reduceMul]
  by_cases c3 : a = 3 ∧ k = 5
  · rw [if_pos c3, if_pos c3]
  rw [if_neg c3, if_neg c3]
  by_cases c : 20 ≤ a ∧ a < 22
  · rw [if_pos c]
    have q : a = 20 ∨ a = 21 := by omega
    rcases q with rfl | rfl <;> rcases k with _ | _ | _ | _ | _ | k <;> rfl
  · rw [if_neg c]
    repeat rw [if_neg (by omega)]
theorem j7_S (e : hN h = 4) (a : Nat) : hS (j7 h) a = if 22 ≤ a ∧ a < 24 then shp a else hS (j6 h) a := by
  simp only [j7, iL, hS_sR, hS_sI, hS_nw, hR_sR, hR_sI, hR_nw, hN_sR, hN_sI, hN_nw, j6_N e, Nat.reduceAdd, Nat.reduceMul]
  by_cases c : 22 ≤ a ∧ a < 24
  · rw [if_pos c]
    have q : a = 22 ∨ a = 23 := by omega
    rcases q with rfl | rfl <;> rfl
  · rw [if_neg c]
    repeat rw [if_neg (by omega)]
theorem j7_R (e : hN h = 4) (a k : Nat) : hR (j7 h) a k = if a = 3 ∧ k = 6 then 22 else if 22 ≤ a ∧ a < 24 then rfs a k else hR (j6 h) a k := by
  simp only [j7, iL, hS_sR, hS_sI, hS_nw, hR_sR, hR_sI, hR_nw, hN_sR, hN_sI, hN_nw, j6_N e, Nat.reduceAdd, Nat.reduceMul]
  by_cases c3 : a = 3 ∧ k = 6
  · rw [if_pos c3, if_pos c3]
  rw [if_neg c3, if_neg c3]
  by_cases c : 22 ≤ a ∧ a < 24
  · rw [if_pos c]
    have q : a = 22 ∨ a = 23 := by omega
    rcases q with rfl | rfl <;> rcases k with _ | _ | _ | _ | _ | k <;> rfl
  · rw [if_neg c]
    repeat rw [if_neg (by omega)]
theorem j8_S (e : hN h = 4) (a : Nat) : hS (j8 h) a = if 24 ≤ a ∧ a < 26 then shp a else hS (j7 h) a := by
  simp only [j8, iL, hS_sR, hS_sI, hS_nw, hR_sR, hR_sI, hR_nw, hN_sR, hN_sI, hN_nw, j7_N e, Nat.reduceAdd, Nat.reduceMul]
  by_cases c : 24 ≤ a ∧ a < 26
  · rw [if_pos c]
    have q : a = 24 ∨ a = 25 := by omega
    rcases q with rfl | rfl <;> rfl
  · rw [if_neg c]
    repeat rw [if_neg (by omega)]
theorem j8_R (e : hN h = 4) (a k : Nat) : hR (j8 h) a k = if a = 3 ∧ k = 7 then 24 else if 24 ≤ a ∧ a < 26 then rfs a k else hR (j7 h) a k := by
  simp only [j8, iL, hS_sR, hS_sI, hS_nw, hR_sR, hR_sI, hR_nw, hN_sR, hN_sI, hN_nw, j7_N e, Nat.reduceAdd, Nat.reduceMul]
  by_cases c3 : a = 3 ∧ k = 7
  · rw [if_pos c3, if_pos c3]
  rw [if_neg c3, if_neg c3]
  by_cases c : 24 ≤ a ∧ a < 26
  · rw [if_pos c]
    have q : a = 24 ∨ a = 25 := by omega
    rcases q with rfl | rfl <;> rcases k with _ | _ | _ | _ | _ | k <;> rfl
  · rw [if_neg c]
    repeat rw [if_neg (by omega)]
theorem j9_S (e : hN h = 4) (a : Nat) : hS (j9 h) a = if 26 ≤ a ∧ a < 32 then shp a else hS (j8 h) a := by
  simp only [j9, iI, hS_sR, hS_sI, hS_nw, hR_sR, hR_sI, hR_nw, hN_sR, hN_sI, hN_nw, j8_N e, Nat.reduceAdd, Nat.reduceMul]
  by_cases c : 26 ≤ a ∧ a < 32
  · rw [if_pos c]
    have q : a = 26 ∨ a = 27 ∨ a = 28 ∨ a = 29 ∨ a = 30 ∨ a = 31 := by omega
    rcases q with rfl | rfl | rfl | rfl | rfl | rfl <;> rfl
  · rw [if_neg c]
    repeat rw [if_neg (by omega)]
theorem j9_R (e : hN h = 4) (a k : Nat) : hR (j9 h) a k = if a = 3 ∧ k = 8 then 26 else if 26 ≤ a ∧ a < 32 then rfs a k else hR (j8 h) a k := by
  simp only [j9, iI, hS_sR, hS_sI, hS_nw, hR_sR, hR_sI, hR_nw, hN_sR, hN_sI, hN_nw, j8_N e, Nat.reduceAdd, Nat.reduceMul]
  by_cases c3 : a = 3 ∧ k = 8
  · rw [if_pos c3, if_pos c3]
  rw [if_neg c3, if_neg c3]
  by_cases c : 26 ≤ a ∧ a < 32
  · rw [if_pos c]
    have q : a = 26 ∨ a = 27 ∨ a = 28 ∨ a = 29 ∨ a = 30 ∨ a = 31 := by omega
    rcases q with rfl | rfl | rfl | rfl | rfl | rfl <;> rcases k with _ | _ | _ | _ | _ | k <;> rfl
  · rw [if_neg c]
    repeat rw [if_neg (by omega)]
theorem j10_S (e : hN h = 4) (a : Nat) : hS (j10 h) a = if 32 ≤ a ∧ a < 38 then shp a else hS (j9 h) a := by
  simp only [j10, iI, hS_sR, hS_sI, hS_nw, hR_sR, hR_sI, hR_nw, hN_sR, hN_sI, hN_nw, j9_N e, Nat.reduceAdd, Nat.reduceMul]
  by_cases c : 32 ≤ a ∧ a < 38
  · rw [if_pos c]
    have q : a = 32 ∨ a = 33 ∨ a = 34 ∨ a = 35 ∨ a = 36 ∨ a = 37 := by omega
    rcases q with rfl | rfl | rfl | rfl | rfl | rfl <;> rfl
  · rw [if_neg c]
    repeat rw [if_neg (by omega)]
theorem j10_R (e : hN h = 4) (a k : Nat) : hR (j10 h) a k = if a = 3 ∧ k = 9 then 32 else if 32 ≤ a ∧ a < 38 then rfs a k else hR (j9 h) a k := by
  simp only [j10, iI, hS_sR, hS_sI, hS_nw, hR_sR, hR_sI, hR_nw, hN_sR, hN_sI, hN_nw, j9_N e, Nat.reduceAdd, Nat.reduceMul]
  by_cases c3 : a = 3 ∧ k = 9
  · rw [if_pos c3, if_pos c3]
  rw [if_neg c3, if_neg c3]
  by_cases c : 32 ≤ a ∧ a < 38
  · rw [if_pos c]
    have q : a = 32 ∨ a = 33 ∨ a = 34 ∨ a = 35 ∨ a = 36 ∨ a = 37 := by omega
    rcases q with rfl | rfl | rfl | rfl | rfl | rfl <;> rcases k with _ | _ | _ | _ | _ | k <;> rfl
  · rw [if_neg c]
    repeat rw [if_neg (by omega)]
theorem j11_S (e : hN h = 4) (a : Nat) : hS (j11 h) a = if 38 ≤ a ∧ a < 44 then shp a else hS (j10 h) a := by
  simp only [j11, iI, hS_sR, hS_sI, hS_nw, hR_sR, hR_sI, hR_nw, hN_sR, hN_sI, hN_nw, j10_N e, Nat.reduceAdd, Nat.reduceMul]
  by_cases c : 38 ≤ a ∧ a < 44
  · rw [if_pos c]
    have q : a = 38 ∨ a = 39 ∨ a = 40 ∨ a = 41 ∨ a = 42 ∨ a = 43 := by omega
    rcases q with rfl | rfl | rfl | rfl | rfl | rfl <;> rfl
  · rw [if_neg c]
    repeat rw [if_neg (by omega)]
theorem j11_R (e : hN h = 4) (a k : Nat) : hR (j11 h) a k = if a = 3 ∧ k = 10 then 38 else if 38 ≤ a ∧ a < 44 then rfs a k else hR (j10 h) a k := by
  simp only [j11, iI, hS_sR, hS_sI, hS_nw, hR_sR, hR_sI, hR_nw, hN_sR, hN_sI, hN_nw, j10_N e, Nat.reduceAdd, Nat.reduceMul]
  by_cases c3 : a = 3 ∧ k = 10
  · rw [if_pos c3, if_pos c3]
  rw [if_neg c3, if_neg c3]
  by_cases c : 38 ≤ a ∧ a < 44
  · rw [if_pos c]
    have q : a = 38 ∨ a = 39 ∨ a = 40 ∨ a = 41 ∨ a = 42 ∨ a = 43 := by omega
    rcases q with rfl | rfl | rfl | rfl | rfl | rfl <;> rcases k with _ | _ | _ | _ | _ | k <;> rfl
  · rw [if_neg c]
    repeat rw [if_neg (by omega)]
theorem made_S (e : hN h = 4) (e3 : hS h 3 = (1, 7)) {a : Nat} (h3 : 3 ≤ a) (h4 : a < 44) : hS (j11 h) a = shp a := by
  simp only [j11_S e, j10_S e, j9_S e, j8_S e, j7_S e, j6_S e, j5_S e, j4_S e, j3_S e, j2_S e, j1_S e]
  repeat' split
  all_goals first
    | rfl
    | (have : a = 3 := by omega
       subst this
       exact e3)
theorem made_R (e : hN h = 4) {a k : Nat} (h3 : 3 ≤ a ∧ a < 44) (hk : rfs a k ≠ 0) : hR (j11 h) a k = rfs a k := by
  simp only [j11_R e, j10_R e, j9_R e, j8_R e, j7_R e, j6_R e, j5_R e, j4_R e, j3_R e, j2_R e, j1_R e]
  by_cases c : a = 3
  · subst c
    have q : k = 0 ∨ k = 1 ∨ k = 2 ∨ k = 3 ∨ k = 4 ∨ k = 5 ∨ k = 6 ∨ k = 7 ∨ k = 8 ∨ k = 9 ∨ k = 10 ∨ 11 ≤ k := by omega
    rcases q with rfl | rfl | rfl | rfl | rfl | rfl | rfl | rfl | rfl | rfl | rfl | q
    · rfl
    · rfl
    · rfl
    · rfl
    · rfl
    · rfl
    · rfl
    · rfl
    · exact absurd rfl hk
    · exact absurd rfl hk
    · rfl
    · refine absurd ?_ hk
      show [4, 7, 11, 12, 18, 20, 22, 24, 0, 0, 38].getD k 0 = 0
      rw [List.getD_eq_getElem?_getD, List.getElem?_eq_none (by simpa using q)]
      rfl
  · simp only [c, false_and, if_false]
    repeat' split
    all_goals first
      | rfl
      | (exfalso; omega)
theorem made_GS (e : hN h = 4) (e3 : hS h 3 = (1, 7)) : GS (j11 h) := by
  refine ⟨fun a h3 h4 => made_S e e3 h3 h4, fun a k h3 hk => made_R e h3 hk, Or.inl ⟨?_, ?_⟩⟩
  · simp only [j11_R e, j10_R e, j9_R e]
    rfl
  · simp only [j11_R e, j10_R e]
    rfl
end MADE
