/-! ODDS: both answers are one -/
section ODDSM
variable {K S T P : Nat → Int32} {rn w hr t : Int32} {G i j k x jl jr : Nat} {q10 q01 q11 : Bool}
theorem okO_all (hG : 1 ≤ G ∧ G ≤ 5) (hi : i < G) (hl : jl ≤ G) (hr : jr ≤ G) (hx : x < 11) : okO G i jl jr x = true := by
  have key : allO G = true := by
    have : G = 1 ∨ G = 2 ∨ G = 3 ∨ G = 4 ∨ G = 5 := by omega
    rcases this with rfl | rfl | rfl | rfl | rfl
    · exact allO1
    · exact allO2
    · exact allO3
    · exact allO4
    · exact allO5
  unfold allO at key
  simp only [allB_iff] at key
  exact key i hi jl (by omega) jr (by omega) x hx
theorem odds_sum (hG : 1 ≤ G ∧ G ≤ 5) (hi : i < G) (hl : jl ≤ G) (hr : jr ≤ G) (hli : jl ≠ i) (hri : jr ≠ i) (hlr : jl = jr → jl = G) (hx : x < 11) (h1 : jl = G → q10 = true ∧ q11 = q01) (h2 : jr = G → q01 = true ∧ q11 = q10) : aboN G i x (setO G jl jr q10 q01 q11) (2 ^ G) * 100 = quiN q10 q01 q11 x * 10 ^ (G - 1) := by
  have a := okO_all hG hi hl hr hx
  unfold okO at a
  have n1 : (decide (jl = i) || decide (jr = i) || (decide (jl = jr) && decide (jl < G))) = false := by
    have : ¬ (jl = jr ∧ jl < G) := fun q => by have := hlr q.1; omega
    simp only [hli, hri, decide_false, Bool.false_or]
    rw [← Bool.decide_and]
    exact decide_eq_false this
  rw [n1, Bool.false_or] at a
  simp only [Bool.and_eq_true] at a
  have b : impO G i jl jr x q10 q01 q11 = true := by
    obtain ⟨⟨⟨⟨⟨⟨⟨a1, a2⟩, a3⟩, a4⟩, a5⟩, a6⟩, a7⟩, a8⟩ := a
    cases q10 <;> cases q01 <;> cases q11 <;> assumption
  unfold impO at b
  have c1 : (decide (jl < G) || (q10 && (q11 == q01))) = true := by
    by_cases c : jl < G
    · rw [decide_eq_true c, Bool.true_or]
    · obtain ⟨e1, e2⟩ := h1 (by omega)
      rw [e1, e2]
      simp
  have c2 : (decide (jr < G) || (q01 && (q11 == q10))) = true := by
    by_cases c : jr < G
    · rw [decide_eq_true c, Bool.true_or]
    · obtain ⟨e1, e2⟩ := h2 (by omega)
      rw [e1, e2]
      simp
  rw [c1, c2, Bool.and_self, Bool.not_true, Bool.false_or] at b
  unfold eqO at b
  exact of_decide_eq_true b
theorem sub_is1 (p q : Int32) : (p - q = 1) ↔ q = p - 1 := by
  rw [Int32.sub_eq_iff_eq_add, Int32.eq_sub_iff_add_eq, Int32.add_comm 1 q]
  exact ⟨fun e => e.symm, fun e => e.symm⟩
theorem sub_ism1 (p q : Int32) : (p - q = -1) ↔ q = p + 1 := by
  rw [sub_m1, Int32.sub_eq_iff_eq_add, Int32.add_comm 1 p]
theorem next_iff (p q : Int32) : nextF p q = true ↔ q = p - 1 ∨ q = p + 1 := by
  unfold nextF
  simp only [Bool.or_eq_true, decide_eq_true_eq]
  rw [sub_is1, sub_ism1]
theorem m1_ne_p1 (p : Int32) : p - 1 ≠ p + 1 := by
  intro e
  rw [Int32.sub_eq_add_neg] at e
  have := (Int32.add_right_inj p).mp e
  exact absurd this (by decide)
/-- the guest in a bed, by number -/
theorem fst_at {P : Nat → Int32} {u : Int32} (hd : distP P G) (hj : j < G) : P j = u ↔ j = fstN (fun j => decide (P j = u)) G := by
  constructor
  · intro e
    have hle := fstN_le (fun j => decide (P j = u)) G
    by_cases c : fstN (fun j => decide (P j = u)) G < G
    · have := fstN_yes _ G c
      exact hd _ _ hj c (e.trans (of_decide_eq_true this).symm)
    · have := fstN_no (fun j => decide (P j = u)) G j (by omega)
      exact absurd e (of_decide_eq_false this)
  · intro e
    have c : fstN (fun j => decide (P j = u)) G < G := by rw [← e]; exact hj
    have := of_decide_eq_true (fstN_yes _ G c)
    rw [← e] at this
    exact this
theorem hear_two (hd : distP P G) (hi : i < G) (s : Int32) {jl jr : Nat} (hl : jl = fstN (fun j => decide (P j = P i - 1)) G) (hr' : jr = fstN (fun j => decide (P j = P i + 1)) G) : ∀ m, m ≤ G → hearS K S T P rn w hr s m i = (if jl < m ∧ bitB s jl = true then sndF K S T P rn w hr jl i else 0) + (if jr < m ∧ bitB s jr = true then sndF K S T P rn w hr jr i else 0) := by
  intro m
  induction m with
  | zero => intro _; rw [if_neg (by omega), if_neg (by omega)]; rfl
  | succ m ih =>
    intro hm
    have e : hearS K S T P rn w hr s (m + 1) i = if nextF (P i) (P m) = true ∧ bitB s m = true then hearS K S T P rn w hr s m i + sndF K S T P rn w hr m i else hearS K S T P rn w hr s m i := rfl
    rw [e, ih (by omega)]
    have f1 : P m = P i - 1 ↔ m = jl := by rw [hl]; exact fst_at hd (by omega)
    have f2 : P m = P i + 1 ↔ m = jr := by rw [hr']; exact fst_at hd (by omega)
    have nx : nextF (P i) (P m) = true ↔ m = jl ∨ m = jr := by rw [next_iff, f1, f2]
    have ne : m = jl → m ≠ jr := fun a b => m1_ne_p1 (P i) ((f1.mpr a).symm.trans (f2.mpr b))
    by_cases c1 : m = jl
    · have c2 := ne c1
      rw [if_neg (show ¬ (jl < m ∧ bitB s jl = true) by omega)]
      have r1 : (jr < m + 1 ∧ bitB s jr = true) ↔ (jr < m ∧ bitB s jr = true) := by
        constructor
        · intro q; exact ⟨by omega, q.2⟩
        · intro q; exact ⟨by omega, q.2⟩
      simp only [r1]
      by_cases c3 : bitB s m = true
      · rw [if_pos ⟨nx.mpr (Or.inl c1), c3⟩, if_pos (show jl < m + 1 ∧ bitB s jl = true from ⟨by omega, by rw [← c1]; exact c3⟩), Int32.zero_add, Int32.add_comm, c1]
      · rw [if_neg (fun q => c3 q.2), if_neg (show ¬ (jl < m + 1 ∧ bitB s jl = true) from fun q => c3 (by rw [c1]; exact q.2))]
    · have r0 : (jl < m + 1 ∧ bitB s jl = true) ↔ (jl < m ∧ bitB s jl = true) := by
        constructor
        · intro q; exact ⟨by omega, q.2⟩
        · intro q; exact ⟨by omega, q.2⟩
      simp only [r0]
      by_cases c2 : m = jr
      · rw [if_neg (show ¬ (jr < m ∧ bitB s jr = true) by omega), Int32.add_zero]
        by_cases c3 : bitB s m = true
        · rw [if_pos ⟨nx.mpr (Or.inr c2), c3⟩, if_pos (show jr < m + 1 ∧ bitB s jr = true from ⟨by omega, by rw [← c2]; exact c3⟩), c2]
        · rw [if_neg (fun q => c3 q.2), if_neg (show ¬ (jr < m + 1 ∧ bitB s jr = true) from fun q => c3 (by rw [c2]; exact q.2)), Int32.add_zero]
      · have r1 : (jr < m + 1 ∧ bitB s jr = true) ↔ (jr < m ∧ bitB s jr = true) := by
          constructor
          · intro q; exact ⟨by omega, q.2⟩
          · intro q; exact ⟨by omega, q.2⟩
        simp only [r1]
        rw [if_neg (fun q => (nx.mp q.1).elim c1 c2)]
theorem aboN_congr {q q' : Nat → Bool} {m : Nat} (e : ∀ s, s < m → q s = q' s) : aboN G i x q m = aboN G i x q' m := by
  unfold aboN
  exact foldN_congr (fun k hk s => by rw [e k hk])
theorem bitB_N {s : Nat} (hs : s < 64) (hj : j < 6) : bitB (nI s) j = decide (s >>> j &&& 1 = 1) := by
  unfold bitB
  rw [(bit64 s hs j hj).1]
  have : (nI (s >>> j &&& 1) = 1) = (s >>> j &&& 1 = 1) := nI_eq_iff (b := 1) (Nat.lt_of_le_of_lt Nat.and_le_right (by decide)) (by decide)
  simp only [this]
theorem odds_agree (hG : 1 ≤ G ∧ G ≤ 5) (hd : distP P G) (hi : i < G) (hx : x < 11) (ht : 0 < t) {jl jr : Nat} (hl : jl = fstN (fun j => decide (P j = P i - 1)) G) (hr' : jr = fstN (fun j => decide (P j = P i + 1)) G) {l r : Int32} (el : l = if jl < G then sndF K S T P rn w hr jl i else 0) (er : r = if jr < G then sndF K S T P rn w hr jr i else 0) : aboN G i x (fun s => decide (hearS K S T P rn w hr (nI s) G i < t)) (2 ^ G) * 100 = quiN (decide (l < t)) (decide (r < t)) (decide (l + r < t)) x * 10 ^ (G - 1) := by
  have ll : jl ≤ G := by rw [hl]; exact fstN_le _ _
  have lr : jr ≤ G := by rw [hr']; exact fstN_le _ _
  have li : jl ≠ i := fun e => by
    have := (fst_at (u := P i - 1) hd hi).mpr (by rw [← hl]; exact e.symm)
    have h2 := (sub_is1 (P i) (P i)).mpr this
    rw [Int32.sub_self] at h2
    exact absurd h2 (by decide)
  have ri : jr ≠ i := fun e => by
    have := (fst_at (u := P i + 1) hd hi).mpr (by rw [← hr']; exact e.symm)
    have h2 := (sub_ism1 (P i) (P i)).mpr this
    rw [Int32.sub_self] at h2
    exact absurd h2 (by decide)
  have lrne : jl = jr → jl = G := fun e => by
    by_cases c : jl < G
    · have f1 := (fst_at (u := P i - 1) hd c).mpr hl
      have f2 := (fst_at (u := P i + 1) hd c).mpr (e.trans hr')
      exact absurd (f1.symm.trans f2) (m1_ne_p1 _)
    · omega
  have g2 : 2 ^ G ≤ 32 := Nat.pow_le_pow_right (n := 2) (j := 5) (by decide) hG.2
  have t0 : decide ((0 : Int32) < t) = true := decide_eq_true ht
  have e1 : jl = G → l = 0 := fun e => by rw [el, if_neg (by omega)]
  have e2 : jr = G → r = 0 := fun e => by rw [er, if_neg (by omega)]
  rw [← odds_sum (q10 := decide (l < t)) (q01 := decide (r < t)) (q11 := decide (l + r < t)) hG hi ll lr li ri lrne hx (fun e => by rw [e1 e, Int32.zero_add]; exact ⟨t0, rfl⟩) (fun e => by rw [e2 e, Int32.add_zero]; exact ⟨t0, rfl⟩)]
  congr 1
  refine aboN_congr (fun s hs => ?_)
  have hh := hear_two (K := K) (S := S) (T := T) (rn := rn) (w := w) (hr := hr) hd hi (nI s) hl hr' G (Nat.le_refl G)
  rw [hh]
  unfold setO qfO
  by_cases c1 : jl < G
  · rw [if_pos c1] at el
    have b1 := bitB_N (s := s) (show s < 64 by omega) (show jl < 6 by omega)
    by_cases c2 : jr < G
    · rw [if_pos c2] at er
      have b2 := bitB_N (s := s) (show s < 64 by omega) (show jr < 6 by omega)
      rw [← el, ← er, b1, b2]
      by_cases d1 : s >>> jl &&& 1 = 1 <;> by_cases d2 : s >>> jr &&& 1 = 1 <;> simp only [c1, c2, d1, d2, decide_true, decide_false, Bool.true_and, Bool.and_self, Bool.and_false, and_self, and_true, and_false, if_true, if_false, Bool.false_eq_true, Int32.zero_add, Int32.add_zero, t0]
    · rw [if_neg c2] at er
      rw [← el, b1, er]
      by_cases d1 : s >>> jl &&& 1 = 1 <;> simp only [c1, c2, d1, decide_true, decide_false, Bool.true_and, Bool.false_and, Bool.and_self, and_self, and_true, false_and, true_and, if_true, if_false, Bool.false_eq_true, Int32.zero_add, Int32.add_zero, t0]
  · rw [if_neg c1] at el
    by_cases c2 : jr < G
    · rw [if_pos c2] at er
      have b2 := bitB_N (s := s) (show s < 64 by omega) (show jr < 6 by omega)
      rw [← er, b2, el]
      by_cases d2 : s >>> jr &&& 1 = 1 <;> simp only [c1, c2, d2, decide_true, decide_false, Bool.true_and, Bool.false_and, Bool.and_self, and_self, and_true, false_and, true_and, if_true, if_false, Bool.false_eq_true, Int32.zero_add, Int32.add_zero, t0]
    · simp only [c1, c2, decide_false, Bool.false_and, false_and, if_false, Bool.false_eq_true, Int32.add_zero, t0]
theorem low_terms {a b c d : Nat} (hb : 0 < b) (hd : 0 < d) (e : a * d = c * b) : a / Nat.gcd a b = c / Nat.gcd c d ∧ b / Nat.gcd a b = d / Nat.gcd c d := by
  have h1 : Nat.gcd (a * d) (b * d) = Nat.gcd a b * d := Nat.gcd_mul_right _ _ _
  have h2 : Nat.gcd (c * b) (d * b) = Nat.gcd c d * b := Nat.gcd_mul_right _ _ _
  have h3 : Nat.gcd a b * d = Nat.gcd c d * b := by rw [← h1, ← h2, e, Nat.mul_comm b d]
  constructor
  · rw [← Nat.mul_div_mul_right a (Nat.gcd a b) hd, ← Nat.mul_div_mul_right c (Nat.gcd c d) hb, e, h3]
  · rw [← Nat.mul_div_mul_right b (Nat.gcd a b) hd, ← Nat.mul_div_mul_right d (Nat.gcd c d) hb, h3, Nat.mul_comm b d]
end ODDSM
