/-! BOTH ANSWER ALIKE: night, hums, odds, fault -/
section AGR2
variable {h h' h1 : aH} {D : Nat → Int32} {n a r nt zu zk zr i j k : Nat} {x y z w hr : Int32} {P P' : Nat → Int32}
theorem pop_eq {c : Nat → Bool} {G : Nat} (hG : G ≤ 5) : popC (bitsF c G) = bitF (bitsF c G) := by
  obtain ⟨m, -, e1, e2⟩ := pop_bits (c := c) hG
  rw [e1, e2]
theorem pop_wake {K S T L P : Nat → Int32} {rn : Int32} {G : Nat} (hG : G ≤ 5) : popC (wakeF K S T L P rn w hr G) = bitF (wakeF K S T L P rn w hr G) := pop_eq hG
def nightX (D P : Nat → Int32) (w : Int32) : Int32 := foldN (fun k s => s + bitF (wakeF (DA D 6) (DA D 11) (DA D 16) (DA D 21) P (D 3) w (nI k) (gN D))) 0 8
theorem nightX_congr (hP : agr (gN D) P P') : nightX D P w = nightX D P' w := by
  unfold nightX
  refine foldN_congr (fun k hk s => ?_)
  rw [wakeF_congr agr.rfl' agr.rfl' agr.rfl' agr.rfl' hP]
theorem m1_iff (q : ¬ x < -1 ∧ x < 0) : x = -1 := by
  obtain ⟨q1, q2⟩ := q
  rw [Int32.lt_iff_toInt_lt] at q1 q2
  apply Int32.toInt_inj.mp
  have e1 : (-1 : Int32).toInt = -1 := by decide
  have e0 : (0 : Int32).toInt = 0 := by decide
  omega
theorem lt_m1 (q : ¬ x < 0) : ¬ x < -1 := by
  rw [Int32.lt_iff_toInt_lt] at q ⊢
  have e1 : (-1 : Int32).toInt = -1 := by decide
  have e0 : (0 : Int32).toInt = 0 := by decide
  omega
theorem a_night (R : Rel h) : Agr h 97 [.ref 3, .int x] 168 [.ref 44, .int x] := by
  obtain ⟨D, n, a, r, nt, zu, zk, zr, R⟩ := R
  have h5 := R.g5
  by_cases c0 : x = -1
  · subst c0
    obtain ⟨h', fr, k'⟩ := m_nightAll R.M
    refine rel_scr R ?_ (fun Q => (c_night R.C).trans (iff_if rfl)) fr k'
    unfold nightA nightM
    refine foldN_congr (fun k hk s => ?_)
    rw [pop_wake h5]
    unfold wakeN
    rw [R.wkC R.P, R.wakeMm R.P52, R.wl, as14]
  · by_cases c : ¬ x < 0 ∧ ¬ 7 < x
    · obtain ⟨h', fr, k'⟩ := m_night1 R.M ⟨lt_m1 c.1, c.2⟩ c.1
      refine rel_scr R ?_ (fun Q => (c_night R.C).trans ((iff_ifn c0).trans (iff_if c))) fr k'
      unfold wakeA wakeN
      rw [R.wkC R.P, R.wakeMm R.P52, R.wl, as14]
    · exact rel_same R rfl (fun Q => (c_night R.C).trans ((iff_ifn c0).trans (iff_ifn c))) (fun Q => m_nightNo R.M (fun q => by
        by_cases z : x < 0
        · exact c0 (m1_iff ⟨q.1, z⟩)
        · exact c ⟨z, q.2⟩))
theorem RelP.note (R : RelP h D n a r nt zu zk zr) (hi : i < gN D) : ∃ v, v < 13 ∧ D (16 + i) = nI v := by
  obtain ⟨-, -, ⟨v, hv, e⟩, -⟩ := R.W.2.2.2.2.2.2.2.1 i hi
  exact ⟨v, by omega, e⟩
theorem RelP.room (R : RelP h D n a r nt zu zk zr) : ∃ v, v < 13 ∧ D 3 = nI v := by
  obtain ⟨v, hv, e⟩ := R.W.2.2.2.1
  exact ⟨v, by omega, e⟩
theorem hum_sym (R : RelP h D n a r nt zu zk zr) (hi : i < gN D) (hj : j < gN D) : humF (D (16 + i)) (D (16 + j)) (D 3) = humF (D (16 + j)) (D (16 + i)) (D 3) := by
  obtain ⟨u, hu, eu⟩ := R.note hi
  obtain ⟨v, hv, ev⟩ := R.note hj
  obtain ⟨p, hp, ep⟩ := R.room
  rw [eu, ev, ep]
  have a1 := hum_m u hu v hv p hp
  have a2 := hum_m v hv u hu p hp
  have : humF (nI u) (nI v) (nI p) = true ↔ humF (nI v) (nI u) (nI p) = true := by
    rw [a1, a2, Int32.add_comm (nI u) (nI v)]
    constructor
    · rintro (q | q | q)
      · exact Or.inr (Or.inl q)
      · exact Or.inl q
      · exact Or.inr (Or.inr q)
    · rintro (q | q | q)
      · exact Or.inr (Or.inl q)
      · exact Or.inl q
      · exact Or.inr (Or.inr q)
  exact Bool.eq_iff_iff.mpr this
theorem a_hums (R : Rel h) : Agr h 101 [.ref 3, .int x] 172 [.ref 44, .int x, .null, .null] := by
  obtain ⟨D, n, a, r, nt, zu, zk, zr, R⟩ := R
  by_cases c : ¬ x < 0 ∧ x < hI h a 5
  · obtain ⟨i, hi, rfl⟩ := R.gI c
    refine rel_scr R ?_ (fun Q => c_hums R.C hi) (as_SF h) (fun Q => m_hums R.M hi)
    refine bitsF_congr (fun j hj => ?_)
    unfold humsC
    rw [R.P i hi, R.P j hj, R.P52 i hi, R.P52 j hj, R.A3 i hi, R.A3 j hj, R.k9]
    show (nextF _ _ && humF (D (16 + i)) (D (16 + j)) (D 3)) = _
    rw [hum_sym R hi hj]
  · exact rel_same R rfl (fun Q => c_humsNo R.C c) (fun Q => m_humsNo R.gm (fun q => c (R.isG.mpr q)))
theorem a_fault (R : Rel h) : Agr h 83 [.ref 3] 135 [.ref 44] := by
  obtain ⟨D, n, a, r, nt, zu, zk, zr, R⟩ := R
  obtain ⟨h1, f1, k1⟩ := c_fault R.T R.1.2.1.2.1 (by have := R.1.2.1.2.2; omega)
  have R' := R.Fr f1
  obtain ⟨h2, f2, k2⟩ := m_fault R'.MT
  refine ⟨_, h1, h2, (R'.MFr f2).rel, k1, fun Q => ?_⟩
  rw [k2 Q, parse_eq (a := hI h 5) (b := hI h1 45) (n := nt) (fun p hp => ?_)]
  rw [f1.2 45 p (by decide) (by omega) (by have := R.1.2.1.2.2; omega)]
  exact R.2.1.2.2.2 p hp
theorem sndF_congr {K K' S S' T T' : Nat → Int32} {rn : Int32} {G : Nat} (hK : agr G K K') (hS : agr G S S') (hT : agr G T T') (hP : agr G P P') (hi : i < G) (hj : j < G) : sndF K S T P rn w hr j i = sndF K' S' T' P' rn w hr j i := by
  unfold sndF
  rw [hK j hj, hS j hj, hT j hj, hT i hi, hP j hj, hP i hi]
theorem RelP.sfb (R : RelP h D n a r nt zu zk zr) (hi : i < gN D) (u : Int32) : sfbA h a (gN D) u i = if fstN (fun j => decide (hI h 48 j = u)) (gN D) < gN D then sndF (DA D 6) (DA D 11) (DA D 16) (hI h 48) (D 3) (hI h 48 5) (hI h 48 6) (fstN (fun j => decide (hI h 48 j = u)) (gN D)) i else 0 := by
  have ef : fstN (fun j => decide (hI h 23 j = u)) (gN D) = fstN (fun j => decide (hI h 48 j = u)) (gN D) := fstN_congr _ (fun j hj => by rw [R.P j hj])
  unfold sfbA
  rw [ef]
  by_cases c : fstN (fun j => decide (hI h 48 j = u)) (gN D) < gN D
  · have hu := of_decide_eq_true (fstN_yes (fun j => decide (hI h 48 j = u)) (gN D) c)
    obtain ⟨b, hb, eb⟩ := R.pl c
    have inb : ¬ u < 0 ∧ u < hI h a 6 := by
      have b6 := R.B.2.2
      rw [R.k6, ← hu, eb]
      exact ⟨nI_pos (by omega), nI_lt hb (by omega)⟩
    rw [if_pos ⟨inb, c⟩, if_pos c]
    unfold sndA
    rw [R.k9, R.wl, R.hr]
    exact sndF_congr R.A1 R.A2 R.A3 R.P hi c
  · rw [if_neg (fun q => c q.2), if_neg c]
theorem RelP.light (R : RelP h D n a r nt zu zk zr) (hi : i < gN D) : 0 < D (21 + i) := by
  obtain ⟨-, -, -, v, h1, h2, e⟩ := R.W.2.2.2.2.2.2.2.1 i hi
  rw [e]
  exact nI_lt (a := 0) (by omega) (by omega)
theorem a_odds (R : Rel h) : Agr h 102 [.ref 3, .int x, .int y, .int z] 173 [.ref 44, .int x, .int y, .int z, .null, .null, .null, .null, .null] := by
  obtain ⟨D, n, a, r, nt, zu, zk, zr, R⟩ := R
  have h5 := R.g5
  by_cases c : (¬ x < 0 ∧ x < hI h a 5) ∧ (¬ y < 0 ∧ ¬ 10 < y) ∧ (z = 0 ∨ z = 1)
  · obtain ⟨c1, c2, c3⟩ := c
    obtain ⟨i, hi, rfl⟩ := R.gI c1
    have c2' : ¬ y < 0 ∧ y < nI 11 := (range_iff (m := 11) (by decide) (by decide)).mpr (by rw [nI_m1 (by decide)]; exact c2)
    obtain ⟨m, hm, rfl⟩ := range_nI (by decide) c2'
    obtain ⟨h', fr, k'⟩ := m_odds R.M hi hm c3
    refine rel_scr R ?_ (fun Q => c_odds R.C hi hm c3) fr k'
    have qe : aboN (gN D) i m (qM h D i) (2 ^ gN D) = aboN (gN D) i m (fun s => decide (hearS (DA D 6) (DA D 11) (DA D 16) (hI h 48) (D 3) (hI h 48 5) (hI h 48 6) (nI s) (gN D) i < D (21 + i))) (2 ^ gN D) := by
      refine aboN_congr (fun s _ => ?_)
      unfold qM
      have : hearS (hI (asH h) 53) (DA D 11) (DA D 16) (hI (asH h) 52) (D 3) (hI (asH h) 44 14) (hI (asH h) 44 15) (nI s) (gN D) i = hearS (DA D 6) (DA D 11) (DA D 16) (hI h 48) (D 3) (hI h 48 5) (hI h 48 6) (nI s) (gN D) i := by
        unfold hearS
        refine foldN_congr (fun j hj t => ?_)
        rw [R.P52 i hi, R.P52 j hj, as14, as15, sndF_congr R.K53 agr.rfl' agr.rfl' R.P52 hi hj]
      rw [this]
    have key := odds_agree (K := DA D 6) (S := DA D 11) (T := DA D 16) (P := hI h 48) (rn := D 3) (w := hI h 48 5) (hr := hI h 48 6) ⟨R.B.1, h5⟩ R.di hi hm (R.light hi) rfl rfl rfl rfl
    rw [← qe, ← R.sfb hi, ← R.sfb hi, ← R.P i hi] at key
    have bpos : 0 < 10 ^ (gN D - 1) := Nat.pos_of_ne_zero (by simp)
    have eq : quiA h a (gN D) i m = quiN (decide (sfbA h a (gN D) (hI h 23 i - 1) i < D (21 + i))) (decide (sfbA h a (gN D) (hI h 23 i + 1) i < D (21 + i))) (decide (sfbA h a (gN D) (hI h 23 i - 1) i + sfbA h a (gN D) (hI h 23 i + 1) i < D (21 + i))) m := by
      unfold quiA
      rw [R.A4 i hi]
    rw [← eq] at key
    obtain ⟨e1, e2⟩ := low_terms bpos (by decide : 0 < 100) key
    rcases c3 with rfl | rfl
    · rw [if_pos rfl, if_pos rfl, e1]
    · rw [if_neg (by decide), if_neg (by decide), e2]
  · refine rel_same R rfl (fun Q => c_oddsNo R.C c) (fun Q => m_oddsNo R.gm (fun q => c ⟨R.isG.mpr q.1, q.2.1, two_iff.mpr q.2.2⟩))
end AGR2
