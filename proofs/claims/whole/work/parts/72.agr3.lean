/-! BOTH ANSWER ALIKE: the wall to stuff, feigned -/
section AGR3
variable {h h' h1 : aH} {D : Nat → Int32} {n a r nt zu zk zr i j k : Nat} {x y z w hr : Int32} {P P' : Nat → Int32}
theorem wtF_congr {st st' : Nat → Bool} {ni ni' : Nat → Int32} : ∀ m, (∀ p, p < m → st p = st' p ∧ (st p = false → ni p = ni' p)) → wtF st ni m = wtF st' ni' m := by
  intro m e
  unfold wtF
  refine foldN_congr (fun p hp s => ?_)
  obtain ⟨e1, e2⟩ := e p hp
  by_cases c : st p = true
  · have c' : st' p = true := by rw [← e1]; exact c
    rw [if_pos c, if_pos c']
  · have c' : ¬ st' p = true := by rw [← e1]; exact c
    rw [if_neg c, if_neg c', e2 (by simpa using c)]
theorem wall_tab : ∀ w, w < 32 → ∀ p, p < 5 → stufF (nI w) (nI p) = (!decide (nI w >>> (nI p &&& 31) &&& 1 = 0)) ∧ (stufF (nI w) (nI p) = false → nI w ^^^ 1 <<< (nI p &&& 31) = nI w ||| 1 <<< (nI p &&& 31)) := by decide +kernel
theorem RelP.nightC (R : RelP h D n a r nt zu zk zr) (w : Int32) : nightC h a (gN D) w = nightX D (hI h 48) w := by
  have h5 := R.g5
  refine foldN_congr (fun k hk s => ?_)
  rw [pop_wake h5, R.wkC R.P]
theorem RelP.nightW (R : RelP h D n a r nt zu zk zr) (w : Int32) : nightW (hI (asH h) 53) (hI (asH h) 52) D w = nightX D (hI h 48) w := by
  refine foldN_congr (fun k hk s => ?_)
  rw [R.wakeMm R.P52]
theorem a_wallTo (R : Rel h) : Agr h 95 [.ref 3, .int x, .null, .null, .null, .null] 166 [.ref 44, .int x, .null, .null, .null, .null, .null] := by
  obtain ⟨D, n, a, r, nt, zu, zk, zr, R⟩ := R
  obtain ⟨b1, b2, b3⟩ := R.B
  by_cases hx : x = 0 ∨ x = 1
  · obtain ⟨h1, f1, k1⟩ := c_wallTo R.C hx R.k6 ⟨by omega, b3⟩
    have R' := R.CF f1
    obtain ⟨h2, f2, k2⟩ := m_wallTo R'.M hx R.n1 ⟨by omega, b3⟩
    refine ⟨_, h1, h2, (R'.SF f2).rel, k1, fun Q => ?_⟩
    have e48 : ∀ j, hI h1 48 j = hI h 48 j := fun j => f1.2 48 j (by decide) (by decide) (by decide)
    have e : wtC h a (gN D) (n - 1) = wtM h1 D (n - 1) := by
      refine wtF_congr _ (fun p hp => ?_)
      obtain ⟨w, hw, ew⟩ := R.wv
      have t := wall_tab w hw p (by omega)
      rw [R.wl, ew, e48 5, ew]
      refine ⟨t.1, fun q => ?_⟩
      rw [R.nightC, R'.nightW, t.2 q]
      exact nightX_congr (fun j _ => (e48 j).symm)
    rw [k2 Q, e]
  · exact rel_same R rfl (fun Q => c_wallToNo (fun q => hx (Or.inl q)) (fun q => hx (Or.inr q))) (fun Q => m_wallToNo R.gm (fun q => hx (two_iff.mpr q)))
theorem wake_bit {K S T L P : Nat → Int32} {rn : Int32} {G : Nat} (hG : G ≤ 5) (hi : i < G) : wakeF K S T L P rn w hr G >>> (nI i &&& 31) &&& 1 = bi (¬ hearF K S T P rn w hr G i < L i) := by
  have := bitsF_at (c := wakeC K S T L P rn w hr G) hG hi
  rw [show wakeF K S T L P rn w hr G >>> (nI i &&& 31) &&& 1 = _ from this]
  unfold wakeC
  by_cases c : hearF K S T P rn w hr G i < L i
  · rw [bi_f (by simp [c]), bi_f (fun q => q c)]
  · rw [bi_t (by simp [c]), bi_t c]
theorem a_feigned (R : Rel h) : Agr h 100 [.ref 3, .null, .null] 171 [.ref 44, .null, .null, .null, .null] := by
  obtain ⟨D, n, a, r, nt, zu, zk, zr, R⟩ := R
  have h5 := R.g5
  obtain ⟨q1, q2, q3, w, t, o, q4⟩ := R.2.2.2.2.2
  obtain ⟨h1, f1, k1⟩ := c_feigned R.C (by rw [R.1.2.2.1.1.2.2.2.2.2]; exact R.W.2.2.2.2.2.1) q1 q3 (fun k hk => (q4 k hk).1)
  have R' := R.CF f1
  have q2' : hI h1 44 10 = nI zr := by rw [f1.2 44 10 (by decide) (by decide) (by decide)]; exact q2
  obtain ⟨h2, f2, k2⟩ := m_feigned R'.M q2' q3 w t o (fun k hk => by
    rw [f1.2 51 k (by decide) (by decide) (by decide)]
    exact ⟨(q4 k hk).2.2.2, (q4 k hk).1.2, (q4 k hk).2.1.2, (q4 k hk).2.2.1.2⟩)
  refine ⟨_, h1, h2, (R'.SF f2).rel, k1, fun Q => ?_⟩
  have e48 : ∀ j, hI h1 48 j = hI h 48 j := fun j => f1.2 48 j (by decide) (by decide) (by decide)
  have e : bitsF (fgC h a (gN D) zr w) (gN D) = bitsF (fun i => allB (fgM h1 D w t o i) zr) (gN D) := by
    refine bitsF_congr (fun i hi => ?_)
    have fe : agr (gN D) (feignK (hI h (a + 1)) i) (feignK (DA D 6) i) := fun j hj => by
      unfold feignK
      rw [R.A1 j hj]
    have pt : ∀ k, k < zr → (bi (¬ hearF (feignK (hI h (a + 1)) i) (hI h (a + 2)) (hI h (a + 3)) (hI h 23) (hI h a 9) (hI h 22 1) (hI h 9 k) (gN D) (w k) < hI h (a + 4) (w k)) = hI h 10 k ↔ fgM h1 D w t o i k = true) := by
      intro k hk
      obtain ⟨⟨a1, a2⟩, ⟨a3, a4⟩, ⟨a5, a6⟩, a7⟩ := q4 k hk
      unfold fgM
      rw [decide_eq_true_eq, wake_bit h5 a2, a3, a5, as14, e48 5]
      have : hearF (feignK (DA D 6) i) (DA D 11) (DA D 16) (hI (asH h1) 52) (D 3) (hI h 48 5) (nI (t k)) (gN D) (w k) = hearF (feignK (hI h (a + 1)) i) (hI h (a + 2)) (hI h (a + 3)) (hI h 23) (hI h a 9) (hI h 22 1) (nI (t k)) (gN D) (w k) := by
        rw [R.k9, R.wl]
        exact (hearF_congr fe R.A2 R.A3 (fun j hj => by rw [R.P j hj, R'.P52 j hj, e48]) a2).symm
      rw [this, R.A4 _ a2]
    show holdsF _ _ _ _ _ _ = allB _ _
    rw [Bool.eq_iff_iff, allB_iff]
    unfold holdsF
    constructor
    · intro q k hk
      have q' := not_fst.mp (fun z => by rw [decide_eq_true z] at q; cases q) k hk
      rw [Bool.not_eq_false', decide_eq_true_eq] at q'
      exact (pt k hk).mp q'
    · intro q
      have : ¬ fstN (fun k => !decide (bi (¬ hearF (feignK (hI h (a + 1)) i) (hI h (a + 2)) (hI h (a + 3)) (hI h 23) (hI h a 9) (hI h 22 1) (hI h 9 k) (gN D) (w k) < hI h (a + 4) (w k)) = hI h 10 k)) zr < zr := not_fst.mpr (fun k hk => by
        rw [Bool.not_eq_false', decide_eq_true_eq]
        exact (pt k hk).mpr (q k hk))
      rw [decide_eq_false this]
      rfl
  rw [k2 Q, e]
end AGR3
