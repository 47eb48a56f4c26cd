/-! BOTH ANSWER ALIKE: what is read -/
section AGR1
variable {h h' h1 : aH} {D : Nat → Int32} {n a r nt zu zk zr i j k : Nat} {x y z w hr : Int32} {P P' : Nat → Int32}
theorem iff_if {c : Prop} [Decidable c] {A B : Prop} (hc : c) : (if c then A else B) ↔ A := by rw [if_pos hc]
theorem iff_ifn {c : Prop} [Decidable c] {A B : Prop} (hc : ¬ c) : (if c then A else B) ↔ B := by rw [if_neg hc]
theorem rel_same (R : RelP h D n a r nt zu zk zr) {cm mm : Nat} {cL mL : List Value} {v v' : Int32} (e : v = v') (h1 : ∀ Q : Option Value → aH → Prop, X cm 0 cL [] h Q ↔ Q (some (.int v)) h) (h2 : ∀ Q : Option Value → aH → Prop, X mm 0 mL [] h Q ↔ Q (some (.int v')) h) : Agr h cm cL mm mL := ⟨v, h, h, R.rel, h1, by rw [e]; exact h2⟩
theorem rel_scr (R : RelP h D n a r nt zu zk zr) {cm mm : Nat} {cL mL : List Value} {v v' : Int32} (e : v = v') (h1 : ∀ Q : Option Value → aH → Prop, X cm 0 cL [] h Q ↔ Q (some (.int v)) h) {h2 : aH} (f : SF h h2) (k2 : ∀ Q : Option Value → aH → Prop, X mm 0 mL [] h Q ↔ Q (some (.int v')) h2) : Agr h cm cL mm mL := ⟨v, h, h2, (R.SF f).rel, h1, by rw [e]; exact k2⟩
theorem inF_congr {G : Nat} (hP : agr G P P') : inF P x G = inF P' x G := by
  unfold inF
  rw [fstN_congr (q := fun i => decide (P' i = x)) G (fun i hi => by rw [hP i hi])]
theorem a_bed (R : Rel h) : Agr h 86 [.ref 3, .int x] 146 [.ref 44, .int x] := by
  obtain ⟨D, n, a, r, nt, zu, zk, zr, R⟩ := R
  have b := R.B
  have ri : (¬ x < 0 ∧ x < hI h a 6) ↔ (¬ x < 0 ∧ ¬ hI h 46 1 - 1 < x) := by
    rw [R.k6, R.m1]
    exact range_iff (by have := b.2.1; omega) (by have := b.2.2; omega)
  by_cases c : ¬ x < 0 ∧ x < hI h a 6
  · exact rel_same R ((inF_congr R.P).trans (last_in R.di).symm) (fun Q => (c_bed R.C).trans (iff_if c)) (fun Q => (m_bed R.M).trans (iff_if (ri.mp c)))
  · exact rel_same R rfl (fun Q => (c_bed R.C).trans (iff_ifn c)) (fun Q => (m_bed R.M).trans (iff_ifn (fun q => c (ri.mpr q))))
theorem bit_wall : ∀ w, w < 32 → ∀ p, p < 6 → bi (stufF (nI w) (nI p) = true) = nI w >>> (nI p &&& 31) &&& 1 := by decide +kernel
theorem RelP.wallR (R : RelP h D n a r nt zu zk zr) : (¬ x < 0 ∧ x < hI h a 6 - 1) ↔ (¬ x < 0 ∧ ¬ hI h 46 1 - 2 < x) := by
  obtain ⟨b1, b2, b3⟩ := R.B
  rw [R.k6, R.m1, nI_m1 (show 1 ≤ n by omega), show nI n - 2 = nI (n - 1) - 1 from by
    rw [nI_m1 (show 1 ≤ n - 1 by omega), show (2 : Int32) = nI 2 from rfl, nI_sub (show 2 ≤ n by omega)]
    congr 1]
  exact range_iff (by omega) (by omega)
theorem RelP.wallI (R : RelP h D n a r nt zu zk zr) (q : ¬ x < 0 ∧ x < hI h a 6 - 1) : ∃ p, p < n - 1 ∧ x = nI p := by
  obtain ⟨b1, b2, b3⟩ := R.B
  rw [R.k6, nI_m1 (show 1 ≤ n by omega)] at q
  exact range_nI (by omega) q
theorem a_wall (R : Rel h) : Agr h 87 [.ref 3, .int x] 147 [.ref 44, .int x] := by
  obtain ⟨D, n, a, r, nt, zu, zk, zr, R⟩ := R
  obtain ⟨b1, b2, b3⟩ := R.B
  by_cases c : ¬ x < 0 ∧ x < hI h a 6 - 1
  · obtain ⟨p, hp, rfl⟩ := R.wallI c
    obtain ⟨w, hw, ew⟩ := R.wv
    refine rel_same R ?_ (fun Q => (c_wall R.C).trans (iff_if c)) (fun Q => (m_wall R.gm).trans (iff_if (R.wallR.mp c)))
    rw [R.wl, ew]
    exact bit_wall w hw p (by omega)
  · exact rel_same R rfl (fun Q => (c_wall R.C).trans (iff_ifn c)) (fun Q => (m_wall R.gm).trans (iff_ifn (fun q => c (R.wallR.mpr q))))
theorem a_steps (R : Rel h) : Agr h 103 [.ref 3, .int x] 174 [.ref 44, .int x] := by
  obtain ⟨D, n, a, r, nt, zu, zk, zr, R⟩ := R
  by_cases c0 : x = 0
  · exact rel_same R R.st (fun Q => (c_steps R.g).trans (iff_if c0)) (fun Q => (m_steps R.gm).trans (iff_if c0))
  · by_cases c1 : x = 1
    · exact rel_same R R.ca (fun Q => (c_steps R.g).trans ((iff_ifn c0).trans (iff_if c1))) (fun Q => (m_steps R.gm).trans ((iff_ifn c0).trans (iff_if c1)))
    · by_cases c2 : x = 2
      · exact rel_same R R.wo (fun Q => (c_steps R.g).trans ((iff_ifn c0).trans ((iff_ifn c1).trans (iff_if c2)))) (fun Q => (m_steps R.gm).trans ((iff_ifn c0).trans ((iff_ifn c1).trans (iff_if c2))))
      · exact rel_same R rfl (fun Q => (c_steps R.g).trans ((iff_ifn c0).trans ((iff_ifn c1).trans (iff_ifn c2)))) (fun Q => (m_steps R.gm).trans ((iff_ifn c0).trans ((iff_ifn c1).trans (iff_ifn c2))))
theorem a_count (R : Rel h) : Agr h 107 [.ref 3, .int x] 178 [.ref 44, .int x] := by
  obtain ⟨D, n, a, r, nt, zu, zk, zr, R⟩ := R
  refine rel_same R ?_ (fun Q => c_count R.C R.U R.K) (fun Q => m_count R.gm)
  obtain ⟨w, hw, ew⟩ := R.wv
  have e3 : popC (hI h 22 1) = bitF (hI h 48 5) := by rw [R.wl, ew]; exact popC_bitF w (by omega)
  rw [R.k5, R.m0, R.k6, R.m1, R.hr, e3, R.2.2.2.2.2.1, R.2.2.2.2.2.2.1, R.2.2.2.1.2.2.1, R.2.2.2.2.1.2.2.1, R.2.1.1, R.2.1.2.1]
theorem RelP.wkC (R : RelP h D n a r nt zu zk zr) (hP : agr (gN D) P P') : wakeF (hI h (a + 1)) (hI h (a + 2)) (hI h (a + 3)) (hI h (a + 4)) P (hI h a 9) w hr (gN D) = wakeF (DA D 6) (DA D 11) (DA D 16) (DA D 21) P' (D 3) w hr (gN D) := by
  rw [R.k9]
  exact wakeF_congr R.A1 R.A2 R.A3 R.A4 hP
theorem RelP.wakeMm (R : RelP h D n a r nt zu zk zr) (hP : agr (gN D) P P') : wakeF (hI (asH h) 53) (DA D 11) (DA D 16) (DA D 21) P (D 3) w hr (gN D) = wakeF (DA D 6) (DA D 11) (DA D 16) (DA D 21) P' (D 3) w hr (gN D) := wakeF_congr R.K53 agr.rfl' agr.rfl' agr.rfl' hP
theorem RelP.hearC (R : RelP h D n a r nt zu zk zr) (hi : i < gN D) : hearA h a 22 hr (gN D) i = hearF (DA D 6) (DA D 11) (DA D 16) (hI h 48) (D 3) (hI h 48 5) hr (gN D) i := by
  unfold hearA
  rw [R.k9, R.wl]
  exact hearF_congr R.A1 R.A2 R.A3 R.P hi
theorem RelP.lo (R : RelP h D n a r nt zu zk zr) : agr (gN D) (loA h a (hI h 22 2)) (loM (asH h) D) := fun j hj => by
  show loudF _ _ _ = loudF _ _ _
  rw [R.A1 j hj, R.A2 j hj, R.K53 j hj, R.hr, as15]
theorem a_guest (R : Rel h) : Agr h 85 [.ref 3, .int x, .int y] 144 [.ref 44, .int x, .int y] := by
  obtain ⟨D, n, a, r, nt, zu, zk, zr, R⟩ := R
  have h5 := R.g5
  by_cases c : ¬ x < 0 ∧ x < hI h a 5
  · obtain ⟨i, hi, rfl⟩ := R.gI c
    refine rel_scr R ?_ (fun Q => c_guest R.C hi) (as_SF h) (fun Q => m_guest R.M hi)
    have eh : hearA h a 22 (hI h 22 2) (gN D) i = hearF (hI (asH h) 53) (DA D 11) (DA D 16) (hI (asH h) 52) (D 3) (hI (asH h) 44 14) (hI (asH h) 44 15) (gN D) i := by
      rw [R.hearC hi, as14, as15, R.hr]
      exact (hearF_congr R.K53 agr.rfl' agr.rfl' R.P52 hi).symm
    have el : loudF (hI h (a + 1) i) (hI h (a + 2) i) (hI h 22 2) = loM (asH h) D i := R.lo i hi
    have ew : bi (¬ hearA h a 22 (hI h 22 2) (gN D) i < hI h (a + 4) i) = wakeM (asH h) D >>> (nI i &&& 31) &&& 1 := by
      have := bitsF_at (c := wakeC (hI (asH h) 53) (DA D 11) (DA D 16) (DA D 21) (hI (asH h) 52) (D 3) (hI (asH h) 44 14) (hI (asH h) 44 15) (gN D)) h5 hi
      rw [show wakeM (asH h) D >>> (nI i &&& 31) &&& 1 = _ from this, eh, R.A4 i hi]
      unfold wakeC
      by_cases c : hearF (hI (asH h) 53) (DA D 11) (DA D 16) (hI (asH h) 52) (D 3) (hI (asH h) 44 14) (hI (asH h) 44 15) (gN D) i < D (21 + i)
      · have c' : hearF (hI (asH h) 53) (DA D 11) (DA D 16) (hI (asH h) 52) (D 3) (hI (asH h) 44 14) (hI (asH h) 44 15) (gN D) i < DA D 21 i := c
        rw [bi_f (fun q => q c'), bi_f (by simp [c'])]
      · have c' : ¬ hearF (hI (asH h) 53) (DA D 11) (DA D 16) (hI (asH h) 52) (D 3) (hI (asH h) 44 14) (hI (asH h) 44 15) (gN D) i < DA D 21 i := c
        rw [bi_t c', bi_t (by simp [c'])]
    unfold guestC guestM
    rw [el, ew, eh, R.A1 i hi, R.A2 i hi, R.A3 i hi, R.A4 i hi, R.P i hi]
  · exact rel_same R rfl (fun Q => c_guestNo R.C c) (fun Q => m_guestNo R.gm (fun q => c (R.isG.mpr q)))
theorem not_fst {p : Nat → Bool} {G : Nat} : (¬ fstN p G < G) ↔ ∀ i, i < G → p i = false := by
  constructor
  · intro q i hi
    have := fstN_le p G
    exact fstN_no p G i (by omega)
  · intro q z
    have := fstN_yes p G z
    rw [q _ z] at this
    cases this
theorem a_law (R : Rel h) : Agr h 92 [.ref 3, .int x] 157 [.ref 44, .int x, .null, .null] := by
  obtain ⟨D, n, a, r, nt, zu, zk, zr, R⟩ := R
  have h5 := R.g5
  by_cases c0 : x = -1
  · subst c0
    refine rel_scr R ?_ (fun Q => c_lawAll R.C) (as_SF h) (fun Q => m_lawAll R.M)
    have : (¬ fstN (lawCC h a (gN D)) (gN D) < gN D) ↔ allB (lawC (asH h) D) (gN D) = true := by
      rw [not_fst, allB_iff]
      refine forall_congr' (fun i => ⟨fun q hi => ?_, fun q hi => ?_⟩)
      · have := q hi
        unfold lawCC at this
        unfold lawC
        rw [Bool.not_eq_false', decide_eq_true_eq] at this
        rw [decide_eq_true_eq, as48, ← R.P i hi, this, R.k6, ← R.n1]
        exact (lawF_congr R.lo hi _).symm
      · have := q hi
        unfold lawC at this
        unfold lawCC
        rw [decide_eq_true_eq, as48] at this
        rw [Bool.not_eq_false', decide_eq_true_eq, R.P i hi, ← this, R.k6, ← R.n1]
        exact (lawF_congr R.lo hi _).symm
    unfold bi
    simp only [this]
  · by_cases c : ¬ x < 0 ∧ x < hI h a 5
    · obtain ⟨i, hi, rfl⟩ := R.gI c
      refine rel_scr R ?_ (fun Q => c_law1 R.C hi) (as_SF h) (fun Q => m_law1 R.M hi)
      rw [R.k6, ← R.n1]
      exact lawF_congr R.lo hi _
    · exact rel_same R rfl (fun Q => c_lawNo R.C c0 c) (fun Q => m_lawNo R.M c0 (fun q => c (R.isG.mpr q)))
end AGR1
