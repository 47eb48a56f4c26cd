/-! BOTH ANSWER ALIKE: states; a day -/
section AGR6
variable {h h' h1 h2 : aH} {D : Nat → Int32} {n a r nt zu zk zr i j k T u b z m : Nat} {x y w hr d wk : Int32} {s t s' t' v : Nat → Int32}
theorem StR.congr10 (S : StR D n s t) (hG : gN D ≤ 5) (e1 : ∀ j, j < 10 → s' j = s j) (e2 : ∀ j, j < 10 → t' j = t j) : StR D n s' t' := by
  obtain ⟨S1, S2, S3, S4, S5⟩ := S
  refine ⟨fun j hj q => by rw [e1 j hj, e2 j hj]; exact S1 j hj q, fun i hi => by rw [e1 i (by omega)]; exact S2 i hi, fun i j hi hj q => S3 i j hi hj (by rw [← e1 i (by omega), ← e1 j (by omega)]; exact q), by rw [e1 5 (by decide)]; exact S4, by rw [e1 6 (by decide)]; exact S5⟩
theorem StR.agr (S : StR D n s t) (hG : gN D ≤ 5) : agr (gN D) s t := fun i hi => S.1 i (by omega) (Or.inl hi)
theorem StR.dt (S : StR D n s t) (hG : gN D ≤ 5) : distP t (gN D) := fun i j hi hj q => S.2.2.1 i j hi hj (by rw [S.agr hG i hi, S.agr hG j hj]; exact q)
theorem go_tab : ∀ p, p < 6 → ∀ q, q < 6 → absI (nI q - nI p) = (if nI p < nI q then nI q - nI p else nI p - nI q) := by decide +kernel
theorem go_StR (S : StR D n s t) (hG : gN D ≤ 5) (hn : n ≤ 6) (hi : i < gN D) (hb : b < n) (he : ∀ j, j < gN D → s j ≠ nI b) : StR D n (goC s i (nI b) wk) (goS t i (nI b) wk) := by
  have hi5 : i < 5 := by omega
  have ai := S.agr hG
  obtain ⟨p, hp, ep⟩ := S.2.1 i hi
  obtain ⟨S1, S2, S3, S4, S5⟩ := S
  have gs : ∀ j, j < 5 → j ≠ i → goC s i (nI b) wk j = s j := fun j hj q => by
    unfold goC
    rw [if_neg q, if_neg (by omega), if_neg (by omega), if_neg (by omega)]
  have gi : goC s i (nI b) wk i = nI b := by unfold goC; rw [if_pos rfl]
  refine ⟨fun j hj q => ?_, fun j hj => ?_, fun j k hj hk e => ?_, ?_, ?_⟩
  · unfold goC goS
    by_cases c0 : j = i
    · rw [if_pos c0, if_pos c0]
    · rw [if_neg c0, if_neg c0]
      by_cases c1 : j = 7
      · rw [if_pos c1, if_pos c1, S1 7 (by decide) (Or.inr (by decide)), ← ai i hi, ep, go_tab p (by omega) b (by omega)]
      · rw [if_neg c1, if_neg c1]
        by_cases c2 : j = 8
        · rw [if_pos c2, if_pos c2, S1 8 (by decide) (Or.inr (by decide))]
        · rw [if_neg c2, if_neg c2]
          by_cases c3 : j = 9
          · rw [if_pos c3, if_pos c3, S1 9 (by decide) (Or.inr (by decide))]
          · rw [if_neg c3, if_neg c3]
            exact S1 j hj q
  · by_cases c0 : j = i
    · rw [c0, gi]; exact ⟨b, hb, rfl⟩
    · rw [gs j (by omega) c0]; exact S2 j hj
  · by_cases c0 : j = i <;> by_cases c1 : k = i
    · rw [c0, c1]
    · rw [c0, gi, gs k (by omega) c1] at e
      exact absurd e.symm (he k hk)
    · rw [c1, gi, gs j (by omega) c0] at e
      exact absurd e (he j hj)
    · rw [gs j (by omega) c0, gs k (by omega) c1] at e
      exact S3 j k hj hk e
  · unfold goC
    rw [if_neg (by omega), if_neg (by omega), if_neg (by omega), if_neg (by omega)]
    exact S4
  · unfold goC
    rw [if_neg (by omega), if_neg (by omega), if_neg (by omega), if_neg (by omega)]
    exact S5
theorem pass_tab : ∀ p, p < 8 → minI 7 (nI p + 1) = nI p + (if nI p < 7 then 1 else 0) ∧ ∃ q, q < 8 ∧ minI 7 (nI p + 1) = nI q := by decide +kernel
theorem pass_StR (S : StR D n s t) (hG : gN D ≤ 5) : StR D n (passC s) (passS t) := by
  obtain ⟨S1, S2, S3, S4, p, hp, ep⟩ := S
  have tb := pass_tab p (by omega)
  have e6 : t 6 = nI p := by rw [← S1 6 (by decide) (Or.inr (by decide))]; exact ep
  refine ⟨fun j hj q => ?_, fun j hj => ?_, fun j k hj hk e => ?_, ?_, ?_⟩
  · unfold passC passS
    by_cases c : j = 6
    · rw [if_pos c, if_pos c, e6, ep]; exact tb.1
    · rw [if_neg c, if_neg c]; exact S1 j hj q
  · unfold passC; rw [if_neg (by omega)]; exact S2 j hj
  · unfold passC at e; rw [if_neg (by omega), if_neg (by omega)] at e; exact S3 j k hj hk e
  · unfold passC; rw [if_neg (by omega)]; exact S4
  · obtain ⟨q, hq, eq⟩ := tb.2
    refine ⟨q, by omega, ?_⟩
    unfold passC
    rw [if_pos rfl, ep]
    exact eq
theorem rousC_congr {Lt Lt' : Nat → Int32} {po p b : Int32} {G : Nat} (hL : agr G Lt Lt') (hs : agr G s t) : bitsF (rousC Lt s po p b) G = bitsF (rousC Lt' t po p b) G := by
  refine bitsF_congr (fun j hj => ?_)
  unfold rousC
  rw [hL j hj, hs j hj]
theorem last_empty (S : StR D n s t) (hG : gN D ≤ 5) : (lastF t x (gN D) = -4) = (emptyF s x (gN D) = true) := by
  rw [last_in (S.dt hG), in_empty t x hG, emptyF_congr (S.agr hG)]
theorem RelP.try_ (R : RelP h D n a r nt zu zk zr) (S : StR D n s t) (k : Nat) : StR D n (tryC (hI h (a + 4)) (hI h a 8) (gN D) n (dN z k) s) (tryS D n z k t) := by
  have h5 := R.g5
  obtain ⟨b1, b2, b3⟩ := R.B
  have hi : dN z k % gN D < gN D := Nat.mod_lt _ (by omega)
  have hb : dN z k / 8 % n < n := Nat.mod_lt _ (by omega)
  unfold tryC tryS
  have le := last_empty (x := nI (dN z k / 8 % n)) S h5
  by_cases c : emptyF s (nI (dN z k / 8 % n)) (gN D) = true
  · rw [if_pos c, if_pos (le ▸ c), R.k8, pop_eq h5, rousC_congr R.A4 (S.agr h5), S.agr h5 _ hi]
    exact go_StR S h5 b3 hi hb (empty_iff.mp c)
  · rw [if_neg c, if_neg (fun q => c (le ▸ q))]
    exact S
theorem RelP.days (R : RelP h D n a r nt zu zk zr) (S : StR D n s t) : ∀ k, StR D n (dayCR (hI h (a + 4)) (hI h a 8) (gN D) n z s k) (dayR D n z t k) := by
  intro k
  have h5 := R.g5
  induction k with
  | zero => exact S
  | succ k ih =>
    show StR D n (dayCs _ _ _ _ _ k _) (dayS _ _ _ k _)
    unfold dayCs dayS
    have := R.try_ (z := z) ih k
    by_cases c : k % 4 = 3
    · rw [if_pos c, if_pos c]; exact pass_StR this h5
    · rw [if_neg c, if_neg c]; exact this
theorem dayR_congr (S : ∀ j, t j = t' j) : dayR D n z t m = dayR D n z t' m := by
  have : t = t' := funext S
  rw [this]
theorem a_day {v w u : Int32} (R : Rel h) : Agr h 104 [.ref 3, .int v, .int w, .int u, .null] 175 [.ref 44, .int v, .int w, .int u, .null, .null, .null, .null, .null] := by
  obtain ⟨D, n, a, r, nt, zu, zk, zr, R⟩ := R
  have h5 := R.g5
  obtain ⟨b1, b2, b3⟩ := R.B
  by_cases c : (¬ v < 0 ∧ ¬ 9999 < v) ∧ (¬ w < 1 ∧ ¬ 30 < w) ∧ (u = 0 ∨ u = 1)
  · obtain ⟨c1, c2, c3⟩ := c
    have c1' : ¬ v < 0 ∧ v < nI 10000 := (range_iff (m := 10000) (by decide) (by decide)).mpr (by rw [nI_m1 (by decide)]; exact c1)
    obtain ⟨z, hz, rfl⟩ := range_nI (by decide) c1'
    have w0 : ¬ w < 0 := fun q => c2.1 (by
      rw [Int32.lt_iff_toInt_lt] at q ⊢
      have e1 : (1 : Int32).toInt = 1 := by decide
      have e0 : (0 : Int32).toInt = 0 := by decide
      omega)
    have c2' : ¬ w < 0 ∧ w < nI 31 := (range_iff (m := 31) (by decide) (by decide)).mpr (by rw [nI_m1 (by decide)]; exact ⟨w0, c2.2⟩)
    obtain ⟨m, hm, rfl⟩ := range_nI (by decide) c2'
    have m1 : 1 ≤ m := lit_lt (b := 1) (by omega) (by decide) c2.1
    obtain ⟨h1, f1, k1⟩ := c_day R.C hz ⟨m1, by omega⟩ c3 b1 R.k6 ⟨by omega, b3⟩
    have R' := R.CF f1
    obtain ⟨h2, f2, k2⟩ := m_day R'.M hz ⟨m1, by omega⟩ c3 b1 R.n1 ⟨by omega, b3⟩
    refine ⟨_, h1, h2, (R'.SF f2).rel, k1, fun Q => ?_⟩
    have e48 : ∀ j, hI h1 48 j = hI h 48 j := fun j => f1.2 48 j (by decide) (by decide) (by decide)
    rw [k2 Q, dayR_congr e48]
    have S := R.days (z := z) R.2.2.1 m
    have e : dayCV h a (gN D) (dayCR (hI h (a + 4)) (hI h a 8) (gN D) n z (lv h 22) m) u = dayV D (hI h1 48) (dayR D n z (hI h 48) m) u := by
      generalize dayCR (hI h (a + 4)) (hI h a 8) (gN D) n z (lv h 22) m = s at *
      generalize dayR D n z (hI h 48) m = t at *
      unfold dayCV dayV
      rcases c3 with rfl | rfl
      · rw [if_pos rfl, if_pos rfl, S.1 9 (by decide) (Or.inr (by decide)), e48 9, R.wo]
      · rw [if_neg (by decide), if_neg (by decide), pop_wake h5, R.wkC (S.agr h5), S.1 5 (by decide) (Or.inr (by decide)), S.1 6 (by decide) (Or.inr (by decide))]
    rw [e]
  · exact rel_same R rfl (fun Q => c_dayNo c) (fun Q => m_dayNo (fun q => c ⟨q.1, q.2.1, two_iff.mpr q.2.2⟩))
end AGR6
