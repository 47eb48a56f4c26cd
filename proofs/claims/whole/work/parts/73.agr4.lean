/-! BOTH ANSWER ALIKE: best, within -/
section AGR4
variable {h h' h1 : aH} {D : Nat → Int32} {n a r nt zu zk zr i j k T : Nat} {x y z w hr d : Int32} {P P' : Nat → Int32}
def bestW (its wh : Nat → Int32) (x : Int32) (T : Nat) : Int32 × Int32 := foldN (fun w s => if s.1 = -4 ∨ its w < s.1 then (its w, if x < 0 then s.2 else wh w) else s) (-4, 0) T
theorem best_W {its wh : Nat → Int32} (hi : ∀ w, w < T → ∃ m, m ≤ 5 ∧ its w = nI m) : ∀ k, k < T → (bestW its wh x (k + 1)).1 = (bestS its (k + 1)).1 ∧ (¬ x < 0 → (bestW its wh x (k + 1)).2 = wh (bestS its (k + 1)).2) ∧ ∃ m, m ≤ 5 ∧ (bestS its (k + 1)).1 = nI m := by
  intro k
  have eW : ∀ k, bestW its wh x (k + 1) = if (bestW its wh x k).1 = -4 ∨ its k < (bestW its wh x k).1 then (its k, if x < 0 then (bestW its wh x k).2 else wh k) else bestW its wh x k := fun _ => rfl
  have eS : ∀ k, bestS its (k + 1) = if its k < (bestS its k).1 then (its k, k) else bestS its k := fun _ => rfl
  induction k with
  | zero =>
    intro hk
    obtain ⟨m, hm, em⟩ := hi 0 hk
    rw [eW, eS]
    have e1 : (bestW its wh x 0).1 = -4 := rfl
    have e2 : its 0 < (bestS its 0).1 := by
      rw [em]
      exact nI_lt (b := 6) (by omega) (by decide)
    rw [if_pos (Or.inl e1), if_pos e2]
    refine ⟨rfl, fun q => if_neg q, m, hm, em⟩
  | succ k ih =>
    intro hk
    obtain ⟨i1, i2, m0, hm0, em0⟩ := ih (by omega)
    obtain ⟨m, hm, em⟩ := hi (k + 1) hk
    rw [eW, eS (k + 1)]
    have n4 : ¬ (bestW its wh x (k + 1)).1 = -4 := by
      rw [i1, em0]
      exact fun q => nI_pos (show m0 < 2 ^ 31 by omega) (q ▸ by decide)
    by_cases c : its (k + 1) < (bestS its (k + 1)).1
    · rw [if_pos (Or.inr (by rw [i1]; exact c)), if_pos c]
      exact ⟨rfl, fun q => if_neg q, m, hm, em⟩
    · rw [if_neg (fun q => q.elim n4 (fun z => c (by rw [← i1]; exact z))), if_neg c]
      exact ⟨i1, i2, m0, hm0, em0⟩
theorem cd_cw {n G w : Nat} (b : BG n G) (hw : w < falN n G) (hj : j < G) : cdN G (cwN n G w) j = wlN n (falN n G) w j := cdN_code G (fun i hi => Nat.lt_of_lt_of_le ((way_V b hw).1.1 i hi) b.2.2) j hj
theorem x_cases {G : Nat} (hG : G < 2 ^ 31) (hx : x = -1 ∨ (¬ x < 0 ∧ x < nI G)) : (x = -1 ∧ x < 0) ∨ (¬ x < 0 ∧ ¬ x = -1 ∧ x.toNatClampNeg < G) := by
  rcases hx with rfl | q
  · exact Or.inl ⟨rfl, by decide⟩
  · refine Or.inr ⟨q.1, fun e => q.1 (by rw [e]; decide), ?_⟩
    have q2 := q.2
    rw [nI_self q.1] at q2
    exact lit_le (by have := x.toInt_lt; show x.toInt.toNat < 2 ^ 31; omega) hG q2
theorem a_best (R : Rel h) : Agr h 94 [.ref 3, .int hr, .int x, .null, .null, .null, .null] 164 [.ref 44, .int hr, .int x, .null, .null, .null, .null, .null, .null] := by
  obtain ⟨D, n, a, r, nt, zu, zk, zr, R⟩ := R
  have h5 := R.g5
  have B := R.B
  by_cases c : (¬ hr < 0 ∧ ¬ 7 < hr) ∧ (x = -1 ∨ (¬ x < 0 ∧ x < hI h a 5))
  · obtain ⟨c1, c2⟩ := c
    have c2' : x = -1 ∨ (¬ x < 0 ∧ x < nI (gN D)) := by rw [← R.k5]; exact c2
    obtain ⟨h1, f1, k1⟩ := c_best R.CW c1 c2'
    have R' := R.CF f1
    obtain ⟨h2, f2, k2⟩ := m_best R'.M R.n1 B.2.2 c1 c2'
    refine ⟨_, h1, h2, (R'.SF f2).rel, k1, fun Q => ?_⟩
    have e5 : hI h1 48 5 = hI h 48 5 := f1.2 48 5 (by decide) (by decide) (by decide)
    have fp := fal_pos B
    have its : ∀ w, w < falN n (gN D) → wkCd h1 D hr (cwN n (gN D) w) = wkW h a (gN D) n hr w := by
      intro w hw
      unfold wkCd wkW
      rw [pop_wake h5, R.wkC (P' := wyP n (gN D) w) agr.rfl', R'.wakeMm (P' := wyP n (gN D) w) (fun j hj => by show nI _ = nI _; rw [cd_cw B hw hj]), R.wl, as14, e5]
    have eb : bestM h1 D n hr x (6 ^ gN D) = bestW (wkW h a (gN D) n hr) (fun w => nI (wlN n (falN n (gN D)) w x.toNatClampNeg)) x (falN n (gN D)) ∨ (¬ x < 0 ∧ ¬ x.toNatClampNeg < gN D) := by
      by_cases cx : ¬ x < 0 ∧ ¬ x.toNatClampNeg < gN D
      · exact Or.inr cx
      · refine Or.inl ?_
        refine (fold_codes B (fun c s => if s.1 = -4 ∨ wkCd h1 D hr c < s.1 then (wkCd h1 D hr c, if x < 0 then s.2 else nI (cdN (gN D) c x.toNatClampNeg)) else s) (-4, 0)).trans ?_
        unfold bestW
        refine foldN_congr (fun w hw s => ?_)
        rw [its w hw]
        by_cases c3 : x < 0
        · rw [if_pos c3, if_pos c3]
        · rw [if_neg c3, if_neg c3, cd_cw B hw (by
            by_cases q : x.toNatClampNeg < gN D
            · exact q
            · exact absurd ⟨c3, q⟩ cx)]
    have key := best_W (x := x) (its := wkW h a (gN D) n hr) (wh := fun w => nI (wlN n (falN n (gN D)) w x.toNatClampNeg)) (T := falN n (gN D)) (fun w _ => by
      obtain ⟨m, hm, e, -⟩ := pop_bits (c := wakeC (hI h (a + 1)) (hI h (a + 2)) (hI h (a + 3)) (hI h (a + 4)) (wyP n (gN D) w) (hI h a 9) (hI h 22 1) hr (gN D)) h5
      exact ⟨m, hm, e⟩) (falN n (gN D) - 1) (by omega)
    rw [show falN n (gN D) - 1 + 1 = falN n (gN D) by omega] at key
    rw [k2 Q]
    unfold bestV
    rcases x_cases (by omega) c2' with ⟨q1, q2⟩ | ⟨q1, q2, q3⟩
    · have eb := eb.resolve_right (fun z => z.1 q2)
      rw [if_pos q2, if_pos q1, eb, key.1]
    · have eb := eb.resolve_right (fun z => z.2 q3)
      rw [if_neg q1, if_neg q2, eb, key.2.1 q1]
  · exact rel_same R rfl (fun Q => c_bestNo R.C c) (fun Q => m_bestNo R.gm (fun q => c ⟨q.1, q.2.imp id R.isG.mpr⟩))
def withX (ev : Nat → Bool) (wh : Nat → Int32) (x : Int32) (T : Nat) : Nat × Int32 := foldN (fun w t => if ev w = true then (t.1 + 1, if t.1 = 0 ∧ ¬ x < 0 then wh w else t.2) else t) (0, -4) T
theorem with_X (ev : Nat → Bool) (wh : Nat → Int32) : ∀ k, (withX ev wh x k).1 = (withS ev k).1 ∧ (¬ x < 0 → (withX ev wh x k).2 = if (withS ev k).1 = 0 then -4 else wh (withS ev k).2) := by
  intro k
  have eW : ∀ k, withX ev wh x (k + 1) = if ev k = true then ((withX ev wh x k).1 + 1, if (withX ev wh x k).1 = 0 ∧ ¬ x < 0 then wh k else (withX ev wh x k).2) else withX ev wh x k := fun _ => rfl
  have eS : ∀ k, withS ev (k + 1) = if ev k = true then ((withS ev k).1 + 1, if (withS ev k).1 = 0 then k else (withS ev k).2) else withS ev k := fun _ => rfl
  induction k with
  | zero => exact ⟨rfl, fun _ => rfl⟩
  | succ k ih =>
    obtain ⟨i1, i2⟩ := ih
    rw [eW, eS]
    by_cases c : ev k = true
    · rw [if_pos c, if_pos c]
      refine ⟨by rw [i1], fun q => ?_⟩
      show (if (withX ev wh x k).1 = 0 ∧ ¬ x < 0 then wh k else (withX ev wh x k).2) = if (withS ev k).1 + 1 = 0 then -4 else wh (if (withS ev k).1 = 0 then k else (withS ev k).2)
      rw [if_neg (show ¬ (withS ev k).1 + 1 = 0 by omega), i1]
      by_cases c2 : (withS ev k).1 = 0
      · rw [if_pos ⟨c2, q⟩, if_pos c2]
      · rw [if_neg (fun z => c2 z.1), if_neg c2, i2 q, if_neg c2]
    · rw [if_neg c, if_neg c]
      exact ⟨i1, i2⟩
theorem far_tab : ∀ a, a ≤ 40 → ∀ b, b ≤ 40 → farV (nI a) (nI b) = absI (nI a - nI b) := by decide +kernel
theorem loud_tab : ∀ k, k < 4 → ∀ s, s < 31 → ∀ t, t < 8 → loudF (nI k) (nI s) (nI t) = nI (loudF (nI k) (nI s) (nI t)).toNatClampNeg ∧ (loudF (nI k) (nI s) (nI t)).toNatClampNeg ≤ 40 := by decide +kernel
theorem ev_eq {lo P : Nat → Int32} {G : Nat} (hl : ∀ i, i < G → ∃ v, v ≤ 40 ∧ lo i = nI v) : evM lo P d G = evenF lo P d G := by
  rw [Bool.eq_iff_iff]
  unfold evM evenF
  rw [allB_iff]
  have pt : ∀ i j, i < G → j < i → (okE lo P d i j = true ↔ badF lo P d i j = false) := by
    intro i j hi hj
    obtain ⟨u, hu, eu⟩ := hl i hi
    obtain ⟨v, hv, ev⟩ := hl j (by omega)
    unfold okE badF
    rw [eu, ev, far_tab u hu v hv]
    cases nextF (P i) (P j) <;> simp
  constructor
  · intro q
    have : ¬ fstN (fun i => decide (fstN (badF lo P d i) i < i)) G < G := not_fst.mpr (fun i hi => decide_eq_false (not_fst.mpr (fun j hj => (pt i j hi hj).mp ((allB_iff _ _).mp (q i hi) j hj))))
    rw [decide_eq_false this]
    rfl
  · intro q i hi
    rw [allB_iff]
    intro j hj
    have q1 := not_fst.mp (fun z => by rw [decide_eq_true z] at q; cases q) i hi
    exact (pt i j hi hj).mpr (not_fst.mp (of_decide_eq_false q1) j hj)
theorem RelP.loS (R : RelP h D n a r nt zu zk zr) (hi : i < gN D) : ∃ v, v ≤ 40 ∧ loM (asH h) D i = nI v := by
  obtain ⟨⟨k, hk, ek⟩, ⟨s, hs, es⟩, -⟩ := R.W.2.2.2.2.2.2.2.1 i hi
  obtain ⟨t, ht, et⟩ := R.hv
  have e : loM (asH h) D i = loudF (nI k) (nI s) (nI t) := by
    show loudF _ _ _ = _
    rw [R.K53 i hi, as15, et, es]
    show loudF (D (6 + i)) _ _ = _
    rw [ek]
  have t := loud_tab k (by omega) s (by omega) t (by omega)
  rw [e]
  exact ⟨_, t.2, t.1⟩
theorem a_within (R : Rel h) : Agr h 96 [.ref 3, .int d, .int x, .null, .null, .null] 167 [.ref 44, .int d, .int x, .null, .null, .null, .null, .null, .null, .null] := by
  obtain ⟨D, n, a, r, nt, zu, zk, zr, R⟩ := R
  have h5 := R.g5
  have B := R.B
  by_cases c : (¬ d < 0 ∧ ¬ 40 < d) ∧ (x = -1 ∨ (¬ x < 0 ∧ x < hI h a 5))
  · obtain ⟨c1, c2⟩ := c
    have c2' : x = -1 ∨ (¬ x < 0 ∧ x < nI (gN D)) := by rw [← R.k5]; exact c2
    obtain ⟨h1, f1, k1⟩ := c_within R.CW c1 c2'
    have R' := R.CF f1
    obtain ⟨h2, f2, k2⟩ := m_within R'.M R.n1 B.2.2 B.1 c1 c2'
    refine ⟨_, h1, h2, (R'.SF f2).rel, k1, fun Q => ?_⟩
    have fp := fal_pos B
    have lo' : agr (gN D) (loM (asH h1) D) (loA h a (hI h 22 2)) := fun j hj => by
      rw [← R'.lo j hj]
      show loudF _ _ _ = loudF _ _ _
      rw [f1.inn R.a2 (c := 1) (by decide), f1.inn R.a2 (c := 2) (by decide), f1.2 22 2 (by decide) (by decide) (by decide)]
    have ev : ∀ w, w < falN n (gN D) → evCd h1 D d (cwN n (gN D) w) = evW h a (gN D) n d w := by
      intro w hw
      unfold evCd evW
      rw [ev_eq (fun i hi => R'.loS hi)]
      exact evenF_congr lo' (fun j hj => by show nI _ = nI _; rw [cd_cw B hw hj])
    have eb : withM h1 D n d x (6 ^ gN D) = withX (evW h a (gN D) n d) (fun w => nI (wlN n (falN n (gN D)) w x.toNatClampNeg)) x (falN n (gN D)) ∨ (¬ x < 0 ∧ ¬ x.toNatClampNeg < gN D) := by
      by_cases cx : ¬ x < 0 ∧ ¬ x.toNatClampNeg < gN D
      · exact Or.inr cx
      · refine Or.inl ?_
        have e1 : withM h1 D n d x (6 ^ gN D) = foldN (fun c s => if okW n (gN D) c = true then (if evCd h1 D d c = true then (s.1 + 1, if s.1 = 0 ∧ ¬ x < 0 then nI (cdN (gN D) c x.toNatClampNeg) else s.2) else s) else s) ((0, -4) : Nat × Int32) (6 ^ gN D) := by
          unfold withM withR
          refine foldN_congr (fun c hc s => ?_)
          show (if (okW n (gN D) c && evCd h1 D d c) = true then ((s.1 + 1, if s.1 = 0 ∧ ¬ x < 0 then nI (cdN (gN D) c x.toNatClampNeg) else s.2) : Nat × Int32) else s) = _
          generalize okW n (gN D) c = o1
          generalize evCd h1 D d c = o2
          cases o1 <;> cases o2 <;> rfl
        rw [e1]
        refine (fold_codes B (fun c s => if evCd h1 D d c = true then (s.1 + 1, if s.1 = 0 ∧ ¬ x < 0 then nI (cdN (gN D) c x.toNatClampNeg) else s.2) else s) ((0, -4) : Nat × Int32)).trans ?_
        unfold withX
        refine foldN_congr (fun w hw s => ?_)
        rw [ev w hw]
        by_cases c3 : x < 0
        · rw [if_neg (show ¬ (s.1 = 0 ∧ ¬ x < 0) from fun z => z.2 c3), if_neg (show ¬ (s.1 = 0 ∧ ¬ x < 0) from fun z => z.2 c3)]
        · rw [cd_cw B hw (by
            by_cases q : x.toNatClampNeg < gN D
            · exact q
            · exact absurd ⟨c3, q⟩ cx)]
    have key := with_X (x := x) (evW h a (gN D) n d) (fun w => nI (wlN n (falN n (gN D)) w x.toNatClampNeg)) (falN n (gN D))
    rw [k2 Q]
    unfold withV withW
    rcases x_cases (by omega) c2' with ⟨q1, q2⟩ | ⟨q1, q2, q3⟩
    · have eb := eb.resolve_right (fun z => z.1 q2)
      rw [if_pos q2, if_pos q1, eb, key.1]
    · have eb := eb.resolve_right (fun z => z.2 q3)
      rw [if_neg q1, if_neg q2, eb, key.2 q1]
  · exact rel_same R rfl (fun Q => c_withinNo R.C c) (fun Q => m_withinNo R.gm (fun q => c ⟨q.1, q.2.imp id R.isG.mpr⟩))
end AGR4
