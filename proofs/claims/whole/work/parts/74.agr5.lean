/-! BOTH ANSWER ALIKE: moves -/
section AGR5
variable {h h' h1 : aH} {D : Nat → Int32} {n a r nt zu zk zr i j k T u v b : Nat} {x y z w hr d : Int32} {L L' P : Nat → Nat}
theorem may_congr {G : Nat} {Lt Lt' : Nat → Int32} {po : Int32} (hL : ∀ j, j < G → L j = L' j) (ht : agr G Lt Lt') (hi : i < G) : allB (mayB L Lt po i b) G = allB (mayB L' Lt' po i b) G := by
  refine allB_congr (fun j hj => ?_)
  unfold mayB
  rw [hL j hj, hL i hi, ht j hj]
theorem RelP.may (R : RelP h D n a r nt zu zk zr) (hL : ∀ j, j < gN D → L j = L' j) (hi : i < gN D) : asP h a (gN D) n L i b ↔ mvM D L' i b := by
  unfold asP mvM
  rw [R.k8, may_congr hL R.A4 hi]
theorem upd_congr {G : Nat} (hL : ∀ j, j < G → L j = L' j) : ∀ j, j < G → updL L i b j = updL L' i b j := by
  intro j hj
  unfold updL
  split
  · rfl
  · exact hL j hj
theorem cw_lt6 {n G w : Nat} (B : BG n G) (hw : w < falN n G) : cwN n G w < 6 ^ G := codeN_lt (fun i hi => Nat.lt_of_lt_of_le ((way_V B hw).1.1 i hi) B.2.2)
theorem cw_inj {n G w w' : Nat} (B : BG n G) (hw : w < falN n G) (hw' : w' < falN n G) (e : cwN n G w = cwN n G w') : w = w' := by
  by_cases c1 : w < w'
  · have := cw_lt B c1 hw'; omega
  · by_cases c2 : w' < w
    · have := cw_lt B c2 hw; omega
    · omega
theorem RelP.edge (R : RelP h D n a r nt zu zk zr) (hu : u < falN n (gN D)) (c : Nat) : EC D n (cwN n (gN D) u) c ↔ ∃ v, v < falN n (gN D) ∧ c = cwN n (gN D) v ∧ EW h a (gN D) n u v := by
  have B := R.B
  have V := (way_V B hu).1
  have cd : ∀ j, j < gN D → wyL n (gN D) u j = cdN (gN D) (cwN n (gN D) u) j := fun j hj => (cd_cw B hu hj).symm
  constructor
  · rintro ⟨_, _, i, hi, b, hb, hm, rfl⟩
    have hm' := (R.may cd hi).mpr hm
    have v2 := V.upd (i := i) hb (may_iff.mp hm').1
    have nv := num_V B v2
    refine ⟨_, nv.1, ?_, i, hi, b, hb, hm', rfl⟩
    rw [nv.2.2.2]
    exact codeN_congr (upd_congr (fun j hj => (cd j hj).symm))
  · rintro ⟨v, hv, rfl, i, hi, b, hb, hm, rfl⟩
    have v2 := V.upd (i := i) hb (may_iff.mp hm).1
    have nv := num_V B v2
    refine ⟨cw_lt6 B hu, (okW_w B (cw_lt6 B hu)).mpr ⟨u, hu, rfl⟩, i, hi, b, hb, (R.may cd hi).mp hm, ?_⟩
    rw [nv.2.2.2]
    exact codeN_congr (upd_congr cd)
theorem RelP.ball (R : RelP h D n a r nt zu zk zr) {s : Nat} (hs : s < falN n (gN D)) : ∀ k c, Bl (EC D n) (cwN n (gN D) s) k c ↔ ∃ w, w < falN n (gN D) ∧ c = cwN n (gN D) w ∧ Bl (EW h a (gN D) n) s k w := by
  intro k
  induction k with
  | zero =>
    intro c
    constructor
    · intro q; exact ⟨s, hs, q, rfl⟩
    · rintro ⟨w, hw, q, q2⟩
      have q2' : w = s := q2
      subst q2'
      exact q
  | succ k ih =>
    intro c
    constructor
    · rintro (q | ⟨u', q1, q2⟩)
      · obtain ⟨w, hw, e, hb⟩ := (ih c).mp q
        exact ⟨w, hw, e, Or.inl hb⟩
      · obtain ⟨u, hu, rfl, hb⟩ := (ih u').mp q1
        obtain ⟨v, hv, e, he⟩ := (R.edge hu c).mp q2
        exact ⟨v, hv, e, Or.inr ⟨u, hb, he⟩⟩
    · rintro ⟨w, hw, rfl, q | ⟨u, q1, q2⟩⟩
      · exact Or.inl ((ih _).mpr ⟨w, hw, rfl, q⟩)
      · have hu : u < falN n (gN D) := by
          have : ∀ k u, Bl (EW h a (gN D) n) s k u → u < falN n (gN D) := by
            intro k
            induction k with
            | zero => intro u q; have q' : u = s := q; rw [q']; exact hs
            | succ k ih2 =>
              rintro u (q | ⟨u', q3, i, hi, b, hb, hm, rfl⟩)
              · exact ih2 u q
              · have V := (way_V R.B (ih2 u' q3)).1
                exact (num_V R.B (V.upd (i := i) hb (may_iff.mp hm).1)).1
          exact this k u q1
        exact Or.inr ⟨cwN n (gN D) u, (ih _).mpr ⟨u, hu, rfl, q1⟩, (R.edge hu _).mpr ⟨w, hw, rfl, q2⟩⟩
theorem RelP.balw (R : RelP h D n a r nt zu zk zr) {s w : Nat} (hs : s < falN n (gN D)) (hw : w < falN n (gN D)) (k : Nat) : Bl (EC D n) (cwN n (gN D) s) k (cwN n (gN D) w) ↔ Bl (EW h a (gN D) n) s k w := by
  rw [R.ball hs]
  constructor
  · rintro ⟨w', hw', e, q⟩
    rw [cw_inj R.B hw hw' e]
    exact q
  · intro q; exact ⟨w, hw, rfl, q⟩
theorem RelP.lay_ (R : RelP h D n a r nt zu zk zr) {s w : Nat} (hs : s < falN n (gN D)) (hw : w < falN n (gN D)) (d : Nat) : Ly (EC D n) (cwN n (gN D) s) d (cwN n (gN D) w) ↔ Ly (EW h a (gN D) n) s d w := by
  cases d with
  | zero => exact R.balw hs hw 0
  | succ d =>
    show (_ ∧ ¬ _) ↔ (_ ∧ ¬ _)
    rw [R.balw hs hw (d + 1), R.balw hs hw d]
theorem ahN_congr {lo lo' : Nat → Int32} {G : Nat} (hl : agr G lo lo') (hi : i < G) : ahN lo i G = ahN lo' i G := by
  unfold ahN cntB
  refine foldN_congr (fun k hk s => ?_)
  unfold ahP
  rw [hl i hi, hl k hk]
theorem lwN_congr {lo lo' : Nat → Int32} {G : Nat} (hl : agr G lo lo') (hi : i < G) : lwN lo n G i = lwN lo' n G i := by
  unfold lwN
  rw [ahN_congr hl hi]
theorem RelP.way (R : RelP h D n a r nt zu zk zr) : ∃ P : Nat → Nat, VL n (gN D) P ∧ (∀ i, i < gN D → hI h 23 i = nI (P i)) ∧ ∀ i, i < gN D → hI h 48 i = nI (P i) := by
  have b6 := R.B.2.2
  have e : ∀ i, i < gN D → hI h 48 i = nI (hI h 48 i).toNatClampNeg ∧ (hI h 48 i).toNatClampNeg < n := fun i hi => by
    obtain ⟨b, hb, eb⟩ := R.pl hi
    rw [eb, nI_cl (show b < 2 ^ 31 by omega)]
    exact ⟨rfl, hb⟩
  refine ⟨fun i => (hI h 48 i).toNatClampNeg, ⟨fun i hi => (e i hi).2, fun i j hi hj q => ?_⟩, fun i hi => ?_, fun i hi => (e i hi).1⟩
  · refine R.di i j hi hj ?_
    rw [(e i hi).1, (e j hj).1]
    exact congrArg nI q
  · rw [R.P i hi]; exact (e i hi).1
theorem a_moves (R : Rel h) : Agr h 93 [.ref 3, .int x, .null] 163 [.ref 44, .int x, .null, .null, .null, .null] := by
  obtain ⟨D, n, a, r, nt, zu, zk, zr, R⟩ := R
  have B := R.B
  by_cases hx : x = 0 ∨ x = 1
  · obtain ⟨P, v, p1, p2⟩ := R.way
    obtain ⟨ans, h1, f1, M1, k1⟩ := c_moves R.CW v p1 hx
    have R' := R.CF f1
    have p2' : ∀ i, i < gN D → hI h1 48 i = nI (P i) := fun i hi => by rw [f1.2 48 i (by decide) (by decide) (by decide)]; exact p2 i hi
    obtain ⟨ans', h2, f2, M2, k2⟩ := m_moves R'.M R.n1 B p2' v hx
    have lo' : agr (gN D) (loM (asH h1) D) (loA h a (hI h 22 2)) := fun j hj => by
      rw [← R'.lo j hj]
      show loudF _ _ _ = loudF _ _ _
      rw [f1.inn R.a2 (c := 1) (by decide), f1.inn R.a2 (c := 2) (by decide), f1.2 22 2 (by decide) (by decide) (by decide)]
    have vl : VL n (gN D) (lwC h a n (gN D)) := law_V B
    have nl := num_V B vl
    have np := num_V B v
    have e0 : codeN (lwM (asH h1) D n) (gN D) = cwN n (gN D) (numN (lwC h a n (gN D)) n (gN D)) := by
      rw [nl.2.2.2]
      exact codeN_congr (fun i hi => lwN_congr lo' hi)
    have eg : codeN P (gN D) = cwN n (gN D) (numN P n (gN D)) := np.2.2.2.symm
    rw [e0, eg] at M2
    have ly := fun (w : Nat) (hw : w < falN n (gN D)) (d : Nat) => R.lay_ nl.1 hw d
    have e : ans = ans' := by
      rcases M1 with ⟨m1, m2⟩ | ⟨d, m1, m2⟩
      · rcases M2 with ⟨q1, q2⟩ | ⟨d', q1, q2⟩
        · rw [m2, q2]
        · exact absurd (Ly_Bl ((ly _ np.1 d').mp q1)) (m1 d')
      · have m1' := (ly _ np.1 d).mpr m1
        rcases M2 with ⟨q1, q2⟩ | ⟨d', q1, q2⟩
        · exact absurd (Ly_Bl m1') (q1 d)
        · have dd : d = d' := Ly_uniq m1' q1
          subst dd
          rcases m2 with ⟨x0, m2⟩ | ⟨x0, d0, m2⟩ | ⟨x0, e, d0, m2⟩
          · rcases q2 with ⟨y0, q2⟩ | ⟨y0, _, q2⟩ | ⟨y0, _, _, q2⟩
            · rw [m2, q2]
            · exact absurd x0 y0
            · exact absurd x0 y0
          · rcases q2 with ⟨y0, q2⟩ | ⟨y0, _, q2⟩ | ⟨y0, e', d1, q2⟩
            · exact absurd y0 x0
            · rw [m2, q2]
            · omega
          · rcases q2 with ⟨y0, q2⟩ | ⟨y0, d1, q2⟩ | ⟨y0, e', d1, q2⟩
            · exact absurd y0 x0
            · omega
            · have ee : e' = e := by omega
              subst ee
              refine FMs_uniq m2 q2 (fun i b hi hb => ?_)
              constructor
              · rintro ⟨z1, z2⟩
                have v2 := v.upd (i := i) hb (may_iff.mp z1).1
                have nv := num_V B v2
                refine ⟨(R.may (fun _ _ => rfl) hi).mp z1, ?_⟩
                have := (ly _ nv.1 e').mpr z2
                rw [nv.2.2.2] at this
                exact this
              · rintro ⟨z1, z2⟩
                have z1' := (R.may (L := P) (fun _ _ => rfl) hi).mpr z1
                have v2 := v.upd (i := i) hb (may_iff.mp z1').1
                have nv := num_V B v2
                refine ⟨z1', (ly _ nv.1 e').mp ?_⟩
                rw [nv.2.2.2]
                exact z2
    exact ⟨ans, h1, h2, (R'.SF f2).rel, k1, by rw [e]; exact k2⟩
  · exact rel_same R rfl (fun Q => c_movesNo (fun q => hx (Or.inl q)) (fun q => hx (Or.inr q))) (fun Q => m_movesNo (fun q => hx (two_iff.mpr q)))
end AGR5
