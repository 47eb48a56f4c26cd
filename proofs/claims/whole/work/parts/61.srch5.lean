/-! THE CLASS: the search: going on from a way; the law's way is a way -/
section SRCH5
variable {h h1 : aH} {a c G i j k z n w d T u du : Nat} {Q : Option Value → aH → Prop} {L : Nat → Nat} {s : St} {Lt : Nat → Int32} {po : Int32}
abbrev wyL (n G u : Nat) : Nat → Nat := wlN n (falN n G) u
/-- one carry by which nobody wakes -/
def EW (h : aH) (a G n : Nat) (u v : Nat) : Prop := ∃ i, i < G ∧ ∃ b, b < n ∧ asP h a G n (wyL n G u) i b ∧ v = numN (updL (wyL n G u) i b) n G
def SQ (h h1 : aH) (n G : Nat) (s : St) : Prop := CF h h1 ∧ SR h1 s ∧ WfD (falN n G) s
theorem k_goOnLoop (C : CW h a G n) (hu : u < falN n G) : ∀ m i, i + m = G → ∀ h1 s, SS h h1 a G n (wyL n G u) s → s.1 u = some du → ∃ h' s', SS h h' a G n (wyL n G u) s' ∧ Ext (du + 1) (fun w => ∃ i', i ≤ i' ∧ i' < G ∧ ∃ b, b < n ∧ asP h a G n (wyL n G u) i' b ∧ w = numN (updL (wyL n G u) i' b) n G) s s' ∧ ∀ Q : Option Value → aH → Prop, X 56 32 [.ref 12, .int (nI u), .ref a, .ref 11, .int (nI i)] [] h1 Q ↔ Q none h' := by
  intro m
  have I := C.1
  have h5 := I.1.2.2.2
  have hf := fal_pos C.2.2.2
  have v := (way_V C.2.2.2 hu).1
  induction m with
  | zero =>
    intro i hi h1 s S hs
    have C1 := C.CF S.1
    have g1 := C1.1.1.1
    refine ⟨h1, s, S, Ext.none (fun w ⟨i', q1, q2, _⟩ => by omega) s, fun Q => ?_⟩
    rw [x56_32]
    simp only [x56_0, x56_1, x56_4, x56_5, x56_8, x56_11, x56_12, x56_13, x56_14, x56_15, x56_18, x56_21, x56_24, x56_25, x56_26, x56_29, x56_30, x56_34, x56_35, x56_38, x56_41, x56_42, x56_44, x56_45, x56_46, x56_49, x56_50, x56_51, x56_52, x56_53, x56_54, x56_55, x56_58, x56_59, x56_61, x56_62, x56_63, x56_66, x56_67, x56_68, x56_69, x56_70, x56_71, x56_72, x56_75, x56_78, x56_81, pv_some, pv_none, c1_int, c1_ref, c1_null, true_and, and_true, ne_eq, not_false_eq_true, not_true_eq_false, if_true, if_false, reduceCtorEq, Option.some.injEq, Value.int.injEq, absI_fold, minI_fold, maxI_fold, inn_s g1 I.1.2.1, k_guests g1 I.1.2.1, C1.1.1.2.2.1, nI_lt_iff (show i < 2 ^ 31 by omega) (show G < 2 ^ 31 by omega), show ¬ i < G by omega, if_true, if_false, true_or, or_true, false_or, or_false, true_and, and_true, false_and, and_false, not_true_eq_false, not_false_eq_true, iff_self, ite_self, ne_eq, true_implies, implies_true, Bool.false_eq_true, decide_true, decide_false, Bool.or_true, Bool.or_false, Bool.true_or, Bool.false_or]
  | succ m ih =>
    intro i hi h1 s S hs
    have iG : i < G := by omega
    have C1 := C.CF S.1
    have g1 := C1.1.1.1
    have dl := S.2.2.2.2.2 u du hs
    have le := S.2.2.2.2.1.le
    obtain ⟨h2, s2, S2, x2, le2, k2⟩ := k_goAside1 (d := du + 1) C v iG S (by omega)
    have hs2 := (x2.1 u).1 du hs
    have g2 := (C.CF S2.1).1.1.1
    obtain ⟨h3, s3, S3, x3, le3, k3⟩ := k_goAside2 (d := du + 1) C v iG S2 (by omega)
    have hs3 := (x3.1 u).1 du hs2
    have g3 := (C.CF S3.1).1.1.1
    obtain ⟨h', s', S', x', k'⟩ := ih (i + 1) (by omega) h3 s3 S3 hs3
    have e1 : hI h1 13 u = nI du := by rw [S.2.2.2.1.1 u (by omega), hs]; rfl
    have e2 : hI h2 13 u = nI du := by rw [S2.2.2.2.1.1 u (by omega), hs2]; rfl
    refine ⟨h', s', S', ((x2.trans x3).trans x').congr (fun w => ?_), fun Q => ?_⟩
    · constructor
      · rintro ((⟨b', q1, q2, q3, q4⟩ | ⟨b', q1, q3, q4⟩) | ⟨i', q1, q2⟩)
        · exact ⟨i, Nat.le_refl i, iG, b', q2, q3, q4⟩
        · exact ⟨i, Nat.le_refl i, iG, b', Nat.lt_trans q1 (v.1 i iG), q3, q4⟩
        · exact ⟨i', by omega, q2⟩
      · rintro ⟨i', q1, q2, b', q3, q4, q5⟩
        by_cases c0 : i' = i
        · subst c0
          refine Or.inl ?_
          have ne := (may_iff.mp q4).1 i' q2
          by_cases c1 : wyL n G u i' < b'
          · exact Or.inl ⟨b', c1, q3, q4, q5⟩
          · exact Or.inr ⟨b', Nat.lt_of_le_of_ne (Nat.not_lt.mp c1) (fun e => ne e.symm), q4, q5⟩
        · exact Or.inr ⟨i', by omega, q2, b', q3, q4, q5⟩
    · rw [x56_32]
      simp only [x56_0, x56_1, x56_4, x56_5, x56_8, x56_11, x56_12, x56_13, x56_14, x56_15, x56_18, x56_21, x56_24, x56_25, x56_26, x56_29, x56_30, x56_34, x56_35, x56_38, x56_41, x56_42, x56_44, x56_45, x56_46, x56_49, x56_50, x56_51, x56_52, x56_53, x56_54, x56_55, x56_58, x56_59, x56_61, x56_62, x56_63, x56_66, x56_67, x56_68, x56_69, x56_70, x56_71, x56_72, x56_75, x56_78, x56_81, pv_some, pv_none, c1_int, c1_ref, c1_null, true_and, and_true, ne_eq, not_false_eq_true, not_true_eq_false, if_true, if_false, reduceCtorEq, Option.some.injEq, Value.int.injEq, absI_fold, minI_fold, maxI_fold, inn_s g1 I.1.2.1, k_guests g1 I.1.2.1, C1.1.1.2.2.1, nI_lt_iff (show i < 2 ^ 31 by omega) (show G < 2 ^ 31 by omega), iG, ss12 g1, sr0 g1, ss13 g1, m_nz, ibn (show u < 720 by omega) (by decide), nI_cl (show u < 2 ^ 31 by omega), e1, nI_add1, k2, ss12 g2, sr0 g2, ss13 g2, e2, k3, k', if_true, if_false, true_or, or_true, false_or, or_false, true_and, and_true, false_and, and_false, not_true_eq_false, not_false_eq_true, iff_self, ite_self, ne_eq, true_implies, implies_true, Bool.false_eq_true, decide_true, decide_false, Bool.or_true, Bool.or_false, Bool.true_or, Bool.false_or]
theorem k_goOn (C : CW h a G n) (S : SQ h h1 n G s) (hu : u < falN n G) (hs : s.1 u = some du) : ∃ h' s', SQ h h' n G s' ∧ Ext (du + 1) (EW h a G n u) s s' ∧ ∀ Q : Option Value → aH → Prop, X 56 0 [.ref 12, .int (nI u), .ref a, .ref 11, .null] [] h1 Q ↔ Q none h' := by
  have I := C.1
  have h5 := I.1.2.2.2
  have hf := fal_pos C.2.2.2
  have bb := C.2.2.2
  have W := way_V bb hu
  obtain ⟨S1, S2, S3⟩ := S
  have C1 := C.CF S1
  have g1 := C1.1.1.1
  have F2 : CF h (sprH h1 16 n (falN n G) u G) := S1.trans (by
    unfold sprH
    exact CF.wI (fun b j q1 q2 q3 => by rw [if_neg (by omega)]))
  have C2 := C.CF F2
  have g2 := C2.1.1.1
  have e16 : ∀ i, i < G → hI (sprH h1 16 n (falN n G) u G) 16 i = nI (wyL n G u i) ∧ wyL n G u i < 6 := fun i hi => ⟨spr_at h1 hi, Nat.lt_of_lt_of_le (W.1.1 i hi) bb.2.2⟩
  have e4 : hI (sprH h1 16 n (falN n G) u G) (a + 4) = hI h (a + 4) := F2.inn I.2.2 (c := 4) (by decide)
  have e0 : hI (sprH h1 16 n (falN n G) u G) a = hI h a := F2.inn I.2.2 (c := 0) (by decide)
  have kn := fun Q : Option Value → aH → Prop => k_noteSleepers (Q := Q) C2.1 e16
  rw [e4, e0] at kn
  have o : ∀ b j, b ≠ 17 → hI (nsK (sprH h1 16 n (falN n G) u G) (wyL n G u) (hI h (a + 4)) (hI h a 8) G) b j = hI (sprH h1 16 n (falN n G) u G) b j := fun b j q => by unfold nsK; rw [hI_wI, if_neg (fun z => q z.1)]
  have F3 : CF h (nsK (sprH h1 16 n (falN n G) u G) (wyL n G u) (hI h (a + 4)) (hI h a 8) G) := F2.trans (by
    unfold nsK
    exact CF.wI (fun b j q1 q2 q3 => by rw [if_neg (by omega)]))
  have SS3 : SS h (nsK (sprH h1 16 n (falN n G) u G) (wyL n G u) (hI h (a + 4)) (hI h a 8) G) a G n (wyL n G u) s := by
    refine ⟨F3, fun i hi => ?_, fun b hb => ?_, S2.congr (fun b j q1 q2 => ?_), S3⟩
    · rw [o 16 i (by decide)]; exact (e16 i hi).1
    · unfold nsK; rw [hI_wI, if_pos ⟨rfl, hb⟩]
    · rw [o b j (by omega), spr_o h1 (by omega)]
  obtain ⟨h', s', S', x', k'⟩ := k_goOnLoop C hu G 0 (by omega) _ _ SS3 hs
  refine ⟨h', s', ⟨S'.1, S'.2.2.2.1, S'.2.2.2.2⟩, x'.congr (fun w => ?_), fun Q => ?_⟩
  · constructor
    · rintro ⟨i', _, q2, q3⟩; exact ⟨i', q2, q3⟩
    · rintro ⟨i', q2, q3⟩; exact ⟨i', Nat.zero_le _, q2, q3⟩
  · have u7 : (nI u < 720) = True := eq_true (nI_lt (b := 720) (by omega) (by decide))
    have kp := fun Q : Option Value → aH → Prop => k_spread (Q := Q) (w := u) g1 C1.2.1 (Or.inl rfl) bb.2.2 h5 bb.2.1 (by omega) W.2.2.1
    have kk := k' Q
    simp only [x56_0, x56_1, x56_4, x56_5, x56_8, x56_11, x56_12, x56_13, x56_14, x56_15, x56_18, x56_21, x56_24, x56_25, x56_26, x56_29, x56_30, x56_34, x56_35, x56_38, x56_41, x56_42, x56_44, x56_45, x56_46, x56_49, x56_50, x56_51, x56_52, x56_53, x56_54, x56_55, x56_58, x56_59, x56_61, x56_62, x56_63, x56_66, x56_67, x56_68, x56_69, x56_70, x56_71, x56_72, x56_75, x56_78, x56_81, pv_some, pv_none, c1_int, c1_ref, c1_null, true_and, and_true, ne_eq, not_false_eq_true, not_true_eq_false, if_true, if_false, reduceCtorEq, Option.some.injEq, Value.int.injEq, absI_fold, minI_fold, maxI_fold, nI_neg (show u < 2 ^ 31 by omega), u7, ss12 g1, sr3 g1, ss15 g1, sr15 g1, cs11 g1, m_nz, kp, ss12 g2, kn, if_true, if_false, true_or, or_true, false_or, or_false, true_and, and_true, false_and, and_false, not_true_eq_false, not_false_eq_true, iff_self, ite_self, ne_eq, true_implies, implies_true, Bool.false_eq_true, decide_true, decide_false, Bool.or_true, Bool.or_false, Bool.true_or, Bool.false_or]
    exact kk
end SRCH5
section LAWV
variable {n G i j k w : Nat} {p q : Nat → Bool} {lo : Nat → Int32}
theorem cntB_mono (h : ∀ k, k < G → p k = true → q k = true) : cntB p G ≤ cntB q G := by
  induction G with
  | zero => exact Nat.le_refl 0
  | succ G ih =>
    have i := ih (fun k hk => h k (by omega))
    have e1 : cntB p (G + 1) = if p G = true then cntB p G + 1 else cntB p G := rfl
    have e2 : cntB q (G + 1) = if q G = true then cntB q G + 1 else cntB q G := rfl
    rw [e1, e2]
    by_cases c : p G = true
    · rw [if_pos c, if_pos (h G (by omega) c)]; omega
    · rw [if_neg c]; split <;> omega
theorem cntB_strict (h : ∀ k, k < G → p k = true → q k = true) (hw : w < G) (h1 : q w = true) (h2 : p w = false) : cntB p G < cntB q G := by
  induction G with
  | zero => omega
  | succ G ih =>
    have e1 : cntB p (G + 1) = if p G = true then cntB p G + 1 else cntB p G := rfl
    have e2 : cntB q (G + 1) = if q G = true then cntB q G + 1 else cntB q G := rfl
    rw [e1, e2]
    by_cases c : w = G
    · subst c
      have := cntB_mono (p := p) (q := q) (G := w) (fun k hk => h k (by omega))
      rw [h1, h2, if_pos rfl, if_neg (by decide)]
      omega
    · have i := ih (fun k hk => h k (by omega)) (by omega)
      by_cases c2 : p G = true
      · rw [if_pos c2, if_pos (h G (by omega) c2)]; omega
      · rw [if_neg c2]; split <;> omega
/-- j goes ahead of i -/
def ahP (lo : Nat → Int32) (i j : Nat) : Bool := decide (lo i < lo j ∨ lo j = lo i ∧ j < i)
def ahN (lo : Nat → Int32) (i G : Nat) : Nat := cntB (ahP lo i) G
theorem ahead_N : ∀ G, aheadF lo i G = nI (ahN lo i G) := by
  intro G
  induction G with
  | zero => rfl
  | succ G ih =>
    have e1 : aheadF lo i (G + 1) = if lo i < lo G ∨ lo G = lo i ∧ G < i then aheadF lo i G + 1 else aheadF lo i G := rfl
    have e2 : ahN lo i (G + 1) = if ahP lo i G = true then ahN lo i G + 1 else ahN lo i G := rfl
    rw [e1, e2, ih]
    unfold ahP
    by_cases c : lo i < lo G ∨ lo G = lo i ∧ G < i
    · rw [if_pos c, if_pos (decide_eq_true c), nI_add1]
    · rw [if_neg c, if_neg (by rw [decide_eq_false c]; decide)]
theorem ah_lt (hi : i < G) : ahN lo i G < G := cntB_lt (w := i) (by
  unfold ahP
  refine decide_eq_false (fun q => ?_)
  rcases q with q | q
  · exact Int32.lt_irrefl q
  · omega) G hi
theorem ah_ne (hi : i < G) (hj : j < G) (hne : i ≠ j) : ahN lo i G ≠ ahN lo j G := by
  have key : ∀ i j, i < G → j < G → ahP lo i j = true → ahN lo j G < ahN lo i G := by
    intro i j hi hj h
    refine cntB_strict (w := j) (fun k hk q => ?_) hj h (decide_eq_false (fun q => ?_))
    · unfold ahP at *
      simp only [decide_eq_true_eq] at *
      rw [Int32.lt_iff_toInt_lt] at *
      rw [← Int32.toInt_inj] at *
      omega
    · rcases q with q | q
      · exact Int32.lt_irrefl q
      · omega
  have tot : ahP lo i j = true ∨ ahP lo j i = true := by
    unfold ahP
    simp only [decide_eq_true_eq]
    rw [Int32.lt_iff_toInt_lt, Int32.lt_iff_toInt_lt, ← Int32.toInt_inj, ← Int32.toInt_inj]
    omega
  rcases tot with t | t
  · have := key i j hi hj t; omega
  · have := key j i hj hi t; omega
/-- the law's way -/
def lwN (lo : Nat → Int32) (n G i : Nat) : Nat := if ahN lo i G % 2 = 0 then ahN lo i G / 2 else n - 1 - ahN lo i G / 2
theorem law_N (b : BG n G) (hi : i < G) : lawF lo (nI n) i G = nI (lwN lo n G i) := by
  have al := ah_lt (lo := lo) hi
  obtain ⟨b1, b2, b3⟩ := b
  unfold lawF lwN
  rw [ahead_N]
  generalize ahN lo i G = m at *
  have d2 : nI m / 2 = nI (m / 2) := nI_div (b := 2) (by omega) (by decide)
  have m2 : nI m - nI m / 2 * 2 = nI (m % 2) := nI_mod (b := 2) (by omega) (by decide)
  rw [m2, d2, nI_m1 (show 1 ≤ n by omega), nI_sub (show m / 2 ≤ n - 1 by omega)]
  have e : (nI (m % 2) = 0) = (m % 2 = 0) := nI_z (by omega)
  simp only [e]
  split <;> rfl
theorem law_V (b : BG n G) : VL n G (lwN lo n G) := by
  obtain ⟨b1, b2, b3⟩ := b
  refine ⟨fun i hi => ?_, fun i j hi hj e => ?_⟩
  · have := ah_lt (lo := lo) hi
    unfold lwN
    split <;> omega
  · have a1 := ah_lt (lo := lo) hi
    have a2 := ah_lt (lo := lo) hj
    by_cases c : i = j
    · exact c
    · have ne := ah_ne (lo := lo) hi hj c
      unfold lwN at e
      generalize ahN lo i G = x at *
      generalize ahN lo j G = y at *
      split at e <;> split at e <;> omega
end LAWV
