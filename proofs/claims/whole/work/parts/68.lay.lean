/-! THE CLASS: moving in; lay -/
section LAY
variable {h h1 : aH} {a G i j k z n nt o r u v : Nat} {Q : Option Value → aH → Prop} {D : Nat → Int32}
def bgV (h : aH) (r G : Nat) : Nat → Int32 := fun j => if j < 5 then (if j < G then hI h (r + 5) j else 0) else if j = 5 then hI h r 7 else 0
def swH (h : aH) (o r : Nat) : aH := sR (sR h 3 8 r) 3 9 o
def miH (h : aH) (o r G n : Nat) : aH := sI (sI (sI (fitH (setL (swH h o r) 22 (bgV h r G)) n G (falN n G)) 18 2 0) 20 2 0) 7 3 0
def orOk (h : aH) (o r : Nat) : Prop := hR h 3 8 = o ∧ hR h 3 9 = r ∧ (o = 26 ∧ r = 32 ∨ o = 32 ∧ r = 26)
theorem sw_GS (g : GS h) (w : orOk h o r) : GS (swH h o r) := by
  obtain ⟨w1, w2, w3⟩ := w
  obtain ⟨g1, g2, g3⟩ := g
  refine ⟨g1, fun a k ha hk => ?_, ?_⟩
  · unfold swH
    rw [hR_sR, if_neg, hR_sR, if_neg]
    · exact g2 a k ha hk
    · rintro ⟨rfl, rfl⟩; exact hk rfl
    · rintro ⟨rfl, rfl⟩; exact hk rfl
  · unfold swH
    rw [hR_sR, if_neg (by omega), hR_sR, if_pos ⟨rfl, rfl⟩, hR_sR, if_pos ⟨rfl, rfl⟩]
    omega
theorem sw_or (w : orOk h o r) : orOk (swH h o r) r o := by
  obtain ⟨w1, w2, w3⟩ := w
  refine ⟨?_, ?_, by omega⟩
  · unfold swH; rw [hR_sR, if_neg (by omega), hR_sR, if_pos ⟨rfl, rfl⟩]
  · unfold swH; rw [hR_sR, if_pos ⟨rfl, rfl⟩]
theorem sw_I (h : aH) (o r : Nat) : hI (swH h o r) = hI h := rfl
theorem fit_o (h : aH) (n G t : Nat) {b j : Nat} (hb : b ≠ 11) : hI (fitH h n G t) b j = hI h b j := by
  unfold fitH
  rw [hI_sI, if_neg (by omega), hI_sI, if_neg (by omega), hI_sI, if_neg (by omega)]
theorem fit_R (h : aH) (n G t : Nat) : hR (fitH h n G t) = hR h := rfl
theorem fit_S (h : aH) (n G t : Nat) : hS (fitH h n G t) = hS h := rfl
theorem sw_f (h : aH) (o r : Nat) : sR (sR h 3 8 r) 3 9 o = swH h o r := rfl
theorem c_moveIn (g : GS h) (w : orOk h o r) (I : ID h r D) (W : DW D) (hn : D 1 = nI n) (hn6 : 2 ≤ n ∧ n ≤ 6 ∧ gN D < n) (S1 : ShAt h 18 8 u) (S2 : ShAt h 20 2 v) : X 108 0 [.ref 3, .null] [] h Q ↔ Q none (miH h o r (gN D) n) := by
  have gs := sw_GS g w
  have ws := sw_or w
  have ir : isInn r := by rcases w.2.2 with ⟨_, q⟩ | ⟨_, q⟩ <;> rw [q] <;> simp [isInn]
  have W1 := W.1
  have Is : InnAt (swH h o r) r (gN D) := ⟨gs, ir, I.1.1.trans W1.1, W1.2⟩
  have e8 : hR (swH h o r) 3 8 = r := ws.1
  have rz : (r = 0) = False := by rcases w.2.2 with ⟨_, q⟩ | ⟨_, q⟩ <;> rw [q] <;> simp
  have oz : (o = 0) = False := by rcases w.2.2 with ⟨q, _⟩ | ⟨q, _⟩ <;> rw [q] <;> simp
  have rne : r ≠ 22 ∧ r ≠ 22 + 1 := by rcases w.2.2 with ⟨_, q⟩ | ⟨_, q⟩ <;> rw [q] <;> decide
  have kB : ∀ Q : Option Value → aH → Prop, X 34 0 [.ref 22, .ref r, .null] [] (swH h o r) Q ↔ Q none (setL (swH h o r) 22 (bgV h r (gN D))) := fun Q => k_begin Is
  have g2 : GS (setL (swH h o r) 22 (bgV h r (gN D))) := gs
  have e82 : hR (setL (swH h o r) 22 (bgV h r (gN D))) 3 8 = r := e8
  have e6 : hI (setL (swH h o r) 22 (bgV h r (gN D))) r 6 = nI n := by rw [setL_o rne.1 rne.2, sw_I]; exact I.1.2.1.trans hn
  have e5 : hI (setL (swH h o r) 22 (bgV h r (gN D))) r 5 = nI (gN D) := by rw [setL_o rne.1 rne.2, sw_I]; exact I.1.1.trans W1.1
  have kF := fun Q : Option Value → aH → Prop => k_fit (Q := Q) g2 hn6.2.1 W1.2 (show gN D ≤ n by omega)
  have g3 : GS (fitH (setL (swH h o r) 22 (bgV h r (gN D))) n (gN D) (falN n (gN D))) := gs
  have T1 : ShAt (fitH (setL (swH h o r) 22 (bgV h r (gN D))) n (gN D) (falN n (gN D))) 18 8 u := ⟨g3, S1.2.1, by rw [fit_o _ _ _ _ (by decide), setL_o (by decide) (by decide), sw_I]; exact S1.2.2.1, by rw [fit_o _ _ _ _ (by decide), setL_o (by decide) (by decide), sw_I]; exact S1.2.2.2.1, S1.2.2.2.2⟩
  have g4 : GS (sI (fitH (setL (swH h o r) 22 (bgV h r (gN D))) n (gN D) (falN n (gN D))) 18 2 0) := gs
  have T2 : ShAt (sI (fitH (setL (swH h o r) 22 (bgV h r (gN D))) n (gN D) (falN n (gN D))) 18 2 0) 20 2 v := ⟨g4, S2.2.1, by rw [hI_sI, if_neg (by omega), fit_o _ _ _ _ (by decide), setL_o (by decide) (by decide), sw_I]; exact S2.2.2.1, by rw [hI_sI, if_neg (by omega), fit_o _ _ _ _ (by decide), setL_o (by decide) (by decide), sw_I]; exact S2.2.2.2.1, S2.2.2.2.2⟩
  have g5 : GS (sI (sI (fitH (setL (swH h o r) 22 (bgV h r (gN D))) n (gN D) (falN n (gN D))) 18 2 0) 20 2 0) := gs
  have h8 := w.1
  have h9 := w.2.1
  have e9 : hR h 3 9 = r := h9
  simp only [x108_0, x108_1, x108_4, x108_5, x108_6, x108_7, x108_10, x108_13, x108_14, x108_15, x108_18, x108_19, x108_22, x108_23, x108_26, x108_29, x108_30, x108_33, x108_34, x108_37, x108_40, x108_41, x108_44, x108_47, x108_50, x108_51, x108_54, x108_57, x108_58, x108_61, x108_64, x108_65, x108_68, x108_71, pv_some, pv_none, c1_int, c1_ref, c1_null, true_and, and_true, ne_eq, not_false_eq_true, not_true_eq_false, if_true, if_false, reduceCtorEq, Option.some.injEq, Value.int.injEq, absI_fold, minI_fold, maxI_fold, b_s g, h8, h9, rz, oz, hS_sR, sw_f, b_s gs, b_r6 gs, e8, m_nz, cs22 gs, kB, b_s g2, b_r2 g2, e82, inn_s g2 ir, k_beds g2 ir, k_guests g2 ir, e6, e5, cs11 g2, kF, b_s g3, b_r4 g3, cs18 g3, k_shClear T1, b_s g4, b_r5 g4, cs20 g4, k_shClear T2, b_s g5, b_r1 g5, cs7 g5, k_repClear g5, if_true, if_false, true_or, or_true, false_or, or_false, true_and, and_true, false_and, and_false, not_true_eq_false, not_false_eq_true, iff_self, ite_self, ne_eq, true_implies, implies_true, Bool.false_eq_true, decide_true, decide_false, Bool.or_true, Bool.or_false, Bool.true_or, Bool.false_or]
  rfl
theorem GS_of {h h' : aH} (g : GS h) (e1 : hS h' = hS h) (e2 : hR h' = hR h) : GS h' := by
  unfold GS at *
  rw [e1, e2]
  exact g
theorem GM_of {h h' : aH} (g : GM h) (e1 : hS h' = hS h) (e2 : hR h' = hR h) : GM h' := by
  unfold GM GS at *
  rw [e1, e2]
  exact g
theorem sw_GM (g : GM h) (w : orOk h o r) : GM (swH h o r) := ⟨sw_GS g.1 w, g.2.1, fun k hk => by
  unfold swH
  rw [hR_sR, if_neg (by omega), hR_sR, if_neg (by omega)]
  exact g.2.2 k hk⟩
theorem mi_S (h : aH) (o r G n : Nat) : hS (miH h o r G n) = hS (swH h o r) := by
  unfold miH
  rw [hS_sI, hS_sI, hS_sI, fit_S]
  unfold setL
  rw [hS_wI]
theorem mi_R (h : aH) (o r G n : Nat) : hR (miH h o r G n) = hR (swH h o r) := by
  unfold miH
  rw [hR_sI, hR_sI, hR_sI, fit_R]
  unfold setL
  rw [hR_wI]
theorem mi_GS (g : GS h) (w : orOk h o r) : GS (miH h o r G n) := GS_of (sw_GS g w) (mi_S h o r G n) (mi_R h o r G n)
theorem mi_GM (g : GM h) (w : orOk h o r) : GM (miH h o r G n) := GM_of (sw_GM g w) (mi_S h o r G n) (mi_R h o r G n)
theorem mi_or (w : orOk h o r) : orOk (miH h o r G n) r o := by
  unfold orOk
  rw [mi_R]
  exact sw_or w
theorem c_lay (T : TxAt h nt) (w : orOk h o r) (S1 : ShAt h 18 8 u) (S2 : ShAt h 20 2 v) : ∃ h1, Fr h h1 r ∧ ((parseF (ltr (hI h 5) nt) nt 201 0 D0).1 = none → ID h1 r (parseF (ltr (hI h 5) nt) nt 201 0 D0).2 ∧ DW (parseF (ltr (hI h 5) nt) nt 201 0 D0).2) ∧ ∀ Q : Option Value → aH → Prop, X 84 0 [.ref 3] [] h Q ↔ if (parseF (ltr (hI h 5) nt) nt 201 0 D0).1 = none ∧ ¬ (parseF (ltr (hI h 5) nt) nt 201 0 D0).2 0 = 0 then Q (some (.int ((parseF (ltr (hI h 5) nt) nt 201 0 D0).2 0))) (miH h1 o r (gN (parseF (ltr (hI h 5) nt) nt 201 0 D0).2) ((parseF (ltr (hI h 5) nt) nt 201 0 D0).2 1).toNatClampNeg) else Q (some (.int (-2))) h1 := by
  have g := T.1
  have ir : isInn r := by rcases w.2.2 with ⟨_, q⟩ | ⟨_, q⟩ <;> rw [q] <;> simp [isInn]
  obtain ⟨h1, fr, M, kk⟩ := k_readInto T ir
  have hb := parse_lt (ltr (hI h 5) nt) nt 201 0 D0
  generalize parseF (ltr (hI h 5) nt) nt 201 0 D0 = R at *
  have hn := T.2.2
  have g1 := fr.GS g
  have rz : (r = 0) = False := by rcases w.2.2 with ⟨_, q⟩ | ⟨_, q⟩ <;> rw [q] <;> simp
  have R1 : ∀ b k, hR h1 b k = hR h b k := fun b k => by rw [fr.1]; rfl
  have w1 : orOk h1 o r := ⟨by rw [R1]; exact w.1, by rw [R1]; exact w.2.1, w.2.2⟩
  have sh : ∀ b j, b = 18 ∨ b = 20 → hI h1 b j = hI h b j := fun b j q => fr.2 b j (by omega) (by omega) (by rcases w.2.2 with ⟨_, z⟩ | ⟨_, z⟩ <;> omega)
  have T1 : ShAt h1 18 8 u := ⟨g1, S1.2.1, by rw [sh 18 0 (by omega)]; exact S1.2.2.1, by rw [sh 18 2 (by omega)]; exact S1.2.2.2.1, S1.2.2.2.2⟩
  have T2 : ShAt h1 20 2 v := ⟨g1, S2.2.1, by rw [sh 20 0 (by omega)]; exact S2.2.2.1, by rw [sh 20 2 (by omega)]; exact S2.2.2.2.1, S2.2.2.2.2⟩
  refine ⟨h1, fr, M, fun Q => ?_⟩
  cases hR1 : R.1 with
  | none =>
    obtain ⟨I1, W1⟩ := M hR1
    have e0 : hI h1 r 5 = R.2 0 := I1.1.1
    by_cases h0 : R.2 0 = 0
    · rw [if_neg (fun q => q.2 h0)]
      simp only [x84_0, x84_1, x84_4, x84_5, x84_8, x84_11, x84_13, x84_16, x84_17, x84_20, x84_23, x84_26, x84_28, x84_29, x84_30, x84_33, x84_34, x84_37, x84_40, pv_some, pv_none, c1_int, c1_ref, c1_null, true_and, and_true, ne_eq, not_false_eq_true, not_true_eq_false, if_true, if_false, reduceCtorEq, Option.some.injEq, Value.int.injEq, absI_fold, minI_fold, maxI_fold, b_s g, b_r0 g, w.2.1, rz, m_nz, cs4 g, kk, hR1, fltA, b_s g1, w1.2.1, inn_s g1 ir, k_guests g1 ir, e0, h0, if_true, if_false, true_or, or_true, false_or, or_false, true_and, and_true, false_and, and_false, not_true_eq_false, not_false_eq_true, iff_self, ite_self, ne_eq, true_implies, implies_true, Bool.false_eq_true, decide_true, decide_false, Bool.or_true, Bool.or_false, Bool.true_or, Bool.false_or]
    · rw [if_pos ⟨rfl, h0⟩]
      obtain ⟨n, d1, d2, d3, d4, -⟩ := W1.2.1
      have en : (R.2 1).toNatClampNeg = n := by rw [d1]; exact nI_cl (by omega)
      rw [en]
      have km := fun Q : Option Value → aH → Prop => c_moveIn (Q := Q) g1 w1 I1 W1 d1 ⟨d2, d3, d4⟩ T1 T2
      have gm : GS (miH h1 o r (gN R.2) n) := mi_GS g1 w1
      have em : hR (miH h1 o r (gN R.2) n) 3 8 = r := (mi_or w1).1
      have e5 : hI (miH h1 o r (gN R.2) n) r 5 = R.2 0 := by
        unfold miH
        rw [hI_sI, if_neg (by rcases w.2.2 with ⟨_, z⟩ | ⟨_, z⟩ <;> omega), hI_sI, if_neg (by rcases w.2.2 with ⟨_, z⟩ | ⟨_, z⟩ <;> omega), hI_sI, if_neg (by rcases w.2.2 with ⟨_, z⟩ | ⟨_, z⟩ <;> omega), fit_o _ _ _ _ (by rcases w.2.2 with ⟨_, z⟩ | ⟨_, z⟩ <;> omega), setL_o (by rcases w.2.2 with ⟨_, z⟩ | ⟨_, z⟩ <;> omega) (by rcases w.2.2 with ⟨_, z⟩ | ⟨_, z⟩ <;> omega), sw_I]
        exact e0
      simp only [x84_0, x84_1, x84_4, x84_5, x84_8, x84_11, x84_13, x84_16, x84_17, x84_20, x84_23, x84_26, x84_28, x84_29, x84_30, x84_33, x84_34, x84_37, x84_40, pv_some, pv_none, c1_int, c1_ref, c1_null, true_and, and_true, ne_eq, not_false_eq_true, not_true_eq_false, if_true, if_false, reduceCtorEq, Option.some.injEq, Value.int.injEq, absI_fold, minI_fold, maxI_fold, b_s g, b_r0 g, w.2.1, rz, m_nz, cs4 g, kk, hR1, fltA, b_s g1, w1.2.1, inn_s g1 ir, k_guests g1 ir, e0, h0, km, b_s gm, em, inn_s gm ir, k_guests gm ir, e5, if_true, if_false, true_or, or_true, false_or, or_false, true_and, and_true, false_and, and_false, not_true_eq_false, not_false_eq_true, iff_self, ite_self, ne_eq, true_implies, implies_true, Bool.false_eq_true, decide_true, decide_false, Bool.or_true, Bool.or_false, Bool.true_or, Bool.false_or]
  | some p =>
    rw [if_neg (fun q => by cases q.1)]
    have hp := hb p hR1
    have ne : (nI p = -4) = False := eq_false (fun q => nI_pos (show p < 2 ^ 31 by omega) (q ▸ by decide))
    simp only [x84_0, x84_1, x84_4, x84_5, x84_8, x84_11, x84_13, x84_16, x84_17, x84_20, x84_23, x84_26, x84_28, x84_29, x84_30, x84_33, x84_34, x84_37, x84_40, pv_some, pv_none, c1_int, c1_ref, c1_null, true_and, and_true, ne_eq, not_false_eq_true, not_true_eq_false, if_true, if_false, reduceCtorEq, Option.some.injEq, Value.int.injEq, absI_fold, minI_fold, maxI_fold, b_s g, b_r0 g, w.2.1, rz, m_nz, cs4 g, kk, hR1, fltA, ne, if_true, if_false, true_or, or_true, false_or, or_false, true_and, and_true, false_and, and_false, not_true_eq_false, not_false_eq_true, iff_self, ite_self, ne_eq, true_implies, implies_true, Bool.false_eq_true, decide_true, decide_false, Bool.or_true, Bool.or_false, Bool.true_or, Bool.false_or]
end LAY
