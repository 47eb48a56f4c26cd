/-! BOTH ANSWER ALIKE: lay -/
section AGR10
variable {h h' h1 h2 : aH} {D D' : Nat → Int32} {n a r nt zu zk zr i j k T u b z m o G : Nat} {x y w hr d : Int32}
theorem mi_o {b j : Nat} (q1 : ¬ (b = 7 ∧ j = 3)) (q2 : b ≠ 11) (q3 : ¬ (b = 18 ∧ j = 2)) (q4 : ¬ (b = 20 ∧ j = 2)) (q5 : b ≠ 22) (q6 : b ≠ 23) : hI (miH h o r G n) b j = hI h b j := by
  unfold miH
  rw [hI_sI, if_neg q1, hI_sI, if_neg q4, hI_sI, if_neg q3, fit_o _ _ _ _ q2, setL_o q5 q6, sw_I]
theorem mi_lv (hj : j < 10) : lv (miH h o r G n) 22 j = bgV h r G j := by
  have e : lv (miH h o r G n) 22 j = lv (setL (swH h o r) 22 (bgV h r G)) 22 j := by
    unfold lv miH
    split
    · rw [hI_sI, if_neg (by omega), hI_sI, if_neg (by omega), hI_sI, if_neg (by omega), fit_o _ _ _ _ (by omega)]
    · rw [hI_sI, if_neg (by omega), hI_sI, if_neg (by omega), hI_sI, if_neg (by omega), fit_o _ _ _ _ (by omega)]
  rw [e, lv_setL _ _ _ hj]
theorem mi_11 : hI (miH h o r G n) 11 0 = nI n ∧ hI (miH h o r G n) 11 1 = nI G ∧ hI (miH h o r G n) 11 2 = nI (falN n G) := by
  unfold miH
  refine ⟨?_, ?_, ?_⟩
  · rw [hI_sI, if_neg (by omega), hI_sI, if_neg (by omega), hI_sI, if_neg (by omega), fit_0]
  · rw [hI_sI, if_neg (by omega), hI_sI, if_neg (by omega), hI_sI, if_neg (by omega), fit_1]
  · rw [hI_sI, if_neg (by omega), hI_sI, if_neg (by omega), hI_sI, if_neg (by omega), fit_2]
theorem mi_z : hI (miH h o r G n) 7 3 = 0 ∧ hI (miH h o r G n) 18 2 = 0 ∧ hI (miH h o r G n) 20 2 = 0 := by
  unfold miH
  refine ⟨?_, ?_, ?_⟩
  · rw [hI_sI, if_pos ⟨rfl, rfl⟩]
  · rw [hI_sI, if_neg (by omega), hI_sI, if_neg (by omega), hI_sI, if_pos ⟨rfl, rfl⟩]
  · rw [hI_sI, if_neg (by omega), hI_sI, if_pos ⟨rfl, rfl⟩]
theorem ly_SR (h : aH) : hS (layH h) = hS h ∧ hR (layH h) = hR h := ⟨by unfold layH; rw [hS_wI], by unfold layH; rw [hR_wI]⟩
theorem ly_o {b j : Nat} (q1 : b ≠ 46) (q2 : b ≠ 48) (q3 : ¬ (b = 44 ∧ (j = 6 ∨ j = 8 ∨ j = 10))) : hI (layH h) b j = hI h b j := by
  unfold layH
  rw [hI_wI, if_neg (fun q => q1 q.1), if_neg (fun q => q2 q.1), if_neg q3]
theorem ly_46 (hj : j < 31) : hI (layH h) 46 j = hI h 47 j := by unfold layH; rw [hI_wI, if_pos ⟨rfl, hj⟩]
theorem ly_48 (hj : j < 10) : hI (layH h) 48 j = if j < 5 then hI h 47 (26 + j) else if j = 5 then hI h 47 4 else 0 := by unfold layH; rw [hI_wI, if_neg (by omega), if_pos ⟨rfl, hj⟩]
theorem ly_44 (hj : j = 6 ∨ j = 8 ∨ j = 10) : hI (layH h) 44 j = 0 := by unfold layH; rw [hI_wI, if_neg (by omega), if_neg (by omega), if_pos ⟨rfl, hj⟩]
/-- what a laid inn's state is, on both sides -/
theorem laid_rel (gm : GM h1) (w : orOk h1 o r) (I : ID h1 r D) (W : DW D) (hD : ¬ D 0 = 0) (hn : D 1 = nI n) (hn6 : 2 ≤ n ∧ n ≤ 6 ∧ gN D < n) (f : MFr (miH h1 o r (gN D) n) h2) (M : MD h2 D) (t : R2 h1 nt) (e18 : hI h1 18 0 = nI 8) (e20 : hI h1 20 0 = nI 2) : RelP (layH h2) D n r o nt 0 0 0 := by
  have w3 := w.2.2
  have g := gm.1
  have h5 := W.1.2
  have gp : 1 ≤ gN D := by
    have : gN D ≠ 0 := fun q => hD (by rw [W.1.1, q]; rfl)
    omega
  have fo : ∀ b j, b ≠ 47 → ¬ (b = 44 ∧ j = 11) → hI h2 b j = hI (miH h1 o r (gN D) n) b j := f.2
  have es : hS (layH h2) = hS (swH h1 o r) := by rw [(ly_SR h2).1, f.1, hS_wI, mi_S]
  have er : hR (layH h2) = hR (swH h1 o r) := by rw [(ly_SR h2).2, f.1, hR_wI, mi_R]
  have gs := GS_of (sw_GS g w) es er
  have gsm := GM_of (sw_GM gm w) es er
  have inn : ∀ b j, r ≤ b ∧ b ≤ r + 5 → hI (layH h2) b j = hI h1 b j := fun b j q => by rw [ly_o (by omega) (by omega) (by omega), fo b j (by omega) (by omega), mi_o (by omega) (by omega) (by omega) (by omega) (by omega) (by omega)]
  have W26 := W.2.1
  obtain ⟨n', d1, d2, d3, d4, d5⟩ := W26
  have nn : n' = n := by
    have e := d1.symm.trans hn
    exact (nI_eq_iff (by omega) (by omega)).mp e
  subst nn
  refine ⟨⟨gs, ?_, ⟨?_, fun i hi => ?_⟩, ⟨gsm, W, fun j hj => ?_, fun i hi q hq => ?_⟩, hn, ⟨gp, hn6.2.2, hn6.2.1⟩, ?_, ?_, ?_⟩, ⟨?_, ?_, t.2.2.1, fun p hp => ?_⟩, ⟨fun j hj q => ?_, fun i hi => ?_, fun i j hi hj e => ?_, ?_, ?_⟩, ⟨?_, ?_, ?_, by omega, fun k hk => by omega⟩, ⟨?_, ?_, ?_, by omega, fun k hk => by omega⟩, ⟨?_, ?_, by omega, fun _ => 0, fun _ => 0, fun _ => 0, fun k hk => by omega⟩⟩
  · unfold orOk; rw [er]; exact sw_or w
  · rw [inn r 5 (by omega), inn r 6 (by omega), inn r 8 (by omega), inn r 9 (by omega), inn r 7 (by omega), inn r 10 (by omega)]; exact I.1
  · rw [inn (r + 1) i (by omega), inn (r + 2) i (by omega), inn (r + 3) i (by omega), inn (r + 4) i (by omega), inn (r + 5) i (by omega)]; exact I.2 i hi
  · rw [ly_46 (by omega)]; exact M.1 j (by omega)
  · rw [ly_46 (by omega)]; exact M.2 i hi q hq
  · rw [ly_o (by decide) (by decide) (by decide), fo 11 0 (by decide) (by decide)]; exact mi_11.1
  · rw [ly_o (by decide) (by decide) (by decide), fo 11 1 (by decide) (by decide)]; exact mi_11.2.1
  · rw [ly_o (by decide) (by decide) (by decide), fo 11 2 (by decide) (by decide)]; exact mi_11.2.2
  · rw [ly_o (by decide) (by decide) (by decide), fo 4 1 (by decide) (by decide), mi_o (by decide) (by decide) (by decide) (by decide) (by decide) (by decide)]; exact t.1
  · rw [ly_o (by decide) (by decide) (by decide), fo 44 1 (by decide) (by decide), mi_o (by decide) (by decide) (by decide) (by decide) (by decide) (by decide)]; exact t.2.1
  · rw [ly_o (by decide) (by decide) (by omega), fo 5 p (by decide) (by omega), mi_o (by omega) (by decide) (by omega) (by omega) (by decide) (by decide), ly_o (by decide) (by decide) (by omega), fo 45 p (by decide) (by omega), mi_o (by omega) (by decide) (by omega) (by omega) (by decide) (by decide)]
    exact t.2.2.2 p hp
  · have l1 : lv (layH h2) 22 j = bgV h1 r (gN D) j := by
      rw [← mi_lv (o := o) (n := n') hj]
      unfold lv
      split
      · rw [ly_o (by decide) (by decide) (by omega), fo _ j (by decide) (by omega)]
      · rw [ly_o (by decide) (by decide) (by omega), fo 22 _ (by decide) (by omega)]
    rw [l1, ly_48 hj]
    unfold bgV
    by_cases c : j < 5
    · rw [if_pos c, if_pos c]
      have jg : j < gN D := by omega
      rw [if_pos jg, (I.2 j jg).2.2.2.2]
      exact (M.2 j jg 4 (by decide)).symm
    · rw [if_neg c, if_neg c]
      by_cases c5 : j = 5
      · rw [if_pos c5, if_pos c5, I.1.2.2.2.2.1, M.1 4 (by decide)]
      · rw [if_neg c5, if_neg c5]
  · have l1 : lv (layH h2) 22 i = bgV h1 r (gN D) i := by
      rw [← mi_lv (o := o) (n := n') (show i < 10 by omega)]
      unfold lv
      split
      · rw [ly_o (by decide) (by decide) (by omega), fo _ i (by decide) (by omega)]
      · rw [ly_o (by decide) (by decide) (by omega), fo 22 _ (by decide) (by omega)]
    rw [l1]
    unfold bgV
    rw [if_pos (by omega), if_pos hi, (I.2 i hi).2.2.2.2]
    exact d5 i hi
  · have l1 : ∀ i, i < gN D → lv (layH h2) 22 i = D (26 + i) := by
      intro i hi
      have l1 : lv (layH h2) 22 i = bgV h1 r (gN D) i := by
        rw [← mi_lv (o := o) (n := n') (show i < 10 by omega)]
        unfold lv
        split
        · rw [ly_o (by decide) (by decide) (by omega), fo _ i (by decide) (by omega)]
        · rw [ly_o (by decide) (by decide) (by omega), fo 22 _ (by decide) (by omega)]
      rw [l1]
      unfold bgV
      rw [if_pos (by omega), if_pos hi, (I.2 i hi).2.2.2.2]
    rw [l1 i hi, l1 j hj] at e
    exact W.2.2.2.2.2.2.2.2 i j hi hj e
  · have l1 : lv (layH h2) 22 5 = bgV h1 r (gN D) 5 := by
      rw [← mi_lv (o := o) (n := n') (show 5 < 10 by decide), lv_5, lv_5, ly_o (by decide) (by decide) (by omega), fo 22 1 (by decide) (by decide)]
    rw [l1]
    unfold bgV
    rw [if_neg (by omega), if_pos rfl, I.1.2.2.2.2.1]
    exact W.2.2.2.2.1
  · have l1 : lv (layH h2) 22 6 = bgV h1 r (gN D) 6 := by
      rw [← mi_lv (o := o) (n := n') (show 6 < 10 by decide), lv_6, lv_6, ly_o (by decide) (by decide) (by omega), fo 22 2 (by decide) (by decide)]
    rw [l1]
    unfold bgV
    rw [if_neg (by omega), if_neg (by omega)]
    exact ⟨0, by omega, rfl⟩
  · rw [ly_o (by decide) (by decide) (by decide), fo 18 0 (by decide) (by decide), mi_o (by decide) (by decide) (by decide) (by decide) (by decide) (by decide)]; exact e18
  · rw [ly_o (by decide) (by decide) (by decide), fo 18 2 (by decide) (by decide)]; exact mi_z.2.1
  · rw [ly_44 (by omega)]; rfl
  · rw [ly_o (by decide) (by decide) (by decide), fo 20 0 (by decide) (by decide), mi_o (by decide) (by decide) (by decide) (by decide) (by decide) (by decide)]; exact e20
  · rw [ly_o (by decide) (by decide) (by decide), fo 20 2 (by decide) (by decide)]; exact mi_z.2.2
  · rw [ly_44 (by omega)]; rfl
  · rw [ly_o (by decide) (by decide) (by decide), fo 7 3 (by decide) (by decide)]; exact mi_z.1
  · rw [ly_44 (by omega)]; rfl
theorem a_lay (R : Rel h) : Agr h 84 [.ref 3] 137 [.ref 44] := by
  obtain ⟨D, n, a, r, nt, zu, zk, zr, R⟩ := R
  obtain ⟨h1, f1, M1, k1⟩ := c_lay R.T R.1.2.1 R.U R.K
  have R' := R.Fr f1
  have hb : ∀ b : Nat → Int32, (∀ p, p < nt → b p = hI h 45 p) → parseF (mlt b nt) nt 201 0 D0 = parseF (ltr (hI h 5) nt) nt 201 0 D0 := fun b hb => (parse_eq (a := hI h 5) (b := b) (n := nt) (fun p hp => by rw [hb p hp]; exact R.2.1.2.2.2 p hp) 201 0 D0).symm
  have t45 : ∀ p, hI h1 45 p = hI h 45 p := fun p => f1.2 45 p (by decide) (by omega) (by have := R.1.2.1.2.2; omega)
  by_cases c : (parseF (ltr (hI h 5) nt) nt 201 0 D0).1 = none ∧ ¬ (parseF (ltr (hI h 5) nt) nt 201 0 D0).2 0 = 0
  · obtain ⟨I1, W1⟩ := M1 c.1
    obtain ⟨n', d1, d2, d3, d4, -⟩ := W1.2.1
    have en : ((parseF (ltr (hI h 5) nt) nt 201 0 D0).2 1).toNatClampNeg = n' := by rw [d1]; exact nI_cl (by omega)
    rw [en] at k1
    have T1 : MT (miH h1 a r (gN (parseF (ltr (hI h 5) nt) nt 201 0 D0).2) n') nt := ⟨mi_GM R'.gm R'.1.2.1, by rw [mi_o (by decide) (by decide) (by decide) (by decide) (by decide) (by decide)]; exact R'.2.1.2.1, R.2.1.2.2.1⟩
    obtain ⟨h2, f2, M2, k2⟩ := m_lay T1
    have ep := hb (hI (miH h1 a r (gN (parseF (ltr (hI h 5) nt) nt 201 0 D0).2) n') 45) (fun p _ => by rw [mi_o (by omega) (by decide) (by omega) (by omega) (by decide) (by decide)]; exact t45 p)
    rw [ep] at M2 k2
    obtain ⟨M3, -⟩ := M2 c.1
    refine ⟨_, _, layH h2, (laid_rel R'.gm R'.1.2.1 I1 W1 c.2 d1 ⟨d2, d3, d4⟩ f2 M3 R'.2.1 R'.2.2.2.1.1 R'.2.2.2.2.1.1).rel, fun Q => (k1 Q).trans (iff_if c), fun Q => (k2 Q).trans (iff_if c)⟩
  · obtain ⟨h2, f2, M2, k2⟩ := m_lay R'.MT
    have ep := hb (hI h1 45) (fun p _ => t45 p)
    rw [ep] at M2 k2
    exact ⟨_, h1, h2, (R'.MFr f2).rel, fun Q => (k1 Q).trans (iff_ifn c), fun Q => (k2 Q).trans (iff_ifn c)⟩
end AGR10
