/-! THE FIRST STATE OF BOTH; the law's whole run -/
section FIRST
variable {h h2 : aH} {D : Nat → Int32} {n r o nt N : Nat}
def bgX (D : Nat → Int32) (j : Nat) : Int32 := if j < 5 then (if j < gN D then D (26 + j) else 0) else if j = 5 then D 4 else 0
theorem laid_rel2 (gm : GM h2) (w : orOk h2 r o) (I : ID h2 r D) (W : DW D) (hD : ¬ D 0 = 0) (hn : D 1 = nI n) (hn6 : 2 ≤ n ∧ n ≤ 6 ∧ gN D < n) (wa : WA h2 n (gN D)) (M0 : ∀ j, j < 5 → hI h2 47 j = D j) (M1 : ∀ i, i < gN D → ∀ q, q < 5 → hI h2 47 (6 + 5 * q + i) = D (6 + 5 * q + i)) (t : R2 h2 nt) (lvv : ∀ j, j < 10 → lv h2 22 j = bgX D j) (e18 : hI h2 18 0 = nI 8) (z18 : hI h2 18 2 = nI 0) (e20 : hI h2 20 0 = nI 2) (z20 : hI h2 20 2 = nI 0) (z7 : hI h2 7 3 = nI 0) : RelP (layH h2) D n r o nt 0 0 0 := by
  have w3 := w.2.2
  have h5 := W.1.2
  have gp : 1 ≤ gN D := by
    have : gN D ≠ 0 := fun q => hD (by rw [W.1.1, q]; rfl)
    omega
  have gs := GS_of gm.1 (ly_SR h2).1 (ly_SR h2).2
  have gsm := GM_of gm (ly_SR h2).1 (ly_SR h2).2
  have inn : ∀ b j, r ≤ b ∧ b ≤ r + 5 → hI (layH h2) b j = hI h2 b j := fun b j q => ly_o (by omega) (by omega) (by omega)
  obtain ⟨n', d1, d2, d3, d4, d5⟩ := W.2.1
  have nn : n' = n := (nI_eq_iff (by omega) (by omega)).mp (d1.symm.trans hn)
  subst nn
  have lvl : ∀ j, lv (layH h2) 22 j = lv h2 22 j := by
    intro j
    unfold lv
    split
    · exact ly_o (by decide) (by decide) (by omega)
    · exact ly_o (by decide) (by decide) (by omega)
  refine ⟨⟨gs, ?_, ⟨?_, fun i hi => ?_⟩, ⟨gsm, W, fun j hj => ?_, fun i hi q hq => ?_⟩, hn, ⟨gp, hn6.2.2, hn6.2.1⟩, ?_, ?_, ?_⟩, t.congr (fun b j q => ly_o (by omega) (by omega) (by omega)), ⟨fun j hj q => ?_, fun i hi => ?_, fun i j hi hj e => ?_, ?_, ?_⟩, ⟨?_, ?_, ?_, by omega, fun k hk => by omega⟩, ⟨?_, ?_, ?_, by omega, fun k hk => by omega⟩, ⟨?_, ?_, by omega, fun _ => 0, fun _ => 0, fun _ => 0, fun k hk => by omega⟩⟩
  · unfold orOk; rw [(ly_SR h2).2]; exact w
  · rw [inn r 5 (by omega), inn r 6 (by omega), inn r 8 (by omega), inn r 9 (by omega), inn r 7 (by omega), inn r 10 (by omega)]; exact I.1
  · rw [inn (r + 1) i (by omega), inn (r + 2) i (by omega), inn (r + 3) i (by omega), inn (r + 4) i (by omega), inn (r + 5) i (by omega)]; exact I.2 i hi
  · rw [ly_46 (by omega)]; exact M0 j hj
  · rw [ly_46 (by omega)]; exact M1 i hi q hq
  · rw [ly_o (by decide) (by decide) (by decide)]; exact wa.1
  · rw [ly_o (by decide) (by decide) (by decide)]; exact wa.2.1
  · rw [ly_o (by decide) (by decide) (by decide)]; exact wa.2.2
  · rw [lvl, lvv j hj, ly_48 hj]
    unfold bgX
    by_cases c : j < 5
    · have jg : j < gN D := by omega
      rw [if_pos c, if_pos c, if_pos jg]
      exact (M1 j jg 4 (by decide)).symm
    · rw [if_neg c, if_neg c]
      by_cases c5 : j = 5
      · rw [if_pos c5, if_pos c5, M0 4 (by decide)]
      · rw [if_neg c5, if_neg c5]
  · rw [lvl, lvv i (by omega)]
    unfold bgX
    rw [if_pos (by omega), if_pos hi]
    exact d5 i hi
  · rw [lvl, lvl, lvv i (by omega), lvv j (by omega)] at e
    unfold bgX at e
    rw [if_pos (by omega), if_pos hi, if_pos (by omega), if_pos hj] at e
    exact W.2.2.2.2.2.2.2.2 i j hi hj e
  · rw [lvl, lvv 5 (by decide)]
    unfold bgX
    rw [if_neg (by omega), if_pos rfl]
    exact W.2.2.2.2.1
  · rw [lvl, lvv 6 (by decide)]
    unfold bgX
    rw [if_neg (by omega), if_neg (by omega)]
    exact ⟨0, by omega, rfl⟩
  · rw [ly_o (by decide) (by decide) (by decide)]; exact e18
  · rw [ly_o (by decide) (by decide) (by decide)]; exact z18
  · rw [ly_44 (by omega)]; rfl
  · rw [ly_o (by decide) (by decide) (by decide)]; exact e20
  · rw [ly_o (by decide) (by decide) (by decide)]; exact z20
  · rw [ly_44 (by omega)]; rfl
  · rw [ly_o (by decide) (by decide) (by decide)]; exact z7
  · rw [ly_44 (by omega)]; rfl
theorem dr_v (h : aH) {j : Nat} (hj : j < 31) (h5 : j ≠ 5) : hI (dr0 h) 47 j = [4, 6, 8, 7, 8, 1, 0, 1, 2, 3, 0, 12, 8, 10, 6, 0, 3, 7, 0, 10, 0, 9, 6, 14, 5, 0, 0, 1, 3, 4, 0].getD j 0 := by
  have q : j = 0 ∨ j = 1 ∨ j = 2 ∨ j = 3 ∨ j = 4 ∨ j = 6 ∨ j = 7 ∨ j = 8 ∨ j = 9 ∨ j = 10 ∨ j = 11 ∨ j = 12 ∨ j = 13 ∨ j = 14 ∨ j = 15 ∨ j = 16 ∨ j = 17 ∨ j = 18 ∨ j = 19 ∨ j = 20 ∨ j = 21 ∨ j = 22 ∨ j = 23 ∨ j = 24 ∨ j = 25 ∨ j = 26 ∨ j = 27 ∨ j = 28 ∨ j = 29 ∨ j = 30 := by omega
  unfold dr0 addH bgH
  simp only [hI_sI, hI_wI]
  rcases q with rfl | rfl | rfl | rfl | rfl | rfl | rfl | rfl | rfl | rfl | rfl | rfl | rfl | rfl | rfl | rfl | rfl | rfl | rfl | rfl | rfl | rfl | rfl | rfl | rfl | rfl | rfl | rfl | rfl | rfl <;> simp <;> rfl
theorem mi_N (h : aH) (o r G n : Nat) : hN (miH h o r G n) = hN h := by
  unfold miH
  rw [hN_sI, hN_sI, hN_sI]
  unfold fitH
  rw [hN_sI, hN_sI, hN_sI]
  unfold setL swH
  rw [hN_wI, hN_sR, hN_sR]
/-- from the class's end to the first state -/
theorem first_rel {h2 b0 : aH} (g2 : GS h2) (w2 : orOk h2 26 32) (n2 : hN h2 = 44) (I2 : ID h2 32 PR0.2) (W2 : DW PR0.2) (e18 : hI h2 18 0 = nI 8) (e20 : hI h2 20 0 = nI 2) (hb : b0 = nw (sI (miH h2 26 32 4 6) 4 1 0) 19 (1, 8)) : hN b0 = 45 ∧ hS b0 44 = (1, 8) ∧ GS b0 ∧ Rel (layH (dr0 (q11 b0))) := by
  have cn : hN (sI (miH h2 26 32 4 6) 4 1 0) = 44 := by rw [hN_sI, mi_N]; exact n2
  have cg : GS (sI (miH h2 26 32 4 6) 4 1 0) := (mi_GS g2 w2 : GS (miH h2 26 32 4 6)).sI 4 1 0
  have cw : orOk (sI (miH h2 26 32 4 6) 4 1 0) 32 26 := by unfold orOk; rw [hR_sI]; exact mi_or w2
  have ci : ∀ b j, ¬ (b = 4 ∧ j = 1) → hI (sI (miH h2 26 32 4 6) 4 1 0) b j = hI (miH h2 26 32 4 6) b j := fun b j q => by rw [hI_sI, if_neg q]
  have c4 : hI (sI (miH h2 26 32 4 6) 4 1 0) 4 1 = nI 0 := by rw [hI_sI, if_pos ⟨rfl, rfl⟩]; rfl
  have clv : ∀ j, j < 10 → lv (sI (miH h2 26 32 4 6) 4 1 0) 22 j = bgV h2 32 4 j := by
    intro j hj
    rw [← mi_lv (h := h2) (o := 26) (r := 32) (G := 4) (n := 6) hj]
    unfold lv
    split
    · exact ci _ _ (by omega)
    · exact ci _ _ (by omega)
  have cI : ∀ b j, 32 ≤ b ∧ b ≤ 37 → hI (sI (miH h2 26 32 4 6) 4 1 0) b j = hI h2 b j := fun b j q => by rw [ci b j (by omega), mi_o (by omega) (by omega) (by omega) (by omega) (by omega) (by omega)]
  have c11 : hI (sI (miH h2 26 32 4 6) 4 1 0) 11 0 = nI 6 ∧ hI (sI (miH h2 26 32 4 6) 4 1 0) 11 1 = nI 4 ∧ hI (sI (miH h2 26 32 4 6) 4 1 0) 11 2 = nI (falN 6 4) := by
    rw [ci 11 0 (by omega), ci 11 1 (by omega), ci 11 2 (by omega)]
    exact mi_11
  have cz : hI (sI (miH h2 26 32 4 6) 4 1 0) 7 3 = nI 0 ∧ hI (sI (miH h2 26 32 4 6) 4 1 0) 18 2 = nI 0 ∧ hI (sI (miH h2 26 32 4 6) 4 1 0) 20 2 = nI 0 := by
    rw [ci 7 3 (by omega), ci 18 2 (by omega), ci 20 2 (by omega)]
    exact mi_z
  have c18 : hI (sI (miH h2 26 32 4 6) 4 1 0) 18 0 = nI 8 := by rw [ci 18 0 (by omega), mi_o (by decide) (by decide) (by decide) (by decide) (by decide) (by decide)]; exact e18
  have c20 : hI (sI (miH h2 26 32 4 6) 4 1 0) 20 0 = nI 2 := by rw [ci 20 0 (by omega), mi_o (by decide) (by decide) (by decide) (by decide) (by decide) (by decide)]; exact e20
  generalize sI (miH h2 26 32 4 6) 4 1 0 = cF at *
  have bn : hN b0 = 45 := by rw [hb, hN_nw, cn]
  have bs : hS b0 44 = (1, 8) := by rw [hb, hS_nw, cn, if_pos rfl]
  have bS : ∀ a, a ≠ 44 → hS b0 a = hS cF a := fun a q => by rw [hb, hS_nw, cn, if_neg q]
  have bR : ∀ a k, a ≠ 44 → hR b0 a k = hR cF a k := fun a k q => by rw [hb, hR_nw, cn, if_neg q]
  have bI : ∀ a j, a ≠ 44 → hI b0 a j = hI cF a j := fun a j q => by rw [hb, hI_nw, cn, if_neg q]
  have b44 : ∀ j, hI b0 44 j = 0 := fun j => by rw [hb, hI_nw, cn, if_pos rfl]
  have bg : GS b0 := by
    refine ⟨fun a h3 h4 => ?_, fun a k h3 hk => ?_, ?_⟩
    · rw [bS a (by omega)]; exact cg.1 a h3 h4
    · rw [bR a k (by omega)]; exact cg.2.1 a k h3 hk
    · rw [bR 3 8 (by decide), bR 3 9 (by decide)]; exact cg.2.2
  refine ⟨bn, bs, bg, ?_⟩
  have gm := ref_GM bn bs bg
  have gd : GM (dr0 (q11 b0)) := GM_of gm (dr_SR _).1 (dr_SR _).2
  have fI : ∀ b j, b < 44 → hI (dr0 (q11 b0)) b j = hI cF b j := fun b j q => by rw [dr_o _ (by omega), ref_I bn (by omega), bI b j (by omega)]
  have fR : ∀ k, hR (dr0 (q11 b0)) 3 k = hR cF 3 k := fun k => by rw [(dr_SR _).2, ref_R bn (by decide), bR 3 k (by decide)]
  have G4 := PR0_G
  refine RelP.rel (laid_rel2 (D := PR0.2) (n := 6) (r := 32) (o := 26) (nt := 0) gd ⟨by rw [fR]; exact cw.1, by rw [fR]; exact cw.2.1, cw.2.2⟩ ⟨?_, fun i hi => ?_⟩ W2 (by rw [PR0_0]; decide) PR0_6 ⟨by decide, by decide, by rw [G4]; decide⟩ ?_ (fun j hj => ?_) (fun i hi q hq => ?_) ⟨?_, ?_, by decide, fun p hp => by omega⟩ (fun j hj => ?_) ?_ ?_ ?_ ?_ ?_)
  · rw [fI 32 5 (by decide), fI 32 6 (by decide), fI 32 8 (by decide), fI 32 9 (by decide), fI 32 7 (by decide), fI 32 10 (by decide), cI 32 5 (by omega), cI 32 6 (by omega), cI 32 8 (by omega), cI 32 9 (by omega), cI 32 7 (by omega), cI 32 10 (by omega)]
    exact I2.1
  · rw [fI (32 + 1) i (by decide), fI (32 + 2) i (by decide), fI (32 + 3) i (by decide), fI (32 + 4) i (by decide), fI (32 + 5) i (by decide), cI (32 + 1) i (by omega), cI (32 + 2) i (by omega), cI (32 + 3) i (by omega), cI (32 + 4) i (by omega), cI (32 + 5) i (by omega)]
    exact I2.2 i hi
  · rw [G4]
    unfold WA
    rw [fI 11 0 (by decide), fI 11 1 (by decide), fI 11 2 (by decide)]
    exact c11
  · rw [dr_v _ (by omega) (by omega), PR0_v (by omega)]
  · rw [G4] at hi
    rw [dr_v _ (by omega) (by omega), PR0_v (by omega)]
  · rw [fI 4 1 (by decide)]; exact c4
  · rw [dr_o _ (by decide), ref_I bn (by decide), b44]; rfl
  · have l1 : lv (dr0 (q11 b0)) 22 j = lv cF 22 j := by
      unfold lv
      split
      · exact fI _ _ (by decide)
      · exact fI _ _ (by decide)
    rw [l1, clv j hj]
    unfold bgV bgX
    rw [G4]
    by_cases c : j < 5
    · rw [if_pos c, if_pos c]
      by_cases c2 : j < 4
      · rw [if_pos c2, if_pos c2]
        exact (I2.2 j (by rw [G4]; exact c2)).2.2.2.2
      · rw [if_neg c2, if_neg c2]
    · rw [if_neg c, if_neg c]
      by_cases c5 : j = 5
      · rw [if_pos c5, if_pos c5]; exact I2.1.2.2.2.2.1
      · rw [if_neg c5, if_neg c5]
  · rw [fI 18 0 (by decide)]; exact c18
  · rw [fI 18 2 (by decide)]; exact cz.2.1
  · rw [fI 20 0 (by decide)]; exact c20
  · rw [fI 20 2 (by decide)]; exact cz.2.2
  · rw [fI 7 3 (by decide)]; exact cz.1
end FIRST
