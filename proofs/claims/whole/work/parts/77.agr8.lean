/-! BOTH ANSWER ALIKE: carry, undo, keep, back -/
section AGR8
variable {h h' h1 h2 : aH} {D : Nat → Int32} {n a r nt zu zk zr i j k T u b z m : Nat} {x y w hr d wk : Int32} {s t s' t' v A B : Nat → Int32}
theorem gen_rel {zu' zk' : Nat} (R : RelP h D n a r nt zu zk zr) (es : hS h2 = hS h) (er : hR h2 = hR h) (o : ∀ b j, ¬ (18 ≤ b ∧ b ≤ 23) → ¬ (b = 44 ∧ (j = 6 ∨ j = 8)) → ¬ (48 ≤ b ∧ b ≤ 50) → hI h2 b j = hI h b j) (r4 : R4 h2 D n zu') (r5 : R5 h2 D n zk') (S : StR D n (lv h2 22) (hI h2 48)) : RelP h2 D n a r nt zu' zk' zr := by
  have a2 := R.a2
  refine ⟨R.1.congr es er (fun b j q => o b j ?_ ?_ ?_), R.2.1.congr (fun b j q => o b j ?_ ?_ ?_), S, r4, r5, R.2.2.2.2.2.congr (fun b j q => o b j ?_ ?_ ?_)⟩ <;> omega
theorem a_carry (R : Rel h) : Agr h 88 [.ref 3, .int y, .int x] 151 [.ref 44, .int y, .int x] := by
  obtain ⟨D, n, a, r, nt, zu, zk, zr, R⟩ := R
  have h5 := R.g5
  have B := R.B
  obtain ⟨b1, b2, b3⟩ := B
  have a2 := R.a2
  have hz := R.2.2.2.1.2.2.2.1
  by_cases cg : ¬ y < 0 ∧ y < hI h a 5
  · obtain ⟨i, hi, rfl⟩ := R.gI cg
    have ri : (¬ x < 0 ∧ x < hI h a 6) ↔ (¬ x < 0 ∧ ¬ hI h 46 1 - 1 < x) := by
      rw [R.k6, R.m1]
      exact range_iff (by omega) (by omega)
    by_cases cb : ¬ x < 0 ∧ x < hI h a 6
    · have le := last_empty (x := x) R.2.2.1 h5
      have ee : emptyF (hI h 23) x (gN D) = emptyF (lv h 22) x (gN D) := emptyF_congr (fun j hj => (lv_lo h 22 (show j < 5 by omega)).symm)
      by_cases ce : emptyF (hI h 23) x (gN D) = true
      · have cb' := cb
        rw [R.k6] at cb'
        obtain ⟨b, hb, rfl⟩ := range_nI (by omega) cb'
        have er0 : rousA (putS h 18 8 zu (lv h 22)) a 22 (gN D) i (nI b) = rousM h D i (nI b) := by
          unfold rousA rousM
          rw [← R.k8, ← R.P i hi, put_o (b := a) (by omega) (by omega), put_o (b := 22 + 1) (by decide) (by decide)]
          refine rousC_congr (fun j hj => ?_) (fun j hj => ?_)
          · rw [put_o (by omega) (by omega)]; exact R.A4 j hj
          · rw [put_o (by decide) (by decide)]; exact R.P j hj
        generalize hc : movH (putS h 18 8 zu (lv h 22)) 22 i (nI b) (popC (rousA (putS h 18 8 zu (lv h 22)) a 22 (gN D) i (nI b))) = c1
        have c1S : hS c1 = hS h := by rw [← hc]; unfold movH; rw [(set_SR _ _ _).1]; exact (put_SR h 18 8 zu _).1
        have c1R : hR c1 = hR h := by rw [← hc]; unfold movH; rw [(set_SR _ _ _).2]; exact (put_SR h 18 8 zu _).2
        have c1o : ∀ b j, b ≠ 18 → b ≠ 19 → b ≠ 22 → b ≠ 23 → hI c1 b j = hI h b j := fun b j q1 q2 q3 q4 => by rw [← hc]; unfold movH; rw [setL_o q3 q4, put_o q1 q2]
        have c1p : ∀ b j, b ≠ 22 → b ≠ 23 → hI c1 b j = hI (putS h 18 8 zu (lv h 22)) b j := fun b j q3 q4 => by rw [← hc]; unfold movH; rw [setL_o q3 q4]
        have g1 : GM c1 := GM_of R.gm c1S c1R
        have e44 : hI c1 44 6 = nI zu := by rw [c1o 44 6 (by decide) (by decide) (by decide) (by decide)]; exact R.2.2.2.1.2.2.1
        have e48 : ∀ j, hI c1 48 j = hI h 48 j := fun j => c1o 48 j (by decide) (by decide) (by decide) (by decide)
        have f48 : hI c1 48 = hI h 48 := funext e48
        have M1 : MA c1 D := MA_of R.M c1S c1R (fun j => c1o 46 j (by decide) (by decide) (by decide) (by decide))
        have e46 : hI c1 46 1 = hI h 46 1 := c1o 46 1 (by decide) (by decide) (by decide) (by decide)
        have rm : rousM c1 D i (nI b) = rousM h D i (nI b) := by unfold rousM; rw [f48]
        generalize hd : wI (keH c1 zu) (fun a j => if a = 48 then goS (hI c1 48) i (nI b) (bitF (rousM c1 D i (nI b))) j else hI (keH c1 zu) a j) = c2
        have c2S : hS c2 = hS h := by rw [← hd, hS_wI, (ke_SR c1 zu).1]; exact c1S
        have c2R : hR c2 = hR h := by rw [← hd, hR_wI, (ke_SR c1 zu).2]; exact c1R
        have c2k : ∀ b j, b ≠ 48 → hI c2 b j = hI (keH c1 zu) b j := fun b j q => by rw [← hd, hI_wI, if_neg q]
        have c2o : ∀ b j, b ≠ 48 → b ≠ 49 → ¬ (b = 44 ∧ j = 6) → hI c2 b j = hI c1 b j := fun b j q1 q2 q3 => by rw [c2k b j q1, ke_o q2 q3]
        have pw : popC (rousA (putS h 18 8 zu (lv h 22)) a 22 (gN D) i (nI b)) = bitF (rousM h D i (nI b)) := by rw [er0]; exact pop_eq h5
        refine ⟨rousM h D i (nI b), c1, c2, ?_, fun Q => ?_, fun Q => ?_⟩
        · refine RelP.rel (act_rel R c2S c2R (fun b j q1 q2 q3 q4 q5 q6 q7 => by rw [c2o b j q6 q7 q5, c1o b j q1 q2 q3 q4]) (z' := if zu < 8 then zu + 1 else 8) ?_ ?_ ?_ R.2.2.2.1.z1 ?_ ?_)
          · rw [c2o 18 0 (by decide) (by decide) (by decide), c1p 18 0 (by decide) (by decide), put_18]; exact R.2.2.2.1.1
          · rw [c2o 18 2 (by decide) (by decide) (by decide), c1p 18 2 (by decide) (by decide), put_sz]
          · rw [c2k 44 6 (by decide), ke_sz]
          · have e19 : hI c2 19 = pushR (hI h 19) (lv h 22) zu := by
              rw [← put_19]
              funext j
              rw [c2o 19 j (by decide) (by decide) (by omega), c1p 19 j (by decide) (by decide)]
            have e49 : hI c2 49 = pushR (hI h 49) (hI h 48) zu := by
              have : hI c2 49 = hI (keH c1 zu) 49 := by funext j; exact c2k 49 j (by decide)
              rw [this, ke_49, f48]
              congr 1
              funext j; exact c1o 49 j (by decide) (by decide) (by decide) (by decide)
            rw [e19, e49]
            exact rows_push h5 hz R.2.2.2.1.2.2.2.2 R.2.2.1
          · have em : ∀ j, j < gN D → lv h 22 j ≠ nI b := empty_iff.mp (by rw [← ee]; exact ce)
            refine (go_StR (wk := bitF (rousM h D i (nI b))) R.2.2.1 h5 b3 hi hb em).congr10 h5 (fun j hj => ?_) (fun j hj => ?_)
            · have l1 : lv c2 22 j = lv c1 22 j := by
                unfold lv
                split
                · exact c2o 23 j (by decide) (by decide) (by omega)
                · exact c2o 22 _ (by decide) (by decide) (by omega)
              rw [l1, ← hc]
              unfold movH
              rw [lv_setL _ _ _ hj, put_lv h 18 8 zu _ (Or.inl rfl), pw, put_o (by decide) (by decide)]
              unfold goC
              rw [lv_lo h 22 (show i < 5 by omega)]
            · rw [← hd, hI_wI, if_pos rfl, f48, rm]
        · rw [← hc, ← er0]
          exact (c_carry R.C R.U hi).trans ((iff_if cb).trans (iff_if ce))
        · rw [← hd, ← rm]
          refine (m_carry M1 e44 hz hi).trans ((iff_if (by rw [e46]; exact ri.mp cb)).trans (iff_if ?_))
          rw [f48, le, ← ee]
          exact ce
      · exact rel_same R rfl (fun Q => (c_carry R.C R.U hi).trans ((iff_if cb).trans (iff_ifn ce))) (fun Q => (m_carry R.M R.2.2.2.1.2.2.1 hz hi).trans ((iff_if (ri.mp cb)).trans (iff_ifn (by rw [le, ← ee]; exact ce))))
    · exact rel_same R rfl (fun Q => (c_carry R.C R.U hi).trans (iff_ifn cb)) (fun Q => (m_carry R.M R.2.2.2.1.2.2.1 hz hi).trans (iff_ifn (fun q => cb (ri.mpr q))))
  · exact rel_same R rfl (fun Q => c_carryNo R.C cg) (fun Q => m_carryNo R.gm (fun q => cg (R.isG.mpr q)))
theorem un_o {f : Nat} {b j : Nat} (q1 : b ≠ 48) (q2 : ¬ (b = 44 ∧ j = f)) : hI (unH h a f z 10) b j = hI h b j := by
  unfold unH
  rw [hI_wI, if_neg (fun q => q1 q.1), if_neg q2]
theorem un_SR (h : aH) (a f z k : Nat) : hS (unH h a f z k) = hS h ∧ hR (unH h a f z k) = hR h := ⟨by unfold unH; rw [hS_wI], by unfold unH; rw [hR_wI]⟩
theorem un_48 {f : Nat} (hj : j < 10) : hI (unH h a f z 10) 48 j = hI h a (10 * (z - 1) + j) := by
  unfold unH
  rw [hI_wI, if_pos ⟨rfl, hj⟩]
theorem a_undo (R : Rel h) : Agr h 91 [.ref 3] 155 [.ref 44, .null] := by
  obtain ⟨D, n, a, r, nt, zu, zk, zr, R⟩ := R
  have h5 := R.g5
  have hz := R.2.2.2.1.2.2.2.1
  by_cases c : zu = 0
  · exact rel_same R rfl (fun Q => (c_undo R.g R.U).trans (iff_if c)) (fun Q => (m_undo R.gm R.2.2.2.1.2.2.1 hz).trans (iff_if c))
  · generalize hc : setL (sI h 18 2 (nI (zu - 1))) 22 (fun j => hI h 19 ((zu - 1) * 10 + j)) = c1
    have c1S : hS c1 = hS h := by rw [← hc, (set_SR _ _ _).1, hS_sI]
    have c1R : hR c1 = hR h := by rw [← hc, (set_SR _ _ _).2, hR_sI]
    have c1o : ∀ b j, ¬ (b = 18 ∧ j = 2) → b ≠ 22 → b ≠ 23 → hI c1 b j = hI h b j := fun b j q1 q3 q4 => by rw [← hc, setL_o q3 q4, hI_sI, if_neg q1]
    have g1 : GM c1 := GM_of R.gm c1S c1R
    have e44 : hI c1 44 6 = nI zu := by rw [c1o 44 6 (by decide) (by decide) (by decide)]; exact R.2.2.2.1.2.2.1
    generalize hd : unH c1 49 6 zu 10 = c2
    have c2S : hS c2 = hS h := by rw [← hd, (un_SR _ _ _ _ _).1]; exact c1S
    have c2R : hR c2 = hR h := by rw [← hd, (un_SR _ _ _ _ _).2]; exact c1R
    have c2o : ∀ b j, b ≠ 48 → ¬ (b = 44 ∧ j = 6) → hI c2 b j = hI c1 b j := fun b j q1 q2 => by rw [← hd]; exact un_o q1 q2
    refine ⟨nI (zu - 1), c1, c2, ?_, fun Q => by rw [← hc]; exact (c_undo R.g R.U).trans (iff_ifn c), fun Q => by rw [← hd]; exact (m_undo g1 e44 hz).trans (iff_ifn c)⟩
    refine RelP.rel (act_rel R c2S c2R (fun b j q1 q2 q3 q4 q5 q6 q7 => by rw [c2o b j q6 q5, c1o b j (by omega) q3 q4]) (z' := zu - 1) ?_ ?_ ?_ (by omega) ?_ ?_)
    · rw [c2o 18 0 (by decide) (by decide), c1o 18 0 (by decide) (by decide) (by decide)]; exact R.2.2.2.1.1
    · rw [c2o 18 2 (by decide) (by decide), ← hc, setL_o (by decide) (by decide), hI_sI, if_pos ⟨rfl, rfl⟩]
    · rw [← hd]; unfold unH; rw [hI_wI, if_neg (by omega), if_pos ⟨rfl, rfl⟩]
    · intro k hk
      refine (R.2.2.2.1.2.2.2.2 k (by omega)).congr (fun j => ?_) (fun j => ?_)
      · rw [c2o 19 _ (by decide) (by omega), c1o 19 _ (by omega) (by decide) (by decide)]
      · rw [c2o 49 _ (by decide) (by omega), c1o 49 _ (by omega) (by decide) (by decide)]
    · refine (R.2.2.2.1.2.2.2.2 (zu - 1) (by omega)).congr10 h5 (fun j hj => ?_) (fun j hj => ?_)
      · have l1 : lv c2 22 j = lv c1 22 j := by
          unfold lv
          split
          · exact c2o 23 j (by decide) (by omega)
          · exact c2o 22 _ (by decide) (by omega)
        rw [l1, ← hc, lv_setL _ _ _ hj]
      · rw [← hd, un_48 hj, c1o 49 _ (by omega) (by decide) (by decide), Nat.mul_comm]
theorem a_keep (R : Rel h) : Agr h 105 [.ref 3] 176 [.ref 44, .null] := by
  obtain ⟨D, n, a, r, nt, zu, zk, zr, R⟩ := R
  have h5 := R.g5
  have hz := R.2.2.2.2.1.2.2.2.1
  by_cases c : zk = 2
  · exact rel_same R rfl (fun Q => (c_keep R.g R.K).trans (iff_if c)) (fun Q => (m_keep R.gm R.2.2.2.2.1.2.2.1 hz).trans (iff_if c))
  · generalize hc : putS h 20 2 zk (lv h 22) = c1
    have c1S : hS c1 = hS h := by rw [← hc]; exact (put_SR _ _ _ _ _).1
    have c1R : hR c1 = hR h := by rw [← hc]; exact (put_SR _ _ _ _ _).2
    have c1o : ∀ b j, b ≠ 20 → b ≠ 21 → hI c1 b j = hI h b j := fun b j q1 q2 => by rw [← hc, put_o q1 q2]
    have g1 : GM c1 := GM_of R.gm c1S c1R
    have e44 : hI c1 44 8 = nI zk := by rw [c1o 44 8 (by decide) (by decide)]; exact R.2.2.2.2.1.2.2.1
    have e21 : ∀ j, hI c1 21 j = if zk * 10 ≤ j ∧ j < zk * 10 + 10 then lv h 22 (j - zk * 10) else hI h 21 j := by
      intro j
      rw [← hc]
      unfold putS
      rw [hI_wI, if_pos rfl, if_pos (by omega)]
    generalize hd : sI (kpH c1 zk 10) 44 8 (nI (zk + 1)) = c2
    have c2S : hS c2 = hS h := by rw [← hd, hS_sI]; unfold kpH; rw [hS_wI]; exact c1S
    have c2R : hR c2 = hR h := by rw [← hd, hR_sI]; unfold kpH; rw [hR_wI]; exact c1R
    have c2o : ∀ b j, b ≠ 50 → ¬ (b = 44 ∧ j = 8) → hI c2 b j = hI c1 b j := fun b j q1 q2 => by rw [← hd, hI_sI, if_neg q2]; unfold kpH; rw [hI_wI, if_neg (fun z => q1 z.1)]
    have e50 : ∀ j, hI c2 50 j = if zk * 10 ≤ j ∧ j < zk * 10 + 10 then hI h 48 (j - zk * 10) else hI h 50 j := by
      intro j
      rw [← hd, hI_sI, if_neg (by omega)]
      unfold kpH
      rw [hI_wI]
      by_cases q : zk * 10 ≤ j ∧ j < zk * 10 + 10
      · rw [if_pos ⟨rfl, q⟩, if_pos q, c1o 48 _ (by decide) (by decide)]
      · rw [if_neg (fun z => q z.2), if_neg q, c1o 50 _ (by decide) (by decide)]
    refine ⟨nI (zk + 1), c1, c2, ?_, fun Q => by rw [← hc]; exact (c_keep R.g R.K).trans (iff_ifn c), fun Q => by rw [← hd]; exact (m_keep g1 e44 hz).trans (iff_ifn c)⟩
    refine RelP.rel (gen_rel (zk' := zk + 1) R c2S c2R (fun b j q1 q2 q3 => by rw [c2o b j (by omega) (by omega), c1o b j (by omega) (by omega)]) (R.2.2.2.1.congr (fun b j q => by rw [c2o b j (by omega) (by omega), c1o b j (by omega) (by omega)])) ⟨?_, ?_, ?_, by omega, fun k hk => ?_⟩ ?_)
    · rw [c2o 20 0 (by decide) (by decide), ← hc]
      unfold putS
      rw [hI_wI, if_neg (by omega), if_neg (by omega)]
      exact R.2.2.2.2.1.1
    · rw [c2o 20 2 (by decide) (by decide), ← hc]
      unfold putS
      rw [hI_wI, if_neg (by omega), if_pos ⟨rfl, rfl⟩, if_pos (by omega)]
    · rw [← hd, hI_sI, if_pos ⟨rfl, rfl⟩]
    · by_cases q : k = zk
      · refine R.2.2.1.congr10 h5 (fun j hj => ?_) (fun j hj => ?_)
        · rw [c2o 21 _ (by decide) (by omega), e21, if_pos (by omega), show k * 10 + j - zk * 10 = j by omega]
        · rw [e50, if_pos (by omega), show k * 10 + j - zk * 10 = j by omega]
      · refine (R.2.2.2.2.1.2.2.2.2 k (by omega)).congr10 h5 (fun j hj => ?_) (fun j hj => ?_)
        · rw [c2o 21 _ (by decide) (by omega), e21, if_neg (by omega)]
        · rw [e50, if_neg (by omega)]
    · exact R.2.2.1.congr (fun b j q => by rw [c2o b j (by omega) (by omega), c1o b j (by omega) (by omega)])
theorem a_back (R : Rel h) : Agr h 106 [.ref 3] 177 [.ref 44, .null] := by
  obtain ⟨D, n, a, r, nt, zu, zk, zr, R⟩ := R
  have h5 := R.g5
  have hz := R.2.2.2.2.1.2.2.2.1
  by_cases c : zk = 0
  · exact rel_same R rfl (fun Q => (c_back R.g R.K R.U).trans (iff_if c)) (fun Q => (m_back R.gm R.2.2.2.2.1.2.2.1 hz).trans (iff_if c))
  · generalize hc : sI (setL (sI h 20 2 (nI (zk - 1))) 22 (fun j => hI h 21 ((zk - 1) * 10 + j))) 18 2 0 = c1
    have c1S : hS c1 = hS h := by rw [← hc, hS_sI, (set_SR _ _ _).1, hS_sI]
    have c1R : hR c1 = hR h := by rw [← hc, hR_sI, (set_SR _ _ _).2, hR_sI]
    have c1o : ∀ b j, ¬ (b = 18 ∧ j = 2) → ¬ (b = 20 ∧ j = 2) → b ≠ 22 → b ≠ 23 → hI c1 b j = hI h b j := fun b j q1 q2 q3 q4 => by rw [← hc, hI_sI, if_neg q1, setL_o q3 q4, hI_sI, if_neg q2]
    have g1 : GM c1 := GM_of R.gm c1S c1R
    have e44 : hI c1 44 8 = nI zk := by rw [c1o 44 8 (by decide) (by decide) (by decide) (by decide)]; exact R.2.2.2.2.1.2.2.1
    generalize hd : sI (unH c1 50 8 zk 10) 44 6 0 = c2
    have c2S : hS c2 = hS h := by rw [← hd, hS_sI, (un_SR _ _ _ _ _).1]; exact c1S
    have c2R : hR c2 = hR h := by rw [← hd, hR_sI, (un_SR _ _ _ _ _).2]; exact c1R
    have c2o : ∀ b j, b ≠ 48 → ¬ (b = 44 ∧ (j = 6 ∨ j = 8)) → hI c2 b j = hI c1 b j := fun b j q1 q2 => by rw [← hd, hI_sI, if_neg (by omega)]; exact un_o q1 (by omega)
    refine ⟨nI (zk - 1), c1, c2, ?_, fun Q => by rw [← hc]; exact (c_back R.g R.K R.U).trans (iff_ifn c), fun Q => by rw [← hd]; exact (m_back g1 e44 hz).trans (iff_ifn c)⟩
    refine RelP.rel (gen_rel (zu' := 0) (zk' := zk - 1) R c2S c2R (fun b j q1 q2 q3 => by rw [c2o b j (by omega) (by omega), c1o b j (by omega) (by omega) (by omega) (by omega)]) ⟨?_, ?_, ?_, by omega, fun k hk => by omega⟩ ⟨?_, ?_, ?_, by omega, fun k hk => ?_⟩ ?_)
    · rw [c2o 18 0 (by decide) (by decide), c1o 18 0 (by decide) (by decide) (by decide) (by decide)]; exact R.2.2.2.1.1
    · rw [c2o 18 2 (by decide) (by decide), ← hc, hI_sI, if_pos ⟨rfl, rfl⟩]; rfl
    · rw [← hd, hI_sI, if_pos ⟨rfl, rfl⟩]; rfl
    · rw [c2o 20 0 (by decide) (by decide), c1o 20 0 (by decide) (by decide) (by decide) (by decide)]; exact R.2.2.2.2.1.1
    · rw [c2o 20 2 (by decide) (by decide), ← hc, hI_sI, if_neg (by omega), setL_o (by decide) (by decide), hI_sI, if_pos ⟨rfl, rfl⟩]
    · rw [← hd, hI_sI, if_neg (by omega)]; unfold unH; rw [hI_wI, if_neg (by omega), if_pos ⟨rfl, rfl⟩]
    · refine (R.2.2.2.2.1.2.2.2.2 k (by omega)).congr (fun j => ?_) (fun j => ?_)
      · rw [c2o 21 _ (by decide) (by omega), c1o 21 _ (by omega) (by omega) (by decide) (by decide)]
      · rw [c2o 50 _ (by decide) (by omega), c1o 50 _ (by omega) (by omega) (by decide) (by decide)]
    · refine (R.2.2.2.2.1.2.2.2.2 (zk - 1) (by omega)).congr10 h5 (fun j hj => ?_) (fun j hj => ?_)
      · have l1 : lv c2 22 j = lv c1 22 j := by
          unfold lv
          split
          · exact c2o 23 j (by decide) (by omega)
          · exact c2o 22 _ (by decide) (by omega)
        have l2 : lv c1 22 j = lv (setL (sI h 20 2 (nI (zk - 1))) 22 (fun j => hI h 21 ((zk - 1) * 10 + j))) 22 j := by
          rw [← hc]
          unfold lv
          split
          · rw [hI_sI, if_neg (by omega)]
          · rw [hI_sI, if_neg (by omega)]
        rw [l1, l2, lv_setL _ _ _ hj]
      · rw [← hd, hI_sI, if_neg (by omega), un_48 hj, c1o 50 _ (by omega) (by omega) (by decide) (by decide), Nat.mul_comm]
end AGR8
