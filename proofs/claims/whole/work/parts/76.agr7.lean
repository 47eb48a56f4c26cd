/-! BOTH ANSWER ALIKE: acts -/
section AGR7
variable {h h' h1 h2 : aH} {D : Nat → Int32} {n a r nt zu zk zr i j k T u b z m : Nat} {x y w hr d wk : Int32} {s t s' t' v A B : Nat → Int32}
def pushR (A v : Nat → Int32) (z : Nat) : Nat → Int32 := fun j => if z < 8 then (if z * 10 ≤ j ∧ j < z * 10 + 10 then v (j - z * 10) else A j) else (if j < 70 then A (j + 10) else if j < 80 then v (j - 70) else A j)
theorem rows_push (hG : gN D ≤ 5) (hz : z ≤ 8) (hr : ∀ k, k < z → StR D n (fun j => A (k * 10 + j)) (fun j => B (k * 10 + j))) (S : StR D n s t) : ∀ k, k < (if z < 8 then z + 1 else 8) → StR D n (fun j => pushR A s z (k * 10 + j)) (fun j => pushR B t z (k * 10 + j)) := by
  intro k hk
  unfold pushR
  by_cases c : z < 8
  · rw [if_pos c] at hk
    by_cases c2 : k = z
    · refine S.congr10 hG (fun j hj => ?_) (fun j hj => ?_)
      · rw [if_pos c, if_pos (by omega), show k * 10 + j - z * 10 = j by omega]
      · rw [if_pos c, if_pos (by omega), show k * 10 + j - z * 10 = j by omega]
    · refine (hr k (by omega)).congr10 hG (fun j hj => ?_) (fun j hj => ?_)
      · rw [if_pos c, if_neg (by omega)]
      · rw [if_pos c, if_neg (by omega)]
  · rw [if_neg c] at hk
    have z8 : z = 8 := by omega
    by_cases c2 : k = 7
    · refine S.congr10 hG (fun j hj => ?_) (fun j hj => ?_)
      · rw [if_neg c, if_neg (by omega), if_pos (by omega), show k * 10 + j - 70 = j by omega]
      · rw [if_neg c, if_neg (by omega), if_pos (by omega), show k * 10 + j - 70 = j by omega]
    · refine (hr (k + 1) (by omega)).congr10 hG (fun j hj => ?_) (fun j hj => ?_)
      · rw [if_neg c, if_pos (by omega), show k * 10 + j + 10 = (k + 1) * 10 + j by omega]
      · rw [if_neg c, if_pos (by omega), show k * 10 + j + 10 = (k + 1) * 10 + j by omega]
theorem put_19 (h : aH) (z : Nat) (v : Nat → Int32) : hI (putS h 18 8 z v) 19 = pushR (hI h 19) v z := by
  funext j
  unfold putS pushR
  rw [hI_wI, if_pos rfl]
theorem put_sz (h : aH) (z : Nat) (v : Nat → Int32) : hI (putS h 18 8 z v) 18 2 = nI (if z < 8 then z + 1 else 8) := by
  unfold putS
  rw [hI_wI, if_neg (by omega), if_pos ⟨rfl, rfl⟩]
theorem put_18 (h : aH) (z : Nat) (v : Nat → Int32) : hI (putS h 18 8 z v) 18 0 = hI h 18 0 := by
  unfold putS
  rw [hI_wI, if_neg (by omega), if_neg (by omega)]
theorem ke_49 (h : aH) (z : Nat) : hI (keH h z) 49 = pushR (hI h 49) (hI h 48) z := by
  funext j
  unfold keH pushR
  rw [hI_wI, if_pos rfl]
theorem ke_sz (h : aH) (z : Nat) : hI (keH h z) 44 6 = nI (if z < 8 then z + 1 else 8) := by
  unfold keH
  rw [hI_wI, if_neg (by omega), if_pos ⟨rfl, rfl⟩]
theorem ke_o {b j : Nat} (h1 : b ≠ 49) (h2 : ¬ (b = 44 ∧ j = 6)) : hI (keH h z) b j = hI h b j := by
  unfold keH
  rw [hI_wI, if_neg h1, if_neg h2]
theorem put_SR (h : aH) (s R z : Nat) (v : Nat → Int32) : hS (putS h s R z v) = hS h ∧ hR (putS h s R z v) = hR h := ⟨by unfold putS; rw [hS_wI], by unfold putS; rw [hR_wI]⟩
theorem ke_SR (h : aH) (z : Nat) : hS (keH h z) = hS h ∧ hR (keH h z) = hR h := ⟨by unfold keH; rw [hS_wI], by unfold keH; rw [hR_wI]⟩
theorem set_SR (h : aH) (q : Nat) (v : Nat → Int32) : hS (setL h q v) = hS h ∧ hR (setL h q v) = hR h := ⟨by unfold setL; rw [hS_wI], by unfold setL; rw [hR_wI]⟩
/-- an act: the class's now and undos, then the reference's -/
theorem act_rel (R : RelP h D n a r nt zu zk zr) (es : hS h2 = hS h) (er : hR h2 = hR h) (o : ∀ b j, b ≠ 18 → b ≠ 19 → b ≠ 22 → b ≠ 23 → ¬ (b = 44 ∧ j = 6) → b ≠ 48 → b ≠ 49 → hI h2 b j = hI h b j) {z' : Nat} (e0 : hI h2 18 0 = nI 8) (e1 : hI h2 18 2 = nI z') (e2 : hI h2 44 6 = nI z') (hz : z' ≤ 8) (rows : ∀ k, k < z' → StR D n (fun j => hI h2 19 (k * 10 + j)) (fun j => hI h2 49 (k * 10 + j))) (S : StR D n (lv h2 22) (hI h2 48)) : RelP h2 D n a r nt z' zk zr := by
  have a2 := R.a2
  refine ⟨R.1.congr es er (fun b j q => o b j ?_ ?_ ?_ ?_ ?_ ?_ ?_), R.2.1.congr (fun b j q => o b j ?_ ?_ ?_ ?_ ?_ ?_ ?_), S, ⟨e0, e1, e2, hz, rows⟩, R.2.2.2.2.1.congr (fun b j q => o b j ?_ ?_ ?_ ?_ ?_ ?_ ?_), R.2.2.2.2.2.congr (fun b j q => o b j ?_ ?_ ?_ ?_ ?_ ?_ ?_)⟩ <;> omega
/-- the reference behind a step of the class -/
theorem MA_of (A : MA h D) (es : hS h1 = hS h) (er : hR h1 = hR h) (e : ∀ j, hI h1 46 j = hI h 46 j) : MA h1 D := ⟨GM_of A.1 es er, A.2.1, fun j hj => by rw [e]; exact A.2.2.1 j hj, fun i hi q hq => by rw [e]; exact A.2.2.2 i hi q hq⟩
theorem R4.z1 (R : R4 h D n zu) : (if zu < 8 then zu + 1 else 8) ≤ 8 := by
  have := R.2.2.2.1
  split <;> omega
theorem a_hour (R : Rel h) : Agr h 90 [.ref 3] 154 [.ref 44] := by
  obtain ⟨D, n, a, r, nt, zu, zk, zr, R⟩ := R
  have h5 := R.g5
  have hz := R.2.2.2.1.2.2.2.1
  obtain ⟨p, hp, ep⟩ := R.hv
  have tb := pass_tab p (by omega)
  generalize hc : sI (putS h 18 8 zu (lv h 22)) 22 2 (minI 7 (hI h 22 2 + 1)) = c1
  have c1S : hS c1 = hS h := by rw [← hc, hS_sI]; exact (put_SR h 18 8 zu _).1
  have c1R : hR c1 = hR h := by rw [← hc, hR_sI]; exact (put_SR h 18 8 zu _).2
  have c1o : ∀ b j, b ≠ 18 → b ≠ 19 → b ≠ 22 → hI c1 b j = hI h b j := fun b j q1 q2 q3 => by rw [← hc, hI_sI, if_neg (by omega), put_o q1 q2]
  have g1 : GM c1 := GM_of R.gm c1S c1R
  have e44 : hI c1 44 6 = nI zu := by rw [c1o 44 6 (by decide) (by decide) (by decide)]; exact R.2.2.2.1.2.2.1
  have e48 : ∀ j, hI c1 48 j = hI h 48 j := fun j => c1o 48 j (by decide) (by decide) (by decide)
  generalize hd : sI (keH c1 zu) 48 6 (hI c1 48 6 + (if hI c1 48 6 < 7 then 1 else 0)) = c2
  have c2S : hS c2 = hS h := by rw [← hd, hS_sI, (ke_SR c1 zu).1]; exact c1S
  have c2R : hR c2 = hR h := by rw [← hd, hR_sI, (ke_SR c1 zu).2]; exact c1R
  have c2o : ∀ b j, b ≠ 48 → b ≠ 49 → ¬ (b = 44 ∧ j = 6) → hI c2 b j = hI c1 b j := fun b j q1 q2 q3 => by rw [← hd, hI_sI, if_neg (by omega), ke_o q2 q3]
  refine ⟨minI 7 (hI h 22 2 + 1), c1, c2, ?_, fun Q => by rw [← hc]; exact c_hour R.g R.U, fun Q => ?_⟩
  · refine RelP.rel (act_rel R c2S c2R (fun b j q1 q2 q3 q4 q5 q6 q7 => by rw [c2o b j q6 q7 q5, c1o b j q1 q2 q3]) (z' := if zu < 8 then zu + 1 else 8) ?_ ?_ ?_ R.2.2.2.1.z1 ?_ ?_)
    · rw [c2o 18 0 (by decide) (by decide) (by decide), ← hc, hI_sI, if_neg (by omega), put_18]; exact R.2.2.2.1.1
    · rw [c2o 18 2 (by decide) (by decide) (by decide), ← hc, hI_sI, if_neg (by omega), put_sz]
    · rw [← hd, hI_sI, if_neg (by omega), ke_sz]
    · have e19 : hI c2 19 = pushR (hI h 19) (lv h 22) zu := by
        rw [← put_19]
        funext j
        rw [c2o 19 j (by decide) (by decide) (by omega), ← hc, hI_sI, if_neg (by omega)]
      have e49 : hI c2 49 = pushR (hI h 49) (hI h 48) zu := by
        have : hI c2 49 = hI (keH c1 zu) 49 := by funext j; rw [← hd, hI_sI, if_neg (by omega)]
        rw [this, ke_49]
        congr 1
        · funext j; exact c1o 49 j (by decide) (by decide) (by decide)
        · funext j; exact e48 j
      rw [e19, e49]
      exact rows_push h5 hz R.2.2.2.1.2.2.2.2 R.2.2.1
    · refine (pass_StR R.2.2.1 h5).congr10 h5 (fun j hj => ?_) (fun j hj => ?_)
      · unfold passC
        have l1 : lv c2 22 j = lv c1 22 j := by
          unfold lv
          split
          · exact c2o 23 j (by decide) (by decide) (by omega)
          · exact c2o 22 _ (by decide) (by decide) (by omega)
        rw [l1, lv_6]
        by_cases c : j = 6
        · rw [if_pos c, c, lv_6, ← hc, hI_sI, if_pos ⟨rfl, rfl⟩]
        · rw [if_neg c]
          unfold lv
          split
          · exact c1o 23 j (by decide) (by decide) (by decide)
          · rw [← hc, hI_sI, if_neg (by omega), put_o (by decide) (by decide)]
      · unfold passS
        by_cases c : j = 6
        · rw [if_pos c, c, ← hd, hI_sI, if_pos ⟨rfl, rfl⟩, e48]
        · rw [if_neg c, ← hd, hI_sI, if_neg (by omega), ke_o (by decide) (by omega), e48]
  · rw [← hd, m_hour g1 e44 hz, e48, R.hr, ep, tb.1]
theorem a_stuff (R : Rel h) : Agr h 89 [.ref 3, .int x] 152 [.ref 44, .int x] := by
  obtain ⟨D, n, a, r, nt, zu, zk, zr, R⟩ := R
  have h5 := R.g5
  obtain ⟨b1, b2, b3⟩ := R.B
  have hz := R.2.2.2.1.2.2.2.1
  by_cases c : ¬ x < 0 ∧ x < hI h a 6 - 1
  · obtain ⟨p, hp, rfl⟩ := R.wallI c
    obtain ⟨w, hw, ew⟩ := R.wv
    have xt : ∀ w, w < 32 → ∀ p, p < 5 → ∃ u, u < 32 ∧ nI w ^^^ 1 <<< (nI p &&& 31) = nI u := by decide +kernel
    obtain ⟨u, hu, eu⟩ := xt w hw p (by omega)
    generalize hc : sI (putS h 18 8 zu (lv h 22)) 22 1 (hI h 22 1 ^^^ 1 <<< (nI p &&& 31)) = c1
    have c1S : hS c1 = hS h := by rw [← hc, hS_sI]; exact (put_SR h 18 8 zu _).1
    have c1R : hR c1 = hR h := by rw [← hc, hR_sI]; exact (put_SR h 18 8 zu _).2
    have c1o : ∀ b j, b ≠ 18 → b ≠ 19 → b ≠ 22 → hI c1 b j = hI h b j := fun b j q1 q2 q3 => by rw [← hc, hI_sI, if_neg (by omega), put_o q1 q2]
    have g1 : GM c1 := GM_of R.gm c1S c1R
    have e44 : hI c1 44 6 = nI zu := by rw [c1o 44 6 (by decide) (by decide) (by decide)]; exact R.2.2.2.1.2.2.1
    have e48 : ∀ j, hI c1 48 j = hI h 48 j := fun j => c1o 48 j (by decide) (by decide) (by decide)
    have e46 : hI c1 46 1 = hI h 46 1 := c1o 46 1 (by decide) (by decide) (by decide)
    generalize hd : sI (keH c1 zu) 48 5 (hI c1 48 5 ^^^ 1 <<< (nI p &&& 31)) = c2
    have c2S : hS c2 = hS h := by rw [← hd, hS_sI, (ke_SR c1 zu).1]; exact c1S
    have c2R : hR c2 = hR h := by rw [← hd, hR_sI, (ke_SR c1 zu).2]; exact c1R
    have c2o : ∀ b j, b ≠ 48 → b ≠ 49 → ¬ (b = 44 ∧ j = 6) → hI c2 b j = hI c1 b j := fun b j q1 q2 q3 => by rw [← hd, hI_sI, if_neg (by omega), ke_o q2 q3]
    refine ⟨bi (stufF (hI h 22 1 ^^^ 1 <<< (nI p &&& 31)) (nI p) = true), c1, c2, ?_, fun Q => by rw [← hc]; exact (c_stuff R.C R.U).trans (iff_if c), fun Q => ?_⟩
    · refine RelP.rel (act_rel R c2S c2R (fun b j q1 q2 q3 q4 q5 q6 q7 => by rw [c2o b j q6 q7 q5, c1o b j q1 q2 q3]) (z' := if zu < 8 then zu + 1 else 8) ?_ ?_ ?_ R.2.2.2.1.z1 ?_ ?_)
      · rw [c2o 18 0 (by decide) (by decide) (by decide), ← hc, hI_sI, if_neg (by omega), put_18]; exact R.2.2.2.1.1
      · rw [c2o 18 2 (by decide) (by decide) (by decide), ← hc, hI_sI, if_neg (by omega), put_sz]
      · rw [← hd, hI_sI, if_neg (by omega), ke_sz]
      · have e19 : hI c2 19 = pushR (hI h 19) (lv h 22) zu := by
          rw [← put_19]
          funext j
          rw [c2o 19 j (by decide) (by decide) (by omega), ← hc, hI_sI, if_neg (by omega)]
        have e49 : hI c2 49 = pushR (hI h 49) (hI h 48) zu := by
          have : hI c2 49 = hI (keH c1 zu) 49 := by funext j; rw [← hd, hI_sI, if_neg (by omega)]
          rw [this, ke_49]
          congr 1
          · funext j; exact c1o 49 j (by decide) (by decide) (by decide)
          · funext j; exact e48 j
        rw [e19, e49]
        exact rows_push h5 hz R.2.2.2.1.2.2.2.2 R.2.2.1
      · obtain ⟨S1, S2, S3, S4, S5⟩ := R.2.2.1
        have l1 : ∀ j, lv c2 22 j = if j = 5 then nI u else lv h 22 j := by
          intro j
          have l0 : lv c2 22 j = lv c1 22 j := by
            unfold lv
            split
            · exact c2o 23 j (by decide) (by decide) (by omega)
            · exact c2o 22 _ (by decide) (by decide) (by omega)
          rw [l0]
          by_cases q : j = 5
          · rw [if_pos q, q, lv_5, ← hc, hI_sI, if_pos ⟨rfl, rfl⟩, R.wl, ew, eu]
          · rw [if_neg q]
            unfold lv
            split
            · exact c1o 23 j (by decide) (by decide) (by decide)
            · by_cases q2 : j - 4 = 1
              · omega
              · rw [← hc, hI_sI, if_neg (by omega), put_o (by decide) (by decide)]
        have l2 : ∀ j, hI c2 48 j = if j = 5 then nI u else hI h 48 j := by
          intro j
          by_cases q : j = 5
          · rw [if_pos q, q, ← hd, hI_sI, if_pos ⟨rfl, rfl⟩, e48, ew, eu]
          · rw [if_neg q, ← hd, hI_sI, if_neg (by omega), ke_o (by decide) (by omega), e48]
        refine ⟨fun j hj q => ?_, fun j hj => ?_, fun j k hj hk e => ?_, ?_, ?_⟩
        · rw [l1, l2]
          by_cases q5 : j = 5
          · rw [if_pos q5, if_pos q5]
          · rw [if_neg q5, if_neg q5]; exact S1 j hj q
        · rw [l1, if_neg (by omega)]; exact S2 j hj
        · rw [l1, l1, if_neg (by omega), if_neg (by omega)] at e; exact S3 j k hj hk e
        · rw [l1, if_pos rfl]; exact ⟨u, hu, rfl⟩
        · rw [l1, if_neg (by omega)]; exact S5
    · rw [← hd, m_stuff g1 e44 hz, if_pos (by rw [e46]; exact R.wallR.mp c), e48, R.wl, ew, eu]
      rw [← bit_wall u hu p (by omega)]
  · exact rel_same R rfl (fun Q => (c_stuff R.C R.U).trans (iff_ifn c)) (fun Q => (m_stuff R.gm R.2.2.2.1.2.2.1 hz).trans (iff_ifn (fun q => c (R.wallR.mpr q))))
end AGR7
