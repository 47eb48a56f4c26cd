/-! BOTH ANSWER ALIKE: the text, what was heard, lay -/
section AGR9
variable {h h' h1 h2 : aH} {D D' : Nat → Int32} {n a r nt zu zk zr i j k T u b z m : Nat} {x y w hr d : Int32}
theorem a_write (R : Rel h) : Agr h 81 [.ref 3, .int x] 125 [.ref 44, .int x] := by
  obtain ⟨D, n, a, r, nt, zu, zk, zr, R⟩ := R
  have a2 := R.a2
  have hz := R.2.1.2.2.1
  by_cases c : ¬ x < 32 ∧ ¬ 126 < x
  · by_cases cl : nt < 200
    · have n2 : ¬ nt = 200 := by omega
      generalize hc : sI (sI h 5 nt x) 4 1 (nI (nt + 1)) = c1
      have c1S : hS c1 = hS h := by rw [← hc, hS_sI, hS_sI]
      have c1R : hR c1 = hR h := by rw [← hc, hR_sI, hR_sI]
      have c1o : ∀ b j, ¬ (b = 5 ∧ j = nt) → ¬ (b = 4 ∧ j = 1) → hI c1 b j = hI h b j := fun b j q1 q2 => by rw [← hc, hI_sI, if_neg q2, hI_sI, if_neg q1]
      have T1 : MT c1 nt := ⟨GM_of R.gm c1S c1R, by rw [c1o 44 1 (by omega) (by omega)]; exact R.2.1.2.1, hz⟩
      generalize hd : sI (sI c1 45 nt x) 44 1 (nI (nt + 1)) = c2
      have c2S : hS c2 = hS h := by rw [← hd, hS_sI, hS_sI]; exact c1S
      have c2R : hR c2 = hR h := by rw [← hd, hR_sI, hR_sI]; exact c1R
      have c2o : ∀ b j, ¬ (b = 45 ∧ j = nt) → ¬ (b = 44 ∧ j = 1) → hI c2 b j = hI c1 b j := fun b j q1 q2 => by rw [← hd, hI_sI, if_neg q2, hI_sI, if_neg q1]
      have oo : ∀ b j, b ≠ 5 → b ≠ 45 → ¬ (b = 4 ∧ j = 1) → ¬ (b = 44 ∧ j = 1) → hI c2 b j = hI h b j := fun b j q1 q2 q3 q4 => by rw [c2o b j (by omega) q4, c1o b j (by omega) q3]
      refine ⟨nI (nt + 1), c1, c2, ?_, fun Q => by rw [← hc]; exact (c_write R.T).trans ((iff_if c).trans (iff_if cl)), fun Q => by rw [← hd]; exact (m_write T1).trans ((iff_if c).trans (iff_ifn n2))⟩
      refine RelP.rel (nt := nt + 1) ⟨R.1.congr c2S c2R (fun b j q => oo b j (by omega) (by omega) (by omega) (by omega)), ⟨?_, ?_, by omega, fun p hp => ?_⟩, R.2.2.1.congr (fun b j q => oo b j (by omega) (by omega) (by omega) (by omega)), R.2.2.2.1.congr (fun b j q => oo b j (by omega) (by omega) (by omega) (by omega)), R.2.2.2.2.1.congr (fun b j q => oo b j (by omega) (by omega) (by omega) (by omega)), R.2.2.2.2.2.congr (fun b j q => oo b j (by omega) (by omega) (by omega) (by omega))⟩
      · rw [c2o 4 1 (by omega) (by omega), ← hc, hI_sI, if_pos ⟨rfl, rfl⟩]
      · rw [← hd, hI_sI, if_pos ⟨rfl, rfl⟩]
      · rw [c2o 5 p (by omega) (by omega)]
        by_cases q : p = nt
        · rw [q, ← hd, hI_sI, if_neg (by omega), hI_sI, if_pos ⟨rfl, rfl⟩, ← hc, hI_sI, if_neg (by omega), hI_sI, if_pos ⟨rfl, rfl⟩]
        · rw [c2o 45 p (by omega) (by omega), c1o 5 p (by omega) (by omega), c1o 45 p (by omega) (by omega)]
          exact R.2.1.2.2.2 p (by omega)
    · have n2 : nt = 200 := by omega
      exact rel_same R rfl (fun Q => (c_write R.T).trans ((iff_if c).trans (iff_ifn cl))) (fun Q => (m_write R.MT).trans ((iff_if c).trans (iff_if n2)))
  · exact rel_same R rfl (fun Q => (c_write R.T).trans (iff_ifn c)) (fun Q => (m_write R.MT).trans (iff_ifn c))
theorem a_wipe (R : Rel h) : Agr h 82 [.ref 3, .null] 126 [.ref 44, .null] := by
  obtain ⟨D, n, a, r, nt, zu, zk, zr, R⟩ := R
  have a2 := R.a2
  generalize hc : sI h 4 1 0 = c1
  have c1S : hS c1 = hS h := by rw [← hc, hS_sI]
  have c1R : hR c1 = hR h := by rw [← hc, hR_sI]
  have c1o : ∀ b j, ¬ (b = 4 ∧ j = 1) → hI c1 b j = hI h b j := fun b j q => by rw [← hc, hI_sI, if_neg q]
  have g1 : GM c1 := GM_of R.gm c1S c1R
  generalize hd : sI c1 44 1 0 = c2
  have c2S : hS c2 = hS h := by rw [← hd, hS_sI]; exact c1S
  have c2R : hR c2 = hR h := by rw [← hd, hR_sI]; exact c1R
  have oo : ∀ b j, ¬ (b = 4 ∧ j = 1) → ¬ (b = 44 ∧ j = 1) → hI c2 b j = hI h b j := fun b j q1 q2 => by rw [← hd, hI_sI, if_neg q2, c1o b j q1]
  have e : hI h 4 1 = hI c1 44 1 := by rw [c1o 44 1 (by omega), R.2.1.1, R.2.1.2.1]
  refine ⟨hI h 4 1, c1, c2, ?_, fun Q => by rw [← hc]; exact c_wipe R.g, fun Q => by rw [e, ← hd]; exact m_wipe g1⟩
  refine RelP.rel (nt := 0) ⟨R.1.congr c2S c2R (fun b j q => oo b j (by omega) (by omega)), ⟨?_, ?_, by omega, fun p hp => by omega⟩, R.2.2.1.congr (fun b j q => oo b j (by omega) (by omega)), R.2.2.2.1.congr (fun b j q => oo b j (by omega) (by omega)), R.2.2.2.2.1.congr (fun b j q => oo b j (by omega) (by omega)), R.2.2.2.2.2.congr (fun b j q => oo b j (by omega) (by omega))⟩
  · rw [← hd, hI_sI, if_neg (by omega), ← hc, hI_sI, if_pos ⟨rfl, rfl⟩]; rfl
  · rw [← hd, hI_sI, if_pos ⟨rfl, rfl⟩]; rfl
theorem a_forget (R : Rel h) : Agr h 99 [.ref 3, .null] 170 [.ref 44, .null] := by
  obtain ⟨D, n, a, r, nt, zu, zk, zr, R⟩ := R
  have a2 := R.a2
  generalize hc : sI h 7 3 0 = c1
  have c1S : hS c1 = hS h := by rw [← hc, hS_sI]
  have c1R : hR c1 = hR h := by rw [← hc, hR_sI]
  have c1o : ∀ b j, ¬ (b = 7 ∧ j = 3) → hI c1 b j = hI h b j := fun b j q => by rw [← hc, hI_sI, if_neg q]
  have g1 : GM c1 := GM_of R.gm c1S c1R
  generalize hd : sI c1 44 10 0 = c2
  have c2S : hS c2 = hS h := by rw [← hd, hS_sI]; exact c1S
  have c2R : hR c2 = hR h := by rw [← hd, hR_sI]; exact c1R
  have oo : ∀ b j, ¬ (b = 7 ∧ j = 3) → ¬ (b = 44 ∧ j = 10) → hI c2 b j = hI h b j := fun b j q1 q2 => by rw [← hd, hI_sI, if_neg q2, c1o b j q1]
  have e : hI h 7 3 = hI c1 44 10 := by rw [c1o 44 10 (by omega), R.2.2.2.2.2.1, R.2.2.2.2.2.2.1]
  refine ⟨hI h 7 3, c1, c2, ?_, fun Q => by rw [← hc]; exact c_forget R.g, fun Q => by rw [e, ← hd]; exact m_forget g1⟩
  refine RelP.rel (zr := 0) ⟨R.1.congr c2S c2R (fun b j q => oo b j (by omega) (by omega)), R.2.1.congr (fun b j q => oo b j (by omega) (by omega)), R.2.2.1.congr (fun b j q => oo b j (by omega) (by omega)), R.2.2.2.1.congr (fun b j q => oo b j (by omega) (by omega)), R.2.2.2.2.1.congr (fun b j q => oo b j (by omega) (by omega)), ?_, ?_, by omega, fun _ => 0, fun _ => 0, fun _ => 0, fun k hk => by omega⟩
  · rw [← hd, hI_sI, if_neg (by omega), ← hc, hI_sI, if_pos ⟨rfl, rfl⟩]; rfl
  · rw [← hd, hI_sI, if_pos ⟨rfl, rfl⟩]; rfl
theorem a_heard {v w u : Int32} (R : Rel h) : Agr h 98 [.ref 3, .int v, .int w, .int u] 169 [.ref 44, .int v, .int w, .int u] := by
  obtain ⟨D, n, a, r, nt, zu, zk, zr, R⟩ := R
  have a2 := R.a2
  have h5 := R.g5
  obtain ⟨q1, q2, q3, ww, tt, oo, q4⟩ := R.2.2.2.2.2
  by_cases c : (¬ v < 0 ∧ v < hI h a 5) ∧ (¬ w < 0 ∧ ¬ 7 < w) ∧ (u = 0 ∨ u = 1)
  · have c' : ∀ h1 : aH, hI h1 46 0 = hI h 46 0 → ((¬ v < 0 ∧ ¬ hI h1 46 0 - 1 < v) ∧ (¬ w < 0 ∧ ¬ 7 < w) ∧ (¬ u < 0 ∧ ¬ 1 < u)) := fun h1 e => ⟨by rw [e]; exact R.isG.mp c.1, c.2.1, two_iff.mp c.2.2⟩
    by_cases cl : zr < 8
    · have n2 : ¬ zr = 8 := by omega
      obtain ⟨i, hi, rfl⟩ := R.gI c.1
      have cw : ¬ w < 0 ∧ w < nI 8 := (range_iff (m := 8) (by decide) (by decide)).mpr (by rw [nI_m1 (by decide)]; exact c.2.1)
      obtain ⟨t, ht, rfl⟩ := range_nI (by decide) cw
      obtain ⟨o, ho, rfl⟩ : ∃ o, o < 2 ∧ u = nI o := by
        rcases c.2.2 with rfl | rfl
        · exact ⟨0, by decide, rfl⟩
        · exact ⟨1, by decide, rfl⟩
      generalize hc : sI (sI (sI (sI h 8 zr (nI i)) 9 zr (nI t)) 10 zr (nI o)) 7 3 (nI (zr + 1)) = c1
      have c1S : hS c1 = hS h := by rw [← hc, hS_sI, hS_sI, hS_sI, hS_sI]
      have c1R : hR c1 = hR h := by rw [← hc, hR_sI, hR_sI, hR_sI, hR_sI]
      have c1o : ∀ b j, ¬ (8 ≤ b ∧ b ≤ 10 ∧ j = zr) → ¬ (b = 7 ∧ j = 3) → hI c1 b j = hI h b j := fun b j p1 p2 => by rw [← hc, hI_sI, if_neg p2, hI_sI, if_neg (by omega), hI_sI, if_neg (by omega), hI_sI, if_neg (by omega)]
      have g1 : GM c1 := GM_of R.gm c1S c1R
      have e44 : hI c1 44 10 = nI zr := by rw [c1o 44 10 (by omega) (by omega)]; exact q2
      generalize hd : sI (sI c1 51 zr (100 * nI i + 10 * nI t + nI o)) 44 10 (nI (zr + 1)) = c2
      have c2S : hS c2 = hS h := by rw [← hd, hS_sI, hS_sI]; exact c1S
      have c2R : hR c2 = hR h := by rw [← hd, hR_sI, hR_sI]; exact c1R
      have c2o : ∀ b j, ¬ (b = 51 ∧ j = zr) → ¬ (b = 44 ∧ j = 10) → hI c2 b j = hI c1 b j := fun b j p1 p2 => by rw [← hd, hI_sI, if_neg p2, hI_sI, if_neg p1]
      have ot : ∀ b j, ¬ (7 ≤ b ∧ b ≤ 10) → b ≠ 51 → ¬ (b = 44 ∧ j = 10) → hI c2 b j = hI h b j := fun b j p1 p2 p3 => by rw [c2o b j (by omega) p3, c1o b j (by omega) (by omega)]
      have rep : (100 : Int32) * nI i + 10 * nI t + nI o = nI (100 * i + 10 * t + o) := by rw [show (100 : Int32) = nI 100 from rfl, show (10 : Int32) = nI 10 from rfl, nI_mul, nI_mul, nI_addn, nI_addn]
      refine ⟨nI (zr + 1), c1, c2, ?_, fun Q => by rw [← hc]; exact (c_heard R.C q1 q3).trans ((iff_if c).trans (iff_if cl)), fun Q => by rw [← hd]; exact (m_heard g1 e44 q3).trans ((iff_if (c' c1 (c1o 46 0 (by omega) (by omega)))).trans (iff_ifn n2))⟩
      refine RelP.rel (zr := zr + 1) ⟨R.1.congr c2S c2R (fun b j q => ot b j (by omega) (by omega) (by omega)), R.2.1.congr (fun b j q => ot b j (by omega) (by omega) (by omega)), R.2.2.1.congr (fun b j q => ot b j (by omega) (by omega) (by omega)), R.2.2.2.1.congr (fun b j q => ot b j (by omega) (by omega) (by omega)), R.2.2.2.2.1.congr (fun b j q => ot b j (by omega) (by omega) (by omega)), ?_, ?_, by omega, (fun k => if k = zr then i else ww k), (fun k => if k = zr then t else tt k), (fun k => if k = zr then o else oo k), fun k hk => ?_⟩
      · rw [c2o 7 3 (by omega) (by omega), ← hc, hI_sI, if_pos ⟨rfl, rfl⟩]
      · rw [← hd, hI_sI, if_pos ⟨rfl, rfl⟩]
      · by_cases q : k = zr
        · subst q
          simp only [if_true]
          have e8 : hI c2 8 k = nI i := by rw [c2o 8 k (by omega) (by omega), ← hc, hI_sI, if_neg (by omega), hI_sI, if_neg (by omega), hI_sI, if_neg (by omega), hI_sI, if_pos ⟨rfl, rfl⟩]
          have e9 : hI c2 9 k = nI t := by rw [c2o 9 k (by omega) (by omega), ← hc, hI_sI, if_neg (by omega), hI_sI, if_neg (by omega), hI_sI, if_pos ⟨rfl, rfl⟩]
          have e10 : hI c2 10 k = nI o := by rw [c2o 10 k (by omega) (by omega), ← hc, hI_sI, if_neg (by omega), hI_sI, if_pos ⟨rfl, rfl⟩]
          have e51 : hI c2 51 k = nI (100 * i + 10 * t + o) := by rw [← hd, hI_sI, if_neg (by omega), hI_sI, if_pos ⟨rfl, rfl⟩, rep]
          exact ⟨⟨e8, hi⟩, ⟨e9, ht⟩, ⟨e10, ho⟩, e51⟩
        · simp only [q, if_false]
          rw [c2o 8 k (by omega) (by omega), c2o 9 k (by omega) (by omega), c2o 10 k (by omega) (by omega), c2o 51 k (by omega) (by omega), c1o 8 k (by omega) (by omega), c1o 9 k (by omega) (by omega), c1o 10 k (by omega) (by omega), c1o 51 k (by omega) (by omega)]
          exact q4 k (by omega)
    · have n2 : zr = 8 := by omega
      exact rel_same R rfl (fun Q => (c_heard R.C q1 q3).trans ((iff_if c).trans (iff_ifn cl))) (fun Q => (m_heard R.gm q2 q3).trans ((iff_if (c' h rfl)).trans (iff_if n2)))
  · exact rel_same R rfl (fun Q => (c_heard R.C q1 q3).trans (iff_ifn c)) (fun Q => (m_heard R.gm q2 q3).trans (iff_ifn (fun q => c ⟨R.isG.mpr q.1, q.2.1, two_iff.mpr q.2.2⟩)))
end AGR9
