/-! DRAFTS STAY GOOD; the class's reading of a whole text -/
def smallV (v : Int32) : Prop := ∃ k, k ≤ 99 ∧ v = nI k
theorem lit_lt {a b : Nat} (ha : a < 2 ^ 31) (hb : b < 2 ^ 31) (h : ¬ nI a < nI b) : b ≤ a := by
  rw [nI_lt_iff ha hb] at h
  omega
theorem lit_le {a b : Nat} (ha : a < 2 ^ 31) (hb : b < 2 ^ 31) (h : nI a < nI b) : a < b := by
  rw [nI_lt_iff ha hb] at h
  exact h
theorem dig_nI {c : Int32} (h : dig c = true) : ∃ k, k ≤ 9 ∧ c = nI (48 + k) := by
  unfold dig at h
  simp only [Bool.and_eq_true, Bool.not_eq_true', decide_eq_false_iff_not] at h
  have h0 : ¬ c < 0 := by
    intro q
    exact h.1 (Int32.lt_trans q (by decide))
  have e := nI_self h0
  have hlt : c.toNatClampNeg < 2 ^ 31 := by
    have := c.toInt_lt
    show c.toInt.toNat < 2 ^ 31
    omega
  rw [e] at h
  have h1 : 48 ≤ c.toNatClampNeg := by
    have := h.1
    rw [show (48 : Int32) = nI 48 from rfl, nI_lt_iff hlt (by decide)] at this
    omega
  have h2 : c.toNatClampNeg ≤ 57 := by
    have := h.2
    rw [show (57 : Int32) = nI 57 from rfl, nI_lt_iff (by decide) hlt] at this
    omega
  exact ⟨c.toNatClampNeg - 48, by omega, by rw [show 48 + (c.toNatClampNeg - 48) = c.toNatClampNeg by omega]; exact e⟩
theorem vlF_small (c : Nat → Int32) (p : Nat) (h : dig (c p) = true) : smallV (vlF c p) := by
  obtain ⟨k, hk, e⟩ := dig_nI h
  have e1 : c p - 48 = nI k := by
    rw [e, show (48 : Int32) = nI 48 from rfl, nI_sub (by omega)]
    congr 1
    omega
  unfold vlF
  split
  · rename_i h2
    obtain ⟨k2, hk2, e2⟩ := dig_nI h2
    refine ⟨k * 10 + k2, by omega, ?_⟩
    rw [e1, e2, nI_x10, nI_addn, show (48 : Int32) = nI 48 from rfl, nI_sub (by omega)]
    congr 1
    omega
  · exact ⟨k, by omega, e1⟩
theorem bits_or : ∀ v, v < 32 → ∀ k, k < 5 → ∃ u, u < 32 ∧ nI v ||| 1 <<< (nI k &&& 31) = nI u := by decide +kernel
section DRAFT
variable {D t D' : Nat → Int32} {ch : Int32} {m : Nat}
theorem DW_up_other (w : DW D) {k : Nat} (v : Int32) (hk : k = 2 ∧ (∃ u, u ≤ 40 ∧ v = nI u) ∨ k = 3 ∧ (∃ u, u ≤ 12 ∧ v = nI u) ∨ k = 4 ∧ (∃ u, u < 32 ∧ v = nI u) ∨ k = 5 ∧ v = 1) : DW (upD D k v) := by
  have hk0 : k ≠ 0 := by omega
  have hk6 : ∀ i, 6 ≤ i → upD D k v i = D i := fun i hi => by unfold upD; rw [if_neg (by omega)]
  have h0 : upD D k v 0 = D 0 := by unfold upD; rw [if_neg (by omega)]
  have h1 : upD D k v 1 = D 1 := by unfold upD; rw [if_neg (by omega)]
  unfold DW at w ⊢
  rw [gN_up D hk0, h0, h1]
  obtain ⟨w1, ⟨n, w2, w3, w4, w5, w6⟩, w7, w8, w9, w10, w11, w12, w13⟩ := w
  refine ⟨w1, ⟨n, w2, w3, w4, w5, fun i hi => ?_⟩, ?_, ?_, ?_, ?_, ?_, fun i hi => ?_, fun i j hi hj => ?_⟩
  · rw [hk6 _ (by omega)]; exact w6 i hi
  · unfold upD
    by_cases q : 2 = k
    · rw [if_pos q]; rcases hk with ⟨-, z⟩ | ⟨z, -⟩ | ⟨z, -⟩ | ⟨z, -⟩ <;> first | exact z | omega
    · rw [if_neg q]; exact w7
  · unfold upD
    by_cases q : 3 = k
    · rw [if_pos q]; rcases hk with ⟨z, -⟩ | ⟨-, z⟩ | ⟨z, -⟩ | ⟨z, -⟩ <;> first | exact z | omega
    · rw [if_neg q]; exact w8
  · unfold upD
    by_cases q : 4 = k
    · rw [if_pos q]; rcases hk with ⟨z, -⟩ | ⟨z, -⟩ | ⟨-, z⟩ | ⟨z, -⟩ <;> first | exact z | omega
    · rw [if_neg q]; exact w9
  · unfold upD
    by_cases q : 5 = k
    · rw [if_pos q]; rcases hk with ⟨z, -⟩ | ⟨z, -⟩ | ⟨z, -⟩ | ⟨-, z⟩ <;> first | exact Or.inr z | omega
    · rw [if_neg q]; exact w10
  · intro hg
    unfold upD
    by_cases q : 5 = k
    · rw [if_pos q]; rcases hk with ⟨z, -⟩ | ⟨z, -⟩ | ⟨z, -⟩ | ⟨-, z⟩ <;> first | exact z | omega
    · rw [if_neg q]; exact w11 hg
  · rw [hk6 _ (by omega), hk6 _ (by omega), hk6 _ (by omega), hk6 _ (by omega)]; exact w12 i hi
  · rw [hk6 _ (by omega), hk6 _ (by omega)]; exact w13 i j hi hj
theorem DW_beds (w : DW D) {v : Int32} (h5 : D 5 = 0) (hv : ∃ u, 2 ≤ u ∧ u ≤ 6 ∧ v = nI u) : DW (upD D 1 v) := by
  obtain ⟨u, u2, u6, e⟩ := hv
  have hg : gN D = 0 := by
    obtain ⟨-, -, -, -, -, -, w11, -⟩ := w
    rcases Nat.eq_zero_or_pos (gN D) with q | q
    · exact q
    · have := w11 (by omega)
      rw [h5] at this
      exact absurd this (by decide)
  have hk : ∀ i, i ≠ 1 → upD D 1 v i = D i := fun i hi => by unfold upD; rw [if_neg hi]
  unfold DW at w ⊢
  rw [gN_up D (by decide), hk 0 (by decide), hk 2 (by decide), hk 3 (by decide), hk 4 (by decide), hk 5 (by decide), show upD D 1 v 1 = v by unfold upD; rw [if_pos rfl]]
  obtain ⟨w1, -, w7, w8, w9, w10, w11, -, -⟩ := w
  exact ⟨w1, ⟨u, e, u2, u6, by omega, fun i hi => by omega⟩, w7, w8, w9, w10, w11, fun i hi => by omega, fun i j hi => by omega⟩
theorem taken_no {P : Nat → Int32} {x : Int32} {G : Nat} (h : takenF P x G = false) : ∀ i, i < G → P i ≠ x := by
  intro i hi
  unfold takenF at h
  have h1 : ¬ fstN (fun i => decide (P i = x)) G < G := by simpa using h
  have h2 := fstN_le (fun i => decide (P i = x)) G
  have := fstN_no (fun i => decide (P i = x)) G i (by omega)
  simpa using this
theorem DW_gst (w : DW D) (hs : ∀ j, j < 5 → smallV (t j)) (hok : okGD D t = true) : DW (gstD D t) := by
  have hG := gN_gst t w
  obtain ⟨⟨w1, w1'⟩, ⟨n, w2, w3, w4, w5, w6⟩, w7, w8, w9, w10, w11, w12, w13⟩ := w
  unfold okGD at hok
  simp only [Bool.and_eq_true, decide_eq_true_eq, Bool.not_eq_true', decide_eq_false_iff_not] at hok
  obtain ⟨⟨⟨⟨⟨⟨⟨⟨o1, o2⟩, o3⟩, o4⟩, o5⟩, o6⟩, o7⟩, o8, o9⟩, o10⟩ := hok
  obtain ⟨v0, b0, e0⟩ := hs 0 (by omega)
  obtain ⟨v1, b1, e1⟩ := hs 1 (by omega)
  obtain ⟨v2, b2, e2⟩ := hs 2 (by omega)
  obtain ⟨v3, b3, e3⟩ := hs 3 (by omega)
  obtain ⟨v4, b4, e4⟩ := hs 4 (by omega)
  rw [w2, show (1 : Int32) = nI 1 from rfl, nI_sub (by omega)] at o2
  have o2 := lit_le (by omega) (by omega) o2
  rw [e0] at o3
  rw [e1] at o4
  rw [e2] at o5
  rw [e3] at o6 o7
  rw [e4, w2] at o9
  have o3 := lit_lt (by decide) (by omega) (show ¬ nI 3 < nI v0 from o3)
  have o4 := lit_lt (by decide) (by omega) (show ¬ nI 30 < nI v1 from o4)
  have o5 := lit_lt (by decide) (by omega) (show ¬ nI 12 < nI v2 from o5)
  have o6 := lit_lt (by omega) (by decide) (show ¬ nI v3 < nI 1 from o6)
  have o7 := lit_lt (by decide) (by omega) (show ¬ nI 40 < nI v3 from o7)
  have o9 := lit_le (by omega) (by omega) o9
  have tk := taken_no o10
  have old : ∀ i, i < gN D → ∀ r, r < 5 → gstD D t (6 + 5 * r + i) = D (6 + 5 * r + i) := by
    intro i hi r hr
    unfold gstD
    have : r = 0 ∨ r = 1 ∨ r = 2 ∨ r = 3 ∨ r = 4 := by omega
    rcases this with rfl | rfl | rfl | rfl | rfl <;> grind
  have n0 : gstD D t (6 + gN D) = t 0 := by unfold gstD; grind
  have n1 : gstD D t (11 + gN D) = t 1 := by unfold gstD; grind
  have n2 : gstD D t (16 + gN D) = t 2 := by unfold gstD; grind
  have n3 : gstD D t (21 + gN D) = t 3 := by unfold gstD; grind
  have n4 : gstD D t (26 + gN D) = t 4 := by unfold gstD; grind
  have f1 : gstD D t 1 = D 1 := by unfold gstD; grind
  have f2 : gstD D t 2 = D 2 := by unfold gstD; grind
  have f3 : gstD D t 3 = D 3 := by unfold gstD; grind
  have f4 : gstD D t 4 = D 4 := by unfold gstD; grind
  have f5 : gstD D t 5 = 1 := rfl
  unfold DW
  rw [hG, f1, f2, f3, f4, f5]
  refine ⟨⟨rfl, by omega⟩, ⟨n, w2, w3, w4, by omega, fun i hi => ?_⟩, w7, w8, w9, Or.inr rfl, fun _ => rfl, fun i hi => ?_, fun i j hi hj e => ?_⟩
  · by_cases q : i = gN D
    · rw [q, n4]; exact ⟨v4, o9, e4⟩
    · have := old i (by omega) 4 (by omega)
      rw [show 6 + 5 * 4 + i = 26 + i by omega] at this
      rw [this]; exact w6 i (by omega)
  · by_cases q : i = gN D
    · rw [q, n0, n1, n2, n3]; exact ⟨⟨v0, o3, e0⟩, ⟨v1, o4, e1⟩, ⟨v2, o5, e2⟩, ⟨v3, o6, o7, e3⟩⟩
    · have a0 := old i (by omega) 0 (by omega)
      have a1 := old i (by omega) 1 (by omega)
      have a2 := old i (by omega) 2 (by omega)
      have a3 := old i (by omega) 3 (by omega)
      rw [show 6 + 5 * 0 + i = 6 + i by omega] at a0
      rw [show 6 + 5 * 1 + i = 11 + i by omega] at a1
      rw [show 6 + 5 * 2 + i = 16 + i by omega] at a2
      rw [show 6 + 5 * 3 + i = 21 + i by omega] at a3
      rw [a0, a1, a2, a3]; exact w12 i (by omega)
  · have o26 : ∀ i, i < gN D → gstD D t (26 + i) = D (26 + i) := by
      intro i hi
      have := old i hi 4 (by omega)
      rw [show 6 + 5 * 4 + i = 26 + i by omega] at this
      exact this
    by_cases q : i = gN D <;> by_cases q2 : j = gN D
    · omega
    · rw [q, n4, o26 j (by omega)] at e
      exact absurd e.symm (tk j (by omega))
    · rw [q2, n4, o26 i (by omega)] at e
      exact absurd e (tk i (by omega))
    · rw [o26 i (by omega), o26 j (by omega)] at e
      exact w13 i j (by omega) (by omega) e
theorem DW_tell (w : DW D) (hm : 1 ≤ m ∧ m ≤ 5) (hs : ∀ j, j < m → smallV (t j)) (ht : tellF ch m t D = some D') : DW D' := by
  obtain ⟨v0, b0, e0⟩ := hs 0 (by omega)
  unfold tellF at ht
  split at ht
  · split at ht
    · rename_i h2
      cases ht
      exact DW_gst w (fun j hj => hs j (by omega)) h2.2
    · cases ht
  · split at ht
    · split at ht
      · split at ht
        · cases ht
        · rename_i h2
          cases ht
          rw [e0] at h2 ⊢
          exact DW_up_other (DW_up_other w _ (Or.inl ⟨rfl, v0, lit_lt (by decide) (by omega) h2, rfl⟩)) _ (Or.inr (Or.inr (Or.inr ⟨rfl, rfl⟩)))
      · split at ht
        · split at ht
          · rename_i h2
            cases ht
            obtain ⟨z1, z2, z3⟩ := h2
            rw [e0] at z2 z3 ⊢
            exact DW_beds w z1 ⟨v0, lit_lt (by omega) (by decide) (show ¬ nI v0 < nI 2 from z2), lit_lt (by decide) (by omega) (show ¬ nI 6 < nI v0 from z3), rfl⟩
          · cases ht
        · split at ht
          · split at ht
            · cases ht
            · rename_i h2
              cases ht
              rw [e0] at h2 ⊢
              exact DW_up_other (DW_up_other w _ (Or.inr (Or.inl ⟨rfl, v0, lit_lt (by decide) (by omega) h2, rfl⟩))) _ (Or.inr (Or.inr (Or.inr ⟨rfl, rfl⟩)))
          · split at ht
            · split at ht
              · rename_i h2
                cases ht
                obtain ⟨⟨-, -⟩, ⟨n, w2, w3, w4, -⟩, -, -, ⟨u, u1, u2⟩, -⟩ := id w
                have z2 := h2.2
                rw [e0, w2, show (1 : Int32) = nI 1 from rfl, nI_sub (by omega)] at z2
                have z2 := lit_le (by omega) (by omega) z2
                rw [e0, u2]
                obtain ⟨u', q1, q2⟩ := bits_or u u1 v0 (by omega)
                rw [q2]
                exact DW_up_other (DW_up_other w _ (Or.inr (Or.inr (Or.inl ⟨rfl, u', q1, rfl⟩)))) _ (Or.inr (Or.inr (Or.inr ⟨rfl, rfl⟩)))
              · cases ht
            · cases ht
    · cases ht
theorem rdR_le (c : Nat → Int32) : ∀ r p e m, rdR c r p = some (e, m) → e ≤ p + 3 * r := by
  intro r p e m hr
  induction r generalizing p e m with
  | zero => simp [rdR] at hr
  | succ r ih =>
    have hn := nxF_le c p
    rw [rdR] at hr
    split at hr
    · split at hr
      · simp only [Option.some.injEq, Prod.mk.injEq] at hr; omega
      · split at hr
        · cases hq : rdR c r (nxF c p + 1) with
          | none => rw [hq] at hr; simp at hr
          | some q =>
            obtain ⟨e', m'⟩ := q
            rw [hq] at hr
            simp only [Option.map_some, Option.some.injEq, Prod.mk.injEq] at hr
            have := ih _ _ _ hq
            omega
        · simp at hr
    · simp at hr
end DRAFT
def fltA (o : Option Nat) : Int32 := match o with
  | some p => nI p
  | none => -4
section READ3
variable {a n : Nat}
theorem k_parse : ∀ (f p : Nat) (D : Nat → Int32) (h : aH), TxAt h n → isInn a → DW D → ID h a D → n < p + f → p < 300 → ∃ h', Fr h h' a ∧ ((parseF (ltr (hI h 5) n) n f p D).1 = none → ID h' a (parseF (ltr (hI h 5) n) n f p D).2 ∧ DW (parseF (ltr (hI h 5) n) n f p D).2) ∧ ∀ (Q : Option Value → aH → Prop) (l2 : Value), X 69 8 [.ref 4, .ref a, l2, .int (nI p)] [] h Q ↔ Q (some (.int (fltA (parseF (ltr (hI h 5) n) n f p D).1))) h' := by
  intro f
  induction f with
  | zero =>
    intro p D h T ha w I hf hp
    have h2 := T.2.2
    refine ⟨h, Fr.refl h a, fun _ => ⟨I, w⟩, fun Q l2 => ?_⟩
    rw [x69_8]
    simp only [x69_0, x69_1, x69_4, x69_5, x69_6, x69_7, x69_9, x69_10, x69_13, x69_16, x69_17, x69_18, x69_19, x69_20, x69_23, x69_24, x69_25, x69_26, x69_29, x69_30, x69_31, x69_32, x69_35, x69_36, x69_39, x69_42, x69_43, x69_44, x69_45, x69_46, x69_49, x69_51, pv_some, pv_none, c1_int, c1_ref, c1_null, true_and, and_true, ne_eq, not_false_eq_true, not_true_eq_false, if_true, if_false, reduceCtorEq, Option.some.injEq, Value.int.injEq, absI_fold, minI_fold, maxI_fold, tx_s T.1, T.2.1, nI_lt_iff (show p < 2 ^ 31 by omega) (show n < 2 ^ 31 by omega), show ¬ p < n by omega, if_true, if_false, true_or, or_true, false_or, or_false, true_and, and_true, false_and, and_false, not_true_eq_false, not_false_eq_true, iff_self, ite_self, ne_eq, true_implies, implies_true, Bool.false_eq_true, decide_true, decide_false, Bool.or_true, Bool.or_false, Bool.true_or, Bool.false_or, parseF, fltA]
  | succ f ih =>
    intro p D h T ha w I hf hp
    have h2 := T.2.2
    by_cases hpn : p < n
    · have hA := I.at T.1 ha w
      have fr1 : Fr h (rdH (ltr (hI h 5) n) 5 (p + 1) 0 h) a := rdH_Fr _ a _ _ _ _
      have T1 := fr1.Tx ha T
      have L1 := fr1.ltr ha
      have I1 : ID (rdH (ltr (hI h 5) n) 5 (p + 1) 0 h) a D := by
        have e : ∀ b j, a ≤ b → b ≤ a + 5 → hI (rdH (ltr (hI h 5) n) 5 (p + 1) 0 h) b j = hI h b j := fun b j q1 q2 => rdH_in _ _ _ _ _ _ _ (by rcases ha with rfl | rfl | rfl <;> omega) (by rcases ha with rfl | rfl | rfl <;> omega)
        unfold ID
        rw [e a 5 (by omega) (by omega), e a 6 (by omega) (by omega), e a 7 (by omega) (by omega), e a 8 (by omega) (by omega), e a 9 (by omega) (by omega), e a 10 (by omega) (by omega)]
        refine ⟨I.1, fun i hi => ?_⟩
        rw [e _ i (by omega) (by omega), e _ i (by omega) (by omega), e _ i (by omega) (by omega), e _ i (by omega) (by omega), e _ i (by omega) (by omega)]
        exact I.2 i hi
      have hgo : ∀ (Q : Option Value → aH → Prop) (l2 : Value), X 69 8 [.ref 4, .ref a, l2, .int (nI p)] [] h Q ↔ if nI p < rdA (rdR (ltr (hI h 5) n) 5 (p + 1)) then X 73 0 [.ref 4, .int (ltr (hI h 5) n p), .ref a] [] (rdH (ltr (hI h 5) n) 5 (p + 1) 0 h) (fun r h' => X 69 39 [.ref 4, .ref a, .int (rdA (rdR (ltr (hI h 5) n) 5 (p + 1))), .int (nI p)] (pv r []) h' Q) else Q (some (.int (nI p))) (rdH (ltr (hI h 5) n) 5 (p + 1) 0 h) := by
        intro Q l2
        rw [x69_8]
        simp only [x69_0, x69_1, x69_4, x69_5, x69_6, x69_7, x69_9, x69_10, x69_13, x69_16, x69_17, x69_18, x69_19, x69_20, x69_23, x69_24, x69_25, x69_26, x69_29, x69_30, x69_31, x69_32, x69_35, x69_36, x69_39, x69_42, x69_43, x69_44, x69_45, x69_46, x69_49, x69_51, pv_some, pv_none, c1_int, c1_ref, c1_null, true_and, and_true, ne_eq, not_false_eq_true, not_true_eq_false, if_true, if_false, reduceCtorEq, Option.some.injEq, Value.int.injEq, absI_fold, minI_fold, maxI_fold, tx_s T.1, T.2.1, nI_lt_iff (show p < 2 ^ 31 by omega) (show n < 2 ^ 31 by omega), hpn, nI_add1, k_readNumbers T (show p + 1 < 800 by omega), tx_s T1.1, k_letterAt T1 (show p < 1000 by omega), L1, if_true, if_false, true_or, or_true, false_or, or_false, true_and, and_true, false_and, and_false, not_true_eq_false, not_false_eq_true, iff_self, ite_self, ne_eq, true_implies, implies_true, Bool.false_eq_true, decide_true, decide_false, Bool.or_true, Bool.or_false, Bool.true_or, Bool.false_or]
      cases hr : rdR (ltr (hI h 5) n) 5 (p + 1) with
      | none =>
        refine ⟨_, fr1, ?_, fun Q l2 => ?_⟩
        · simp [parseF, hpn, itemF, hr]
        · rw [hgo Q l2, hr]
          have : ¬ nI p < rdA none := by
            show ¬ nI p < -4
            intro q
            exact nI_pos (show p < 2 ^ 31 by omega) (Int32.lt_trans q (by decide))
          rw [if_neg this]
          simp [parseF, hpn, itemF, hr, fltA]
      | some q =>
        obtain ⟨e, m⟩ := q
        obtain ⟨v1, v2, v3, v4, v5, v6⟩ := rdH_val (ltr (hI h 5) n) 5 (p + 1) 0 h e m hr
        have hele := rdR_le _ _ _ _ _ hr
        have hlt : nI p < rdA (some (e, m)) := by
          show nI p < nI e
          exact nI_lt (by omega) (by omega)
        have hs : ∀ j, j < m → smallV (vlF (ltr (hI h 5) n) (psF (ltr (hI h 5) n) (p + 1) j)) := fun j hj => vlF_small _ _ (v3 j hj)
        have kt := k_tell (ch := ltr (hI h 5) n p) (t := fun j => vlF (ltr (hI h 5) n) (psF (ltr (hI h 5) n) (p + 1) j)) T1.1 ha w I1 (m := m) (by rw [v1, Nat.zero_add]) ⟨v4, v5⟩ (fun j hj => by have := v2 j hj; rw [Nat.zero_add] at this; exact this)
        cases htl : tellF (ltr (hI h 5) n p) m (fun j => vlF (ltr (hI h 5) n) (psF (ltr (hI h 5) n) (p + 1) j)) D with
        | none =>
          rw [htl] at kt
          dsimp only at kt
          refine ⟨_, fr1, ?_, fun Q l2 => ?_⟩
          · simp [parseF, hpn, itemF, hr, htl]
          · rw [hgo Q l2, hr, if_pos hlt, kt]
            simp only [x69_0, x69_1, x69_4, x69_5, x69_6, x69_7, x69_9, x69_10, x69_13, x69_16, x69_17, x69_18, x69_19, x69_20, x69_23, x69_24, x69_25, x69_26, x69_29, x69_30, x69_31, x69_32, x69_35, x69_36, x69_39, x69_42, x69_43, x69_44, x69_45, x69_46, x69_49, x69_51, pv_some, pv_none, c1_int, c1_ref, c1_null, true_and, and_true, ne_eq, not_false_eq_true, not_true_eq_false, if_true, if_false, reduceCtorEq, Option.some.injEq, Value.int.injEq, absI_fold, minI_fold, maxI_fold, if_true, if_false, true_or, or_true, false_or, or_false, true_and, and_true, false_and, and_false, not_true_eq_false, not_false_eq_true, iff_self, ite_self, ne_eq, true_implies, implies_true, Bool.false_eq_true, decide_true, decide_false, Bool.or_true, Bool.or_false, Bool.true_or, Bool.false_or]
            simp [parseF, hpn, itemF, hr, htl, fltA]
        | some D' =>
          rw [htl] at kt
          dsimp only at kt
          obtain ⟨h2', fr2, I2, kt⟩ := kt
          have w2 := DW_tell w ⟨v4, v5⟩ hs htl
          have fr := fr1.trans fr2
          have T2 := fr.Tx ha T
          have L2 := fr.ltr ha
          obtain ⟨h3, fr3, I3, k3⟩ := ih e D' h2' T2 ha w2 I2 (by omega) (by omega)
          rw [L2] at I3 k3
          have ep : parseF (ltr (hI h 5) n) n (f + 1) p D = parseF (ltr (hI h 5) n) n f e D' := by
            simp [parseF, hpn, itemF, hr, htl]
          refine ⟨h3, fr.trans fr3, ?_, fun Q l2 => ?_⟩
          · rw [ep]; exact I3
          · rw [hgo Q l2, hr, if_pos hlt, kt]
            simp only [x69_0, x69_1, x69_4, x69_5, x69_6, x69_7, x69_9, x69_10, x69_13, x69_16, x69_17, x69_18, x69_19, x69_20, x69_23, x69_24, x69_25, x69_26, x69_29, x69_30, x69_31, x69_32, x69_35, x69_36, x69_39, x69_42, x69_43, x69_44, x69_45, x69_46, x69_49, x69_51, pv_some, pv_none, c1_int, c1_ref, c1_null, true_and, and_true, ne_eq, not_false_eq_true, not_true_eq_false, if_true, if_false, reduceCtorEq, Option.some.injEq, Value.int.injEq, absI_fold, minI_fold, maxI_fold, if_true, if_false, true_or, or_true, false_or, or_false, true_and, and_true, false_and, and_false, not_true_eq_false, not_false_eq_true, iff_self, ite_self, ne_eq, true_implies, implies_true, Bool.false_eq_true, decide_true, decide_false, Bool.or_true, Bool.or_false, Bool.true_or, Bool.false_or, one_ne]
            rw [ep]
            exact k3 Q _
    · refine ⟨h, Fr.refl h a, fun _ => ?_, fun Q l2 => ?_⟩
      · simp only [parseF, hpn, if_true, if_false, true_or, or_true, false_or, or_false, true_and, and_true, false_and, and_false, not_true_eq_false, not_false_eq_true, iff_self, ite_self, ne_eq, true_implies, implies_true, Bool.false_eq_true, decide_true, decide_false, Bool.or_true, Bool.or_false, Bool.true_or, Bool.false_or]; exact ⟨I, w⟩
      · rw [x69_8]
        simp only [x69_0, x69_1, x69_4, x69_5, x69_6, x69_7, x69_9, x69_10, x69_13, x69_16, x69_17, x69_18, x69_19, x69_20, x69_23, x69_24, x69_25, x69_26, x69_29, x69_30, x69_31, x69_32, x69_35, x69_36, x69_39, x69_42, x69_43, x69_44, x69_45, x69_46, x69_49, x69_51, pv_some, pv_none, c1_int, c1_ref, c1_null, true_and, and_true, ne_eq, not_false_eq_true, not_true_eq_false, if_true, if_false, reduceCtorEq, Option.some.injEq, Value.int.injEq, absI_fold, minI_fold, maxI_fold, tx_s T.1, T.2.1, nI_lt_iff (show p < 2 ^ 31 by omega) (show n < 2 ^ 31 by omega), hpn, if_true, if_false, true_or, or_true, false_or, or_false, true_and, and_true, false_and, and_false, not_true_eq_false, not_false_eq_true, iff_self, ite_self, ne_eq, true_implies, implies_true, Bool.false_eq_true, decide_true, decide_false, Bool.or_true, Bool.or_false, Bool.true_or, Bool.false_or, parseF, fltA]
theorem DW_0 : DW D0 := by
  refine ⟨by decide, ⟨6, rfl, by decide, by decide, by decide, fun i hi => ?_⟩, ⟨8, by decide, rfl⟩, ⟨7, by decide, rfl⟩, ⟨0, by decide, rfl⟩, Or.inl rfl, fun q => ?_, fun i hi => ?_, fun i j hi => ?_⟩
  · exact absurd hi (by show ¬ i < 0; omega)
  · exact absurd rfl q
  · exact absurd hi (by show ¬ i < 0; omega)
  · exact absurd hi (by show ¬ i < 0; omega)
/-- readInto: the fault, and the inn told -/
theorem k_readInto {h : aH} (T : TxAt h n) (ha : isInn a) : ∃ h', Fr h h' a ∧ ((parseF (ltr (hI h 5) n) n 201 0 D0).1 = none → ID h' a (parseF (ltr (hI h 5) n) n 201 0 D0).2 ∧ DW (parseF (ltr (hI h 5) n) n 201 0 D0).2) ∧ ∀ (Q : Option Value → aH → Prop), X 69 0 [.ref 4, .ref a, .null, .null] [] h Q ↔ Q (some (.int (fltA (parseF (ltr (hI h 5) n) n 201 0 D0).1))) h' := by
  have h2 := T.2.2
  have fr0 : Fr h (clrH h a) a := by
    unfold clrH
    exact ((((((Fr.refl h a).sI _ (Or.inr (Or.inr ⟨by omega, by omega⟩))).sI _ (Or.inr (Or.inr ⟨by omega, by omega⟩))).sI _ (Or.inr (Or.inr ⟨by omega, by omega⟩))).sI _ (Or.inr (Or.inr ⟨by omega, by omega⟩))).sI _ (Or.inr (Or.inr ⟨by omega, by omega⟩))).sI _ (Or.inr (Or.inr ⟨by omega, by omega⟩))
  have I0 : ID (clrH h a) a D0 := by
    refine ⟨?_, fun i hi => absurd hi (by show ¬ i < 0; omega)⟩
    unfold clrH
    simp only [hI_sI]
    simp [D0]
  have T0 := fr0.Tx ha T
  have L0 := fr0.ltr ha
  obtain ⟨h', fr, I', k'⟩ := k_parse 201 0 D0 (clrH h a) T0 ha DW_0 I0 (by omega) (by omega)
  rw [L0] at I' k'
  refine ⟨h', fr0.trans fr, I', fun Q => ?_⟩
  simp only [x69_0, x69_1, x69_4, x69_5, x69_6, x69_7, x69_9, x69_10, x69_13, x69_16, x69_17, x69_18, x69_19, x69_20, x69_23, x69_24, x69_25, x69_26, x69_29, x69_30, x69_31, x69_32, x69_35, x69_36, x69_39, x69_42, x69_43, x69_44, x69_45, x69_46, x69_49, x69_51, pv_some, pv_none, c1_int, c1_ref, c1_null, true_and, and_true, ne_eq, not_false_eq_true, not_true_eq_false, if_true, if_false, reduceCtorEq, Option.some.injEq, Value.int.injEq, absI_fold, minI_fold, maxI_fold, inn_s T.1 ha, k_innClear T.1 ha]
  exact k' Q _
end READ3
