/-! THE CLASS: ways by their numbers -/
/-- the bed that is the f-th free one, beds m from the end on -/
def frN (n t : Nat) : Nat → Nat → Nat
  | 0, _ => 0
  | m + 1, f => if t >>> (n - (m + 1)) &&& 1 = 0 then (if f = 0 then n - (m + 1) else frN n t m (f - 1)) else frN n t m f
/-- weight, rest, taken ahead of guest i -/
def spS (n T w : Nat) : Nat → Nat × Nat × Nat
  | 0 => (T, w, 0)
  | i + 1 => match spS n T w i with
    | (wt, r, t) => (wt / (n - i), r % (wt / (n - i)), t ||| 1 <<< frN n t n (r / (wt / (n - i))))
def wlN (n T w i : Nat) : Nat := match spS n T w i with
  | (wt, r, t) => frN n t n (r / (wt / (n - i)))
def okS (n T w i : Nat) : Bool := match spS n T w i with
  | (wt, r, t) => decide (n - i ≤ wt) && decide (wt ≤ 720) && decide (r ≤ 720) && decide (t < 64) && decide (1 ≤ wt / (n - i)) && decide (frN n t n (r / (wt / (n - i))) < n)
def cntL (L : Nat → Nat) (i : Nat) : Nat := foldN (fun j s => if L j < L i then s + 1 else s) 0 i
def numN (L : Nat → Nat) (n G : Nat) : Nat := foldN (fun i c => c * (n - i) + (L i - cntL L i)) 0 G
theorem bit64 : ∀ t, t < 64 → ∀ b, b < 6 → nI t >>> (nI b &&& 31) &&& 1 = nI (t >>> b &&& 1) ∧ nI t ||| 1 <<< (nI b &&& 31) = nI (t ||| 1 <<< b) := by decide +kernel
theorem nI_dec {a : Nat} (h : 1 ≤ a) : nI a + (-1) = nI (a - 1) := by
  rw [← nI_m1 h, Int32.sub_eq_add_neg]
theorem nI_z {a : Nat} (h : a < 2 ^ 31) : (nI a = 0) = (a = 0) := nI_eq_iff (b := 0) h (by decide)
section WAYS2
variable {h : aH} {a c G i j k z n nb : Nat} {Q : Option Value → aH → Prop} {x y b : Int32} {L : Nat → Nat}
/-- the ways stand for n beds and G guests -/
def WA (h : aH) (n G : Nat) : Prop := hI h 11 0 = nI n ∧ hI h 11 1 = nI G ∧ hI h 11 2 = nI (falN n G)
theorem k_freeBed (g : GS h) (hb : hI h 11 0 = nI n) (hn : n ≤ 6) {t f : Nat} (ht : t < 64) (hf : f < 2 ^ 31) : X 79 0 [.ref 11, .int (nI t), .int (nI f), .null, .null] [] h Q ↔ Q (some (.int (nI (frN n t n f)))) h := by
  have up : ∀ m, m ≤ n → ∀ f, f < 2 ^ 31 → ∀ x : Int32, (X 79 5 [.ref 11, .int (nI t), .int x, .int (nI f), .int (nI (n - m))] [] h Q ↔ Q (some (.int (nI (frN n t m f)))) h) := by
    intro m
    induction m with
    | zero =>
      intro _ f hf x
      rw [x79_5]
      simp only [x79_0, x79_1, x79_2, x79_3, x79_7, x79_8, x79_11, x79_14, x79_15, x79_17, x79_18, x79_19, x79_20, x79_23, x79_24, x79_27, x79_29, x79_30, x79_33, x79_36, x79_39, x79_40, pv_some, pv_none, c1_int, c1_ref, c1_null, true_and, and_true, ne_eq, not_false_eq_true, not_true_eq_false, if_true, if_false, reduceCtorEq, Option.some.injEq, Value.int.injEq, absI_fold, minI_fold, maxI_fold, cs11 g, hb, Nat.sub_zero, nI_lt_iff (show n < 2 ^ 31 by omega) (show n < 2 ^ 31 by omega), Nat.lt_irrefl, frN, if_true, if_false, true_or, or_true, false_or, or_false, true_and, and_true, false_and, and_false, not_true_eq_false, not_false_eq_true, iff_self, ite_self, ne_eq, true_implies, implies_true, Bool.false_eq_true, decide_true, decide_false, Bool.or_true, Bool.or_false, Bool.true_or, Bool.false_or]
      rfl
    | succ m ih =>
      intro hm f hf x
      have e1 := (bit64 t ht (n - (m + 1)) (by omega)).1
      have e2 : n - (m + 1) + 1 = n - m := by omega
      have hle : t >>> (n - (m + 1)) &&& 1 < 2 ^ 31 := Nat.lt_of_le_of_lt Nat.and_le_right (by decide)
      rw [x79_5]
      simp only [x79_0, x79_1, x79_2, x79_3, x79_7, x79_8, x79_11, x79_14, x79_15, x79_17, x79_18, x79_19, x79_20, x79_23, x79_24, x79_27, x79_29, x79_30, x79_33, x79_36, x79_39, x79_40, pv_some, pv_none, c1_int, c1_ref, c1_null, true_and, and_true, ne_eq, not_false_eq_true, not_true_eq_false, if_true, if_false, reduceCtorEq, Option.some.injEq, Value.int.injEq, absI_fold, minI_fold, maxI_fold, cs11 g, hb, nI_lt_iff (show n - (m + 1) < 2 ^ 31 by omega) (show n < 2 ^ 31 by omega), show n - (m + 1) < n by omega, e1, nI_z hle, nI_z hf, nI_add1, e2, if_true, if_false, true_or, or_true, false_or, or_false, true_and, and_true, false_and, and_false, not_true_eq_false, not_false_eq_true, iff_self, ite_self, ne_eq, true_implies, implies_true, Bool.false_eq_true, decide_true, decide_false, Bool.or_true, Bool.or_false, Bool.true_or, Bool.false_or]
      rw [frN]
      by_cases c1 : t >>> (n - (m + 1)) &&& 1 = 0
      · by_cases c2 : f = 0
        · simp only [c1, c2, if_true, if_false, true_or, or_true, false_or, or_false, true_and, and_true, false_and, and_false, not_true_eq_false, not_false_eq_true, iff_self, ite_self, ne_eq, true_implies, implies_true, Bool.false_eq_true, decide_true, decide_false, Bool.or_true, Bool.or_false, Bool.true_or, Bool.false_or]
        · simp only [c1, c2, nI_dec (show 1 ≤ f by omega), if_true, if_false, true_or, or_true, false_or, or_false, true_and, and_true, false_and, and_false, not_true_eq_false, not_false_eq_true, iff_self, ite_self, ne_eq, true_implies, implies_true, Bool.false_eq_true, decide_true, decide_false, Bool.or_true, Bool.or_false, Bool.true_or, Bool.false_or]
          exact ih (by omega) (f - 1) (by omega) _
      · simp only [c1, if_true, if_false, true_or, or_true, false_or, or_false, true_and, and_true, false_and, and_false, not_true_eq_false, not_false_eq_true, iff_self, ite_self, ne_eq, true_implies, implies_true, Bool.false_eq_true, decide_true, decide_false, Bool.or_true, Bool.or_false, Bool.true_or, Bool.false_or]
        exact ih (by omega) f hf _
  simp only [x79_0, x79_1, x79_2, x79_3, x79_7, x79_8, x79_11, x79_14, x79_15, x79_17, x79_18, x79_19, x79_20, x79_23, x79_24, x79_27, x79_29, x79_30, x79_33, x79_36, x79_39, x79_40, pv_some, pv_none, c1_int, c1_ref, c1_null, true_and, and_true, ne_eq, not_false_eq_true, not_true_eq_false, if_true, if_false, reduceCtorEq, Option.some.injEq, Value.int.injEq, absI_fold, minI_fold, maxI_fold, if_true, if_false, true_or, or_true, false_or, or_false, true_and, and_true, false_and, and_false, not_true_eq_false, not_false_eq_true, iff_self, ite_self, ne_eq, true_implies, implies_true, Bool.false_eq_true, decide_true, decide_false, Bool.or_true, Bool.or_false, Bool.true_or, Bool.false_or]
  have := up n (Nat.le_refl n) f hf (nI f)
  rw [Nat.sub_self] at this
  exact this
def sprH (h : aH) (c n T w k : Nat) : aH := wI h (fun b j => if b = c ∧ j < k then nI (wlN n T w j) else hI h b j)
theorem spr_s (h : aH) (c n T w k : Nat) : sI (sprH h c n T w k) c k (nI (wlN n T w k)) = sprH h c n T w (k + 1) := by
  refine (aH_ext (by simp only [hN_sI, hN_cpI, hN_wI, sprH]) (by simp only [hZ_sI, hZ_cpI, hZ_wI, sprH]) (by simp only [hS_sI, hS_cpI, hS_wI, sprH]) (by simp only [hR_sI, hR_cpI, hR_wI, sprH]) (fun b j => ?_))
  unfold sprH
  simp only [hI_sI, hI_wI]
  grind
theorem spr_at (h : aH) {w : Nat} {T : Nat} (hj : j < k) : hI (sprH h c n T w k) c j = nI (wlN n T w j) := by
  unfold sprH
  rw [hI_wI, if_pos ⟨rfl, hj⟩]
theorem spr_o (h : aH) {w : Nat} {T : Nat} {b : Nat} (hb : b ≠ c) : hI (sprH h c n T w k) b j = hI h b j := by
  unfold sprH
  rw [hI_wI, if_neg (fun q => hb q.1)]
theorem spr_hi (h : aH) {w : Nat} {T : Nat} {b : Nat} (hb : k ≤ j) : hI (sprH h c n T w k) b j = hI h b j := by
  unfold sprH
  rw [hI_wI, if_neg (by omega)]
theorem k_spread (g : GS h) (W : WA h n G) (hc : c = 16 ∨ c = 25) (hn : n ≤ 6) (hG : G ≤ 5) (hGn : G < n) {w : Nat} (hw : w < 2 ^ 31) (hok : ∀ i, i < G → okS n (falN n G) w i = true) : X 78 0 [.ref 11, .int (nI w), .ref c, .null, .null, .null, .null, .null] [] h Q ↔ Q none (sprH h c n (falN n G) w G) := by
  have sc : hS h c = (2, 5) := by rcases hc with rfl | rfl <;> exact g.1 _ (by decide) (by decide)
  have c11 : (11 : Nat) ≠ c := by rcases hc with rfl | rfl <;> decide
  generalize hT : falN n G = T at *
  have hTT : hI h 11 2 = nI T := hT ▸ W.2.2
  have up : ∀ k, k ≤ G → ∃ l7 : Value, c1 l7 = true ∧ (X 78 0 [.ref 11, .int (nI w), .ref c, .null, .null, .null, .null, .null] [] h Q ↔ X 78 14 [.ref 11, .int (nI w), .ref c, .int (nI (spS n T w k).1), .int (nI (spS n T w k).2.1), .int (nI (spS n T w k).2.2), .int (nI k), l7] [] (sprH h c n T w k) Q) := by
    intro k
    induction k with
    | zero =>
      intro _
      refine ⟨.null, rfl, ?_⟩
      have e0 : sprH h c n T w 0 = h := aH_ext rfl rfl rfl rfl (fun b j => by unfold sprH; rw [hI_wI, if_neg (by omega)])
      simp only [x78_0, x78_1, x78_4, x78_5, x78_6, x78_8, x78_9, x78_11, x78_12, x78_16, x78_17, x78_20, x78_23, x78_25, x78_26, x78_27, x78_30, x78_31, x78_34, x78_36, x78_37, x78_39, x78_41, x78_42, x78_45, x78_46, x78_48, x78_51, x78_52, x78_53, x78_55, x78_56, x78_57, x78_58, x78_60, x78_61, x78_63, x78_65, x78_66, x78_67, x78_70, x78_71, x78_73, x78_74, x78_75, x78_77, x78_78, x78_79, x78_80, x78_82, x78_84, x78_85, x78_86, x78_88, x78_91, x78_94, pv_some, pv_none, c1_int, c1_ref, c1_null, true_and, and_true, ne_eq, not_false_eq_true, not_true_eq_false, if_true, if_false, reduceCtorEq, Option.some.injEq, Value.int.injEq, absI_fold, minI_fold, maxI_fold, cs11 g, hTT, if_true, if_false, true_or, or_true, false_or, or_false, true_and, and_true, false_and, and_false, not_true_eq_false, not_false_eq_true, iff_self, ite_self, ne_eq, true_implies, implies_true, Bool.false_eq_true, decide_true, decide_false, Bool.or_true, Bool.or_false, Bool.true_or, Bool.false_or, e0]
      rfl
    | succ k ih =>
      intro hk
      obtain ⟨l7, hl7, ih⟩ := ih (by omega)
      have o := hok k (by omega)
      refine ⟨.int (nI (n - k)), rfl, ih.trans ?_⟩
      have ew : wlN n T w k = frN n (spS n T w k).2.2 n ((spS n T w k).2.1 / ((spS n T w k).1 / (n - k))) := rfl
      have es : spS n T w (k + 1) = ((spS n T w k).1 / (n - k), (spS n T w k).2.1 % ((spS n T w k).1 / (n - k)), (spS n T w k).2.2 ||| 1 <<< wlN n T w k) := rfl
      have o2 : okS n T w k = (decide (n - k ≤ (spS n T w k).1) && decide ((spS n T w k).1 ≤ 720) && decide ((spS n T w k).2.1 ≤ 720) && decide ((spS n T w k).2.2 < 64) && decide (1 ≤ (spS n T w k).1 / (n - k)) && decide (wlN n T w k < n)) := rfl
      rw [o2] at o
      rw [es]
      simp only [Bool.and_eq_true, decide_eq_true_eq] at o
      have gk : GS (sprH h c n T w k) := g
      have b0 : hI (sprH h c n T w k) 11 0 = nI n := by rw [spr_o h c11]; exact W.1
      have b1 : hI (sprH h c n T w k) 11 1 = nI G := by rw [spr_o h c11]; exact W.2.1
      have sck : hS (sprH h c n T w k) c = (2, 5) := sc
      have sck1 : hS (sprH h c n T w (k + 1)) c = (2, 5) := sc
      have ek : hI (sprH h c n T w (k + 1)) c k = nI (wlN n T w k) := spr_at h (Nat.lt_succ_self k)
      generalize (spS n T w k).1 = wt at *
      generalize (spS n T w k).2.1 = r at *
      generalize (spS n T w k).2.2 = t at *
      obtain ⟨⟨⟨⟨⟨o1, o2⟩, o3⟩, o4⟩, o5⟩, o6⟩ := o
      have d1 : nI wt / nI (n - k) = nI (wt / (n - k)) := nI_div (by omega) (by omega)
      have wl : wt / (n - k) ≤ 720 := Nat.le_trans (Nat.div_le_self _ _) o2
      have rl : r / (wt / (n - k)) ≤ 720 := Nat.le_trans (Nat.div_le_self _ _) o3
      have d2 : nI r / nI (wt / (n - k)) = nI (r / (wt / (n - k))) := nI_div (by omega) (by omega)
      have d3 : nI r - nI r / nI (wt / (n - k)) * nI (wt / (n - k)) = nI (r % (wt / (n - k))) := nI_mod (by omega) (by omega)
      have d4 := (bit64 t o4 (wlN n T w k) (by omega)).2
      have kf := fun Q : Option Value → aH → Prop => k_freeBed (Q := Q) (f := r / (wt / (n - k))) gk b0 hn o4 (by omega)
      rw [← ew] at kf
      have l1 : (nI (n - k) < 1) = False := eq_false (fun q => by
        have := lit_le (b := 1) (show n - k < 2 ^ 31 by omega) (by decide) q
        omega)
      have l2 : (nI wt < nI (n - k)) = False := by rw [nI_lt_iff (by omega) (by omega)]; exact eq_false (by omega)
      rw [x78_14]
      simp only [x78_0, x78_1, x78_4, x78_5, x78_6, x78_8, x78_9, x78_11, x78_12, x78_16, x78_17, x78_20, x78_23, x78_25, x78_26, x78_27, x78_30, x78_31, x78_34, x78_36, x78_37, x78_39, x78_41, x78_42, x78_45, x78_46, x78_48, x78_51, x78_52, x78_53, x78_55, x78_56, x78_57, x78_58, x78_60, x78_61, x78_63, x78_65, x78_66, x78_67, x78_70, x78_71, x78_73, x78_74, x78_75, x78_77, x78_78, x78_79, x78_80, x78_82, x78_84, x78_85, x78_86, x78_88, x78_91, x78_94, pv_some, pv_none, c1_int, c1_ref, c1_null, true_and, and_true, ne_eq, not_false_eq_true, not_true_eq_false, if_true, if_false, reduceCtorEq, Option.some.injEq, Value.int.injEq, absI_fold, minI_fold, maxI_fold, cs11 gk, b0, b1, sck, nI_lt_iff (show k < 2 ^ 31 by omega) (show G < 2 ^ 31 by omega), show k < G by omega, ofNat_nI, nI_lt_iff (show k < 2 ^ 31 by omega) (show 5 < 2 ^ 31 by decide), show k < 5 by omega, nI_sub (show k ≤ n by omega), l1, l2, d1, nI_z (show n - k < 2 ^ 31 by omega), show ¬ n - k = 0 by omega, nI_z (show wt / (n - k) < 2 ^ 31 by omega), show ¬ wt / (n - k) = 0 by omega, d2, kf, ibwn (show k < 5 by omega) (by decide), nI_cl (show k < 2 ^ 31 by omega), spr_s, sck1, ibn (show k < 5 by omega) (by decide), ek, d4, nI_add1, hl7, if_true, if_false, true_or, or_true, false_or, or_false, true_and, and_true, false_and, and_false, not_true_eq_false, not_false_eq_true, iff_self, ite_self, ne_eq, true_implies, implies_true, Bool.false_eq_true, decide_true, decide_false, Bool.or_true, Bool.or_false, Bool.true_or, Bool.false_or]
      have d3' := d3
      rw [d2] at d3'
      simp only [d3', if_true, if_false, true_or, or_true, false_or, or_false, true_and, and_true, false_and, and_false, not_true_eq_false, not_false_eq_true, iff_self, ite_self, ne_eq, true_implies, implies_true, Bool.false_eq_true, decide_true, decide_false, Bool.or_true, Bool.or_false, Bool.true_or, Bool.false_or]
  obtain ⟨l7, hl7, e⟩ := up G (Nat.le_refl G)
  rw [e]
  have gk : GS (sprH h c n T w G) := g
  have b1 : hI (sprH h c n T w G) 11 1 = nI G := by rw [spr_o h c11]; exact W.2.1
  rw [x78_14]
  simp only [x78_0, x78_1, x78_4, x78_5, x78_6, x78_8, x78_9, x78_11, x78_12, x78_16, x78_17, x78_20, x78_23, x78_25, x78_26, x78_27, x78_30, x78_31, x78_34, x78_36, x78_37, x78_39, x78_41, x78_42, x78_45, x78_46, x78_48, x78_51, x78_52, x78_53, x78_55, x78_56, x78_57, x78_58, x78_60, x78_61, x78_63, x78_65, x78_66, x78_67, x78_70, x78_71, x78_73, x78_74, x78_75, x78_77, x78_78, x78_79, x78_80, x78_82, x78_84, x78_85, x78_86, x78_88, x78_91, x78_94, pv_some, pv_none, c1_int, c1_ref, c1_null, true_and, and_true, ne_eq, not_false_eq_true, not_true_eq_false, if_true, if_false, reduceCtorEq, Option.some.injEq, Value.int.injEq, absI_fold, minI_fold, maxI_fold, cs11 gk, b1, nI_lt_iff (show G < 2 ^ 31 by omega) (show G < 2 ^ 31 by omega), Nat.lt_irrefl, if_true, if_false, true_or, or_true, false_or, or_false, true_and, and_true, false_and, and_false, not_true_eq_false, not_false_eq_true, iff_self, ite_self, ne_eq, true_implies, implies_true, Bool.false_eq_true, decide_true, decide_false, Bool.or_true, Bool.or_false, Bool.true_or, Bool.false_or]
end WAYS2
