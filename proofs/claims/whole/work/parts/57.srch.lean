/-! THE CLASS: the search: reach, sleepers -/
def dsV (o : Option Nat) : Int32 := match o with
  | none => -4
  | some d => nI d
def SR (h : aH) (s : St) : Prop := (∀ w, w < 720 → hI h 13 w = dsV (s.1 w)) ∧ hI h 12 2 = nI s.2.length ∧ ∀ k w, s.2[k]? = some w → hI h 14 k = nI w
def WfD (T : Nat) (s : St) : Prop := WfS T s ∧ ∀ w d, s.1 w = some d → d < s.2.length
def updL (L : Nat → Nat) (i b : Nat) : Nat → Nat := fun j => if j = i then b else L j
def slF (L : Nat → Nat) (Lt : Nat → Int32) (po : Int32) (m b : Nat) : Int32 := foldN (fun j v => if L j = b then (if po < Lt j then 1 else 2) else v) 0 m
section SRCH
variable {h h1 : aH} {a c G i j k z n w d T : Nat} {Q : Option Value → aH → Prop} {x y b : Int32} {L : Nat → Nat} {s : St} {Lt : Nat → Int32} {po : Int32}
theorem ss12 (g : GS h) : hS h 12 = (1, 3) := g.1 _ (by decide) (by decide)
theorem sr0 (g : GS h) : hR h 12 0 = 13 := g.2.1 _ _ (by decide) (by decide)
theorem sr1 (g : GS h) : hR h 12 1 = 14 := g.2.1 _ _ (by decide) (by decide)
theorem sr3 (g : GS h) : hR h 12 3 = 15 := g.2.1 _ _ (by decide) (by decide)
theorem sr4 (g : GS h) : hR h 12 4 = 17 := g.2.1 _ _ (by decide) (by decide)
theorem ss13 (g : GS h) : hS h 13 = (2, 720) := g.1 _ (by decide) (by decide)
theorem ss14 (g : GS h) : hS h 14 = (2, 720) := g.1 _ (by decide) (by decide)
theorem ss15 (g : GS h) : hS h 15 = (1, 1) := g.1 _ (by decide) (by decide)
theorem ss16 (g : GS h) : hS h 16 = (2, 5) := g.1 _ (by decide) (by decide)
theorem ss17 (g : GS h) : hS h 17 = (2, 6) := g.1 _ (by decide) (by decide)
theorem sr15 (g : GS h) : hR h 15 0 = 16 := g.2.1 _ _ (by decide) (by decide)
theorem l15 : isLie 15 := Or.inl rfl
def fillH (h : aH) (c k : Nat) (x : Int32) : aH := wI h (fun b j => if b = c ∧ j < k then x else hI h b j)
theorem k_fill (sc : hS h c = (2, n)) (hn : n < 2 ^ 31) : X 180 0 [.ref c, .int x, .null, .null] [] h Q ↔ Q none (fillH h c n x) := by
  have up : ∀ k, k ≤ n → (X 180 0 [.ref c, .int x, .null, .null] [] h Q ↔ X 180 5 [.ref c, .int x, .int (nI k), .int (nI n)] [] (fillH h c k x) Q) := by
    intro k
    induction k with
    | zero =>
      intro _
      have e0 : fillH h c 0 x = h := aH_ext rfl rfl rfl rfl (fun b j => by unfold fillH; rw [hI_wI, if_neg (by omega)])
      simp only [x180_0, x180_1, x180_2, x180_3, x180_4, x180_6, x180_7, x180_10, x180_11, x180_12, x180_13, x180_14, x180_17, x180_20, pv_some, pv_none, c1_int, c1_ref, c1_null, true_and, and_true, ne_eq, not_false_eq_true, not_true_eq_false, if_true, if_false, reduceCtorEq, Option.some.injEq, Value.int.injEq, absI_fold, minI_fold, maxI_fold, sc, ofNat_nI, e0, if_true, if_false, true_or, or_true, false_or, or_false, true_and, and_true, false_and, and_false, not_true_eq_false, not_false_eq_true, iff_self, ite_self, ne_eq, true_implies, implies_true, Bool.false_eq_true, decide_true, decide_false, Bool.or_true, Bool.or_false, Bool.true_or, Bool.false_or]
      rfl
    | succ k ih =>
      intro hk
      have sk : hS (fillH h c k x) c = (2, n) := sc
      have es : sI (fillH h c k x) c k x = fillH h c (k + 1) x := by
        refine (aH_ext (by simp only [hN_sI, hN_cpI, hN_wI, fillH]) (by simp only [hZ_sI, hZ_cpI, hZ_wI, fillH]) (by simp only [hS_sI, hS_cpI, hS_wI, fillH]) (by simp only [hR_sI, hR_cpI, hR_wI, fillH]) (fun b j => ?_))
        unfold fillH
        simp only [hI_sI, hI_wI]
        grind
      rw [ih (by omega), x180_5]
      simp only [x180_0, x180_1, x180_2, x180_3, x180_4, x180_6, x180_7, x180_10, x180_11, x180_12, x180_13, x180_14, x180_17, x180_20, pv_some, pv_none, c1_int, c1_ref, c1_null, true_and, and_true, ne_eq, not_false_eq_true, not_true_eq_false, if_true, if_false, reduceCtorEq, Option.some.injEq, Value.int.injEq, absI_fold, minI_fold, maxI_fold, sk, nI_lt_iff (show k < 2 ^ 31 by omega) hn, show k < n by omega, ibwn (show k < n by omega) hn, nI_cl (show k < 2 ^ 31 by omega), es, nI_add1, if_true, if_false, true_or, or_true, false_or, or_false, true_and, and_true, false_and, and_false, not_true_eq_false, not_false_eq_true, iff_self, ite_self, ne_eq, true_implies, implies_true, Bool.false_eq_true, decide_true, decide_false, Bool.or_true, Bool.or_false, Bool.true_or, Bool.false_or]
  rw [up n (Nat.le_refl n), x180_5]
  simp only [x180_0, x180_1, x180_2, x180_3, x180_4, x180_6, x180_7, x180_10, x180_11, x180_12, x180_13, x180_14, x180_17, x180_20, pv_some, pv_none, c1_int, c1_ref, c1_null, true_and, and_true, ne_eq, not_false_eq_true, not_true_eq_false, if_true, if_false, reduceCtorEq, Option.some.injEq, Value.int.injEq, absI_fold, minI_fold, maxI_fold, nI_lt_iff hn hn, Nat.lt_irrefl, if_true, if_false, true_or, or_true, false_or, or_false, true_and, and_true, false_and, and_false, not_true_eq_false, not_false_eq_true, iff_self, ite_self, ne_eq, true_implies, implies_true, Bool.false_eq_true, decide_true, decide_false, Bool.or_true, Bool.or_false, Bool.true_or, Bool.false_or]
theorem WfD.rch (wf : WfD T s) (hw : w < T) (hd : d ≤ s.2.length) : WfD T (rchS w d s) := by
  refine ⟨wf.1.rch hw, fun v e he => ?_⟩
  unfold rchS at *
  by_cases c : s.1 w = none
  · rw [if_pos c] at he ⊢
    rw [show ((fun v => if v = w then some d else s.1 v, s.2 ++ [w]) : St).2.length = s.2.length + 1 from by simp]
    by_cases e2 : v = w
    · have : some d = some e := by rw [← he]; exact (if_pos e2).symm
      cases this
      omega
    · have : s.1 v = some e := by rw [← he]; exact (if_neg e2).symm
      have := wf.2 v e this
      omega
  · rw [if_neg c] at he ⊢
    exact wf.2 v e he
theorem rch_len (w d : Nat) (s : St) : s.2.length ≤ (rchS w d s).2.length := by
  unfold rchS
  split
  · rw [List.length_append]; omega
  · exact Nat.le_refl _
def rchH (h : aH) (s : St) (w d : Nat) : aH := if s.1 w = none then sI (sI (sI h 13 w (nI d)) 14 s.2.length (nI w)) 12 2 (nI (s.2.length + 1)) else h
theorem k_reach (g : GS h) (R : SR h s) (wf : WfD T s) (hT : T ≤ 720) (hw : w < T) : X 55 0 [.ref 12, .int (nI w), .int (nI d)] [] h Q ↔ Q none (rchH h s w d) := by
  have e13 := R.1 w (by omega)
  have wn : (nI w < 0) = False := nI_neg (by omega)
  have w7 : (nI w < 720) = True := eq_true (nI_lt (b := 720) (by omega) (by decide))
  have i7 : ib (nI w) (2, 720) = True := ibn (by omega) (by decide)
  have iw7 : ibw (nI w) (2, 720) = True := ibwn (by omega) (by decide)
  have cw : (nI w).toNatClampNeg = w := nI_cl (by omega)
  have le := wf.1.le
  unfold rchH
  by_cases c : s.1 w = none
  · have lt := wf.1.lt hw c
    rw [c] at e13
    have l7 : (nI s.2.length < 720) = True := eq_true (nI_lt (b := 720) (by omega) (by decide))
    have q7 : ibw (nI s.2.length) (2, 720) = True := ibwn (by omega) (by decide)
    have cq : (nI s.2.length).toNatClampNeg = s.2.length := nI_cl (by omega)
    have e12 : hI (sI h 13 w (nI d)) 12 2 = nI s.2.length := by rw [hI_sI, if_neg (by omega)]; exact R.2.1
    have e12' : hI (sI (sI h 13 w (nI d)) 14 s.2.length (nI w)) 12 2 = nI s.2.length := by rw [hI_sI, if_neg (by omega)]; exact e12
    simp only [x55_0, x55_1, x55_4, x55_5, x55_8, x55_11, x55_12, x55_15, x55_18, x55_21, x55_22, x55_23, x55_26, x55_27, x55_28, x55_30, x55_33, x55_34, x55_37, x55_38, x55_39, x55_40, x55_41, x55_44, x55_45, x55_48, x55_49, x55_50, x55_51, x55_52, x55_55, x55_56, x55_57, x55_60, pv_some, pv_none, c1_int, c1_ref, c1_null, true_and, and_true, ne_eq, not_false_eq_true, not_true_eq_false, if_true, if_false, reduceCtorEq, Option.some.injEq, Value.int.injEq, absI_fold, minI_fold, maxI_fold, wn, w7, ss12 g, sr0 g, sr1 g, ss13 g, ss14 g, m_nz, hS_sI, hR_sI, R.2.1, l7, i7, iw7, cw, e13, dsV, e12, e12', q7, cq, nI_add1, c, if_true, if_false, true_or, or_true, false_or, or_false, true_and, and_true, false_and, and_false, not_true_eq_false, not_false_eq_true, iff_self, ite_self, ne_eq, true_implies, implies_true, Bool.false_eq_true, decide_true, decide_false, Bool.or_true, Bool.or_false, Bool.true_or, Bool.false_or]
  · obtain ⟨e, he⟩ : ∃ e, s.1 w = some e := by
      cases hs : s.1 w with
      | none => exact absurd hs c
      | some e => exact ⟨e, rfl⟩
    have el := wf.2 w e he
    rw [he] at e13
    have n4 : (nI e = -4) = False := eq_false (fun q => nI_pos (show e < 2 ^ 31 by omega) (q ▸ by decide))
    by_cases l7 : nI s.2.length < 720
    · simp only [x55_0, x55_1, x55_4, x55_5, x55_8, x55_11, x55_12, x55_15, x55_18, x55_21, x55_22, x55_23, x55_26, x55_27, x55_28, x55_30, x55_33, x55_34, x55_37, x55_38, x55_39, x55_40, x55_41, x55_44, x55_45, x55_48, x55_49, x55_50, x55_51, x55_52, x55_55, x55_56, x55_57, x55_60, pv_some, pv_none, c1_int, c1_ref, c1_null, true_and, and_true, ne_eq, not_false_eq_true, not_true_eq_false, if_true, if_false, reduceCtorEq, Option.some.injEq, Value.int.injEq, absI_fold, minI_fold, maxI_fold, wn, w7, ss12 g, sr0 g, ss13 g, m_nz, R.2.1, l7, i7, cw, e13, dsV, n4, he, if_true, if_false, true_or, or_true, false_or, or_false, true_and, and_true, false_and, and_false, not_true_eq_false, not_false_eq_true, iff_self, ite_self, ne_eq, true_implies, implies_true, Bool.false_eq_true, decide_true, decide_false, Bool.or_true, Bool.or_false, Bool.true_or, Bool.false_or]
    · simp only [x55_0, x55_1, x55_4, x55_5, x55_8, x55_11, x55_12, x55_15, x55_18, x55_21, x55_22, x55_23, x55_26, x55_27, x55_28, x55_30, x55_33, x55_34, x55_37, x55_38, x55_39, x55_40, x55_41, x55_44, x55_45, x55_48, x55_49, x55_50, x55_51, x55_52, x55_55, x55_56, x55_57, x55_60, pv_some, pv_none, c1_int, c1_ref, c1_null, true_and, and_true, ne_eq, not_false_eq_true, not_true_eq_false, if_true, if_false, reduceCtorEq, Option.some.injEq, Value.int.injEq, absI_fold, minI_fold, maxI_fold, wn, w7, ss12 g, R.2.1, l7, he, if_true, if_false, true_or, or_true, false_or, or_false, true_and, and_true, false_and, and_false, not_true_eq_false, not_false_eq_true, iff_self, ite_self, ne_eq, true_implies, implies_true, Bool.false_eq_true, decide_true, decide_false, Bool.or_true, Bool.or_false, Bool.true_or, Bool.false_or]
theorem SR.rch (R : SR h s) (wf : WfD T s) (hT : T ≤ 720) (hw : w < T) : SR (rchH h s w d) (rchS w d s) := by
  unfold rchH rchS
  by_cases c : s.1 w = none
  · rw [if_pos c, if_pos c]
    have lt := wf.1.lt hw c
    refine ⟨fun v hv => ?_, ?_, fun k v e => ?_⟩
    · rw [hI_sI, if_neg (by omega), hI_sI, if_neg (by omega), hI_sI]
      by_cases q : v = w
      · rw [if_pos ⟨rfl, q⟩]
        show nI d = dsV (if v = w then some d else s.1 v)
        rw [if_pos q]
        rfl
      · rw [if_neg (fun z => q z.2), R.1 v hv]
        show dsV (s.1 v) = dsV (if v = w then some d else s.1 v)
        rw [if_neg q]
    · rw [hI_sI, if_pos ⟨rfl, rfl⟩, List.length_append]
      rfl
    · rw [hI_sI, if_neg (by omega), hI_sI]
      have e' : (s.2 ++ [w])[k]? = some v := e
      by_cases q : k = s.2.length
      · rw [if_pos ⟨rfl, q⟩]
        rw [q, List.getElem?_append_right (Nat.le_refl _), Nat.sub_self] at e'
        cases e'
        rfl
      · rw [if_neg (fun z => q z.2), hI_sI, if_neg (by omega)]
        have kl := (List.getElem?_eq_some_iff.mp e').1
        rw [List.length_append] at kl
        have : k < s.2.length := by
          have : [w].length = 1 := rfl
          omega
        rw [List.getElem?_append_left this] at e'
        exact R.2.2 k v e'
  · rw [if_neg c, if_neg c]
    exact R
theorem SR.congr (R : SR h s) (e : ∀ b j, 12 ≤ b → b ≤ 14 → hI h1 b j = hI h b j) : SR h1 s := ⟨fun w hw => by rw [e 13 w (by decide) (by decide)]; exact R.1 w hw, by rw [e 12 2 (by decide) (by decide)]; exact R.2.1, fun k w q => by rw [e 14 k (by decide) (by decide)]; exact R.2.2 k w q⟩
theorem rch_o {b j : Nat} (hb : ¬ (12 ≤ b ∧ b ≤ 14)) : hI (rchH h s w d) b j = hI h b j := by
  unfold rchH
  split
  · rw [hI_sI, if_neg (by omega), hI_sI, if_neg (by omega), hI_sI, if_neg (by omega)]
  · rfl
theorem rch_CF (x : CF h h1) : CF h (rchH h1 s w d) := by
  unfold rchH
  split
  · exact ((x.sI _ (Or.inl ⟨by decide, by decide⟩)).sI _ (Or.inl ⟨by decide, by decide⟩)).sI _ (Or.inl ⟨by decide, by decide⟩)
  · exact x
def nsK (h : aH) (L : Nat → Nat) (Lt : Nat → Int32) (po : Int32) (k : Nat) : aH := wI h (fun b j => if b = 17 ∧ j < 6 then slF L Lt po k j else hI h b j)
theorem k_noteSleepers (I : CI h a G) (hL : ∀ i, i < G → hI h 16 i = nI (L i) ∧ L i < 6) : X 57 0 [.ref 12, .ref a, .null, .null] [] h Q ↔ Q none (nsK h L (hI h (a + 4)) (hI h a 8) G) := by
  have g := I.1.1
  have h5 := I.1.2.2.2
  have ha : ∀ c, c ≤ 5 → a + c ≠ 17 := fun c hc => by rcases I.2.2 with rfl | rfl <;> omega
  have up : ∀ k, k ≤ G → ∃ l3 : Value, c1 l3 = true ∧ (X 57 0 [.ref 12, .ref a, .null, .null] [] h Q ↔ X 57 10 [.ref 12, .ref a, .int (nI k), l3] [] (nsK h L (hI h (a + 4)) (hI h a 8) k) Q) := by
    intro k
    induction k with
    | zero =>
      intro _
      refine ⟨.null, rfl, ?_⟩
      have e0 : fillH h 17 6 0 = nsK h L (hI h (a + 4)) (hI h a 8) 0 := rfl
      simp only [x57_0, x57_1, x57_4, x57_5, x57_8, x57_9, x57_11, x57_12, x57_15, x57_18, x57_19, x57_22, x57_23, x57_26, x57_27, x57_28, x57_31, x57_32, x57_34, x57_37, x57_38, x57_41, x57_42, x57_43, x57_44, x57_47, x57_50, x57_51, x57_54, x57_55, x57_56, x57_59, x57_62, pv_some, pv_none, c1_int, c1_ref, c1_null, true_and, and_true, ne_eq, not_false_eq_true, not_true_eq_false, if_true, if_false, reduceCtorEq, Option.some.injEq, Value.int.injEq, absI_fold, minI_fold, maxI_fold, ss12 g, sr4 g, m_nz, k_fill (ss17 g) (by decide), e0, if_true, if_false, true_or, or_true, false_or, or_false, true_and, and_true, false_and, and_false, not_true_eq_false, not_false_eq_true, iff_self, ite_self, ne_eq, true_implies, implies_true, Bool.false_eq_true, decide_true, decide_false, Bool.or_true, Bool.or_false, Bool.true_or, Bool.false_or]
      rfl
    | succ k ih =>
      intro hk
      obtain ⟨l3, hl3, ih⟩ := ih (by omega)
      obtain ⟨lk, lk6⟩ := hL k (by omega)
      have gk : GS (nsK h L (hI h (a + 4)) (hI h a 8) k) := g
      have o : ∀ b j, b ≠ 17 → hI (nsK h L (hI h (a + 4)) (hI h a 8) k) b j = hI h b j := fun b j q => by unfold nsK; rw [hI_wI, if_neg (fun z => q z.1)]
      have Ik : InnAt (nsK h L (hI h (a + 4)) (hI h a 8) k) a G := ⟨gk, I.1.2.1, by rw [o a 5 (ha 0 (by decide))]; exact I.1.2.2.1, h5⟩
      have ek : hI (nsK h L (hI h (a + 4)) (hI h a 8) k) (15 + 1) k = nI (L k) := by rw [o 16 k (by decide)]; exact lk
      have e8 : hI (nsK h L (hI h (a + 4)) (hI h a 8) k) a 8 = hI h a 8 := o a 8 (ha 0 (by decide))
      have e4 : hI (nsK h L (hI h (a + 4)) (hI h a 8) k) (a + 4) k = hI h (a + 4) k := o (a + 4) k (ha 4 (by decide))
      have es : sI (nsK h L (hI h (a + 4)) (hI h a 8) k) 17 (L k) (if hI h a 8 < hI h (a + 4) k then 1 else 2) = nsK h L (hI h (a + 4)) (hI h a 8) (k + 1) := by
        refine (aH_ext (by simp only [hN_sI, hN_cpI, hN_wI, nsK]) (by simp only [hZ_sI, hZ_cpI, hZ_wI, nsK]) (by simp only [hS_sI, hS_cpI, hS_wI, nsK]) (by simp only [hR_sI, hR_cpI, hR_wI, nsK]) (fun b j => ?_))
        unfold nsK
        simp only [hI_sI, hI_wI]
        have ef : slF L (hI h (a + 4)) (hI h a 8) (k + 1) j = if L k = j then (if hI h a 8 < hI h (a + 4) k then 1 else 2) else slF L (hI h (a + 4)) (hI h a 8) k j := rfl
        by_cases q : b = 17 ∧ j < 6
        · rw [if_pos q, if_pos q, ef]
          by_cases q2 : j = L k
          · rw [if_pos ⟨q.1, q2⟩, if_pos q2.symm]
          · rw [if_neg (fun z => q2 z.2), if_neg (fun z => q2 z.symm)]
        · rw [if_neg q, if_neg q, if_neg (fun z => q ⟨z.1, by rw [z.2]; exact lk6⟩)]
      refine ⟨.int (nI (L k)), rfl, ih.trans ?_⟩
      rw [x57_10]
      have l6 : (nI (L k) < 6) = True := eq_true (nI_lt (b := 6) lk6 (by decide))
      simp only [x57_0, x57_1, x57_4, x57_5, x57_8, x57_9, x57_11, x57_12, x57_15, x57_18, x57_19, x57_22, x57_23, x57_26, x57_27, x57_28, x57_31, x57_32, x57_34, x57_37, x57_38, x57_41, x57_42, x57_43, x57_44, x57_47, x57_50, x57_51, x57_54, x57_55, x57_56, x57_59, x57_62, pv_some, pv_none, c1_int, c1_ref, c1_null, true_and, and_true, ne_eq, not_false_eq_true, not_true_eq_false, if_true, if_false, reduceCtorEq, Option.some.injEq, Value.int.injEq, absI_fold, minI_fold, maxI_fold, ss12 gk, sr3 gk, sr4 gk, ss15 gk, ss17 gk, m_nz, inn_s gk I.1.2.1, k_guests gk I.1.2.1, Ik.2.2.1, nI_lt_iff (show k < 2 ^ 31 by omega) (show G < 2 ^ 31 by omega), show k < G by omega, k_placeOf gk l15 (show k < 5 by omega), ek, nI_neg (show L k < 2 ^ 31 by omega), l6, k_isRoused Ik (show k < G by omega), e8, e4, bi_zero, ibwn (show L k < 6 by omega) (by decide), nI_cl (show L k < 2 ^ 31 by omega), hl3, nI_add1, if_true, if_false, true_or, or_true, false_or, or_false, true_and, and_true, false_and, and_false, not_true_eq_false, not_false_eq_true, iff_self, ite_self, ne_eq, true_implies, implies_true, Bool.false_eq_true, decide_true, decide_false, Bool.or_true, Bool.or_false, Bool.true_or, Bool.false_or]
      by_cases q : hI h a 8 < hI h (a + 4) k
      · rw [if_pos q] at es
        simp only [q, es, if_true, if_false, true_or, or_true, false_or, or_false, true_and, and_true, false_and, and_false, not_true_eq_false, not_false_eq_true, iff_self, ite_self, ne_eq, true_implies, implies_true, Bool.false_eq_true, decide_true, decide_false, Bool.or_true, Bool.or_false, Bool.true_or, Bool.false_or]
      · rw [if_neg q] at es
        simp only [q, es, if_true, if_false, true_or, or_true, false_or, or_false, true_and, and_true, false_and, and_false, not_true_eq_false, not_false_eq_true, iff_self, ite_self, ne_eq, true_implies, implies_true, Bool.false_eq_true, decide_true, decide_false, Bool.or_true, Bool.or_false, Bool.true_or, Bool.false_or]
  obtain ⟨l3, hl3, e⟩ := up G (Nat.le_refl G)
  have gk : GS (nsK h L (hI h (a + 4)) (hI h a 8) G) := g
  have e5 : hI (nsK h L (hI h (a + 4)) (hI h a 8) G) a 5 = nI G := by
    unfold nsK
    rw [hI_wI, if_neg (fun z => ha 0 (by decide) z.1)]
    exact I.1.2.2.1
  rw [e, x57_10]
  simp only [x57_0, x57_1, x57_4, x57_5, x57_8, x57_9, x57_11, x57_12, x57_15, x57_18, x57_19, x57_22, x57_23, x57_26, x57_27, x57_28, x57_31, x57_32, x57_34, x57_37, x57_38, x57_41, x57_42, x57_43, x57_44, x57_47, x57_50, x57_51, x57_54, x57_55, x57_56, x57_59, x57_62, pv_some, pv_none, c1_int, c1_ref, c1_null, true_and, and_true, ne_eq, not_false_eq_true, not_true_eq_false, if_true, if_false, reduceCtorEq, Option.some.injEq, Value.int.injEq, absI_fold, minI_fold, maxI_fold, inn_s gk I.1.2.1, k_guests gk I.1.2.1, e5, nI_lt_iff (show G < 2 ^ 31 by omega) (show G < 2 ^ 31 by omega), Nat.lt_irrefl, if_true, if_false, true_or, or_true, false_or, or_false, true_and, and_true, false_and, and_false, not_true_eq_false, not_false_eq_true, iff_self, ite_self, ne_eq, true_implies, implies_true, Bool.false_eq_true, decide_true, decide_false, Bool.or_true, Bool.or_false, Bool.true_or, Bool.false_or]
theorem slF_at (v : VL n G L) (hj : j < G) : slF L Lt po G (L j) = if po < Lt j then 1 else 2 := by
  have key : ∀ m, m ≤ G → j < m → slF L Lt po m (L j) = if po < Lt j then 1 else 2 := by
    intro m
    induction m with
    | zero => intro _ q; omega
    | succ m ih =>
      intro hm hjm
      show (if L m = L j then (if po < Lt m then 1 else 2) else slF L Lt po m (L j)) = _
      by_cases q : m = j
      · rw [q, if_pos rfl]
      · rw [if_neg (fun e => q (v.2 m j (by omega) hj e))]
        exact ih (by omega) (by omega)
  exact key G (Nat.le_refl G) hj
theorem slF_no {b : Nat} (hb : ∀ j, j < G → L j ≠ b) : slF L Lt po G b = 0 := by
  have key : ∀ m, m ≤ G → slF L Lt po m b = 0 := by
    intro m
    induction m with
    | zero => intro _; rfl
    | succ m ih =>
      intro hm
      show (if L m = b then (if po < Lt m then 1 else 2) else slF L Lt po m b) = _
      rw [if_neg (hb m (by omega))]
      exact ih (by omega)
  exact key G (Nat.le_refl G)
end SRCH
