/-! THE REFERENCE: a whole text; laying an inn -/
section MOD5
variable {n : Nat}
theorem item_le {c : Nat → Int32} {p : Nat} {D D' : Nat → Int32} {e : Nat} (w : DW D) (hi : itemF c p D = some (e, D')) : p < e ∧ e ≤ p + 16 ∧ DW D' := by
  unfold itemF at hi
  cases hr : rdR c 5 (p + 1) with
  | none => rw [hr] at hi; cases hi
  | some y =>
    obtain ⟨e1, m⟩ := y
    rw [hr] at hi
    dsimp only at hi
    obtain ⟨v1, v2, v3, v4, v5, v6⟩ := rdH_val c 5 (p + 1) 0 (default : aH) e1 m hr
    have hle := rdR_le _ _ _ _ _ hr
    cases ht : tellF (c p) m (fun j => vlF c (psF c (p + 1) j)) D with
    | none => rw [ht] at hi; cases hi
    | some D2 =>
      rw [ht] at hi
      cases hi
      exact ⟨by omega, by omega, DW_tell w ⟨v4, v5⟩ (fun j hj => vlF_small _ _ (v3 j hj)) ht⟩
theorem m_parse : ∀ (f p : Nat) (D : Nat → Int32) (h : aH), MT h n → DW D → MD h D → hI h 44 11 = nI p → n < p + f → p < 300 → ∃ h', MFr h h' ∧ ((parseF (mlt (hI h 45) n) n f p D).1 = none → MD h' (parseF (mlt (hI h 45) n) n f p D).2 ∧ DW (parseF (mlt (hI h 45) n) n f p D).2) ∧ ∀ (Q : Option Value → aH → Prop) (l1 : Value), X 134 9 [.ref 44, l1] [] h Q ↔ Q (some (.int (fltA (parseF (mlt (hI h 45) n) n f p D).1))) h' := by
  intro f
  induction f with
  | zero =>
    intro p D h T w M hat hf hp
    have g := T.1
    have h2 := T.2.2
    refine ⟨h, MFr.refl h, fun _ => ⟨M, w⟩, fun Q l1 => ?_⟩
    rw [x134_9]
    simp only [x134_0, x134_1, x134_4, x134_5, x134_6, x134_10, x134_13, x134_14, x134_17, x134_20, x134_21, x134_24, x134_25, x134_26, x134_27, x134_30, x134_31, x134_32, x134_35, x134_36, x134_37, x134_40, x134_41, x134_42, x134_45, x134_48, x134_49, x134_50, x134_53, x134_55, pv_some, pv_none, c1_int, c1_ref, c1_null, true_and, and_true, ne_eq, not_false_eq_true, not_true_eq_false, if_true, if_false, reduceCtorEq, Option.some.injEq, Value.int.injEq, absI_fold, minI_fold, maxI_fold, m_s g, m_r0 g, m_r2 g, m_r3 g, m_r4 g, m_r5 g, m_r7 g, m_r9 g, m_r12 g, m_r13 g, m_r17 g, m_r18 g, m_s45 g, m_s46 g, m_s47 g, m_s48 g, m_s49 g, m_s50 g, m_s51 g, m_s52 g, m_s53 g, m_s54 g, m_s55 g, m_nz, hS_sI, hR_sI, hS_wI, hR_wI, T.2.1, hat, nI_lt_iff (show p < 2 ^ 31 by omega) (show n < 2 ^ 31 by omega), show ¬ p < n by omega, if_true, if_false, true_or, or_true, false_or, or_false, true_and, and_true, false_and, and_false, not_true_eq_false, not_false_eq_true, iff_self, ite_self, ne_eq, true_implies, implies_true, Bool.false_eq_true, decide_true, decide_false, Bool.or_true, Bool.or_false, Bool.true_or, Bool.false_or, parseF, fltA]
  | succ f ih =>
    intro p D h T w M hat hf hp
    have g := T.1
    have h2 := T.2.2
    by_cases hpn : p < n
    · have c45 : mlt (hI h 45) n p = hI h 45 p := if_pos hpn
      have hgo : ∀ (Q : Option Value → aH → Prop) (l1 : Value), X 134 9 [.ref 44, l1] [] h Q ↔ X 133 0 [.ref 44, .int (mlt (hI h 45) n p), .null] [] (sI h 44 11 (nI (p + 1))) (fun r h' => X 134 45 [.ref 44, .int (nI p)] (pv r []) h' Q) := by
        intro Q l1
        rw [x134_9]
        simp only [x134_0, x134_1, x134_4, x134_5, x134_6, x134_10, x134_13, x134_14, x134_17, x134_20, x134_21, x134_24, x134_25, x134_26, x134_27, x134_30, x134_31, x134_32, x134_35, x134_36, x134_37, x134_40, x134_41, x134_42, x134_45, x134_48, x134_49, x134_50, x134_53, x134_55, pv_some, pv_none, c1_int, c1_ref, c1_null, true_and, and_true, ne_eq, not_false_eq_true, not_true_eq_false, if_true, if_false, reduceCtorEq, Option.some.injEq, Value.int.injEq, absI_fold, minI_fold, maxI_fold, m_s g, m_r0 g, m_r2 g, m_r3 g, m_r4 g, m_r5 g, m_r7 g, m_r9 g, m_r12 g, m_r13 g, m_r17 g, m_r18 g, m_s45 g, m_s46 g, m_s47 g, m_s48 g, m_s49 g, m_s50 g, m_s51 g, m_s52 g, m_s53 g, m_s54 g, m_s55 g, m_nz, hS_sI, hR_sI, hS_wI, hR_wI, T.2.1, hat, nI_lt_iff (show p < 2 ^ 31 by omega) (show n < 2 ^ 31 by omega), hpn, nI_add1, ibn (show p < 200 by omega) (by decide), nI_cl (show p < 2 ^ 31 by omega), c45, hI_sI, show ((45 : Nat) = 44) = False by decide, if_true, if_false, true_or, or_true, false_or, or_false, true_and, and_true, false_and, and_false, not_true_eq_false, not_false_eq_true, iff_self, ite_self, ne_eq, true_implies, implies_true, Bool.false_eq_true, decide_true, decide_false, Bool.or_true, Bool.or_false, Bool.true_or, Bool.false_or]
      have T1 := T.w (nI (p + 1))
      have it := m_readsItem (ch := mlt (hI h 45) n p) T1 (show p + 1 < 800 by omega) (by rw [hI_sI, if_pos ⟨rfl, rfl⟩]) (MD_at M) w
      rw [mlt_w, ← itemF_G] at it
      have fr1 : MFr h (sI h 44 11 (nI (p + 1))) := (MFr.refl h).sI _ (Or.inr ⟨rfl, rfl⟩)
      cases hi : itemF (mlt (hI h 45) n) p D with
      | none =>
        rw [hi] at it
        obtain ⟨h', fr, k'⟩ := it
        refine ⟨h', fr1.trans fr, ?_, fun Q l1 => ?_⟩
        · simp [parseF, hpn, hi]
        · rw [hgo Q l1, k']
          simp only [x134_0, x134_1, x134_4, x134_5, x134_6, x134_10, x134_13, x134_14, x134_17, x134_20, x134_21, x134_24, x134_25, x134_26, x134_27, x134_30, x134_31, x134_32, x134_35, x134_36, x134_37, x134_40, x134_41, x134_42, x134_45, x134_48, x134_49, x134_50, x134_53, x134_55, pv_some, pv_none, c1_int, c1_ref, c1_null, true_and, and_true, ne_eq, not_false_eq_true, not_true_eq_false, if_true, if_false, reduceCtorEq, Option.some.injEq, Value.int.injEq, absI_fold, minI_fold, maxI_fold, if_true, if_false, true_or, or_true, false_or, or_false, true_and, and_true, false_and, and_false, not_true_eq_false, not_false_eq_true, iff_self, ite_self, ne_eq, true_implies, implies_true, Bool.false_eq_true, decide_true, decide_false, Bool.or_true, Bool.or_false, Bool.true_or, Bool.false_or]
          simp [parseF, hpn, hi, fltA]
      | some y =>
        obtain ⟨e, D'⟩ := y
        rw [hi] at it
        obtain ⟨h', fr, M', at', k'⟩ := it
        obtain ⟨le1, le2, w'⟩ := item_le w hi
        have fr := fr1.trans fr
        obtain ⟨h3, fr3, I3, k3⟩ := ih e D' h' (fr.MT T) w' M' at' (by omega) (by omega)
        rw [fr.mlt] at I3 k3
        have ep : parseF (mlt (hI h 45) n) n (f + 1) p D = parseF (mlt (hI h 45) n) n f e D' := by
          simp [parseF, hpn, hi]
        refine ⟨h3, fr.trans fr3, ?_, fun Q l1 => ?_⟩
        · rw [ep]; exact I3
        · rw [hgo Q l1, k']
          simp only [x134_0, x134_1, x134_4, x134_5, x134_6, x134_10, x134_13, x134_14, x134_17, x134_20, x134_21, x134_24, x134_25, x134_26, x134_27, x134_30, x134_31, x134_32, x134_35, x134_36, x134_37, x134_40, x134_41, x134_42, x134_45, x134_48, x134_49, x134_50, x134_53, x134_55, pv_some, pv_none, c1_int, c1_ref, c1_null, true_and, and_true, ne_eq, not_false_eq_true, not_true_eq_false, if_true, if_false, reduceCtorEq, Option.some.injEq, Value.int.injEq, absI_fold, minI_fold, maxI_fold, if_true, if_false, true_or, or_true, false_or, or_false, true_and, and_true, false_and, and_false, not_true_eq_false, not_false_eq_true, iff_self, ite_self, ne_eq, true_implies, implies_true, Bool.false_eq_true, decide_true, decide_false, Bool.or_true, Bool.or_false, Bool.true_or, Bool.false_or, one_ne]
          rw [ep]
          exact k3 Q _
    · refine ⟨h, MFr.refl h, fun _ => ?_, fun Q l1 => ?_⟩
      · simp only [parseF, hpn, if_true, if_false, true_or, or_true, false_or, or_false, true_and, and_true, false_and, and_false, not_true_eq_false, not_false_eq_true, iff_self, ite_self, ne_eq, true_implies, implies_true, Bool.false_eq_true, decide_true, decide_false, Bool.or_true, Bool.or_false, Bool.true_or, Bool.false_or]; exact ⟨M, w⟩
      · rw [x134_9]
        simp only [x134_0, x134_1, x134_4, x134_5, x134_6, x134_10, x134_13, x134_14, x134_17, x134_20, x134_21, x134_24, x134_25, x134_26, x134_27, x134_30, x134_31, x134_32, x134_35, x134_36, x134_37, x134_40, x134_41, x134_42, x134_45, x134_48, x134_49, x134_50, x134_53, x134_55, pv_some, pv_none, c1_int, c1_ref, c1_null, true_and, and_true, ne_eq, not_false_eq_true, not_true_eq_false, if_true, if_false, reduceCtorEq, Option.some.injEq, Value.int.injEq, absI_fold, minI_fold, maxI_fold, m_s g, m_r0 g, m_r2 g, m_r3 g, m_r4 g, m_r5 g, m_r7 g, m_r9 g, m_r12 g, m_r13 g, m_r17 g, m_r18 g, m_s45 g, m_s46 g, m_s47 g, m_s48 g, m_s49 g, m_s50 g, m_s51 g, m_s52 g, m_s53 g, m_s54 g, m_s55 g, m_nz, hS_sI, hR_sI, hS_wI, hR_wI, T.2.1, hat, nI_lt_iff (show p < 2 ^ 31 by omega) (show n < 2 ^ 31 by omega), hpn, if_true, if_false, true_or, or_true, false_or, or_false, true_and, and_true, false_and, and_false, not_true_eq_false, not_false_eq_true, iff_self, ite_self, ne_eq, true_implies, implies_true, Bool.false_eq_true, decide_true, decide_false, Bool.or_true, Bool.or_false, Bool.true_or, Bool.false_or, parseF, fltA]
theorem bg_fr (h : aH) : MFr h (sI (bgH h) 44 11 0) := by
  have z : MFr h (bgH h) := by
    unfold bgH
    exact (((show MFr h (wI h (fun b j => if b = 47 ∧ j < 31 then 0 else hI h b j)) from ⟨rfl, fun b j q1 q2 => by rw [hI_wI]; exact if_neg (by omega)⟩).sI _ (Or.inl rfl)).sI _ (Or.inl rfl)).sI _ (Or.inl rfl)
  exact z.sI _ (Or.inr ⟨rfl, rfl⟩)
theorem bg_0 (h : aH) : hI (sI (bgH h) 44 11 0) 47 0 = 0 := by rw [hI_sI, if_neg (by omega)]; unfold bgH; rw [hI_sI, if_neg (by omega), hI_sI, if_neg (by omega), hI_sI, if_neg (by omega), hI_wI, if_pos ⟨rfl, by omega⟩]
theorem bg_1 (h : aH) : hI (sI (bgH h) 44 11 0) 47 1 = 6 := by rw [hI_sI, if_neg (by omega)]; unfold bgH; rw [hI_sI, if_neg (by omega), hI_sI, if_neg (by omega), hI_sI, if_pos ⟨rfl, rfl⟩]
theorem bg_2 (h : aH) : hI (sI (bgH h) 44 11 0) 47 2 = 8 := by rw [hI_sI, if_neg (by omega)]; unfold bgH; rw [hI_sI, if_neg (by omega), hI_sI, if_pos ⟨rfl, rfl⟩]
theorem bg_3 (h : aH) : hI (sI (bgH h) 44 11 0) 47 3 = 7 := by rw [hI_sI, if_neg (by omega)]; unfold bgH; rw [hI_sI, if_pos ⟨rfl, rfl⟩]
theorem bg_4 (h : aH) : hI (sI (bgH h) 44 11 0) 47 4 = 0 := by rw [hI_sI, if_neg (by omega)]; unfold bgH; rw [hI_sI, if_neg (by omega), hI_sI, if_neg (by omega), hI_sI, if_neg (by omega), hI_wI, if_pos ⟨rfl, by omega⟩]
theorem bg_5 (h : aH) : hI (sI (bgH h) 44 11 0) 47 5 = 0 := by rw [hI_sI, if_neg (by omega)]; unfold bgH; rw [hI_sI, if_neg (by omega), hI_sI, if_neg (by omega), hI_sI, if_neg (by omega), hI_wI, if_pos ⟨rfl, by omega⟩]
theorem bg_MD (h : aH) : MD (sI (bgH h) 44 11 0) D0 := by
  have e0 := bg_0 h
  have e1 := bg_1 h
  have e2 := bg_2 h
  have e3 := bg_3 h
  have e4 := bg_4 h
  have e5 := bg_5 h
  generalize sI (bgH h) 44 11 0 = h1 at *
  refine ⟨fun j hj => ?_, fun i hi => absurd hi (by show ¬ i < 0; omega)⟩
  have : j = 0 ∨ j = 1 ∨ j = 2 ∨ j = 3 ∨ j = 4 ∨ j = 5 := by omega
  rcases this with rfl | rfl | rfl | rfl | rfl | rfl
  · exact e0
  · exact e1
  · exact e2
  · exact e3
  · exact e4
  · exact e5
theorem bg_at (h : aH) : hI (sI (bgH h) 44 11 0) 44 11 = nI 0 := by rw [hI_sI, if_pos ⟨rfl, rfl⟩]; rfl
/-- reads: the fault, and the draft told -/
theorem m_reads {h : aH} (T : MT h n) : ∃ h', MFr h h' ∧ ((parseF (mlt (hI h 45) n) n 201 0 D0).1 = none → MD h' (parseF (mlt (hI h 45) n) n 201 0 D0).2 ∧ DW (parseF (mlt (hI h 45) n) n 201 0 D0).2) ∧ ∀ (Q : Option Value → aH → Prop), X 134 0 [.ref 44, .null] [] h Q ↔ Q (some (.int (fltA (parseF (mlt (hI h 45) n) n 201 0 D0).1))) h' := by
  have g := T.1
  have h2 := T.2.2
  have fr0 := bg_fr h
  have I0 := bg_MD h
  have a0 := bg_at h
  have gb : hS (bgH h) 44 = (1, 8) := m_s g
  have go : ∀ Q : Option Value → aH → Prop, X 134 0 [.ref 44, .null] [] h Q ↔ X 134 9 [.ref 44, .null] [] (sI (bgH h) 44 11 0) Q := by
    intro Q
    simp only [x134_0, x134_1, x134_4, x134_5, x134_6, x134_10, x134_13, x134_14, x134_17, x134_20, x134_21, x134_24, x134_25, x134_26, x134_27, x134_30, x134_31, x134_32, x134_35, x134_36, x134_37, x134_40, x134_41, x134_42, x134_45, x134_48, x134_49, x134_50, x134_53, x134_55, pv_some, pv_none, c1_int, c1_ref, c1_null, true_and, and_true, ne_eq, not_false_eq_true, not_true_eq_false, if_true, if_false, reduceCtorEq, Option.some.injEq, Value.int.injEq, absI_fold, minI_fold, maxI_fold, m_begins g, m_s g, gb]
  generalize sI (bgH h) 44 11 0 = h1 at *
  have ml := fr0.mlt
  have hf : n < 0 + 201 := by omega
  obtain ⟨h', fr, I', k'⟩ := m_parse 201 0 D0 h1 (fr0.MT T) DW_0 I0 a0 hf (by omega)
  rw [ml] at I' k'
  generalize parseF (mlt (hI h 45) n) n 201 0 D0 = R at *
  exact ⟨h', fr0.trans fr, I', fun Q => (go Q).trans (k' Q _)⟩
end MOD5
/-- two letters' rows that read alike -/
def alike (x y : Int32) : Prop := x = y ∨ (dig x = false ∧ dig y = false ∧ x ≠ 44 ∧ x ≠ 59 ∧ y ≠ 44 ∧ y ≠ 59)
section ALIKE
variable {c d : Nat → Int32}
theorem al_dig (hc : ∀ p, alike (c p) (d p)) (p : Nat) : dig (c p) = dig (d p) := by
  rcases hc p with e | ⟨e1, e2, -⟩
  · rw [e]
  · rw [e1, e2]
theorem al_eq (hc : ∀ p, alike (c p) (d p)) (p : Nat) (v : Int32) (hv : v = 44 ∨ v = 59) : (c p = v) = (d p = v) := by
  rcases hc p with e | ⟨-, -, e1, e2, e3, e4⟩
  · rw [e]
  · rcases hv with rfl | rfl <;> simp only [e1, e2, e3, e4]
theorem al_nx (hc : ∀ p, alike (c p) (d p)) (p : Nat) : nxF c p = nxF d p := by
  unfold nxF
  rw [al_dig hc]
theorem al_d (hc : ∀ p, alike (c p) (d p)) (p : Nat) (hd : dig (c p) = true) : c p = d p := by
  rcases hc p with e | ⟨e1, -⟩
  · exact e
  · rw [e1] at hd; cases hd
theorem al_vl (hc : ∀ p, alike (c p) (d p)) (p : Nat) (hd : dig (c p) = true) : vlF c p = vlF d p := by
  unfold vlF
  rw [← al_d hc p hd, al_dig hc (p + 1)]
  by_cases q : dig (d (p + 1)) = true
  · rw [if_pos q, if_pos q, al_d hc (p + 1) (by rw [al_dig hc]; exact q)]
  · rw [if_neg q, if_neg q]
theorem al_rd (hc : ∀ p, alike (c p) (d p)) : ∀ r p, rdR c r p = rdR d r p := by
  intro r
  induction r with
  | zero => intro p; rfl
  | succ r ih =>
    intro p
    rw [rdR, rdR, al_dig hc, al_nx hc, ih]
    simp only [al_eq hc _ 59 (Or.inr rfl), al_eq hc _ 44 (Or.inl rfl)]
theorem al_ps (hc : ∀ p, alike (c p) (d p)) : ∀ p j, psF c p j = psF d p j := by
  intro p j
  induction j generalizing p with
  | zero => rfl
  | succ j ih => simp only [psF, al_nx hc, ih]
theorem tell_cong {ch : Int32} {m : Nat} {t t' D : Nat → Int32} (hm : 1 ≤ m ∧ m ≤ 5) (ht : ∀ j, j < m → t j = t' j) : tellF ch m t D = tellF ch m t' D := by
  have h0 := ht 0 (by omega)
  unfold tellF
  by_cases h5 : m = 5
  · subst h5
    have e1 := ht 1 (by omega)
    have e2 := ht 2 (by omega)
    have e3 := ht 3 (by omega)
    have e4 := ht 4 (by omega)
    have eo : okGD D t = okGD D t' := by unfold okGD; rw [h0, e1, e2, e3, e4]
    have eg : gstD D t = gstD D t' := by unfold gstD; rw [h0, e1, e2, e3, e4]
    rw [h0, eo, eg]
  · simp only [h5, false_and, if_false, h0]
theorem al_item (hc : ∀ p, alike (c p) (d p)) (p : Nat) (hp : c p = d p) (D : Nat → Int32) : itemF c p D = itemF d p D := by
  unfold itemF
  rw [← al_rd hc, ← hp]
  cases hr : rdR c 5 (p + 1) with
  | none => rfl
  | some y =>
    obtain ⟨e1, m⟩ := y
    dsimp only
    obtain ⟨v1, v2, v3, v4, v5, v6⟩ := rdH_val c 5 (p + 1) 0 (default : aH) e1 m hr
    rw [tell_cong (t' := fun j => vlF d (psF d (p + 1) j)) ⟨v4, v5⟩ (fun j hj => by
      rw [← al_ps hc, al_vl hc _ (v3 j hj)])]
theorem al_parse (hc : ∀ p, alike (c p) (d p)) {n : Nat} (hn : ∀ p, p < n → c p = d p) : ∀ f p D, parseF c n f p D = parseF d n f p D := by
  intro f
  induction f with
  | zero => intro p D; rfl
  | succ f ih =>
    intro p D
    rw [parseF, parseF]
    by_cases hp : p < n
    · rw [if_pos hp, if_pos hp, al_item hc p (hn p hp)]
      cases itemF d p D with
      | none => rfl
      | some q => exact ih _ _
    · rw [if_neg hp, if_neg hp]
end ALIKE
/-- both texts read alike -/
theorem parse_eq {a b : Nat → Int32} {n : Nat} (hab : ∀ p, p < n → a p = b p) (f p : Nat) (D : Nat → Int32) : parseF (ltr a n) n f p D = parseF (mlt b n) n f p D := by
  refine al_parse (fun p => ?_) (fun p hp => ?_) f p D
  · unfold ltr mlt
    by_cases hp : p < n
    · rw [if_pos hp, if_pos hp, hab p hp]; exact Or.inl rfl
    · rw [if_neg hp, if_neg hp]; exact Or.inr (by decide)
  · unfold ltr mlt
    rw [if_pos hp, if_pos hp, hab p hp]
