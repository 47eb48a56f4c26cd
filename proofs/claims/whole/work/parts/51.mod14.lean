/-! THE REFERENCE: lying by a code; best -/
section MOD14
variable {h h1 : aH} {D : Nat → Int32} {i j k z n G c : Nat} {Q : Option Value → aH → Prop} {x y b hr : Int32}
def ixG (G k : Nat) : Int32 := nI G - nI (k + 1)
theorem ix_step (G k : Nat) : ixG G k + (-1) = ixG G (k + 1) := nI_subm G (k + 1)
theorem ix_lt (hk : k < G) : ixG G k = nI (G - 1 - k) := by
  unfold ixG
  rw [nI_sub (show k + 1 ≤ G by omega)]
  congr 1
  omega
theorem ix_end (G : Nat) : ixG G G = -1 := by
  unfold ixG
  rw [← nI_subm, Int32.sub_self, Int32.zero_add]
theorem or64 : ∀ t, t < 64 → ∀ b, b < 6 → t ||| 1 <<< b < 64 := by decide
theorem ones64 : ∀ t, t < 64 → bitF (nI t) = nI (onesN t) ∧ onesN t ≤ 8 := by decide +kernel
theorem shl6 : ∀ n, n < 7 → (1 : Int32) <<< (nI n &&& 31) = nI (2 ^ n) ∧ 2 ^ n ≤ 64 := by decide
theorem metN_lt (c : Nat) : ∀ G, metN G c < 64 := by
  intro G
  induction G with
  | zero => exact (by decide : (0 : Nat) < 64)
  | succ G ih => exact or64 _ ih _ (Nat.mod_lt _ (by decide))
def lbK (h : aH) (G c k : Nat) : aH := wI h (fun b j => if b = 52 ∧ G ≤ j + k ∧ j < G then nI (cdN G c j) else hI h b j)
def lbH (h : aH) (G c : Nat) : aH := wI h (fun b j => if b = 52 ∧ j < G then nI (cdN G c j) else hI h b j)
theorem lb_at (h : aH) (hj : j < G) : hI (lbH h G c) 52 j = nI (cdN G c j) := by unfold lbH; rw [hI_wI, if_pos ⟨rfl, hj⟩]
theorem lb_o (h : aH) {b : Nat} (hb : b ≠ 52) : hI (lbH h G c) b j = hI h b j := by unfold lbH; rw [hI_wI, if_neg (fun q => hb q.1)]
theorem lb_SF (x : SF h h1) : SF h (lbH h1 G c) := by
  refine x.trans ?_
  unfold lbH
  exact SF.wI (fun b j q1 q2 q3 => by rw [if_neg (by omega)])
theorem m_lieBy (A : MA h D) (hn : D 1 = nI n) (hn6 : n ≤ 6) (hc : c < 2 ^ 31) : X 159 0 [.ref 44, .int (nI c), .null, .null, .null] [] h Q ↔ Q (some (.int (bi (okW n (gN D) c = true)))) (lbH h (gN D) c) := by
  have g := A.1
  have h5 := A.g5
  have e1 : hI h 46 1 = nI n := (A.2.2.1 1 (by omega)).trans hn
  have up : ∀ k, k ≤ gN D → (X 159 0 [.ref 44, .int (nI c), .null, .null, .null] [] h Q ↔ X 159 14 [.ref 44, .int (nI c), .int (nI (c / 6 ^ k)), .int (nI (metN k c)), .int (ixG (gN D) k)] [] (lbK h (gN D) c k) Q) := by
    intro k
    induction k with
    | zero =>
      intro _
      have e0 : lbK h (gN D) c 0 = h := aH_ext rfl rfl rfl rfl (fun b j => by unfold lbK; rw [hI_wI, if_neg (by omega)])
      have e2 : nI (gN D) - 1 = ixG (gN D) 0 := rfl
      simp only [x159_0, x159_1, x159_2, x159_3, x159_4, x159_5, x159_8, x159_9, x159_10, x159_11, x159_12, x159_16, x159_19, x159_20, x159_23, x159_25, x159_26, x159_28, x159_29, x159_30, x159_31, x159_32, x159_33, x159_35, x159_36, x159_37, x159_38, x159_39, x159_40, x159_42, x159_43, x159_44, x159_47, x159_50, x159_51, x159_54, x159_55, x159_58, x159_59, x159_60, x159_63, x159_64, x159_65, x159_66, x159_69, x159_70, x159_71, x159_72, x159_75, x159_76, x159_79, x159_80, pv_some, pv_none, c1_int, c1_ref, c1_null, true_and, and_true, ne_eq, not_false_eq_true, not_true_eq_false, if_true, if_false, reduceCtorEq, Option.some.injEq, Value.int.injEq, absI_fold, minI_fold, maxI_fold, m_s g, m_r0 g, m_r2 g, m_r3 g, m_r4 g, m_r5 g, m_r7 g, m_r9 g, m_r12 g, m_r13 g, m_r17 g, m_r18 g, m_s45 g, m_s46 g, m_s47 g, m_s48 g, m_s49 g, m_s50 g, m_s51 g, m_s52 g, m_s53 g, m_s54 g, m_s55 g, m_nz, hS_sI, hR_sI, hS_wI, hR_wI, show ib 0 (2, 31) = True from i31 (k := 0) (by decide), c0, A.g0, e2, e0, Nat.pow_zero, Nat.div_one, if_true, if_false, true_or, or_true, false_or, or_false, true_and, and_true, false_and, and_false, not_true_eq_false, not_false_eq_true, iff_self, ite_self, ne_eq, true_implies, implies_true, Bool.false_eq_true, decide_true, decide_false, Bool.or_true, Bool.or_false, Bool.true_or, Bool.false_or]
      rfl
    | succ k ih =>
      intro hk
      rw [ih (by omega)]
      have gk : GM (lbK h (gN D) c k) := g
      have dl : c / 6 ^ k < 2 ^ 31 := Nat.lt_of_le_of_lt (Nat.div_le_self _ _) hc
      have m6 : nI (c / 6 ^ k) - nI (c / 6 ^ k) / 6 * 6 = nI (c / 6 ^ k % 6) := nI_mod (b := 6) dl (by decide)
      have d6 : nI (c / 6 ^ k) / 6 = nI (c / 6 ^ (k + 1)) := by
        rw [show nI (c / 6 ^ k) / 6 = nI (c / 6 ^ k / 6) from nI_div (b := 6) dl (by decide), Nat.div_div_eq_div_mul, Nat.pow_succ]
      have ob := (bit64 _ (metN_lt c k) (c / 6 ^ k % 6) (Nat.mod_lt _ (by decide))).2
      have xn : (ixG (gN D) k < 0) = False := by rw [ix_lt (by omega)]; exact nI_neg (by omega)
      have es : sI (lbK h (gN D) c k) 52 (gN D - 1 - k) (nI (c / 6 ^ k % 6)) = lbK h (gN D) c (k + 1) := by
        refine (aH_ext (by simp only [hN_sI, hN_cpI, hN_wI, lbK]) (by simp only [hZ_sI, hZ_cpI, hZ_wI, lbK]) (by simp only [hS_sI, hS_cpI, hS_wI, lbK]) (by simp only [hR_sI, hR_cpI, hR_wI, lbK]) (fun b j => ?_))
        unfold lbK
        simp only [hI_sI, hI_wI]
        by_cases q : b = 52 ∧ j = gN D - 1 - k
        · rw [if_pos q, if_pos ⟨q.1, by omega, by omega⟩]
          unfold cdN
          rw [show gN D - 1 - j = k by omega]
        · rw [if_neg q]
          by_cases q2 : b = 52 ∧ gN D ≤ j + k ∧ j < gN D
          · rw [if_pos q2, if_pos ⟨q2.1, by omega, q2.2.2⟩]
          · rw [if_neg q2, if_neg (by omega)]
      rw [x159_14]
      have ew : ibw (ixG (gN D) k) (2, 5) = True := by rw [ix_lt (by omega)]; exact ibwn (by omega) (by decide)
      have ec : (ixG (gN D) k).toNatClampNeg = gN D - 1 - k := by rw [ix_lt (by omega)]; exact nI_cl (by omega)
      simp only [x159_0, x159_1, x159_2, x159_3, x159_4, x159_5, x159_8, x159_9, x159_10, x159_11, x159_12, x159_16, x159_19, x159_20, x159_23, x159_25, x159_26, x159_28, x159_29, x159_30, x159_31, x159_32, x159_33, x159_35, x159_36, x159_37, x159_38, x159_39, x159_40, x159_42, x159_43, x159_44, x159_47, x159_50, x159_51, x159_54, x159_55, x159_58, x159_59, x159_60, x159_63, x159_64, x159_65, x159_66, x159_69, x159_70, x159_71, x159_72, x159_75, x159_76, x159_79, x159_80, pv_some, pv_none, c1_int, c1_ref, c1_null, true_and, and_true, ne_eq, not_false_eq_true, not_true_eq_false, if_true, if_false, reduceCtorEq, Option.some.injEq, Value.int.injEq, absI_fold, minI_fold, maxI_fold, m_s gk, m_r12 gk, m_s52 gk, m_nz, xn, m6, d6, ew, ec, es, ob, ix_step, show ¬ ((6 : Int32) = 0) by decide, hS_sI, hR_sI, if_true, if_false, true_or, or_true, false_or, or_false, true_and, and_true, false_and, and_false, not_true_eq_false, not_false_eq_true, iff_self, ite_self, ne_eq, true_implies, implies_true, Bool.false_eq_true, decide_true, decide_false, Bool.or_true, Bool.or_false, Bool.true_or, Bool.false_or]
      rw [d6] at m6
      rw [m6, ob, es]
      rfl
  rw [up (gN D) (Nat.le_refl _)]
  have ee : lbK h (gN D) c (gN D) = lbH h (gN D) c := aH_ext rfl rfl rfl rfl (fun b j => by
    unfold lbK lbH
    rw [hI_wI, hI_wI]
    by_cases q : b = 52 ∧ j < gN D
    · rw [if_pos ⟨q.1, by omega, q.2⟩, if_pos q]
    · rw [if_neg (by omega), if_neg q])
  rw [ee]
  have A2 := A.SF (lb_SF (c := c) (G := gN D) (SF.refl h))
  have g2 := A2.1
  have e2 : hI (lbH h (gN D) c) 46 1 = nI n := by rw [lb_o h (by decide)]; exact e1
  have om := ones64 _ (metN_lt c (gN D))
  have sh := shl6 n (by omega)
  have ml := metN_lt c (gN D)
  rw [x159_14]
  simp only [x159_0, x159_1, x159_2, x159_3, x159_4, x159_5, x159_8, x159_9, x159_10, x159_11, x159_12, x159_16, x159_19, x159_20, x159_23, x159_25, x159_26, x159_28, x159_29, x159_30, x159_31, x159_32, x159_33, x159_35, x159_36, x159_37, x159_38, x159_39, x159_40, x159_42, x159_43, x159_44, x159_47, x159_50, x159_51, x159_54, x159_55, x159_58, x159_59, x159_60, x159_63, x159_64, x159_65, x159_66, x159_69, x159_70, x159_71, x159_72, x159_75, x159_76, x159_79, x159_80, pv_some, pv_none, c1_int, c1_ref, c1_null, true_and, and_true, ne_eq, not_false_eq_true, not_true_eq_false, if_true, if_false, reduceCtorEq, Option.some.injEq, Value.int.injEq, absI_fold, minI_fold, maxI_fold, ix_end, show ((-1 : Int32) < 0) = True by decide, m_ones, om.1, m_s g2, m_r2 g2, m_s46 g2, m_nz, show ib 0 (2, 31) = True from i31 (k := 0) (by decide), show ib 1 (2, 31) = True from i31 (k := 1) (by decide), c0, ct1, A2.g0, e2, sh.1, nI_eq_iff (show onesN (metN (gN D) c) < 2 ^ 31 by omega) (show gN D < 2 ^ 31 by omega), nI_lt_iff (show metN (gN D) c < 2 ^ 31 by omega) (show 2 ^ n < 2 ^ 31 by omega), if_true, if_false, true_or, or_true, false_or, or_false, true_and, and_true, false_and, and_false, not_true_eq_false, not_false_eq_true, iff_self, ite_self, ne_eq, true_implies, implies_true, Bool.false_eq_true, decide_true, decide_false, Bool.or_true, Bool.or_false, Bool.true_or, Bool.false_or]
  unfold okW
  by_cases q1 : onesN (metN (gN D) c) = gN D
  · by_cases q2 : metN (gN D) c < 2 ^ n
    · simp only [q1, q2, decide_true, Bool.and_self, bi_T, if_true, if_false, true_or, or_true, false_or, or_false, true_and, and_true, false_and, and_false, not_true_eq_false, not_false_eq_true, iff_self, ite_self, ne_eq, true_implies, implies_true, Bool.false_eq_true, decide_true, decide_false, Bool.or_true, Bool.or_false, Bool.true_or, Bool.false_or]
    · simp only [q1, q2, decide_false, Bool.and_false, bi_F, if_true, if_false, true_or, or_true, false_or, or_false, true_and, and_true, false_and, and_false, not_true_eq_false, not_false_eq_true, iff_self, ite_self, ne_eq, true_implies, implies_true, Bool.false_eq_true, decide_true, decide_false, Bool.or_true, Bool.or_false, Bool.true_or, Bool.false_or]
  · simp only [q1, decide_false, Bool.false_and, bi_F, if_true, if_false, true_or, or_true, false_or, or_false, true_and, and_true, false_and, and_false, not_true_eq_false, not_false_eq_true, iff_self, ite_self, ne_eq, true_implies, implies_true, Bool.false_eq_true, decide_true, decide_false, Bool.or_true, Bool.or_false, Bool.true_or, Bool.false_or]
/-- a scratch as it is but for the places, at an hour -/
def LT (h : aH) (hr : Int32) (h1 : aH) : Prop := SF h h1 ∧ hI h1 53 = hI (asH h) 53 ∧ hI h1 44 14 = hI (asH h) 44 14 ∧ hI h1 44 15 = hr ∧ hI h1 44 16 = 31
theorem LT.lb (t : LT h hr h1) : LT h hr (lbH h1 G c) := ⟨lb_SF t.1, by rw [← t.2.1]; funext j; exact lb_o h1 (by decide), by rw [lb_o h1 (by decide)]; exact t.2.2.1, by rw [lb_o h1 (by decide)]; exact t.2.2.2.1, by rw [lb_o h1 (by decide)]; exact t.2.2.2.2⟩
theorem LT.as (h : aH) : LT h (hI h 48 6) (asH h) := ⟨as_SF h, rfl, rfl, as15, as16⟩
theorem LT.hour (h : aH) (hr : Int32) : LT h hr (sI (asH h) 44 15 hr) := ⟨(as_SF h).sI _ (Or.inr (Or.inr ⟨rfl, by omega⟩)), by funext j; rw [hI_sI, if_neg (by omega)], by rw [hI_sI, if_neg (by omega)], by rw [hI_sI, if_pos ⟨rfl, rfl⟩], by rw [hI_sI, if_neg (by omega)]; exact as16⟩
abbrev cdP (G c : Nat) : Nat → Int32 := fun j => nI (cdN G c j)
abbrev wkCd (h : aH) (D : Nat → Int32) (hr : Int32) (c : Nat) : Int32 := bitF (wakeF (hI (asH h) 53) (DA D 11) (DA D 16) (DA D 21) (cdP (gN D) c) (D 3) (hI (asH h) 44 14) hr (gN D))
theorem wk_lb (t : LT h hr h1) : bitF (wakeM (lbH h1 (gN D) c) D) = wkCd h D hr c := by
  have t2 : LT h hr (lbH h1 (gN D) c) := t.lb
  unfold wkCd wakeM
  rw [t2.2.1, t2.2.2.1, t2.2.2.2.1]
  rw [wakeF_congr (P' := cdP (gN D) c) agr.rfl' agr.rfl' agr.rfl' agr.rfl' (fun j hj => lb_at h1 hj)]
def bestR (its : Nat → Int32) (ok : Nat → Bool) (wh : Nat → Int32) (x : Int32) (T : Nat) : Int32 × Int32 := foldN (fun c s => if ok c = true then (if s.1 = -4 ∨ its c < s.1 then (its c, if x < 0 then s.2 else wh c) else s) else s) (-4, 0) T
abbrev bestM (h : aH) (D : Nat → Int32) (n : Nat) (hr x : Int32) (T : Nat) : Int32 × Int32 := bestR (wkCd h D hr) (okW n (gN D)) (fun c => nI (cdN (gN D) c x.toNatClampNeg)) x T
theorem m_best (A : MA h D) (hn : D 1 = nI n) (hn6 : n ≤ 6) (hh : ¬ hr < 0 ∧ ¬ 7 < hr) (hx : x = -1 ∨ (¬ x < 0 ∧ x < nI (gN D))) : ∃ h', SF h h' ∧ ∀ Q : Option Value → aH → Prop, X 164 0 [.ref 44, .int hr, .int x, .null, .null, .null, .null, .null, .null] [] h Q ↔ Q (some (.int (if x < 0 then (bestM h D n hr x (6 ^ gN D)).1 else (bestM h D n hr x (6 ^ gN D)).2))) h' := by
  have g := A.1
  have h5 := A.g5
  have p6 : 6 ^ gN D ≤ 7776 := Nat.pow_le_pow_right (by decide : 0 < 6) h5
  have gx : x = -1 ∨ (¬ x < 0 ∧ ¬ hI h 46 0 - 1 < x) := by
    refine hx.imp id (fun q => ⟨q.1, ?_⟩)
    have e := nI_self q.1
    have hl : x.toNatClampNeg < gN D := by
      have := q.2
      rw [e] at this
      exact lit_le (by have := x.toInt_lt; show x.toInt.toNat < 2 ^ 31; omega) (by omega) this
    rw [A.g0, nI_m1 (by omega), e, nI_lt_iff (by omega) (by omega)]
    omega
  have i5x : ¬ x < 0 → x.toNatClampNeg < gN D ∧ x = nI x.toNatClampNeg := by
    intro q
    have hx2 := hx.resolve_left (fun e => q (by rw [e]; decide))
    have e := nI_self q
    refine ⟨?_, e⟩
    have := hx2.2
    rw [e] at this
    exact lit_le (by have := x.toInt_lt; show x.toInt.toNat < 2 ^ 31; omega) (by omega) this
  suffices hs : ∃ h', SF h h' ∧ X 164 49 [.ref 44, .int hr, .int x, .int (-4), .int 0, .int (nI (6 ^ gN D)), .int 0, .null, .null] [] (sI (asH h) 44 15 hr) (fun a b => a = some (.int (if x < 0 then (bestM h D n hr x (6 ^ gN D)).1 else (bestM h D n hr x (6 ^ gN D)).2)) ∧ b = h') by
    obtain ⟨h', fr, hk⟩ := hs
    refine ⟨h', fr, fun Q => X_iff ?_ Q⟩
    have A2 := A.SF (LT.hour h hr).1
    have g2 := A2.1
    have ga := (as_SF h).GM g
    by_cases q : x = -1
    · simp only [x164_0, x164_1, x164_2, x164_4, x164_7, x164_10, x164_11, x164_12, x164_15, x164_16, x164_17, x164_20, x164_23, x164_24, x164_25, x164_26, x164_29, x164_30, x164_31, x164_34, x164_36, x164_37, x164_38, x164_40, x164_41, x164_44, x164_46, x164_47, x164_51, x164_53, x164_56, x164_57, x164_59, x164_62, x164_65, x164_66, x164_69, x164_72, x164_75, x164_77, x164_79, x164_81, x164_83, x164_86, x164_87, x164_89, x164_92, x164_94, x164_95, x164_98, x164_99, x164_102, x164_103, x164_105, x164_107, x164_110, x164_112, x164_115, x164_116, x164_117, x164_119, x164_122, x164_123, x164_126, x164_127, x164_130, x164_131, x164_132, x164_135, x164_137, x164_139, x164_142, x164_145, x164_146, x164_149, x164_150, x164_153, x164_155, pv_some, pv_none, c1_int, c1_ref, c1_null, true_and, and_true, ne_eq, not_false_eq_true, not_true_eq_false, if_true, if_false, reduceCtorEq, Option.some.injEq, Value.int.injEq, absI_fold, minI_fold, maxI_fold, m_in, bi_zero, hh, q, m_s g, m_asItIs g, m_s ga, m_s g2, m_codes A2, if_true, if_false, true_or, or_true, false_or, or_false, true_and, and_true, false_and, and_false, not_true_eq_false, not_false_eq_true, iff_self, ite_self, ne_eq, true_implies, implies_true, Bool.false_eq_true, decide_true, decide_false, Bool.or_true, Bool.or_false, Bool.true_or, Bool.false_or]
      rw [q] at hk
      exact hk
    · have gx2 := gx.resolve_left q
      simp only [x164_0, x164_1, x164_2, x164_4, x164_7, x164_10, x164_11, x164_12, x164_15, x164_16, x164_17, x164_20, x164_23, x164_24, x164_25, x164_26, x164_29, x164_30, x164_31, x164_34, x164_36, x164_37, x164_38, x164_40, x164_41, x164_44, x164_46, x164_47, x164_51, x164_53, x164_56, x164_57, x164_59, x164_62, x164_65, x164_66, x164_69, x164_72, x164_75, x164_77, x164_79, x164_81, x164_83, x164_86, x164_87, x164_89, x164_92, x164_94, x164_95, x164_98, x164_99, x164_102, x164_103, x164_105, x164_107, x164_110, x164_112, x164_115, x164_116, x164_117, x164_119, x164_122, x164_123, x164_126, x164_127, x164_130, x164_131, x164_132, x164_135, x164_137, x164_139, x164_142, x164_145, x164_146, x164_149, x164_150, x164_153, x164_155, pv_some, pv_none, c1_int, c1_ref, c1_null, true_and, and_true, ne_eq, not_false_eq_true, not_true_eq_false, if_true, if_false, reduceCtorEq, Option.some.injEq, Value.int.injEq, absI_fold, minI_fold, maxI_fold, m_in, bi_zero, hh, q, m_s g, m_isGuest g, gx2, m_asItIs g, m_s ga, m_s g2, m_codes A2, if_true, if_false, true_or, or_true, false_or, or_false, true_and, and_true, false_and, and_false, not_true_eq_false, not_false_eq_true, iff_self, ite_self, ne_eq, true_implies, implies_true, Bool.false_eq_true, decide_true, decide_false, Bool.or_true, Bool.or_false, Bool.true_or, Bool.false_or]
      rw [if_neg gx2.1] at hk
      exact hk
  refine loop_up (P := fun k => ∀ (l7 l8 : Value) (h1 : aH), c1 l7 = true → LT h hr h1 → ∃ h', SF h h' ∧ X 164 49 [.ref 44, .int hr, .int x, .int (bestM h D n hr x k).1, .int (bestM h D n hr x k).2, .int (nI (6 ^ gN D)), .int (nI k), l7, l8] [] h1 (fun a b => a = some (.int (if x < 0 then (bestM h D n hr x (6 ^ gN D)).1 else (bestM h D n hr x (6 ^ gN D)).2)) ∧ b = h')) (n := 6 ^ gN D) (fun k hk hp l7 l8 h1 q7 t => ?_) (fun l7 l8 h1 q7 t => ?_) _ _ _ rfl (LT.hour h hr)
  · have A1 := A.SF t.1
    have g1 := A1.1
    have t2 : LT h hr (lbH h1 (gN D) k) := t.lb
    have A2 := A.SF t2.1
    have g2 := A2.1
    have wk : bitF (wakeM (lbH h1 (gN D) k) D) = wkCd h D hr k := wk_lb t
    obtain ⟨m, hm, -, em⟩ := pop_bits (c := wakeC (hI (asH h) 53) (DA D 11) (DA D 16) (DA D 21) (cdP (gN D) k) (D 3) (hI (asH h) 44 14) hr (gN D)) h5
    have w99 : (wkCd h D hr k < 99) = True := by
      show (bitF (bitsF _ _) < 99) = True
      rw [em]
      exact eq_true (nI_lt (b := 99) (by omega) (by decide))
    have ew : bestM h D n hr x (k + 1) = if okW n (gN D) k = true then (if (bestM h D n hr x k).1 = -4 ∨ wkCd h D hr k < (bestM h D n hr x k).1 then (wkCd h D hr k, if x < 0 then (bestM h D n hr x k).2 else nI (cdN (gN D) k x.toNatClampNeg)) else bestM h D n hr x k) else bestM h D n hr x k := rfl
    by_cases c0 : okW n (gN D) k = true
    · have c0' : bi (okW n (gN D) k = true) = 1 := bi_t c0
      obtain ⟨h', fr, hp3⟩ := hp (.int (wkCd h D hr k)) (.int (if (bestM h D n hr x k).1 = -4 ∨ wkCd h D hr k < (bestM h D n hr x k).1 then 1 else 0)) _ rfl t2
      refine ⟨h', fr, ?_⟩
      rw [x164_49]
      simp only [x164_0, x164_1, x164_2, x164_4, x164_7, x164_10, x164_11, x164_12, x164_15, x164_16, x164_17, x164_20, x164_23, x164_24, x164_25, x164_26, x164_29, x164_30, x164_31, x164_34, x164_36, x164_37, x164_38, x164_40, x164_41, x164_44, x164_46, x164_47, x164_51, x164_53, x164_56, x164_57, x164_59, x164_62, x164_65, x164_66, x164_69, x164_72, x164_75, x164_77, x164_79, x164_81, x164_83, x164_86, x164_87, x164_89, x164_92, x164_94, x164_95, x164_98, x164_99, x164_102, x164_103, x164_105, x164_107, x164_110, x164_112, x164_115, x164_116, x164_117, x164_119, x164_122, x164_123, x164_126, x164_127, x164_130, x164_131, x164_132, x164_135, x164_137, x164_139, x164_142, x164_145, x164_146, x164_149, x164_150, x164_153, x164_155, pv_some, pv_none, c1_int, c1_ref, c1_null, true_and, and_true, ne_eq, not_false_eq_true, not_true_eq_false, if_true, if_false, reduceCtorEq, Option.some.injEq, Value.int.injEq, absI_fold, minI_fold, maxI_fold, m_s g1, nI_lt_iff (show k < 2 ^ 31 by omega) (show 6 ^ gN D < 2 ^ 31 by omega), hk, m_lieBy A1 hn hn6 (show k < 2 ^ 31 by omega), c0', one_ne, m_s g2, m_wakes A2 t2.2.2.2.2, m_ones, wk, w99, m_r12 g2, m_s52 g2, m_nz, nI_add1, q7, if_true, if_false, true_or, or_true, false_or, or_false, true_and, and_true, false_and, and_false, not_true_eq_false, not_false_eq_true, iff_self, ite_self, ne_eq, true_implies, implies_true, Bool.false_eq_true, decide_true, decide_false, Bool.or_true, Bool.or_false, Bool.true_or, Bool.false_or]
      rw [ew, if_pos c0] at hp3
      generalize bestM h D n hr x k = s0 at *
      generalize wkCd h D hr k = v0 at *
      by_cases c3 : x < 0
      · by_cases c1 : s0.1 = -4
        · simp only [c1, c3, one_ne, if_true, if_false, true_or, or_true, false_or, or_false, true_and, and_true, false_and, and_false, not_true_eq_false, not_false_eq_true, iff_self, ite_self, ne_eq, true_implies, implies_true, Bool.false_eq_true, decide_true, decide_false, Bool.or_true, Bool.or_false, Bool.true_or, Bool.false_or] at hp3 ⊢
          exact hp3
        · by_cases c2 : v0 < s0.1
          · simp only [c1, c2, c3, one_ne, if_true, if_false, true_or, or_true, false_or, or_false, true_and, and_true, false_and, and_false, not_true_eq_false, not_false_eq_true, iff_self, ite_self, ne_eq, true_implies, implies_true, Bool.false_eq_true, decide_true, decide_false, Bool.or_true, Bool.or_false, Bool.true_or, Bool.false_or] at hp3 ⊢
            exact hp3
          · simp only [c1, c2, c3, one_ne, if_true, if_false, true_or, or_true, false_or, or_false, true_and, and_true, false_and, and_false, not_true_eq_false, not_false_eq_true, iff_self, ite_self, ne_eq, true_implies, implies_true, Bool.false_eq_true, decide_true, decide_false, Bool.or_true, Bool.or_false, Bool.true_or, Bool.false_or] at hp3 ⊢
            exact hp3
      · obtain ⟨xl, xe⟩ := i5x c3
        have e52 : hI (lbH h1 (gN D) k) 52 x.toNatClampNeg = nI (cdN (gN D) k x.toNatClampNeg) := lb_at h1 xl
        have i5i : ib x (2, 5) = True := by rw [xe]; exact ibn (show x.toNatClampNeg < 5 by omega) (by decide)
        by_cases c1 : s0.1 = -4
        · simp only [c1, c3, one_ne, i5i, e52, if_true, if_false, true_or, or_true, false_or, or_false, true_and, and_true, false_and, and_false, not_true_eq_false, not_false_eq_true, iff_self, ite_self, ne_eq, true_implies, implies_true, Bool.false_eq_true, decide_true, decide_false, Bool.or_true, Bool.or_false, Bool.true_or, Bool.false_or] at hp3 ⊢
          exact hp3
        · by_cases c2 : v0 < s0.1
          · simp only [c1, c2, c3, one_ne, i5i, e52, if_true, if_false, true_or, or_true, false_or, or_false, true_and, and_true, false_and, and_false, not_true_eq_false, not_false_eq_true, iff_self, ite_self, ne_eq, true_implies, implies_true, Bool.false_eq_true, decide_true, decide_false, Bool.or_true, Bool.or_false, Bool.true_or, Bool.false_or] at hp3 ⊢
            exact hp3
          · simp only [c1, c2, c3, one_ne, if_true, if_false, true_or, or_true, false_or, or_false, true_and, and_true, false_and, and_false, not_true_eq_false, not_false_eq_true, iff_self, ite_self, ne_eq, true_implies, implies_true, Bool.false_eq_true, decide_true, decide_false, Bool.or_true, Bool.or_false, Bool.true_or, Bool.false_or] at hp3 ⊢
            exact hp3
    · have c0' : bi (okW n (gN D) k = true) = 0 := bi_f c0
      obtain ⟨h', fr, hp3⟩ := hp (.int 99) (.int 0) _ rfl t2
      refine ⟨h', fr, ?_⟩
      rw [x164_49]
      simp only [x164_0, x164_1, x164_2, x164_4, x164_7, x164_10, x164_11, x164_12, x164_15, x164_16, x164_17, x164_20, x164_23, x164_24, x164_25, x164_26, x164_29, x164_30, x164_31, x164_34, x164_36, x164_37, x164_38, x164_40, x164_41, x164_44, x164_46, x164_47, x164_51, x164_53, x164_56, x164_57, x164_59, x164_62, x164_65, x164_66, x164_69, x164_72, x164_75, x164_77, x164_79, x164_81, x164_83, x164_86, x164_87, x164_89, x164_92, x164_94, x164_95, x164_98, x164_99, x164_102, x164_103, x164_105, x164_107, x164_110, x164_112, x164_115, x164_116, x164_117, x164_119, x164_122, x164_123, x164_126, x164_127, x164_130, x164_131, x164_132, x164_135, x164_137, x164_139, x164_142, x164_145, x164_146, x164_149, x164_150, x164_153, x164_155, pv_some, pv_none, c1_int, c1_ref, c1_null, true_and, and_true, ne_eq, not_false_eq_true, not_true_eq_false, if_true, if_false, reduceCtorEq, Option.some.injEq, Value.int.injEq, absI_fold, minI_fold, maxI_fold, m_s g1, nI_lt_iff (show k < 2 ^ 31 by omega) (show 6 ^ gN D < 2 ^ 31 by omega), hk, m_lieBy A1 hn hn6 (show k < 2 ^ 31 by omega), c0', show ¬ ((99 : Int32) < 99) by decide, nI_add1, q7, if_true, if_false, true_or, or_true, false_or, or_false, true_and, and_true, false_and, and_false, not_true_eq_false, not_false_eq_true, iff_self, ite_self, ne_eq, true_implies, implies_true, Bool.false_eq_true, decide_true, decide_false, Bool.or_true, Bool.or_false, Bool.true_or, Bool.false_or]
      rw [ew, if_neg c0] at hp3
      exact hp3
  · have g1 := t.1.GM g
    refine ⟨h1, t.1, ?_⟩
    rw [x164_49]
    simp only [x164_0, x164_1, x164_2, x164_4, x164_7, x164_10, x164_11, x164_12, x164_15, x164_16, x164_17, x164_20, x164_23, x164_24, x164_25, x164_26, x164_29, x164_30, x164_31, x164_34, x164_36, x164_37, x164_38, x164_40, x164_41, x164_44, x164_46, x164_47, x164_51, x164_53, x164_56, x164_57, x164_59, x164_62, x164_65, x164_66, x164_69, x164_72, x164_75, x164_77, x164_79, x164_81, x164_83, x164_86, x164_87, x164_89, x164_92, x164_94, x164_95, x164_98, x164_99, x164_102, x164_103, x164_105, x164_107, x164_110, x164_112, x164_115, x164_116, x164_117, x164_119, x164_122, x164_123, x164_126, x164_127, x164_130, x164_131, x164_132, x164_135, x164_137, x164_139, x164_142, x164_145, x164_146, x164_149, x164_150, x164_153, x164_155, pv_some, pv_none, c1_int, c1_ref, c1_null, true_and, and_true, ne_eq, not_false_eq_true, not_true_eq_false, if_true, if_false, reduceCtorEq, Option.some.injEq, Value.int.injEq, absI_fold, minI_fold, maxI_fold, nI_lt_iff (show 6 ^ gN D < 2 ^ 31 by omega) (show 6 ^ gN D < 2 ^ 31 by omega), Nat.lt_irrefl, if_true, if_false, true_or, or_true, false_or, or_false, true_and, and_true, false_and, and_false, not_true_eq_false, not_false_eq_true, iff_self, ite_self, ne_eq, true_implies, implies_true, Bool.false_eq_true, decide_true, decide_false, Bool.or_true, Bool.or_false, Bool.true_or, Bool.false_or]
    by_cases c3 : x < 0 <;> simp only [c3, if_true, if_false, true_or, or_true, false_or, or_false, true_and, and_true, false_and, and_false, not_true_eq_false, not_false_eq_true, iff_self, ite_self, ne_eq, true_implies, implies_true, Bool.false_eq_true, decide_true, decide_false, Bool.or_true, Bool.or_false, Bool.true_or, Bool.false_or]
theorem m_bestNo (g : GM h) (hno : ¬ ((¬ hr < 0 ∧ ¬ 7 < hr) ∧ (x = -1 ∨ (¬ x < 0 ∧ ¬ hI h 46 0 - 1 < x)))) : X 164 0 [.ref 44, .int hr, .int x, .null, .null, .null, .null, .null, .null] [] h Q ↔ Q (some (.int (-1))) h := by
  by_cases c1 : ¬ hr < 0 ∧ ¬ 7 < hr
  · have c2 : ¬ x = -1 := fun q => hno ⟨c1, Or.inl q⟩
    have c3 : ¬ (¬ x < 0 ∧ ¬ hI h 46 0 - 1 < x) := fun q => hno ⟨c1, Or.inr q⟩
    simp only [x164_0, x164_1, x164_2, x164_4, x164_7, x164_10, x164_11, x164_12, x164_15, x164_16, x164_17, x164_20, x164_23, x164_24, x164_25, x164_26, x164_29, x164_30, x164_31, x164_34, x164_36, x164_37, x164_38, x164_40, x164_41, x164_44, x164_46, x164_47, x164_51, x164_53, x164_56, x164_57, x164_59, x164_62, x164_65, x164_66, x164_69, x164_72, x164_75, x164_77, x164_79, x164_81, x164_83, x164_86, x164_87, x164_89, x164_92, x164_94, x164_95, x164_98, x164_99, x164_102, x164_103, x164_105, x164_107, x164_110, x164_112, x164_115, x164_116, x164_117, x164_119, x164_122, x164_123, x164_126, x164_127, x164_130, x164_131, x164_132, x164_135, x164_137, x164_139, x164_142, x164_145, x164_146, x164_149, x164_150, x164_153, x164_155, pv_some, pv_none, c1_int, c1_ref, c1_null, true_and, and_true, ne_eq, not_false_eq_true, not_true_eq_false, if_true, if_false, reduceCtorEq, Option.some.injEq, Value.int.injEq, absI_fold, minI_fold, maxI_fold, m_in, bi_zero, c1, c2, c3, m_s g, m_isGuest g, if_true, if_false, true_or, or_true, false_or, or_false, true_and, and_true, false_and, and_false, not_true_eq_false, not_false_eq_true, iff_self, ite_self, ne_eq, true_implies, implies_true, Bool.false_eq_true, decide_true, decide_false, Bool.or_true, Bool.or_false, Bool.true_or, Bool.false_or]
  · simp only [x164_0, x164_1, x164_2, x164_4, x164_7, x164_10, x164_11, x164_12, x164_15, x164_16, x164_17, x164_20, x164_23, x164_24, x164_25, x164_26, x164_29, x164_30, x164_31, x164_34, x164_36, x164_37, x164_38, x164_40, x164_41, x164_44, x164_46, x164_47, x164_51, x164_53, x164_56, x164_57, x164_59, x164_62, x164_65, x164_66, x164_69, x164_72, x164_75, x164_77, x164_79, x164_81, x164_83, x164_86, x164_87, x164_89, x164_92, x164_94, x164_95, x164_98, x164_99, x164_102, x164_103, x164_105, x164_107, x164_110, x164_112, x164_115, x164_116, x164_117, x164_119, x164_122, x164_123, x164_126, x164_127, x164_130, x164_131, x164_132, x164_135, x164_137, x164_139, x164_142, x164_145, x164_146, x164_149, x164_150, x164_153, x164_155, pv_some, pv_none, c1_int, c1_ref, c1_null, true_and, and_true, ne_eq, not_false_eq_true, not_true_eq_false, if_true, if_false, reduceCtorEq, Option.some.injEq, Value.int.injEq, absI_fold, minI_fold, maxI_fold, m_in, bi_zero, c1, if_true, if_false, true_or, or_true, false_or, or_false, true_and, and_true, false_and, and_false, not_true_eq_false, not_false_eq_true, iff_self, ite_self, ne_eq, true_implies, implies_true, Bool.false_eq_true, decide_true, decide_false, Bool.or_true, Bool.or_false, Bool.true_or, Bool.false_or]
end MOD14
