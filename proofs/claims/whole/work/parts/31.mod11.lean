/-! WHAT DEPENDS ON THE GUESTS ALONE; the reference: guest, feigned -/
section CONGR
variable {K K' S S' T T' L L' P P' : Nat → Int32} {rn w hr : Int32} {G : Nat}
def agr (G : Nat) (f f' : Nat → Int32) : Prop := ∀ i, i < G → f i = f' i
theorem agr.rfl' {f : Nat → Int32} : agr G f f := fun _ _ => rfl
theorem agr.symm {f f' : Nat → Int32} (a : agr G f f') : agr G f' f := fun i hi => (a i hi).symm
theorem hearF_congr (hK : agr G K K') (hS : agr G S S') (hT : agr G T T') (hP : agr G P P') {i : Nat} (hi : i < G) : hearF K S T P rn w hr G i = hearF K' S' T' P' rn w hr G i := by
  unfold hearF
  refine foldN_congr (fun k hk s => ?_)
  unfold sndF
  rw [hP i hi, hP k hk, hK k hk, hS k hk, hT k hk, hT i hi]
theorem bitsF_congr {c c' : Nat → Bool} (hc : ∀ i, i < G → c i = c' i) : bitsF c G = bitsF c' G := by
  unfold bitsF
  refine foldN_congr (fun k hk s => ?_)
  rw [hc k hk]
theorem wakeF_congr (hK : agr G K K') (hS : agr G S S') (hT : agr G T T') (hL : agr G L L') (hP : agr G P P') : wakeF K S T L P rn w hr G = wakeF K' S' T' L' P' rn w hr G := by
  unfold wakeF
  refine bitsF_congr (fun i hi => ?_)
  unfold wakeC
  rw [hearF_congr hK hS hT hP hi, hL i hi]
theorem aheadF_congr {lo lo' : Nat → Int32} (hl : agr G lo lo') {i : Nat} (hi : i < G) : aheadF lo i G = aheadF lo' i G := by
  unfold aheadF
  refine foldN_congr (fun k hk s => ?_)
  rw [hl i hi, hl k hk]
theorem lawF_congr {lo lo' : Nat → Int32} (hl : agr G lo lo') {i : Nat} (hi : i < G) (n : Int32) : lawF lo n i G = lawF lo' n i G := by
  unfold lawF
  rw [aheadF_congr hl hi]
theorem bits_at : ∀ G, G < 6 → ∀ b0 b1 b2 b3 b4 : Bool, ∀ w, w < G → bitsF (fun i => [b0, b1, b2, b3, b4].getD i false) G >>> (nI w &&& 31) &&& 1 = bi ([b0, b1, b2, b3, b4].getD w false = true) := by decide +kernel
theorem bitsF_at {c : Nat → Bool} (hG : G ≤ 5) {w : Nat} (hw : w < G) : bitsF c G >>> (nI w &&& 31) &&& 1 = bi (c w = true) := by
  have e : ∀ i, i < 5 → [c 0, c 1, c 2, c 3, c 4].getD i false = c i := by
    intro i hi
    have : i = 0 ∨ i = 1 ∨ i = 2 ∨ i = 3 ∨ i = 4 := by omega
    rcases this with rfl | rfl | rfl | rfl | rfl <;> rfl
  have := bits_at G (by omega) (c 0) (c 1) (c 2) (c 3) (c 4) w hw
  rw [e w (by omega)] at this
  rw [← this]
  rw [bitsF_congr (fun i hi => (e i (by omega)).symm)]
end CONGR
section MOD11
variable {h : aH} {D : Nat → Int32} {i j k z n : Nat} {Q : Option Value → aH → Prop} {x y b : Int32}
def guestM (h : aH) (D : Nat → Int32) (i : Nat) (y : Int32) : Int32 := if y = 0 then D (6 + i) else if y = 1 then D (11 + i) else if y = 2 then D (16 + i) else if y = 3 then D (21 + i) else if y = 4 then hI h 48 i else if y = 5 then loM (asH h) D i else if y = 6 then hearF (hI (asH h) 53) (DA D 11) (DA D 16) (hI (asH h) 52) (D 3) (hI (asH h) 44 14) (hI (asH h) 44 15) (gN D) i else if y = 7 then wakeM (asH h) D >>> (nI i &&& 31) &&& 1 else -1
theorem m_guest (A : MA h D) (hi : i < gN D) : X 144 0 [.ref 44, .int (nI i), .int y] [] h Q ↔ Q (some (.int (guestM h D i y))) (asH h) := by
  have g := A.1
  have h5 := A.g5
  have hi5 : i < 5 := by omega
  have gi : ¬ nI i < 0 ∧ ¬ hI h 46 0 - 1 < nI i := by
    rw [A.g0, nI_m1 (by omega), nI_neg (by omega), nI_lt_iff (by omega) (by omega)]
    exact ⟨id, by omega⟩
  have A1 := A.SF (as_SF h)
  have g1 := A1.1
  have he : hearM (asH h) D (gN D) i = hearF (hI (asH h) 53) (DA D 11) (DA D 16) (hI (asH h) 52) (D 3) (hI (asH h) 44 14) (hI (asH h) 44 15) (gN D) i := by
    unfold hearM
    rw [as16]
    exact hearS_31 A.g5
  simp only [x144_0, x144_1, x144_2, x144_5, x144_8, x144_9, x144_10, x144_11, x144_14, x144_15, x144_60, x144_61, x144_64, x144_66, x144_67, x144_68, x144_69, x144_70, x144_71, x144_74, x144_76, x144_77, x144_78, x144_79, x144_80, x144_81, x144_84, x144_86, x144_87, x144_88, x144_89, x144_90, x144_91, x144_94, x144_96, x144_97, x144_98, x144_99, x144_100, x144_101, x144_104, x144_105, x144_106, x144_107, x144_108, x144_109, x144_112, x144_113, x144_114, x144_115, x144_118, x144_119, x144_120, x144_123, x144_124, x144_125, x144_126, x144_127, x144_128, x144_129, pv_some, pv_none, c1_int, c1_ref, c1_null, true_and, and_true, ne_eq, not_false_eq_true, not_true_eq_false, if_true, if_false, reduceCtorEq, Option.some.injEq, Value.int.injEq, absI_fold, minI_fold, maxI_fold, m_s g, m_isGuest g, bi_zero, gi, m_asItIs g, m_s g1, m_r2 g1, m_r4 g1, m_s46 g1, m_s48 g1, m_nz, p6, p11, p16, p21, i31a (show 6 ≤ 26 by decide) hi5, ncla (show 6 ≤ 26 by decide) hi5, i31a (show 11 ≤ 26 by decide) hi5, ncla (show 11 ≤ 26 by decide) hi5, i31a (show 16 ≤ 26 by decide) hi5, ncla (show 16 ≤ 26 by decide) hi5, i31a (show 21 ≤ 26 by decide) hi5, ncla (show 21 ≤ 26 by decide) hi5, A1.kind hi, A1.loud hi, A1.tune hi, A1.light hi, i10 (show i < 10 by omega), ncl hi5, as48, m_loud A1 hi, m_hearsOf A1 hi, he, m_wakes A1 as16, if_true, if_false, true_or, or_true, false_or, or_false, true_and, and_true, false_and, and_false, not_true_eq_false, not_false_eq_true, iff_self, ite_self, ne_eq, true_implies, implies_true, Bool.false_eq_true, decide_true, decide_false, Bool.or_true, Bool.or_false, Bool.true_or, Bool.false_or]
  unfold guestM
  by_cases h0 : y = 0
  · simp only [h0, if_true, if_false, true_or, or_true, false_or, or_false, true_and, and_true, false_and, and_false, not_true_eq_false, not_false_eq_true, iff_self, ite_self, ne_eq, true_implies, implies_true, Bool.false_eq_true, decide_true, decide_false, Bool.or_true, Bool.or_false, Bool.true_or, Bool.false_or]
  · by_cases h1 : y = 1
    · simp only [h0, h1, one_ne, if_true, if_false, true_or, or_true, false_or, or_false, true_and, and_true, false_and, and_false, not_true_eq_false, not_false_eq_true, iff_self, ite_self, ne_eq, true_implies, implies_true, Bool.false_eq_true, decide_true, decide_false, Bool.or_true, Bool.or_false, Bool.true_or, Bool.false_or]
    · by_cases h2 : y = 2
      · simp only [h0, h1, h2, if_true, if_false, true_or, or_true, false_or, or_false, true_and, and_true, false_and, and_false, not_true_eq_false, not_false_eq_true, iff_self, ite_self, ne_eq, true_implies, implies_true, Bool.false_eq_true, decide_true, decide_false, Bool.or_true, Bool.or_false, Bool.true_or, Bool.false_or]; rfl
      · by_cases h3 : y = 3
        · simp only [h0, h1, h2, h3, if_true, if_false, true_or, or_true, false_or, or_false, true_and, and_true, false_and, and_false, not_true_eq_false, not_false_eq_true, iff_self, ite_self, ne_eq, true_implies, implies_true, Bool.false_eq_true, decide_true, decide_false, Bool.or_true, Bool.or_false, Bool.true_or, Bool.false_or]; rfl
        · by_cases h4 : y = 4
          · simp only [h0, h1, h2, h3, h4, if_true, if_false, true_or, or_true, false_or, or_false, true_and, and_true, false_and, and_false, not_true_eq_false, not_false_eq_true, iff_self, ite_self, ne_eq, true_implies, implies_true, Bool.false_eq_true, decide_true, decide_false, Bool.or_true, Bool.or_false, Bool.true_or, Bool.false_or]; rfl
          · by_cases h5 : y = 5
            · simp only [h0, h1, h2, h3, h4, h5, if_true, if_false, true_or, or_true, false_or, or_false, true_and, and_true, false_and, and_false, not_true_eq_false, not_false_eq_true, iff_self, ite_self, ne_eq, true_implies, implies_true, Bool.false_eq_true, decide_true, decide_false, Bool.or_true, Bool.or_false, Bool.true_or, Bool.false_or]; rfl
            · by_cases h6 : y = 6
              · simp only [h0, h1, h2, h3, h4, h5, h6, if_true, if_false, true_or, or_true, false_or, or_false, true_and, and_true, false_and, and_false, not_true_eq_false, not_false_eq_true, iff_self, ite_self, ne_eq, true_implies, implies_true, Bool.false_eq_true, decide_true, decide_false, Bool.or_true, Bool.or_false, Bool.true_or, Bool.false_or]; rfl
              · by_cases h7 : y = 7
                · simp only [h0, h1, h2, h3, h4, h5, h6, h7, if_true, if_false, true_or, or_true, false_or, or_false, true_and, and_true, false_and, and_false, not_true_eq_false, not_false_eq_true, iff_self, ite_self, ne_eq, true_implies, implies_true, Bool.false_eq_true, decide_true, decide_false, Bool.or_true, Bool.or_false, Bool.true_or, Bool.false_or]; rfl
                · simp only [h0, h1, h2, h3, h4, h5, h6, h7, if_true, if_false, true_or, or_true, false_or, or_false, true_and, and_true, false_and, and_false, not_true_eq_false, not_false_eq_true, iff_self, ite_self, ne_eq, true_implies, implies_true, Bool.false_eq_true, decide_true, decide_false, Bool.or_true, Bool.or_false, Bool.true_or, Bool.false_or]
theorem m_guestNo (g : GM h) (hno : ¬ (¬ x < 0 ∧ ¬ hI h 46 0 - 1 < x)) : X 144 0 [.ref 44, .int x, .int y] [] h Q ↔ Q (some (.int (-1))) h := by
  simp only [x144_0, x144_1, x144_2, x144_5, x144_8, x144_9, x144_10, x144_11, x144_14, x144_15, x144_60, x144_61, x144_64, x144_66, x144_67, x144_68, x144_69, x144_70, x144_71, x144_74, x144_76, x144_77, x144_78, x144_79, x144_80, x144_81, x144_84, x144_86, x144_87, x144_88, x144_89, x144_90, x144_91, x144_94, x144_96, x144_97, x144_98, x144_99, x144_100, x144_101, x144_104, x144_105, x144_106, x144_107, x144_108, x144_109, x144_112, x144_113, x144_114, x144_115, x144_118, x144_119, x144_120, x144_123, x144_124, x144_125, x144_126, x144_127, x144_128, x144_129, pv_some, pv_none, c1_int, c1_ref, c1_null, true_and, and_true, ne_eq, not_false_eq_true, not_true_eq_false, if_true, if_false, reduceCtorEq, Option.some.injEq, Value.int.injEq, absI_fold, minI_fold, maxI_fold, m_s g, m_isGuest g, bi_zero, hno, if_true, if_false, true_or, or_true, false_or, or_false, true_and, and_true, false_and, and_false, not_true_eq_false, not_false_eq_true, iff_self, ite_self, ne_eq, true_implies, implies_true, Bool.false_eq_true, decide_true, decide_false, Bool.or_true, Bool.or_false, Bool.true_or, Bool.false_or]
/-- a report as one number -/
theorem rep_dec : ∀ w, w < 5 → ∀ r, r < 8 → ∀ o, o < 2 → (nI (100 * w + 10 * r + o) / 10 - nI (100 * w + 10 * r + o) / 10 / 10 * 10 = nI r ∧ nI (100 * w + 10 * r + o) / 100 = nI w ∧ nI (100 * w + 10 * r + o) - nI (100 * w + 10 * r + o) / 10 * 10 = nI o) := by decide +kernel
abbrev fgM (h : aH) (D : Nat → Int32) (w r o : Nat → Nat) (i : Nat) : Nat → Bool := fun k => decide (wakeF (feignK (DA D 6) i) (DA D 11) (DA D 16) (DA D 21) (hI (asH h) 52) (D 3) (hI (asH h) 44 14) (nI (r k)) (gN D) >>> (nI (w k) &&& 31) &&& 1 = nI (o k))
/-- a scratch as it is but for kinds and hour -/
def FT (h h1 : aH) : Prop := SF h h1 ∧ hI h1 52 = hI (asH h) 52 ∧ hI h1 44 14 = hI (asH h) 44 14 ∧ hI h1 44 16 = 31
theorem FT.as (h : aH) : FT h (asH h) := ⟨as_SF h, rfl, rfl, as16⟩
theorem FT.sI {h1 : aH} (w : FT h h1) {v : Int32} {a : Nat} (hk : a = 44 ∧ k = 15 ∨ a = 53) : FT h (sI h1 a k v) := ⟨w.1.sI v (by omega), by rw [← w.2.1]; funext j; rw [hI_sI, if_neg (by omega)], by rw [hI_sI, if_neg (by omega)]; exact w.2.2.1, by rw [hI_sI, if_neg (by omega)]; exact w.2.2.2⟩
theorem m_feigned (A : MA h D) (hz : hI h 44 10 = nI z) (hz8 : z ≤ 8) (w r o : Nat → Nat) (hr : ∀ k, k < z → hI h 51 k = nI (100 * w k + 10 * r k + o k) ∧ w k < gN D ∧ r k < 8 ∧ o k < 2) : ∃ h', SF h h' ∧ ∀ Q : Option Value → aH → Prop, X 171 0 [.ref 44, .null, .null, .null, .null] [] h Q ↔ Q (some (.int (bitsF (fun i => allB (fgM h D w r o i) z) (gN D)))) h' := by
  have g := A.1
  have h5 := A.g5
  suffices hs : ∃ h', SF h h' ∧ X 171 8 [.ref 44, .int 0, .int 0, .null, .null] [] (asH h) (fun a b => a = some (.int (bitsF (fun i => allB (fgM h D w r o i) z) (gN D))) ∧ b = h') by
    obtain ⟨h', fr, hk⟩ := hs
    refine ⟨h', fr, fun Q => X_iff ?_ Q⟩
    simp only [x171_0, x171_1, x171_4, x171_5, x171_6, x171_7, x171_9, x171_10, x171_13, x171_14, x171_15, x171_18, x171_19, x171_21, x171_22, x171_25, x171_26, x171_27, x171_30, x171_31, x171_34, x171_36, x171_37, x171_38, x171_39, x171_41, x171_42, x171_45, x171_46, x171_47, x171_48, x171_51, x171_52, x171_55, x171_57, x171_58, x171_61, x171_62, x171_65, x171_67, x171_68, x171_71, x171_74, x171_75, x171_76, x171_77, x171_81, x171_82, x171_85, x171_88, x171_89, x171_90, x171_93, x171_95, x171_96, x171_98, x171_99, x171_101, x171_102, x171_105, x171_106, x171_109, x171_110, x171_113, x171_114, x171_117, x171_119, x171_120, x171_122, x171_123, x171_124, x171_125, x171_126, x171_127, x171_130, x171_132, x171_133, x171_135, x171_136, x171_139, x171_140, x171_143, x171_144, x171_145, x171_148, x171_151, x171_152, x171_153, x171_156, x171_157, x171_158, x171_159, x171_162, x171_163, x171_164, x171_165, x171_168, x171_171, x171_172, pv_some, pv_none, c1_int, c1_ref, c1_null, true_and, and_true, ne_eq, not_false_eq_true, not_true_eq_false, if_true, if_false, reduceCtorEq, Option.some.injEq, Value.int.injEq, absI_fold, minI_fold, maxI_fold, m_s g, m_asItIs g, if_true, if_false, true_or, or_true, false_or, or_false, true_and, and_true, false_and, and_false, not_true_eq_false, not_false_eq_true, iff_self, ite_self, ne_eq, true_implies, implies_true, Bool.false_eq_true, decide_true, decide_false, Bool.or_true, Bool.or_false, Bool.true_or, Bool.false_or]
    exact hk
  refine loop_up (P := fun i => ∀ (l3 l4 : Value) (h1 : aH), FT h h1 → ∃ h', SF h h' ∧ X 171 8 [.ref 44, .int (bitsF (fun i => allB (fgM h D w r o i) z) i), .int (nI i), l3, l4] [] h1 (fun a b => a = some (.int (bitsF (fun i => allB (fgM h D w r o i) z) (gN D))) ∧ b = h')) (n := gN D) (fun i hi hp l3 l4 h1 W => ?_) (fun l3 l4 h1 W => ?_) _ _ _ (FT.as h)
  · have A1 := A.SF W.1
    have g1 := A1.1
    suffices inner : ∃ h', SF h h' ∧ X 171 20 [.ref 44, .int (bitsF (fun i => allB (fgM h D w r o i) z) i), .int (nI i), .int 0, l4] [] h1 (fun a b => a = some (.int (bitsF (fun i => allB (fgM h D w r o i) z) (gN D))) ∧ b = h') by
      obtain ⟨h', fr, hk⟩ := inner
      refine ⟨h', fr, ?_⟩
      rw [x171_8]
      simp only [x171_0, x171_1, x171_4, x171_5, x171_6, x171_7, x171_9, x171_10, x171_13, x171_14, x171_15, x171_18, x171_19, x171_21, x171_22, x171_25, x171_26, x171_27, x171_30, x171_31, x171_34, x171_36, x171_37, x171_38, x171_39, x171_41, x171_42, x171_45, x171_46, x171_47, x171_48, x171_51, x171_52, x171_55, x171_57, x171_58, x171_61, x171_62, x171_65, x171_67, x171_68, x171_71, x171_74, x171_75, x171_76, x171_77, x171_81, x171_82, x171_85, x171_88, x171_89, x171_90, x171_93, x171_95, x171_96, x171_98, x171_99, x171_101, x171_102, x171_105, x171_106, x171_109, x171_110, x171_113, x171_114, x171_117, x171_119, x171_120, x171_122, x171_123, x171_124, x171_125, x171_126, x171_127, x171_130, x171_132, x171_133, x171_135, x171_136, x171_139, x171_140, x171_143, x171_144, x171_145, x171_148, x171_151, x171_152, x171_153, x171_156, x171_157, x171_158, x171_159, x171_162, x171_163, x171_164, x171_165, x171_168, x171_171, x171_172, pv_some, pv_none, c1_int, c1_ref, c1_null, true_and, and_true, ne_eq, not_false_eq_true, not_true_eq_false, if_true, if_false, reduceCtorEq, Option.some.injEq, Value.int.injEq, absI_fold, minI_fold, maxI_fold, m_s g1, m_r2 g1, m_s46 g1, m_nz, show ib 0 (2, 31) = True from i31 (k := 0) (by decide), c0, mlt_G A1 hi, if_true, if_false, true_or, or_true, false_or, or_false, true_and, and_true, false_and, and_false, not_true_eq_false, not_false_eq_true, iff_self, ite_self, ne_eq, true_implies, implies_true, Bool.false_eq_true, decide_true, decide_false, Bool.or_true, Bool.or_false, Bool.true_or, Bool.false_or]
      exact hk
    -- kinds
    refine loop_up (P := fun j => ∀ (l4 : Value) (h2 : aH), FT h h2 → (∀ q, q < j → hI h2 53 q = feignK (DA D 6) i q) → ∃ h', SF h h' ∧ X 171 20 [.ref 44, .int (bitsF (fun i => allB (fgM h D w r o i) z) i), .int (nI i), .int (nI j), l4] [] h2 (fun a b => a = some (.int (bitsF (fun i => allB (fgM h D w r o i) z) (gN D))) ∧ b = h')) (n := gN D) (fun j hj hpj l4 h2 W2 hq => ?_) (fun l4 h2 W2 hq => ?_) l4 h1 W (fun q hq => by omega)
    · have A2 := A.SF W2.1
      have g2 := A2.1
      have hj5 : j < 5 := by omega
      have nx : ∃ h', SF h h' ∧ X 171 20 [.ref 44, .int (bitsF (fun i => allB (fgM h D w r o i) z) i), .int (nI i), .int (nI (j + 1)), .int (D (6 + j))] [] (sI h2 53 j (feignK (DA D 6) i j)) (fun a b => a = some (.int (bitsF (fun i => allB (fgM h D w r o i) z) (gN D))) ∧ b = h') := by
        refine hpj _ _ (W2.sI (Or.inr rfl)) (fun q hq1 => ?_)
        rw [hI_sI]
        by_cases e : q = j
        · rw [if_pos ⟨rfl, e⟩, e]
        · rw [if_neg (by omega)]
          exact hq q (by omega)
      obtain ⟨h', fr, hk⟩ := nx
      refine ⟨h', fr, ?_⟩
      rw [x171_20]
      simp only [x171_0, x171_1, x171_4, x171_5, x171_6, x171_7, x171_9, x171_10, x171_13, x171_14, x171_15, x171_18, x171_19, x171_21, x171_22, x171_25, x171_26, x171_27, x171_30, x171_31, x171_34, x171_36, x171_37, x171_38, x171_39, x171_41, x171_42, x171_45, x171_46, x171_47, x171_48, x171_51, x171_52, x171_55, x171_57, x171_58, x171_61, x171_62, x171_65, x171_67, x171_68, x171_71, x171_74, x171_75, x171_76, x171_77, x171_81, x171_82, x171_85, x171_88, x171_89, x171_90, x171_93, x171_95, x171_96, x171_98, x171_99, x171_101, x171_102, x171_105, x171_106, x171_109, x171_110, x171_113, x171_114, x171_117, x171_119, x171_120, x171_122, x171_123, x171_124, x171_125, x171_126, x171_127, x171_130, x171_132, x171_133, x171_135, x171_136, x171_139, x171_140, x171_143, x171_144, x171_145, x171_148, x171_151, x171_152, x171_153, x171_156, x171_157, x171_158, x171_159, x171_162, x171_163, x171_164, x171_165, x171_168, x171_171, x171_172, pv_some, pv_none, c1_int, c1_ref, c1_null, true_and, and_true, ne_eq, not_false_eq_true, not_true_eq_false, if_true, if_false, reduceCtorEq, Option.some.injEq, Value.int.injEq, absI_fold, minI_fold, maxI_fold, m_s g2, m_r2 g2, m_r13 g2, m_s46 g2, m_s53 g2, m_nz, show ib 0 (2, 31) = True from i31 (k := 0) (by decide), c0, mlt_G A2 hj, p6, i31a (show 6 ≤ 26 by decide) hj5, ncla (show 6 ≤ 26 by decide) hj5, A2.kind hj, iw5' hj5, ncl hj5, nI_add1, nI_eq_iff (show j < 2 ^ 31 by omega) (show i < 2 ^ 31 by omega), if_true, if_false, true_or, or_true, false_or, or_false, true_and, and_true, false_and, and_false, not_true_eq_false, not_false_eq_true, iff_self, ite_self, ne_eq, true_implies, implies_true, Bool.false_eq_true, decide_true, decide_false, Bool.or_true, Bool.or_false, Bool.true_or, Bool.false_or]
      unfold feignK at hk
      by_cases c1 : j = i
      · simp only [c1, if_true, if_false, true_or, or_true, false_or, or_false, true_and, and_true, false_and, and_false, not_true_eq_false, not_false_eq_true, iff_self, ite_self, ne_eq, true_implies, implies_true, Bool.false_eq_true, decide_true, decide_false, Bool.or_true, Bool.or_false, Bool.true_or, Bool.false_or] at hk ⊢
        exact hk
      · by_cases c2 : D (6 + j) = 3
        · simp only [c1, c2, if_true, if_false, true_or, or_true, false_or, or_false, true_and, and_true, false_and, and_false, not_true_eq_false, not_false_eq_true, iff_self, ite_self, ne_eq, true_implies, implies_true, Bool.false_eq_true, decide_true, decide_false, Bool.or_true, Bool.or_false, Bool.true_or, Bool.false_or] at hk ⊢
          exact hk
        · simp only [c1, c2, if_true, if_false, true_or, or_true, false_or, or_false, true_and, and_true, false_and, and_false, not_true_eq_false, not_false_eq_true, iff_self, ite_self, ne_eq, true_implies, implies_true, Bool.false_eq_true, decide_true, decide_false, Bool.or_true, Bool.or_false, Bool.true_or, Bool.false_or] at hk ⊢
          exact hk
    · -- reports
      have A2 := A.SF W2.1
      have g2 := A2.1
      suffices inner : ∃ h', SF h h' ∧ X 171 79 [.ref 44, .int (bitsF (fun i => allB (fgM h D w r o i) z) i), .int (nI i), .int 1, .int 0] [] h2 (fun a b => a = some (.int (bitsF (fun i => allB (fgM h D w r o i) z) (gN D))) ∧ b = h') by
        obtain ⟨h', fr, hk⟩ := inner
        refine ⟨h', fr, ?_⟩
        rw [x171_20]
        simp only [x171_0, x171_1, x171_4, x171_5, x171_6, x171_7, x171_9, x171_10, x171_13, x171_14, x171_15, x171_18, x171_19, x171_21, x171_22, x171_25, x171_26, x171_27, x171_30, x171_31, x171_34, x171_36, x171_37, x171_38, x171_39, x171_41, x171_42, x171_45, x171_46, x171_47, x171_48, x171_51, x171_52, x171_55, x171_57, x171_58, x171_61, x171_62, x171_65, x171_67, x171_68, x171_71, x171_74, x171_75, x171_76, x171_77, x171_81, x171_82, x171_85, x171_88, x171_89, x171_90, x171_93, x171_95, x171_96, x171_98, x171_99, x171_101, x171_102, x171_105, x171_106, x171_109, x171_110, x171_113, x171_114, x171_117, x171_119, x171_120, x171_122, x171_123, x171_124, x171_125, x171_126, x171_127, x171_130, x171_132, x171_133, x171_135, x171_136, x171_139, x171_140, x171_143, x171_144, x171_145, x171_148, x171_151, x171_152, x171_153, x171_156, x171_157, x171_158, x171_159, x171_162, x171_163, x171_164, x171_165, x171_168, x171_171, x171_172, pv_some, pv_none, c1_int, c1_ref, c1_null, true_and, and_true, ne_eq, not_false_eq_true, not_true_eq_false, if_true, if_false, reduceCtorEq, Option.some.injEq, Value.int.injEq, absI_fold, minI_fold, maxI_fold, m_s g2, m_r2 g2, m_s46 g2, m_nz, show ib 0 (2, 31) = True from i31 (k := 0) (by decide), c0, mnlt_G A2, if_true, if_false, true_or, or_true, false_or, or_false, true_and, and_true, false_and, and_false, not_true_eq_false, not_false_eq_true, iff_self, ite_self, ne_eq, true_implies, implies_true, Bool.false_eq_true, decide_true, decide_false, Bool.or_true, Bool.or_false, Bool.true_or, Bool.false_or]
        exact hk
      refine loop_up (P := fun k => ∀ (h3 : aH), FT h h3 → (∀ q, q < gN D → hI h3 53 q = feignK (DA D 6) i q) → ∃ h', SF h h' ∧ X 171 79 [.ref 44, .int (bitsF (fun i => allB (fgM h D w r o i) z) i), .int (nI i), .int (bi (allB (fgM h D w r o i) k = true)), .int (nI k)] [] h3 (fun a b => a = some (.int (bitsF (fun i => allB (fgM h D w r o i) z) (gN D))) ∧ b = h')) (n := z) (fun k hk hpk h3 W3 hq3 => ?_) (fun h3 W3 hq3 => ?_) h2 W2 hq
      · have A3 := A.SF W3.1
        have g3 := A3.1
        obtain ⟨hr1, hr2, hr3, hr4⟩ := hr k hk
        obtain ⟨d1, d2, d3⟩ := rep_dec (w k) (by omega) (r k) hr3 (o k) hr4
        have e51 : hI h3 51 k = nI (100 * w k + 10 * r k + o k) := (W3.1.2 51 k (by decide) (by decide) (by omega)).trans hr1
        have ez : hI h3 44 10 = nI z := (W3.1.2 44 10 (by decide) (by decide) (by omega)).trans hz
        have W4 : FT h (sI h3 44 15 (nI (r k))) := W3.sI (Or.inl ⟨rfl, rfl⟩)
        have wk := fun Q : Option Value → aH → Prop => m_wakes (Q := Q) (A.SF W4.1) W4.2.2.2
        have ew : wakeM (sI h3 44 15 (nI (r k))) D = wakeF (feignK (DA D 6) i) (DA D 11) (DA D 16) (DA D 21) (hI (asH h) 52) (D 3) (hI (asH h) 44 14) (nI (r k)) (gN D) := by
          unfold wakeM
          rw [W4.2.1, W4.2.2.1, hI_sI, if_pos ⟨rfl, rfl⟩]
          refine wakeF_congr (fun q hq1 => ?_) agr.rfl' agr.rfl' agr.rfl' agr.rfl'
          rw [hI_sI, if_neg (by omega)]
          exact hq3 q hq1
        rw [ew] at wk
        obtain ⟨h', fr, hx⟩ := hpk _ W4 (fun q hq1 => by rw [hI_sI, if_neg (by omega)]; exact hq3 q hq1)
        refine ⟨h', fr, ?_⟩
        rw [x171_79]
        simp only [x171_0, x171_1, x171_4, x171_5, x171_6, x171_7, x171_9, x171_10, x171_13, x171_14, x171_15, x171_18, x171_19, x171_21, x171_22, x171_25, x171_26, x171_27, x171_30, x171_31, x171_34, x171_36, x171_37, x171_38, x171_39, x171_41, x171_42, x171_45, x171_46, x171_47, x171_48, x171_51, x171_52, x171_55, x171_57, x171_58, x171_61, x171_62, x171_65, x171_67, x171_68, x171_71, x171_74, x171_75, x171_76, x171_77, x171_81, x171_82, x171_85, x171_88, x171_89, x171_90, x171_93, x171_95, x171_96, x171_98, x171_99, x171_101, x171_102, x171_105, x171_106, x171_109, x171_110, x171_113, x171_114, x171_117, x171_119, x171_120, x171_122, x171_123, x171_124, x171_125, x171_126, x171_127, x171_130, x171_132, x171_133, x171_135, x171_136, x171_139, x171_140, x171_143, x171_144, x171_145, x171_148, x171_151, x171_152, x171_153, x171_156, x171_157, x171_158, x171_159, x171_162, x171_163, x171_164, x171_165, x171_168, x171_171, x171_172, pv_some, pv_none, c1_int, c1_ref, c1_null, true_and, and_true, ne_eq, not_false_eq_true, not_true_eq_false, if_true, if_false, reduceCtorEq, Option.some.injEq, Value.int.injEq, absI_fold, minI_fold, maxI_fold, m_s g3, m_r9 g3, m_s51 g3, m_nz, hS_sI, hR_sI, ez, nI_lt_iff (show k < 2 ^ 31 by omega) (show z < 2 ^ 31 by omega), hk, ibn (show k < 8 by omega) (by decide), nI_cl (show k < 2 ^ 31 by omega), e51, hI_sI, show ((51 : Nat) = 44) = False by decide, d1, d2, d3, wk, bi_zero, nI_add1, show ¬ ((10 : Int32) = 0) by decide, show ¬ ((100 : Int32) = 0) by decide, if_true, if_false, true_or, or_true, false_or, or_false, true_and, and_true, false_and, and_false, not_true_eq_false, not_false_eq_true, iff_self, ite_self, ne_eq, true_implies, implies_true, Bool.false_eq_true, decide_true, decide_false, Bool.or_true, Bool.or_false, Bool.true_or, Bool.false_or]
        unfold allB at hx ⊢
        rw [foldN] at hx
        by_cases c1 : foldN (fun j b => b && fgM h D w r o i j) true k = true
        · by_cases c2 : wakeF (feignK (DA D 6) i) (DA D 11) (DA D 16) (DA D 21) (hI (asH h) 52) (D 3) (hI (asH h) 44 14) (nI (r k)) (gN D) >>> (nI (w k) &&& 31) &&& 1 = nI (o k)
          · have : fgM h D w r o i k = true := decide_eq_true c2
            simp only [c1, this, Bool.and_self, if_true, if_false, true_or, or_true, false_or, or_false, true_and, and_true, false_and, and_false, not_true_eq_false, not_false_eq_true, iff_self, ite_self, ne_eq, true_implies, implies_true, Bool.false_eq_true, decide_true, decide_false, Bool.or_true, Bool.or_false, Bool.true_or, Bool.false_or, bi_T] at hx
            simp only [c1, c2, if_true, if_false, true_or, or_true, false_or, or_false, true_and, and_true, false_and, and_false, not_true_eq_false, not_false_eq_true, iff_self, ite_self, ne_eq, true_implies, implies_true, Bool.false_eq_true, decide_true, decide_false, Bool.or_true, Bool.or_false, Bool.true_or, Bool.false_or, bi_T]
            exact hx
          · have : fgM h D w r o i k = false := decide_eq_false c2
            simp only [c1, this, Bool.and_false, if_true, if_false, true_or, or_true, false_or, or_false, true_and, and_true, false_and, and_false, not_true_eq_false, not_false_eq_true, iff_self, ite_self, ne_eq, true_implies, implies_true, Bool.false_eq_true, decide_true, decide_false, Bool.or_true, Bool.or_false, Bool.true_or, Bool.false_or, bi_F] at hx
            simp only [c1, c2, if_true, if_false, true_or, or_true, false_or, or_false, true_and, and_true, false_and, and_false, not_true_eq_false, not_false_eq_true, iff_self, ite_self, ne_eq, true_implies, implies_true, Bool.false_eq_true, decide_true, decide_false, Bool.or_true, Bool.or_false, Bool.true_or, Bool.false_or]
            exact hx
        · have c1' : foldN (fun j b => b && fgM h D w r o i j) true k = false := by simpa using c1
          simp only [c1', Bool.false_and, if_true, if_false, true_or, or_true, false_or, or_false, true_and, and_true, false_and, and_false, not_true_eq_false, not_false_eq_true, iff_self, ite_self, ne_eq, true_implies, implies_true, Bool.false_eq_true, decide_true, decide_false, Bool.or_true, Bool.or_false, Bool.true_or, Bool.false_or, bi_F] at hx
          simp only [c1', if_true, if_false, true_or, or_true, false_or, or_false, true_and, and_true, false_and, and_false, not_true_eq_false, not_false_eq_true, iff_self, ite_self, ne_eq, true_implies, implies_true, Bool.false_eq_true, decide_true, decide_false, Bool.or_true, Bool.or_false, Bool.true_or, Bool.false_or]
          exact hx
      · have g3 := W3.1.GM g
        have ez : hI h3 44 10 = nI z := (W3.1.2 44 10 (by decide) (by decide) (by omega)).trans hz
        obtain ⟨h', fr, hx⟩ := hp (.int (bi (allB (fgM h D w r o i) z = true))) (.int (nI z)) h3 W3
        refine ⟨h', fr, ?_⟩
        rw [x171_79]
        simp only [x171_0, x171_1, x171_4, x171_5, x171_6, x171_7, x171_9, x171_10, x171_13, x171_14, x171_15, x171_18, x171_19, x171_21, x171_22, x171_25, x171_26, x171_27, x171_30, x171_31, x171_34, x171_36, x171_37, x171_38, x171_39, x171_41, x171_42, x171_45, x171_46, x171_47, x171_48, x171_51, x171_52, x171_55, x171_57, x171_58, x171_61, x171_62, x171_65, x171_67, x171_68, x171_71, x171_74, x171_75, x171_76, x171_77, x171_81, x171_82, x171_85, x171_88, x171_89, x171_90, x171_93, x171_95, x171_96, x171_98, x171_99, x171_101, x171_102, x171_105, x171_106, x171_109, x171_110, x171_113, x171_114, x171_117, x171_119, x171_120, x171_122, x171_123, x171_124, x171_125, x171_126, x171_127, x171_130, x171_132, x171_133, x171_135, x171_136, x171_139, x171_140, x171_143, x171_144, x171_145, x171_148, x171_151, x171_152, x171_153, x171_156, x171_157, x171_158, x171_159, x171_162, x171_163, x171_164, x171_165, x171_168, x171_171, x171_172, pv_some, pv_none, c1_int, c1_ref, c1_null, true_and, and_true, ne_eq, not_false_eq_true, not_true_eq_false, if_true, if_false, reduceCtorEq, Option.some.injEq, Value.int.injEq, absI_fold, minI_fold, maxI_fold, m_s g3, ez, nI_lt_iff (show z < 2 ^ 31 by omega) (show z < 2 ^ 31 by omega), Nat.lt_irrefl, bi_zero, nI_add1, if_true, if_false, true_or, or_true, false_or, or_false, true_and, and_true, false_and, and_false, not_true_eq_false, not_false_eq_true, iff_self, ite_self, ne_eq, true_implies, implies_true, Bool.false_eq_true, decide_true, decide_false, Bool.or_true, Bool.or_false, Bool.true_or, Bool.false_or]
        unfold bitsF at hx ⊢
        rw [foldN] at hx
        by_cases c1 : allB (fgM h D w r o i) z = true
        · simp only [c1, if_true, if_false, true_or, or_true, false_or, or_false, true_and, and_true, false_and, and_false, not_true_eq_false, not_false_eq_true, iff_self, ite_self, ne_eq, true_implies, implies_true, Bool.false_eq_true, decide_true, decide_false, Bool.or_true, Bool.or_false, Bool.true_or, Bool.false_or] at hx ⊢
          exact hx
        · simp only [c1, if_true, if_false, true_or, or_true, false_or, or_false, true_and, and_true, false_and, and_false, not_true_eq_false, not_false_eq_true, iff_self, ite_self, ne_eq, true_implies, implies_true, Bool.false_eq_true, decide_true, decide_false, Bool.or_true, Bool.or_false, Bool.true_or, Bool.false_or, Int32.or_zero] at hx ⊢
          exact hx
  · have A1 := A.SF W.1
    have g1 := A1.1
    refine ⟨h1, W.1, ?_⟩
    rw [x171_8]
    simp only [x171_0, x171_1, x171_4, x171_5, x171_6, x171_7, x171_9, x171_10, x171_13, x171_14, x171_15, x171_18, x171_19, x171_21, x171_22, x171_25, x171_26, x171_27, x171_30, x171_31, x171_34, x171_36, x171_37, x171_38, x171_39, x171_41, x171_42, x171_45, x171_46, x171_47, x171_48, x171_51, x171_52, x171_55, x171_57, x171_58, x171_61, x171_62, x171_65, x171_67, x171_68, x171_71, x171_74, x171_75, x171_76, x171_77, x171_81, x171_82, x171_85, x171_88, x171_89, x171_90, x171_93, x171_95, x171_96, x171_98, x171_99, x171_101, x171_102, x171_105, x171_106, x171_109, x171_110, x171_113, x171_114, x171_117, x171_119, x171_120, x171_122, x171_123, x171_124, x171_125, x171_126, x171_127, x171_130, x171_132, x171_133, x171_135, x171_136, x171_139, x171_140, x171_143, x171_144, x171_145, x171_148, x171_151, x171_152, x171_153, x171_156, x171_157, x171_158, x171_159, x171_162, x171_163, x171_164, x171_165, x171_168, x171_171, x171_172, pv_some, pv_none, c1_int, c1_ref, c1_null, true_and, and_true, ne_eq, not_false_eq_true, not_true_eq_false, if_true, if_false, reduceCtorEq, Option.some.injEq, Value.int.injEq, absI_fold, minI_fold, maxI_fold, m_s g1, m_r2 g1, m_s46 g1, m_nz, show ib 0 (2, 31) = True from i31 (k := 0) (by decide), c0, mnlt_G A1, if_true, if_false, true_or, or_true, false_or, or_false, true_and, and_true, false_and, and_false, not_true_eq_false, not_false_eq_true, iff_self, ite_self, ne_eq, true_implies, implies_true, Bool.false_eq_true, decide_true, decide_false, Bool.or_true, Bool.or_false, Bool.true_or, Bool.false_or]
end MOD11
