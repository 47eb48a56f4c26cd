/-! THE REFERENCE: an item, a text -/
def itemG (c : Nat → Int32) (q : Nat) (ch : Int32) (D : Nat → Int32) : Option (Nat × (Nat → Int32)) := match rdR c 5 q with
  | none => none
  | some y => match tellF ch y.2 (fun j => vlF c (psF c q j)) D with
    | none => none
    | some D' => some (y.1, D')
theorem itemF_G (c : Nat → Int32) (p : Nat) (D : Nat → Int32) : itemF c p D = itemG c (p + 1) (c p) D := rfl
/-- an item of one number -/
theorem itemG_one {c : Nat → Int32} {q : Nat} {ch : Int32} {D D' : Nat → Int32} (hg : ch ≠ 103) (h1 : dig (c q) = true) (h2 : c (nxF c q) = 59) (ht : tellF ch 1 (fun j => vlF c (psF c q j)) D = some D') : itemG c q ch D = some (nxF c q + 1, D') := by
  unfold itemG
  rw [(rd_one c (nxF c q + 1)).mpr ⟨h1, h2, rfl⟩]
  dsimp only
  rw [ht]
theorem itemG_none {c : Nat → Int32} {q : Nat} {ch : Int32} {D : Nat → Int32} (hg : ch ≠ 103) (hno : ∀ D', dig (c q) = true → c (nxF c q) = 59 → tellF ch 1 (fun j => vlF c (psF c q j)) D ≠ some D') : itemG c q ch D = none := by
  unfold itemG
  cases hr : rdR c 5 q with
  | none => rfl
  | some y =>
    obtain ⟨e, m⟩ := y
    dsimp only
    cases ht : tellF ch m (fun j => vlF c (psF c q j)) D with
    | none => rfl
    | some D' =>
      exfalso
      by_cases hm : m = 1
      · subst hm
        obtain ⟨a1, a2, -⟩ := (rd_one c e).mp hr
        exact hno D' a1 a2 ht
      · unfold tellF at ht
        rw [if_neg hg, if_neg hm] at ht
        cases ht
theorem tell_n (t D : Nat → Int32) : tellF 110 1 t D = if okBeds (D 5) (t 0) then some (upD D 1 (t 0)) else none := by
  unfold tellF
  rw [if_neg (by decide), if_pos rfl, if_neg (by decide), if_pos rfl]
theorem tell_c (t D : Nat → Int32) : tellF 99 1 t D = if 40 < t 0 then none else some (upD (upD D 2 (t 0)) 5 1) := by
  unfold tellF
  rw [if_neg (by decide), if_pos rfl, if_pos rfl]
theorem tell_r (t D : Nat → Int32) : tellF 114 1 t D = if 12 < t 0 then none else some (upD (upD D 3 (t 0)) 5 1) := by
  unfold tellF
  rw [if_neg (by decide), if_pos rfl, if_neg (by decide), if_neg (by decide), if_pos rfl]
theorem tell_w (t D : Nat → Int32) : tellF 119 1 t D = if ¬ t 0 < 0 ∧ t 0 < D 1 - 1 then some (upD (upD D 4 (D 4 ||| 1 <<< (t 0 &&& 31))) 5 1) else none := by
  unfold tellF
  rw [if_neg (by decide), if_pos rfl, if_neg (by decide), if_neg (by decide), if_neg (by decide), if_pos rfl]
section MOD4
variable {h : aH} {n p q : Nat} {D : Nat → Int32} {ch : Int32}
/-- what is said of an item of the reference -/
def itemM (h : aH) (ch : Int32) (o : Option (Nat × (Nat → Int32))) : Prop := match o with
  | none => ∃ h', MFr h h' ∧ ∀ Q : Option Value → aH → Prop, X 133 0 [.ref 44, .int ch, .null] [] h Q ↔ Q (some (.int 0)) h'
  | some y => ∃ h', MFr h h' ∧ MD h' y.2 ∧ hI h' 44 11 = nI y.1 ∧ ∀ Q : Option Value → aH → Prop, X 133 0 [.ref 44, .int ch, .null] [] h Q ↔ Q (some (.int 1)) h'
theorem m_readsItem (T : MT h n) (hq : q < 800) (hat : hI h 44 11 = nI q) (M : MD h D) (w : DW D) : itemM h ch (itemG (mlt (hI h 45) n) q ch D) := by
  have g := T.1
  obtain ⟨⟨w1, w1'⟩, ⟨nb, w2, w3, w4, w5, -⟩, -, -, -, w10, -⟩ := id w
  have M0 : hI h 47 0 = nI (gN D) := (M.1 0 (by omega)).trans w1
  have M1 : hI h 47 1 = D 1 := M.1 1 (by omega)
  have M5 : hI h 47 5 = D 5 := M.1 5 (by omega)
  have M4 : hI h 47 4 = D 4 := M.1 4 (by omega)
  have ib1 : ib 1 (2, 31) = True := i31 (k := 1) (by decide)
  have ib2 : ib 2 (2, 31) = True := i31 (k := 2) (by decide)
  have ib3 : ib 3 (2, 31) = True := i31 (k := 3) (by decide)
  have ib4 : ib 4 (2, 31) = True := i31 (k := 4) (by decide)
  have ib5' : ib 5 (2, 31) = True := i31 (k := 5) (by decide)
  have iw1 : ibw 1 (2, 31) = True := iw31 (k := 1) (by decide)
  have iw2 : ibw 2 (2, 31) = True := iw31 (k := 2) (by decide)
  have iw3 : ibw 3 (2, 31) = True := iw31 (k := 3) (by decide)
  have iw4 : ibw 4 (2, 31) = True := iw31 (k := 4) (by decide)
  have iw5 : ibw 5 (2, 31) = True := iw31 (k := 5) (by decide)
  have m1lt : ((-1 : Int32) < 0) = True := by decide
  have z1 : ((0 : Int32) < -1) = False := by decide
  have T5 : MT (sI h 47 5 1) n := ⟨g, by rw [hI_sI, if_neg (by omega)]; exact T.2.1, T.2.2⟩
  have at5 : hI (sI h 47 5 1) 44 11 = nI q := by rw [hI_sI, if_neg (by omega)]; exact hat
  have c5 : mlt (hI (sI h 47 5 1) 45) = mlt (hI h 45) := by
    rw [show hI (sI h 47 5 1) 45 = hI h 45 from by funext p; rw [hI_sI, if_neg (by omega)]]
  have M5' : MD (sI h 47 5 1) (upD D 5 1) := MD_up M (by omega) (by omega)
  have w5' : DW (upD D 5 1) := DW_up_other w _ (Or.inr (Or.inr (Or.inr ⟨rfl, rfl⟩)))
  have fr5 : MFr h (sI h 47 5 1) := (MFr.refl h).sI _ (Or.inl rfl)
  have kn := fun (Q : Option Value → aH → Prop) (lo hi en : Int32) => m_number (Q := Q) (lo := lo) (hi := hi) (en := en) T (show q < 900 by omega) hat
  have kn5 := fun (Q : Option Value → aH → Prop) (lo hi en : Int32) => m_number (Q := Q) (lo := lo) (hi := hi) (en := en) T5 (show q < 900 by omega) at5
  rw [c5] at kn5
  generalize hc : mlt (hI h 45) n = c at *
  by_cases hn : ch = 110
  · -- beds
    have go : ∀ Q : Option Value → aH → Prop, X 133 0 [.ref 44, .int ch, .null] [] h Q ↔ if 0 < nmV c q 2 6 59 ∧ D 5 = 0 then Q (some (.int 1)) (sI (sI h 44 11 (nI (nmP c q))) 47 1 (nmV c q 2 6 59)) else Q (some (.int 0)) (sI (sI h 44 11 (nI (nmP c q))) 47 1 (nmV c q 2 6 59)) := by
      intro Q
      simp only [x133_0, x133_1, x133_3, x133_6, x133_7, x133_8, x133_10, x133_12, x133_15, x133_16, x133_17, x133_20, x133_21, x133_22, x133_23, x133_24, x133_27, x133_28, x133_31, x133_32, x133_33, x133_36, x133_37, x133_40, x133_41, x133_42, x133_43, x133_46, x133_47, x133_48, x133_49, x133_50, x133_92, x133_93, x133_96, x133_97, x133_98, x133_99, x133_100, x133_103, x133_104, x133_105, x133_106, x133_107, x133_109, x133_112, x133_113, x133_114, x133_117, x133_118, x133_119, x133_120, x133_121, x133_124, x133_125, x133_128, x133_129, x133_130, x133_131, x133_132, x133_133, x133_134, x133_137, x133_138, x133_141, x133_142, x133_143, x133_144, x133_147, x133_148, x133_149, x133_150, x133_152, x133_154, x133_157, x133_158, x133_159, x133_162, x133_163, x133_164, x133_167, x133_168, x133_171, x133_172, x133_173, x133_174, x133_177, x133_178, x133_179, x133_180, x133_182, x133_184, x133_187, x133_188, x133_189, x133_192, x133_193, x133_194, x133_197, x133_198, x133_201, x133_202, x133_203, x133_204, pv_some, pv_none, c1_int, c1_ref, c1_null, true_and, and_true, ne_eq, not_false_eq_true, not_true_eq_false, if_true, if_false, reduceCtorEq, Option.some.injEq, Value.int.injEq, absI_fold, minI_fold, maxI_fold, m_s g, m_r0 g, m_r2 g, m_r3 g, m_r4 g, m_r5 g, m_r7 g, m_r9 g, m_r12 g, m_r13 g, m_r17 g, m_r18 g, m_s45 g, m_s46 g, m_s47 g, m_s48 g, m_s49 g, m_s50 g, m_s51 g, m_s52 g, m_s53 g, m_s54 g, m_s55 g, m_nz, hS_sI, hR_sI, hS_wI, hR_wI, hn, kn, iw1, ct1, ib5', show (5 : Int32).toNatClampNeg = 5 from five_t, hI_sI, show ((47 : Nat) = 44) = False by decide, show ((5 : Nat) = 1) = False by decide, M5, if_true, if_false, true_or, or_true, false_or, or_false, true_and, and_true, false_and, and_false, not_true_eq_false, not_false_eq_true, iff_self, ite_self, ne_eq, true_implies, implies_true, Bool.false_eq_true, decide_true, decide_false, Bool.or_true, Bool.or_false, Bool.true_or, Bool.false_or]
      by_cases a1 : 0 < nmV c q 2 6 59 <;> by_cases a2 : D 5 = 0 <;> simp only [a1, a2, if_true, if_false, true_or, or_true, false_or, or_false, true_and, and_true, false_and, and_false, not_true_eq_false, not_false_eq_true, iff_self, ite_self, ne_eq, true_implies, implies_true, Bool.false_eq_true, decide_true, decide_false, Bool.or_true, Bool.or_false, Bool.true_or, Bool.false_or]
    have fr : MFr h (sI (sI h 44 11 (nI (nmP c q))) 47 1 (nmV c q 2 6 59)) := ((MFr.refl h).sI _ (Or.inr ⟨rfl, rfl⟩)).sI _ (Or.inl rfl)
    by_cases hs : ¬ nmV c q 2 6 59 < 0 ∧ D 5 = 0
    · obtain ⟨v, pp⟩ := nm_val hs.1
      obtain ⟨a1, a2, a3, a4⟩ := (nm_ok _ _ _ _ _).mp hs.1
      have hp : 0 < nmV c q 2 6 59 := by
        rw [v]
        obtain ⟨k, hk, e⟩ := vlF_small c q a1
        rw [e] at a3 ⊢
        have := lit_lt (by omega) (by decide) (show ¬ nI k < nI 2 from a3)
        exact nI_lt (a := 0) (by omega) (by omega)
      rw [itemG_one (D' := upD D 1 (vlF c q)) (by rw [hn]; decide) a1 a2 (by rw [hn, tell_n]; exact if_pos ⟨hs.2, a3, a4⟩)]
      refine ⟨_, fr, ?_, ?_, fun Q => by rw [go Q, if_pos ⟨hp, hs.2⟩]⟩
      · dsimp only
        rw [v]
        exact MD_up (MD_at M) (by omega) (by omega)
      · rw [hI_sI, if_neg (by omega), hI_sI, if_pos ⟨rfl, rfl⟩, pp]
    · rw [itemG_none (by rw [hn]; decide) (fun D' a1 a2 ht => ?_)]
      · refine ⟨_, fr, fun Q => by rw [go Q, if_neg]; rintro ⟨a1, a2⟩; exact hs ⟨fun z => absurd (Int32.lt_trans a1 z) (by decide), a2⟩⟩
      · rw [hn, tell_n] at ht
        split at ht
        · rename_i z
          exact hs ⟨(nm_ok _ _ _ _ _).mpr ⟨a1, a2, z.2⟩, z.1⟩
        · cases ht
  · by_cases hgst : ch = 103
    · have r5 : ∀ j, hI (sI h 47 5 1) 47 j = if j = 5 then 1 else hI h 47 j := fun j => by rw [hI_sI]; simp
      have kg := m_readsGuest (D := upD D 5 1) T5 hq at5 M5' w5' (by rw [r5]; rfl) (by rw [r5]; exact M1) (by rw [r5, gN_up D (by decide)]; exact M0)
      rw [c5, hc, gOk_up5, gst_up5] at kg
      have go : ∀ Q : Option Value → aH → Prop, X 133 0 [.ref 44, .int ch, .null] [] h Q ↔ X 132 0 [.ref 44, .null, .null, .null, .null, .null, .null, .null] [] (sI h 47 5 1) (fun r h' => X 133 96 [.ref 44, .int ch, .null] (pv r []) h' Q) := by
        intro Q
        simp only [x133_0, x133_1, x133_3, x133_6, x133_7, x133_8, x133_10, x133_12, x133_15, x133_16, x133_17, x133_20, x133_21, x133_22, x133_23, x133_24, x133_27, x133_28, x133_31, x133_32, x133_33, x133_36, x133_37, x133_40, x133_41, x133_42, x133_43, x133_46, x133_47, x133_48, x133_49, x133_50, x133_92, x133_93, x133_96, x133_97, x133_98, x133_99, x133_100, x133_103, x133_104, x133_105, x133_106, x133_107, x133_109, x133_112, x133_113, x133_114, x133_117, x133_118, x133_119, x133_120, x133_121, x133_124, x133_125, x133_128, x133_129, x133_130, x133_131, x133_132, x133_133, x133_134, x133_137, x133_138, x133_141, x133_142, x133_143, x133_144, x133_147, x133_148, x133_149, x133_150, x133_152, x133_154, x133_157, x133_158, x133_159, x133_162, x133_163, x133_164, x133_167, x133_168, x133_171, x133_172, x133_173, x133_174, x133_177, x133_178, x133_179, x133_180, x133_182, x133_184, x133_187, x133_188, x133_189, x133_192, x133_193, x133_194, x133_197, x133_198, x133_201, x133_202, x133_203, x133_204, pv_some, pv_none, c1_int, c1_ref, c1_null, true_and, and_true, ne_eq, not_false_eq_true, not_true_eq_false, if_true, if_false, reduceCtorEq, Option.some.injEq, Value.int.injEq, absI_fold, minI_fold, maxI_fold, m_s g, m_r0 g, m_r2 g, m_r3 g, m_r4 g, m_r5 g, m_r7 g, m_r9 g, m_r12 g, m_r13 g, m_r17 g, m_r18 g, m_s45 g, m_s46 g, m_s47 g, m_s48 g, m_s49 g, m_s50 g, m_s51 g, m_s52 g, m_s53 g, m_s54 g, m_s55 g, m_nz, hS_sI, hR_sI, hS_wI, hR_wI, hgst, iw5, five_t, if_true, if_false, true_or, or_true, false_or, or_false, true_and, and_true, false_and, and_false, not_true_eq_false, not_false_eq_true, iff_self, ite_self, ne_eq, true_implies, implies_true, Bool.false_eq_true, decide_true, decide_false, Bool.or_true, Bool.or_false, Bool.true_or, Bool.false_or, show ((103 : Int32) = 110) = False by decide, show ((103 : Int32) = 99) = False by decide]
      by_cases hok : gOk c q D
      · obtain ⟨h', f', md', at', k'⟩ := kg.1 hok
        have hit : itemG c q ch D = some (psF c q 5, gstD D (fun j => vlF c (psF c q j))) := by
          obtain ⟨m, hr, rfl, hok'⟩ := (gOk_iff c w (psF c q 5)).mpr ⟨hok, rfl⟩
          unfold itemG
          rw [hr]
          dsimp only
          unfold tellF
          rw [if_pos hgst, if_pos ⟨rfl, hok'⟩]
        rw [hit]
        refine ⟨h', fr5.trans f', md', at', fun Q => ?_⟩
        rw [go Q, k']
        simp only [x133_0, x133_1, x133_3, x133_6, x133_7, x133_8, x133_10, x133_12, x133_15, x133_16, x133_17, x133_20, x133_21, x133_22, x133_23, x133_24, x133_27, x133_28, x133_31, x133_32, x133_33, x133_36, x133_37, x133_40, x133_41, x133_42, x133_43, x133_46, x133_47, x133_48, x133_49, x133_50, x133_92, x133_93, x133_96, x133_97, x133_98, x133_99, x133_100, x133_103, x133_104, x133_105, x133_106, x133_107, x133_109, x133_112, x133_113, x133_114, x133_117, x133_118, x133_119, x133_120, x133_121, x133_124, x133_125, x133_128, x133_129, x133_130, x133_131, x133_132, x133_133, x133_134, x133_137, x133_138, x133_141, x133_142, x133_143, x133_144, x133_147, x133_148, x133_149, x133_150, x133_152, x133_154, x133_157, x133_158, x133_159, x133_162, x133_163, x133_164, x133_167, x133_168, x133_171, x133_172, x133_173, x133_174, x133_177, x133_178, x133_179, x133_180, x133_182, x133_184, x133_187, x133_188, x133_189, x133_192, x133_193, x133_194, x133_197, x133_198, x133_201, x133_202, x133_203, x133_204, pv_some, pv_none, c1_int, c1_ref, c1_null, true_and, and_true, ne_eq, not_false_eq_true, not_true_eq_false, if_true, if_false, reduceCtorEq, Option.some.injEq, Value.int.injEq, absI_fold, minI_fold, maxI_fold, one_ne, if_true, if_false, true_or, or_true, false_or, or_false, true_and, and_true, false_and, and_false, not_true_eq_false, not_false_eq_true, iff_self, ite_self, ne_eq, true_implies, implies_true, Bool.false_eq_true, decide_true, decide_false, Bool.or_true, Bool.or_false, Bool.true_or, Bool.false_or]
      · obtain ⟨h', f', k'⟩ := kg.2 hok
        have hit : itemG c q ch D = none := by
          unfold itemG
          cases hr : rdR c 5 q with
          | none => rfl
          | some y =>
            obtain ⟨e, m⟩ := y
            dsimp only
            unfold tellF
            rw [if_pos hgst]
            by_cases z : m = 5 ∧ okGD D (fun j => vlF c (psF c q j)) = true
            · exact absurd ((gOk_iff c w e).mp ⟨m, hr, z.1, z.2⟩).1 hok
            · rw [if_neg z]
        rw [hit]
        refine ⟨h', fr5.trans f', fun Q => ?_⟩
        rw [go Q, k']
        simp only [x133_0, x133_1, x133_3, x133_6, x133_7, x133_8, x133_10, x133_12, x133_15, x133_16, x133_17, x133_20, x133_21, x133_22, x133_23, x133_24, x133_27, x133_28, x133_31, x133_32, x133_33, x133_36, x133_37, x133_40, x133_41, x133_42, x133_43, x133_46, x133_47, x133_48, x133_49, x133_50, x133_92, x133_93, x133_96, x133_97, x133_98, x133_99, x133_100, x133_103, x133_104, x133_105, x133_106, x133_107, x133_109, x133_112, x133_113, x133_114, x133_117, x133_118, x133_119, x133_120, x133_121, x133_124, x133_125, x133_128, x133_129, x133_130, x133_131, x133_132, x133_133, x133_134, x133_137, x133_138, x133_141, x133_142, x133_143, x133_144, x133_147, x133_148, x133_149, x133_150, x133_152, x133_154, x133_157, x133_158, x133_159, x133_162, x133_163, x133_164, x133_167, x133_168, x133_171, x133_172, x133_173, x133_174, x133_177, x133_178, x133_179, x133_180, x133_182, x133_184, x133_187, x133_188, x133_189, x133_192, x133_193, x133_194, x133_197, x133_198, x133_201, x133_202, x133_203, x133_204, pv_some, pv_none, c1_int, c1_ref, c1_null, true_and, and_true, ne_eq, not_false_eq_true, not_true_eq_false, if_true, if_false, reduceCtorEq, Option.some.injEq, Value.int.injEq, absI_fold, minI_fold, maxI_fold, if_true, if_false, true_or, or_true, false_or, or_false, true_and, and_true, false_and, and_false, not_true_eq_false, not_false_eq_true, iff_self, ite_self, ne_eq, true_implies, implies_true, Bool.false_eq_true, decide_true, decide_false, Bool.or_true, Bool.or_false, Bool.true_or, Bool.false_or]
    · by_cases hcc : ch = 99
      · have go : ∀ Q : Option Value → aH → Prop, X 133 0 [.ref 44, .int ch, .null] [] h Q ↔ if nmV c q 0 40 59 < 0 then Q (some (.int 0)) (sI (sI (sI h 47 5 1) 44 11 (nI (nmP c q))) 47 2 (nmV c q 0 40 59)) else Q (some (.int 1)) (sI (sI (sI h 47 5 1) 44 11 (nI (nmP c q))) 47 2 (nmV c q 0 40 59)) := by
          intro Q
          simp only [x133_0, x133_1, x133_3, x133_6, x133_7, x133_8, x133_10, x133_12, x133_15, x133_16, x133_17, x133_20, x133_21, x133_22, x133_23, x133_24, x133_27, x133_28, x133_31, x133_32, x133_33, x133_36, x133_37, x133_40, x133_41, x133_42, x133_43, x133_46, x133_47, x133_48, x133_49, x133_50, x133_92, x133_93, x133_96, x133_97, x133_98, x133_99, x133_100, x133_103, x133_104, x133_105, x133_106, x133_107, x133_109, x133_112, x133_113, x133_114, x133_117, x133_118, x133_119, x133_120, x133_121, x133_124, x133_125, x133_128, x133_129, x133_130, x133_131, x133_132, x133_133, x133_134, x133_137, x133_138, x133_141, x133_142, x133_143, x133_144, x133_147, x133_148, x133_149, x133_150, x133_152, x133_154, x133_157, x133_158, x133_159, x133_162, x133_163, x133_164, x133_167, x133_168, x133_171, x133_172, x133_173, x133_174, x133_177, x133_178, x133_179, x133_180, x133_182, x133_184, x133_187, x133_188, x133_189, x133_192, x133_193, x133_194, x133_197, x133_198, x133_201, x133_202, x133_203, x133_204, pv_some, pv_none, c1_int, c1_ref, c1_null, true_and, and_true, ne_eq, not_false_eq_true, not_true_eq_false, if_true, if_false, reduceCtorEq, Option.some.injEq, Value.int.injEq, absI_fold, minI_fold, maxI_fold, m_s g, m_r0 g, m_r2 g, m_r3 g, m_r4 g, m_r5 g, m_r7 g, m_r9 g, m_r12 g, m_r13 g, m_r17 g, m_r18 g, m_s45 g, m_s46 g, m_s47 g, m_s48 g, m_s49 g, m_s50 g, m_s51 g, m_s52 g, m_s53 g, m_s54 g, m_s55 g, m_nz, hS_sI, hR_sI, hS_wI, hR_wI, hcc, iw5, five_t, kn5, iw2, ib2, ct2, hI_sI, if_true, if_false, true_or, or_true, false_or, or_false, true_and, and_true, false_and, and_false, not_true_eq_false, not_false_eq_true, iff_self, ite_self, ne_eq, true_implies, implies_true, Bool.false_eq_true, decide_true, decide_false, Bool.or_true, Bool.or_false, Bool.true_or, Bool.false_or, show ((99 : Int32) = 110) = False by decide]
          all_goals by_cases a1 : nmV c q 0 40 59 < 0 <;> simp only [a1, if_true, if_false, true_or, or_true, false_or, or_false, true_and, and_true, false_and, and_false, not_true_eq_false, not_false_eq_true, iff_self, ite_self, ne_eq, true_implies, implies_true, Bool.false_eq_true, decide_true, decide_false, Bool.or_true, Bool.or_false, Bool.true_or, Bool.false_or]
        have fr : MFr h (sI (sI (sI h 47 5 1) 44 11 (nI (nmP c q))) 47 2 (nmV c q 0 40 59)) := (fr5.sI _ (Or.inr ⟨rfl, rfl⟩)).sI _ (Or.inl rfl)
        by_cases hs : nmV c q 0 40 59 < 0
        · rw [itemG_none hgst (fun D' a1 a2 ht => ?_)]
          · exact ⟨_, fr, fun Q => by rw [go Q, if_pos hs]⟩
          · rw [hcc, tell_c] at ht
            split at ht
            · cases ht
            · rename_i z
              exact (nm_ok _ _ _ _ _).mpr ⟨a1, a2, small_nn (vlF_small c q a1), z⟩ hs
        · obtain ⟨v, pp⟩ := nm_val hs
          obtain ⟨a1, a2, a3, a4⟩ := (nm_ok _ _ _ _ _).mp hs
          rw [itemG_one (D' := upD (upD D 2 (vlF c q)) 5 1) hgst a1 a2 (by rw [hcc, tell_c]; exact if_neg a4)]
          refine ⟨_, fr, ?_, ?_, fun Q => by rw [go Q, if_neg hs]⟩
          · dsimp only
            rw [v, show upD (upD D 2 (vlF c q)) 5 1 = upD (upD D 5 1) 2 (vlF c q) from by funext j; unfold upD; grind]
            exact MD_up (MD_at M5') (by omega) (by omega)
          · rw [hI_sI, if_neg (by omega), hI_sI, if_pos ⟨rfl, rfl⟩, pp]
      · by_cases hrr : ch = 114
        · have go : ∀ Q : Option Value → aH → Prop, X 133 0 [.ref 44, .int ch, .null] [] h Q ↔ if nmV c q 0 12 59 < 0 then Q (some (.int 0)) (sI (sI (sI h 47 5 1) 44 11 (nI (nmP c q))) 47 3 (nmV c q 0 12 59)) else Q (some (.int 1)) (sI (sI (sI h 47 5 1) 44 11 (nI (nmP c q))) 47 3 (nmV c q 0 12 59)) := by
            intro Q
            simp only [x133_0, x133_1, x133_3, x133_6, x133_7, x133_8, x133_10, x133_12, x133_15, x133_16, x133_17, x133_20, x133_21, x133_22, x133_23, x133_24, x133_27, x133_28, x133_31, x133_32, x133_33, x133_36, x133_37, x133_40, x133_41, x133_42, x133_43, x133_46, x133_47, x133_48, x133_49, x133_50, x133_92, x133_93, x133_96, x133_97, x133_98, x133_99, x133_100, x133_103, x133_104, x133_105, x133_106, x133_107, x133_109, x133_112, x133_113, x133_114, x133_117, x133_118, x133_119, x133_120, x133_121, x133_124, x133_125, x133_128, x133_129, x133_130, x133_131, x133_132, x133_133, x133_134, x133_137, x133_138, x133_141, x133_142, x133_143, x133_144, x133_147, x133_148, x133_149, x133_150, x133_152, x133_154, x133_157, x133_158, x133_159, x133_162, x133_163, x133_164, x133_167, x133_168, x133_171, x133_172, x133_173, x133_174, x133_177, x133_178, x133_179, x133_180, x133_182, x133_184, x133_187, x133_188, x133_189, x133_192, x133_193, x133_194, x133_197, x133_198, x133_201, x133_202, x133_203, x133_204, pv_some, pv_none, c1_int, c1_ref, c1_null, true_and, and_true, ne_eq, not_false_eq_true, not_true_eq_false, if_true, if_false, reduceCtorEq, Option.some.injEq, Value.int.injEq, absI_fold, minI_fold, maxI_fold, m_s g, m_r0 g, m_r2 g, m_r3 g, m_r4 g, m_r5 g, m_r7 g, m_r9 g, m_r12 g, m_r13 g, m_r17 g, m_r18 g, m_s45 g, m_s46 g, m_s47 g, m_s48 g, m_s49 g, m_s50 g, m_s51 g, m_s52 g, m_s53 g, m_s54 g, m_s55 g, m_nz, hS_sI, hR_sI, hS_wI, hR_wI, hrr, iw5, five_t, kn5, iw3, ib3, ct3, hI_sI, if_true, if_false, true_or, or_true, false_or, or_false, true_and, and_true, false_and, and_false, not_true_eq_false, not_false_eq_true, iff_self, ite_self, ne_eq, true_implies, implies_true, Bool.false_eq_true, decide_true, decide_false, Bool.or_true, Bool.or_false, Bool.true_or, Bool.false_or, show ((114 : Int32) = 110) = False by decide, show ((114 : Int32) = 99) = False by decide, show ((114 : Int32) = 103) = False by decide]
            all_goals by_cases a1 : nmV c q 0 12 59 < 0 <;> simp only [a1, if_true, if_false, true_or, or_true, false_or, or_false, true_and, and_true, false_and, and_false, not_true_eq_false, not_false_eq_true, iff_self, ite_self, ne_eq, true_implies, implies_true, Bool.false_eq_true, decide_true, decide_false, Bool.or_true, Bool.or_false, Bool.true_or, Bool.false_or]
          have fr : MFr h (sI (sI (sI h 47 5 1) 44 11 (nI (nmP c q))) 47 3 (nmV c q 0 12 59)) := (fr5.sI _ (Or.inr ⟨rfl, rfl⟩)).sI _ (Or.inl rfl)
          by_cases hs : nmV c q 0 12 59 < 0
          · rw [itemG_none hgst (fun D' a1 a2 ht => ?_)]
            · exact ⟨_, fr, fun Q => by rw [go Q, if_pos hs]⟩
            · rw [hrr, tell_r] at ht
              split at ht
              · cases ht
              · rename_i z
                exact (nm_ok _ _ _ _ _).mpr ⟨a1, a2, small_nn (vlF_small c q a1), z⟩ hs
          · obtain ⟨v, pp⟩ := nm_val hs
            obtain ⟨a1, a2, a3, a4⟩ := (nm_ok _ _ _ _ _).mp hs
            rw [itemG_one (D' := upD (upD D 3 (vlF c q)) 5 1) hgst a1 a2 (by rw [hrr, tell_r]; exact if_neg a4)]
            refine ⟨_, fr, ?_, ?_, fun Q => by rw [go Q, if_neg hs]⟩
            · dsimp only
              rw [v, show upD (upD D 3 (vlF c q)) 5 1 = upD (upD D 5 1) 3 (vlF c q) from by funext j; unfold upD; grind]
              exact MD_up (MD_at M5') (by omega) (by omega)
            · rw [hI_sI, if_neg (by omega), hI_sI, if_pos ⟨rfl, rfl⟩, pp]
        · by_cases hw : ch = 119
          · have go : ∀ Q : Option Value → aH → Prop, X 133 0 [.ref 44, .int ch, .null] [] h Q ↔ if nmV c q 0 (D 1 - 2) 59 < 0 then Q (some (.int 0)) (sI (sI (sI h 47 5 1) 44 11 (nI (nmP c q))) 47 4 (D 4 ||| 0)) else Q (some (.int 1)) (sI (sI (sI h 47 5 1) 44 11 (nI (nmP c q))) 47 4 (D 4 ||| 1 <<< (nmV c q 0 (D 1 - 2) 59 &&& 31))) := by
              intro Q
              simp only [x133_0, x133_1, x133_3, x133_6, x133_7, x133_8, x133_10, x133_12, x133_15, x133_16, x133_17, x133_20, x133_21, x133_22, x133_23, x133_24, x133_27, x133_28, x133_31, x133_32, x133_33, x133_36, x133_37, x133_40, x133_41, x133_42, x133_43, x133_46, x133_47, x133_48, x133_49, x133_50, x133_92, x133_93, x133_96, x133_97, x133_98, x133_99, x133_100, x133_103, x133_104, x133_105, x133_106, x133_107, x133_109, x133_112, x133_113, x133_114, x133_117, x133_118, x133_119, x133_120, x133_121, x133_124, x133_125, x133_128, x133_129, x133_130, x133_131, x133_132, x133_133, x133_134, x133_137, x133_138, x133_141, x133_142, x133_143, x133_144, x133_147, x133_148, x133_149, x133_150, x133_152, x133_154, x133_157, x133_158, x133_159, x133_162, x133_163, x133_164, x133_167, x133_168, x133_171, x133_172, x133_173, x133_174, x133_177, x133_178, x133_179, x133_180, x133_182, x133_184, x133_187, x133_188, x133_189, x133_192, x133_193, x133_194, x133_197, x133_198, x133_201, x133_202, x133_203, x133_204, pv_some, pv_none, c1_int, c1_ref, c1_null, true_and, and_true, ne_eq, not_false_eq_true, not_true_eq_false, if_true, if_false, reduceCtorEq, Option.some.injEq, Value.int.injEq, absI_fold, minI_fold, maxI_fold, m_s g, m_r0 g, m_r2 g, m_r3 g, m_r4 g, m_r5 g, m_r7 g, m_r9 g, m_r12 g, m_r13 g, m_r17 g, m_r18 g, m_s45 g, m_s46 g, m_s47 g, m_s48 g, m_s49 g, m_s50 g, m_s51 g, m_s52 g, m_s53 g, m_s54 g, m_s55 g, m_nz, hS_sI, hR_sI, hS_wI, hR_wI, hw, iw5, five_t, kn5, iw4, ib4, ib1, ct4, ct1, hI_sI, if_true, if_false, true_or, or_true, false_or, or_false, true_and, and_true, false_and, and_false, not_true_eq_false, not_false_eq_true, iff_self, ite_self, ne_eq, true_implies, implies_true, Bool.false_eq_true, decide_true, decide_false, Bool.or_true, Bool.or_false, Bool.true_or, Bool.false_or, show ((119 : Int32) = 110) = False by decide, show ((119 : Int32) = 99) = False by decide, show ((119 : Int32) = 103) = False by decide, show ((119 : Int32) = 114) = False by decide, show ((1 : Nat) = 5) = False by decide, show ((4 : Nat) = 5) = False by decide, show ((47 : Nat) = 44) = False by decide, M1, M4]
              by_cases a1 : nmV c q 0 (D 1 - 2) 59 < 0 <;> simp only [a1, if_true, if_false, true_or, or_true, false_or, or_false, true_and, and_true, false_and, and_false, not_true_eq_false, not_false_eq_true, iff_self, ite_self, ne_eq, true_implies, implies_true, Bool.false_eq_true, decide_true, decide_false, Bool.or_true, Bool.or_false, Bool.true_or, Bool.false_or]
            by_cases hs : nmV c q 0 (D 1 - 2) 59 < 0
            · rw [itemG_none hgst (fun D' a1 a2 ht => ?_)]
              · exact ⟨_, (fr5.sI _ (Or.inr ⟨rfl, rfl⟩)).sI _ (Or.inl rfl), fun Q => by rw [go Q, if_pos hs]⟩
              · rw [hw, tell_w] at ht
                split at ht
                · rename_i z
                  refine (nm_ok _ _ _ _ _).mpr ⟨a1, a2, z.1, ?_⟩ hs
                  obtain ⟨k, hk, e⟩ := vlF_small c q a1
                  have z2 : vlF c q < D 1 - 1 := z.2
                  rw [e, w2, show (1 : Int32) = nI 1 from rfl, nI_sub (by omega), nI_lt_iff (by omega) (by omega)] at z2
                  rw [e, w2, show (2 : Int32) = nI 2 from rfl, nI_sub (by omega), nI_lt_iff (by omega) (by omega)]
                  omega
                · cases ht
            · obtain ⟨v, pp⟩ := nm_val hs
              obtain ⟨a1, a2, a3, a4⟩ := (nm_ok _ _ _ _ _).mp hs
              have hlt : vlF c q < D 1 - 1 := by
                obtain ⟨k, hk, e⟩ := vlF_small c q a1
                rw [e, w2, show (2 : Int32) = nI 2 from rfl, nI_sub (by omega), nI_lt_iff (by omega) (by omega)] at a4
                rw [e, w2, show (1 : Int32) = nI 1 from rfl, nI_sub (by omega), nI_lt_iff (by omega) (by omega)]
                omega
              rw [itemG_one (D' := upD (upD D 4 (D 4 ||| 1 <<< (vlF c q &&& 31))) 5 1) hgst a1 a2 (by rw [hw, tell_w]; exact if_pos ⟨a3, hlt⟩)]
              refine ⟨_, (fr5.sI _ (Or.inr ⟨rfl, rfl⟩)).sI _ (Or.inl rfl), ?_, ?_, fun Q => by rw [go Q, if_neg hs]⟩
              · dsimp only
                rw [v, show upD (upD D 4 (D 4 ||| 1 <<< (vlF c q &&& 31))) 5 1 = upD (upD D 5 1) 4 (D 4 ||| 1 <<< (vlF c q &&& 31)) from by funext j; unfold upD; grind]
                exact MD_up (MD_at M5') (by omega) (by omega)
              · rw [hI_sI, if_neg (by omega), hI_sI, if_pos ⟨rfl, rfl⟩, pp]
          · rw [itemG_none hgst (fun D' a1 a2 ht => ?_)]
            · refine ⟨_, fr5, fun Q => ?_⟩
              simp only [x133_0, x133_1, x133_3, x133_6, x133_7, x133_8, x133_10, x133_12, x133_15, x133_16, x133_17, x133_20, x133_21, x133_22, x133_23, x133_24, x133_27, x133_28, x133_31, x133_32, x133_33, x133_36, x133_37, x133_40, x133_41, x133_42, x133_43, x133_46, x133_47, x133_48, x133_49, x133_50, x133_92, x133_93, x133_96, x133_97, x133_98, x133_99, x133_100, x133_103, x133_104, x133_105, x133_106, x133_107, x133_109, x133_112, x133_113, x133_114, x133_117, x133_118, x133_119, x133_120, x133_121, x133_124, x133_125, x133_128, x133_129, x133_130, x133_131, x133_132, x133_133, x133_134, x133_137, x133_138, x133_141, x133_142, x133_143, x133_144, x133_147, x133_148, x133_149, x133_150, x133_152, x133_154, x133_157, x133_158, x133_159, x133_162, x133_163, x133_164, x133_167, x133_168, x133_171, x133_172, x133_173, x133_174, x133_177, x133_178, x133_179, x133_180, x133_182, x133_184, x133_187, x133_188, x133_189, x133_192, x133_193, x133_194, x133_197, x133_198, x133_201, x133_202, x133_203, x133_204, pv_some, pv_none, c1_int, c1_ref, c1_null, true_and, and_true, ne_eq, not_false_eq_true, not_true_eq_false, if_true, if_false, reduceCtorEq, Option.some.injEq, Value.int.injEq, absI_fold, minI_fold, maxI_fold, m_s g, m_r0 g, m_r2 g, m_r3 g, m_r4 g, m_r5 g, m_r7 g, m_r9 g, m_r12 g, m_r13 g, m_r17 g, m_r18 g, m_s45 g, m_s46 g, m_s47 g, m_s48 g, m_s49 g, m_s50 g, m_s51 g, m_s52 g, m_s53 g, m_s54 g, m_s55 g, m_nz, hS_sI, hR_sI, hS_wI, hR_wI, hn, hcc, hgst, hrr, hw, iw5, five_t, if_true, if_false, true_or, or_true, false_or, or_false, true_and, and_true, false_and, and_false, not_true_eq_false, not_false_eq_true, iff_self, ite_self, ne_eq, true_implies, implies_true, Bool.false_eq_true, decide_true, decide_false, Bool.or_true, Bool.or_false, Bool.true_or, Bool.false_or]
            · unfold tellF at ht
              rw [if_neg hgst, if_pos rfl, if_neg hcc, if_neg hn, if_neg hrr, if_neg hw] at ht
              cases ht
end MOD4
