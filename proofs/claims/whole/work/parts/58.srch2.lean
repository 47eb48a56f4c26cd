/-! THE CLASS: the search: one is carried on to a side -/
section SRCH2
variable {h h1 : aH} {a c G i j k z n w d T : Nat} {Q : Option Value → aH → Prop} {L : Nat → Nat} {s : St} {Lt : Nat → Int32} {po : Int32}
/-- while a way is gone on from -/
def SS (h h1 : aH) (a G n : Nat) (L : Nat → Nat) (s : St) : Prop := CF h h1 ∧ (∀ i, i < G → hI h1 16 i = nI (L i)) ∧ (∀ b, b < 6 → hI h1 17 b = slF L (hI h (a + 4)) (hI h a 8) G b) ∧ SR h1 s ∧ WfD (falN n G) s
theorem VL.upd (v : VL n G L) {b : Nat} (hb : b < n) (he : ∀ j, j < G → L j ≠ b) : VL n G (updL L i b) := by
  refine ⟨fun j hj => ?_, fun j k hj hk e => ?_⟩
  · unfold updL
    split
    · exact hb
    · exact v.1 j hj
  · unfold updL at e
    by_cases c1 : j = i <;> by_cases c2 : k = i
    · rw [c1, c2]
    · rw [if_pos c1, if_neg c2] at e
      exact absurd e.symm (he k hk)
    · rw [if_neg c1, if_pos c2] at e
      exact absurd e (he j hj)
    · rw [if_neg c1, if_neg c2] at e
      exact v.2 j k hj hk e
abbrev asP (h : aH) (a G n : Nat) (L : Nat → Nat) (i b : Nat) : Prop := allB (mayB L (hI h (a + 4)) (hI h a 8) i b) G = true
theorem may_iff {b : Nat} : allB (mayB L Lt po i b) G = true ↔ (∀ j, j < G → L j ≠ b) ∧ ∀ j, j < G → (L i < L j ∧ L j < b ∨ L j < L i ∧ b < L j) → po < Lt j := by
  rw [allB_iff]
  unfold mayB
  constructor
  · intro q
    refine ⟨fun j hj e => ?_, fun j hj hb => ?_⟩
    · have := q j hj
      simp [e] at this
    · have := q j hj
      simp only [hb, decide_true, Bool.not_true, Bool.false_or, Bool.and_eq_true, decide_eq_true_eq] at this
      exact this.2
  · rintro ⟨q1, q2⟩ j hj
    have e := q1 j hj
    by_cases c : (L i < L j ∧ L j < b ∨ L j < L i ∧ b < L j)
    · have p := q2 j hj c
      simp only [e, p, decide_false, decide_true, Bool.not_false, Bool.or_true, Bool.and_self]
    · simp only [e, c, decide_false, Bool.not_false, Bool.true_or, Bool.and_self]
/-- the heap when a way has been reached by carrying i to b -/
def mvH (h : aH) (s : St) (L : Nat → Nat) (n G i b d : Nat) : aH := sI (rchH (sI h 16 i (nI b)) s (numN (updL L i b) n G) d) 16 i (nI (L i))
theorem SS.mv (C : CW h a G n) (v : VL n G L) (S : SS h h1 a G n L s) (hi : i < G) {b : Nat} (hb : b < n) (he : ∀ j, j < G → L j ≠ b) (hd : d ≤ s.2.length) : SS h (mvH h1 s L n G i b d) a G n L (rchS (numN (updL L i b) n G) d s) := by
  have hf := fal_pos C.2.2.2
  have nw := (num_V C.2.2.2 (v.upd (i := i) hb he)).1
  obtain ⟨S1, S2, S3, S4, S5⟩ := S
  have S4' : SR (sI h1 16 i (nI b)) s := S4.congr (fun b j q1 q2 => by rw [hI_sI, if_neg (by omega)])
  unfold mvH
  refine ⟨?_, fun j hj => ?_, fun c hc => ?_, ?_, S5.rch nw hd⟩
  · exact (rch_CF (S1.sI _ (Or.inl ⟨by decide, by decide⟩))).sI _ (Or.inl ⟨by decide, by decide⟩)
  · rw [hI_sI]
    by_cases q : j = i
    · rw [if_pos ⟨rfl, q⟩, q]
    · rw [if_neg (fun z => q z.2), rch_o (by omega), hI_sI, if_neg (fun z => q z.2)]
      exact S2 j hj
  · rw [hI_sI, if_neg (by omega), rch_o (by omega), hI_sI, if_neg (by omega)]
    exact S3 c hc
  · exact (S4'.rch S5 hf.2 nw).congr (fun b j q1 q2 => by rw [hI_sI, if_neg (by omega)])
/-- an empty bed on the way: the reaching -/
theorem k_asideMv (C : CW h a G n) (v : VL n G L) (S : SS h h1 a G n L s) (hi : i < G) {b : Nat} (hb : b < n) (he : ∀ j, j < G → L j ≠ b) {x y : Int32} : X 58 76 [.ref 12, .int (nI i), .int x, .int (nI d), .ref a, .ref 11, .int (nI (L i)), .int (nI b), .int y] [] h1 Q ↔ X 58 115 [.ref 12, .int (nI i), .int x, .int (nI d), .ref a, .ref 11, .int (nI (L i)), .int (nI b), .int y] [] (mvH h1 s L n G i b d) Q := by
  have h5 := C.1.1.2.2.2
  have bn := C.2.2.2.2.2
  have hf := fal_pos C.2.2.2
  have v2 := v.upd (i := i) hb he
  have nw := (num_V C.2.2.2 v2).1
  obtain ⟨S1, S2, S3, S4, S5⟩ := S
  have S4' : SR (sI h1 16 i (nI b)) s := S4.congr (fun b j q1 q2 => by rw [hI_sI, if_neg (by omega)])
  have F2 : CF h (sI h1 16 i (nI b)) := S1.sI _ (Or.inl ⟨by decide, by decide⟩)
  have F3 : CF h (rchH (sI h1 16 i (nI b)) s (numN (updL L i b) n G) d) := rch_CF F2
  have C1 := C.CF S1
  have C2 := C.CF F2
  have g1 := C1.1.1.1
  have g2 := C2.1.1.1
  have g3 := F3.GS C.1.1.1
  have hL2 : ∀ j, j < G → hI (sI h1 16 i (nI b)) 16 j = nI (updL L i b j) := fun j hj => by
    rw [hI_sI]
    unfold updL
    by_cases q : j = i
    · rw [if_pos ⟨rfl, q⟩, if_pos q]
    · rw [if_neg (fun z => q z.2), if_neg q]
      exact S2 j hj
  have kn := fun Q : Option Value → aH → Prop => k_numberOf (Q := Q) g2 C2.2.1 (Or.inl rfl) C.2.2.2 hL2 v2
  have kr := fun Q : Option Value → aH → Prop => k_reach (Q := Q) (d := d) g2 S4' S5 hf.2 nw
  have em : sI (rchH (sI h1 16 i (nI b)) s (numN (updL L i b) n G) d) 16 i (nI (L i)) = mvH h1 s L n G i b d := rfl
  simp only [x58_0, x58_1, x58_4, x58_5, x58_6, x58_9, x58_10, x58_11, x58_14, x58_17, x58_18, x58_19, x58_21, x58_23, x58_24, x58_25, x58_27, x58_28, x58_32, x58_34, x58_37, x58_39, x58_41, x58_44, x58_47, x58_49, x58_51, x58_54, x58_55, x58_58, x58_60, x58_61, x58_62, x58_65, x58_66, x58_67, x58_70, x58_72, x58_73, x58_76, x58_77, x58_80, x58_83, x58_84, x58_86, x58_87, x58_88, x58_90, x58_91, x58_94, x58_97, x58_100, x58_101, x58_104, x58_105, x58_108, x58_111, x58_112, x58_114, x58_117, x58_118, x58_119, x58_121, x58_124, x58_127, pv_some, pv_none, c1_int, c1_ref, c1_null, true_and, and_true, ne_eq, not_false_eq_true, not_true_eq_false, if_true, if_false, reduceCtorEq, Option.some.injEq, Value.int.injEq, absI_fold, minI_fold, maxI_fold, ss12 g1, sr3 g1, ss15 g1, sr15 g1, ss16 g1, m_nz, ibwn (show i < 5 by omega) (by decide), nI_cl (show i < 2 ^ 31 by omega), ss12 g2, sr3 g2, ss15 g2, sr15 g2, cs11 g2, kn, kr, ss12 g3, sr3 g3, ss15 g3, sr15 g3, ss16 g3, em, if_true, if_false, true_or, or_true, false_or, or_false, true_and, and_true, false_and, and_false, not_true_eq_false, not_false_eq_true, iff_self, ite_self, ne_eq, true_implies, implies_true, Bool.false_eq_true, decide_true, decide_false, Bool.or_true, Bool.or_false, Bool.true_or, Bool.false_or]
end SRCH2
