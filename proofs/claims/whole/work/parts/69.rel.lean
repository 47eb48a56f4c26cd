/-! BOTH STATES IN ONE HEAP: the relation -/
def StR (D : Nat → Int32) (n : Nat) (s t : Nat → Int32) : Prop := (∀ j, j < 10 → (j < gN D ∨ 5 ≤ j) → s j = t j) ∧ (∀ i, i < gN D → ∃ b, b < n ∧ s i = nI b) ∧ distP s (gN D) ∧ (∃ w, w < 32 ∧ s 5 = nI w) ∧ ∃ hr, hr ≤ 7 ∧ s 6 = nI hr
def R1 (h : aH) (D : Nat → Int32) (n a r : Nat) : Prop := GS h ∧ orOk h a r ∧ ID h a D ∧ MA h D ∧ D 1 = nI n ∧ BG n (gN D) ∧ WA h n (gN D)
def R2 (h : aH) (nt : Nat) : Prop := hI h 4 1 = nI nt ∧ hI h 44 1 = nI nt ∧ nt ≤ 200 ∧ ∀ p, p < nt → hI h 5 p = hI h 45 p
def R3 (h : aH) (D : Nat → Int32) (n : Nat) : Prop := StR D n (lv h 22) (hI h 48)
def R4 (h : aH) (D : Nat → Int32) (n zu : Nat) : Prop := hI h 18 0 = nI 8 ∧ hI h 18 2 = nI zu ∧ hI h 44 6 = nI zu ∧ zu ≤ 8 ∧ ∀ k, k < zu → StR D n (fun j => hI h 19 (k * 10 + j)) (fun j => hI h 49 (k * 10 + j))
def R5 (h : aH) (D : Nat → Int32) (n zk : Nat) : Prop := hI h 20 0 = nI 2 ∧ hI h 20 2 = nI zk ∧ hI h 44 8 = nI zk ∧ zk ≤ 2 ∧ ∀ k, k < zk → StR D n (fun j => hI h 21 (k * 10 + j)) (fun j => hI h 50 (k * 10 + j))
def R6 (h : aH) (D : Nat → Int32) (zr : Nat) : Prop := hI h 7 3 = nI zr ∧ hI h 44 10 = nI zr ∧ zr ≤ 8 ∧ ∃ w t o : Nat → Nat, ∀ k, k < zr → (hI h 8 k = nI (w k) ∧ w k < gN D) ∧ (hI h 9 k = nI (t k) ∧ t k < 8) ∧ (hI h 10 k = nI (o k) ∧ o k < 2) ∧ hI h 51 k = nI (100 * w k + 10 * t k + o k)
def RelP (h : aH) (D : Nat → Int32) (n a r nt zu zk zr : Nat) : Prop := R1 h D n a r ∧ R2 h nt ∧ R3 h D n ∧ R4 h D n zu ∧ R5 h D n zk ∧ R6 h D zr
def Rel (h : aH) : Prop := ∃ D n a r nt zu zk zr, RelP h D n a r nt zu zk zr
def Agr (h : aH) (cm : Nat) (cL : List Value) (mm : Nat) (mL : List Value) : Prop := ∃ v h1 h2, Rel h2 ∧ (∀ Q : Option Value → aH → Prop, X cm 0 cL [] h Q ↔ Q (some (.int v)) h1) ∧ ∀ Q : Option Value → aH → Prop, X mm 0 mL [] h1 Q ↔ Q (some (.int v)) h2
section REL
variable {h h' h1 : aH} {D : Nat → Int32} {n a r nt zu zk zr i j k : Nat} {x y : Int32}
theorem StR.congr {s t s' t' : Nat → Int32} (S : StR D n s t) (e1 : ∀ j, s' j = s j) (e2 : ∀ j, t' j = t j) : StR D n s' t' := by
  have : s' = s := funext e1
  have : t' = t := funext e2
  subst s' t'
  exact S
theorem R1.congr (R : R1 h D n a r) (es : hS h' = hS h) (er : hR h' = hR h) (e : ∀ b j, (a ≤ b ∧ b ≤ a + 5 ∨ b = 46 ∨ b = 11) → hI h' b j = hI h b j) : R1 h' D n a r := by
  obtain ⟨g, o, I, M, d1, B, W⟩ := R
  refine ⟨GS_of g es er, ?_, ⟨?_, fun i hi => ?_⟩, ⟨GM_of M.1 es er, M.2.1, fun j hj => ?_, fun i hi q hq => ?_⟩, d1, B, ?_, ?_, ?_⟩
  · unfold orOk; rw [er]; exact o
  · rw [e a 5 (by omega), e a 6 (by omega), e a 8 (by omega), e a 9 (by omega), e a 7 (by omega), e a 10 (by omega)]; exact I.1
  · rw [e (a + 1) i (by omega), e (a + 2) i (by omega), e (a + 3) i (by omega), e (a + 4) i (by omega), e (a + 5) i (by omega)]; exact I.2 i hi
  · rw [e 46 j (by omega)]; exact M.2.2.1 j hj
  · rw [e 46 _ (by omega)]; exact M.2.2.2 i hi q hq
  · rw [e 11 0 (by omega)]; exact W.1
  · rw [e 11 1 (by omega)]; exact W.2.1
  · rw [e 11 2 (by omega)]; exact W.2.2
theorem R2.congr (R : R2 h nt) (e : ∀ b j, (b = 4 ∧ j = 1 ∨ b = 44 ∧ j = 1 ∨ b = 5 ∨ b = 45) → hI h' b j = hI h b j) : R2 h' nt := ⟨by rw [e 4 1 (by omega)]; exact R.1, by rw [e 44 1 (by omega)]; exact R.2.1, R.2.2.1, fun p hp => by rw [e 5 p (by omega), e 45 p (by omega)]; exact R.2.2.2 p hp⟩
theorem R3.congr (R : R3 h D n) (e : ∀ b j, (b = 22 ∨ b = 23 ∨ b = 48) → hI h' b j = hI h b j) : R3 h' D n := by
  refine StR.congr R (fun j => ?_) (fun j => e 48 j (by omega))
  unfold lv
  split
  · exact e 23 j (by omega)
  · exact e 22 _ (by omega)
theorem R4.congr (R : R4 h D n zu) (e : ∀ b j, (b = 18 ∨ b = 19 ∨ b = 49 ∨ b = 44 ∧ j = 6) → hI h' b j = hI h b j) : R4 h' D n zu := ⟨by rw [e 18 0 (by omega)]; exact R.1, by rw [e 18 2 (by omega)]; exact R.2.1, by rw [e 44 6 (by omega)]; exact R.2.2.1, R.2.2.2.1, fun k hk => (R.2.2.2.2 k hk).congr (fun j => e 19 _ (by omega)) (fun j => e 49 _ (by omega))⟩
theorem R5.congr (R : R5 h D n zk) (e : ∀ b j, (b = 20 ∨ b = 21 ∨ b = 50 ∨ b = 44 ∧ j = 8) → hI h' b j = hI h b j) : R5 h' D n zk := ⟨by rw [e 20 0 (by omega)]; exact R.1, by rw [e 20 2 (by omega)]; exact R.2.1, by rw [e 44 8 (by omega)]; exact R.2.2.1, R.2.2.2.1, fun k hk => (R.2.2.2.2 k hk).congr (fun j => e 21 _ (by omega)) (fun j => e 50 _ (by omega))⟩
theorem R6.congr (R : R6 h D zr) (e : ∀ b j, (b = 7 ∨ b = 8 ∨ b = 9 ∨ b = 10 ∨ b = 51 ∨ b = 44 ∧ j = 10) → hI h' b j = hI h b j) : R6 h' D zr := by
  obtain ⟨a1, a2, a3, w, t, o, a4⟩ := R
  refine ⟨by rw [e 7 3 (by omega)]; exact a1, by rw [e 44 10 (by omega)]; exact a2, a3, w, t, o, fun k hk => ?_⟩
  rw [e 8 k (by omega), e 9 k (by omega), e 10 k (by omega), e 51 k (by omega)]
  exact a4 k hk
/-- what no scratch touches -/
def core (r b j : Nat) : Prop := b ≠ 6 ∧ ¬ (b = 4 ∧ j = 3) ∧ ¬ (12 ≤ b ∧ b ≤ 17) ∧ ¬ (24 ≤ b ∧ b ≤ 25) ∧ ¬ (38 ≤ b ∧ b ≤ 43) ∧ ¬ (r ≤ b ∧ b ≤ r + 5) ∧ b ≠ 47 ∧ ¬ (52 ≤ b ∧ b ≤ 55) ∧ ¬ (b = 44 ∧ (j = 11 ∨ j = 14 ∨ j = 15 ∨ j = 16))
theorem RelP.frame (R : RelP h D n a r nt zu zk zr) (es : hS h' = hS h) (er : hR h' = hR h) (e : ∀ b j, core r b j → hI h' b j = hI h b j) : RelP h' D n a r nt zu zk zr := by
  have o := R.1.2.1.2.2
  refine ⟨R.1.congr es er (fun b j q => e b j ?_), R.2.1.congr (fun b j q => e b j ?_), R.2.2.1.congr (fun b j q => e b j ?_), R.2.2.2.1.congr (fun b j q => e b j ?_), R.2.2.2.2.1.congr (fun b j q => e b j ?_), R.2.2.2.2.2.congr (fun b j q => e b j ?_)⟩ <;> unfold core <;> omega
theorem RelP.CF (R : RelP h D n a r nt zu zk zr) (x : CF h h') : RelP h' D n a r nt zu zk zr := R.frame (by rw [x.1]; rfl) (by rw [x.1]; rfl) (fun b j q => x.2 b j q.2.2.1 q.2.2.2.1 q.2.2.2.2.1)
theorem RelP.SF (R : RelP h D n a r nt zu zk zr) (x : SF h h') : RelP h' D n a r nt zu zk zr := R.frame (by rw [x.1]; rfl) (by rw [x.1]; rfl) (fun b j q => x.2 b j q.2.2.2.2.2.2.1 q.2.2.2.2.2.2.2.1 q.2.2.2.2.2.2.2.2)
theorem RelP.Fr (R : RelP h D n a r nt zu zk zr) (x : Fr h h' r) : RelP h' D n a r nt zu zk zr := R.frame (by rw [x.1]; rfl) (by rw [x.1]; rfl) (fun b j q => x.2 b j q.1 q.2.1 q.2.2.2.2.2.1)
theorem RelP.MFr (R : RelP h D n a r nt zu zk zr) (x : MFr h h') : RelP h' D n a r nt zu zk zr := R.SF x.SF
theorem RelP.rel (R : RelP h D n a r nt zu zk zr) : Rel h := ⟨D, n, a, r, nt, zu, zk, zr, R⟩
-- what is read of it
theorem RelP.g (R : RelP h D n a r nt zu zk zr) : GS h := R.1.1
theorem RelP.gm (R : RelP h D n a r nt zu zk zr) : GM h := R.1.2.2.2.1.1
theorem RelP.M (R : RelP h D n a r nt zu zk zr) : MA h D := R.1.2.2.2.1
theorem RelP.W (R : RelP h D n a r nt zu zk zr) : DW D := R.M.2.1
theorem RelP.B (R : RelP h D n a r nt zu zk zr) : BG n (gN D) := R.1.2.2.2.2.2.1
theorem RelP.g5 (R : RelP h D n a r nt zu zk zr) : gN D ≤ 5 := R.M.g5
theorem RelP.a2 (R : RelP h D n a r nt zu zk zr) : a = 26 ∨ a = 32 := by have := R.1.2.1.2.2; omega
theorem RelP.C (R : RelP h D n a r nt zu zk zr) : CI h a (gN D) := ⟨⟨R.g, R.a2.elim Or.inl (fun q => Or.inr (Or.inl q)), R.1.2.2.1.1.1.trans R.W.1.1, R.g5⟩, R.1.2.1.1, R.a2⟩
theorem RelP.n1 (R : RelP h D n a r nt zu zk zr) : D 1 = nI n := R.1.2.2.2.2.1
theorem RelP.CW (R : RelP h D n a r nt zu zk zr) : CW h a (gN D) n := ⟨R.C, R.1.2.2.2.2.2.2, R.1.2.2.1.1.2.1.trans R.n1, R.B⟩
theorem RelP.T (R : RelP h D n a r nt zu zk zr) : TxAt h nt := ⟨R.g, R.2.1.1, R.2.1.2.2.1⟩
theorem RelP.MT (R : RelP h D n a r nt zu zk zr) : MT h nt := ⟨R.gm, R.2.1.2.1, R.2.1.2.2.1⟩
theorem RelP.U (R : RelP h D n a r nt zu zk zr) : ShAt h 18 8 zu := ⟨R.g, Or.inl ⟨rfl, rfl⟩, R.2.2.2.1.1, R.2.2.2.1.2.1, R.2.2.2.1.2.2.2.1⟩
theorem RelP.K (R : RelP h D n a r nt zu zk zr) : ShAt h 20 2 zk := ⟨R.g, Or.inr ⟨rfl, rfl⟩, R.2.2.2.2.1.1, R.2.2.2.2.1.2.1, R.2.2.2.2.1.2.2.2.1⟩
theorem RelP.k5 (R : RelP h D n a r nt zu zk zr) : hI h a 5 = nI (gN D) := R.C.1.2.2.1
theorem RelP.m0 (R : RelP h D n a r nt zu zk zr) : hI h 46 0 = nI (gN D) := R.M.g0
theorem RelP.k6 (R : RelP h D n a r nt zu zk zr) : hI h a 6 = nI n := R.CW.2.2.1
theorem RelP.m1 (R : RelP h D n a r nt zu zk zr) : hI h 46 1 = nI n := (R.M.2.2.1 1 (by omega)).trans R.n1
theorem RelP.k9 (R : RelP h D n a r nt zu zk zr) : hI h a 9 = D 3 := R.1.2.2.1.1.2.2.2.1
theorem RelP.k8 (R : RelP h D n a r nt zu zk zr) : hI h a 8 = D 2 := R.1.2.2.1.1.2.2.1
theorem RelP.A1 (R : RelP h D n a r nt zu zk zr) : agr (gN D) (hI h (a + 1)) (DA D 6) := fun i hi => (R.1.2.2.1.2 i hi).1
theorem RelP.A2 (R : RelP h D n a r nt zu zk zr) : agr (gN D) (hI h (a + 2)) (DA D 11) := fun i hi => (R.1.2.2.1.2 i hi).2.1
theorem RelP.A3 (R : RelP h D n a r nt zu zk zr) : agr (gN D) (hI h (a + 3)) (DA D 16) := fun i hi => (R.1.2.2.1.2 i hi).2.2.1
theorem RelP.A4 (R : RelP h D n a r nt zu zk zr) : agr (gN D) (hI h (a + 4)) (DA D 21) := fun i hi => (R.1.2.2.1.2 i hi).2.2.2.1
theorem RelP.s (R : RelP h D n a r nt zu zk zr) (hj : j < 10) (h2 : j < gN D ∨ 5 ≤ j) : lv h 22 j = hI h 48 j := R.2.2.1.1 j hj h2
theorem RelP.P (R : RelP h D n a r nt zu zk zr) : agr (gN D) (hI h 23) (hI h 48) := fun i hi => by
  have h5 := R.g5
  rw [← R.s (show i < 10 by omega) (Or.inl hi), lv_lo h 22 (show i < 5 by omega)]
theorem lv_6 (h : aH) (q : Nat) : lv h q 6 = hI h q 2 := by unfold lv; rw [if_neg (by decide)]
theorem lv_7 (h : aH) (q : Nat) : lv h q 7 = hI h q 3 := by unfold lv; rw [if_neg (by decide)]
theorem lv_8 (h : aH) (q : Nat) : lv h q 8 = hI h q 4 := by unfold lv; rw [if_neg (by decide)]
theorem lv_9 (h : aH) (q : Nat) : lv h q 9 = hI h q 5 := by unfold lv; rw [if_neg (by decide)]
theorem RelP.wl (R : RelP h D n a r nt zu zk zr) : hI h 22 1 = hI h 48 5 := by rw [← lv_5, R.s (by decide) (Or.inr (by decide))]
theorem RelP.hr (R : RelP h D n a r nt zu zk zr) : hI h 22 2 = hI h 48 6 := by rw [← lv_6, R.s (by decide) (Or.inr (by decide))]
theorem RelP.st (R : RelP h D n a r nt zu zk zr) : hI h 22 3 = hI h 48 7 := by rw [← lv_7, R.s (by decide) (Or.inr (by decide))]
theorem RelP.ca (R : RelP h D n a r nt zu zk zr) : hI h 22 4 = hI h 48 8 := by rw [← lv_8, R.s (by decide) (Or.inr (by decide))]
theorem RelP.wo (R : RelP h D n a r nt zu zk zr) : hI h 22 5 = hI h 48 9 := by rw [← lv_9, R.s (by decide) (Or.inr (by decide))]
theorem RelP.pl (R : RelP h D n a r nt zu zk zr) (hi : i < gN D) : ∃ b, b < n ∧ hI h 48 i = nI b := by
  have h5 := R.g5
  obtain ⟨b, hb, e⟩ := R.2.2.1.2.1 i hi
  rw [lv_lo h 22 (show i < 5 by omega)] at e
  exact ⟨b, hb, by rw [← R.P i hi]; exact e⟩
theorem RelP.di (R : RelP h D n a r nt zu zk zr) : distP (hI h 48) (gN D) := fun i j hi hj e => by
  have h5 := R.g5
  refine R.2.2.1.2.2.1 i j hi hj ?_
  rw [lv_lo h 22 (show i < 5 by omega), lv_lo h 22 (show j < 5 by omega), show hI h (22 + 1) i = _ from R.P i hi, show hI h (22 + 1) j = _ from R.P j hj]
  exact e
theorem RelP.wv (R : RelP h D n a r nt zu zk zr) : ∃ w, w < 32 ∧ hI h 48 5 = nI w := by
  obtain ⟨w, hw, e⟩ := R.2.2.1.2.2.2.1
  exact ⟨w, hw, by rw [← R.s (by decide) (Or.inr (by decide))]; exact e⟩
theorem RelP.hv (R : RelP h D n a r nt zu zk zr) : ∃ w, w ≤ 7 ∧ hI h 48 6 = nI w := by
  obtain ⟨w, hw, e⟩ := R.2.2.1.2.2.2.2
  exact ⟨w, hw, by rw [← R.s (by decide) (Or.inr (by decide))]; exact e⟩
theorem RelP.K53 (R : RelP h D n a r nt zu zk zr) : agr (gN D) (hI (asH h) 53) (DA D 6) := fun i hi => by
  have h5 := R.g5
  rw [as53 (show i < 5 by omega)]
  exact R.M.kind hi
theorem RelP.P52 (R : RelP h D n a r nt zu zk zr) : agr (gN D) (hI (asH h) 52) (hI h 48) := fun i hi => by
  have h5 := R.g5
  exact as52 (show i < 5 by omega)
/-- the ranges that both ask -/
theorem RelP.isG (R : RelP h D n a r nt zu zk zr) : (¬ x < 0 ∧ x < hI h a 5) ↔ (¬ x < 0 ∧ ¬ hI h 46 0 - 1 < x) := by
  have h5 := R.g5
  have b := R.B.1
  rw [R.k5, R.m0, nI_m1 b]
  constructor
  · rintro ⟨q1, q2⟩
    refine ⟨q1, ?_⟩
    rw [nI_self q1] at q2 ⊢
    have hx : x.toNatClampNeg < 2 ^ 31 := by have := x.toInt_lt; show x.toInt.toNat < 2 ^ 31; omega
    have := lit_le hx (by omega) q2
    rw [nI_lt_iff (by omega) hx]
    omega
  · rintro ⟨q1, q2⟩
    refine ⟨q1, ?_⟩
    rw [nI_self q1] at q2 ⊢
    have hx : x.toNatClampNeg < 2 ^ 31 := by have := x.toInt_lt; show x.toInt.toNat < 2 ^ 31; omega
    have := lit_lt (by omega) hx q2
    exact nI_lt (by omega) (by omega)
theorem range_iff {m : Nat} (hm : 1 ≤ m) (h2 : m < 2 ^ 31) : (¬ x < 0 ∧ x < nI m) ↔ (¬ x < 0 ∧ ¬ nI m - 1 < x) := by
  rw [nI_m1 hm]
  constructor
  · rintro ⟨q1, q2⟩
    refine ⟨q1, ?_⟩
    rw [nI_self q1] at q2 ⊢
    have hx : x.toNatClampNeg < 2 ^ 31 := by have := x.toInt_lt; show x.toInt.toNat < 2 ^ 31; omega
    have := lit_le hx h2 q2
    rw [nI_lt_iff (by omega) hx]
    omega
  · rintro ⟨q1, q2⟩
    refine ⟨q1, ?_⟩
    rw [nI_self q1] at q2 ⊢
    have hx : x.toNatClampNeg < 2 ^ 31 := by have := x.toInt_lt; show x.toInt.toNat < 2 ^ 31; omega
    have := lit_lt (by omega) hx q2
    exact nI_lt (by omega) h2
theorem range_nI {m : Nat} (h2 : m < 2 ^ 31) (q : ¬ x < 0 ∧ x < nI m) : ∃ i, i < m ∧ x = nI i := by
  refine ⟨x.toNatClampNeg, ?_, nI_self q.1⟩
  have q2 := q.2
  rw [nI_self q.1] at q2
  exact lit_le (by have := x.toInt_lt; show x.toInt.toNat < 2 ^ 31; omega) h2 q2
theorem RelP.gI (R : RelP h D n a r nt zu zk zr) (q : ¬ x < 0 ∧ x < hI h a 5) : ∃ i, i < gN D ∧ x = nI i := by
  have h5 := R.g5
  rw [R.k5] at q
  exact range_nI (by omega) q
theorem two_iff : (x = 0 ∨ x = 1) ↔ (¬ x < 0 ∧ ¬ 1 < x) := by
  constructor
  · rintro (rfl | rfl) <;> decide
  · rintro ⟨q1, q2⟩
    rw [nI_self q1] at q2 ⊢
    have hx : x.toNatClampNeg < 2 ^ 31 := by have := x.toInt_lt; show x.toInt.toNat < 2 ^ 31; omega
    have := lit_lt (a := 1) (by decide) hx q2
    have : x.toNatClampNeg = 0 ∨ x.toNatClampNeg = 1 := by omega
    rcases this with e | e
    · exact Or.inl (by rw [e]; rfl)
    · exact Or.inr (by rw [e]; rfl)
end REL
