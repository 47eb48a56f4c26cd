/-! WORDS FOR THE HEAP OF THIS SYSTEM: class 3..43, reference 44..55 -/
/-- a truth as a number -/
def bi (p : Prop) [Decidable p] : Int32 := if p then 1 else 0
theorem bi_zero (p : Prop) [Decidable p] : (bi p = 0) = ¬ p := by unfold bi; by_cases h : p <;> simp [h]
theorem bi_one (p : Prop) [Decidable p] : (bi p = 1) = p := by unfold bi; by_cases h : p <;> simp [h]
theorem bi_01 (p : Prop) [Decidable p] : (bi p = 0 ∨ bi p = 1) = True := by unfold bi; by_cases h : p <;> simp [h]
theorem bi_F : bi False = 0 := rfl
theorem bi_T : bi True = 1 := rfl
theorem bi_ff : bi (false = true) = 0 := rfl
theorem bi_tt : bi (true = true) = 1 := rfl
theorem bi_t {p : Prop} [Decidable p] (h : p) : bi p = 1 := if_pos h
theorem bi_f {p : Prop} [Decidable p] (h : ¬ p) : bi p = 0 := if_neg h
def absI (x : Int32) : Int32 := if 0 ≤ x then x else 0 - x
def minI (x y : Int32) : Int32 := if y < x then y else x
def maxI (x y : Int32) : Int32 := if x < y then y else x
theorem absI_fold (x : Int32) : (if 0 ≤ x then x else 0 - x) = absI x := rfl
theorem minI_fold (x y : Int32) : (if y < x then y else x) = minI x y := rfl
theorem maxI_fold (x y : Int32) : (if x < y then y else x) = maxI x y := rfl
/-- shapes -/
def shp : Nat → Nat × Nat := fun a => match a with
  | 3 => (1, 7) | 4 => (1, 5) | 5 => (2, 200) | 6 => (2, 5) | 7 => (1, 2) | 8 => (2, 8) | 9 => (2, 8) | 10 => (3, 8) | 11 => (1, 6)
  | 12 => (1, 3) | 13 => (2, 720) | 14 => (2, 720) | 15 => (1, 1) | 16 => (2, 5) | 17 => (2, 6) | 18 => (1, 4) | 19 => (2, 80) | 20 => (1, 4) | 21 => (2, 20)
  | 22 => (1, 1) | 23 => (2, 5) | 24 => (1, 1) | 25 => (2, 5)
  | 26 => (1, 0) | 27 => (2, 5) | 28 => (2, 5) | 29 => (2, 5) | 30 => (2, 5) | 31 => (2, 5)
  | 32 => (1, 0) | 33 => (2, 5) | 34 => (2, 5) | 35 => (2, 5) | 36 => (2, 5) | 37 => (2, 5)
  | 38 => (1, 0) | 39 => (2, 5) | 40 => (2, 5) | 41 => (2, 5) | 42 => (2, 5) | 43 => (2, 5)
  | 44 => (1, 8) | 45 => (2, 200) | 46 => (2, 31) | 47 => (2, 31) | 48 => (2, 10) | 49 => (2, 80) | 50 => (2, 20) | 51 => (2, 8) | 52 => (2, 5) | 53 => (2, 5) | 54 => (2, 7776) | 55 => (2, 10)
  | _ => (0, 0)
/-- references that never change -/
def rfs : Nat → Nat → Nat := fun a k => match a with
  | 3 => [4, 7, 11, 12, 18, 20, 22, 24, 0, 0, 38].getD k 0
  | 4 => [5, 0, 6].getD k 0
  | 7 => [8, 9, 10].getD k 0
  | 12 => [13, 14, 0, 15, 17].getD k 0
  | 15 => [16].getD k 0
  | 18 => [0, 19].getD k 0
  | 20 => [0, 21].getD k 0
  | 22 => [23].getD k 0
  | 24 => [25].getD k 0
  | 26 => [27, 28, 29, 30, 31].getD k 0
  | 32 => [33, 34, 35, 36, 37].getD k 0
  | 38 => [39, 40, 41, 42, 43].getD k 0
  | 44 => [45, 0, 46, 47, 48, 49, 0, 50, 0, 51, 0, 0, 52, 53, 0, 0, 0, 54, 55].getD k 0
  | _ => 0
/-- the heap's graph stands -/
def GS (h : aH) : Prop := (∀ a, 3 ≤ a → a < 44 → hS h a = shp a) ∧ (∀ a k, 3 ≤ a ∧ a < 44 → rfs a k ≠ 0 → hR h a k = rfs a k) ∧ (hR h 3 8 = 26 ∧ hR h 3 9 = 32 ∨ hR h 3 8 = 32 ∧ hR h 3 9 = 26)
/-- the reference's too -/
def GM (h : aH) : Prop := GS h ∧ (∀ a, 44 ≤ a → a < 56 → hS h a = shp a) ∧ ∀ k, rfs 44 k ≠ 0 → hR h 44 k = rfs 44 k
theorem GM.sI {h : aH} (g : GM h) (a k : Nat) (v : Int32) : GM (sI h a k v) := g
theorem GM.cpI {h : aH} (g : GM h) (a sp b dp n : Nat) : GM (cpI h a sp b dp n) := g
theorem GS.sI {h : aH} (g : GS h) (a k : Nat) (v : Int32) : GS (sI h a k v) := g
theorem GS.cpI {h : aH} (g : GS h) (a sp b dp n : Nat) : GS (cpI h a sp b dp n) := g
def isInn (a : Nat) : Prop := a = 26 ∨ a = 32 ∨ a = 38
def isLie (a : Nat) : Prop := a = 15 ∨ a = 22 ∨ a = 24
section
variable {h : aH} {a : Nat}
theorem inn_s (g : GS h) (ha : isInn a) : hS h a = (1, 0) := by rcases ha with rfl | rfl | rfl <;> exact g.1 _ (by decide) (by decide)
theorem inn_r0 (g : GS h) (ha : isInn a) : hR h a 0 = a + 1 := by rcases ha with rfl | rfl | rfl <;> exact g.2.1 _ _ (by decide) (by decide)
theorem inn_r1 (g : GS h) (ha : isInn a) : hR h a 1 = a + 2 := by rcases ha with rfl | rfl | rfl <;> exact g.2.1 _ _ (by decide) (by decide)
theorem inn_r2 (g : GS h) (ha : isInn a) : hR h a 2 = a + 3 := by rcases ha with rfl | rfl | rfl <;> exact g.2.1 _ _ (by decide) (by decide)
theorem inn_r3 (g : GS h) (ha : isInn a) : hR h a 3 = a + 4 := by rcases ha with rfl | rfl | rfl <;> exact g.2.1 _ _ (by decide) (by decide)
theorem inn_r4 (g : GS h) (ha : isInn a) : hR h a 4 = a + 5 := by rcases ha with rfl | rfl | rfl <;> exact g.2.1 _ _ (by decide) (by decide)
theorem inn_s1 (g : GS h) (ha : isInn a) : hS h (a + 1) = (2, 5) := by rcases ha with rfl | rfl | rfl <;> exact g.1 _ (by decide) (by decide)
theorem inn_s2 (g : GS h) (ha : isInn a) : hS h (a + 2) = (2, 5) := by rcases ha with rfl | rfl | rfl <;> exact g.1 _ (by decide) (by decide)
theorem inn_s3 (g : GS h) (ha : isInn a) : hS h (a + 3) = (2, 5) := by rcases ha with rfl | rfl | rfl <;> exact g.1 _ (by decide) (by decide)
theorem inn_s4 (g : GS h) (ha : isInn a) : hS h (a + 4) = (2, 5) := by rcases ha with rfl | rfl | rfl <;> exact g.1 _ (by decide) (by decide)
theorem inn_s5 (g : GS h) (ha : isInn a) : hS h (a + 5) = (2, 5) := by rcases ha with rfl | rfl | rfl <;> exact g.1 _ (by decide) (by decide)
theorem lie_s (g : GS h) (ha : isLie a) : hS h a = (1, 1) := by rcases ha with rfl | rfl | rfl <;> exact g.1 _ (by decide) (by decide)
theorem lie_r (g : GS h) (ha : isLie a) : hR h a 0 = a + 1 := by rcases ha with rfl | rfl | rfl <;> exact g.2.1 _ _ (by decide) (by decide)
theorem lie_s1 (g : GS h) (ha : isLie a) : hS h (a + 1) = (2, 5) := by rcases ha with rfl | rfl | rfl <;> exact g.1 _ (by decide) (by decide)
end
/-- numbers as natural ones -/
theorem nI_lt_iff {a b : Nat} (ha : a < 2 ^ 31) (hb : b < 2 ^ 31) : (nI a < nI b) = (a < b) := by
  rw [Int32.lt_iff_toInt_lt, nI_toInt ha, nI_toInt hb]
  exact propext (by omega)
theorem nI_neg {a : Nat} (ha : a < 2 ^ 31) : (nI a < 0) = False := by simp [nI_pos ha]
theorem nI_eq_iff {a b : Nat} (ha : a < 2 ^ 31) (hb : b < 2 ^ 31) : (nI a = nI b) = (a = b) := by
  refine propext ⟨fun q => ?_, fun q => by rw [q]⟩
  have h1 := nI_toInt ha
  rw [q, nI_toInt hb] at h1
  omega
theorem nI_cl {n : Nat} (h : n < 2 ^ 31) : (nI n).toNatClampNeg = n := nI_clamp h
theorem nI_add1 (n : Nat) : nI n + 1 = nI (n + 1) := (nI_succ n).symm
theorem ib_nI {k n : Nat} (hk : k < n) (hn : n < 2 ^ 31) : ib (nI k) (2, n) := ⟨Or.inl rfl, nI_in hk hn⟩
theorem ibw_nI {k n : Nat} (hk : k < n) (hn : n < 2 ^ 31) : ibw (nI k) (2, n) := ⟨rfl, nI_in hk hn⟩
/-- an int that is not below zero is a natural number -/
theorem nI_self {x : Int32} (h : ¬ x < 0) : x = nI x.toNatClampNeg := by
  have h0 : (0 : Int) ≤ x.toInt := by
    have := Int32.le_iff_toInt_le.mp (Int32.not_lt.mp h)
    simpa using this
  apply Int32.toInt_inj.mp
  have hlt : x.toNatClampNeg < 2 ^ 31 := by
    have := x.toInt_lt
    show x.toInt.toNat < 2 ^ 31
    omega
  rw [nI_toInt hlt]
  show x.toInt = ((x.toInt.toNat : Nat) : Int)
  omega
theorem loop_up {P : Nat → Prop} {n : Nat} (hs : ∀ k, k < n → (P (k + 1) → P k)) (hn : P n) : P 0 := by
  induction n with
  | zero => exact hn
  | succ n ih => exact ih (fun k hk => hs k (by omega)) (hs n (by omega) hn)
