/-! A TEXT READ: as a function of its letters; the draft as 31 numbers (0 guests, 1 beds, 2 porters, 3 note, 4 walls, 5 other, 6.. kinds, 11.. loud, 16.. notes, 21.. light, 26.. beds) -/
def gN (D : Nat → Int32) : Nat := (D 0).toNatClampNeg
def upD (D : Nat → Int32) (k : Nat) (v : Int32) : Nat → Int32 := fun j => if j = k then v else D j
def D0 : Nat → Int32 := fun j => if j = 1 then 6 else if j = 2 then 8 else if j = 3 then 7 else 0
def okGD (D t : Nat → Int32) : Bool := decide (gN D < 5) && decide (nI (gN D) < D 1 - 1) && !decide (3 < t 0) && !decide (30 < t 1) && !decide (12 < t 2) && !decide (t 3 < 1) && !decide (40 < t 3) && (!decide (t 4 < 0) && decide (t 4 < D 1)) && !takenF (fun i => D (26 + i)) (t 4) (gN D)
def gstD (D t : Nat → Int32) : Nat → Int32 := fun j => if j = 0 then nI (gN D + 1) else if j = 5 then 1 else if j = 6 + gN D then t 0 else if j = 11 + gN D then t 1 else if j = 16 + gN D then t 2 else if j = 21 + gN D then t 3 else if j = 26 + gN D then t 4 else D j
def tellF (ch : Int32) (m : Nat) (t D : Nat → Int32) : Option (Nat → Int32) :=
  if ch = 103 then (if m = 5 ∧ okGD D t = true then some (gstD D t) else none)
  else if m = 1 then (
    if ch = 99 then (if 40 < t 0 then none else some (upD (upD D 2 (t 0)) 5 1))
    else if ch = 110 then (if okBeds (D 5) (t 0) then some (upD D 1 (t 0)) else none)
    else if ch = 114 then (if 12 < t 0 then none else some (upD (upD D 3 (t 0)) 5 1))
    else if ch = 119 then (if ¬ t 0 < 0 ∧ t 0 < D 1 - 1 then some (upD (upD D 4 (D 4 ||| 1 <<< (t 0 &&& 31))) 5 1) else none)
    else none)
  else none
def itemF (c : Nat → Int32) (p : Nat) (D : Nat → Int32) : Option (Nat × (Nat → Int32)) := match rdR c 5 (p + 1) with
  | none => none
  | some q => match tellF (c p) q.2 (fun j => vlF c (psF c (p + 1) j)) D with
    | none => none
    | some D' => some (q.1, D')
def parseF (c : Nat → Int32) (n : Nat) : Nat → Nat → (Nat → Int32) → Option Nat × (Nat → Int32)
  | 0, _, D => (none, D)
  | f + 1, p, D => if p < n then (match itemF c p D with
    | none => (some p, D)
    | some q => parseF c n f q.1 q.2) else (none, D)
/-- an inn's numbers are a draft's -/
def ID (h : aH) (a : Nat) (D : Nat → Int32) : Prop := (hI h a 5 = D 0 ∧ hI h a 6 = D 1 ∧ hI h a 8 = D 2 ∧ hI h a 9 = D 3 ∧ hI h a 7 = D 4 ∧ hI h a 10 = D 5) ∧ ∀ i, i < gN D → hI h (a + 1) i = D (6 + i) ∧ hI h (a + 2) i = D (11 + i) ∧ hI h (a + 3) i = D (16 + i) ∧ hI h (a + 4) i = D (21 + i) ∧ hI h (a + 5) i = D (26 + i)
/-- what a draft may be -/
def DW (D : Nat → Int32) : Prop := (D 0 = nI (gN D) ∧ gN D ≤ 5) ∧ (∃ n, D 1 = nI n ∧ 2 ≤ n ∧ n ≤ 6 ∧ gN D < n ∧ ∀ i, i < gN D → ∃ b, b < n ∧ D (26 + i) = nI b) ∧ (∃ v, v ≤ 40 ∧ D 2 = nI v) ∧ (∃ v, v ≤ 12 ∧ D 3 = nI v) ∧ (∃ v, v < 32 ∧ D 4 = nI v) ∧ (D 5 = 0 ∨ D 5 = 1) ∧ (gN D ≠ 0 → D 5 = 1) ∧ (∀ i, i < gN D → (∃ v, v ≤ 3 ∧ D (6 + i) = nI v) ∧ (∃ v, v ≤ 30 ∧ D (11 + i) = nI v) ∧ (∃ v, v ≤ 12 ∧ D (16 + i) = nI v) ∧ (∃ v, 1 ≤ v ∧ v ≤ 40 ∧ D (21 + i) = nI v)) ∧ ∀ i j, i < gN D → j < gN D → D (26 + i) = D (26 + j) → i = j
/-- heaps that differ in the text's scratch and in an inn's cells alone -/
def Fr (h h' : aH) (a : Nat) : Prop := h' = wI h (hI h') ∧ ∀ b j, b ≠ 6 → ¬ (b = 4 ∧ j = 3) → ¬ (a ≤ b ∧ b ≤ a + 5) → hI h' b j = hI h b j
theorem Fr.refl (h : aH) (a : Nat) : Fr h h a := ⟨by obtain ⟨x1, x2, x3, x4, x5⟩ := h; rfl, fun _ _ _ _ _ => rfl⟩
theorem Fr.trans {h h1 h2 : aH} {a : Nat} (x : Fr h h1 a) (y : Fr h1 h2 a) : Fr h h2 a := by
  refine ⟨?_, fun b j q1 q2 q3 => (y.2 b j q1 q2 q3).trans (x.2 b j q1 q2 q3)⟩
  have e1 := y.1
  rw [x.1] at e1
  exact e1
theorem Fr.GS {h h' : aH} {a : Nat} (x : Fr h h' a) (g : GS h) : GS h' := by rw [x.1]; exact g
theorem Fr.Tx {h h' : aH} {a n : Nat} (x : Fr h h' a) (ha : isInn a) (T : TxAt h n) : TxAt h' n := ⟨x.GS T.1, by rw [x.2 4 1 (by decide) (by decide) (by rcases ha with rfl | rfl | rfl <;> omega)]; exact T.2.1, T.2.2⟩
theorem Fr.ltr {h h' : aH} {a : Nat} (x : Fr h h' a) (ha : isInn a) : ltr (hI h' 5) = ltr (hI h 5) := by
  rw [show hI h' 5 = hI h 5 from by funext p; exact x.2 5 p (by decide) (by omega) (by rcases ha with rfl | rfl | rfl <;> omega)]
theorem Fr.wI {h : aH} {a : Nat} {f : Nat → Nat → Int32} (hf : ∀ b j, b ≠ 6 → ¬ (b = 4 ∧ j = 3) → ¬ (a ≤ b ∧ b ≤ a + 5) → f b j = hI h b j) : Fr h (wI h f) a := ⟨rfl, hf⟩
theorem Fr.sI {h h' : aH} {a : Nat} (x : Fr h h' a) {b k : Nat} (v : Int32) (hb : b = 6 ∨ b = 4 ∧ k = 3 ∨ a ≤ b ∧ b ≤ a + 5) : Fr h (sI h' b k v) a := by
  refine x.trans ⟨rfl, fun c j q1 q2 q3 => ?_⟩
  rw [hI_sI, if_neg]
  rintro ⟨rfl, rfl⟩
  rcases hb with q | q | q
  · exact q1 q
  · exact q2 q
  · exact q3 q
theorem rdH_Fr (c : Nat → Int32) (a : Nat) : ∀ (r p k : Nat) (h : aH), Fr h (rdH c r p k h) a := by
  intro r
  induction r with
  | zero => intro p k h; exact Fr.refl h a
  | succ r ih =>
    intro p k h
    have h2 : Fr h (sI (sI h 6 k (vlF c p)) 4 3 (nI (k + 1))) a := ((Fr.refl h a).sI _ (Or.inl rfl)).sI _ (Or.inr (Or.inl ⟨rfl, rfl⟩))
    rw [rdH]
    split
    · split
      · exact h2
      · split
        · exact h2.trans (ih _ _ _)
        · exact h2
    · exact Fr.refl h a
theorem rdH_in (c : Nat → Int32) : ∀ (r p k : Nat) (h : aH) (b j : Nat), b ≠ 6 → ¬ (b = 4 ∧ j = 3) → hI (rdH c r p k h) b j = hI h b j := fun r p k h b j q1 q2 => (rdH_Fr c (b + 1) r p k h).2 b j q1 q2 (by omega)
theorem rdH_lo (c : Nat → Int32) : ∀ (r p k : Nat) (h : aH) (j : Nat), j < k → hI (rdH c r p k h) 6 j = hI h 6 j := by
  intro r
  induction r with
  | zero => intro p k h j _; rfl
  | succ r ih =>
    intro p k h j hj
    have h2 : hI (sI (sI h 6 k (vlF c p)) 4 3 (nI (k + 1))) 6 j = hI h 6 j := by rw [hI_sI, if_neg (by omega), hI_sI, if_neg (by omega)]
    rw [rdH]
    split
    · split
      · exact h2
      · split
        · rw [ih _ _ _ _ (by omega)]; exact h2
        · exact h2
    · rfl
theorem psF_sh (c : Nat → Int32) (p : Nat) : ∀ j, psF c (nxF c p + 1) j = psF c p (j + 1) := by
  intro j
  induction j with
  | zero => rfl
  | succ j ih => rw [psF, ih]; rfl
theorem rdH_val (c : Nat → Int32) : ∀ (r p k : Nat) (h : aH) (e m : Nat), rdR c r p = some (e, m) → hI (rdH c r p k h) 4 3 = nI (k + m) ∧ (∀ j, j < m → hI (rdH c r p k h) 6 (k + j) = vlF c (psF c p j)) ∧ (∀ j, j < m → dig (c (psF c p j)) = true) ∧ 1 ≤ m ∧ m ≤ r ∧ p + 2 ≤ e := by
  intro r
  induction r with
  | zero => intro p k h e m hr; simp [rdR] at hr
  | succ r ih =>
    intro p k h e m hr
    have hn : p + 1 ≤ nxF c p := by unfold nxF; split <;> omega
    rw [rdR] at hr
    rw [rdH]
    by_cases h1 : dig (c p) = true
    · rw [if_pos h1] at hr ⊢
      by_cases h2 : c (nxF c p) = 59
      · rw [if_pos h2] at hr ⊢
        simp only [Option.some.injEq, Prod.mk.injEq] at hr
        obtain ⟨rfl, rfl⟩ := hr
        refine ⟨by rw [hI_sI, if_pos ⟨rfl, rfl⟩], fun j hj => ?_, fun j hj => ?_, by omega, by omega, by omega⟩
        · have : j = 0 := by omega
          subst this
          rw [hI_sI, if_neg (by omega), hI_sI, if_pos ⟨rfl, rfl⟩]
          rfl
        · have : j = 0 := by omega
          subst this
          exact h1
      · rw [if_neg h2] at hr ⊢
        by_cases h3 : c (nxF c p) = 44
        · rw [if_pos h3] at hr ⊢
          cases hq : rdR c r (nxF c p + 1) with
          | none => rw [hq] at hr; simp at hr
          | some q =>
            obtain ⟨e', m'⟩ := q
            rw [hq] at hr
            simp only [Option.map_some, Option.some.injEq, Prod.mk.injEq] at hr
            obtain ⟨rfl, rfl⟩ := hr
            obtain ⟨i1, i2, i3, i4, i5, i6⟩ := ih (nxF c p + 1) (k + 1) (sI (sI h 6 k (vlF c p)) 4 3 (nI (k + 1))) _ _ hq
            refine ⟨by rw [i1]; congr 1; omega, fun j hj => ?_, fun j hj => ?_, by omega, by omega, by omega⟩
            · cases j with
              | zero =>
                rw [Nat.add_zero, rdH_lo _ _ _ _ _ _ (by omega), hI_sI, if_neg (by omega), hI_sI, if_pos ⟨rfl, rfl⟩]
                rfl
              | succ j =>
                have := i2 j (by omega)
                rw [psF_sh] at this
                rw [← this]
                congr 1
                omega
            · cases j with
              | zero => exact h1
              | succ j =>
                have := i3 j (by omega)
                rw [psF_sh] at this
                exact this
        · rw [if_neg h3] at hr; simp at hr
    · rw [if_neg h1] at hr; simp at hr
