/-! WHAT IS SAID OF GUESTS, AS FUNCTIONS OF THEIR NUMBERS -/
def foldN {α : Type} (f : Nat → α → α) (z : α) : Nat → α
  | 0 => z
  | n + 1 => f n (foldN f z n)
def loudF (k s hr : Int32) : Int32 := if k = 1 then minI 40 (s + 2 * (7 - hr)) else if k = 2 then (if hr - hr / 2 * 2 = 0 then s else 0) else if k = 3 then (if 2 < hr then s else s + 10) else s
def humF (t u rn : Int32) : Bool := decide (absI (t - u) = rn) || decide (t + u = rn)
def nextF (p q : Int32) : Bool := decide (p - q = 1) || decide (p - q = -1)
def stufF (w p : Int32) : Bool := decide (w >>> (p &&& 31) &&& 1 = 1)
def sndF (K S T P : Nat → Int32) (rn w hr : Int32) (j i : Nat) : Int32 := (if stufF w (minI (P j) (P i)) = true then loudF (K j) (S j) hr / 2 else loudF (K j) (S j) hr) + (if humF (T j) (T i) rn = true then 4 else 0)
def hearF (K S T P : Nat → Int32) (rn w hr : Int32) (G i : Nat) : Int32 := foldN (fun j s => if nextF (P i) (P j) = true then s + sndF K S T P rn w hr j i else s) 0 G
/-- a set as bits -/
def bitsF (c : Nat → Bool) (G : Nat) : Int32 := foldN (fun i b => if c i = true then b ||| 1 <<< (nI i &&& 31) else b) 0 G
def wakeC (K S T Lt P : Nat → Int32) (rn w hr : Int32) (G : Nat) : Nat → Bool := fun i => !decide (hearF K S T P rn w hr G i < Lt i)
def wakeF (K S T Lt P : Nat → Int32) (rn w hr : Int32) (G : Nat) : Int32 := bitsF (wakeC K S T Lt P rn w hr G) G
/-- the first number that is so, or the bound -/
def fstN (p : Nat → Bool) : Nat → Nat
  | 0 => 0
  | n + 1 => if fstN p n < n then fstN p n else if p n then n else n + 1
theorem fstN_le (p : Nat → Bool) : ∀ n, fstN p n ≤ n := by
  intro n
  induction n with
  | zero => exact Nat.le_refl 0
  | succ n ih =>
    rw [fstN]
    split
    · omega
    · split <;> omega
theorem fstN_no (p : Nat → Bool) : ∀ n j, j < fstN p n → p j = false := by
  intro n
  induction n with
  | zero => intro j hj; exact absurd hj (by simp [fstN])
  | succ n ih =>
    intro j hj
    rw [fstN] at hj
    split at hj
    · exact ih j hj
    · have h1 := fstN_le p n
      split at hj
      · exact ih j (by omega)
      · rename_i h2 h3
        by_cases hjn : j = n
        · subst hjn; simpa using h3
        · exact ih j (by omega)
theorem fstN_yes (p : Nat → Bool) : ∀ n, fstN p n < n → p (fstN p n) = true := by
  intro n
  induction n with
  | zero => intro h; omega
  | succ n ih =>
    intro h
    rw [fstN] at h ⊢
    split at h
    · rename_i h1; rw [if_pos h1]; exact ih h1
    · rename_i h1
      rw [if_neg h1]
      split at h
      · rename_i h2; rw [if_pos h2]; exact h2
      · omega
/-- an inn of G guests at a -/
def InnAt (h : aH) (a G : Nat) : Prop := GS h ∧ isInn a ∧ hI h a 5 = nI G ∧ G ≤ 5
section INN
variable {h : aH} {a q G i j k : Nat} {Q : Option Value → aH → Prop} {x y hr : Int32}
theorem le5 : ∀ G, G < 6 → nI G ≤ 5 := by decide
theorem lt5 (hk : k < 5) : (nI k < (5 : Int32)) = True := eq_true (show nI k < nI 5 from nI_lt hk (by decide))
theorem k_hasGuest (I : InnAt h a G) : X 13 0 [.ref a, .int x] [] h Q ↔ Q (some (.int (bi (¬ x < 0 ∧ x < hI h a 5)))) h := by
  obtain ⟨g, ha, hG, h5⟩ := I
  simp only [x13_0, x13_1, x13_4, x13_5, x13_6, x13_9, x13_12, x13_13, x13_14, x13_17, x13_18, x13_21, x13_22, pv_some, pv_none, c1_int, c1_ref, c1_null, true_and, and_true, ne_eq, not_false_eq_true, not_true_eq_false, if_true, if_false, reduceCtorEq, Option.some.injEq, Value.int.injEq, absI_fold, minI_fold, maxI_fold, inn_s g ha]
  by_cases h1 : x < 0
  · simp [h1, bi]
  · by_cases h2 : x < hI h a 5
    · have h3 : x < 5 := Int32.lt_of_lt_of_le (hG ▸ h2) (le5 G (by omega))
      simp [h1, h2, h3, bi]
    · simp [h1, h2, bi]
theorem k_hasBed (g : GS h) (ha : isInn a) : X 14 0 [.ref a, .int x] [] h Q ↔ Q (some (.int (bi (¬ x < 0 ∧ x < hI h a 6)))) h := by
  simp only [x14_0, x14_1, x14_4, x14_5, x14_6, x14_9, x14_12, x14_13, x14_16, x14_17, pv_some, pv_none, c1_int, c1_ref, c1_null, true_and, and_true, ne_eq, not_false_eq_true, not_true_eq_false, if_true, if_false, reduceCtorEq, Option.some.injEq, Value.int.injEq, absI_fold, minI_fold, maxI_fold, inn_s g ha]
  by_cases h1 : x < 0
  · simp [h1, bi]
  · by_cases h2 : x < hI h a 6 <;> simp [h1, h2, bi]
theorem k_hasWall (g : GS h) (ha : isInn a) : X 15 0 [.ref a, .int x] [] h Q ↔ Q (some (.int (bi (¬ x < 0 ∧ x < hI h a 6 - 1)))) h := by
  simp only [x15_0, x15_1, x15_4, x15_5, x15_6, x15_9, x15_10, x15_11, x15_14, x15_15, x15_18, x15_19, pv_some, pv_none, c1_int, c1_ref, c1_null, true_and, and_true, ne_eq, not_false_eq_true, not_true_eq_false, if_true, if_false, reduceCtorEq, Option.some.injEq, Value.int.injEq, absI_fold, minI_fold, maxI_fold, inn_s g ha]
  by_cases h1 : x < 0
  · simp [h1, bi]
  · by_cases h2 : x < hI h a 6 - 1 <;> simp [h1, h2, bi]
theorem k_guests (g : GS h) (ha : isInn a) : X 10 0 [.ref a] [] h Q ↔ Q (some (.int (hI h a 5))) h := by
  simp only [x10_0, x10_1, x10_4, pv_some, pv_none, c1_int, c1_ref, c1_null, true_and, and_true, ne_eq, not_false_eq_true, not_true_eq_false, if_true, if_false, reduceCtorEq, Option.some.injEq, Value.int.injEq, absI_fold, minI_fold, maxI_fold, inn_s g ha]
theorem k_beds (g : GS h) (ha : isInn a) : X 11 0 [.ref a] [] h Q ↔ Q (some (.int (hI h a 6))) h := by
  simp only [x11_0, x11_1, x11_4, pv_some, pv_none, c1_int, c1_ref, c1_null, true_and, and_true, ne_eq, not_false_eq_true, not_true_eq_false, if_true, if_false, reduceCtorEq, Option.some.injEq, Value.int.injEq, absI_fold, minI_fold, maxI_fold, inn_s g ha]
theorem k_walls (g : GS h) (ha : isInn a) : X 12 0 [.ref a] [] h Q ↔ Q (some (.int (hI h a 7))) h := by
  simp only [x12_0, x12_1, x12_4, pv_some, pv_none, c1_int, c1_ref, c1_null, true_and, and_true, ne_eq, not_false_eq_true, not_true_eq_false, if_true, if_false, reduceCtorEq, Option.some.injEq, Value.int.injEq, absI_fold, minI_fold, maxI_fold, inn_s g ha]
/-- a guest's number is one -/
theorem isG (I : InnAt h a G) (hi : i < G) : bi (¬ nI i < 0 ∧ nI i < hI h a 5) = 1 := by
  obtain ⟨g, ha, hG, h5⟩ := I
  rw [hG]
  exact bi_t ⟨nI_pos (by omega), nI_lt hi (by omega)⟩
theorem notG (I : InnAt h a G) (hi : ¬ i < G) (hs : i < 1000) : bi (¬ nI i < 0 ∧ nI i < hI h a 5) = 0 := by
  obtain ⟨g, ha, hG, h5⟩ := I
  rw [hG]
  exact bi_f (fun z => hi (by have := z.2; rwa [nI_lt_iff (by omega) (by omega)] at this))
theorem ib5 (hi : i < 5) : ib (nI i) (2, 5) = True := by simp [ib_nI hi (by decide)]
theorem cl5 (hi : i < 5) : (nI i).toNatClampNeg = i := nI_cl (by omega)
theorem two_ne : ((2 : Int32) = 0) = False := by decide
theorem one_ne : ((1 : Int32) = 0) = False := by decide
theorem InnAt.s (I : InnAt h a G) : hS h a = (1, 0) := inn_s I.1 I.2.1
theorem k_kindOf (I : InnAt h a G) (hi : i < G) : X 16 0 [.ref a, .int (nI i)] [] h Q ↔ Q (some (.int (hI h (a + 1) i))) h := by
  have hi5 : i < 5 := Nat.lt_of_lt_of_le hi I.2.2.2
  simp only [x16_0, x16_1, x16_2, x16_5, x16_8, x16_9, x16_12, x16_13, x16_14, x16_17, x16_18, pv_some, pv_none, c1_int, c1_ref, c1_null, true_and, and_true, ne_eq, not_false_eq_true, not_true_eq_false, if_true, if_false, reduceCtorEq, Option.some.injEq, Value.int.injEq, absI_fold, minI_fold, maxI_fold, I.s, k_hasGuest I, isG I hi, one_ne, inn_r0 I.1 I.2.1, inn_s1 I.1 I.2.1, ib5 hi5, cl5 hi5, Nat.add_eq_zero_iff, and_false]
theorem k_strengthOf (I : InnAt h a G) (hi : i < G) : X 17 0 [.ref a, .int (nI i)] [] h Q ↔ Q (some (.int (hI h (a + 2) i))) h := by
  have hi5 : i < 5 := Nat.lt_of_lt_of_le hi I.2.2.2
  simp only [x17_0, x17_1, x17_2, x17_5, x17_8, x17_9, x17_12, x17_13, x17_14, x17_17, x17_18, pv_some, pv_none, c1_int, c1_ref, c1_null, true_and, and_true, ne_eq, not_false_eq_true, not_true_eq_false, if_true, if_false, reduceCtorEq, Option.some.injEq, Value.int.injEq, absI_fold, minI_fold, maxI_fold, I.s, k_hasGuest I, isG I hi, one_ne, inn_r1 I.1 I.2.1, inn_s2 I.1 I.2.1, ib5 hi5, cl5 hi5, Nat.add_eq_zero_iff, and_false]
theorem k_noteOf (I : InnAt h a G) (hi : i < G) : X 18 0 [.ref a, .int (nI i)] [] h Q ↔ Q (some (.int (hI h (a + 3) i))) h := by
  have hi5 : i < 5 := Nat.lt_of_lt_of_le hi I.2.2.2
  simp only [x18_0, x18_1, x18_2, x18_5, x18_8, x18_9, x18_12, x18_13, x18_14, x18_17, x18_18, pv_some, pv_none, c1_int, c1_ref, c1_null, true_and, and_true, ne_eq, not_false_eq_true, not_true_eq_false, if_true, if_false, reduceCtorEq, Option.some.injEq, Value.int.injEq, absI_fold, minI_fold, maxI_fold, I.s, k_hasGuest I, isG I hi, one_ne, inn_r2 I.1 I.2.1, inn_s3 I.1 I.2.1, ib5 hi5, cl5 hi5, Nat.add_eq_zero_iff, and_false]
theorem k_lightnessOf (I : InnAt h a G) (hi : i < G) : X 19 0 [.ref a, .int (nI i)] [] h Q ↔ Q (some (.int (hI h (a + 4) i))) h := by
  have hi5 : i < 5 := Nat.lt_of_lt_of_le hi I.2.2.2
  simp only [x19_0, x19_1, x19_2, x19_5, x19_8, x19_9, x19_12, x19_13, x19_14, x19_17, x19_18, pv_some, pv_none, c1_int, c1_ref, c1_null, true_and, and_true, ne_eq, not_false_eq_true, not_true_eq_false, if_true, if_false, reduceCtorEq, Option.some.injEq, Value.int.injEq, absI_fold, minI_fold, maxI_fold, I.s, k_hasGuest I, isG I hi, one_ne, inn_r3 I.1 I.2.1, inn_s4 I.1 I.2.1, ib5 hi5, cl5 hi5, Nat.add_eq_zero_iff, and_false]
theorem k_firstPlaceOf (I : InnAt h a G) (hi : i < 5) : X 20 0 [.ref a, .int (nI i)] [] h Q ↔ Q (some (.int (if i < G then hI h (a + 5) i else 0))) h := by
  by_cases hg : i < G
  · simp only [x20_0, x20_1, x20_2, x20_5, x20_8, x20_9, x20_12, x20_13, x20_14, x20_17, x20_18, pv_some, pv_none, c1_int, c1_ref, c1_null, true_and, and_true, ne_eq, not_false_eq_true, not_true_eq_false, if_true, if_false, reduceCtorEq, Option.some.injEq, Value.int.injEq, absI_fold, minI_fold, maxI_fold, I.s, k_hasGuest I, isG I hg, one_ne, inn_r4 I.1 I.2.1, inn_s5 I.1 I.2.1, ib5 hi, cl5 hi, Nat.add_eq_zero_iff, and_false, hg]
  · simp only [x20_0, x20_1, x20_2, x20_5, x20_8, x20_9, x20_12, x20_13, x20_14, x20_17, x20_18, pv_some, pv_none, c1_int, c1_ref, c1_null, true_and, and_true, ne_eq, not_false_eq_true, not_true_eq_false, if_true, if_false, reduceCtorEq, Option.some.injEq, Value.int.injEq, absI_fold, minI_fold, maxI_fold, I.s, k_hasGuest I, notG I hg (by omega), hg]
theorem k_placeOf (g : GS h) (hq : isLie q) (hi : i < 5) : X 38 0 [.ref q, .int (nI i)] [] h Q ↔ Q (some (.int (hI h (q + 1) i))) h := by
  simp only [x38_0, x38_1, x38_4, x38_5, x38_6, x38_9, x38_10, x38_13, x38_14, x38_17, x38_18, x38_19, x38_22, x38_24, pv_some, pv_none, c1_int, c1_ref, c1_null, true_and, and_true, ne_eq, not_false_eq_true, not_true_eq_false, if_true, if_false, reduceCtorEq, Option.some.injEq, Value.int.injEq, absI_fold, minI_fold, maxI_fold, lie_s g hq, lie_r g hq, lie_s1 g hq, ib5 hi, cl5 hi, nI_neg (show i < 2 ^ 31 by omega), show (nI i < Int32.ofNat 5) = True from eq_true (nI_lt hi (by decide)), if_true, if_false, true_or, or_true, false_or, or_false, true_and, and_true, false_and, and_false, not_true_eq_false, not_false_eq_true, iff_self, ite_self, ne_eq, true_implies, implies_true, Bool.false_eq_true, decide_true, decide_false, Bool.or_true, Bool.or_false, Bool.true_or, Bool.false_or, Nat.add_eq_zero_iff]
theorem k_loudness (I : InnAt h a G) (hi : i < G) : X 21 0 [.ref a, .int (nI i), .int hr, .null] [] h Q ↔ Q (some (.int (loudF (hI h (a + 1) i) (hI h (a + 2) i) hr))) h := by
  have hi5 : i < 5 := Nat.lt_of_lt_of_le hi I.2.2.2
  simp only [x21_0, x21_1, x21_2, x21_5, x21_8, x21_9, x21_10, x21_11, x21_14, x21_15, x21_16, x21_17, x21_18, x21_21, x21_22, x21_23, x21_48, x21_50, x21_51, x21_52, x21_54, x21_55, x21_56, x21_57, x21_58, x21_61, x21_62, x21_63, x21_64, x21_65, x21_68, x21_69, x21_72, x21_73, x21_74, x21_75, x21_76, x21_79, x21_80, x21_82, x21_83, x21_86, x21_87, x21_88, x21_89, pv_some, pv_none, c1_int, c1_ref, c1_null, true_and, and_true, ne_eq, not_false_eq_true, not_true_eq_false, if_true, if_false, reduceCtorEq, Option.some.injEq, Value.int.injEq, absI_fold, minI_fold, maxI_fold, I.s, k_hasGuest I, isG I hi, one_ne, inn_r0 I.1 I.2.1, inn_s1 I.1 I.2.1, inn_r1 I.1 I.2.1, inn_s2 I.1 I.2.1, ib5 hi5, cl5 hi5]
  unfold loudF
  by_cases h1 : hI h (a + 1) i = 1
  · simp [h1]
  · by_cases h2 : hI h (a + 1) i = 2
    · simp only [h2]
      by_cases h3 : hr - hr / 2 * 2 = 0 <;> simp [h3]
    · by_cases h4 : hI h (a + 1) i = 3
      · simp only [h4]
        by_cases h5 : 2 < hr <;> simp [h5]
      · simp [h1, h2, h4]
theorem k_areHumming (I : InnAt h a G) (hi : i < G) (hj : j < G) : X 22 0 [.ref a, .int (nI i), .int (nI j)] [] h Q ↔ Q (some (.int (bi (humF (hI h (a + 3) i) (hI h (a + 3) j) (hI h a 9) = true)))) h := by
  have hi5 : i < 5 := Nat.lt_of_lt_of_le hi I.2.2.2
  have hj5 : j < 5 := Nat.lt_of_lt_of_le hj I.2.2.2
  simp only [x22_0, x22_1, x22_2, x22_5, x22_8, x22_9, x22_10, x22_13, x22_16, x22_17, x22_18, x22_19, x22_22, x22_23, x22_24, x22_25, x22_28, x22_29, x22_30, x22_31, x22_34, x22_35, x22_38, x22_41, x22_42, x22_45, x22_46, x22_47, x22_48, x22_51, x22_52, x22_53, x22_54, x22_55, x22_58, x22_61, x22_62, x22_65, x22_66, pv_some, pv_none, c1_int, c1_ref, c1_null, true_and, and_true, ne_eq, not_false_eq_true, not_true_eq_false, if_true, if_false, reduceCtorEq, Option.some.injEq, Value.int.injEq, absI_fold, minI_fold, maxI_fold, I.s, k_hasGuest I, isG I hi, isG I hj, one_ne, inn_r2 I.1 I.2.1, inn_s3 I.1 I.2.1, ib5 hi5, cl5 hi5, ib5 hj5, cl5 hj5]
  by_cases h1 : absI (hI h (a + 3) i - hI h (a + 3) j) = hI h a 9
  · simp only [h1, humF, bi, if_true, if_false, true_or, or_true, false_or, or_false, true_and, and_true, false_and, and_false, not_true_eq_false, not_false_eq_true, iff_self, ite_self, ne_eq, true_implies, implies_true, Bool.false_eq_true, decide_true, decide_false, Bool.or_true, Bool.or_false, Bool.true_or, Bool.false_or]
  · by_cases h2 : hI h (a + 3) i + hI h (a + 3) j = hI h a 9 <;> simp only [h1, h2, humF, bi, if_true, if_false, true_or, or_true, false_or, or_false, true_and, and_true, false_and, and_false, not_true_eq_false, not_false_eq_true, iff_self, ite_self, ne_eq, true_implies, implies_true, Bool.false_eq_true, decide_true, decide_false, Bool.or_true, Bool.or_false, Bool.true_or, Bool.false_or]
theorem k_isStuffed (g : GS h) (hq : isLie q) : X 42 0 [.ref q, .int x] [] h Q ↔ Q (some (.int (bi (stufF (hI h q 1) x = true)))) h := by
  simp only [x42_0, x42_1, x42_4, x42_5, x42_6, x42_7, x42_8, x42_9, x42_12, x42_13, x42_16, x42_17, pv_some, pv_none, c1_int, c1_ref, c1_null, true_and, and_true, ne_eq, not_false_eq_true, not_true_eq_false, if_true, if_false, reduceCtorEq, Option.some.injEq, Value.int.injEq, absI_fold, minI_fold, maxI_fold, lie_s g hq]
  by_cases h1 : hI h q 1 >>> (x &&& 31) &&& 1 = 1 <;> simp only [h1, stufF, bi, if_true, if_false, true_or, or_true, false_or, or_false, true_and, and_true, false_and, and_false, not_true_eq_false, not_false_eq_true, iff_self, ite_self, ne_eq, true_implies, implies_true, Bool.false_eq_true, decide_true, decide_false, Bool.or_true, Bool.or_false, Bool.true_or, Bool.false_or]
theorem k_areNext (g : GS h) (hq : isLie q) (hi : i < 5) (hj : j < 5) : X 39 0 [.ref q, .int (nI i), .int (nI j), .null] [] h Q ↔ Q (some (.int (bi (nextF (hI h (q + 1) i) (hI h (q + 1) j) = true)))) h := by
  simp only [x39_0, x39_1, x39_2, x39_5, x39_6, x39_7, x39_10, x39_11, x39_12, x39_13, x39_14, x39_17, x39_18, x39_19, x39_22, x39_23, x39_26, x39_27, pv_some, pv_none, c1_int, c1_ref, c1_null, true_and, and_true, ne_eq, not_false_eq_true, not_true_eq_false, if_true, if_false, reduceCtorEq, Option.some.injEq, Value.int.injEq, absI_fold, minI_fold, maxI_fold, lie_s g hq, k_placeOf g hq hi, k_placeOf g hq hj]
  by_cases h1 : hI h (q + 1) i - hI h (q + 1) j = 1
  · simp only [h1, nextF, bi, if_true, if_false, true_or, or_true, false_or, or_false, true_and, and_true, false_and, and_false, not_true_eq_false, not_false_eq_true, iff_self, ite_self, ne_eq, true_implies, implies_true, Bool.false_eq_true, decide_true, decide_false, Bool.or_true, Bool.or_false, Bool.true_or, Bool.false_or]
  · by_cases h2 : hI h (q + 1) i - hI h (q + 1) j = -1 <;> simp only [h1, h2, nextF, bi, if_true, if_false, true_or, or_true, false_or, or_false, true_and, and_true, false_and, and_false, not_true_eq_false, not_false_eq_true, iff_self, ite_self, ne_eq, true_implies, implies_true, Bool.false_eq_true, decide_true, decide_false, Bool.or_true, Bool.or_false, Bool.true_or, Bool.false_or]
/-- the numbers of an inn at a, lying as q -/
abbrev sndA (h : aH) (a q : Nat) (hr : Int32) (j i : Nat) : Int32 := sndF (hI h (a + 1)) (hI h (a + 2)) (hI h (a + 3)) (hI h (q + 1)) (hI h a 9) (hI h q 1) hr j i
theorem k_soundOf (I : InnAt h a G) (hq : isLie q) (hi : i < G) (hj : j < G) : X 23 0 [.ref a, .int (nI j), .int (nI i), .ref q, .int hr, .null] [] h Q ↔ Q (some (.int (sndA h a q hr j i))) h := by
  have hi5 : i < 5 := Nat.lt_of_lt_of_le hi I.2.2.2
  have hj5 : j < 5 := Nat.lt_of_lt_of_le hj I.2.2.2
  simp only [x23_0, x23_1, x23_2, x23_4, x23_7, x23_9, x23_10, x23_11, x23_12, x23_15, x23_16, x23_17, x23_20, x23_23, x23_26, x23_29, x23_31, x23_32, x23_33, x23_35, x23_36, x23_37, x23_38, x23_41, x23_44, x23_46, x23_47, x23_48, x23_51, x23_53, pv_some, pv_none, c1_int, c1_ref, c1_null, true_and, and_true, ne_eq, not_false_eq_true, not_true_eq_false, if_true, if_false, reduceCtorEq, Option.some.injEq, Value.int.injEq, absI_fold, minI_fold, maxI_fold, I.s, lie_s I.1 hq, k_loudness I hj, k_placeOf I.1 hq hi5, k_placeOf I.1 hq hj5, k_isStuffed I.1 hq, k_areHumming I hj hi, bi_zero]
  unfold sndA sndF
  by_cases h1 : stufF (hI h q 1) (minI (hI h (q + 1) j) (hI h (q + 1) i)) = true <;> by_cases h2 : humF (hI h (a + 3) j) (hI h (a + 3) i) (hI h a 9) = true <;> simp only [h1, h2, if_true, if_false, true_or, or_true, false_or, or_false, true_and, and_true, false_and, and_false, not_true_eq_false, not_false_eq_true, iff_self, ite_self, ne_eq, true_implies, implies_true, Bool.false_eq_true, decide_true, decide_false, Bool.or_true, Bool.or_false, Bool.true_or, Bool.false_or, Int32.add_zero, two_ne]
abbrev hearA (h : aH) (a q : Nat) (hr : Int32) (G i : Nat) : Int32 := hearF (hI h (a + 1)) (hI h (a + 2)) (hI h (a + 3)) (hI h (q + 1)) (hI h a 9) (hI h q 1) hr G i
theorem ltG (I : InnAt h a G) (hk : k < G) : (nI k < hI h a 5) = True := by
  have h5 := I.2.2.2
  rw [I.2.2.1]
  exact eq_true (nI_lt hk (by omega))
theorem nltG (I : InnAt h a G) : (nI G < hI h a 5) = False := by
  have h5 := I.2.2.2
  rw [I.2.2.1]
  exact eq_false (nI_nlt (Nat.le_refl G) (by omega))
theorem k_hearing (I : InnAt h a G) (hq : isLie q) (hi : i < G) : X 24 0 [.ref a, .int (nI i), .ref q, .int hr, .null, .null] [] h Q ↔ Q (some (.int (hearA h a q hr G i))) h := by
  refine X_iff ?_ Q
  have hi5 : i < 5 := Nat.lt_of_lt_of_le hi I.2.2.2
  simp only [x24_0, x24_1, x24_3, x24_4, x24_8, x24_9, x24_12, x24_15, x24_16, x24_17, x24_19, x24_22, x24_25, x24_27, x24_28, x24_30, x24_31, x24_32, x24_33, x24_36, x24_37, x24_39, x24_42, x24_45, x24_47, pv_some, pv_none, c1_int, c1_ref, c1_null, true_and, and_true, ne_eq, not_false_eq_true, not_true_eq_false, if_true, if_false, reduceCtorEq, Option.some.injEq, Value.int.injEq, absI_fold, minI_fold, maxI_fold]
  refine loop_up (P := fun k => X 24 6 [.ref a, .int (nI i), .ref q, .int hr, .int (hearA h a q hr k i), .int (nI k)] [] h _) (n := G) (fun k hk hp => ?_) ?_
  · have hk5 : k < 5 := Nat.lt_of_lt_of_le hk I.2.2.2
    rw [x24_6]
    simp only [x24_0, x24_1, x24_3, x24_4, x24_8, x24_9, x24_12, x24_15, x24_16, x24_17, x24_19, x24_22, x24_25, x24_27, x24_28, x24_30, x24_31, x24_32, x24_33, x24_36, x24_37, x24_39, x24_42, x24_45, x24_47, pv_some, pv_none, c1_int, c1_ref, c1_null, true_and, and_true, ne_eq, not_false_eq_true, not_true_eq_false, if_true, if_false, reduceCtorEq, Option.some.injEq, Value.int.injEq, absI_fold, minI_fold, maxI_fold, I.s, ltG I hk, lie_s I.1 hq, k_areNext I.1 hq hi5 hk5, bi_zero, k_soundOf I hq hi hk, nI_add1]
    by_cases h1 : nextF (hI h (q + 1) i) (hI h (q + 1) k) = true
    · simp only [h1, if_true, if_false, true_or, or_true, false_or, or_false, true_and, and_true, false_and, and_false, not_true_eq_false, not_false_eq_true, iff_self, ite_self, ne_eq, true_implies, implies_true, Bool.false_eq_true, decide_true, decide_false, Bool.or_true, Bool.or_false, Bool.true_or, Bool.false_or]
      simpa only [hearA, hearF, foldN, h1, if_true] using hp
    · simp only [h1, if_true, if_false, true_or, or_true, false_or, or_false, true_and, and_true, false_and, and_false, not_true_eq_false, not_false_eq_true, iff_self, ite_self, ne_eq, true_implies, implies_true, Bool.false_eq_true, decide_true, decide_false, Bool.or_true, Bool.or_false, Bool.true_or, Bool.false_or]
      simpa only [hearA, hearF, foldN, h1, if_true, if_false, true_or, or_true, false_or, or_false, true_and, and_true, false_and, and_false, not_true_eq_false, not_false_eq_true, iff_self, ite_self, ne_eq, true_implies, implies_true, Bool.false_eq_true, decide_true, decide_false, Bool.or_true, Bool.or_false, Bool.true_or, Bool.false_or] using hp
  · skip
    rw [x24_6]
    simp only [x24_0, x24_1, x24_3, x24_4, x24_8, x24_9, x24_12, x24_15, x24_16, x24_17, x24_19, x24_22, x24_25, x24_27, x24_28, x24_30, x24_31, x24_32, x24_33, x24_36, x24_37, x24_39, x24_42, x24_45, x24_47, pv_some, pv_none, c1_int, c1_ref, c1_null, true_and, and_true, ne_eq, not_false_eq_true, not_true_eq_false, if_true, if_false, reduceCtorEq, Option.some.injEq, Value.int.injEq, absI_fold, minI_fold, maxI_fold, I.s, nltG I]
end INN
