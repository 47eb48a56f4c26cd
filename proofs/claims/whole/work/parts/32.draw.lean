/-! DRAWS: long arithmetic within range -/
def nL (n : Nat) : Int64 := Int64.ofNat n
theorem nL_int {n : Nat} (h : n < 2 ^ 63) : (nL n).toInt = n := Int64.toInt_ofNat_of_lt h
theorem nL_of {x : Int64} {n : Nat} (h : n < 2 ^ 63) (e : x.toInt = n) : x = nL n := Int64.toInt_inj.mp (e.trans (nL_int h).symm)
theorem nL_add (a b : Nat) : nL a + nL b = nL (a + b) := (Int64.ofNat_add a b).symm
theorem nL_mul (a b : Nat) : nL a * nL b = nL (a * b) := (Int64.ofNat_mul a b).symm
theorem nL_sub {a b : Nat} (h : b ≤ a) : nL a - nL b = nL (a - b) := by
  have : nL a = nL (a - b) + nL b := by rw [nL_add]; congr 1; omega
  rw [this, Int64.add_sub_cancel]
theorem nL_div {a b : Nat} (ha : a < 2 ^ 63) (hb : b < 2 ^ 63) : nL a / nL b = nL (a / b) := by
  have hd : a / b < 2 ^ 63 := Nat.lt_of_le_of_lt (Nat.div_le_self a b) ha
  refine nL_of hd ?_
  rw [Int64.toInt_div, nL_int ha, nL_int hb]
  rw [show ((a : Int).tdiv b) = ((a / b : Nat) : Int) from rfl]
  generalize a / b = d at *
  exact Int.bmod_eq_of_le (by omega) (by omega)
theorem nI_int {n : Nat} (h : n < 2 ^ 31) : (nI n).toInt = n := Int32.toInt_ofNat_of_lt h
theorem nI_ofI {x : Int32} {n : Nat} (h : n < 2 ^ 31) (e : x.toInt = n) : x = nI n := Int32.toInt_inj.mp (e.trans (nI_int h).symm)
theorem nI_div {a b : Nat} (ha : a < 2 ^ 31) (hb : b < 2 ^ 31) : nI a / nI b = nI (a / b) := by
  have hd : a / b < 2 ^ 31 := Nat.lt_of_le_of_lt (Nat.div_le_self a b) ha
  refine nI_ofI hd ?_
  rw [Int32.toInt_div, nI_int ha, nI_int hb]
  rw [show ((a : Int).tdiv b) = ((a / b : Nat) : Int) from rfl]
  generalize a / b = d at *
  exact Int.bmod_eq_of_le (by omega) (by omega)
theorem nI_mod {a b : Nat} (ha : a < 2 ^ 31) (hb : b < 2 ^ 31) : nI a - nI a / nI b * nI b = nI (a % b) := by
  rw [nI_div ha hb, nI_mul, nI_sub (Nat.div_mul_le_self a b)]
  congr 1
  rw [Nat.mod_eq_sub_div_mul]
theorem nL_mod {a b : Nat} (ha : a < 2 ^ 63) (hb : b < 2 ^ 63) : nL a - nL a / nL b * nL b = nL (a % b) := by
  rw [nL_div ha hb, nL_mul, nL_sub (Nat.div_mul_le_self a b)]
  congr 1
  rw [Nat.mod_eq_sub_div_mul]
theorem nI_long {n : Nat} (h : n < 2 ^ 31) : (nI n).toInt64 = nL n := by
  refine nL_of (by omega) ?_
  rw [Int32.toInt_toInt64, nI_int h]
theorem nL_int32 {n : Nat} (h : n < 2 ^ 31) : (nL n).toInt32 = nI n := by
  refine nI_ofI h ?_
  rw [Int64.toInt_toInt32, nL_int (by omega)]
  exact Int.bmod_eq_of_le (by omega) (by omega)
def dX (z k : Nat) : Nat := 7919 * z + 6151 * k + 1
def dN (z k : Nat) : Nat := dX z k * dX z k % 65521 / 4
theorem dX_lt {z k : Nat} (hz : z < 10000) (hk : k < 30) : dX z k * dX z k < 2 ^ 63 := by
  have : dX z k ≤ 80000000 := by unfold dX; omega
  exact Nat.lt_of_le_of_lt (Nat.mul_le_mul this this) (by decide)
theorem dX_long {z k : Nat} (hz : z < 10000) (hk : k < 30) : (7919 : Int64) * (nI z).toInt64 + 6151 * (nI k).toInt64 + 1 = nL (dX z k) := by
  rw [nI_long (by omega), nI_long (by omega), show (7919 : Int64) = nL 7919 from rfl, show (6151 : Int64) = nL 6151 from rfl, show (1 : Int64) = nL 1 from rfl, nL_mul, nL_mul, nL_add, nL_add]
  rfl
theorem dr_mod {z k : Nat} (hz : z < 10000) (hk : k < 30) : nL (dX z k) * nL (dX z k) - nL (dX z k) * nL (dX z k) / 65521 * 65521 = nL (dX z k * dX z k % 65521) := by
  rw [nL_mul, show (65521 : Int64) = nL 65521 from rfl, nL_mod (dX_lt hz hk) (by decide)]
theorem dr_m (z k : Nat) : (nL (dX z k * dX z k % 65521)).toInt32 / 4 = nI (dN z k) := by
  have : dX z k * dX z k % 65521 < 65521 := Nat.mod_lt _ (by decide)
  rw [nL_int32 (by omega), show (4 : Int32) = nI 4 from rfl, nI_div (by omega) (by decide)]
  rfl
theorem dr_c (z k : Nat) : (nL (dX z k * dX z k % 65521) / 4).toInt32 = nI (dN z k) := by
  have : dX z k * dX z k % 65521 < 65521 := Nat.mod_lt _ (by decide)
  rw [show (4 : Int64) = nL 4 from rfl, nL_div (by omega) (by decide), nL_int32 (by omega)]
  rfl
theorem dN_lt (z k : Nat) : dN z k < 16381 := by
  have : dX z k * dX z k % 65521 < 65521 := Nat.mod_lt _ (by decide)
  unfold dN
  omega
section
variable {h : aH} {Q : Option Value → aH → Prop}
theorem k_drawOf {z k : Nat} (hz : z < 10000) (hk : k < 30) : X 115 0 [.int (nI z), .int (nI k), .null, .null] [] h Q ↔ Q (some (.int (nI (dN z k)))) h := by
  simp only [x115_0, x115_3, x115_4, x115_5, x115_6, x115_9, x115_10, x115_11, x115_12, x115_13, x115_14, x115_15, x115_16, x115_17, x115_18, x115_19, x115_22, x115_23, x115_26, x115_27, x115_28, pv_some, pv_none, c1_int, c1_ref, c1_null, true_and, and_true, ne_eq, not_false_eq_true, not_true_eq_false, if_true, if_false, reduceCtorEq, Option.some.injEq, Value.int.injEq, absI_fold, minI_fold, maxI_fold, dX_long hz hk, dr_mod hz hk, dr_c, show ¬ ((65521 : Int64) = 0) by decide, show ¬ ((4 : Int64) = 0) by decide, if_true, if_false, true_or, or_true, false_or, or_false, true_and, and_true, false_and, and_false, not_true_eq_false, not_false_eq_true, iff_self, ite_self, ne_eq, true_implies, implies_true, Bool.false_eq_true, decide_true, decide_false, Bool.or_true, Bool.or_false, Bool.true_or, Bool.false_or]
end
