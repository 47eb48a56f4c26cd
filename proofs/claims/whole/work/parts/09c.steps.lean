section XS
variable {L st : List Value} {h : aH} {Q : Option Value → aH → Prop}
theorem mC_59 : mC 59 = cX4_init := rfl
theorem x59_0 {l1 : Value} {x : Nat} : X 59 0 [.ref x, l1] st h Q ↔ X 59 1 [.ref x, l1] (.ref x :: st) h Q := X_n mC_59 dX4_init_0 rfl
theorem x59_1 {a : Nat} : X 59 1 L [.ref a] h Q ↔ X 59 4 L [] h Q := X_obj (n := 0) mC_59 dX4_init_1 (by decide +kernel) (Nat.le_of_ble_eq_true rfl)
theorem x59_4 {l1 : Value} {x : Nat} : X 59 4 [.ref x, l1] st h Q ↔ X 59 5 [.ref x, l1] (.ref x :: st) h Q := X_n mC_59 dX4_init_4 rfl
theorem x59_5 : X 59 5 L st h Q ↔ X 59 6 L (.int 1 :: st) h Q := X_n mC_59 dX4_init_5 rfl
theorem x59_6 {l0 : Value} {x : Int32} : X 59 6 [l0, .int x] st h Q ↔ X 59 7 [l0, .int x] (.int x :: st) h Q := X_n mC_59 dX4_init_6 rfl
theorem x59_7 {x y : Int32} {w0 : Value} : X 59 7 L [.int y, .int x, w0] h Q ↔ X 59 10 L [.int (if x < y then y else x), w0] h Q := X_max (n := 2) mC_59 dX4_init_7 (by decide +kernel) (Nat.le_of_ble_eq_true rfl)
theorem x59_10 {a : Nat} {v : Int32} : X 59 10 L (.int v :: .ref a :: st) h Q ↔ hS h a = (1, 4) ∧ X 59 13 L st (sI h a 0 v) Q := X_putI mC_59 dX4_init_10 (by decide +kernel)
theorem x59_13 {l1 : Value} {x : Nat} : X 59 13 [.ref x, l1] st h Q ↔ X 59 14 [.ref x, l1] (.ref x :: st) h Q := X_n mC_59 dX4_init_13 rfl
theorem x59_14 {l1 : Value} {x : Nat} : X 59 14 [.ref x, l1] st h Q ↔ X 59 15 [.ref x, l1] (.ref x :: st) h Q := X_n mC_59 dX4_init_14 rfl
theorem x59_15 {a : Nat} : X 59 15 L (.ref a :: st) h Q ↔ hS h a = (1, 4) ∧ X 59 18 L (.int (hI h a 0) :: st) h Q := X_getI mC_59 dX4_init_15 (by decide +kernel)
theorem x59_18 : X 59 18 L st h Q ↔ X 59 20 L (.int 10 :: st) h Q := X_n mC_59 dX4_init_18 rfl
theorem x59_20 {x y : Int32} : X 59 20 L (.int y :: .int x :: st) h Q ↔ X 59 21 L (.int (x * y) :: st) h Q := X_n mC_59 dX4_init_20 rfl
theorem x59_21 {x : Int32} : X 59 21 L (.int x :: st) h Q ↔ (¬ x < 0 ∧ x < 100000) ∧ X 59 23 L (.ref (hN h) :: st) (nw h x.toNatClampNeg (2, x.toNatClampNeg)) Q := X_newI mC_59 dX4_init_21
theorem x59_23 {a v : Nat} : X 59 23 L (.ref v :: .ref a :: st) h Q ↔ (hS h a = (1, 4) ∧ v ≠ 0) ∧ X 59 26 L st (sR h a 1 v) Q := X_putR mC_59 dX4_init_23 (by decide +kernel)
theorem x59_26 : X 59 26 L [] h Q ↔ Q none h := X_retV mC_59 dX4_init_26 (by decide +kernel)
theorem mC_60 : mC 60 = cX4_size := rfl
theorem x60_0 {x : Nat} : X 60 0 [.ref x] st h Q ↔ X 60 1 [.ref x] (.ref x :: st) h Q := X_n mC_60 dX4_size_0 rfl
theorem x60_1 {a : Nat} : X 60 1 L (.ref a :: st) h Q ↔ hS h a = (1, 4) ∧ X 60 4 L (.int (hI h a 2) :: st) h Q := X_getI mC_60 dX4_size_1 (by decide +kernel)
theorem x60_4 {v : Int32} : X 60 4 L [.int v] h Q ↔ Q (some (.int v)) h := X_ret mC_60 dX4_size_4 (by decide +kernel)
theorem mC_61 : mC 61 = cX4_isFull := rfl
theorem x61_0 {x : Nat} : X 61 0 [.ref x] st h Q ↔ X 61 1 [.ref x] (.ref x :: st) h Q := X_n mC_61 dX4_isFull_0 rfl
theorem x61_1 {a : Nat} : X 61 1 L (.ref a :: st) h Q ↔ hS h a = (1, 4) ∧ X 61 4 L (.int (hI h a 2) :: st) h Q := X_getI mC_61 dX4_isFull_1 (by decide +kernel)
theorem x61_4 {x : Nat} : X 61 4 [.ref x] st h Q ↔ X 61 5 [.ref x] (.ref x :: st) h Q := X_n mC_61 dX4_isFull_4 rfl
theorem x61_5 {a : Nat} : X 61 5 L (.ref a :: st) h Q ↔ hS h a = (1, 4) ∧ X 61 8 L (.int (hI h a 0) :: st) h Q := X_getI mC_61 dX4_isFull_5 (by decide +kernel)
theorem x61_8 {x y : Int32} : X 61 8 L (.int y :: .int x :: st) h Q ↔ if x < y then X 61 15 L st h Q else X 61 11 L st h Q := X_ilt mC_61 dX4_isFull_8 (by decide)
theorem x61_11 : X 61 11 L st h Q ↔ X 61 12 L (.int 1 :: st) h Q := X_n mC_61 dX4_isFull_11 rfl
theorem x61_12 : X 61 12 L st h Q ↔ X 61 16 L st h Q := X_goto mC_61 dX4_isFull_12 (by decide)
theorem x61_15 : X 61 15 L st h Q ↔ X 61 16 L (.int 0 :: st) h Q := X_n mC_61 dX4_isFull_15 rfl
theorem x61_16 {v : Int32} : X 61 16 L [.int v] h Q ↔ (v = 0 ∨ v = 1) ∧ Q (some (.int v)) h := X_retZ mC_61 dX4_isFull_16 (by decide +kernel)
theorem mC_62 : mC 62 = cX4_clear := rfl
theorem x62_0 {x : Nat} : X 62 0 [.ref x] st h Q ↔ X 62 1 [.ref x] (.ref x :: st) h Q := X_n mC_62 dX4_clear_0 rfl
theorem x62_1 : X 62 1 L st h Q ↔ X 62 2 L (.int 0 :: st) h Q := X_n mC_62 dX4_clear_1 rfl
theorem x62_2 {a : Nat} {v : Int32} : X 62 2 L (.int v :: .ref a :: st) h Q ↔ hS h a = (1, 4) ∧ X 62 5 L st (sI h a 2 v) Q := X_putI mC_62 dX4_clear_2 (by decide +kernel)
theorem x62_5 : X 62 5 L [] h Q ↔ Q none h := X_retV mC_62 dX4_clear_5 (by decide +kernel)
theorem mC_63 : mC 63 = cX4_put := rfl
theorem x63_0 {l1 : Value} {x : Nat} : X 63 0 [.ref x, l1] st h Q ↔ X 63 1 [.ref x, l1] (.ref x :: st) h Q := X_n mC_63 dX4_put_0 rfl
theorem x63_1 {b : Nat} : X 63 1 L [.ref b] h Q ↔ hS h b = (1, 4) ∧ X 61 0 [.ref b] [] h (fun r h' => X 63 4 L (pv r []) h' Q) := X_virt (as := []) (n := 0) (ml := 1) (ck := 4) mC_63 dX4_put_1 (by unfold cOk; decide +kernel) ⟨rfl, rfl, by decide, Nat.le_of_ble_eq_true rfl⟩
theorem x63_4 {x : Int32} : X 63 4 L (.int x :: st) h Q ↔ if x = 0 then X 63 39 L st h Q else X 63 7 L st h Q := X_zeq mC_63 dX4_put_4 (by decide)
theorem x63_7 {l1 : Value} {x : Nat} : X 63 7 [.ref x, l1] st h Q ↔ X 63 8 [.ref x, l1] (.ref x :: st) h Q := X_n mC_63 dX4_put_7 rfl
theorem x63_8 {a : Nat} : X 63 8 L (.ref a :: st) h Q ↔ (hS h a = (1, 4) ∧ hR h a 1 ≠ 0) ∧ X 63 11 L (.ref (hR h a 1) :: st) h Q := X_getR mC_63 dX4_put_8 (by decide +kernel)
theorem x63_11 : X 63 11 L st h Q ↔ X 63 13 L (.int 10 :: st) h Q := X_n mC_63 dX4_put_11 rfl
theorem x63_13 {l1 : Value} {x : Nat} : X 63 13 [.ref x, l1] st h Q ↔ X 63 14 [.ref x, l1] (.ref x :: st) h Q := X_n mC_63 dX4_put_13 rfl
theorem x63_14 {a : Nat} : X 63 14 L (.ref a :: st) h Q ↔ (hS h a = (1, 4) ∧ hR h a 1 ≠ 0) ∧ X 63 17 L (.ref (hR h a 1) :: st) h Q := X_getR mC_63 dX4_put_14 (by decide +kernel)
theorem x63_17 : X 63 17 L st h Q ↔ X 63 18 L (.int 0 :: st) h Q := X_n mC_63 dX4_put_17 rfl
theorem x63_18 {l1 : Value} {x : Nat} : X 63 18 [.ref x, l1] st h Q ↔ X 63 19 [.ref x, l1] (.ref x :: st) h Q := X_n mC_63 dX4_put_18 rfl
theorem x63_19 {a : Nat} : X 63 19 L (.ref a :: st) h Q ↔ (hS h a = (1, 4) ∧ hR h a 1 ≠ 0) ∧ X 63 22 L (.ref (hR h a 1) :: st) h Q := X_getR mC_63 dX4_put_19 (by decide +kernel)
theorem x63_22 {a : Nat} : X 63 22 L (.ref a :: st) h Q ↔ ((hS h a).1 = 2 ∨ (hS h a).1 = 3 ∨ (hS h a).1 = 4) ∧ X 63 23 L (.int (Int32.ofNat (hS h a).2) :: st) h Q := X_alen mC_63 dX4_put_22
theorem x63_23 : X 63 23 L st h Q ↔ X 63 25 L (.int 10 :: st) h Q := X_n mC_63 dX4_put_23 rfl
theorem x63_25 {x y : Int32} : X 63 25 L (.int y :: .int x :: st) h Q ↔ X 63 26 L (.int (x - y) :: st) h Q := X_n mC_63 dX4_put_25 rfl
theorem x63_26 {x sp dp : Int32} {a b : Nat} : X 63 26 L [.int x, .int dp, .ref b, .int sp, .ref a] h Q ↔ cpOk (hS h a) (hS h b) sp dp x ∧ X 63 29 L [] (cpI h a sp.toNatClampNeg b dp.toNatClampNeg x.toNatClampNeg) Q := X_cpy (n := 5) mC_63 dX4_put_26 (by decide +kernel) (Nat.le_of_ble_eq_true rfl)
theorem x63_29 {l1 : Value} {x : Nat} : X 63 29 [.ref x, l1] st h Q ↔ X 63 30 [.ref x, l1] (.ref x :: st) h Q := X_n mC_63 dX4_put_29 rfl
theorem x63_30 {l1 : Value} {x : Nat} : X 63 30 [.ref x, l1] st h Q ↔ X 63 31 [.ref x, l1] (.ref x :: st) h Q := X_n mC_63 dX4_put_30 rfl
theorem x63_31 {a : Nat} : X 63 31 L (.ref a :: st) h Q ↔ hS h a = (1, 4) ∧ X 63 34 L (.int (hI h a 0) :: st) h Q := X_getI mC_63 dX4_put_31 (by decide +kernel)
theorem x63_34 : X 63 34 L st h Q ↔ X 63 35 L (.int 1 :: st) h Q := X_n mC_63 dX4_put_34 rfl
theorem x63_35 {x y : Int32} : X 63 35 L (.int y :: .int x :: st) h Q ↔ X 63 36 L (.int (x - y) :: st) h Q := X_n mC_63 dX4_put_35 rfl
theorem x63_36 {a : Nat} {v : Int32} : X 63 36 L (.int v :: .ref a :: st) h Q ↔ hS h a = (1, 4) ∧ X 63 39 L st (sI h a 2 v) Q := X_putI mC_63 dX4_put_36 (by decide +kernel)
theorem x63_39 {l0 : Value} {x : Nat} : X 63 39 [l0, .ref x] st h Q ↔ X 63 40 [l0, .ref x] (.ref x :: st) h Q := X_n mC_63 dX4_put_39 rfl
theorem x63_40 {l1 : Value} {x : Nat} : X 63 40 [.ref x, l1] st h Q ↔ X 63 41 [.ref x, l1] (.ref x :: st) h Q := X_n mC_63 dX4_put_40 rfl
theorem x63_41 {a : Nat} : X 63 41 L (.ref a :: st) h Q ↔ (hS h a = (1, 4) ∧ hR h a 1 ≠ 0) ∧ X 63 44 L (.ref (hR h a 1) :: st) h Q := X_getR mC_63 dX4_put_41 (by decide +kernel)
theorem x63_44 {l1 : Value} {x : Nat} : X 63 44 [.ref x, l1] st h Q ↔ X 63 45 [.ref x, l1] (.ref x :: st) h Q := X_n mC_63 dX4_put_44 rfl
theorem x63_45 {a : Nat} : X 63 45 L (.ref a :: st) h Q ↔ hS h a = (1, 4) ∧ X 63 48 L (.int (hI h a 2) :: st) h Q := X_getI mC_63 dX4_put_45 (by decide +kernel)
theorem x63_48 : X 63 48 L st h Q ↔ X 63 50 L (.int 10 :: st) h Q := X_n mC_63 dX4_put_48 rfl
theorem x63_50 {x y : Int32} : X 63 50 L (.int y :: .int x :: st) h Q ↔ X 63 51 L (.int (x * y) :: st) h Q := X_n mC_63 dX4_put_50 rfl
theorem x63_51 {b : Nat} {a0 : Nat} {a1 : Int32} : X 63 51 L [.int a1, .ref a0, .ref b] h Q ↔ hS h b = (1, 1) ∧ X 36 0 [.ref b, .ref a0, .int a1] [] h (fun r h' => X 63 54 L (pv r []) h' Q) := X_virt (as := [.ref a0, .int a1]) (n := 2) (ml := 3) (ck := 1) mC_63 dX4_put_51 (by unfold cOk; decide +kernel) ⟨rfl, rfl, by decide, Nat.le_of_ble_eq_true rfl⟩
theorem x63_54 {l1 : Value} {x : Nat} : X 63 54 [.ref x, l1] st h Q ↔ X 63 55 [.ref x, l1] (.ref x :: st) h Q := X_n mC_63 dX4_put_54 rfl
theorem x63_55 {x : Nat} : X 63 55 L (.ref x :: st) h Q ↔ X 63 56 L (.ref x :: .ref x :: st) h Q := X_n mC_63 dX4_put_55 rfl
theorem x63_56 {a : Nat} : X 63 56 L (.ref a :: st) h Q ↔ hS h a = (1, 4) ∧ X 63 59 L (.int (hI h a 2) :: st) h Q := X_getI mC_63 dX4_put_56 (by decide +kernel)
theorem x63_59 : X 63 59 L st h Q ↔ X 63 60 L (.int 1 :: st) h Q := X_n mC_63 dX4_put_59 rfl
theorem x63_60 {x y : Int32} : X 63 60 L (.int y :: .int x :: st) h Q ↔ X 63 61 L (.int (x + y) :: st) h Q := X_n mC_63 dX4_put_60 rfl
theorem x63_61 {a : Nat} {v : Int32} : X 63 61 L (.int v :: .ref a :: st) h Q ↔ hS h a = (1, 4) ∧ X 63 64 L st (sI h a 2 v) Q := X_putI mC_63 dX4_put_61 (by decide +kernel)
theorem x63_64 : X 63 64 L [] h Q ↔ Q none h := X_retV mC_63 dX4_put_64 (by decide +kernel)
theorem mC_64 : mC 64 = cX4_takeInto := rfl
theorem x64_0 {l1 : Value} {x : Nat} : X 64 0 [.ref x, l1] st h Q ↔ X 64 1 [.ref x, l1] (.ref x :: st) h Q := X_n mC_64 dX4_takeInto_0 rfl
theorem x64_1 {a : Nat} : X 64 1 L (.ref a :: st) h Q ↔ hS h a = (1, 4) ∧ X 64 4 L (.int (hI h a 2) :: st) h Q := X_getI mC_64 dX4_takeInto_1 (by decide +kernel)
theorem x64_4 : X 64 4 L st h Q ↔ X 64 5 L (.int 1 :: st) h Q := X_n mC_64 dX4_takeInto_4 rfl
theorem x64_5 {x y : Int32} : X 64 5 L (.int y :: .int x :: st) h Q ↔ if x < y then X 64 8 L st h Q else X 64 10 L st h Q := X_ige mC_64 dX4_takeInto_5 (by decide)
theorem x64_8 : X 64 8 L st h Q ↔ X 64 9 L (.int 0 :: st) h Q := X_n mC_64 dX4_takeInto_8 rfl
theorem x64_9 {v : Int32} : X 64 9 L [.int v] h Q ↔ (v = 0 ∨ v = 1) ∧ Q (some (.int v)) h := X_retZ mC_64 dX4_takeInto_9 (by decide +kernel)
theorem x64_10 {l1 : Value} {x : Nat} : X 64 10 [.ref x, l1] st h Q ↔ X 64 11 [.ref x, l1] (.ref x :: st) h Q := X_n mC_64 dX4_takeInto_10 rfl
theorem x64_11 {x : Nat} : X 64 11 L (.ref x :: st) h Q ↔ X 64 12 L (.ref x :: .ref x :: st) h Q := X_n mC_64 dX4_takeInto_11 rfl
theorem x64_12 {a : Nat} : X 64 12 L (.ref a :: st) h Q ↔ hS h a = (1, 4) ∧ X 64 15 L (.int (hI h a 2) :: st) h Q := X_getI mC_64 dX4_takeInto_12 (by decide +kernel)
theorem x64_15 : X 64 15 L st h Q ↔ X 64 16 L (.int 1 :: st) h Q := X_n mC_64 dX4_takeInto_15 rfl
theorem x64_16 {x y : Int32} : X 64 16 L (.int y :: .int x :: st) h Q ↔ X 64 17 L (.int (x - y) :: st) h Q := X_n mC_64 dX4_takeInto_16 rfl
theorem x64_17 {a : Nat} {v : Int32} : X 64 17 L (.int v :: .ref a :: st) h Q ↔ hS h a = (1, 4) ∧ X 64 20 L st (sI h a 2 v) Q := X_putI mC_64 dX4_takeInto_17 (by decide +kernel)
theorem x64_20 {l0 : Value} {x : Nat} : X 64 20 [l0, .ref x] st h Q ↔ X 64 21 [l0, .ref x] (.ref x :: st) h Q := X_n mC_64 dX4_takeInto_20 rfl
theorem x64_21 {l1 : Value} {x : Nat} : X 64 21 [.ref x, l1] st h Q ↔ X 64 22 [.ref x, l1] (.ref x :: st) h Q := X_n mC_64 dX4_takeInto_21 rfl
theorem x64_22 {a : Nat} : X 64 22 L (.ref a :: st) h Q ↔ (hS h a = (1, 4) ∧ hR h a 1 ≠ 0) ∧ X 64 25 L (.ref (hR h a 1) :: st) h Q := X_getR mC_64 dX4_takeInto_22 (by decide +kernel)
theorem x64_25 {l1 : Value} {x : Nat} : X 64 25 [.ref x, l1] st h Q ↔ X 64 26 [.ref x, l1] (.ref x :: st) h Q := X_n mC_64 dX4_takeInto_25 rfl
theorem x64_26 {a : Nat} : X 64 26 L (.ref a :: st) h Q ↔ hS h a = (1, 4) ∧ X 64 29 L (.int (hI h a 2) :: st) h Q := X_getI mC_64 dX4_takeInto_26 (by decide +kernel)
theorem x64_29 : X 64 29 L st h Q ↔ X 64 31 L (.int 10 :: st) h Q := X_n mC_64 dX4_takeInto_29 rfl
theorem x64_31 {x y : Int32} : X 64 31 L (.int y :: .int x :: st) h Q ↔ X 64 32 L (.int (x * y) :: st) h Q := X_n mC_64 dX4_takeInto_31 rfl
theorem x64_32 {b : Nat} {a0 : Nat} {a1 : Int32} : X 64 32 L [.int a1, .ref a0, .ref b] h Q ↔ hS h b = (1, 1) ∧ X 37 0 [.ref b, .ref a0, .int a1] [] h (fun r h' => X 64 35 L (pv r []) h' Q) := X_virt (as := [.ref a0, .int a1]) (n := 2) (ml := 3) (ck := 1) mC_64 dX4_takeInto_32 (by unfold cOk; decide +kernel) ⟨rfl, rfl, by decide, Nat.le_of_ble_eq_true rfl⟩
theorem x64_35 : X 64 35 L st h Q ↔ X 64 36 L (.int 1 :: st) h Q := X_n mC_64 dX4_takeInto_35 rfl
theorem x64_36 {v : Int32} : X 64 36 L [.int v] h Q ↔ (v = 0 ∨ v = 1) ∧ Q (some (.int v)) h := X_retZ mC_64 dX4_takeInto_36 (by decide +kernel)
theorem mC_65 : mC 65 = cX5_init := rfl
theorem x65_0 {x : Nat} : X 65 0 [.ref x] st h Q ↔ X 65 1 [.ref x] (.ref x :: st) h Q := X_n mC_65 dX5_init_0 rfl
theorem x65_1 {a : Nat} : X 65 1 L [.ref a] h Q ↔ X 65 4 L [] h Q := X_obj (n := 0) mC_65 dX5_init_1 (by decide +kernel) (Nat.le_of_ble_eq_true rfl)
theorem x65_4 {x : Nat} : X 65 4 [.ref x] st h Q ↔ X 65 5 [.ref x] (.ref x :: st) h Q := X_n mC_65 dX5_init_4 rfl
theorem x65_5 : X 65 5 L st h Q ↔ X 65 8 L (.int 200 :: st) h Q := X_n mC_65 dX5_init_5 rfl
theorem x65_8 {x : Int32} : X 65 8 L (.int x :: st) h Q ↔ (¬ x < 0 ∧ x < 100000) ∧ X 65 10 L (.ref (hN h) :: st) (nw h x.toNatClampNeg (2, x.toNatClampNeg)) Q := X_newI mC_65 dX5_init_8
theorem x65_10 {a v : Nat} : X 65 10 L (.ref v :: .ref a :: st) h Q ↔ (hS h a = (1, 5) ∧ v ≠ 0) ∧ X 65 13 L st (sR h a 0 v) Q := X_putR mC_65 dX5_init_10 (by decide +kernel)
theorem x65_13 {x : Nat} : X 65 13 [.ref x] st h Q ↔ X 65 14 [.ref x] (.ref x :: st) h Q := X_n mC_65 dX5_init_13 rfl
theorem x65_14 : X 65 14 L st h Q ↔ X 65 15 L (.int 5 :: st) h Q := X_n mC_65 dX5_init_14 rfl
theorem x65_15 {x : Int32} : X 65 15 L (.int x :: st) h Q ↔ (¬ x < 0 ∧ x < 100000) ∧ X 65 17 L (.ref (hN h) :: st) (nw h x.toNatClampNeg (2, x.toNatClampNeg)) Q := X_newI mC_65 dX5_init_15
theorem x65_17 {a v : Nat} : X 65 17 L (.ref v :: .ref a :: st) h Q ↔ (hS h a = (1, 5) ∧ v ≠ 0) ∧ X 65 20 L st (sR h a 2 v) Q := X_putR mC_65 dX5_init_17 (by decide +kernel)
theorem x65_20 : X 65 20 L [] h Q ↔ Q none h := X_retV mC_65 dX5_init_20 (by decide +kernel)
theorem mC_66 : mC 66 = cX5_length := rfl
theorem x66_0 {x : Nat} : X 66 0 [.ref x] st h Q ↔ X 66 1 [.ref x] (.ref x :: st) h Q := X_n mC_66 dX5_length_0 rfl
theorem x66_1 {a : Nat} : X 66 1 L (.ref a :: st) h Q ↔ hS h a = (1, 5) ∧ X 66 4 L (.int (hI h a 1) :: st) h Q := X_getI mC_66 dX5_length_1 (by decide +kernel)
theorem x66_4 {v : Int32} : X 66 4 L [.int v] h Q ↔ Q (some (.int v)) h := X_ret mC_66 dX5_length_4 (by decide +kernel)
theorem mC_67 : mC 67 = cX5_clear := rfl
theorem x67_0 {x : Nat} : X 67 0 [.ref x] st h Q ↔ X 67 1 [.ref x] (.ref x :: st) h Q := X_n mC_67 dX5_clear_0 rfl
theorem x67_1 : X 67 1 L st h Q ↔ X 67 2 L (.int 0 :: st) h Q := X_n mC_67 dX5_clear_1 rfl
theorem x67_2 {a : Nat} {v : Int32} : X 67 2 L (.int v :: .ref a :: st) h Q ↔ hS h a = (1, 5) ∧ X 67 5 L st (sI h a 1 v) Q := X_putI mC_67 dX5_clear_2 (by decide +kernel)
theorem x67_5 : X 67 5 L [] h Q ↔ Q none h := X_retV mC_67 dX5_clear_5 (by decide +kernel)
theorem mC_68 : mC 68 = cX5_add := rfl
theorem x68_0 {l1 : Value} {x : Nat} : X 68 0 [.ref x, l1] st h Q ↔ X 68 1 [.ref x, l1] (.ref x :: st) h Q := X_n mC_68 dX5_add_0 rfl
theorem x68_1 {a : Nat} : X 68 1 L (.ref a :: st) h Q ↔ hS h a = (1, 5) ∧ X 68 4 L (.int (hI h a 1) :: st) h Q := X_getI mC_68 dX5_add_1 (by decide +kernel)
theorem x68_4 {l1 : Value} {x : Nat} : X 68 4 [.ref x, l1] st h Q ↔ X 68 5 [.ref x, l1] (.ref x :: st) h Q := X_n mC_68 dX5_add_4 rfl
theorem x68_5 {a : Nat} : X 68 5 L (.ref a :: st) h Q ↔ (hS h a = (1, 5) ∧ hR h a 0 ≠ 0) ∧ X 68 8 L (.ref (hR h a 0) :: st) h Q := X_getR mC_68 dX5_add_5 (by decide +kernel)
theorem x68_8 {a : Nat} : X 68 8 L (.ref a :: st) h Q ↔ ((hS h a).1 = 2 ∨ (hS h a).1 = 3 ∨ (hS h a).1 = 4) ∧ X 68 9 L (.int (Int32.ofNat (hS h a).2) :: st) h Q := X_alen mC_68 dX5_add_8
theorem x68_9 {x y : Int32} : X 68 9 L (.int y :: .int x :: st) h Q ↔ if x < y then X 68 14 L st h Q else X 68 12 L st h Q := X_ilt mC_68 dX5_add_9 (by decide)
theorem x68_12 : X 68 12 L st h Q ↔ X 68 13 L (.int 0 :: st) h Q := X_n mC_68 dX5_add_12 rfl
theorem x68_13 {v : Int32} : X 68 13 L [.int v] h Q ↔ (v = 0 ∨ v = 1) ∧ Q (some (.int v)) h := X_retZ mC_68 dX5_add_13 (by decide +kernel)
theorem x68_14 {l1 : Value} {x : Nat} : X 68 14 [.ref x, l1] st h Q ↔ X 68 15 [.ref x, l1] (.ref x :: st) h Q := X_n mC_68 dX5_add_14 rfl
theorem x68_15 {a : Nat} : X 68 15 L (.ref a :: st) h Q ↔ (hS h a = (1, 5) ∧ hR h a 0 ≠ 0) ∧ X 68 18 L (.ref (hR h a 0) :: st) h Q := X_getR mC_68 dX5_add_15 (by decide +kernel)
theorem x68_18 {l1 : Value} {x : Nat} : X 68 18 [.ref x, l1] st h Q ↔ X 68 19 [.ref x, l1] (.ref x :: st) h Q := X_n mC_68 dX5_add_18 rfl
theorem x68_19 {a : Nat} : X 68 19 L (.ref a :: st) h Q ↔ hS h a = (1, 5) ∧ X 68 22 L (.int (hI h a 1) :: st) h Q := X_getI mC_68 dX5_add_19 (by decide +kernel)
theorem x68_22 {l0 : Value} {x : Int32} : X 68 22 [l0, .int x] st h Q ↔ X 68 23 [l0, .int x] (.int x :: st) h Q := X_n mC_68 dX5_add_22 rfl
theorem x68_23 {j x : Int32} {a : Nat} : X 68 23 L (.int x :: .int j :: .ref a :: st) h Q ↔ ibw j (hS h a) ∧ X 68 24 L st (sI h a j.toNatClampNeg x) Q := X_iast mC_68 dX5_add_23
theorem x68_24 {l1 : Value} {x : Nat} : X 68 24 [.ref x, l1] st h Q ↔ X 68 25 [.ref x, l1] (.ref x :: st) h Q := X_n mC_68 dX5_add_24 rfl
theorem x68_25 {x : Nat} : X 68 25 L (.ref x :: st) h Q ↔ X 68 26 L (.ref x :: .ref x :: st) h Q := X_n mC_68 dX5_add_25 rfl
theorem x68_26 {a : Nat} : X 68 26 L (.ref a :: st) h Q ↔ hS h a = (1, 5) ∧ X 68 29 L (.int (hI h a 1) :: st) h Q := X_getI mC_68 dX5_add_26 (by decide +kernel)
theorem x68_29 : X 68 29 L st h Q ↔ X 68 30 L (.int 1 :: st) h Q := X_n mC_68 dX5_add_29 rfl
theorem x68_30 {x y : Int32} : X 68 30 L (.int y :: .int x :: st) h Q ↔ X 68 31 L (.int (x + y) :: st) h Q := X_n mC_68 dX5_add_30 rfl
theorem x68_31 {a : Nat} {v : Int32} : X 68 31 L (.int v :: .ref a :: st) h Q ↔ hS h a = (1, 5) ∧ X 68 34 L st (sI h a 1 v) Q := X_putI mC_68 dX5_add_31 (by decide +kernel)
theorem x68_34 : X 68 34 L st h Q ↔ X 68 35 L (.int 1 :: st) h Q := X_n mC_68 dX5_add_34 rfl
theorem x68_35 {v : Int32} : X 68 35 L [.int v] h Q ↔ (v = 0 ∨ v = 1) ∧ Q (some (.int v)) h := X_retZ mC_68 dX5_add_35 (by decide +kernel)
theorem mC_69 : mC 69 = cX5_readInto := rfl
theorem x69_0 {l0 l2 l3 : Value} {x : Nat} : X 69 0 [l0, .ref x, l2, l3] st h Q ↔ X 69 1 [l0, .ref x, l2, l3] (.ref x :: st) h Q := X_n mC_69 dX5_readInto_0 rfl
theorem x69_1 {b : Nat} : X 69 1 L [.ref b] h Q ↔ hS h b = (1, 0) ∧ X 1 0 [.ref b] [] h (fun r h' => X 69 4 L (pv r []) h' Q) := X_virt (as := []) (n := 0) (ml := 1) (ck := 0) mC_69 dX5_readInto_1 (by unfold cOk; decide +kernel) ⟨rfl, rfl, by decide, Nat.le_of_ble_eq_true rfl⟩
theorem x69_4 : X 69 4 L st h Q ↔ X 69 5 L (.int 0 :: st) h Q := X_n mC_69 dX5_readInto_4 rfl
theorem x69_5 {l0 l1 l2 l3 : Value} {x : Int32} : X 69 5 [l0, l1, l2, l3] (.int x :: st) h Q ↔ c1 l1 = true ∧ X 69 6 [l0, l1, .int x, l3] st h Q := X_sto (kk := 2) (pc' := 6) (w := .int x) mC_69 dX5_readInto_5 rfl (Nat.le_of_ble_eq_true rfl) rfl
theorem x69_6 : X 69 6 L st h Q ↔ X 69 7 L (.int 0 :: st) h Q := X_n mC_69 dX5_readInto_6 rfl
theorem x69_7 {l0 l1 l2 l3 : Value} {x : Int32} : X 69 7 [l0, l1, l2, l3] (.int x :: st) h Q ↔ c1 l2 = true ∧ X 69 8 [l0, l1, l2, .int x] st h Q := X_sto (kk := 3) (pc' := 8) (w := .int x) mC_69 dX5_readInto_7 rfl (Nat.le_of_ble_eq_true rfl) rfl
theorem x69_8 {l0 l1 l2 : Value} {x : Int32} : X 69 8 [l0, l1, l2, .int x] st h Q ↔ X 69 9 [l0, l1, l2, .int x] (.int x :: st) h Q := X_n mC_69 dX5_readInto_8 rfl
theorem x69_9 {l1 l2 l3 : Value} {x : Nat} : X 69 9 [.ref x, l1, l2, l3] st h Q ↔ X 69 10 [.ref x, l1, l2, l3] (.ref x :: st) h Q := X_n mC_69 dX5_readInto_9 rfl
theorem x69_10 {a : Nat} : X 69 10 L (.ref a :: st) h Q ↔ hS h a = (1, 5) ∧ X 69 13 L (.int (hI h a 1) :: st) h Q := X_getI mC_69 dX5_readInto_10 (by decide +kernel)
theorem x69_13 {x y : Int32} : X 69 13 L (.int y :: .int x :: st) h Q ↔ if x < y then X 69 16 L st h Q else X 69 49 L st h Q := X_ige mC_69 dX5_readInto_13 (by decide)
theorem x69_16 {l1 l2 l3 : Value} {x : Nat} : X 69 16 [.ref x, l1, l2, l3] st h Q ↔ X 69 17 [.ref x, l1, l2, l3] (.ref x :: st) h Q := X_n mC_69 dX5_readInto_16 rfl
theorem x69_17 {l0 l1 l2 : Value} {x : Int32} : X 69 17 [l0, l1, l2, .int x] st h Q ↔ X 69 18 [l0, l1, l2, .int x] (.int x :: st) h Q := X_n mC_69 dX5_readInto_17 rfl
theorem x69_18 : X 69 18 L st h Q ↔ X 69 19 L (.int 1 :: st) h Q := X_n mC_69 dX5_readInto_18 rfl
theorem x69_19 {x y : Int32} : X 69 19 L (.int y :: .int x :: st) h Q ↔ X 69 20 L (.int (x + y) :: st) h Q := X_n mC_69 dX5_readInto_19 rfl
theorem x69_20 {b : Nat} {a0 : Int32} : X 69 20 L [.int a0, .ref b] h Q ↔ hS h b = (1, 5) ∧ X 72 0 [.ref b, .int a0, .null, .null] [] h (fun r h' => X 69 23 L (pv r []) h' Q) := X_virt (as := [.int a0]) (n := 1) (ml := 4) (ck := 5) mC_69 dX5_readInto_20 (by unfold cOk; decide +kernel) ⟨rfl, rfl, by decide, Nat.le_of_ble_eq_true rfl⟩
theorem x69_23 {l0 l1 l2 l3 : Value} {x : Int32} : X 69 23 [l0, l1, l2, l3] (.int x :: st) h Q ↔ c1 l1 = true ∧ X 69 24 [l0, l1, .int x, l3] st h Q := X_sto (kk := 2) (pc' := 24) (w := .int x) mC_69 dX5_readInto_23 rfl (Nat.le_of_ble_eq_true rfl) rfl
theorem x69_24 {l0 l1 l3 : Value} {x : Int32} : X 69 24 [l0, l1, .int x, l3] st h Q ↔ X 69 25 [l0, l1, .int x, l3] (.int x :: st) h Q := X_n mC_69 dX5_readInto_24 rfl
theorem x69_25 {l0 l1 l2 : Value} {x : Int32} : X 69 25 [l0, l1, l2, .int x] st h Q ↔ X 69 26 [l0, l1, l2, .int x] (.int x :: st) h Q := X_n mC_69 dX5_readInto_25 rfl
theorem x69_26 {x y : Int32} : X 69 26 L (.int y :: .int x :: st) h Q ↔ if y < x then X 69 29 L st h Q else X 69 42 L st h Q := X_ile mC_69 dX5_readInto_26 (by decide)
theorem x69_29 {l1 l2 l3 : Value} {x : Nat} : X 69 29 [.ref x, l1, l2, l3] st h Q ↔ X 69 30 [.ref x, l1, l2, l3] (.ref x :: st) h Q := X_n mC_69 dX5_readInto_29 rfl
theorem x69_30 {l1 l2 l3 : Value} {x : Nat} : X 69 30 [.ref x, l1, l2, l3] st h Q ↔ X 69 31 [.ref x, l1, l2, l3] (.ref x :: st) h Q := X_n mC_69 dX5_readInto_30 rfl
theorem x69_31 {l0 l1 l2 : Value} {x : Int32} : X 69 31 [l0, l1, l2, .int x] st h Q ↔ X 69 32 [l0, l1, l2, .int x] (.int x :: st) h Q := X_n mC_69 dX5_readInto_31 rfl
theorem x69_32 {b : Nat} {a0 : Int32} {w0 : Value} : X 69 32 L [.int a0, .ref b, w0] h Q ↔ hS h b = (1, 5) ∧ X 70 0 [.ref b, .int a0] [] h (fun r h' => X 69 35 L (pv r [w0]) h' Q) := X_virt (as := [.int a0]) (n := 1) (ml := 2) (ck := 5) mC_69 dX5_readInto_32 (by unfold cOk; decide +kernel) ⟨rfl, rfl, by decide, Nat.le_of_ble_eq_true rfl⟩
theorem x69_35 {l0 l2 l3 : Value} {x : Nat} : X 69 35 [l0, .ref x, l2, l3] st h Q ↔ X 69 36 [l0, .ref x, l2, l3] (.ref x :: st) h Q := X_n mC_69 dX5_readInto_35 rfl
theorem x69_36 {b : Nat} {a0 : Int32} {a1 : Nat} : X 69 36 L [.ref a1, .int a0, .ref b] h Q ↔ hS h b = (1, 5) ∧ X 73 0 [.ref b, .int a0, .ref a1] [] h (fun r h' => X 69 39 L (pv r []) h' Q) := X_virt (as := [.int a0, .ref a1]) (n := 2) (ml := 3) (ck := 5) mC_69 dX5_readInto_36 (by unfold cOk; decide +kernel) ⟨rfl, rfl, by decide, Nat.le_of_ble_eq_true rfl⟩
theorem x69_39 {x : Int32} : X 69 39 L (.int x :: st) h Q ↔ if x = 0 then X 69 42 L st h Q else X 69 44 L st h Q := X_zne mC_69 dX5_readInto_39 (by decide)
theorem x69_42 {l0 l1 l2 : Value} {x : Int32} : X 69 42 [l0, l1, l2, .int x] st h Q ↔ X 69 43 [l0, l1, l2, .int x] (.int x :: st) h Q := X_n mC_69 dX5_readInto_42 rfl
theorem x69_43 {v : Int32} : X 69 43 L [.int v] h Q ↔ Q (some (.int v)) h := X_ret mC_69 dX5_readInto_43 (by decide +kernel)
theorem x69_44 {l0 l1 l3 : Value} {x : Int32} : X 69 44 [l0, l1, .int x, l3] st h Q ↔ X 69 45 [l0, l1, .int x, l3] (.int x :: st) h Q := X_n mC_69 dX5_readInto_44 rfl
theorem x69_45 {l0 l1 l2 l3 : Value} {x : Int32} : X 69 45 [l0, l1, l2, l3] (.int x :: st) h Q ↔ c1 l2 = true ∧ X 69 46 [l0, l1, l2, .int x] st h Q := X_sto (kk := 3) (pc' := 46) (w := .int x) mC_69 dX5_readInto_45 rfl (Nat.le_of_ble_eq_true rfl) rfl
theorem x69_46 : X 69 46 L st h Q ↔ X 69 8 L st h Q := X_goto mC_69 dX5_readInto_46 (by decide)
theorem x69_49 : X 69 49 L st h Q ↔ X 69 51 L (.int (-4) :: st) h Q := X_n mC_69 dX5_readInto_49 rfl
theorem x69_51 {v : Int32} : X 69 51 L [.int v] h Q ↔ Q (some (.int v)) h := X_ret mC_69 dX5_readInto_51 (by decide +kernel)
theorem mC_70 : mC 70 = cX5_letterAt := rfl
theorem x70_0 {l0 : Value} {x : Int32} : X 70 0 [l0, .int x] st h Q ↔ X 70 1 [l0, .int x] (.int x :: st) h Q := X_n mC_70 dX5_letterAt_0 rfl
theorem x70_1 {x : Int32} : X 70 1 L (.int x :: st) h Q ↔ if x < 0 then X 70 30 L st h Q else X 70 4 L st h Q := X_zlt mC_70 dX5_letterAt_1 (by decide)
theorem x70_4 {l0 : Value} {x : Int32} : X 70 4 [l0, .int x] st h Q ↔ X 70 5 [l0, .int x] (.int x :: st) h Q := X_n mC_70 dX5_letterAt_4 rfl
theorem x70_5 {l1 : Value} {x : Nat} : X 70 5 [.ref x, l1] st h Q ↔ X 70 6 [.ref x, l1] (.ref x :: st) h Q := X_n mC_70 dX5_letterAt_5 rfl
theorem x70_6 {a : Nat} : X 70 6 L (.ref a :: st) h Q ↔ hS h a = (1, 5) ∧ X 70 9 L (.int (hI h a 1) :: st) h Q := X_getI mC_70 dX5_letterAt_6 (by decide +kernel)
theorem x70_9 {x y : Int32} : X 70 9 L (.int y :: .int x :: st) h Q ↔ if x < y then X 70 12 L st h Q else X 70 30 L st h Q := X_ige mC_70 dX5_letterAt_9 (by decide)
theorem x70_12 {l0 : Value} {x : Int32} : X 70 12 [l0, .int x] st h Q ↔ X 70 13 [l0, .int x] (.int x :: st) h Q := X_n mC_70 dX5_letterAt_12 rfl
theorem x70_13 {l1 : Value} {x : Nat} : X 70 13 [.ref x, l1] st h Q ↔ X 70 14 [.ref x, l1] (.ref x :: st) h Q := X_n mC_70 dX5_letterAt_13 rfl
theorem x70_14 {a : Nat} : X 70 14 L (.ref a :: st) h Q ↔ (hS h a = (1, 5) ∧ hR h a 0 ≠ 0) ∧ X 70 17 L (.ref (hR h a 0) :: st) h Q := X_getR mC_70 dX5_letterAt_14 (by decide +kernel)
theorem x70_17 {a : Nat} : X 70 17 L (.ref a :: st) h Q ↔ ((hS h a).1 = 2 ∨ (hS h a).1 = 3 ∨ (hS h a).1 = 4) ∧ X 70 18 L (.int (Int32.ofNat (hS h a).2) :: st) h Q := X_alen mC_70 dX5_letterAt_17
theorem x70_18 {x y : Int32} : X 70 18 L (.int y :: .int x :: st) h Q ↔ if x < y then X 70 21 L st h Q else X 70 30 L st h Q := X_ige mC_70 dX5_letterAt_18 (by decide)
theorem x70_21 {l1 : Value} {x : Nat} : X 70 21 [.ref x, l1] st h Q ↔ X 70 22 [.ref x, l1] (.ref x :: st) h Q := X_n mC_70 dX5_letterAt_21 rfl
theorem x70_22 {a : Nat} : X 70 22 L (.ref a :: st) h Q ↔ (hS h a = (1, 5) ∧ hR h a 0 ≠ 0) ∧ X 70 25 L (.ref (hR h a 0) :: st) h Q := X_getR mC_70 dX5_letterAt_22 (by decide +kernel)
theorem x70_25 {l0 : Value} {x : Int32} : X 70 25 [l0, .int x] st h Q ↔ X 70 26 [l0, .int x] (.int x :: st) h Q := X_n mC_70 dX5_letterAt_25 rfl
theorem x70_26 {j : Int32} {a : Nat} : X 70 26 L (.int j :: .ref a :: st) h Q ↔ ib j (hS h a) ∧ X 70 27 L (.int (hI h a j.toNatClampNeg) :: st) h Q := X_iald mC_70 dX5_letterAt_26
theorem x70_27 : X 70 27 L st h Q ↔ X 70 31 L st h Q := X_goto mC_70 dX5_letterAt_27 (by decide)
theorem x70_30 : X 70 30 L st h Q ↔ X 70 31 L (.int 0 :: st) h Q := X_n mC_70 dX5_letterAt_30 rfl
theorem x70_31 {v : Int32} : X 70 31 L [.int v] h Q ↔ Q (some (.int v)) h := X_ret mC_70 dX5_letterAt_31 (by decide +kernel)
theorem mC_71 : mC 71 = cX5_isFigure := rfl
theorem x71_0 {l1 : Value} {x : Nat} : X 71 0 [.ref x, l1] st h Q ↔ X 71 1 [.ref x, l1] (.ref x :: st) h Q := X_n mC_71 dX5_isFigure_0 rfl
theorem x71_1 {l0 : Value} {x : Int32} : X 71 1 [l0, .int x] st h Q ↔ X 71 2 [l0, .int x] (.int x :: st) h Q := X_n mC_71 dX5_isFigure_1 rfl
theorem x71_2 {b : Nat} {a0 : Int32} : X 71 2 L [.int a0, .ref b] h Q ↔ hS h b = (1, 5) ∧ X 70 0 [.ref b, .int a0] [] h (fun r h' => X 71 5 L (pv r []) h' Q) := X_virt (as := [.int a0]) (n := 1) (ml := 2) (ck := 5) mC_71 dX5_isFigure_2 (by unfold cOk; decide +kernel) ⟨rfl, rfl, by decide, Nat.le_of_ble_eq_true rfl⟩
theorem x71_5 : X 71 5 L st h Q ↔ X 71 7 L (.int 48 :: st) h Q := X_n mC_71 dX5_isFigure_5 rfl
theorem x71_7 {x y : Int32} : X 71 7 L (.int y :: .int x :: st) h Q ↔ if x < y then X 71 24 L st h Q else X 71 10 L st h Q := X_ilt mC_71 dX5_isFigure_7 (by decide)
theorem x71_10 {l1 : Value} {x : Nat} : X 71 10 [.ref x, l1] st h Q ↔ X 71 11 [.ref x, l1] (.ref x :: st) h Q := X_n mC_71 dX5_isFigure_10 rfl
theorem x71_11 {l0 : Value} {x : Int32} : X 71 11 [l0, .int x] st h Q ↔ X 71 12 [l0, .int x] (.int x :: st) h Q := X_n mC_71 dX5_isFigure_11 rfl
theorem x71_12 {b : Nat} {a0 : Int32} : X 71 12 L [.int a0, .ref b] h Q ↔ hS h b = (1, 5) ∧ X 70 0 [.ref b, .int a0] [] h (fun r h' => X 71 15 L (pv r []) h' Q) := X_virt (as := [.int a0]) (n := 1) (ml := 2) (ck := 5) mC_71 dX5_isFigure_12 (by unfold cOk; decide +kernel) ⟨rfl, rfl, by decide, Nat.le_of_ble_eq_true rfl⟩
theorem x71_15 : X 71 15 L st h Q ↔ X 71 17 L (.int 57 :: st) h Q := X_n mC_71 dX5_isFigure_15 rfl
theorem x71_17 {x y : Int32} : X 71 17 L (.int y :: .int x :: st) h Q ↔ if y < x then X 71 24 L st h Q else X 71 20 L st h Q := X_igt mC_71 dX5_isFigure_17 (by decide)
theorem x71_20 : X 71 20 L st h Q ↔ X 71 21 L (.int 1 :: st) h Q := X_n mC_71 dX5_isFigure_20 rfl
theorem x71_21 : X 71 21 L st h Q ↔ X 71 25 L st h Q := X_goto mC_71 dX5_isFigure_21 (by decide)
theorem x71_24 : X 71 24 L st h Q ↔ X 71 25 L (.int 0 :: st) h Q := X_n mC_71 dX5_isFigure_24 rfl
theorem x71_25 {v : Int32} : X 71 25 L [.int v] h Q ↔ (v = 0 ∨ v = 1) ∧ Q (some (.int v)) h := X_retZ mC_71 dX5_isFigure_25 (by decide +kernel)
theorem mC_72 : mC 72 = cX5_readNumbers := rfl
theorem x72_0 {l0 l2 l3 : Value} {x : Int32} : X 72 0 [l0, .int x, l2, l3] st h Q ↔ X 72 1 [l0, .int x, l2, l3] (.int x :: st) h Q := X_n mC_72 dX5_readNumbers_0 rfl
theorem x72_1 {l0 l1 l2 l3 : Value} {x : Int32} : X 72 1 [l0, l1, l2, l3] (.int x :: st) h Q ↔ c1 l1 = true ∧ X 72 2 [l0, l1, .int x, l3] st h Q := X_sto (kk := 2) (pc' := 2) (w := .int x) mC_72 dX5_readNumbers_1 rfl (Nat.le_of_ble_eq_true rfl) rfl
theorem x72_2 : X 72 2 L st h Q ↔ X 72 3 L (.int 0 :: st) h Q := X_n mC_72 dX5_readNumbers_2 rfl
theorem x72_3 {l0 l1 l2 l3 : Value} {x : Int32} : X 72 3 [l0, l1, l2, l3] (.int x :: st) h Q ↔ c1 l2 = true ∧ X 72 4 [l0, l1, l2, .int x] st h Q := X_sto (kk := 3) (pc' := 4) (w := .int x) mC_72 dX5_readNumbers_3 rfl (Nat.le_of_ble_eq_true rfl) rfl
theorem x72_4 {l0 l1 l2 : Value} {x : Int32} : X 72 4 [l0, l1, l2, .int x] st h Q ↔ X 72 5 [l0, l1, l2, .int x] (.int x :: st) h Q := X_n mC_72 dX5_readNumbers_4 rfl
theorem x72_5 {l1 l2 l3 : Value} {x : Nat} : X 72 5 [.ref x, l1, l2, l3] st h Q ↔ X 72 6 [.ref x, l1, l2, l3] (.ref x :: st) h Q := X_n mC_72 dX5_readNumbers_5 rfl
theorem x72_6 {a : Nat} : X 72 6 L (.ref a :: st) h Q ↔ (hS h a = (1, 5) ∧ hR h a 2 ≠ 0) ∧ X 72 9 L (.ref (hR h a 2) :: st) h Q := X_getR mC_72 dX5_readNumbers_6 (by decide +kernel)
theorem x72_9 {a : Nat} : X 72 9 L (.ref a :: st) h Q ↔ ((hS h a).1 = 2 ∨ (hS h a).1 = 3 ∨ (hS h a).1 = 4) ∧ X 72 10 L (.int (Int32.ofNat (hS h a).2) :: st) h Q := X_alen mC_72 dX5_readNumbers_9
theorem x72_10 {x y : Int32} : X 72 10 L (.int y :: .int x :: st) h Q ↔ if x < y then X 72 13 L st h Q else X 72 119 L st h Q := X_ige mC_72 dX5_readNumbers_10 (by decide)
theorem x72_13 {l1 l2 l3 : Value} {x : Nat} : X 72 13 [.ref x, l1, l2, l3] st h Q ↔ X 72 14 [.ref x, l1, l2, l3] (.ref x :: st) h Q := X_n mC_72 dX5_readNumbers_13 rfl
theorem x72_14 {l0 l1 l3 : Value} {x : Int32} : X 72 14 [l0, l1, .int x, l3] st h Q ↔ X 72 15 [l0, l1, .int x, l3] (.int x :: st) h Q := X_n mC_72 dX5_readNumbers_14 rfl
theorem x72_15 {b : Nat} {a0 : Int32} : X 72 15 L [.int a0, .ref b] h Q ↔ hS h b = (1, 5) ∧ X 71 0 [.ref b, .int a0] [] h (fun r h' => X 72 18 L (pv r []) h' Q) := X_virt (as := [.int a0]) (n := 1) (ml := 2) (ck := 5) mC_72 dX5_readNumbers_15 (by unfold cOk; decide +kernel) ⟨rfl, rfl, by decide, Nat.le_of_ble_eq_true rfl⟩
theorem x72_18 {x : Int32} : X 72 18 L (.int x :: st) h Q ↔ if x = 0 then X 72 21 L st h Q else X 72 24 L st h Q := X_zne mC_72 dX5_readNumbers_18 (by decide)
theorem x72_21 : X 72 21 L st h Q ↔ X 72 23 L (.int (-4) :: st) h Q := X_n mC_72 dX5_readNumbers_21 rfl
theorem x72_23 {v : Int32} : X 72 23 L [.int v] h Q ↔ Q (some (.int v)) h := X_ret mC_72 dX5_readNumbers_23 (by decide +kernel)
theorem x72_24 {l1 l2 l3 : Value} {x : Nat} : X 72 24 [.ref x, l1, l2, l3] st h Q ↔ X 72 25 [.ref x, l1, l2, l3] (.ref x :: st) h Q := X_n mC_72 dX5_readNumbers_24 rfl
theorem x72_25 {a : Nat} : X 72 25 L (.ref a :: st) h Q ↔ (hS h a = (1, 5) ∧ hR h a 2 ≠ 0) ∧ X 72 28 L (.ref (hR h a 2) :: st) h Q := X_getR mC_72 dX5_readNumbers_25 (by decide +kernel)
theorem x72_28 {l0 l1 l2 : Value} {x : Int32} : X 72 28 [l0, l1, l2, .int x] st h Q ↔ X 72 29 [l0, l1, l2, .int x] (.int x :: st) h Q := X_n mC_72 dX5_readNumbers_28 rfl
theorem x72_29 {l1 l2 l3 : Value} {x : Nat} : X 72 29 [.ref x, l1, l2, l3] st h Q ↔ X 72 30 [.ref x, l1, l2, l3] (.ref x :: st) h Q := X_n mC_72 dX5_readNumbers_29 rfl
theorem x72_30 {l0 l1 l3 : Value} {x : Int32} : X 72 30 [l0, l1, .int x, l3] st h Q ↔ X 72 31 [l0, l1, .int x, l3] (.int x :: st) h Q := X_n mC_72 dX5_readNumbers_30 rfl
theorem x72_31 {b : Nat} {a0 : Int32} {w0 w1 : Value} : X 72 31 L [.int a0, .ref b, w0, w1] h Q ↔ hS h b = (1, 5) ∧ X 70 0 [.ref b, .int a0] [] h (fun r h' => X 72 34 L (pv r [w0, w1]) h' Q) := X_virt (as := [.int a0]) (n := 1) (ml := 2) (ck := 5) mC_72 dX5_readNumbers_31 (by unfold cOk; decide +kernel) ⟨rfl, rfl, by decide, Nat.le_of_ble_eq_true rfl⟩
theorem x72_34 : X 72 34 L st h Q ↔ X 72 36 L (.int 48 :: st) h Q := X_n mC_72 dX5_readNumbers_34 rfl
theorem x72_36 {x y : Int32} : X 72 36 L (.int y :: .int x :: st) h Q ↔ X 72 37 L (.int (x - y) :: st) h Q := X_n mC_72 dX5_readNumbers_36 rfl
theorem x72_37 {j x : Int32} {a : Nat} : X 72 37 L (.int x :: .int j :: .ref a :: st) h Q ↔ ibw j (hS h a) ∧ X 72 38 L st (sI h a j.toNatClampNeg x) Q := X_iast mC_72 dX5_readNumbers_37
theorem x72_38 {l0 l1 l3 : Value} {x : Int32} : X 72 38 [l0, l1, .int x, l3] st h Q ↔ c1 l1 = true ∧ X 72 41 [l0, l1, .int (x + 1), l3] st h Q := X_inc (pc' := 41) (x := x) mC_72 dX5_readNumbers_38 rfl rfl rfl
theorem x72_41 {l1 l2 l3 : Value} {x : Nat} : X 72 41 [.ref x, l1, l2, l3] st h Q ↔ X 72 42 [.ref x, l1, l2, l3] (.ref x :: st) h Q := X_n mC_72 dX5_readNumbers_41 rfl
theorem x72_42 {l0 l1 l3 : Value} {x : Int32} : X 72 42 [l0, l1, .int x, l3] st h Q ↔ X 72 43 [l0, l1, .int x, l3] (.int x :: st) h Q := X_n mC_72 dX5_readNumbers_42 rfl
theorem x72_43 {b : Nat} {a0 : Int32} : X 72 43 L [.int a0, .ref b] h Q ↔ hS h b = (1, 5) ∧ X 71 0 [.ref b, .int a0] [] h (fun r h' => X 72 46 L (pv r []) h' Q) := X_virt (as := [.int a0]) (n := 1) (ml := 2) (ck := 5) mC_72 dX5_readNumbers_43 (by unfold cOk; decide +kernel) ⟨rfl, rfl, by decide, Nat.le_of_ble_eq_true rfl⟩
theorem x72_46 {x : Int32} : X 72 46 L (.int x :: st) h Q ↔ if x = 0 then X 72 76 L st h Q else X 72 49 L st h Q := X_zeq mC_72 dX5_readNumbers_46 (by decide)
theorem x72_49 {l1 l2 l3 : Value} {x : Nat} : X 72 49 [.ref x, l1, l2, l3] st h Q ↔ X 72 50 [.ref x, l1, l2, l3] (.ref x :: st) h Q := X_n mC_72 dX5_readNumbers_49 rfl
theorem x72_50 {a : Nat} : X 72 50 L (.ref a :: st) h Q ↔ (hS h a = (1, 5) ∧ hR h a 2 ≠ 0) ∧ X 72 53 L (.ref (hR h a 2) :: st) h Q := X_getR mC_72 dX5_readNumbers_50 (by decide +kernel)
theorem x72_53 {l0 l1 l2 : Value} {x : Int32} : X 72 53 [l0, l1, l2, .int x] st h Q ↔ X 72 54 [l0, l1, l2, .int x] (.int x :: st) h Q := X_n mC_72 dX5_readNumbers_53 rfl
theorem x72_54 {l1 l2 l3 : Value} {x : Nat} : X 72 54 [.ref x, l1, l2, l3] st h Q ↔ X 72 55 [.ref x, l1, l2, l3] (.ref x :: st) h Q := X_n mC_72 dX5_readNumbers_54 rfl
theorem x72_55 {a : Nat} : X 72 55 L (.ref a :: st) h Q ↔ (hS h a = (1, 5) ∧ hR h a 2 ≠ 0) ∧ X 72 58 L (.ref (hR h a 2) :: st) h Q := X_getR mC_72 dX5_readNumbers_55 (by decide +kernel)
theorem x72_58 {l0 l1 l2 : Value} {x : Int32} : X 72 58 [l0, l1, l2, .int x] st h Q ↔ X 72 59 [l0, l1, l2, .int x] (.int x :: st) h Q := X_n mC_72 dX5_readNumbers_58 rfl
theorem x72_59 {j : Int32} {a : Nat} : X 72 59 L (.int j :: .ref a :: st) h Q ↔ ib j (hS h a) ∧ X 72 60 L (.int (hI h a j.toNatClampNeg) :: st) h Q := X_iald mC_72 dX5_readNumbers_59
theorem x72_60 : X 72 60 L st h Q ↔ X 72 62 L (.int 10 :: st) h Q := X_n mC_72 dX5_readNumbers_60 rfl
theorem x72_62 {x y : Int32} : X 72 62 L (.int y :: .int x :: st) h Q ↔ X 72 63 L (.int (x * y) :: st) h Q := X_n mC_72 dX5_readNumbers_62 rfl
theorem x72_63 {l1 l2 l3 : Value} {x : Nat} : X 72 63 [.ref x, l1, l2, l3] st h Q ↔ X 72 64 [.ref x, l1, l2, l3] (.ref x :: st) h Q := X_n mC_72 dX5_readNumbers_63 rfl
theorem x72_64 {l0 l1 l3 : Value} {x : Int32} : X 72 64 [l0, l1, .int x, l3] st h Q ↔ X 72 65 [l0, l1, .int x, l3] (.int x :: st) h Q := X_n mC_72 dX5_readNumbers_64 rfl
theorem x72_65 {b : Nat} {a0 : Int32} {w0 w1 w2 : Value} : X 72 65 L [.int a0, .ref b, w0, w1, w2] h Q ↔ hS h b = (1, 5) ∧ X 70 0 [.ref b, .int a0] [] h (fun r h' => X 72 68 L (pv r [w0, w1, w2]) h' Q) := X_virt (as := [.int a0]) (n := 1) (ml := 2) (ck := 5) mC_72 dX5_readNumbers_65 (by unfold cOk; decide +kernel) ⟨rfl, rfl, by decide, Nat.le_of_ble_eq_true rfl⟩
theorem x72_68 {x y : Int32} : X 72 68 L (.int y :: .int x :: st) h Q ↔ X 72 69 L (.int (x + y) :: st) h Q := X_n mC_72 dX5_readNumbers_68 rfl
theorem x72_69 : X 72 69 L st h Q ↔ X 72 71 L (.int 48 :: st) h Q := X_n mC_72 dX5_readNumbers_69 rfl
theorem x72_71 {x y : Int32} : X 72 71 L (.int y :: .int x :: st) h Q ↔ X 72 72 L (.int (x - y) :: st) h Q := X_n mC_72 dX5_readNumbers_71 rfl
theorem x72_72 {j x : Int32} {a : Nat} : X 72 72 L (.int x :: .int j :: .ref a :: st) h Q ↔ ibw j (hS h a) ∧ X 72 73 L st (sI h a j.toNatClampNeg x) Q := X_iast mC_72 dX5_readNumbers_72
theorem x72_73 {l0 l1 l3 : Value} {x : Int32} : X 72 73 [l0, l1, .int x, l3] st h Q ↔ c1 l1 = true ∧ X 72 76 [l0, l1, .int (x + 1), l3] st h Q := X_inc (pc' := 76) (x := x) mC_72 dX5_readNumbers_73 rfl rfl rfl
theorem x72_76 {l1 l2 l3 : Value} {x : Nat} : X 72 76 [.ref x, l1, l2, l3] st h Q ↔ X 72 77 [.ref x, l1, l2, l3] (.ref x :: st) h Q := X_n mC_72 dX5_readNumbers_76 rfl
theorem x72_77 {l0 l1 l2 : Value} {x : Int32} : X 72 77 [l0, l1, l2, .int x] st h Q ↔ X 72 78 [l0, l1, l2, .int x] (.int x :: st) h Q := X_n mC_72 dX5_readNumbers_77 rfl
theorem x72_78 : X 72 78 L st h Q ↔ X 72 79 L (.int 1 :: st) h Q := X_n mC_72 dX5_readNumbers_78 rfl
theorem x72_79 {x y : Int32} : X 72 79 L (.int y :: .int x :: st) h Q ↔ X 72 80 L (.int (x + y) :: st) h Q := X_n mC_72 dX5_readNumbers_79 rfl
theorem x72_80 {a : Nat} {v : Int32} : X 72 80 L (.int v :: .ref a :: st) h Q ↔ hS h a = (1, 5) ∧ X 72 83 L st (sI h a 3 v) Q := X_putI mC_72 dX5_readNumbers_80 (by decide +kernel)
theorem x72_83 {l1 l2 l3 : Value} {x : Nat} : X 72 83 [.ref x, l1, l2, l3] st h Q ↔ X 72 84 [.ref x, l1, l2, l3] (.ref x :: st) h Q := X_n mC_72 dX5_readNumbers_83 rfl
theorem x72_84 {l0 l1 l3 : Value} {x : Int32} : X 72 84 [l0, l1, .int x, l3] st h Q ↔ X 72 85 [l0, l1, .int x, l3] (.int x :: st) h Q := X_n mC_72 dX5_readNumbers_84 rfl
theorem x72_85 {b : Nat} {a0 : Int32} : X 72 85 L [.int a0, .ref b] h Q ↔ hS h b = (1, 5) ∧ X 70 0 [.ref b, .int a0] [] h (fun r h' => X 72 88 L (pv r []) h' Q) := X_virt (as := [.int a0]) (n := 1) (ml := 2) (ck := 5) mC_72 dX5_readNumbers_85 (by unfold cOk; decide +kernel) ⟨rfl, rfl, by decide, Nat.le_of_ble_eq_true rfl⟩
theorem x72_88 : X 72 88 L st h Q ↔ X 72 90 L (.int 59 :: st) h Q := X_n mC_72 dX5_readNumbers_88 rfl
theorem x72_90 {x y : Int32} : X 72 90 L (.int y :: .int x :: st) h Q ↔ if x = y then X 72 93 L st h Q else X 72 97 L st h Q := X_ine mC_72 dX5_readNumbers_90 (by decide)
theorem x72_93 {l0 l1 l3 : Value} {x : Int32} : X 72 93 [l0, l1, .int x, l3] st h Q ↔ X 72 94 [l0, l1, .int x, l3] (.int x :: st) h Q := X_n mC_72 dX5_readNumbers_93 rfl
theorem x72_94 : X 72 94 L st h Q ↔ X 72 95 L (.int 1 :: st) h Q := X_n mC_72 dX5_readNumbers_94 rfl
theorem x72_95 {x y : Int32} : X 72 95 L (.int y :: .int x :: st) h Q ↔ X 72 96 L (.int (x + y) :: st) h Q := X_n mC_72 dX5_readNumbers_95 rfl
theorem x72_96 {v : Int32} : X 72 96 L [.int v] h Q ↔ Q (some (.int v)) h := X_ret mC_72 dX5_readNumbers_96 (by decide +kernel)
theorem x72_97 {l1 l2 l3 : Value} {x : Nat} : X 72 97 [.ref x, l1, l2, l3] st h Q ↔ X 72 98 [.ref x, l1, l2, l3] (.ref x :: st) h Q := X_n mC_72 dX5_readNumbers_97 rfl
theorem x72_98 {l0 l1 l3 : Value} {x : Int32} : X 72 98 [l0, l1, .int x, l3] st h Q ↔ X 72 99 [l0, l1, .int x, l3] (.int x :: st) h Q := X_n mC_72 dX5_readNumbers_98 rfl
theorem x72_99 {b : Nat} {a0 : Int32} : X 72 99 L [.int a0, .ref b] h Q ↔ hS h b = (1, 5) ∧ X 70 0 [.ref b, .int a0] [] h (fun r h' => X 72 102 L (pv r []) h' Q) := X_virt (as := [.int a0]) (n := 1) (ml := 2) (ck := 5) mC_72 dX5_readNumbers_99 (by unfold cOk; decide +kernel) ⟨rfl, rfl, by decide, Nat.le_of_ble_eq_true rfl⟩
theorem x72_102 : X 72 102 L st h Q ↔ X 72 104 L (.int 44 :: st) h Q := X_n mC_72 dX5_readNumbers_102 rfl
theorem x72_104 {x y : Int32} : X 72 104 L (.int y :: .int x :: st) h Q ↔ if x = y then X 72 110 L st h Q else X 72 107 L st h Q := X_ieq mC_72 dX5_readNumbers_104 (by decide)
theorem x72_107 : X 72 107 L st h Q ↔ X 72 109 L (.int (-4) :: st) h Q := X_n mC_72 dX5_readNumbers_107 rfl
theorem x72_109 {v : Int32} : X 72 109 L [.int v] h Q ↔ Q (some (.int v)) h := X_ret mC_72 dX5_readNumbers_109 (by decide +kernel)
theorem x72_110 {l0 l1 l3 : Value} {x : Int32} : X 72 110 [l0, l1, .int x, l3] st h Q ↔ c1 l1 = true ∧ X 72 113 [l0, l1, .int (x + 1), l3] st h Q := X_inc (pc' := 113) (x := x) mC_72 dX5_readNumbers_110 rfl rfl rfl
theorem x72_113 {l0 l1 l2 : Value} {x : Int32} : X 72 113 [l0, l1, l2, .int x] st h Q ↔ c1 l2 = true ∧ X 72 116 [l0, l1, l2, .int (x + 1)] st h Q := X_inc (pc' := 116) (x := x) mC_72 dX5_readNumbers_113 rfl rfl rfl
theorem x72_116 : X 72 116 L st h Q ↔ X 72 4 L st h Q := X_goto mC_72 dX5_readNumbers_116 (by decide)
theorem x72_119 : X 72 119 L st h Q ↔ X 72 121 L (.int (-4) :: st) h Q := X_n mC_72 dX5_readNumbers_119 rfl
theorem x72_121 {v : Int32} : X 72 121 L [.int v] h Q ↔ Q (some (.int v)) h := X_ret mC_72 dX5_readNumbers_121 (by decide +kernel)
theorem mC_73 : mC 73 = cX5_tell := rfl
theorem x73_0 {l0 l2 : Value} {x : Int32} : X 73 0 [l0, .int x, l2] st h Q ↔ X 73 1 [l0, .int x, l2] (.int x :: st) h Q := X_n mC_73 dX5_tell_0 rfl
theorem x73_1 : X 73 1 L st h Q ↔ X 73 3 L (.int 103 :: st) h Q := X_n mC_73 dX5_tell_1 rfl
theorem x73_3 {x y : Int32} : X 73 3 L (.int y :: .int x :: st) h Q ↔ if x = y then X 73 6 L st h Q else X 73 35 L st h Q := X_ine mC_73 dX5_tell_3 (by decide)
theorem x73_6 {l1 l2 : Value} {x : Nat} : X 73 6 [.ref x, l1, l2] st h Q ↔ X 73 7 [.ref x, l1, l2] (.ref x :: st) h Q := X_n mC_73 dX5_tell_6 rfl
theorem x73_7 {a : Nat} : X 73 7 L (.ref a :: st) h Q ↔ hS h a = (1, 5) ∧ X 73 10 L (.int (hI h a 3) :: st) h Q := X_getI mC_73 dX5_tell_7 (by decide +kernel)
theorem x73_10 {l1 l2 : Value} {x : Nat} : X 73 10 [.ref x, l1, l2] st h Q ↔ X 73 11 [.ref x, l1, l2] (.ref x :: st) h Q := X_n mC_73 dX5_tell_10 rfl
theorem x73_11 {a : Nat} : X 73 11 L (.ref a :: st) h Q ↔ (hS h a = (1, 5) ∧ hR h a 2 ≠ 0) ∧ X 73 14 L (.ref (hR h a 2) :: st) h Q := X_getR mC_73 dX5_tell_11 (by decide +kernel)
theorem x73_14 {a : Nat} : X 73 14 L (.ref a :: st) h Q ↔ ((hS h a).1 = 2 ∨ (hS h a).1 = 3 ∨ (hS h a).1 = 4) ∧ X 73 15 L (.int (Int32.ofNat (hS h a).2) :: st) h Q := X_alen mC_73 dX5_tell_14
theorem x73_15 {x y : Int32} : X 73 15 L (.int y :: .int x :: st) h Q ↔ if x = y then X 73 18 L st h Q else X 73 33 L st h Q := X_ine mC_73 dX5_tell_15 (by decide)
theorem x73_18 {l0 l1 : Value} {x : Nat} : X 73 18 [l0, l1, .ref x] st h Q ↔ X 73 19 [l0, l1, .ref x] (.ref x :: st) h Q := X_n mC_73 dX5_tell_18 rfl
theorem x73_19 {l1 l2 : Value} {x : Nat} : X 73 19 [.ref x, l1, l2] st h Q ↔ X 73 20 [.ref x, l1, l2] (.ref x :: st) h Q := X_n mC_73 dX5_tell_19 rfl
theorem x73_20 {a : Nat} : X 73 20 L (.ref a :: st) h Q ↔ (hS h a = (1, 5) ∧ hR h a 2 ≠ 0) ∧ X 73 23 L (.ref (hR h a 2) :: st) h Q := X_getR mC_73 dX5_tell_20 (by decide +kernel)
theorem x73_23 {b : Nat} {a0 : Nat} : X 73 23 L [.ref a0, .ref b] h Q ↔ hS h b = (1, 0) ∧ X 4 0 [.ref b, .ref a0] [] h (fun r h' => X 73 26 L (pv r []) h' Q) := X_virt (as := [.ref a0]) (n := 1) (ml := 2) (ck := 0) mC_73 dX5_tell_23 (by unfold cOk; decide +kernel) ⟨rfl, rfl, by decide, Nat.le_of_ble_eq_true rfl⟩
theorem x73_26 {x : Int32} : X 73 26 L (.int x :: st) h Q ↔ if x = 0 then X 73 33 L st h Q else X 73 29 L st h Q := X_zeq mC_73 dX5_tell_26 (by decide)
theorem x73_29 : X 73 29 L st h Q ↔ X 73 30 L (.int 1 :: st) h Q := X_n mC_73 dX5_tell_29 rfl
theorem x73_30 : X 73 30 L st h Q ↔ X 73 34 L st h Q := X_goto mC_73 dX5_tell_30 (by decide)
theorem x73_33 : X 73 33 L st h Q ↔ X 73 34 L (.int 0 :: st) h Q := X_n mC_73 dX5_tell_33 rfl
theorem x73_34 {v : Int32} : X 73 34 L [.int v] h Q ↔ (v = 0 ∨ v = 1) ∧ Q (some (.int v)) h := X_retZ mC_73 dX5_tell_34 (by decide +kernel)
theorem x73_35 {l1 l2 : Value} {x : Nat} : X 73 35 [.ref x, l1, l2] st h Q ↔ X 73 36 [.ref x, l1, l2] (.ref x :: st) h Q := X_n mC_73 dX5_tell_35 rfl
theorem x73_36 {a : Nat} : X 73 36 L (.ref a :: st) h Q ↔ hS h a = (1, 5) ∧ X 73 39 L (.int (hI h a 3) :: st) h Q := X_getI mC_73 dX5_tell_36 (by decide +kernel)
theorem x73_39 : X 73 39 L st h Q ↔ X 73 40 L (.int 1 :: st) h Q := X_n mC_73 dX5_tell_39 rfl
theorem x73_40 {x y : Int32} : X 73 40 L (.int y :: .int x :: st) h Q ↔ if x = y then X 73 45 L st h Q else X 73 43 L st h Q := X_ieq mC_73 dX5_tell_40 (by decide)
theorem x73_43 : X 73 43 L st h Q ↔ X 73 44 L (.int 0 :: st) h Q := X_n mC_73 dX5_tell_43 rfl
theorem x73_44 {v : Int32} : X 73 44 L [.int v] h Q ↔ (v = 0 ∨ v = 1) ∧ Q (some (.int v)) h := X_retZ mC_73 dX5_tell_44 (by decide +kernel)
theorem x73_45 {l0 l2 : Value} {x : Int32} : X 73 45 [l0, .int x, l2] st h Q ↔ X 73 46 [l0, .int x, l2] (.int x :: st) h Q := X_n mC_73 dX5_tell_45 rfl
theorem x73_46 {x : Int32} : X 73 46 L (.int x :: st) h Q ↔ if x = 99 then X 73 110 L st h Q else if x = 110 then X 73 88 L st h Q else if x = 114 then X 73 121 L st h Q else if x = 119 then X 73 99 L st h Q else X 73 132 L st h Q := by
  by_cases h99 : x = 99
  · subst h99; simp only [if_true]; exact X_look (off := 64) mC_73 dX5_tell_46 (by decide) (by decide) (by decide)
  rw [if_neg h99]
  by_cases h110 : x = 110
  · subst h110; simp only [if_true]; exact X_look (off := 42) mC_73 dX5_tell_46 (by decide) (by decide) (by decide)
  rw [if_neg h110]
  by_cases h114 : x = 114
  · subst h114; simp only [if_true]; exact X_look (off := 75) mC_73 dX5_tell_46 (by decide) (by decide) (by decide)
  rw [if_neg h114]
  by_cases h119 : x = 119
  · subst h119; simp only [if_true]; exact X_look (off := 53) mC_73 dX5_tell_46 (by decide) (by decide) (by decide)
  rw [if_neg h119]
  have q99 := toInt_ne h99
  rw [show (99 : Int32).toInt = 99 by decide] at q99
  have q110 := toInt_ne h110
  rw [show (110 : Int32).toInt = 110 by decide] at q110
  have q114 := toInt_ne h114
  rw [show (114 : Int32).toInt = 114 by decide] at q114
  have q119 := toInt_ne h119
  rw [show (119 : Int32).toInt = 119 by decide] at q119
  exact X_look (off := 86) mC_73 dX5_tell_46 (by decide) (by simp [Op.lookupswitch.offset, Ne.symm q99, q99, Ne.symm q110, q110, Ne.symm q114, q114, Ne.symm q119, q119]) (by decide)
theorem x73_88 {l0 l1 : Value} {x : Nat} : X 73 88 [l0, l1, .ref x] st h Q ↔ X 73 89 [l0, l1, .ref x] (.ref x :: st) h Q := X_n mC_73 dX5_tell_88 rfl
theorem x73_89 {l1 l2 : Value} {x : Nat} : X 73 89 [.ref x, l1, l2] st h Q ↔ X 73 90 [.ref x, l1, l2] (.ref x :: st) h Q := X_n mC_73 dX5_tell_89 rfl
theorem x73_90 {a : Nat} : X 73 90 L (.ref a :: st) h Q ↔ (hS h a = (1, 5) ∧ hR h a 2 ≠ 0) ∧ X 73 93 L (.ref (hR h a 2) :: st) h Q := X_getR mC_73 dX5_tell_90 (by decide +kernel)
theorem x73_93 : X 73 93 L st h Q ↔ X 73 94 L (.int 0 :: st) h Q := X_n mC_73 dX5_tell_93 rfl
theorem x73_94 {j : Int32} {a : Nat} : X 73 94 L (.int j :: .ref a :: st) h Q ↔ ib j (hS h a) ∧ X 73 95 L (.int (hI h a j.toNatClampNeg) :: st) h Q := X_iald mC_73 dX5_tell_94
theorem x73_95 {b : Nat} {a0 : Int32} : X 73 95 L [.int a0, .ref b] h Q ↔ hS h b = (1, 0) ∧ X 3 0 [.ref b, .int a0] [] h (fun r h' => X 73 98 L (pv r []) h' Q) := X_virt (as := [.int a0]) (n := 1) (ml := 2) (ck := 0) mC_73 dX5_tell_95 (by unfold cOk; decide +kernel) ⟨rfl, rfl, by decide, Nat.le_of_ble_eq_true rfl⟩
theorem x73_98 {v : Int32} : X 73 98 L [.int v] h Q ↔ (v = 0 ∨ v = 1) ∧ Q (some (.int v)) h := X_retZ mC_73 dX5_tell_98 (by decide +kernel)
theorem x73_99 {l0 l1 : Value} {x : Nat} : X 73 99 [l0, l1, .ref x] st h Q ↔ X 73 100 [l0, l1, .ref x] (.ref x :: st) h Q := X_n mC_73 dX5_tell_99 rfl
theorem x73_100 {l1 l2 : Value} {x : Nat} : X 73 100 [.ref x, l1, l2] st h Q ↔ X 73 101 [.ref x, l1, l2] (.ref x :: st) h Q := X_n mC_73 dX5_tell_100 rfl
theorem x73_101 {a : Nat} : X 73 101 L (.ref a :: st) h Q ↔ (hS h a = (1, 5) ∧ hR h a 2 ≠ 0) ∧ X 73 104 L (.ref (hR h a 2) :: st) h Q := X_getR mC_73 dX5_tell_101 (by decide +kernel)
theorem x73_104 : X 73 104 L st h Q ↔ X 73 105 L (.int 0 :: st) h Q := X_n mC_73 dX5_tell_104 rfl
theorem x73_105 {j : Int32} {a : Nat} : X 73 105 L (.int j :: .ref a :: st) h Q ↔ ib j (hS h a) ∧ X 73 106 L (.int (hI h a j.toNatClampNeg) :: st) h Q := X_iald mC_73 dX5_tell_105
theorem x73_106 {b : Nat} {a0 : Int32} : X 73 106 L [.int a0, .ref b] h Q ↔ hS h b = (1, 0) ∧ X 6 0 [.ref b, .int a0] [] h (fun r h' => X 73 109 L (pv r []) h' Q) := X_virt (as := [.int a0]) (n := 1) (ml := 2) (ck := 0) mC_73 dX5_tell_106 (by unfold cOk; decide +kernel) ⟨rfl, rfl, by decide, Nat.le_of_ble_eq_true rfl⟩
theorem x73_109 {v : Int32} : X 73 109 L [.int v] h Q ↔ (v = 0 ∨ v = 1) ∧ Q (some (.int v)) h := X_retZ mC_73 dX5_tell_109 (by decide +kernel)
theorem x73_110 {l0 l1 : Value} {x : Nat} : X 73 110 [l0, l1, .ref x] st h Q ↔ X 73 111 [l0, l1, .ref x] (.ref x :: st) h Q := X_n mC_73 dX5_tell_110 rfl
theorem x73_111 {l1 l2 : Value} {x : Nat} : X 73 111 [.ref x, l1, l2] st h Q ↔ X 73 112 [.ref x, l1, l2] (.ref x :: st) h Q := X_n mC_73 dX5_tell_111 rfl
theorem x73_112 {a : Nat} : X 73 112 L (.ref a :: st) h Q ↔ (hS h a = (1, 5) ∧ hR h a 2 ≠ 0) ∧ X 73 115 L (.ref (hR h a 2) :: st) h Q := X_getR mC_73 dX5_tell_112 (by decide +kernel)
theorem x73_115 : X 73 115 L st h Q ↔ X 73 116 L (.int 0 :: st) h Q := X_n mC_73 dX5_tell_115 rfl
theorem x73_116 {j : Int32} {a : Nat} : X 73 116 L (.int j :: .ref a :: st) h Q ↔ ib j (hS h a) ∧ X 73 117 L (.int (hI h a j.toNatClampNeg) :: st) h Q := X_iald mC_73 dX5_tell_116
theorem x73_117 {b : Nat} {a0 : Int32} : X 73 117 L [.int a0, .ref b] h Q ↔ hS h b = (1, 0) ∧ X 7 0 [.ref b, .int a0] [] h (fun r h' => X 73 120 L (pv r []) h' Q) := X_virt (as := [.int a0]) (n := 1) (ml := 2) (ck := 0) mC_73 dX5_tell_117 (by unfold cOk; decide +kernel) ⟨rfl, rfl, by decide, Nat.le_of_ble_eq_true rfl⟩
theorem x73_120 {v : Int32} : X 73 120 L [.int v] h Q ↔ (v = 0 ∨ v = 1) ∧ Q (some (.int v)) h := X_retZ mC_73 dX5_tell_120 (by decide +kernel)
theorem x73_121 {l0 l1 : Value} {x : Nat} : X 73 121 [l0, l1, .ref x] st h Q ↔ X 73 122 [l0, l1, .ref x] (.ref x :: st) h Q := X_n mC_73 dX5_tell_121 rfl
theorem x73_122 {l1 l2 : Value} {x : Nat} : X 73 122 [.ref x, l1, l2] st h Q ↔ X 73 123 [.ref x, l1, l2] (.ref x :: st) h Q := X_n mC_73 dX5_tell_122 rfl
theorem x73_123 {a : Nat} : X 73 123 L (.ref a :: st) h Q ↔ (hS h a = (1, 5) ∧ hR h a 2 ≠ 0) ∧ X 73 126 L (.ref (hR h a 2) :: st) h Q := X_getR mC_73 dX5_tell_123 (by decide +kernel)
theorem x73_126 : X 73 126 L st h Q ↔ X 73 127 L (.int 0 :: st) h Q := X_n mC_73 dX5_tell_126 rfl
theorem x73_127 {j : Int32} {a : Nat} : X 73 127 L (.int j :: .ref a :: st) h Q ↔ ib j (hS h a) ∧ X 73 128 L (.int (hI h a j.toNatClampNeg) :: st) h Q := X_iald mC_73 dX5_tell_127
theorem x73_128 {b : Nat} {a0 : Int32} : X 73 128 L [.int a0, .ref b] h Q ↔ hS h b = (1, 0) ∧ X 8 0 [.ref b, .int a0] [] h (fun r h' => X 73 131 L (pv r []) h' Q) := X_virt (as := [.int a0]) (n := 1) (ml := 2) (ck := 0) mC_73 dX5_tell_128 (by unfold cOk; decide +kernel) ⟨rfl, rfl, by decide, Nat.le_of_ble_eq_true rfl⟩
theorem x73_131 {v : Int32} : X 73 131 L [.int v] h Q ↔ (v = 0 ∨ v = 1) ∧ Q (some (.int v)) h := X_retZ mC_73 dX5_tell_131 (by decide +kernel)
theorem x73_132 : X 73 132 L st h Q ↔ X 73 133 L (.int 0 :: st) h Q := X_n mC_73 dX5_tell_132 rfl
theorem x73_133 {v : Int32} : X 73 133 L [.int v] h Q ↔ (v = 0 ∨ v = 1) ∧ Q (some (.int v)) h := X_retZ mC_73 dX5_tell_133 (by decide +kernel)
theorem mC_74 : mC 74 = cX6_init := rfl
theorem x74_0 {x : Nat} : X 74 0 [.ref x] st h Q ↔ X 74 1 [.ref x] (.ref x :: st) h Q := X_n mC_74 dX6_init_0 rfl
theorem x74_1 {a : Nat} : X 74 1 L [.ref a] h Q ↔ X 74 4 L [] h Q := X_obj (n := 0) mC_74 dX6_init_1 (by decide +kernel) (Nat.le_of_ble_eq_true rfl)
theorem x74_4 : X 74 4 L [] h Q ↔ Q none h := X_retV mC_74 dX6_init_4 (by decide +kernel)
theorem mC_75 : mC 75 = cX6_fit := rfl
theorem x75_0 {l1 l2 l3 : Value} {x : Nat} : X 75 0 [.ref x, l1, l2, l3] st h Q ↔ X 75 1 [.ref x, l1, l2, l3] (.ref x :: st) h Q := X_n mC_75 dX6_fit_0 rfl
theorem x75_1 {l0 l2 l3 : Value} {x : Int32} : X 75 1 [l0, .int x, l2, l3] st h Q ↔ X 75 2 [l0, .int x, l2, l3] (.int x :: st) h Q := X_n mC_75 dX6_fit_1 rfl
theorem x75_2 {a : Nat} {v : Int32} : X 75 2 L (.int v :: .ref a :: st) h Q ↔ hS h a = (1, 6) ∧ X 75 5 L st (sI h a 0 v) Q := X_putI mC_75 dX6_fit_2 (by decide +kernel)
theorem x75_5 {l1 l2 l3 : Value} {x : Nat} : X 75 5 [.ref x, l1, l2, l3] st h Q ↔ X 75 6 [.ref x, l1, l2, l3] (.ref x :: st) h Q := X_n mC_75 dX6_fit_5 rfl
theorem x75_6 : X 75 6 L st h Q ↔ X 75 7 L (.int 5 :: st) h Q := X_n mC_75 dX6_fit_6 rfl
theorem x75_7 {l0 l1 l3 : Value} {x : Int32} : X 75 7 [l0, l1, .int x, l3] st h Q ↔ X 75 8 [l0, l1, .int x, l3] (.int x :: st) h Q := X_n mC_75 dX6_fit_7 rfl
theorem x75_8 {x y : Int32} {w0 : Value} : X 75 8 L [.int y, .int x, w0] h Q ↔ X 75 11 L [.int (if y < x then y else x), w0] h Q := X_min (n := 2) mC_75 dX6_fit_8 (by decide +kernel) (Nat.le_of_ble_eq_true rfl)
theorem x75_11 {a : Nat} {v : Int32} : X 75 11 L (.int v :: .ref a :: st) h Q ↔ hS h a = (1, 6) ∧ X 75 14 L st (sI h a 1 v) Q := X_putI mC_75 dX6_fit_11 (by decide +kernel)
theorem x75_14 {l1 l2 l3 : Value} {x : Nat} : X 75 14 [.ref x, l1, l2, l3] st h Q ↔ X 75 15 [.ref x, l1, l2, l3] (.ref x :: st) h Q := X_n mC_75 dX6_fit_14 rfl
theorem x75_15 : X 75 15 L st h Q ↔ X 75 16 L (.int 1 :: st) h Q := X_n mC_75 dX6_fit_15 rfl
theorem x75_16 {a : Nat} {v : Int32} : X 75 16 L (.int v :: .ref a :: st) h Q ↔ hS h a = (1, 6) ∧ X 75 19 L st (sI h a 2 v) Q := X_putI mC_75 dX6_fit_16 (by decide +kernel)
theorem x75_19 : X 75 19 L st h Q ↔ X 75 20 L (.int 0 :: st) h Q := X_n mC_75 dX6_fit_19 rfl
theorem x75_20 {l0 l1 l2 l3 : Value} {x : Int32} : X 75 20 [l0, l1, l2, l3] (.int x :: st) h Q ↔ c1 l2 = true ∧ X 75 21 [l0, l1, l2, .int x] st h Q := X_sto (kk := 3) (pc' := 21) (w := .int x) mC_75 dX6_fit_20 rfl (Nat.le_of_ble_eq_true rfl) rfl
theorem x75_21 {l0 l1 l2 : Value} {x : Int32} : X 75 21 [l0, l1, l2, .int x] st h Q ↔ X 75 22 [l0, l1, l2, .int x] (.int x :: st) h Q := X_n mC_75 dX6_fit_21 rfl
theorem x75_22 {l1 l2 l3 : Value} {x : Nat} : X 75 22 [.ref x, l1, l2, l3] st h Q ↔ X 75 23 [.ref x, l1, l2, l3] (.ref x :: st) h Q := X_n mC_75 dX6_fit_22 rfl
theorem x75_23 {a : Nat} : X 75 23 L (.ref a :: st) h Q ↔ hS h a = (1, 6) ∧ X 75 26 L (.int (hI h a 1) :: st) h Q := X_getI mC_75 dX6_fit_23 (by decide +kernel)
theorem x75_26 {x y : Int32} : X 75 26 L (.int y :: .int x :: st) h Q ↔ if x < y then X 75 29 L st h Q else X 75 50 L st h Q := X_ige mC_75 dX6_fit_26 (by decide)
theorem x75_29 {l1 l2 l3 : Value} {x : Nat} : X 75 29 [.ref x, l1, l2, l3] st h Q ↔ X 75 30 [.ref x, l1, l2, l3] (.ref x :: st) h Q := X_n mC_75 dX6_fit_29 rfl
theorem x75_30 {x : Nat} : X 75 30 L (.ref x :: st) h Q ↔ X 75 31 L (.ref x :: .ref x :: st) h Q := X_n mC_75 dX6_fit_30 rfl
theorem x75_31 {a : Nat} : X 75 31 L (.ref a :: st) h Q ↔ hS h a = (1, 6) ∧ X 75 34 L (.int (hI h a 2) :: st) h Q := X_getI mC_75 dX6_fit_31 (by decide +kernel)
theorem x75_34 {l1 l2 l3 : Value} {x : Nat} : X 75 34 [.ref x, l1, l2, l3] st h Q ↔ X 75 35 [.ref x, l1, l2, l3] (.ref x :: st) h Q := X_n mC_75 dX6_fit_34 rfl
theorem x75_35 {a : Nat} : X 75 35 L (.ref a :: st) h Q ↔ hS h a = (1, 6) ∧ X 75 38 L (.int (hI h a 0) :: st) h Q := X_getI mC_75 dX6_fit_35 (by decide +kernel)
theorem x75_38 {l0 l1 l2 : Value} {x : Int32} : X 75 38 [l0, l1, l2, .int x] st h Q ↔ X 75 39 [l0, l1, l2, .int x] (.int x :: st) h Q := X_n mC_75 dX6_fit_38 rfl
theorem x75_39 {x y : Int32} : X 75 39 L (.int y :: .int x :: st) h Q ↔ X 75 40 L (.int (x - y) :: st) h Q := X_n mC_75 dX6_fit_39 rfl
theorem x75_40 {x y : Int32} : X 75 40 L (.int y :: .int x :: st) h Q ↔ X 75 41 L (.int (x * y) :: st) h Q := X_n mC_75 dX6_fit_40 rfl
theorem x75_41 {a : Nat} {v : Int32} : X 75 41 L (.int v :: .ref a :: st) h Q ↔ hS h a = (1, 6) ∧ X 75 44 L st (sI h a 2 v) Q := X_putI mC_75 dX6_fit_41 (by decide +kernel)
theorem x75_44 {l0 l1 l2 : Value} {x : Int32} : X 75 44 [l0, l1, l2, .int x] st h Q ↔ c1 l2 = true ∧ X 75 47 [l0, l1, l2, .int (x + 1)] st h Q := X_inc (pc' := 47) (x := x) mC_75 dX6_fit_44 rfl rfl rfl
theorem x75_47 : X 75 47 L st h Q ↔ X 75 21 L st h Q := X_goto mC_75 dX6_fit_47 (by decide)
theorem x75_50 {l1 l2 l3 : Value} {x : Nat} : X 75 50 [.ref x, l1, l2, l3] st h Q ↔ X 75 51 [.ref x, l1, l2, l3] (.ref x :: st) h Q := X_n mC_75 dX6_fit_50 rfl
theorem x75_51 : X 75 51 L st h Q ↔ X 75 54 L (.int 720 :: st) h Q := X_n mC_75 dX6_fit_51 rfl
theorem x75_54 {l1 l2 l3 : Value} {x : Nat} : X 75 54 [.ref x, l1, l2, l3] st h Q ↔ X 75 55 [.ref x, l1, l2, l3] (.ref x :: st) h Q := X_n mC_75 dX6_fit_54 rfl
theorem x75_55 {a : Nat} : X 75 55 L (.ref a :: st) h Q ↔ hS h a = (1, 6) ∧ X 75 58 L (.int (hI h a 2) :: st) h Q := X_getI mC_75 dX6_fit_55 (by decide +kernel)
theorem x75_58 {x y : Int32} {w0 : Value} : X 75 58 L [.int y, .int x, w0] h Q ↔ X 75 61 L [.int (if y < x then y else x), w0] h Q := X_min (n := 2) mC_75 dX6_fit_58 (by decide +kernel) (Nat.le_of_ble_eq_true rfl)
theorem x75_61 {a : Nat} {v : Int32} : X 75 61 L (.int v :: .ref a :: st) h Q ↔ hS h a = (1, 6) ∧ X 75 64 L st (sI h a 2 v) Q := X_putI mC_75 dX6_fit_61 (by decide +kernel)
theorem x75_64 : X 75 64 L [] h Q ↔ Q none h := X_retV mC_75 dX6_fit_64 (by decide +kernel)
theorem mC_76 : mC 76 = cX6_total := rfl
theorem x76_0 {x : Nat} : X 76 0 [.ref x] st h Q ↔ X 76 1 [.ref x] (.ref x :: st) h Q := X_n mC_76 dX6_total_0 rfl
theorem x76_1 {a : Nat} : X 76 1 L (.ref a :: st) h Q ↔ hS h a = (1, 6) ∧ X 76 4 L (.int (hI h a 2) :: st) h Q := X_getI mC_76 dX6_total_1 (by decide +kernel)
theorem x76_4 {v : Int32} : X 76 4 L [.int v] h Q ↔ Q (some (.int v)) h := X_ret mC_76 dX6_total_4 (by decide +kernel)
theorem mC_77 : mC 77 = cX6_numberOf := rfl
theorem x77_0 : X 77 0 L st h Q ↔ X 77 1 L (.int 0 :: st) h Q := X_n mC_77 dX6_numberOf_0 rfl
theorem x77_1 {l0 l1 l2 l3 l4 l5 : Value} {x : Int32} : X 77 1 [l0, l1, l2, l3, l4, l5] (.int x :: st) h Q ↔ c1 l1 = true ∧ X 77 2 [l0, l1, .int x, l3, l4, l5] st h Q := X_sto (kk := 2) (pc' := 2) (w := .int x) mC_77 dX6_numberOf_1 rfl (Nat.le_of_ble_eq_true rfl) rfl
theorem x77_2 : X 77 2 L st h Q ↔ X 77 3 L (.int 0 :: st) h Q := X_n mC_77 dX6_numberOf_2 rfl
theorem x77_3 {l0 l1 l2 l3 l4 l5 : Value} {x : Int32} : X 77 3 [l0, l1, l2, l3, l4, l5] (.int x :: st) h Q ↔ c1 l2 = true ∧ X 77 4 [l0, l1, l2, .int x, l4, l5] st h Q := X_sto (kk := 3) (pc' := 4) (w := .int x) mC_77 dX6_numberOf_3 rfl (Nat.le_of_ble_eq_true rfl) rfl
theorem x77_4 {l0 l1 l2 l4 l5 : Value} {x : Int32} : X 77 4 [l0, l1, l2, .int x, l4, l5] st h Q ↔ X 77 5 [l0, l1, l2, .int x, l4, l5] (.int x :: st) h Q := X_n mC_77 dX6_numberOf_4 rfl
theorem x77_5 {l1 l2 l3 l4 l5 : Value} {x : Nat} : X 77 5 [.ref x, l1, l2, l3, l4, l5] st h Q ↔ X 77 6 [.ref x, l1, l2, l3, l4, l5] (.ref x :: st) h Q := X_n mC_77 dX6_numberOf_5 rfl
theorem x77_6 {a : Nat} : X 77 6 L (.ref a :: st) h Q ↔ hS h a = (1, 6) ∧ X 77 9 L (.int (hI h a 1) :: st) h Q := X_getI mC_77 dX6_numberOf_6 (by decide +kernel)
theorem x77_9 {x y : Int32} : X 77 9 L (.int y :: .int x :: st) h Q ↔ if x < y then X 77 12 L st h Q else X 77 69 L st h Q := X_ige mC_77 dX6_numberOf_9 (by decide)
theorem x77_12 {l0 l1 l2 l4 l5 : Value} {x : Int32} : X 77 12 [l0, l1, l2, .int x, l4, l5] st h Q ↔ X 77 13 [l0, l1, l2, .int x, l4, l5] (.int x :: st) h Q := X_n mC_77 dX6_numberOf_12 rfl
theorem x77_13 {l0 l2 l3 l4 l5 : Value} {x : Nat} : X 77 13 [l0, .ref x, l2, l3, l4, l5] st h Q ↔ X 77 14 [l0, .ref x, l2, l3, l4, l5] (.ref x :: st) h Q := X_n mC_77 dX6_numberOf_13 rfl
theorem x77_14 {a : Nat} : X 77 14 L (.ref a :: st) h Q ↔ ((hS h a).1 = 2 ∨ (hS h a).1 = 3 ∨ (hS h a).1 = 4) ∧ X 77 15 L (.int (Int32.ofNat (hS h a).2) :: st) h Q := X_alen mC_77 dX6_numberOf_14
theorem x77_15 {x y : Int32} : X 77 15 L (.int y :: .int x :: st) h Q ↔ if x < y then X 77 18 L st h Q else X 77 69 L st h Q := X_ige mC_77 dX6_numberOf_15 (by decide)
theorem x77_18 {l0 l2 l3 l4 l5 : Value} {x : Nat} : X 77 18 [l0, .ref x, l2, l3, l4, l5] st h Q ↔ X 77 19 [l0, .ref x, l2, l3, l4, l5] (.ref x :: st) h Q := X_n mC_77 dX6_numberOf_18 rfl
theorem x77_19 {l0 l1 l2 l4 l5 : Value} {x : Int32} : X 77 19 [l0, l1, l2, .int x, l4, l5] st h Q ↔ X 77 20 [l0, l1, l2, .int x, l4, l5] (.int x :: st) h Q := X_n mC_77 dX6_numberOf_19 rfl
theorem x77_20 {j : Int32} {a : Nat} : X 77 20 L (.int j :: .ref a :: st) h Q ↔ ib j (hS h a) ∧ X 77 21 L (.int (hI h a j.toNatClampNeg) :: st) h Q := X_iald mC_77 dX6_numberOf_20
theorem x77_21 {l0 l1 l2 l3 l4 l5 : Value} {x : Int32} : X 77 21 [l0, l1, l2, l3, l4, l5] (.int x :: st) h Q ↔ c1 l3 = true ∧ X 77 23 [l0, l1, l2, l3, .int x, l5] st h Q := X_sto (kk := 4) (pc' := 23) (w := .int x) mC_77 dX6_numberOf_21 rfl (Nat.le_of_ble_eq_true rfl) rfl
theorem x77_23 : X 77 23 L st h Q ↔ X 77 24 L (.int 0 :: st) h Q := X_n mC_77 dX6_numberOf_23 rfl
theorem x77_24 {l0 l1 l2 l3 l4 l5 : Value} {x : Int32} : X 77 24 [l0, l1, l2, l3, l4, l5] (.int x :: st) h Q ↔ c1 l4 = true ∧ X 77 26 [l0, l1, l2, l3, l4, .int x] st h Q := X_sto (kk := 5) (pc' := 26) (w := .int x) mC_77 dX6_numberOf_24 rfl (Nat.le_of_ble_eq_true rfl) rfl
theorem x77_26 {l0 l1 l2 l3 l4 : Value} {x : Int32} : X 77 26 [l0, l1, l2, l3, l4, .int x] st h Q ↔ X 77 28 [l0, l1, l2, l3, l4, .int x] (.int x :: st) h Q := X_n mC_77 dX6_numberOf_26 rfl
theorem x77_28 {l0 l1 l2 l4 l5 : Value} {x : Int32} : X 77 28 [l0, l1, l2, .int x, l4, l5] st h Q ↔ X 77 29 [l0, l1, l2, .int x, l4, l5] (.int x :: st) h Q := X_n mC_77 dX6_numberOf_28 rfl
theorem x77_29 {x y : Int32} : X 77 29 L (.int y :: .int x :: st) h Q ↔ if x < y then X 77 32 L st h Q else X 77 51 L st h Q := X_ige mC_77 dX6_numberOf_29 (by decide)
theorem x77_32 {l0 l2 l3 l4 l5 : Value} {x : Nat} : X 77 32 [l0, .ref x, l2, l3, l4, l5] st h Q ↔ X 77 33 [l0, .ref x, l2, l3, l4, l5] (.ref x :: st) h Q := X_n mC_77 dX6_numberOf_32 rfl
theorem x77_33 {l0 l1 l2 l3 l4 : Value} {x : Int32} : X 77 33 [l0, l1, l2, l3, l4, .int x] st h Q ↔ X 77 35 [l0, l1, l2, l3, l4, .int x] (.int x :: st) h Q := X_n mC_77 dX6_numberOf_33 rfl
theorem x77_35 {j : Int32} {a : Nat} : X 77 35 L (.int j :: .ref a :: st) h Q ↔ ib j (hS h a) ∧ X 77 36 L (.int (hI h a j.toNatClampNeg) :: st) h Q := X_iald mC_77 dX6_numberOf_35
theorem x77_36 {l0 l2 l3 l4 l5 : Value} {x : Nat} : X 77 36 [l0, .ref x, l2, l3, l4, l5] st h Q ↔ X 77 37 [l0, .ref x, l2, l3, l4, l5] (.ref x :: st) h Q := X_n mC_77 dX6_numberOf_36 rfl
theorem x77_37 {l0 l1 l2 l4 l5 : Value} {x : Int32} : X 77 37 [l0, l1, l2, .int x, l4, l5] st h Q ↔ X 77 38 [l0, l1, l2, .int x, l4, l5] (.int x :: st) h Q := X_n mC_77 dX6_numberOf_37 rfl
theorem x77_38 {j : Int32} {a : Nat} : X 77 38 L (.int j :: .ref a :: st) h Q ↔ ib j (hS h a) ∧ X 77 39 L (.int (hI h a j.toNatClampNeg) :: st) h Q := X_iald mC_77 dX6_numberOf_38
theorem x77_39 {x y : Int32} : X 77 39 L (.int y :: .int x :: st) h Q ↔ if x < y then X 77 42 L st h Q else X 77 45 L st h Q := X_ige mC_77 dX6_numberOf_39 (by decide)
theorem x77_42 {l0 l1 l2 l3 l5 : Value} {x : Int32} : X 77 42 [l0, l1, l2, l3, .int x, l5] st h Q ↔ c1 l3 = true ∧ X 77 45 [l0, l1, l2, l3, .int (x + (-1)), l5] st h Q := X_inc (pc' := 45) (x := x) mC_77 dX6_numberOf_42 rfl rfl rfl
theorem x77_45 {l0 l1 l2 l3 l4 : Value} {x : Int32} : X 77 45 [l0, l1, l2, l3, l4, .int x] st h Q ↔ c1 l4 = true ∧ X 77 48 [l0, l1, l2, l3, l4, .int (x + 1)] st h Q := X_inc (pc' := 48) (x := x) mC_77 dX6_numberOf_45 rfl rfl rfl
theorem x77_48 : X 77 48 L st h Q ↔ X 77 26 L st h Q := X_goto mC_77 dX6_numberOf_48 (by decide)
theorem x77_51 {l0 l1 l3 l4 l5 : Value} {x : Int32} : X 77 51 [l0, l1, .int x, l3, l4, l5] st h Q ↔ X 77 52 [l0, l1, .int x, l3, l4, l5] (.int x :: st) h Q := X_n mC_77 dX6_numberOf_51 rfl
theorem x77_52 {l1 l2 l3 l4 l5 : Value} {x : Nat} : X 77 52 [.ref x, l1, l2, l3, l4, l5] st h Q ↔ X 77 53 [.ref x, l1, l2, l3, l4, l5] (.ref x :: st) h Q := X_n mC_77 dX6_numberOf_52 rfl
theorem x77_53 {a : Nat} : X 77 53 L (.ref a :: st) h Q ↔ hS h a = (1, 6) ∧ X 77 56 L (.int (hI h a 0) :: st) h Q := X_getI mC_77 dX6_numberOf_53 (by decide +kernel)
theorem x77_56 {l0 l1 l2 l4 l5 : Value} {x : Int32} : X 77 56 [l0, l1, l2, .int x, l4, l5] st h Q ↔ X 77 57 [l0, l1, l2, .int x, l4, l5] (.int x :: st) h Q := X_n mC_77 dX6_numberOf_56 rfl
theorem x77_57 {x y : Int32} : X 77 57 L (.int y :: .int x :: st) h Q ↔ X 77 58 L (.int (x - y) :: st) h Q := X_n mC_77 dX6_numberOf_57 rfl
theorem x77_58 {x y : Int32} : X 77 58 L (.int y :: .int x :: st) h Q ↔ X 77 59 L (.int (x * y) :: st) h Q := X_n mC_77 dX6_numberOf_58 rfl
theorem x77_59 {l0 l1 l2 l3 l5 : Value} {x : Int32} : X 77 59 [l0, l1, l2, l3, .int x, l5] st h Q ↔ X 77 61 [l0, l1, l2, l3, .int x, l5] (.int x :: st) h Q := X_n mC_77 dX6_numberOf_59 rfl
theorem x77_61 {x y : Int32} : X 77 61 L (.int y :: .int x :: st) h Q ↔ X 77 62 L (.int (x + y) :: st) h Q := X_n mC_77 dX6_numberOf_61 rfl
theorem x77_62 {l0 l1 l2 l3 l4 l5 : Value} {x : Int32} : X 77 62 [l0, l1, l2, l3, l4, l5] (.int x :: st) h Q ↔ c1 l1 = true ∧ X 77 63 [l0, l1, .int x, l3, l4, l5] st h Q := X_sto (kk := 2) (pc' := 63) (w := .int x) mC_77 dX6_numberOf_62 rfl (Nat.le_of_ble_eq_true rfl) rfl
theorem x77_63 {l0 l1 l2 l4 l5 : Value} {x : Int32} : X 77 63 [l0, l1, l2, .int x, l4, l5] st h Q ↔ c1 l2 = true ∧ X 77 66 [l0, l1, l2, .int (x + 1), l4, l5] st h Q := X_inc (pc' := 66) (x := x) mC_77 dX6_numberOf_63 rfl rfl rfl
theorem x77_66 : X 77 66 L st h Q ↔ X 77 4 L st h Q := X_goto mC_77 dX6_numberOf_66 (by decide)
theorem x77_69 {l0 l1 l3 l4 l5 : Value} {x : Int32} : X 77 69 [l0, l1, .int x, l3, l4, l5] st h Q ↔ X 77 70 [l0, l1, .int x, l3, l4, l5] (.int x :: st) h Q := X_n mC_77 dX6_numberOf_69 rfl
theorem x77_70 {v : Int32} : X 77 70 L [.int v] h Q ↔ Q (some (.int v)) h := X_ret mC_77 dX6_numberOf_70 (by decide +kernel)
theorem mC_78 : mC 78 = cX6_spread := rfl
theorem x78_0 {l1 l2 l3 l4 l5 l6 l7 : Value} {x : Nat} : X 78 0 [.ref x, l1, l2, l3, l4, l5, l6, l7] st h Q ↔ X 78 1 [.ref x, l1, l2, l3, l4, l5, l6, l7] (.ref x :: st) h Q := X_n mC_78 dX6_spread_0 rfl
theorem x78_1 {a : Nat} : X 78 1 L (.ref a :: st) h Q ↔ hS h a = (1, 6) ∧ X 78 4 L (.int (hI h a 2) :: st) h Q := X_getI mC_78 dX6_spread_1 (by decide +kernel)
theorem x78_4 {l0 l1 l2 l3 l4 l5 l6 l7 : Value} {x : Int32} : X 78 4 [l0, l1, l2, l3, l4, l5, l6, l7] (.int x :: st) h Q ↔ c1 l2 = true ∧ X 78 5 [l0, l1, l2, .int x, l4, l5, l6, l7] st h Q := X_sto (kk := 3) (pc' := 5) (w := .int x) mC_78 dX6_spread_4 rfl (Nat.le_of_ble_eq_true rfl) rfl
theorem x78_5 {l0 l2 l3 l4 l5 l6 l7 : Value} {x : Int32} : X 78 5 [l0, .int x, l2, l3, l4, l5, l6, l7] st h Q ↔ X 78 6 [l0, .int x, l2, l3, l4, l5, l6, l7] (.int x :: st) h Q := X_n mC_78 dX6_spread_5 rfl
theorem x78_6 {l0 l1 l2 l3 l4 l5 l6 l7 : Value} {x : Int32} : X 78 6 [l0, l1, l2, l3, l4, l5, l6, l7] (.int x :: st) h Q ↔ c1 l3 = true ∧ X 78 8 [l0, l1, l2, l3, .int x, l5, l6, l7] st h Q := X_sto (kk := 4) (pc' := 8) (w := .int x) mC_78 dX6_spread_6 rfl (Nat.le_of_ble_eq_true rfl) rfl
theorem x78_8 : X 78 8 L st h Q ↔ X 78 9 L (.int 0 :: st) h Q := X_n mC_78 dX6_spread_8 rfl
theorem x78_9 {l0 l1 l2 l3 l4 l5 l6 l7 : Value} {x : Int32} : X 78 9 [l0, l1, l2, l3, l4, l5, l6, l7] (.int x :: st) h Q ↔ c1 l4 = true ∧ X 78 11 [l0, l1, l2, l3, l4, .int x, l6, l7] st h Q := X_sto (kk := 5) (pc' := 11) (w := .int x) mC_78 dX6_spread_9 rfl (Nat.le_of_ble_eq_true rfl) rfl
theorem x78_11 : X 78 11 L st h Q ↔ X 78 12 L (.int 0 :: st) h Q := X_n mC_78 dX6_spread_11 rfl
theorem x78_12 {l0 l1 l2 l3 l4 l5 l6 l7 : Value} {x : Int32} : X 78 12 [l0, l1, l2, l3, l4, l5, l6, l7] (.int x :: st) h Q ↔ c1 l5 = true ∧ X 78 14 [l0, l1, l2, l3, l4, l5, .int x, l7] st h Q := X_sto (kk := 6) (pc' := 14) (w := .int x) mC_78 dX6_spread_12 rfl (Nat.le_of_ble_eq_true rfl) rfl
theorem x78_14 {l0 l1 l2 l3 l4 l5 l7 : Value} {x : Int32} : X 78 14 [l0, l1, l2, l3, l4, l5, .int x, l7] st h Q ↔ X 78 16 [l0, l1, l2, l3, l4, l5, .int x, l7] (.int x :: st) h Q := X_n mC_78 dX6_spread_14 rfl
theorem x78_16 {l1 l2 l3 l4 l5 l6 l7 : Value} {x : Nat} : X 78 16 [.ref x, l1, l2, l3, l4, l5, l6, l7] st h Q ↔ X 78 17 [.ref x, l1, l2, l3, l4, l5, l6, l7] (.ref x :: st) h Q := X_n mC_78 dX6_spread_16 rfl
theorem x78_17 {a : Nat} : X 78 17 L (.ref a :: st) h Q ↔ hS h a = (1, 6) ∧ X 78 20 L (.int (hI h a 1) :: st) h Q := X_getI mC_78 dX6_spread_17 (by decide +kernel)
theorem x78_20 {x y : Int32} : X 78 20 L (.int y :: .int x :: st) h Q ↔ if x < y then X 78 23 L st h Q else X 78 94 L st h Q := X_ige mC_78 dX6_spread_20 (by decide)
theorem x78_23 {l0 l1 l2 l3 l4 l5 l7 : Value} {x : Int32} : X 78 23 [l0, l1, l2, l3, l4, l5, .int x, l7] st h Q ↔ X 78 25 [l0, l1, l2, l3, l4, l5, .int x, l7] (.int x :: st) h Q := X_n mC_78 dX6_spread_23 rfl
theorem x78_25 {l0 l1 l3 l4 l5 l6 l7 : Value} {x : Nat} : X 78 25 [l0, l1, .ref x, l3, l4, l5, l6, l7] st h Q ↔ X 78 26 [l0, l1, .ref x, l3, l4, l5, l6, l7] (.ref x :: st) h Q := X_n mC_78 dX6_spread_25 rfl
theorem x78_26 {a : Nat} : X 78 26 L (.ref a :: st) h Q ↔ ((hS h a).1 = 2 ∨ (hS h a).1 = 3 ∨ (hS h a).1 = 4) ∧ X 78 27 L (.int (Int32.ofNat (hS h a).2) :: st) h Q := X_alen mC_78 dX6_spread_26
theorem x78_27 {x y : Int32} : X 78 27 L (.int y :: .int x :: st) h Q ↔ if x < y then X 78 30 L st h Q else X 78 94 L st h Q := X_ige mC_78 dX6_spread_27 (by decide)
theorem x78_30 {l1 l2 l3 l4 l5 l6 l7 : Value} {x : Nat} : X 78 30 [.ref x, l1, l2, l3, l4, l5, l6, l7] st h Q ↔ X 78 31 [.ref x, l1, l2, l3, l4, l5, l6, l7] (.ref x :: st) h Q := X_n mC_78 dX6_spread_30 rfl
theorem x78_31 {a : Nat} : X 78 31 L (.ref a :: st) h Q ↔ hS h a = (1, 6) ∧ X 78 34 L (.int (hI h a 0) :: st) h Q := X_getI mC_78 dX6_spread_31 (by decide +kernel)
theorem x78_34 {l0 l1 l2 l3 l4 l5 l7 : Value} {x : Int32} : X 78 34 [l0, l1, l2, l3, l4, l5, .int x, l7] st h Q ↔ X 78 36 [l0, l1, l2, l3, l4, l5, .int x, l7] (.int x :: st) h Q := X_n mC_78 dX6_spread_34 rfl
theorem x78_36 {x y : Int32} : X 78 36 L (.int y :: .int x :: st) h Q ↔ X 78 37 L (.int (x - y) :: st) h Q := X_n mC_78 dX6_spread_36 rfl
theorem x78_37 {l0 l1 l2 l3 l4 l5 l6 l7 : Value} {x : Int32} : X 78 37 [l0, l1, l2, l3, l4, l5, l6, l7] (.int x :: st) h Q ↔ c1 l6 = true ∧ X 78 39 [l0, l1, l2, l3, l4, l5, l6, .int x] st h Q := X_sto (kk := 7) (pc' := 39) (w := .int x) mC_78 dX6_spread_37 rfl (Nat.le_of_ble_eq_true rfl) rfl
theorem x78_39 {l0 l1 l2 l3 l4 l5 l6 : Value} {x : Int32} : X 78 39 [l0, l1, l2, l3, l4, l5, l6, .int x] st h Q ↔ X 78 41 [l0, l1, l2, l3, l4, l5, l6, .int x] (.int x :: st) h Q := X_n mC_78 dX6_spread_39 rfl
theorem x78_41 : X 78 41 L st h Q ↔ X 78 42 L (.int 1 :: st) h Q := X_n mC_78 dX6_spread_41 rfl
theorem x78_42 {x y : Int32} : X 78 42 L (.int y :: .int x :: st) h Q ↔ if x < y then X 78 51 L st h Q else X 78 45 L st h Q := X_ilt mC_78 dX6_spread_42 (by decide)
theorem x78_45 {l0 l1 l2 l4 l5 l6 l7 : Value} {x : Int32} : X 78 45 [l0, l1, l2, .int x, l4, l5, l6, l7] st h Q ↔ X 78 46 [l0, l1, l2, .int x, l4, l5, l6, l7] (.int x :: st) h Q := X_n mC_78 dX6_spread_45 rfl
theorem x78_46 {l0 l1 l2 l3 l4 l5 l6 : Value} {x : Int32} : X 78 46 [l0, l1, l2, l3, l4, l5, l6, .int x] st h Q ↔ X 78 48 [l0, l1, l2, l3, l4, l5, l6, .int x] (.int x :: st) h Q := X_n mC_78 dX6_spread_46 rfl
theorem x78_48 {x y : Int32} : X 78 48 L (.int y :: .int x :: st) h Q ↔ if x < y then X 78 51 L st h Q else X 78 52 L st h Q := X_ige mC_78 dX6_spread_48 (by decide)
theorem x78_51 : X 78 51 L [] h Q ↔ Q none h := X_retV mC_78 dX6_spread_51 (by decide +kernel)
theorem x78_52 {l0 l1 l2 l4 l5 l6 l7 : Value} {x : Int32} : X 78 52 [l0, l1, l2, .int x, l4, l5, l6, l7] st h Q ↔ X 78 53 [l0, l1, l2, .int x, l4, l5, l6, l7] (.int x :: st) h Q := X_n mC_78 dX6_spread_52 rfl
theorem x78_53 {l0 l1 l2 l3 l4 l5 l6 : Value} {x : Int32} : X 78 53 [l0, l1, l2, l3, l4, l5, l6, .int x] st h Q ↔ X 78 55 [l0, l1, l2, l3, l4, l5, l6, .int x] (.int x :: st) h Q := X_n mC_78 dX6_spread_53 rfl
theorem x78_55 {x y : Int32} : X 78 55 L (.int y :: .int x :: st) h Q ↔ (¬ y = 0) ∧ X 78 56 L (.int (x / y) :: st) h Q := X_gd mC_78 dX6_spread_55 rfl
theorem x78_56 {l0 l1 l2 l3 l4 l5 l6 l7 : Value} {x : Int32} : X 78 56 [l0, l1, l2, l3, l4, l5, l6, l7] (.int x :: st) h Q ↔ c1 l2 = true ∧ X 78 57 [l0, l1, l2, .int x, l4, l5, l6, l7] st h Q := X_sto (kk := 3) (pc' := 57) (w := .int x) mC_78 dX6_spread_56 rfl (Nat.le_of_ble_eq_true rfl) rfl
theorem x78_57 {l0 l1 l3 l4 l5 l6 l7 : Value} {x : Nat} : X 78 57 [l0, l1, .ref x, l3, l4, l5, l6, l7] st h Q ↔ X 78 58 [l0, l1, .ref x, l3, l4, l5, l6, l7] (.ref x :: st) h Q := X_n mC_78 dX6_spread_57 rfl
theorem x78_58 {l0 l1 l2 l3 l4 l5 l7 : Value} {x : Int32} : X 78 58 [l0, l1, l2, l3, l4, l5, .int x, l7] st h Q ↔ X 78 60 [l0, l1, l2, l3, l4, l5, .int x, l7] (.int x :: st) h Q := X_n mC_78 dX6_spread_58 rfl
theorem x78_60 {l1 l2 l3 l4 l5 l6 l7 : Value} {x : Nat} : X 78 60 [.ref x, l1, l2, l3, l4, l5, l6, l7] st h Q ↔ X 78 61 [.ref x, l1, l2, l3, l4, l5, l6, l7] (.ref x :: st) h Q := X_n mC_78 dX6_spread_60 rfl
theorem x78_61 {l0 l1 l2 l3 l4 l6 l7 : Value} {x : Int32} : X 78 61 [l0, l1, l2, l3, l4, .int x, l6, l7] st h Q ↔ X 78 63 [l0, l1, l2, l3, l4, .int x, l6, l7] (.int x :: st) h Q := X_n mC_78 dX6_spread_61 rfl
theorem x78_63 {l0 l1 l2 l3 l5 l6 l7 : Value} {x : Int32} : X 78 63 [l0, l1, l2, l3, .int x, l5, l6, l7] st h Q ↔ X 78 65 [l0, l1, l2, l3, .int x, l5, l6, l7] (.int x :: st) h Q := X_n mC_78 dX6_spread_63 rfl
theorem x78_65 {l0 l1 l2 l4 l5 l6 l7 : Value} {x : Int32} : X 78 65 [l0, l1, l2, .int x, l4, l5, l6, l7] st h Q ↔ X 78 66 [l0, l1, l2, .int x, l4, l5, l6, l7] (.int x :: st) h Q := X_n mC_78 dX6_spread_65 rfl
theorem x78_66 {x y : Int32} : X 78 66 L (.int y :: .int x :: st) h Q ↔ (¬ y = 0) ∧ X 78 67 L (.int (x / y) :: st) h Q := X_gd mC_78 dX6_spread_66 rfl
theorem x78_67 {b : Nat} {a0 : Int32} {a1 : Int32} {w0 w1 : Value} : X 78 67 L [.int a1, .int a0, .ref b, w0, w1] h Q ↔ hS h b = (1, 6) ∧ X 79 0 [.ref b, .int a0, .int a1, .null, .null] [] h (fun r h' => X 78 70 L (pv r [w0, w1]) h' Q) := X_virt (as := [.int a0, .int a1]) (n := 2) (ml := 5) (ck := 6) mC_78 dX6_spread_67 (by unfold cOk; decide +kernel) ⟨rfl, rfl, by decide, Nat.le_of_ble_eq_true rfl⟩
theorem x78_70 {j x : Int32} {a : Nat} : X 78 70 L (.int x :: .int j :: .ref a :: st) h Q ↔ ibw j (hS h a) ∧ X 78 71 L st (sI h a j.toNatClampNeg x) Q := X_iast mC_78 dX6_spread_70
theorem x78_71 {l0 l1 l2 l3 l4 l6 l7 : Value} {x : Int32} : X 78 71 [l0, l1, l2, l3, l4, .int x, l6, l7] st h Q ↔ X 78 73 [l0, l1, l2, l3, l4, .int x, l6, l7] (.int x :: st) h Q := X_n mC_78 dX6_spread_71 rfl
theorem x78_73 : X 78 73 L st h Q ↔ X 78 74 L (.int 1 :: st) h Q := X_n mC_78 dX6_spread_73 rfl
theorem x78_74 {l0 l1 l3 l4 l5 l6 l7 : Value} {x : Nat} : X 78 74 [l0, l1, .ref x, l3, l4, l5, l6, l7] st h Q ↔ X 78 75 [l0, l1, .ref x, l3, l4, l5, l6, l7] (.ref x :: st) h Q := X_n mC_78 dX6_spread_74 rfl
theorem x78_75 {l0 l1 l2 l3 l4 l5 l7 : Value} {x : Int32} : X 78 75 [l0, l1, l2, l3, l4, l5, .int x, l7] st h Q ↔ X 78 77 [l0, l1, l2, l3, l4, l5, .int x, l7] (.int x :: st) h Q := X_n mC_78 dX6_spread_75 rfl
theorem x78_77 {j : Int32} {a : Nat} : X 78 77 L (.int j :: .ref a :: st) h Q ↔ ib j (hS h a) ∧ X 78 78 L (.int (hI h a j.toNatClampNeg) :: st) h Q := X_iald mC_78 dX6_spread_77
theorem x78_78 {x y : Int32} : X 78 78 L (.int y :: .int x :: st) h Q ↔ X 78 79 L (.int (x <<< (y &&& 31)) :: st) h Q := X_n mC_78 dX6_spread_78 rfl
theorem x78_79 {x y : Int32} : X 78 79 L (.int y :: .int x :: st) h Q ↔ X 78 80 L (.int (x ||| y) :: st) h Q := X_n mC_78 dX6_spread_79 rfl
theorem x78_80 {l0 l1 l2 l3 l4 l5 l6 l7 : Value} {x : Int32} : X 78 80 [l0, l1, l2, l3, l4, l5, l6, l7] (.int x :: st) h Q ↔ c1 l4 = true ∧ X 78 82 [l0, l1, l2, l3, l4, .int x, l6, l7] st h Q := X_sto (kk := 5) (pc' := 82) (w := .int x) mC_78 dX6_spread_80 rfl (Nat.le_of_ble_eq_true rfl) rfl
theorem x78_82 {l0 l1 l2 l3 l5 l6 l7 : Value} {x : Int32} : X 78 82 [l0, l1, l2, l3, .int x, l5, l6, l7] st h Q ↔ X 78 84 [l0, l1, l2, l3, .int x, l5, l6, l7] (.int x :: st) h Q := X_n mC_78 dX6_spread_82 rfl
theorem x78_84 {l0 l1 l2 l4 l5 l6 l7 : Value} {x : Int32} : X 78 84 [l0, l1, l2, .int x, l4, l5, l6, l7] st h Q ↔ X 78 85 [l0, l1, l2, .int x, l4, l5, l6, l7] (.int x :: st) h Q := X_n mC_78 dX6_spread_84 rfl
theorem x78_85 {x y : Int32} : X 78 85 L (.int y :: .int x :: st) h Q ↔ (¬ y = 0) ∧ X 78 86 L (.int (x - x / y * y) :: st) h Q := X_gd mC_78 dX6_spread_85 rfl
theorem x78_86 {l0 l1 l2 l3 l4 l5 l6 l7 : Value} {x : Int32} : X 78 86 [l0, l1, l2, l3, l4, l5, l6, l7] (.int x :: st) h Q ↔ c1 l3 = true ∧ X 78 88 [l0, l1, l2, l3, .int x, l5, l6, l7] st h Q := X_sto (kk := 4) (pc' := 88) (w := .int x) mC_78 dX6_spread_86 rfl (Nat.le_of_ble_eq_true rfl) rfl
theorem x78_88 {l0 l1 l2 l3 l4 l5 l7 : Value} {x : Int32} : X 78 88 [l0, l1, l2, l3, l4, l5, .int x, l7] st h Q ↔ c1 l5 = true ∧ X 78 91 [l0, l1, l2, l3, l4, l5, .int (x + 1), l7] st h Q := X_inc (pc' := 91) (x := x) mC_78 dX6_spread_88 rfl rfl rfl
theorem x78_91 : X 78 91 L st h Q ↔ X 78 14 L st h Q := X_goto mC_78 dX6_spread_91 (by decide)
theorem x78_94 : X 78 94 L [] h Q ↔ Q none h := X_retV mC_78 dX6_spread_94 (by decide +kernel)
theorem mC_79 : mC 79 = cX6_freeBed := rfl
theorem x79_0 {l0 l1 l3 l4 : Value} {x : Int32} : X 79 0 [l0, l1, .int x, l3, l4] st h Q ↔ X 79 1 [l0, l1, .int x, l3, l4] (.int x :: st) h Q := X_n mC_79 dX6_freeBed_0 rfl
theorem x79_1 {l0 l1 l2 l3 l4 : Value} {x : Int32} : X 79 1 [l0, l1, l2, l3, l4] (.int x :: st) h Q ↔ c1 l2 = true ∧ X 79 2 [l0, l1, l2, .int x, l4] st h Q := X_sto (kk := 3) (pc' := 2) (w := .int x) mC_79 dX6_freeBed_1 rfl (Nat.le_of_ble_eq_true rfl) rfl
theorem x79_2 : X 79 2 L st h Q ↔ X 79 3 L (.int 0 :: st) h Q := X_n mC_79 dX6_freeBed_2 rfl
theorem x79_3 {l0 l1 l2 l3 l4 : Value} {x : Int32} : X 79 3 [l0, l1, l2, l3, l4] (.int x :: st) h Q ↔ c1 l3 = true ∧ X 79 5 [l0, l1, l2, l3, .int x] st h Q := X_sto (kk := 4) (pc' := 5) (w := .int x) mC_79 dX6_freeBed_3 rfl (Nat.le_of_ble_eq_true rfl) rfl
theorem x79_5 {l0 l1 l2 l3 : Value} {x : Int32} : X 79 5 [l0, l1, l2, l3, .int x] st h Q ↔ X 79 7 [l0, l1, l2, l3, .int x] (.int x :: st) h Q := X_n mC_79 dX6_freeBed_5 rfl
theorem x79_7 {l1 l2 l3 l4 : Value} {x : Nat} : X 79 7 [.ref x, l1, l2, l3, l4] st h Q ↔ X 79 8 [.ref x, l1, l2, l3, l4] (.ref x :: st) h Q := X_n mC_79 dX6_freeBed_7 rfl
theorem x79_8 {a : Nat} : X 79 8 L (.ref a :: st) h Q ↔ hS h a = (1, 6) ∧ X 79 11 L (.int (hI h a 0) :: st) h Q := X_getI mC_79 dX6_freeBed_8 (by decide +kernel)
theorem x79_11 {x y : Int32} : X 79 11 L (.int y :: .int x :: st) h Q ↔ if x < y then X 79 14 L st h Q else X 79 39 L st h Q := X_ige mC_79 dX6_freeBed_11 (by decide)
theorem x79_14 {l0 l2 l3 l4 : Value} {x : Int32} : X 79 14 [l0, .int x, l2, l3, l4] st h Q ↔ X 79 15 [l0, .int x, l2, l3, l4] (.int x :: st) h Q := X_n mC_79 dX6_freeBed_14 rfl
theorem x79_15 {l0 l1 l2 l3 : Value} {x : Int32} : X 79 15 [l0, l1, l2, l3, .int x] st h Q ↔ X 79 17 [l0, l1, l2, l3, .int x] (.int x :: st) h Q := X_n mC_79 dX6_freeBed_15 rfl
theorem x79_17 {x y : Int32} : X 79 17 L (.int y :: .int x :: st) h Q ↔ X 79 18 L (.int (x >>> (y &&& 31)) :: st) h Q := X_n mC_79 dX6_freeBed_17 rfl
theorem x79_18 : X 79 18 L st h Q ↔ X 79 19 L (.int 1 :: st) h Q := X_n mC_79 dX6_freeBed_18 rfl
theorem x79_19 {x y : Int32} : X 79 19 L (.int y :: .int x :: st) h Q ↔ X 79 20 L (.int (x &&& y) :: st) h Q := X_n mC_79 dX6_freeBed_19 rfl
theorem x79_20 {x : Int32} : X 79 20 L (.int x :: st) h Q ↔ if x = 0 then X 79 23 L st h Q else X 79 33 L st h Q := X_zne mC_79 dX6_freeBed_20 (by decide)
theorem x79_23 {l0 l1 l2 l4 : Value} {x : Int32} : X 79 23 [l0, l1, l2, .int x, l4] st h Q ↔ X 79 24 [l0, l1, l2, .int x, l4] (.int x :: st) h Q := X_n mC_79 dX6_freeBed_23 rfl
theorem x79_24 {x : Int32} : X 79 24 L (.int x :: st) h Q ↔ if x = 0 then X 79 27 L st h Q else X 79 30 L st h Q := X_zne mC_79 dX6_freeBed_24 (by decide)
theorem x79_27 {l0 l1 l2 l3 : Value} {x : Int32} : X 79 27 [l0, l1, l2, l3, .int x] st h Q ↔ X 79 29 [l0, l1, l2, l3, .int x] (.int x :: st) h Q := X_n mC_79 dX6_freeBed_27 rfl
theorem x79_29 {v : Int32} : X 79 29 L [.int v] h Q ↔ Q (some (.int v)) h := X_ret mC_79 dX6_freeBed_29 (by decide +kernel)
theorem x79_30 {l0 l1 l2 l4 : Value} {x : Int32} : X 79 30 [l0, l1, l2, .int x, l4] st h Q ↔ c1 l2 = true ∧ X 79 33 [l0, l1, l2, .int (x + (-1)), l4] st h Q := X_inc (pc' := 33) (x := x) mC_79 dX6_freeBed_30 rfl rfl rfl
theorem x79_33 {l0 l1 l2 l3 : Value} {x : Int32} : X 79 33 [l0, l1, l2, l3, .int x] st h Q ↔ c1 l3 = true ∧ X 79 36 [l0, l1, l2, l3, .int (x + 1)] st h Q := X_inc (pc' := 36) (x := x) mC_79 dX6_freeBed_33 rfl rfl rfl
theorem x79_36 : X 79 36 L st h Q ↔ X 79 5 L st h Q := X_goto mC_79 dX6_freeBed_36 (by decide)
theorem x79_39 : X 79 39 L st h Q ↔ X 79 40 L (.int 0 :: st) h Q := X_n mC_79 dX6_freeBed_39 rfl
theorem x79_40 {v : Int32} : X 79 40 L [.int v] h Q ↔ Q (some (.int v)) h := X_ret mC_79 dX6_freeBed_40 (by decide +kernel)
theorem mC_179 : mC 179 = cJ6_bitCount_0f7a4 := rfl
theorem x179_0 {x : Int32} : X 179 0 [.int x] st h Q ↔ X 179 1 [.int x] (.int x :: st) h Q := X_n mC_179 dJ6_bitCount_0f7a4_0 rfl
theorem x179_1 {x : Int32} : X 179 1 [.int x] st h Q ↔ X 179 2 [.int x] (.int x :: st) h Q := X_n mC_179 dJ6_bitCount_0f7a4_1 rfl
theorem x179_2 : X 179 2 L st h Q ↔ X 179 3 L (.int 1 :: st) h Q := X_n mC_179 dJ6_bitCount_0f7a4_2 rfl
theorem x179_3 {x y : Int32} : X 179 3 L (.int y :: .int x :: st) h Q ↔ X 179 4 L (.int ((x.toUInt32 >>> (y.toUInt32 &&& Int32.toUInt32 31)).toInt32) :: st) h Q := X_n mC_179 dJ6_bitCount_0f7a4_3 rfl
theorem x179_4 : X 179 4 L st h Q ↔ X 179 7 L (.int 1431655765 :: st) h Q := X_ldcw mC_179 dJ6_bitCount_0f7a4_4 (by decide +kernel)
theorem x179_7 {x y : Int32} : X 179 7 L (.int y :: .int x :: st) h Q ↔ X 179 8 L (.int (x &&& y) :: st) h Q := X_n mC_179 dJ6_bitCount_0f7a4_7 rfl
theorem x179_8 {x y : Int32} : X 179 8 L (.int y :: .int x :: st) h Q ↔ X 179 9 L (.int (x - y) :: st) h Q := X_n mC_179 dJ6_bitCount_0f7a4_8 rfl
theorem x179_9 {l0 : Value} {x : Int32} : X 179 9 [l0] (.int x :: st) h Q ↔ X 179 10 [.int x] st h Q := X_n mC_179 dJ6_bitCount_0f7a4_9 rfl
theorem x179_10 {x : Int32} : X 179 10 [.int x] st h Q ↔ X 179 11 [.int x] (.int x :: st) h Q := X_n mC_179 dJ6_bitCount_0f7a4_10 rfl
theorem x179_11 : X 179 11 L st h Q ↔ X 179 14 L (.int 858993459 :: st) h Q := X_ldcw mC_179 dJ6_bitCount_0f7a4_11 (by decide +kernel)
theorem x179_14 {x y : Int32} : X 179 14 L (.int y :: .int x :: st) h Q ↔ X 179 15 L (.int (x &&& y) :: st) h Q := X_n mC_179 dJ6_bitCount_0f7a4_14 rfl
theorem x179_15 {x : Int32} : X 179 15 [.int x] st h Q ↔ X 179 16 [.int x] (.int x :: st) h Q := X_n mC_179 dJ6_bitCount_0f7a4_15 rfl
theorem x179_16 : X 179 16 L st h Q ↔ X 179 17 L (.int 2 :: st) h Q := X_n mC_179 dJ6_bitCount_0f7a4_16 rfl
theorem x179_17 {x y : Int32} : X 179 17 L (.int y :: .int x :: st) h Q ↔ X 179 18 L (.int ((x.toUInt32 >>> (y.toUInt32 &&& Int32.toUInt32 31)).toInt32) :: st) h Q := X_n mC_179 dJ6_bitCount_0f7a4_17 rfl
theorem x179_18 : X 179 18 L st h Q ↔ X 179 21 L (.int 858993459 :: st) h Q := X_ldcw mC_179 dJ6_bitCount_0f7a4_18 (by decide +kernel)
theorem x179_21 {x y : Int32} : X 179 21 L (.int y :: .int x :: st) h Q ↔ X 179 22 L (.int (x &&& y) :: st) h Q := X_n mC_179 dJ6_bitCount_0f7a4_21 rfl
theorem x179_22 {x y : Int32} : X 179 22 L (.int y :: .int x :: st) h Q ↔ X 179 23 L (.int (x + y) :: st) h Q := X_n mC_179 dJ6_bitCount_0f7a4_22 rfl
theorem x179_23 {l0 : Value} {x : Int32} : X 179 23 [l0] (.int x :: st) h Q ↔ X 179 24 [.int x] st h Q := X_n mC_179 dJ6_bitCount_0f7a4_23 rfl
theorem x179_24 {x : Int32} : X 179 24 [.int x] st h Q ↔ X 179 25 [.int x] (.int x :: st) h Q := X_n mC_179 dJ6_bitCount_0f7a4_24 rfl
theorem x179_25 {x : Int32} : X 179 25 [.int x] st h Q ↔ X 179 26 [.int x] (.int x :: st) h Q := X_n mC_179 dJ6_bitCount_0f7a4_25 rfl
theorem x179_26 : X 179 26 L st h Q ↔ X 179 27 L (.int 4 :: st) h Q := X_n mC_179 dJ6_bitCount_0f7a4_26 rfl
theorem x179_27 {x y : Int32} : X 179 27 L (.int y :: .int x :: st) h Q ↔ X 179 28 L (.int ((x.toUInt32 >>> (y.toUInt32 &&& Int32.toUInt32 31)).toInt32) :: st) h Q := X_n mC_179 dJ6_bitCount_0f7a4_27 rfl
theorem x179_28 {x y : Int32} : X 179 28 L (.int y :: .int x :: st) h Q ↔ X 179 29 L (.int (x + y) :: st) h Q := X_n mC_179 dJ6_bitCount_0f7a4_28 rfl
theorem x179_29 : X 179 29 L st h Q ↔ X 179 32 L (.int 252645135 :: st) h Q := X_ldcw mC_179 dJ6_bitCount_0f7a4_29 (by decide +kernel)
theorem x179_32 {x y : Int32} : X 179 32 L (.int y :: .int x :: st) h Q ↔ X 179 33 L (.int (x &&& y) :: st) h Q := X_n mC_179 dJ6_bitCount_0f7a4_32 rfl
theorem x179_33 {l0 : Value} {x : Int32} : X 179 33 [l0] (.int x :: st) h Q ↔ X 179 34 [.int x] st h Q := X_n mC_179 dJ6_bitCount_0f7a4_33 rfl
theorem x179_34 {x : Int32} : X 179 34 [.int x] st h Q ↔ X 179 35 [.int x] (.int x :: st) h Q := X_n mC_179 dJ6_bitCount_0f7a4_34 rfl
theorem x179_35 {x : Int32} : X 179 35 [.int x] st h Q ↔ X 179 36 [.int x] (.int x :: st) h Q := X_n mC_179 dJ6_bitCount_0f7a4_35 rfl
theorem x179_36 : X 179 36 L st h Q ↔ X 179 38 L (.int 8 :: st) h Q := X_n mC_179 dJ6_bitCount_0f7a4_36 rfl
theorem x179_38 {x y : Int32} : X 179 38 L (.int y :: .int x :: st) h Q ↔ X 179 39 L (.int ((x.toUInt32 >>> (y.toUInt32 &&& Int32.toUInt32 31)).toInt32) :: st) h Q := X_n mC_179 dJ6_bitCount_0f7a4_38 rfl
theorem x179_39 {x y : Int32} : X 179 39 L (.int y :: .int x :: st) h Q ↔ X 179 40 L (.int (x + y) :: st) h Q := X_n mC_179 dJ6_bitCount_0f7a4_39 rfl
theorem x179_40 {l0 : Value} {x : Int32} : X 179 40 [l0] (.int x :: st) h Q ↔ X 179 41 [.int x] st h Q := X_n mC_179 dJ6_bitCount_0f7a4_40 rfl
theorem x179_41 {x : Int32} : X 179 41 [.int x] st h Q ↔ X 179 42 [.int x] (.int x :: st) h Q := X_n mC_179 dJ6_bitCount_0f7a4_41 rfl
theorem x179_42 {x : Int32} : X 179 42 [.int x] st h Q ↔ X 179 43 [.int x] (.int x :: st) h Q := X_n mC_179 dJ6_bitCount_0f7a4_42 rfl
theorem x179_43 : X 179 43 L st h Q ↔ X 179 45 L (.int 16 :: st) h Q := X_n mC_179 dJ6_bitCount_0f7a4_43 rfl
theorem x179_45 {x y : Int32} : X 179 45 L (.int y :: .int x :: st) h Q ↔ X 179 46 L (.int ((x.toUInt32 >>> (y.toUInt32 &&& Int32.toUInt32 31)).toInt32) :: st) h Q := X_n mC_179 dJ6_bitCount_0f7a4_45 rfl
theorem x179_46 {x y : Int32} : X 179 46 L (.int y :: .int x :: st) h Q ↔ X 179 47 L (.int (x + y) :: st) h Q := X_n mC_179 dJ6_bitCount_0f7a4_46 rfl
theorem x179_47 {l0 : Value} {x : Int32} : X 179 47 [l0] (.int x :: st) h Q ↔ X 179 48 [.int x] st h Q := X_n mC_179 dJ6_bitCount_0f7a4_47 rfl
theorem x179_48 {x : Int32} : X 179 48 [.int x] st h Q ↔ X 179 49 [.int x] (.int x :: st) h Q := X_n mC_179 dJ6_bitCount_0f7a4_48 rfl
theorem x179_49 : X 179 49 L st h Q ↔ X 179 51 L (.int 63 :: st) h Q := X_n mC_179 dJ6_bitCount_0f7a4_49 rfl
theorem x179_51 {x y : Int32} : X 179 51 L (.int y :: .int x :: st) h Q ↔ X 179 52 L (.int (x &&& y) :: st) h Q := X_n mC_179 dJ6_bitCount_0f7a4_51 rfl
theorem x179_52 {v : Int32} : X 179 52 L [.int v] h Q ↔ Q (some (.int v)) h := X_ret mC_179 dJ6_bitCount_0f7a4_52 (by decide +kernel)
theorem mC_180 : mC 180 = cJ7_fill_53178 := rfl
theorem x180_0 : X 180 0 L st h Q ↔ X 180 1 L (.int 0 :: st) h Q := X_n mC_180 dJ7_fill_53178_0 rfl
theorem x180_1 {l0 l1 l2 l3 : Value} {x : Int32} : X 180 1 [l0, l1, l2, l3] (.int x :: st) h Q ↔ c1 l1 = true ∧ X 180 2 [l0, l1, .int x, l3] st h Q := X_sto (kk := 2) (pc' := 2) (w := .int x) mC_180 dJ7_fill_53178_1 rfl (Nat.le_of_ble_eq_true rfl) rfl
theorem x180_2 {l1 l2 l3 : Value} {x : Nat} : X 180 2 [.ref x, l1, l2, l3] st h Q ↔ X 180 3 [.ref x, l1, l2, l3] (.ref x :: st) h Q := X_n mC_180 dJ7_fill_53178_2 rfl
theorem x180_3 {a : Nat} : X 180 3 L (.ref a :: st) h Q ↔ ((hS h a).1 = 2 ∨ (hS h a).1 = 3 ∨ (hS h a).1 = 4) ∧ X 180 4 L (.int (Int32.ofNat (hS h a).2) :: st) h Q := X_alen mC_180 dJ7_fill_53178_3
theorem x180_4 {l0 l1 l2 l3 : Value} {x : Int32} : X 180 4 [l0, l1, l2, l3] (.int x :: st) h Q ↔ c1 l2 = true ∧ X 180 5 [l0, l1, l2, .int x] st h Q := X_sto (kk := 3) (pc' := 5) (w := .int x) mC_180 dJ7_fill_53178_4 rfl (Nat.le_of_ble_eq_true rfl) rfl
theorem x180_5 {l0 l1 l3 : Value} {x : Int32} : X 180 5 [l0, l1, .int x, l3] st h Q ↔ X 180 6 [l0, l1, .int x, l3] (.int x :: st) h Q := X_n mC_180 dJ7_fill_53178_5 rfl
theorem x180_6 {l0 l1 l2 : Value} {x : Int32} : X 180 6 [l0, l1, l2, .int x] st h Q ↔ X 180 7 [l0, l1, l2, .int x] (.int x :: st) h Q := X_n mC_180 dJ7_fill_53178_6 rfl
theorem x180_7 {x y : Int32} : X 180 7 L (.int y :: .int x :: st) h Q ↔ if x < y then X 180 10 L st h Q else X 180 20 L st h Q := X_ige mC_180 dJ7_fill_53178_7 (by decide)
theorem x180_10 {l1 l2 l3 : Value} {x : Nat} : X 180 10 [.ref x, l1, l2, l3] st h Q ↔ X 180 11 [.ref x, l1, l2, l3] (.ref x :: st) h Q := X_n mC_180 dJ7_fill_53178_10 rfl
theorem x180_11 {l0 l1 l3 : Value} {x : Int32} : X 180 11 [l0, l1, .int x, l3] st h Q ↔ X 180 12 [l0, l1, .int x, l3] (.int x :: st) h Q := X_n mC_180 dJ7_fill_53178_11 rfl
theorem x180_12 {l0 l2 l3 : Value} {x : Int32} : X 180 12 [l0, .int x, l2, l3] st h Q ↔ X 180 13 [l0, .int x, l2, l3] (.int x :: st) h Q := X_n mC_180 dJ7_fill_53178_12 rfl
theorem x180_13 {j x : Int32} {a : Nat} : X 180 13 L (.int x :: .int j :: .ref a :: st) h Q ↔ ibw j (hS h a) ∧ X 180 14 L st (sI h a j.toNatClampNeg x) Q := X_iast mC_180 dJ7_fill_53178_13
theorem x180_14 {l0 l1 l3 : Value} {x : Int32} : X 180 14 [l0, l1, .int x, l3] st h Q ↔ c1 l1 = true ∧ X 180 17 [l0, l1, .int (x + 1), l3] st h Q := X_inc (pc' := 17) (x := x) mC_180 dJ7_fill_53178_14 rfl rfl rfl
theorem x180_17 : X 180 17 L st h Q ↔ X 180 5 L st h Q := X_goto mC_180 dJ7_fill_53178_17 (by decide)
theorem x180_20 : X 180 20 L [] h Q ↔ Q none h := X_retV mC_180 dJ7_fill_53178_20 (by decide +kernel)
end XS
