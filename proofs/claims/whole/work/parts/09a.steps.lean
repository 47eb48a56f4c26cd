section XS
variable {L st : List Value} {h : aH} {Q : Option Value → aH → Prop}
theorem mC_0 : mC 0 = cX0_init := rfl
theorem x0_0 {x : Nat} : X 0 0 [.ref x] st h Q ↔ X 0 1 [.ref x] (.ref x :: st) h Q := X_n mC_0 dX0_init_0 rfl
theorem x0_1 {a : Nat} : X 0 1 L [.ref a] h Q ↔ X 0 4 L [] h Q := X_obj (n := 0) mC_0 dX0_init_1 (by decide +kernel) (Nat.le_of_ble_eq_true rfl)
theorem x0_4 {x : Nat} : X 0 4 [.ref x] st h Q ↔ X 0 5 [.ref x] (.ref x :: st) h Q := X_n mC_0 dX0_init_4 rfl
theorem x0_5 : X 0 5 L st h Q ↔ X 0 6 L (.int 5 :: st) h Q := X_n mC_0 dX0_init_5 rfl
theorem x0_6 {x : Int32} : X 0 6 L (.int x :: st) h Q ↔ (¬ x < 0 ∧ x < 100000) ∧ X 0 8 L (.ref (hN h) :: st) (nw h x.toNatClampNeg (2, x.toNatClampNeg)) Q := X_newI mC_0 dX0_init_6
theorem x0_8 {a v : Nat} : X 0 8 L (.ref v :: .ref a :: st) h Q ↔ (hS h a = (1, 0) ∧ v ≠ 0) ∧ X 0 11 L st (sR h a 0 v) Q := X_putR mC_0 dX0_init_8 (by decide +kernel)
theorem x0_11 {x : Nat} : X 0 11 [.ref x] st h Q ↔ X 0 12 [.ref x] (.ref x :: st) h Q := X_n mC_0 dX0_init_11 rfl
theorem x0_12 : X 0 12 L st h Q ↔ X 0 13 L (.int 5 :: st) h Q := X_n mC_0 dX0_init_12 rfl
theorem x0_13 {x : Int32} : X 0 13 L (.int x :: st) h Q ↔ (¬ x < 0 ∧ x < 100000) ∧ X 0 15 L (.ref (hN h) :: st) (nw h x.toNatClampNeg (2, x.toNatClampNeg)) Q := X_newI mC_0 dX0_init_13
theorem x0_15 {a v : Nat} : X 0 15 L (.ref v :: .ref a :: st) h Q ↔ (hS h a = (1, 0) ∧ v ≠ 0) ∧ X 0 18 L st (sR h a 1 v) Q := X_putR mC_0 dX0_init_15 (by decide +kernel)
theorem x0_18 {x : Nat} : X 0 18 [.ref x] st h Q ↔ X 0 19 [.ref x] (.ref x :: st) h Q := X_n mC_0 dX0_init_18 rfl
theorem x0_19 : X 0 19 L st h Q ↔ X 0 20 L (.int 5 :: st) h Q := X_n mC_0 dX0_init_19 rfl
theorem x0_20 {x : Int32} : X 0 20 L (.int x :: st) h Q ↔ (¬ x < 0 ∧ x < 100000) ∧ X 0 22 L (.ref (hN h) :: st) (nw h x.toNatClampNeg (2, x.toNatClampNeg)) Q := X_newI mC_0 dX0_init_20
theorem x0_22 {a v : Nat} : X 0 22 L (.ref v :: .ref a :: st) h Q ↔ (hS h a = (1, 0) ∧ v ≠ 0) ∧ X 0 25 L st (sR h a 2 v) Q := X_putR mC_0 dX0_init_22 (by decide +kernel)
theorem x0_25 {x : Nat} : X 0 25 [.ref x] st h Q ↔ X 0 26 [.ref x] (.ref x :: st) h Q := X_n mC_0 dX0_init_25 rfl
theorem x0_26 : X 0 26 L st h Q ↔ X 0 27 L (.int 5 :: st) h Q := X_n mC_0 dX0_init_26 rfl
theorem x0_27 {x : Int32} : X 0 27 L (.int x :: st) h Q ↔ (¬ x < 0 ∧ x < 100000) ∧ X 0 29 L (.ref (hN h) :: st) (nw h x.toNatClampNeg (2, x.toNatClampNeg)) Q := X_newI mC_0 dX0_init_27
theorem x0_29 {a v : Nat} : X 0 29 L (.ref v :: .ref a :: st) h Q ↔ (hS h a = (1, 0) ∧ v ≠ 0) ∧ X 0 32 L st (sR h a 3 v) Q := X_putR mC_0 dX0_init_29 (by decide +kernel)
theorem x0_32 {x : Nat} : X 0 32 [.ref x] st h Q ↔ X 0 33 [.ref x] (.ref x :: st) h Q := X_n mC_0 dX0_init_32 rfl
theorem x0_33 : X 0 33 L st h Q ↔ X 0 34 L (.int 5 :: st) h Q := X_n mC_0 dX0_init_33 rfl
theorem x0_34 {x : Int32} : X 0 34 L (.int x :: st) h Q ↔ (¬ x < 0 ∧ x < 100000) ∧ X 0 36 L (.ref (hN h) :: st) (nw h x.toNatClampNeg (2, x.toNatClampNeg)) Q := X_newI mC_0 dX0_init_34
theorem x0_36 {a v : Nat} : X 0 36 L (.ref v :: .ref a :: st) h Q ↔ (hS h a = (1, 0) ∧ v ≠ 0) ∧ X 0 39 L st (sR h a 4 v) Q := X_putR mC_0 dX0_init_36 (by decide +kernel)
theorem x0_39 {x : Nat} : X 0 39 [.ref x] st h Q ↔ X 0 40 [.ref x] (.ref x :: st) h Q := X_n mC_0 dX0_init_39 rfl
theorem x0_40 : X 0 40 L st h Q ↔ X 0 42 L (.int 6 :: st) h Q := X_n mC_0 dX0_init_40 rfl
theorem x0_42 {a : Nat} {v : Int32} : X 0 42 L (.int v :: .ref a :: st) h Q ↔ hS h a = (1, 0) ∧ X 0 45 L st (sI h a 6 v) Q := X_putI mC_0 dX0_init_42 (by decide +kernel)
theorem x0_45 {x : Nat} : X 0 45 [.ref x] st h Q ↔ X 0 46 [.ref x] (.ref x :: st) h Q := X_n mC_0 dX0_init_45 rfl
theorem x0_46 : X 0 46 L st h Q ↔ X 0 48 L (.int 8 :: st) h Q := X_n mC_0 dX0_init_46 rfl
theorem x0_48 {a : Nat} {v : Int32} : X 0 48 L (.int v :: .ref a :: st) h Q ↔ hS h a = (1, 0) ∧ X 0 51 L st (sI h a 8 v) Q := X_putI mC_0 dX0_init_48 (by decide +kernel)
theorem x0_51 {x : Nat} : X 0 51 [.ref x] st h Q ↔ X 0 52 [.ref x] (.ref x :: st) h Q := X_n mC_0 dX0_init_51 rfl
theorem x0_52 : X 0 52 L st h Q ↔ X 0 54 L (.int 7 :: st) h Q := X_n mC_0 dX0_init_52 rfl
theorem x0_54 {a : Nat} {v : Int32} : X 0 54 L (.int v :: .ref a :: st) h Q ↔ hS h a = (1, 0) ∧ X 0 57 L st (sI h a 9 v) Q := X_putI mC_0 dX0_init_54 (by decide +kernel)
theorem x0_57 : X 0 57 L [] h Q ↔ Q none h := X_retV mC_0 dX0_init_57 (by decide +kernel)
theorem mC_1 : mC 1 = cX0_clear := rfl
theorem x1_0 {x : Nat} : X 1 0 [.ref x] st h Q ↔ X 1 1 [.ref x] (.ref x :: st) h Q := X_n mC_1 dX0_clear_0 rfl
theorem x1_1 : X 1 1 L st h Q ↔ X 1 2 L (.int 0 :: st) h Q := X_n mC_1 dX0_clear_1 rfl
theorem x1_2 {a : Nat} {v : Int32} : X 1 2 L (.int v :: .ref a :: st) h Q ↔ hS h a = (1, 0) ∧ X 1 5 L st (sI h a 5 v) Q := X_putI mC_1 dX0_clear_2 (by decide +kernel)
theorem x1_5 {x : Nat} : X 1 5 [.ref x] st h Q ↔ X 1 6 [.ref x] (.ref x :: st) h Q := X_n mC_1 dX0_clear_5 rfl
theorem x1_6 : X 1 6 L st h Q ↔ X 1 8 L (.int 6 :: st) h Q := X_n mC_1 dX0_clear_6 rfl
theorem x1_8 {a : Nat} {v : Int32} : X 1 8 L (.int v :: .ref a :: st) h Q ↔ hS h a = (1, 0) ∧ X 1 11 L st (sI h a 6 v) Q := X_putI mC_1 dX0_clear_8 (by decide +kernel)
theorem x1_11 {x : Nat} : X 1 11 [.ref x] st h Q ↔ X 1 12 [.ref x] (.ref x :: st) h Q := X_n mC_1 dX0_clear_11 rfl
theorem x1_12 : X 1 12 L st h Q ↔ X 1 13 L (.int 0 :: st) h Q := X_n mC_1 dX0_clear_12 rfl
theorem x1_13 {a : Nat} {v : Int32} : X 1 13 L (.int v :: .ref a :: st) h Q ↔ hS h a = (1, 0) ∧ X 1 16 L st (sI h a 7 v) Q := X_putI mC_1 dX0_clear_13 (by decide +kernel)
theorem x1_16 {x : Nat} : X 1 16 [.ref x] st h Q ↔ X 1 17 [.ref x] (.ref x :: st) h Q := X_n mC_1 dX0_clear_16 rfl
theorem x1_17 : X 1 17 L st h Q ↔ X 1 19 L (.int 8 :: st) h Q := X_n mC_1 dX0_clear_17 rfl
theorem x1_19 {a : Nat} {v : Int32} : X 1 19 L (.int v :: .ref a :: st) h Q ↔ hS h a = (1, 0) ∧ X 1 22 L st (sI h a 8 v) Q := X_putI mC_1 dX0_clear_19 (by decide +kernel)
theorem x1_22 {x : Nat} : X 1 22 [.ref x] st h Q ↔ X 1 23 [.ref x] (.ref x :: st) h Q := X_n mC_1 dX0_clear_22 rfl
theorem x1_23 : X 1 23 L st h Q ↔ X 1 25 L (.int 7 :: st) h Q := X_n mC_1 dX0_clear_23 rfl
theorem x1_25 {a : Nat} {v : Int32} : X 1 25 L (.int v :: .ref a :: st) h Q ↔ hS h a = (1, 0) ∧ X 1 28 L st (sI h a 9 v) Q := X_putI mC_1 dX0_clear_25 (by decide +kernel)
theorem x1_28 {x : Nat} : X 1 28 [.ref x] st h Q ↔ X 1 29 [.ref x] (.ref x :: st) h Q := X_n mC_1 dX0_clear_28 rfl
theorem x1_29 : X 1 29 L st h Q ↔ X 1 30 L (.int 0 :: st) h Q := X_n mC_1 dX0_clear_29 rfl
theorem x1_30 {a : Nat} {v : Int32} : X 1 30 L (.int v :: .ref a :: st) h Q ↔ (hS h a = (1, 0) ∧ (v = 0 ∨ v = 1)) ∧ X 1 33 L st (sI h a 10 v) Q := X_putZ mC_1 dX0_clear_30 (by decide +kernel)
theorem x1_33 : X 1 33 L [] h Q ↔ Q none h := X_retV mC_1 dX0_clear_33 (by decide +kernel)
theorem mC_2 : mC 2 = cX0_copy := rfl
theorem x2_0 {l0 : Value} {x : Nat} : X 2 0 [l0, .ref x] st h Q ↔ X 2 1 [l0, .ref x] (.ref x :: st) h Q := X_n mC_2 dX0_copy_0 rfl
theorem x2_1 {a : Nat} : X 2 1 L (.ref a :: st) h Q ↔ (hS h a = (1, 0) ∧ hR h a 0 ≠ 0) ∧ X 2 4 L (.ref (hR h a 0) :: st) h Q := X_getR mC_2 dX0_copy_1 (by decide +kernel)
theorem x2_4 : X 2 4 L st h Q ↔ X 2 5 L (.int 0 :: st) h Q := X_n mC_2 dX0_copy_4 rfl
theorem x2_5 {l1 : Value} {x : Nat} : X 2 5 [.ref x, l1] st h Q ↔ X 2 6 [.ref x, l1] (.ref x :: st) h Q := X_n mC_2 dX0_copy_5 rfl
theorem x2_6 {a : Nat} : X 2 6 L (.ref a :: st) h Q ↔ (hS h a = (1, 0) ∧ hR h a 0 ≠ 0) ∧ X 2 9 L (.ref (hR h a 0) :: st) h Q := X_getR mC_2 dX0_copy_6 (by decide +kernel)
theorem x2_9 : X 2 9 L st h Q ↔ X 2 10 L (.int 0 :: st) h Q := X_n mC_2 dX0_copy_9 rfl
theorem x2_10 : X 2 10 L st h Q ↔ X 2 11 L (.int 5 :: st) h Q := X_n mC_2 dX0_copy_10 rfl
theorem x2_11 {x sp dp : Int32} {a b : Nat} : X 2 11 L [.int x, .int dp, .ref b, .int sp, .ref a] h Q ↔ cpOk (hS h a) (hS h b) sp dp x ∧ X 2 14 L [] (cpI h a sp.toNatClampNeg b dp.toNatClampNeg x.toNatClampNeg) Q := X_cpy (n := 5) mC_2 dX0_copy_11 (by decide +kernel) (Nat.le_of_ble_eq_true rfl)
theorem x2_14 {l0 : Value} {x : Nat} : X 2 14 [l0, .ref x] st h Q ↔ X 2 15 [l0, .ref x] (.ref x :: st) h Q := X_n mC_2 dX0_copy_14 rfl
theorem x2_15 {a : Nat} : X 2 15 L (.ref a :: st) h Q ↔ (hS h a = (1, 0) ∧ hR h a 1 ≠ 0) ∧ X 2 18 L (.ref (hR h a 1) :: st) h Q := X_getR mC_2 dX0_copy_15 (by decide +kernel)
theorem x2_18 : X 2 18 L st h Q ↔ X 2 19 L (.int 0 :: st) h Q := X_n mC_2 dX0_copy_18 rfl
theorem x2_19 {l1 : Value} {x : Nat} : X 2 19 [.ref x, l1] st h Q ↔ X 2 20 [.ref x, l1] (.ref x :: st) h Q := X_n mC_2 dX0_copy_19 rfl
theorem x2_20 {a : Nat} : X 2 20 L (.ref a :: st) h Q ↔ (hS h a = (1, 0) ∧ hR h a 1 ≠ 0) ∧ X 2 23 L (.ref (hR h a 1) :: st) h Q := X_getR mC_2 dX0_copy_20 (by decide +kernel)
theorem x2_23 : X 2 23 L st h Q ↔ X 2 24 L (.int 0 :: st) h Q := X_n mC_2 dX0_copy_23 rfl
theorem x2_24 : X 2 24 L st h Q ↔ X 2 25 L (.int 5 :: st) h Q := X_n mC_2 dX0_copy_24 rfl
theorem x2_25 {x sp dp : Int32} {a b : Nat} : X 2 25 L [.int x, .int dp, .ref b, .int sp, .ref a] h Q ↔ cpOk (hS h a) (hS h b) sp dp x ∧ X 2 28 L [] (cpI h a sp.toNatClampNeg b dp.toNatClampNeg x.toNatClampNeg) Q := X_cpy (n := 5) mC_2 dX0_copy_25 (by decide +kernel) (Nat.le_of_ble_eq_true rfl)
theorem x2_28 {l0 : Value} {x : Nat} : X 2 28 [l0, .ref x] st h Q ↔ X 2 29 [l0, .ref x] (.ref x :: st) h Q := X_n mC_2 dX0_copy_28 rfl
theorem x2_29 {a : Nat} : X 2 29 L (.ref a :: st) h Q ↔ (hS h a = (1, 0) ∧ hR h a 2 ≠ 0) ∧ X 2 32 L (.ref (hR h a 2) :: st) h Q := X_getR mC_2 dX0_copy_29 (by decide +kernel)
theorem x2_32 : X 2 32 L st h Q ↔ X 2 33 L (.int 0 :: st) h Q := X_n mC_2 dX0_copy_32 rfl
theorem x2_33 {l1 : Value} {x : Nat} : X 2 33 [.ref x, l1] st h Q ↔ X 2 34 [.ref x, l1] (.ref x :: st) h Q := X_n mC_2 dX0_copy_33 rfl
theorem x2_34 {a : Nat} : X 2 34 L (.ref a :: st) h Q ↔ (hS h a = (1, 0) ∧ hR h a 2 ≠ 0) ∧ X 2 37 L (.ref (hR h a 2) :: st) h Q := X_getR mC_2 dX0_copy_34 (by decide +kernel)
theorem x2_37 : X 2 37 L st h Q ↔ X 2 38 L (.int 0 :: st) h Q := X_n mC_2 dX0_copy_37 rfl
theorem x2_38 : X 2 38 L st h Q ↔ X 2 39 L (.int 5 :: st) h Q := X_n mC_2 dX0_copy_38 rfl
theorem x2_39 {x sp dp : Int32} {a b : Nat} : X 2 39 L [.int x, .int dp, .ref b, .int sp, .ref a] h Q ↔ cpOk (hS h a) (hS h b) sp dp x ∧ X 2 42 L [] (cpI h a sp.toNatClampNeg b dp.toNatClampNeg x.toNatClampNeg) Q := X_cpy (n := 5) mC_2 dX0_copy_39 (by decide +kernel) (Nat.le_of_ble_eq_true rfl)
theorem x2_42 {l0 : Value} {x : Nat} : X 2 42 [l0, .ref x] st h Q ↔ X 2 43 [l0, .ref x] (.ref x :: st) h Q := X_n mC_2 dX0_copy_42 rfl
theorem x2_43 {a : Nat} : X 2 43 L (.ref a :: st) h Q ↔ (hS h a = (1, 0) ∧ hR h a 3 ≠ 0) ∧ X 2 46 L (.ref (hR h a 3) :: st) h Q := X_getR mC_2 dX0_copy_43 (by decide +kernel)
theorem x2_46 : X 2 46 L st h Q ↔ X 2 47 L (.int 0 :: st) h Q := X_n mC_2 dX0_copy_46 rfl
theorem x2_47 {l1 : Value} {x : Nat} : X 2 47 [.ref x, l1] st h Q ↔ X 2 48 [.ref x, l1] (.ref x :: st) h Q := X_n mC_2 dX0_copy_47 rfl
theorem x2_48 {a : Nat} : X 2 48 L (.ref a :: st) h Q ↔ (hS h a = (1, 0) ∧ hR h a 3 ≠ 0) ∧ X 2 51 L (.ref (hR h a 3) :: st) h Q := X_getR mC_2 dX0_copy_48 (by decide +kernel)
theorem x2_51 : X 2 51 L st h Q ↔ X 2 52 L (.int 0 :: st) h Q := X_n mC_2 dX0_copy_51 rfl
theorem x2_52 : X 2 52 L st h Q ↔ X 2 53 L (.int 5 :: st) h Q := X_n mC_2 dX0_copy_52 rfl
theorem x2_53 {x sp dp : Int32} {a b : Nat} : X 2 53 L [.int x, .int dp, .ref b, .int sp, .ref a] h Q ↔ cpOk (hS h a) (hS h b) sp dp x ∧ X 2 56 L [] (cpI h a sp.toNatClampNeg b dp.toNatClampNeg x.toNatClampNeg) Q := X_cpy (n := 5) mC_2 dX0_copy_53 (by decide +kernel) (Nat.le_of_ble_eq_true rfl)
theorem x2_56 {l0 : Value} {x : Nat} : X 2 56 [l0, .ref x] st h Q ↔ X 2 57 [l0, .ref x] (.ref x :: st) h Q := X_n mC_2 dX0_copy_56 rfl
theorem x2_57 {a : Nat} : X 2 57 L (.ref a :: st) h Q ↔ (hS h a = (1, 0) ∧ hR h a 4 ≠ 0) ∧ X 2 60 L (.ref (hR h a 4) :: st) h Q := X_getR mC_2 dX0_copy_57 (by decide +kernel)
theorem x2_60 : X 2 60 L st h Q ↔ X 2 61 L (.int 0 :: st) h Q := X_n mC_2 dX0_copy_60 rfl
theorem x2_61 {l1 : Value} {x : Nat} : X 2 61 [.ref x, l1] st h Q ↔ X 2 62 [.ref x, l1] (.ref x :: st) h Q := X_n mC_2 dX0_copy_61 rfl
theorem x2_62 {a : Nat} : X 2 62 L (.ref a :: st) h Q ↔ (hS h a = (1, 0) ∧ hR h a 4 ≠ 0) ∧ X 2 65 L (.ref (hR h a 4) :: st) h Q := X_getR mC_2 dX0_copy_62 (by decide +kernel)
theorem x2_65 : X 2 65 L st h Q ↔ X 2 66 L (.int 0 :: st) h Q := X_n mC_2 dX0_copy_65 rfl
theorem x2_66 : X 2 66 L st h Q ↔ X 2 67 L (.int 5 :: st) h Q := X_n mC_2 dX0_copy_66 rfl
theorem x2_67 {x sp dp : Int32} {a b : Nat} : X 2 67 L [.int x, .int dp, .ref b, .int sp, .ref a] h Q ↔ cpOk (hS h a) (hS h b) sp dp x ∧ X 2 70 L [] (cpI h a sp.toNatClampNeg b dp.toNatClampNeg x.toNatClampNeg) Q := X_cpy (n := 5) mC_2 dX0_copy_67 (by decide +kernel) (Nat.le_of_ble_eq_true rfl)
theorem x2_70 {l1 : Value} {x : Nat} : X 2 70 [.ref x, l1] st h Q ↔ X 2 71 [.ref x, l1] (.ref x :: st) h Q := X_n mC_2 dX0_copy_70 rfl
theorem x2_71 {l0 : Value} {x : Nat} : X 2 71 [l0, .ref x] st h Q ↔ X 2 72 [l0, .ref x] (.ref x :: st) h Q := X_n mC_2 dX0_copy_71 rfl
theorem x2_72 {a : Nat} : X 2 72 L (.ref a :: st) h Q ↔ hS h a = (1, 0) ∧ X 2 75 L (.int (hI h a 5) :: st) h Q := X_getI mC_2 dX0_copy_72 (by decide +kernel)
theorem x2_75 {a : Nat} {v : Int32} : X 2 75 L (.int v :: .ref a :: st) h Q ↔ hS h a = (1, 0) ∧ X 2 78 L st (sI h a 5 v) Q := X_putI mC_2 dX0_copy_75 (by decide +kernel)
theorem x2_78 {l1 : Value} {x : Nat} : X 2 78 [.ref x, l1] st h Q ↔ X 2 79 [.ref x, l1] (.ref x :: st) h Q := X_n mC_2 dX0_copy_78 rfl
theorem x2_79 {l0 : Value} {x : Nat} : X 2 79 [l0, .ref x] st h Q ↔ X 2 80 [l0, .ref x] (.ref x :: st) h Q := X_n mC_2 dX0_copy_79 rfl
theorem x2_80 {a : Nat} : X 2 80 L (.ref a :: st) h Q ↔ hS h a = (1, 0) ∧ X 2 83 L (.int (hI h a 6) :: st) h Q := X_getI mC_2 dX0_copy_80 (by decide +kernel)
theorem x2_83 {a : Nat} {v : Int32} : X 2 83 L (.int v :: .ref a :: st) h Q ↔ hS h a = (1, 0) ∧ X 2 86 L st (sI h a 6 v) Q := X_putI mC_2 dX0_copy_83 (by decide +kernel)
theorem x2_86 {l1 : Value} {x : Nat} : X 2 86 [.ref x, l1] st h Q ↔ X 2 87 [.ref x, l1] (.ref x :: st) h Q := X_n mC_2 dX0_copy_86 rfl
theorem x2_87 {l0 : Value} {x : Nat} : X 2 87 [l0, .ref x] st h Q ↔ X 2 88 [l0, .ref x] (.ref x :: st) h Q := X_n mC_2 dX0_copy_87 rfl
theorem x2_88 {a : Nat} : X 2 88 L (.ref a :: st) h Q ↔ hS h a = (1, 0) ∧ X 2 91 L (.int (hI h a 7) :: st) h Q := X_getI mC_2 dX0_copy_88 (by decide +kernel)
theorem x2_91 {a : Nat} {v : Int32} : X 2 91 L (.int v :: .ref a :: st) h Q ↔ hS h a = (1, 0) ∧ X 2 94 L st (sI h a 7 v) Q := X_putI mC_2 dX0_copy_91 (by decide +kernel)
theorem x2_94 {l1 : Value} {x : Nat} : X 2 94 [.ref x, l1] st h Q ↔ X 2 95 [.ref x, l1] (.ref x :: st) h Q := X_n mC_2 dX0_copy_94 rfl
theorem x2_95 {l0 : Value} {x : Nat} : X 2 95 [l0, .ref x] st h Q ↔ X 2 96 [l0, .ref x] (.ref x :: st) h Q := X_n mC_2 dX0_copy_95 rfl
theorem x2_96 {a : Nat} : X 2 96 L (.ref a :: st) h Q ↔ hS h a = (1, 0) ∧ X 2 99 L (.int (hI h a 8) :: st) h Q := X_getI mC_2 dX0_copy_96 (by decide +kernel)
theorem x2_99 {a : Nat} {v : Int32} : X 2 99 L (.int v :: .ref a :: st) h Q ↔ hS h a = (1, 0) ∧ X 2 102 L st (sI h a 8 v) Q := X_putI mC_2 dX0_copy_99 (by decide +kernel)
theorem x2_102 {l1 : Value} {x : Nat} : X 2 102 [.ref x, l1] st h Q ↔ X 2 103 [.ref x, l1] (.ref x :: st) h Q := X_n mC_2 dX0_copy_102 rfl
theorem x2_103 {l0 : Value} {x : Nat} : X 2 103 [l0, .ref x] st h Q ↔ X 2 104 [l0, .ref x] (.ref x :: st) h Q := X_n mC_2 dX0_copy_103 rfl
theorem x2_104 {a : Nat} : X 2 104 L (.ref a :: st) h Q ↔ hS h a = (1, 0) ∧ X 2 107 L (.int (hI h a 9) :: st) h Q := X_getI mC_2 dX0_copy_104 (by decide +kernel)
theorem x2_107 {a : Nat} {v : Int32} : X 2 107 L (.int v :: .ref a :: st) h Q ↔ hS h a = (1, 0) ∧ X 2 110 L st (sI h a 9 v) Q := X_putI mC_2 dX0_copy_107 (by decide +kernel)
theorem x2_110 {l1 : Value} {x : Nat} : X 2 110 [.ref x, l1] st h Q ↔ X 2 111 [.ref x, l1] (.ref x :: st) h Q := X_n mC_2 dX0_copy_110 rfl
theorem x2_111 {l0 : Value} {x : Nat} : X 2 111 [l0, .ref x] st h Q ↔ X 2 112 [l0, .ref x] (.ref x :: st) h Q := X_n mC_2 dX0_copy_111 rfl
theorem x2_112 {a : Nat} : X 2 112 L (.ref a :: st) h Q ↔ hS h a = (1, 0) ∧ X 2 115 L (.int (hI h a 10) :: st) h Q := X_getI mC_2 dX0_copy_112 (by decide +kernel)
theorem x2_115 {a : Nat} {v : Int32} : X 2 115 L (.int v :: .ref a :: st) h Q ↔ (hS h a = (1, 0) ∧ (v = 0 ∨ v = 1)) ∧ X 2 118 L st (sI h a 10 v) Q := X_putZ mC_2 dX0_copy_115 (by decide +kernel)
theorem x2_118 : X 2 118 L [] h Q ↔ Q none h := X_retV mC_2 dX0_copy_118 (by decide +kernel)
theorem mC_3 : mC 3 = cX0_setBeds := rfl
theorem x3_0 {l1 : Value} {x : Nat} : X 3 0 [.ref x, l1] st h Q ↔ X 3 1 [.ref x, l1] (.ref x :: st) h Q := X_n mC_3 dX0_setBeds_0 rfl
theorem x3_1 {a : Nat} : X 3 1 L (.ref a :: st) h Q ↔ hS h a = (1, 0) ∧ X 3 4 L (.int (hI h a 10) :: st) h Q := X_getI mC_3 dX0_setBeds_1 (by decide +kernel)
theorem x3_4 {x : Int32} : X 3 4 L (.int x :: st) h Q ↔ if x = 0 then X 3 7 L st h Q else X 3 18 L st h Q := X_zne mC_3 dX0_setBeds_4 (by decide)
theorem x3_7 {l0 : Value} {x : Int32} : X 3 7 [l0, .int x] st h Q ↔ X 3 8 [l0, .int x] (.int x :: st) h Q := X_n mC_3 dX0_setBeds_7 rfl
theorem x3_8 : X 3 8 L st h Q ↔ X 3 9 L (.int 2 :: st) h Q := X_n mC_3 dX0_setBeds_8 rfl
theorem x3_9 {x y : Int32} : X 3 9 L (.int y :: .int x :: st) h Q ↔ if x < y then X 3 18 L st h Q else X 3 12 L st h Q := X_ilt mC_3 dX0_setBeds_9 (by decide)
theorem x3_12 {l0 : Value} {x : Int32} : X 3 12 [l0, .int x] st h Q ↔ X 3 13 [l0, .int x] (.int x :: st) h Q := X_n mC_3 dX0_setBeds_12 rfl
theorem x3_13 : X 3 13 L st h Q ↔ X 3 15 L (.int 6 :: st) h Q := X_n mC_3 dX0_setBeds_13 rfl
theorem x3_15 {x y : Int32} : X 3 15 L (.int y :: .int x :: st) h Q ↔ if y < x then X 3 18 L st h Q else X 3 20 L st h Q := X_ile mC_3 dX0_setBeds_15 (by decide)
theorem x3_18 : X 3 18 L st h Q ↔ X 3 19 L (.int 0 :: st) h Q := X_n mC_3 dX0_setBeds_18 rfl
theorem x3_19 {v : Int32} : X 3 19 L [.int v] h Q ↔ (v = 0 ∨ v = 1) ∧ Q (some (.int v)) h := X_retZ mC_3 dX0_setBeds_19 (by decide +kernel)
theorem x3_20 {l1 : Value} {x : Nat} : X 3 20 [.ref x, l1] st h Q ↔ X 3 21 [.ref x, l1] (.ref x :: st) h Q := X_n mC_3 dX0_setBeds_20 rfl
theorem x3_21 {l0 : Value} {x : Int32} : X 3 21 [l0, .int x] st h Q ↔ X 3 22 [l0, .int x] (.int x :: st) h Q := X_n mC_3 dX0_setBeds_21 rfl
theorem x3_22 {a : Nat} {v : Int32} : X 3 22 L (.int v :: .ref a :: st) h Q ↔ hS h a = (1, 0) ∧ X 3 25 L st (sI h a 6 v) Q := X_putI mC_3 dX0_setBeds_22 (by decide +kernel)
theorem x3_25 : X 3 25 L st h Q ↔ X 3 26 L (.int 1 :: st) h Q := X_n mC_3 dX0_setBeds_25 rfl
theorem x3_26 {v : Int32} : X 3 26 L [.int v] h Q ↔ (v = 0 ∨ v = 1) ∧ Q (some (.int v)) h := X_retZ mC_3 dX0_setBeds_26 (by decide +kernel)
theorem mC_4 : mC 4 = cX0_addGuest := rfl
theorem x4_0 {l0 : Value} {x : Nat} : X 4 0 [l0, .ref x] st h Q ↔ X 4 1 [l0, .ref x] (.ref x :: st) h Q := X_n mC_4 dX0_addGuest_0 rfl
theorem x4_1 {a : Nat} : X 4 1 L (.ref a :: st) h Q ↔ ((hS h a).1 = 2 ∨ (hS h a).1 = 3 ∨ (hS h a).1 = 4) ∧ X 4 2 L (.int (Int32.ofNat (hS h a).2) :: st) h Q := X_alen mC_4 dX0_addGuest_1
theorem x4_2 : X 4 2 L st h Q ↔ X 4 3 L (.int 5 :: st) h Q := X_n mC_4 dX0_addGuest_2 rfl
theorem x4_3 {x y : Int32} : X 4 3 L (.int y :: .int x :: st) h Q ↔ if x < y then X 4 27 L st h Q else X 4 6 L st h Q := X_ilt mC_4 dX0_addGuest_3 (by decide)
theorem x4_6 {l1 : Value} {x : Nat} : X 4 6 [.ref x, l1] st h Q ↔ X 4 7 [.ref x, l1] (.ref x :: st) h Q := X_n mC_4 dX0_addGuest_6 rfl
theorem x4_7 {a : Nat} : X 4 7 L (.ref a :: st) h Q ↔ hS h a = (1, 0) ∧ X 4 10 L (.int (hI h a 5) :: st) h Q := X_getI mC_4 dX0_addGuest_7 (by decide +kernel)
theorem x4_10 : X 4 10 L st h Q ↔ X 4 11 L (.int 5 :: st) h Q := X_n mC_4 dX0_addGuest_10 rfl
theorem x4_11 {x y : Int32} : X 4 11 L (.int y :: .int x :: st) h Q ↔ if x < y then X 4 14 L st h Q else X 4 27 L st h Q := X_ige mC_4 dX0_addGuest_11 (by decide)
theorem x4_14 {l1 : Value} {x : Nat} : X 4 14 [.ref x, l1] st h Q ↔ X 4 15 [.ref x, l1] (.ref x :: st) h Q := X_n mC_4 dX0_addGuest_14 rfl
theorem x4_15 {a : Nat} : X 4 15 L (.ref a :: st) h Q ↔ hS h a = (1, 0) ∧ X 4 18 L (.int (hI h a 5) :: st) h Q := X_getI mC_4 dX0_addGuest_15 (by decide +kernel)
theorem x4_18 {l1 : Value} {x : Nat} : X 4 18 [.ref x, l1] st h Q ↔ X 4 19 [.ref x, l1] (.ref x :: st) h Q := X_n mC_4 dX0_addGuest_18 rfl
theorem x4_19 {a : Nat} : X 4 19 L (.ref a :: st) h Q ↔ hS h a = (1, 0) ∧ X 4 22 L (.int (hI h a 6) :: st) h Q := X_getI mC_4 dX0_addGuest_19 (by decide +kernel)
theorem x4_22 : X 4 22 L st h Q ↔ X 4 23 L (.int 1 :: st) h Q := X_n mC_4 dX0_addGuest_22 rfl
theorem x4_23 {x y : Int32} : X 4 23 L (.int y :: .int x :: st) h Q ↔ X 4 24 L (.int (x - y) :: st) h Q := X_n mC_4 dX0_addGuest_23 rfl
theorem x4_24 {x y : Int32} : X 4 24 L (.int y :: .int x :: st) h Q ↔ if x < y then X 4 29 L st h Q else X 4 27 L st h Q := X_ilt mC_4 dX0_addGuest_24 (by decide)
theorem x4_27 : X 4 27 L st h Q ↔ X 4 28 L (.int 0 :: st) h Q := X_n mC_4 dX0_addGuest_27 rfl
theorem x4_28 {v : Int32} : X 4 28 L [.int v] h Q ↔ (v = 0 ∨ v = 1) ∧ Q (some (.int v)) h := X_retZ mC_4 dX0_addGuest_28 (by decide +kernel)
theorem x4_29 {l0 : Value} {x : Nat} : X 4 29 [l0, .ref x] st h Q ↔ X 4 30 [l0, .ref x] (.ref x :: st) h Q := X_n mC_4 dX0_addGuest_29 rfl
theorem x4_30 : X 4 30 L st h Q ↔ X 4 31 L (.int 0 :: st) h Q := X_n mC_4 dX0_addGuest_30 rfl
theorem x4_31 {j : Int32} {a : Nat} : X 4 31 L (.int j :: .ref a :: st) h Q ↔ ib j (hS h a) ∧ X 4 32 L (.int (hI h a j.toNatClampNeg) :: st) h Q := X_iald mC_4 dX0_addGuest_31
theorem x4_32 : X 4 32 L st h Q ↔ X 4 33 L (.int 3 :: st) h Q := X_n mC_4 dX0_addGuest_32 rfl
theorem x4_33 {x y : Int32} : X 4 33 L (.int y :: .int x :: st) h Q ↔ if y < x then X 4 52 L st h Q else X 4 36 L st h Q := X_igt mC_4 dX0_addGuest_33 (by decide)
theorem x4_36 {l0 : Value} {x : Nat} : X 4 36 [l0, .ref x] st h Q ↔ X 4 37 [l0, .ref x] (.ref x :: st) h Q := X_n mC_4 dX0_addGuest_36 rfl
theorem x4_37 : X 4 37 L st h Q ↔ X 4 38 L (.int 1 :: st) h Q := X_n mC_4 dX0_addGuest_37 rfl
theorem x4_38 {j : Int32} {a : Nat} : X 4 38 L (.int j :: .ref a :: st) h Q ↔ ib j (hS h a) ∧ X 4 39 L (.int (hI h a j.toNatClampNeg) :: st) h Q := X_iald mC_4 dX0_addGuest_38
theorem x4_39 : X 4 39 L st h Q ↔ X 4 41 L (.int 30 :: st) h Q := X_n mC_4 dX0_addGuest_39 rfl
theorem x4_41 {x y : Int32} : X 4 41 L (.int y :: .int x :: st) h Q ↔ if y < x then X 4 52 L st h Q else X 4 44 L st h Q := X_igt mC_4 dX0_addGuest_41 (by decide)
theorem x4_44 {l0 : Value} {x : Nat} : X 4 44 [l0, .ref x] st h Q ↔ X 4 45 [l0, .ref x] (.ref x :: st) h Q := X_n mC_4 dX0_addGuest_44 rfl
theorem x4_45 : X 4 45 L st h Q ↔ X 4 46 L (.int 2 :: st) h Q := X_n mC_4 dX0_addGuest_45 rfl
theorem x4_46 {j : Int32} {a : Nat} : X 4 46 L (.int j :: .ref a :: st) h Q ↔ ib j (hS h a) ∧ X 4 47 L (.int (hI h a j.toNatClampNeg) :: st) h Q := X_iald mC_4 dX0_addGuest_46
theorem x4_47 : X 4 47 L st h Q ↔ X 4 49 L (.int 12 :: st) h Q := X_n mC_4 dX0_addGuest_47 rfl
theorem x4_49 {x y : Int32} : X 4 49 L (.int y :: .int x :: st) h Q ↔ if y < x then X 4 52 L st h Q else X 4 54 L st h Q := X_ile mC_4 dX0_addGuest_49 (by decide)
theorem x4_52 : X 4 52 L st h Q ↔ X 4 53 L (.int 0 :: st) h Q := X_n mC_4 dX0_addGuest_52 rfl
theorem x4_53 {v : Int32} : X 4 53 L [.int v] h Q ↔ (v = 0 ∨ v = 1) ∧ Q (some (.int v)) h := X_retZ mC_4 dX0_addGuest_53 (by decide +kernel)
theorem x4_54 {l0 : Value} {x : Nat} : X 4 54 [l0, .ref x] st h Q ↔ X 4 55 [l0, .ref x] (.ref x :: st) h Q := X_n mC_4 dX0_addGuest_54 rfl
theorem x4_55 : X 4 55 L st h Q ↔ X 4 56 L (.int 3 :: st) h Q := X_n mC_4 dX0_addGuest_55 rfl
theorem x4_56 {j : Int32} {a : Nat} : X 4 56 L (.int j :: .ref a :: st) h Q ↔ ib j (hS h a) ∧ X 4 57 L (.int (hI h a j.toNatClampNeg) :: st) h Q := X_iald mC_4 dX0_addGuest_56
theorem x4_57 : X 4 57 L st h Q ↔ X 4 58 L (.int 1 :: st) h Q := X_n mC_4 dX0_addGuest_57 rfl
theorem x4_58 {x y : Int32} : X 4 58 L (.int y :: .int x :: st) h Q ↔ if x < y then X 4 89 L st h Q else X 4 61 L st h Q := X_ilt mC_4 dX0_addGuest_58 (by decide)
theorem x4_61 {l0 : Value} {x : Nat} : X 4 61 [l0, .ref x] st h Q ↔ X 4 62 [l0, .ref x] (.ref x :: st) h Q := X_n mC_4 dX0_addGuest_61 rfl
theorem x4_62 : X 4 62 L st h Q ↔ X 4 63 L (.int 3 :: st) h Q := X_n mC_4 dX0_addGuest_62 rfl
theorem x4_63 {j : Int32} {a : Nat} : X 4 63 L (.int j :: .ref a :: st) h Q ↔ ib j (hS h a) ∧ X 4 64 L (.int (hI h a j.toNatClampNeg) :: st) h Q := X_iald mC_4 dX0_addGuest_63
theorem x4_64 : X 4 64 L st h Q ↔ X 4 66 L (.int 40 :: st) h Q := X_n mC_4 dX0_addGuest_64 rfl
theorem x4_66 {x y : Int32} : X 4 66 L (.int y :: .int x :: st) h Q ↔ if y < x then X 4 89 L st h Q else X 4 69 L st h Q := X_igt mC_4 dX0_addGuest_66 (by decide)
theorem x4_69 {l1 : Value} {x : Nat} : X 4 69 [.ref x, l1] st h Q ↔ X 4 70 [.ref x, l1] (.ref x :: st) h Q := X_n mC_4 dX0_addGuest_69 rfl
theorem x4_70 {l0 : Value} {x : Nat} : X 4 70 [l0, .ref x] st h Q ↔ X 4 71 [l0, .ref x] (.ref x :: st) h Q := X_n mC_4 dX0_addGuest_70 rfl
theorem x4_71 : X 4 71 L st h Q ↔ X 4 72 L (.int 4 :: st) h Q := X_n mC_4 dX0_addGuest_71 rfl
theorem x4_72 {j : Int32} {a : Nat} : X 4 72 L (.int j :: .ref a :: st) h Q ↔ ib j (hS h a) ∧ X 4 73 L (.int (hI h a j.toNatClampNeg) :: st) h Q := X_iald mC_4 dX0_addGuest_72
theorem x4_73 {b : Nat} {a0 : Int32} : X 4 73 L [.int a0, .ref b] h Q ↔ hS h b = (1, 0) ∧ X 14 0 [.ref b, .int a0] [] h (fun r h' => X 4 76 L (pv r []) h' Q) := X_virt (as := [.int a0]) (n := 1) (ml := 2) (ck := 0) mC_4 dX0_addGuest_73 (by unfold cOk; decide +kernel) ⟨rfl, rfl, by decide, Nat.le_of_ble_eq_true rfl⟩
theorem x4_76 {x : Int32} : X 4 76 L (.int x :: st) h Q ↔ if x = 0 then X 4 89 L st h Q else X 4 79 L st h Q := X_zeq mC_4 dX0_addGuest_76 (by decide)
theorem x4_79 {l1 : Value} {x : Nat} : X 4 79 [.ref x, l1] st h Q ↔ X 4 80 [.ref x, l1] (.ref x :: st) h Q := X_n mC_4 dX0_addGuest_79 rfl
theorem x4_80 {l0 : Value} {x : Nat} : X 4 80 [l0, .ref x] st h Q ↔ X 4 81 [l0, .ref x] (.ref x :: st) h Q := X_n mC_4 dX0_addGuest_80 rfl
theorem x4_81 : X 4 81 L st h Q ↔ X 4 82 L (.int 4 :: st) h Q := X_n mC_4 dX0_addGuest_81 rfl
theorem x4_82 {j : Int32} {a : Nat} : X 4 82 L (.int j :: .ref a :: st) h Q ↔ ib j (hS h a) ∧ X 4 83 L (.int (hI h a j.toNatClampNeg) :: st) h Q := X_iald mC_4 dX0_addGuest_82
theorem x4_83 {b : Nat} {a0 : Int32} : X 4 83 L [.int a0, .ref b] h Q ↔ hS h b = (1, 0) ∧ X 5 0 [.ref b, .int a0, .null] [] h (fun r h' => X 4 86 L (pv r []) h' Q) := X_virt (as := [.int a0]) (n := 1) (ml := 3) (ck := 0) mC_4 dX0_addGuest_83 (by unfold cOk; decide +kernel) ⟨rfl, rfl, by decide, Nat.le_of_ble_eq_true rfl⟩
theorem x4_86 {x : Int32} : X 4 86 L (.int x :: st) h Q ↔ if x = 0 then X 4 91 L st h Q else X 4 89 L st h Q := X_zeq mC_4 dX0_addGuest_86 (by decide)
theorem x4_89 : X 4 89 L st h Q ↔ X 4 90 L (.int 0 :: st) h Q := X_n mC_4 dX0_addGuest_89 rfl
theorem x4_90 {v : Int32} : X 4 90 L [.int v] h Q ↔ (v = 0 ∨ v = 1) ∧ Q (some (.int v)) h := X_retZ mC_4 dX0_addGuest_90 (by decide +kernel)
theorem x4_91 {l1 : Value} {x : Nat} : X 4 91 [.ref x, l1] st h Q ↔ X 4 92 [.ref x, l1] (.ref x :: st) h Q := X_n mC_4 dX0_addGuest_91 rfl
theorem x4_92 {a : Nat} : X 4 92 L (.ref a :: st) h Q ↔ (hS h a = (1, 0) ∧ hR h a 0 ≠ 0) ∧ X 4 95 L (.ref (hR h a 0) :: st) h Q := X_getR mC_4 dX0_addGuest_92 (by decide +kernel)
theorem x4_95 {l1 : Value} {x : Nat} : X 4 95 [.ref x, l1] st h Q ↔ X 4 96 [.ref x, l1] (.ref x :: st) h Q := X_n mC_4 dX0_addGuest_95 rfl
theorem x4_96 {a : Nat} : X 4 96 L (.ref a :: st) h Q ↔ hS h a = (1, 0) ∧ X 4 99 L (.int (hI h a 5) :: st) h Q := X_getI mC_4 dX0_addGuest_96 (by decide +kernel)
theorem x4_99 {l0 : Value} {x : Nat} : X 4 99 [l0, .ref x] st h Q ↔ X 4 100 [l0, .ref x] (.ref x :: st) h Q := X_n mC_4 dX0_addGuest_99 rfl
theorem x4_100 : X 4 100 L st h Q ↔ X 4 101 L (.int 0 :: st) h Q := X_n mC_4 dX0_addGuest_100 rfl
theorem x4_101 {j : Int32} {a : Nat} : X 4 101 L (.int j :: .ref a :: st) h Q ↔ ib j (hS h a) ∧ X 4 102 L (.int (hI h a j.toNatClampNeg) :: st) h Q := X_iald mC_4 dX0_addGuest_101
theorem x4_102 {j x : Int32} {a : Nat} : X 4 102 L (.int x :: .int j :: .ref a :: st) h Q ↔ ibw j (hS h a) ∧ X 4 103 L st (sI h a j.toNatClampNeg x) Q := X_iast mC_4 dX0_addGuest_102
theorem x4_103 {l1 : Value} {x : Nat} : X 4 103 [.ref x, l1] st h Q ↔ X 4 104 [.ref x, l1] (.ref x :: st) h Q := X_n mC_4 dX0_addGuest_103 rfl
theorem x4_104 {a : Nat} : X 4 104 L (.ref a :: st) h Q ↔ (hS h a = (1, 0) ∧ hR h a 1 ≠ 0) ∧ X 4 107 L (.ref (hR h a 1) :: st) h Q := X_getR mC_4 dX0_addGuest_104 (by decide +kernel)
theorem x4_107 {l1 : Value} {x : Nat} : X 4 107 [.ref x, l1] st h Q ↔ X 4 108 [.ref x, l1] (.ref x :: st) h Q := X_n mC_4 dX0_addGuest_107 rfl
theorem x4_108 {a : Nat} : X 4 108 L (.ref a :: st) h Q ↔ hS h a = (1, 0) ∧ X 4 111 L (.int (hI h a 5) :: st) h Q := X_getI mC_4 dX0_addGuest_108 (by decide +kernel)
theorem x4_111 {l0 : Value} {x : Nat} : X 4 111 [l0, .ref x] st h Q ↔ X 4 112 [l0, .ref x] (.ref x :: st) h Q := X_n mC_4 dX0_addGuest_111 rfl
theorem x4_112 : X 4 112 L st h Q ↔ X 4 113 L (.int 1 :: st) h Q := X_n mC_4 dX0_addGuest_112 rfl
theorem x4_113 {j : Int32} {a : Nat} : X 4 113 L (.int j :: .ref a :: st) h Q ↔ ib j (hS h a) ∧ X 4 114 L (.int (hI h a j.toNatClampNeg) :: st) h Q := X_iald mC_4 dX0_addGuest_113
theorem x4_114 {j x : Int32} {a : Nat} : X 4 114 L (.int x :: .int j :: .ref a :: st) h Q ↔ ibw j (hS h a) ∧ X 4 115 L st (sI h a j.toNatClampNeg x) Q := X_iast mC_4 dX0_addGuest_114
theorem x4_115 {l1 : Value} {x : Nat} : X 4 115 [.ref x, l1] st h Q ↔ X 4 116 [.ref x, l1] (.ref x :: st) h Q := X_n mC_4 dX0_addGuest_115 rfl
theorem x4_116 {a : Nat} : X 4 116 L (.ref a :: st) h Q ↔ (hS h a = (1, 0) ∧ hR h a 2 ≠ 0) ∧ X 4 119 L (.ref (hR h a 2) :: st) h Q := X_getR mC_4 dX0_addGuest_116 (by decide +kernel)
theorem x4_119 {l1 : Value} {x : Nat} : X 4 119 [.ref x, l1] st h Q ↔ X 4 120 [.ref x, l1] (.ref x :: st) h Q := X_n mC_4 dX0_addGuest_119 rfl
theorem x4_120 {a : Nat} : X 4 120 L (.ref a :: st) h Q ↔ hS h a = (1, 0) ∧ X 4 123 L (.int (hI h a 5) :: st) h Q := X_getI mC_4 dX0_addGuest_120 (by decide +kernel)
theorem x4_123 {l0 : Value} {x : Nat} : X 4 123 [l0, .ref x] st h Q ↔ X 4 124 [l0, .ref x] (.ref x :: st) h Q := X_n mC_4 dX0_addGuest_123 rfl
theorem x4_124 : X 4 124 L st h Q ↔ X 4 125 L (.int 2 :: st) h Q := X_n mC_4 dX0_addGuest_124 rfl
theorem x4_125 {j : Int32} {a : Nat} : X 4 125 L (.int j :: .ref a :: st) h Q ↔ ib j (hS h a) ∧ X 4 126 L (.int (hI h a j.toNatClampNeg) :: st) h Q := X_iald mC_4 dX0_addGuest_125
theorem x4_126 {j x : Int32} {a : Nat} : X 4 126 L (.int x :: .int j :: .ref a :: st) h Q ↔ ibw j (hS h a) ∧ X 4 127 L st (sI h a j.toNatClampNeg x) Q := X_iast mC_4 dX0_addGuest_126
theorem x4_127 {l1 : Value} {x : Nat} : X 4 127 [.ref x, l1] st h Q ↔ X 4 128 [.ref x, l1] (.ref x :: st) h Q := X_n mC_4 dX0_addGuest_127 rfl
theorem x4_128 {a : Nat} : X 4 128 L (.ref a :: st) h Q ↔ (hS h a = (1, 0) ∧ hR h a 3 ≠ 0) ∧ X 4 131 L (.ref (hR h a 3) :: st) h Q := X_getR mC_4 dX0_addGuest_128 (by decide +kernel)
theorem x4_131 {l1 : Value} {x : Nat} : X 4 131 [.ref x, l1] st h Q ↔ X 4 132 [.ref x, l1] (.ref x :: st) h Q := X_n mC_4 dX0_addGuest_131 rfl
theorem x4_132 {a : Nat} : X 4 132 L (.ref a :: st) h Q ↔ hS h a = (1, 0) ∧ X 4 135 L (.int (hI h a 5) :: st) h Q := X_getI mC_4 dX0_addGuest_132 (by decide +kernel)
theorem x4_135 {l0 : Value} {x : Nat} : X 4 135 [l0, .ref x] st h Q ↔ X 4 136 [l0, .ref x] (.ref x :: st) h Q := X_n mC_4 dX0_addGuest_135 rfl
theorem x4_136 : X 4 136 L st h Q ↔ X 4 137 L (.int 3 :: st) h Q := X_n mC_4 dX0_addGuest_136 rfl
theorem x4_137 {j : Int32} {a : Nat} : X 4 137 L (.int j :: .ref a :: st) h Q ↔ ib j (hS h a) ∧ X 4 138 L (.int (hI h a j.toNatClampNeg) :: st) h Q := X_iald mC_4 dX0_addGuest_137
theorem x4_138 {j x : Int32} {a : Nat} : X 4 138 L (.int x :: .int j :: .ref a :: st) h Q ↔ ibw j (hS h a) ∧ X 4 139 L st (sI h a j.toNatClampNeg x) Q := X_iast mC_4 dX0_addGuest_138
theorem x4_139 {l1 : Value} {x : Nat} : X 4 139 [.ref x, l1] st h Q ↔ X 4 140 [.ref x, l1] (.ref x :: st) h Q := X_n mC_4 dX0_addGuest_139 rfl
theorem x4_140 {a : Nat} : X 4 140 L (.ref a :: st) h Q ↔ (hS h a = (1, 0) ∧ hR h a 4 ≠ 0) ∧ X 4 143 L (.ref (hR h a 4) :: st) h Q := X_getR mC_4 dX0_addGuest_140 (by decide +kernel)
theorem x4_143 {l1 : Value} {x : Nat} : X 4 143 [.ref x, l1] st h Q ↔ X 4 144 [.ref x, l1] (.ref x :: st) h Q := X_n mC_4 dX0_addGuest_143 rfl
theorem x4_144 {a : Nat} : X 4 144 L (.ref a :: st) h Q ↔ hS h a = (1, 0) ∧ X 4 147 L (.int (hI h a 5) :: st) h Q := X_getI mC_4 dX0_addGuest_144 (by decide +kernel)
theorem x4_147 {l0 : Value} {x : Nat} : X 4 147 [l0, .ref x] st h Q ↔ X 4 148 [l0, .ref x] (.ref x :: st) h Q := X_n mC_4 dX0_addGuest_147 rfl
theorem x4_148 : X 4 148 L st h Q ↔ X 4 149 L (.int 4 :: st) h Q := X_n mC_4 dX0_addGuest_148 rfl
theorem x4_149 {j : Int32} {a : Nat} : X 4 149 L (.int j :: .ref a :: st) h Q ↔ ib j (hS h a) ∧ X 4 150 L (.int (hI h a j.toNatClampNeg) :: st) h Q := X_iald mC_4 dX0_addGuest_149
theorem x4_150 {j x : Int32} {a : Nat} : X 4 150 L (.int x :: .int j :: .ref a :: st) h Q ↔ ibw j (hS h a) ∧ X 4 151 L st (sI h a j.toNatClampNeg x) Q := X_iast mC_4 dX0_addGuest_150
theorem x4_151 {l1 : Value} {x : Nat} : X 4 151 [.ref x, l1] st h Q ↔ X 4 152 [.ref x, l1] (.ref x :: st) h Q := X_n mC_4 dX0_addGuest_151 rfl
theorem x4_152 {x : Nat} : X 4 152 L (.ref x :: st) h Q ↔ X 4 153 L (.ref x :: .ref x :: st) h Q := X_n mC_4 dX0_addGuest_152 rfl
theorem x4_153 {a : Nat} : X 4 153 L (.ref a :: st) h Q ↔ hS h a = (1, 0) ∧ X 4 156 L (.int (hI h a 5) :: st) h Q := X_getI mC_4 dX0_addGuest_153 (by decide +kernel)
theorem x4_156 : X 4 156 L st h Q ↔ X 4 157 L (.int 1 :: st) h Q := X_n mC_4 dX0_addGuest_156 rfl
theorem x4_157 {x y : Int32} : X 4 157 L (.int y :: .int x :: st) h Q ↔ X 4 158 L (.int (x + y) :: st) h Q := X_n mC_4 dX0_addGuest_157 rfl
theorem x4_158 {a : Nat} {v : Int32} : X 4 158 L (.int v :: .ref a :: st) h Q ↔ hS h a = (1, 0) ∧ X 4 161 L st (sI h a 5 v) Q := X_putI mC_4 dX0_addGuest_158 (by decide +kernel)
theorem x4_161 {l1 : Value} {x : Nat} : X 4 161 [.ref x, l1] st h Q ↔ X 4 162 [.ref x, l1] (.ref x :: st) h Q := X_n mC_4 dX0_addGuest_161 rfl
theorem x4_162 : X 4 162 L st h Q ↔ X 4 163 L (.int 1 :: st) h Q := X_n mC_4 dX0_addGuest_162 rfl
theorem x4_163 {a : Nat} {v : Int32} : X 4 163 L (.int v :: .ref a :: st) h Q ↔ (hS h a = (1, 0) ∧ (v = 0 ∨ v = 1)) ∧ X 4 166 L st (sI h a 10 v) Q := X_putZ mC_4 dX0_addGuest_163 (by decide +kernel)
theorem x4_166 : X 4 166 L st h Q ↔ X 4 167 L (.int 1 :: st) h Q := X_n mC_4 dX0_addGuest_166 rfl
theorem x4_167 {v : Int32} : X 4 167 L [.int v] h Q ↔ (v = 0 ∨ v = 1) ∧ Q (some (.int v)) h := X_retZ mC_4 dX0_addGuest_167 (by decide +kernel)
theorem mC_5 : mC 5 = cX0_isTaken := rfl
theorem x5_0 : X 5 0 L st h Q ↔ X 5 1 L (.int 0 :: st) h Q := X_n mC_5 dX0_isTaken_0 rfl
theorem x5_1 {l0 l1 l2 : Value} {x : Int32} : X 5 1 [l0, l1, l2] (.int x :: st) h Q ↔ c1 l1 = true ∧ X 5 2 [l0, l1, .int x] st h Q := X_sto (kk := 2) (pc' := 2) (w := .int x) mC_5 dX0_isTaken_1 rfl (Nat.le_of_ble_eq_true rfl) rfl
theorem x5_2 {l0 l1 : Value} {x : Int32} : X 5 2 [l0, l1, .int x] st h Q ↔ X 5 3 [l0, l1, .int x] (.int x :: st) h Q := X_n mC_5 dX0_isTaken_2 rfl
theorem x5_3 {l1 l2 : Value} {x : Nat} : X 5 3 [.ref x, l1, l2] st h Q ↔ X 5 4 [.ref x, l1, l2] (.ref x :: st) h Q := X_n mC_5 dX0_isTaken_3 rfl
theorem x5_4 {a : Nat} : X 5 4 L (.ref a :: st) h Q ↔ hS h a = (1, 0) ∧ X 5 7 L (.int (hI h a 5) :: st) h Q := X_getI mC_5 dX0_isTaken_4 (by decide +kernel)
theorem x5_7 {x y : Int32} : X 5 7 L (.int y :: .int x :: st) h Q ↔ if x < y then X 5 10 L st h Q else X 5 33 L st h Q := X_ige mC_5 dX0_isTaken_7 (by decide)
theorem x5_10 {l0 l1 : Value} {x : Int32} : X 5 10 [l0, l1, .int x] st h Q ↔ X 5 11 [l0, l1, .int x] (.int x :: st) h Q := X_n mC_5 dX0_isTaken_10 rfl
theorem x5_11 : X 5 11 L st h Q ↔ X 5 12 L (.int 5 :: st) h Q := X_n mC_5 dX0_isTaken_11 rfl
theorem x5_12 {x y : Int32} : X 5 12 L (.int y :: .int x :: st) h Q ↔ if x < y then X 5 15 L st h Q else X 5 33 L st h Q := X_ige mC_5 dX0_isTaken_12 (by decide)
theorem x5_15 {l1 l2 : Value} {x : Nat} : X 5 15 [.ref x, l1, l2] st h Q ↔ X 5 16 [.ref x, l1, l2] (.ref x :: st) h Q := X_n mC_5 dX0_isTaken_15 rfl
theorem x5_16 {a : Nat} : X 5 16 L (.ref a :: st) h Q ↔ (hS h a = (1, 0) ∧ hR h a 4 ≠ 0) ∧ X 5 19 L (.ref (hR h a 4) :: st) h Q := X_getR mC_5 dX0_isTaken_16 (by decide +kernel)
theorem x5_19 {l0 l1 : Value} {x : Int32} : X 5 19 [l0, l1, .int x] st h Q ↔ X 5 20 [l0, l1, .int x] (.int x :: st) h Q := X_n mC_5 dX0_isTaken_19 rfl
theorem x5_20 {j : Int32} {a : Nat} : X 5 20 L (.int j :: .ref a :: st) h Q ↔ ib j (hS h a) ∧ X 5 21 L (.int (hI h a j.toNatClampNeg) :: st) h Q := X_iald mC_5 dX0_isTaken_20
theorem x5_21 {l0 l2 : Value} {x : Int32} : X 5 21 [l0, .int x, l2] st h Q ↔ X 5 22 [l0, .int x, l2] (.int x :: st) h Q := X_n mC_5 dX0_isTaken_21 rfl
theorem x5_22 {x y : Int32} : X 5 22 L (.int y :: .int x :: st) h Q ↔ if x = y then X 5 25 L st h Q else X 5 27 L st h Q := X_ine mC_5 dX0_isTaken_22 (by decide)
theorem x5_25 : X 5 25 L st h Q ↔ X 5 26 L (.int 1 :: st) h Q := X_n mC_5 dX0_isTaken_25 rfl
theorem x5_26 {v : Int32} : X 5 26 L [.int v] h Q ↔ (v = 0 ∨ v = 1) ∧ Q (some (.int v)) h := X_retZ mC_5 dX0_isTaken_26 (by decide +kernel)
theorem x5_27 {l0 l1 : Value} {x : Int32} : X 5 27 [l0, l1, .int x] st h Q ↔ c1 l1 = true ∧ X 5 30 [l0, l1, .int (x + 1)] st h Q := X_inc (pc' := 30) (x := x) mC_5 dX0_isTaken_27 rfl rfl rfl
theorem x5_30 : X 5 30 L st h Q ↔ X 5 2 L st h Q := X_goto mC_5 dX0_isTaken_30 (by decide)
theorem x5_33 : X 5 33 L st h Q ↔ X 5 34 L (.int 0 :: st) h Q := X_n mC_5 dX0_isTaken_33 rfl
theorem x5_34 {v : Int32} : X 5 34 L [.int v] h Q ↔ (v = 0 ∨ v = 1) ∧ Q (some (.int v)) h := X_retZ mC_5 dX0_isTaken_34 (by decide +kernel)
theorem mC_6 : mC 6 = cX0_stuffWall := rfl
theorem x6_0 {l1 : Value} {x : Nat} : X 6 0 [.ref x, l1] st h Q ↔ X 6 1 [.ref x, l1] (.ref x :: st) h Q := X_n mC_6 dX0_stuffWall_0 rfl
theorem x6_1 {l0 : Value} {x : Int32} : X 6 1 [l0, .int x] st h Q ↔ X 6 2 [l0, .int x] (.int x :: st) h Q := X_n mC_6 dX0_stuffWall_1 rfl
theorem x6_2 {b : Nat} {a0 : Int32} : X 6 2 L [.int a0, .ref b] h Q ↔ hS h b = (1, 0) ∧ X 15 0 [.ref b, .int a0] [] h (fun r h' => X 6 5 L (pv r []) h' Q) := X_virt (as := [.int a0]) (n := 1) (ml := 2) (ck := 0) mC_6 dX0_stuffWall_2 (by unfold cOk; decide +kernel) ⟨rfl, rfl, by decide, Nat.le_of_ble_eq_true rfl⟩
theorem x6_5 {x : Int32} : X 6 5 L (.int x :: st) h Q ↔ if x = 0 then X 6 8 L st h Q else X 6 10 L st h Q := X_zne mC_6 dX0_stuffWall_5 (by decide)
theorem x6_8 : X 6 8 L st h Q ↔ X 6 9 L (.int 0 :: st) h Q := X_n mC_6 dX0_stuffWall_8 rfl
theorem x6_9 {v : Int32} : X 6 9 L [.int v] h Q ↔ (v = 0 ∨ v = 1) ∧ Q (some (.int v)) h := X_retZ mC_6 dX0_stuffWall_9 (by decide +kernel)
theorem x6_10 {l1 : Value} {x : Nat} : X 6 10 [.ref x, l1] st h Q ↔ X 6 11 [.ref x, l1] (.ref x :: st) h Q := X_n mC_6 dX0_stuffWall_10 rfl
theorem x6_11 {x : Nat} : X 6 11 L (.ref x :: st) h Q ↔ X 6 12 L (.ref x :: .ref x :: st) h Q := X_n mC_6 dX0_stuffWall_11 rfl
theorem x6_12 {a : Nat} : X 6 12 L (.ref a :: st) h Q ↔ hS h a = (1, 0) ∧ X 6 15 L (.int (hI h a 7) :: st) h Q := X_getI mC_6 dX0_stuffWall_12 (by decide +kernel)
theorem x6_15 : X 6 15 L st h Q ↔ X 6 16 L (.int 1 :: st) h Q := X_n mC_6 dX0_stuffWall_15 rfl
theorem x6_16 {l0 : Value} {x : Int32} : X 6 16 [l0, .int x] st h Q ↔ X 6 17 [l0, .int x] (.int x :: st) h Q := X_n mC_6 dX0_stuffWall_16 rfl
theorem x6_17 {x y : Int32} : X 6 17 L (.int y :: .int x :: st) h Q ↔ X 6 18 L (.int (x <<< (y &&& 31)) :: st) h Q := X_n mC_6 dX0_stuffWall_17 rfl
theorem x6_18 {x y : Int32} : X 6 18 L (.int y :: .int x :: st) h Q ↔ X 6 19 L (.int (x ||| y) :: st) h Q := X_n mC_6 dX0_stuffWall_18 rfl
theorem x6_19 {a : Nat} {v : Int32} : X 6 19 L (.int v :: .ref a :: st) h Q ↔ hS h a = (1, 0) ∧ X 6 22 L st (sI h a 7 v) Q := X_putI mC_6 dX0_stuffWall_19 (by decide +kernel)
theorem x6_22 {l1 : Value} {x : Nat} : X 6 22 [.ref x, l1] st h Q ↔ X 6 23 [.ref x, l1] (.ref x :: st) h Q := X_n mC_6 dX0_stuffWall_22 rfl
theorem x6_23 : X 6 23 L st h Q ↔ X 6 24 L (.int 1 :: st) h Q := X_n mC_6 dX0_stuffWall_23 rfl
theorem x6_24 {a : Nat} {v : Int32} : X 6 24 L (.int v :: .ref a :: st) h Q ↔ (hS h a = (1, 0) ∧ (v = 0 ∨ v = 1)) ∧ X 6 27 L st (sI h a 10 v) Q := X_putZ mC_6 dX0_stuffWall_24 (by decide +kernel)
theorem x6_27 : X 6 27 L st h Q ↔ X 6 28 L (.int 1 :: st) h Q := X_n mC_6 dX0_stuffWall_27 rfl
theorem x6_28 {v : Int32} : X 6 28 L [.int v] h Q ↔ (v = 0 ∨ v = 1) ∧ Q (some (.int v)) h := X_retZ mC_6 dX0_stuffWall_28 (by decide +kernel)
theorem mC_7 : mC 7 = cX0_setPorters := rfl
theorem x7_0 {l0 : Value} {x : Int32} : X 7 0 [l0, .int x] st h Q ↔ X 7 1 [l0, .int x] (.int x :: st) h Q := X_n mC_7 dX0_setPorters_0 rfl
theorem x7_1 : X 7 1 L st h Q ↔ X 7 3 L (.int 40 :: st) h Q := X_n mC_7 dX0_setPorters_1 rfl
theorem x7_3 {x y : Int32} : X 7 3 L (.int y :: .int x :: st) h Q ↔ if y < x then X 7 6 L st h Q else X 7 8 L st h Q := X_ile mC_7 dX0_setPorters_3 (by decide)
theorem x7_6 : X 7 6 L st h Q ↔ X 7 7 L (.int 0 :: st) h Q := X_n mC_7 dX0_setPorters_6 rfl
theorem x7_7 {v : Int32} : X 7 7 L [.int v] h Q ↔ (v = 0 ∨ v = 1) ∧ Q (some (.int v)) h := X_retZ mC_7 dX0_setPorters_7 (by decide +kernel)
theorem x7_8 {l1 : Value} {x : Nat} : X 7 8 [.ref x, l1] st h Q ↔ X 7 9 [.ref x, l1] (.ref x :: st) h Q := X_n mC_7 dX0_setPorters_8 rfl
theorem x7_9 {l0 : Value} {x : Int32} : X 7 9 [l0, .int x] st h Q ↔ X 7 10 [l0, .int x] (.int x :: st) h Q := X_n mC_7 dX0_setPorters_9 rfl
theorem x7_10 {a : Nat} {v : Int32} : X 7 10 L (.int v :: .ref a :: st) h Q ↔ hS h a = (1, 0) ∧ X 7 13 L st (sI h a 8 v) Q := X_putI mC_7 dX0_setPorters_10 (by decide +kernel)
theorem x7_13 {l1 : Value} {x : Nat} : X 7 13 [.ref x, l1] st h Q ↔ X 7 14 [.ref x, l1] (.ref x :: st) h Q := X_n mC_7 dX0_setPorters_13 rfl
theorem x7_14 : X 7 14 L st h Q ↔ X 7 15 L (.int 1 :: st) h Q := X_n mC_7 dX0_setPorters_14 rfl
theorem x7_15 {a : Nat} {v : Int32} : X 7 15 L (.int v :: .ref a :: st) h Q ↔ (hS h a = (1, 0) ∧ (v = 0 ∨ v = 1)) ∧ X 7 18 L st (sI h a 10 v) Q := X_putZ mC_7 dX0_setPorters_15 (by decide +kernel)
theorem x7_18 : X 7 18 L st h Q ↔ X 7 19 L (.int 1 :: st) h Q := X_n mC_7 dX0_setPorters_18 rfl
theorem x7_19 {v : Int32} : X 7 19 L [.int v] h Q ↔ (v = 0 ∨ v = 1) ∧ Q (some (.int v)) h := X_retZ mC_7 dX0_setPorters_19 (by decide +kernel)
theorem mC_8 : mC 8 = cX0_setNote := rfl
theorem x8_0 {l0 : Value} {x : Int32} : X 8 0 [l0, .int x] st h Q ↔ X 8 1 [l0, .int x] (.int x :: st) h Q := X_n mC_8 dX0_setNote_0 rfl
theorem x8_1 : X 8 1 L st h Q ↔ X 8 3 L (.int 12 :: st) h Q := X_n mC_8 dX0_setNote_1 rfl
theorem x8_3 {x y : Int32} : X 8 3 L (.int y :: .int x :: st) h Q ↔ if y < x then X 8 6 L st h Q else X 8 8 L st h Q := X_ile mC_8 dX0_setNote_3 (by decide)
theorem x8_6 : X 8 6 L st h Q ↔ X 8 7 L (.int 0 :: st) h Q := X_n mC_8 dX0_setNote_6 rfl
theorem x8_7 {v : Int32} : X 8 7 L [.int v] h Q ↔ (v = 0 ∨ v = 1) ∧ Q (some (.int v)) h := X_retZ mC_8 dX0_setNote_7 (by decide +kernel)
theorem x8_8 {l1 : Value} {x : Nat} : X 8 8 [.ref x, l1] st h Q ↔ X 8 9 [.ref x, l1] (.ref x :: st) h Q := X_n mC_8 dX0_setNote_8 rfl
theorem x8_9 {l0 : Value} {x : Int32} : X 8 9 [l0, .int x] st h Q ↔ X 8 10 [l0, .int x] (.int x :: st) h Q := X_n mC_8 dX0_setNote_9 rfl
theorem x8_10 {a : Nat} {v : Int32} : X 8 10 L (.int v :: .ref a :: st) h Q ↔ hS h a = (1, 0) ∧ X 8 13 L st (sI h a 9 v) Q := X_putI mC_8 dX0_setNote_10 (by decide +kernel)
theorem x8_13 {l1 : Value} {x : Nat} : X 8 13 [.ref x, l1] st h Q ↔ X 8 14 [.ref x, l1] (.ref x :: st) h Q := X_n mC_8 dX0_setNote_13 rfl
theorem x8_14 : X 8 14 L st h Q ↔ X 8 15 L (.int 1 :: st) h Q := X_n mC_8 dX0_setNote_14 rfl
theorem x8_15 {a : Nat} {v : Int32} : X 8 15 L (.int v :: .ref a :: st) h Q ↔ (hS h a = (1, 0) ∧ (v = 0 ∨ v = 1)) ∧ X 8 18 L st (sI h a 10 v) Q := X_putZ mC_8 dX0_setNote_15 (by decide +kernel)
theorem x8_18 : X 8 18 L st h Q ↔ X 8 19 L (.int 1 :: st) h Q := X_n mC_8 dX0_setNote_18 rfl
theorem x8_19 {v : Int32} : X 8 19 L [.int v] h Q ↔ (v = 0 ∨ v = 1) ∧ Q (some (.int v)) h := X_retZ mC_8 dX0_setNote_19 (by decide +kernel)
theorem mC_9 : mC 9 = cX0_supposeFeigning := rfl
theorem x9_0 : X 9 0 L st h Q ↔ X 9 1 L (.int 0 :: st) h Q := X_n mC_9 dX0_supposeFeigning_0 rfl
theorem x9_1 {l0 l1 l2 : Value} {x : Int32} : X 9 1 [l0, l1, l2] (.int x :: st) h Q ↔ c1 l1 = true ∧ X 9 2 [l0, l1, .int x] st h Q := X_sto (kk := 2) (pc' := 2) (w := .int x) mC_9 dX0_supposeFeigning_1 rfl (Nat.le_of_ble_eq_true rfl) rfl
theorem x9_2 {l0 l1 : Value} {x : Int32} : X 9 2 [l0, l1, .int x] st h Q ↔ X 9 3 [l0, l1, .int x] (.int x :: st) h Q := X_n mC_9 dX0_supposeFeigning_2 rfl
theorem x9_3 {l1 l2 : Value} {x : Nat} : X 9 3 [.ref x, l1, l2] st h Q ↔ X 9 4 [.ref x, l1, l2] (.ref x :: st) h Q := X_n mC_9 dX0_supposeFeigning_3 rfl
theorem x9_4 {a : Nat} : X 9 4 L (.ref a :: st) h Q ↔ hS h a = (1, 0) ∧ X 9 7 L (.int (hI h a 5) :: st) h Q := X_getI mC_9 dX0_supposeFeigning_4 (by decide +kernel)
theorem x9_7 {x y : Int32} : X 9 7 L (.int y :: .int x :: st) h Q ↔ if x < y then X 9 10 L st h Q else X 9 53 L st h Q := X_ige mC_9 dX0_supposeFeigning_7 (by decide)
theorem x9_10 {l0 l1 : Value} {x : Int32} : X 9 10 [l0, l1, .int x] st h Q ↔ X 9 11 [l0, l1, .int x] (.int x :: st) h Q := X_n mC_9 dX0_supposeFeigning_10 rfl
theorem x9_11 : X 9 11 L st h Q ↔ X 9 12 L (.int 5 :: st) h Q := X_n mC_9 dX0_supposeFeigning_11 rfl
theorem x9_12 {x y : Int32} : X 9 12 L (.int y :: .int x :: st) h Q ↔ if x < y then X 9 15 L st h Q else X 9 53 L st h Q := X_ige mC_9 dX0_supposeFeigning_12 (by decide)
theorem x9_15 {l0 l1 : Value} {x : Int32} : X 9 15 [l0, l1, .int x] st h Q ↔ X 9 16 [l0, l1, .int x] (.int x :: st) h Q := X_n mC_9 dX0_supposeFeigning_15 rfl
theorem x9_16 {l0 l2 : Value} {x : Int32} : X 9 16 [l0, .int x, l2] st h Q ↔ X 9 17 [l0, .int x, l2] (.int x :: st) h Q := X_n mC_9 dX0_supposeFeigning_16 rfl
theorem x9_17 {x y : Int32} : X 9 17 L (.int y :: .int x :: st) h Q ↔ if x = y then X 9 20 L st h Q else X 9 30 L st h Q := X_ine mC_9 dX0_supposeFeigning_17 (by decide)
theorem x9_20 {l1 l2 : Value} {x : Nat} : X 9 20 [.ref x, l1, l2] st h Q ↔ X 9 21 [.ref x, l1, l2] (.ref x :: st) h Q := X_n mC_9 dX0_supposeFeigning_20 rfl
theorem x9_21 {a : Nat} : X 9 21 L (.ref a :: st) h Q ↔ (hS h a = (1, 0) ∧ hR h a 0 ≠ 0) ∧ X 9 24 L (.ref (hR h a 0) :: st) h Q := X_getR mC_9 dX0_supposeFeigning_21 (by decide +kernel)
theorem x9_24 {l0 l1 : Value} {x : Int32} : X 9 24 [l0, l1, .int x] st h Q ↔ X 9 25 [l0, l1, .int x] (.int x :: st) h Q := X_n mC_9 dX0_supposeFeigning_24 rfl
theorem x9_25 : X 9 25 L st h Q ↔ X 9 26 L (.int 3 :: st) h Q := X_n mC_9 dX0_supposeFeigning_25 rfl
theorem x9_26 {j x : Int32} {a : Nat} : X 9 26 L (.int x :: .int j :: .ref a :: st) h Q ↔ ibw j (hS h a) ∧ X 9 27 L st (sI h a j.toNatClampNeg x) Q := X_iast mC_9 dX0_supposeFeigning_26
theorem x9_27 : X 9 27 L st h Q ↔ X 9 47 L st h Q := X_goto mC_9 dX0_supposeFeigning_27 (by decide)
theorem x9_30 {l1 l2 : Value} {x : Nat} : X 9 30 [.ref x, l1, l2] st h Q ↔ X 9 31 [.ref x, l1, l2] (.ref x :: st) h Q := X_n mC_9 dX0_supposeFeigning_30 rfl
theorem x9_31 {a : Nat} : X 9 31 L (.ref a :: st) h Q ↔ (hS h a = (1, 0) ∧ hR h a 0 ≠ 0) ∧ X 9 34 L (.ref (hR h a 0) :: st) h Q := X_getR mC_9 dX0_supposeFeigning_31 (by decide +kernel)
theorem x9_34 {l0 l1 : Value} {x : Int32} : X 9 34 [l0, l1, .int x] st h Q ↔ X 9 35 [l0, l1, .int x] (.int x :: st) h Q := X_n mC_9 dX0_supposeFeigning_34 rfl
theorem x9_35 {j : Int32} {a : Nat} : X 9 35 L (.int j :: .ref a :: st) h Q ↔ ib j (hS h a) ∧ X 9 36 L (.int (hI h a j.toNatClampNeg) :: st) h Q := X_iald mC_9 dX0_supposeFeigning_35
theorem x9_36 : X 9 36 L st h Q ↔ X 9 37 L (.int 3 :: st) h Q := X_n mC_9 dX0_supposeFeigning_36 rfl
theorem x9_37 {x y : Int32} : X 9 37 L (.int y :: .int x :: st) h Q ↔ if x = y then X 9 40 L st h Q else X 9 47 L st h Q := X_ine mC_9 dX0_supposeFeigning_37 (by decide)
theorem x9_40 {l1 l2 : Value} {x : Nat} : X 9 40 [.ref x, l1, l2] st h Q ↔ X 9 41 [.ref x, l1, l2] (.ref x :: st) h Q := X_n mC_9 dX0_supposeFeigning_40 rfl
theorem x9_41 {a : Nat} : X 9 41 L (.ref a :: st) h Q ↔ (hS h a = (1, 0) ∧ hR h a 0 ≠ 0) ∧ X 9 44 L (.ref (hR h a 0) :: st) h Q := X_getR mC_9 dX0_supposeFeigning_41 (by decide +kernel)
theorem x9_44 {l0 l1 : Value} {x : Int32} : X 9 44 [l0, l1, .int x] st h Q ↔ X 9 45 [l0, l1, .int x] (.int x :: st) h Q := X_n mC_9 dX0_supposeFeigning_44 rfl
theorem x9_45 : X 9 45 L st h Q ↔ X 9 46 L (.int 0 :: st) h Q := X_n mC_9 dX0_supposeFeigning_45 rfl
theorem x9_46 {j x : Int32} {a : Nat} : X 9 46 L (.int x :: .int j :: .ref a :: st) h Q ↔ ibw j (hS h a) ∧ X 9 47 L st (sI h a j.toNatClampNeg x) Q := X_iast mC_9 dX0_supposeFeigning_46
theorem x9_47 {l0 l1 : Value} {x : Int32} : X 9 47 [l0, l1, .int x] st h Q ↔ c1 l1 = true ∧ X 9 50 [l0, l1, .int (x + 1)] st h Q := X_inc (pc' := 50) (x := x) mC_9 dX0_supposeFeigning_47 rfl rfl rfl
theorem x9_50 : X 9 50 L st h Q ↔ X 9 2 L st h Q := X_goto mC_9 dX0_supposeFeigning_50 (by decide)
theorem x9_53 : X 9 53 L [] h Q ↔ Q none h := X_retV mC_9 dX0_supposeFeigning_53 (by decide +kernel)
theorem mC_10 : mC 10 = cX0_guests := rfl
theorem x10_0 {x : Nat} : X 10 0 [.ref x] st h Q ↔ X 10 1 [.ref x] (.ref x :: st) h Q := X_n mC_10 dX0_guests_0 rfl
theorem x10_1 {a : Nat} : X 10 1 L (.ref a :: st) h Q ↔ hS h a = (1, 0) ∧ X 10 4 L (.int (hI h a 5) :: st) h Q := X_getI mC_10 dX0_guests_1 (by decide +kernel)
theorem x10_4 {v : Int32} : X 10 4 L [.int v] h Q ↔ Q (some (.int v)) h := X_ret mC_10 dX0_guests_4 (by decide +kernel)
theorem mC_11 : mC 11 = cX0_beds := rfl
theorem x11_0 {x : Nat} : X 11 0 [.ref x] st h Q ↔ X 11 1 [.ref x] (.ref x :: st) h Q := X_n mC_11 dX0_beds_0 rfl
theorem x11_1 {a : Nat} : X 11 1 L (.ref a :: st) h Q ↔ hS h a = (1, 0) ∧ X 11 4 L (.int (hI h a 6) :: st) h Q := X_getI mC_11 dX0_beds_1 (by decide +kernel)
theorem x11_4 {v : Int32} : X 11 4 L [.int v] h Q ↔ Q (some (.int v)) h := X_ret mC_11 dX0_beds_4 (by decide +kernel)
theorem mC_12 : mC 12 = cX0_walls := rfl
theorem x12_0 {x : Nat} : X 12 0 [.ref x] st h Q ↔ X 12 1 [.ref x] (.ref x :: st) h Q := X_n mC_12 dX0_walls_0 rfl
theorem x12_1 {a : Nat} : X 12 1 L (.ref a :: st) h Q ↔ hS h a = (1, 0) ∧ X 12 4 L (.int (hI h a 7) :: st) h Q := X_getI mC_12 dX0_walls_1 (by decide +kernel)
theorem x12_4 {v : Int32} : X 12 4 L [.int v] h Q ↔ Q (some (.int v)) h := X_ret mC_12 dX0_walls_4 (by decide +kernel)
theorem mC_13 : mC 13 = cX0_hasGuest := rfl
theorem x13_0 {l0 : Value} {x : Int32} : X 13 0 [l0, .int x] st h Q ↔ X 13 1 [l0, .int x] (.int x :: st) h Q := X_n mC_13 dX0_hasGuest_0 rfl
theorem x13_1 {x : Int32} : X 13 1 L (.int x :: st) h Q ↔ if x < 0 then X 13 21 L st h Q else X 13 4 L st h Q := X_zlt mC_13 dX0_hasGuest_1 (by decide)
theorem x13_4 {l0 : Value} {x : Int32} : X 13 4 [l0, .int x] st h Q ↔ X 13 5 [l0, .int x] (.int x :: st) h Q := X_n mC_13 dX0_hasGuest_4 rfl
theorem x13_5 {l1 : Value} {x : Nat} : X 13 5 [.ref x, l1] st h Q ↔ X 13 6 [.ref x, l1] (.ref x :: st) h Q := X_n mC_13 dX0_hasGuest_5 rfl
theorem x13_6 {a : Nat} : X 13 6 L (.ref a :: st) h Q ↔ hS h a = (1, 0) ∧ X 13 9 L (.int (hI h a 5) :: st) h Q := X_getI mC_13 dX0_hasGuest_6 (by decide +kernel)
theorem x13_9 {x y : Int32} : X 13 9 L (.int y :: .int x :: st) h Q ↔ if x < y then X 13 12 L st h Q else X 13 21 L st h Q := X_ige mC_13 dX0_hasGuest_9 (by decide)
theorem x13_12 {l0 : Value} {x : Int32} : X 13 12 [l0, .int x] st h Q ↔ X 13 13 [l0, .int x] (.int x :: st) h Q := X_n mC_13 dX0_hasGuest_12 rfl
theorem x13_13 : X 13 13 L st h Q ↔ X 13 14 L (.int 5 :: st) h Q := X_n mC_13 dX0_hasGuest_13 rfl
theorem x13_14 {x y : Int32} : X 13 14 L (.int y :: .int x :: st) h Q ↔ if x < y then X 13 17 L st h Q else X 13 21 L st h Q := X_ige mC_13 dX0_hasGuest_14 (by decide)
theorem x13_17 : X 13 17 L st h Q ↔ X 13 18 L (.int 1 :: st) h Q := X_n mC_13 dX0_hasGuest_17 rfl
theorem x13_18 : X 13 18 L st h Q ↔ X 13 22 L st h Q := X_goto mC_13 dX0_hasGuest_18 (by decide)
theorem x13_21 : X 13 21 L st h Q ↔ X 13 22 L (.int 0 :: st) h Q := X_n mC_13 dX0_hasGuest_21 rfl
theorem x13_22 {v : Int32} : X 13 22 L [.int v] h Q ↔ (v = 0 ∨ v = 1) ∧ Q (some (.int v)) h := X_retZ mC_13 dX0_hasGuest_22 (by decide +kernel)
theorem mC_14 : mC 14 = cX0_hasBed := rfl
theorem x14_0 {l0 : Value} {x : Int32} : X 14 0 [l0, .int x] st h Q ↔ X 14 1 [l0, .int x] (.int x :: st) h Q := X_n mC_14 dX0_hasBed_0 rfl
theorem x14_1 {x : Int32} : X 14 1 L (.int x :: st) h Q ↔ if x < 0 then X 14 16 L st h Q else X 14 4 L st h Q := X_zlt mC_14 dX0_hasBed_1 (by decide)
theorem x14_4 {l0 : Value} {x : Int32} : X 14 4 [l0, .int x] st h Q ↔ X 14 5 [l0, .int x] (.int x :: st) h Q := X_n mC_14 dX0_hasBed_4 rfl
theorem x14_5 {l1 : Value} {x : Nat} : X 14 5 [.ref x, l1] st h Q ↔ X 14 6 [.ref x, l1] (.ref x :: st) h Q := X_n mC_14 dX0_hasBed_5 rfl
theorem x14_6 {a : Nat} : X 14 6 L (.ref a :: st) h Q ↔ hS h a = (1, 0) ∧ X 14 9 L (.int (hI h a 6) :: st) h Q := X_getI mC_14 dX0_hasBed_6 (by decide +kernel)
theorem x14_9 {x y : Int32} : X 14 9 L (.int y :: .int x :: st) h Q ↔ if x < y then X 14 12 L st h Q else X 14 16 L st h Q := X_ige mC_14 dX0_hasBed_9 (by decide)
theorem x14_12 : X 14 12 L st h Q ↔ X 14 13 L (.int 1 :: st) h Q := X_n mC_14 dX0_hasBed_12 rfl
theorem x14_13 : X 14 13 L st h Q ↔ X 14 17 L st h Q := X_goto mC_14 dX0_hasBed_13 (by decide)
theorem x14_16 : X 14 16 L st h Q ↔ X 14 17 L (.int 0 :: st) h Q := X_n mC_14 dX0_hasBed_16 rfl
theorem x14_17 {v : Int32} : X 14 17 L [.int v] h Q ↔ (v = 0 ∨ v = 1) ∧ Q (some (.int v)) h := X_retZ mC_14 dX0_hasBed_17 (by decide +kernel)
theorem mC_15 : mC 15 = cX0_hasWall := rfl
theorem x15_0 {l0 : Value} {x : Int32} : X 15 0 [l0, .int x] st h Q ↔ X 15 1 [l0, .int x] (.int x :: st) h Q := X_n mC_15 dX0_hasWall_0 rfl
theorem x15_1 {x : Int32} : X 15 1 L (.int x :: st) h Q ↔ if x < 0 then X 15 18 L st h Q else X 15 4 L st h Q := X_zlt mC_15 dX0_hasWall_1 (by decide)
theorem x15_4 {l0 : Value} {x : Int32} : X 15 4 [l0, .int x] st h Q ↔ X 15 5 [l0, .int x] (.int x :: st) h Q := X_n mC_15 dX0_hasWall_4 rfl
theorem x15_5 {l1 : Value} {x : Nat} : X 15 5 [.ref x, l1] st h Q ↔ X 15 6 [.ref x, l1] (.ref x :: st) h Q := X_n mC_15 dX0_hasWall_5 rfl
theorem x15_6 {a : Nat} : X 15 6 L (.ref a :: st) h Q ↔ hS h a = (1, 0) ∧ X 15 9 L (.int (hI h a 6) :: st) h Q := X_getI mC_15 dX0_hasWall_6 (by decide +kernel)
theorem x15_9 : X 15 9 L st h Q ↔ X 15 10 L (.int 1 :: st) h Q := X_n mC_15 dX0_hasWall_9 rfl
theorem x15_10 {x y : Int32} : X 15 10 L (.int y :: .int x :: st) h Q ↔ X 15 11 L (.int (x - y) :: st) h Q := X_n mC_15 dX0_hasWall_10 rfl
theorem x15_11 {x y : Int32} : X 15 11 L (.int y :: .int x :: st) h Q ↔ if x < y then X 15 14 L st h Q else X 15 18 L st h Q := X_ige mC_15 dX0_hasWall_11 (by decide)
theorem x15_14 : X 15 14 L st h Q ↔ X 15 15 L (.int 1 :: st) h Q := X_n mC_15 dX0_hasWall_14 rfl
theorem x15_15 : X 15 15 L st h Q ↔ X 15 19 L st h Q := X_goto mC_15 dX0_hasWall_15 (by decide)
theorem x15_18 : X 15 18 L st h Q ↔ X 15 19 L (.int 0 :: st) h Q := X_n mC_15 dX0_hasWall_18 rfl
theorem x15_19 {v : Int32} : X 15 19 L [.int v] h Q ↔ (v = 0 ∨ v = 1) ∧ Q (some (.int v)) h := X_retZ mC_15 dX0_hasWall_19 (by decide +kernel)
theorem mC_16 : mC 16 = cX0_kindOf := rfl
theorem x16_0 {l1 : Value} {x : Nat} : X 16 0 [.ref x, l1] st h Q ↔ X 16 1 [.ref x, l1] (.ref x :: st) h Q := X_n mC_16 dX0_kindOf_0 rfl
theorem x16_1 {l0 : Value} {x : Int32} : X 16 1 [l0, .int x] st h Q ↔ X 16 2 [l0, .int x] (.int x :: st) h Q := X_n mC_16 dX0_kindOf_1 rfl
theorem x16_2 {b : Nat} {a0 : Int32} : X 16 2 L [.int a0, .ref b] h Q ↔ hS h b = (1, 0) ∧ X 13 0 [.ref b, .int a0] [] h (fun r h' => X 16 5 L (pv r []) h' Q) := X_virt (as := [.int a0]) (n := 1) (ml := 2) (ck := 0) mC_16 dX0_kindOf_2 (by unfold cOk; decide +kernel) ⟨rfl, rfl, by decide, Nat.le_of_ble_eq_true rfl⟩
theorem x16_5 {x : Int32} : X 16 5 L (.int x :: st) h Q ↔ if x = 0 then X 16 17 L st h Q else X 16 8 L st h Q := X_zeq mC_16 dX0_kindOf_5 (by decide)
theorem x16_8 {l1 : Value} {x : Nat} : X 16 8 [.ref x, l1] st h Q ↔ X 16 9 [.ref x, l1] (.ref x :: st) h Q := X_n mC_16 dX0_kindOf_8 rfl
theorem x16_9 {a : Nat} : X 16 9 L (.ref a :: st) h Q ↔ (hS h a = (1, 0) ∧ hR h a 0 ≠ 0) ∧ X 16 12 L (.ref (hR h a 0) :: st) h Q := X_getR mC_16 dX0_kindOf_9 (by decide +kernel)
theorem x16_12 {l0 : Value} {x : Int32} : X 16 12 [l0, .int x] st h Q ↔ X 16 13 [l0, .int x] (.int x :: st) h Q := X_n mC_16 dX0_kindOf_12 rfl
theorem x16_13 {j : Int32} {a : Nat} : X 16 13 L (.int j :: .ref a :: st) h Q ↔ ib j (hS h a) ∧ X 16 14 L (.int (hI h a j.toNatClampNeg) :: st) h Q := X_iald mC_16 dX0_kindOf_13
theorem x16_14 : X 16 14 L st h Q ↔ X 16 18 L st h Q := X_goto mC_16 dX0_kindOf_14 (by decide)
theorem x16_17 : X 16 17 L st h Q ↔ X 16 18 L (.int 0 :: st) h Q := X_n mC_16 dX0_kindOf_17 rfl
theorem x16_18 {v : Int32} : X 16 18 L [.int v] h Q ↔ Q (some (.int v)) h := X_ret mC_16 dX0_kindOf_18 (by decide +kernel)
theorem mC_17 : mC 17 = cX0_strengthOf := rfl
theorem x17_0 {l1 : Value} {x : Nat} : X 17 0 [.ref x, l1] st h Q ↔ X 17 1 [.ref x, l1] (.ref x :: st) h Q := X_n mC_17 dX0_strengthOf_0 rfl
theorem x17_1 {l0 : Value} {x : Int32} : X 17 1 [l0, .int x] st h Q ↔ X 17 2 [l0, .int x] (.int x :: st) h Q := X_n mC_17 dX0_strengthOf_1 rfl
theorem x17_2 {b : Nat} {a0 : Int32} : X 17 2 L [.int a0, .ref b] h Q ↔ hS h b = (1, 0) ∧ X 13 0 [.ref b, .int a0] [] h (fun r h' => X 17 5 L (pv r []) h' Q) := X_virt (as := [.int a0]) (n := 1) (ml := 2) (ck := 0) mC_17 dX0_strengthOf_2 (by unfold cOk; decide +kernel) ⟨rfl, rfl, by decide, Nat.le_of_ble_eq_true rfl⟩
theorem x17_5 {x : Int32} : X 17 5 L (.int x :: st) h Q ↔ if x = 0 then X 17 17 L st h Q else X 17 8 L st h Q := X_zeq mC_17 dX0_strengthOf_5 (by decide)
theorem x17_8 {l1 : Value} {x : Nat} : X 17 8 [.ref x, l1] st h Q ↔ X 17 9 [.ref x, l1] (.ref x :: st) h Q := X_n mC_17 dX0_strengthOf_8 rfl
theorem x17_9 {a : Nat} : X 17 9 L (.ref a :: st) h Q ↔ (hS h a = (1, 0) ∧ hR h a 1 ≠ 0) ∧ X 17 12 L (.ref (hR h a 1) :: st) h Q := X_getR mC_17 dX0_strengthOf_9 (by decide +kernel)
theorem x17_12 {l0 : Value} {x : Int32} : X 17 12 [l0, .int x] st h Q ↔ X 17 13 [l0, .int x] (.int x :: st) h Q := X_n mC_17 dX0_strengthOf_12 rfl
theorem x17_13 {j : Int32} {a : Nat} : X 17 13 L (.int j :: .ref a :: st) h Q ↔ ib j (hS h a) ∧ X 17 14 L (.int (hI h a j.toNatClampNeg) :: st) h Q := X_iald mC_17 dX0_strengthOf_13
theorem x17_14 : X 17 14 L st h Q ↔ X 17 18 L st h Q := X_goto mC_17 dX0_strengthOf_14 (by decide)
theorem x17_17 : X 17 17 L st h Q ↔ X 17 18 L (.int 0 :: st) h Q := X_n mC_17 dX0_strengthOf_17 rfl
theorem x17_18 {v : Int32} : X 17 18 L [.int v] h Q ↔ Q (some (.int v)) h := X_ret mC_17 dX0_strengthOf_18 (by decide +kernel)
theorem mC_18 : mC 18 = cX0_noteOf := rfl
theorem x18_0 {l1 : Value} {x : Nat} : X 18 0 [.ref x, l1] st h Q ↔ X 18 1 [.ref x, l1] (.ref x :: st) h Q := X_n mC_18 dX0_noteOf_0 rfl
theorem x18_1 {l0 : Value} {x : Int32} : X 18 1 [l0, .int x] st h Q ↔ X 18 2 [l0, .int x] (.int x :: st) h Q := X_n mC_18 dX0_noteOf_1 rfl
theorem x18_2 {b : Nat} {a0 : Int32} : X 18 2 L [.int a0, .ref b] h Q ↔ hS h b = (1, 0) ∧ X 13 0 [.ref b, .int a0] [] h (fun r h' => X 18 5 L (pv r []) h' Q) := X_virt (as := [.int a0]) (n := 1) (ml := 2) (ck := 0) mC_18 dX0_noteOf_2 (by unfold cOk; decide +kernel) ⟨rfl, rfl, by decide, Nat.le_of_ble_eq_true rfl⟩
theorem x18_5 {x : Int32} : X 18 5 L (.int x :: st) h Q ↔ if x = 0 then X 18 17 L st h Q else X 18 8 L st h Q := X_zeq mC_18 dX0_noteOf_5 (by decide)
theorem x18_8 {l1 : Value} {x : Nat} : X 18 8 [.ref x, l1] st h Q ↔ X 18 9 [.ref x, l1] (.ref x :: st) h Q := X_n mC_18 dX0_noteOf_8 rfl
theorem x18_9 {a : Nat} : X 18 9 L (.ref a :: st) h Q ↔ (hS h a = (1, 0) ∧ hR h a 2 ≠ 0) ∧ X 18 12 L (.ref (hR h a 2) :: st) h Q := X_getR mC_18 dX0_noteOf_9 (by decide +kernel)
theorem x18_12 {l0 : Value} {x : Int32} : X 18 12 [l0, .int x] st h Q ↔ X 18 13 [l0, .int x] (.int x :: st) h Q := X_n mC_18 dX0_noteOf_12 rfl
theorem x18_13 {j : Int32} {a : Nat} : X 18 13 L (.int j :: .ref a :: st) h Q ↔ ib j (hS h a) ∧ X 18 14 L (.int (hI h a j.toNatClampNeg) :: st) h Q := X_iald mC_18 dX0_noteOf_13
theorem x18_14 : X 18 14 L st h Q ↔ X 18 18 L st h Q := X_goto mC_18 dX0_noteOf_14 (by decide)
theorem x18_17 : X 18 17 L st h Q ↔ X 18 18 L (.int 0 :: st) h Q := X_n mC_18 dX0_noteOf_17 rfl
theorem x18_18 {v : Int32} : X 18 18 L [.int v] h Q ↔ Q (some (.int v)) h := X_ret mC_18 dX0_noteOf_18 (by decide +kernel)
theorem mC_19 : mC 19 = cX0_lightnessOf := rfl
theorem x19_0 {l1 : Value} {x : Nat} : X 19 0 [.ref x, l1] st h Q ↔ X 19 1 [.ref x, l1] (.ref x :: st) h Q := X_n mC_19 dX0_lightnessOf_0 rfl
theorem x19_1 {l0 : Value} {x : Int32} : X 19 1 [l0, .int x] st h Q ↔ X 19 2 [l0, .int x] (.int x :: st) h Q := X_n mC_19 dX0_lightnessOf_1 rfl
theorem x19_2 {b : Nat} {a0 : Int32} : X 19 2 L [.int a0, .ref b] h Q ↔ hS h b = (1, 0) ∧ X 13 0 [.ref b, .int a0] [] h (fun r h' => X 19 5 L (pv r []) h' Q) := X_virt (as := [.int a0]) (n := 1) (ml := 2) (ck := 0) mC_19 dX0_lightnessOf_2 (by unfold cOk; decide +kernel) ⟨rfl, rfl, by decide, Nat.le_of_ble_eq_true rfl⟩
theorem x19_5 {x : Int32} : X 19 5 L (.int x :: st) h Q ↔ if x = 0 then X 19 17 L st h Q else X 19 8 L st h Q := X_zeq mC_19 dX0_lightnessOf_5 (by decide)
theorem x19_8 {l1 : Value} {x : Nat} : X 19 8 [.ref x, l1] st h Q ↔ X 19 9 [.ref x, l1] (.ref x :: st) h Q := X_n mC_19 dX0_lightnessOf_8 rfl
theorem x19_9 {a : Nat} : X 19 9 L (.ref a :: st) h Q ↔ (hS h a = (1, 0) ∧ hR h a 3 ≠ 0) ∧ X 19 12 L (.ref (hR h a 3) :: st) h Q := X_getR mC_19 dX0_lightnessOf_9 (by decide +kernel)
theorem x19_12 {l0 : Value} {x : Int32} : X 19 12 [l0, .int x] st h Q ↔ X 19 13 [l0, .int x] (.int x :: st) h Q := X_n mC_19 dX0_lightnessOf_12 rfl
theorem x19_13 {j : Int32} {a : Nat} : X 19 13 L (.int j :: .ref a :: st) h Q ↔ ib j (hS h a) ∧ X 19 14 L (.int (hI h a j.toNatClampNeg) :: st) h Q := X_iald mC_19 dX0_lightnessOf_13
theorem x19_14 : X 19 14 L st h Q ↔ X 19 18 L st h Q := X_goto mC_19 dX0_lightnessOf_14 (by decide)
theorem x19_17 : X 19 17 L st h Q ↔ X 19 18 L (.int 0 :: st) h Q := X_n mC_19 dX0_lightnessOf_17 rfl
theorem x19_18 {v : Int32} : X 19 18 L [.int v] h Q ↔ Q (some (.int v)) h := X_ret mC_19 dX0_lightnessOf_18 (by decide +kernel)
theorem mC_20 : mC 20 = cX0_firstPlaceOf := rfl
theorem x20_0 {l1 : Value} {x : Nat} : X 20 0 [.ref x, l1] st h Q ↔ X 20 1 [.ref x, l1] (.ref x :: st) h Q := X_n mC_20 dX0_firstPlaceOf_0 rfl
theorem x20_1 {l0 : Value} {x : Int32} : X 20 1 [l0, .int x] st h Q ↔ X 20 2 [l0, .int x] (.int x :: st) h Q := X_n mC_20 dX0_firstPlaceOf_1 rfl
theorem x20_2 {b : Nat} {a0 : Int32} : X 20 2 L [.int a0, .ref b] h Q ↔ hS h b = (1, 0) ∧ X 13 0 [.ref b, .int a0] [] h (fun r h' => X 20 5 L (pv r []) h' Q) := X_virt (as := [.int a0]) (n := 1) (ml := 2) (ck := 0) mC_20 dX0_firstPlaceOf_2 (by unfold cOk; decide +kernel) ⟨rfl, rfl, by decide, Nat.le_of_ble_eq_true rfl⟩
theorem x20_5 {x : Int32} : X 20 5 L (.int x :: st) h Q ↔ if x = 0 then X 20 17 L st h Q else X 20 8 L st h Q := X_zeq mC_20 dX0_firstPlaceOf_5 (by decide)
theorem x20_8 {l1 : Value} {x : Nat} : X 20 8 [.ref x, l1] st h Q ↔ X 20 9 [.ref x, l1] (.ref x :: st) h Q := X_n mC_20 dX0_firstPlaceOf_8 rfl
theorem x20_9 {a : Nat} : X 20 9 L (.ref a :: st) h Q ↔ (hS h a = (1, 0) ∧ hR h a 4 ≠ 0) ∧ X 20 12 L (.ref (hR h a 4) :: st) h Q := X_getR mC_20 dX0_firstPlaceOf_9 (by decide +kernel)
theorem x20_12 {l0 : Value} {x : Int32} : X 20 12 [l0, .int x] st h Q ↔ X 20 13 [l0, .int x] (.int x :: st) h Q := X_n mC_20 dX0_firstPlaceOf_12 rfl
theorem x20_13 {j : Int32} {a : Nat} : X 20 13 L (.int j :: .ref a :: st) h Q ↔ ib j (hS h a) ∧ X 20 14 L (.int (hI h a j.toNatClampNeg) :: st) h Q := X_iald mC_20 dX0_firstPlaceOf_13
theorem x20_14 : X 20 14 L st h Q ↔ X 20 18 L st h Q := X_goto mC_20 dX0_firstPlaceOf_14 (by decide)
theorem x20_17 : X 20 17 L st h Q ↔ X 20 18 L (.int 0 :: st) h Q := X_n mC_20 dX0_firstPlaceOf_17 rfl
theorem x20_18 {v : Int32} : X 20 18 L [.int v] h Q ↔ Q (some (.int v)) h := X_ret mC_20 dX0_firstPlaceOf_18 (by decide +kernel)
theorem mC_21 : mC 21 = cX0_loudness := rfl
theorem x21_0 {l1 l2 l3 : Value} {x : Nat} : X 21 0 [.ref x, l1, l2, l3] st h Q ↔ X 21 1 [.ref x, l1, l2, l3] (.ref x :: st) h Q := X_n mC_21 dX0_loudness_0 rfl
theorem x21_1 {l0 l2 l3 : Value} {x : Int32} : X 21 1 [l0, .int x, l2, l3] st h Q ↔ X 21 2 [l0, .int x, l2, l3] (.int x :: st) h Q := X_n mC_21 dX0_loudness_1 rfl
theorem x21_2 {b : Nat} {a0 : Int32} : X 21 2 L [.int a0, .ref b] h Q ↔ hS h b = (1, 0) ∧ X 13 0 [.ref b, .int a0] [] h (fun r h' => X 21 5 L (pv r []) h' Q) := X_virt (as := [.int a0]) (n := 1) (ml := 2) (ck := 0) mC_21 dX0_loudness_2 (by unfold cOk; decide +kernel) ⟨rfl, rfl, by decide, Nat.le_of_ble_eq_true rfl⟩
theorem x21_5 {x : Int32} : X 21 5 L (.int x :: st) h Q ↔ if x = 0 then X 21 8 L st h Q else X 21 10 L st h Q := X_zne mC_21 dX0_loudness_5 (by decide)
theorem x21_8 : X 21 8 L st h Q ↔ X 21 9 L (.int 0 :: st) h Q := X_n mC_21 dX0_loudness_8 rfl
theorem x21_9 {v : Int32} : X 21 9 L [.int v] h Q ↔ Q (some (.int v)) h := X_ret mC_21 dX0_loudness_9 (by decide +kernel)
theorem x21_10 {l1 l2 l3 : Value} {x : Nat} : X 21 10 [.ref x, l1, l2, l3] st h Q ↔ X 21 11 [.ref x, l1, l2, l3] (.ref x :: st) h Q := X_n mC_21 dX0_loudness_10 rfl
theorem x21_11 {a : Nat} : X 21 11 L (.ref a :: st) h Q ↔ (hS h a = (1, 0) ∧ hR h a 1 ≠ 0) ∧ X 21 14 L (.ref (hR h a 1) :: st) h Q := X_getR mC_21 dX0_loudness_11 (by decide +kernel)
theorem x21_14 {l0 l2 l3 : Value} {x : Int32} : X 21 14 [l0, .int x, l2, l3] st h Q ↔ X 21 15 [l0, .int x, l2, l3] (.int x :: st) h Q := X_n mC_21 dX0_loudness_14 rfl
theorem x21_15 {j : Int32} {a : Nat} : X 21 15 L (.int j :: .ref a :: st) h Q ↔ ib j (hS h a) ∧ X 21 16 L (.int (hI h a j.toNatClampNeg) :: st) h Q := X_iald mC_21 dX0_loudness_15
theorem x21_16 {l0 l1 l2 l3 : Value} {x : Int32} : X 21 16 [l0, l1, l2, l3] (.int x :: st) h Q ↔ c1 l2 = true ∧ X 21 17 [l0, l1, l2, .int x] st h Q := X_sto (kk := 3) (pc' := 17) (w := .int x) mC_21 dX0_loudness_16 rfl (Nat.le_of_ble_eq_true rfl) rfl
theorem x21_17 {l1 l2 l3 : Value} {x : Nat} : X 21 17 [.ref x, l1, l2, l3] st h Q ↔ X 21 18 [.ref x, l1, l2, l3] (.ref x :: st) h Q := X_n mC_21 dX0_loudness_17 rfl
theorem x21_18 {a : Nat} : X 21 18 L (.ref a :: st) h Q ↔ (hS h a = (1, 0) ∧ hR h a 0 ≠ 0) ∧ X 21 21 L (.ref (hR h a 0) :: st) h Q := X_getR mC_21 dX0_loudness_18 (by decide +kernel)
theorem x21_21 {l0 l2 l3 : Value} {x : Int32} : X 21 21 [l0, .int x, l2, l3] st h Q ↔ X 21 22 [l0, .int x, l2, l3] (.int x :: st) h Q := X_n mC_21 dX0_loudness_21 rfl
theorem x21_22 {j : Int32} {a : Nat} : X 21 22 L (.int j :: .ref a :: st) h Q ↔ ib j (hS h a) ∧ X 21 23 L (.int (hI h a j.toNatClampNeg) :: st) h Q := X_iald mC_21 dX0_loudness_22
theorem x21_23 {x : Int32} : X 21 23 L (.int x :: st) h Q ↔ if x = 1 then X 21 48 L st h Q else if x = 2 then X 21 62 L st h Q else if x = 3 then X 21 74 L st h Q else X 21 88 L st h Q := by
  by_cases h1 : x = 1
  · subst h1; simp only [if_true]; exact X_tabIn (off := 25) mC_21 dX0_loudness_23 ⟨by decide, by decide⟩ (by decide)
  rw [if_neg h1]
  by_cases h2 : x = 2
  · subst h2; simp only [if_true]; exact X_tabIn (off := 39) mC_21 dX0_loudness_23 ⟨by decide, by decide⟩ (by decide)
  rw [if_neg h2]
  by_cases h3 : x = 3
  · subst h3; simp only [if_true]; exact X_tabIn (off := 51) mC_21 dX0_loudness_23 ⟨by decide, by decide⟩ (by decide)
  rw [if_neg h3]
  have q1 := toInt_ne h1
  rw [show (1 : Int32).toInt = 1 by decide] at q1
  have q2 := toInt_ne h2
  rw [show (2 : Int32).toInt = 2 by decide] at q2
  have q3 := toInt_ne h3
  rw [show (3 : Int32).toInt = 3 by decide] at q3
  exact X_tabOut mC_21 dX0_loudness_23 (by omega) (by decide)
theorem x21_48 : X 21 48 L st h Q ↔ X 21 50 L (.int 40 :: st) h Q := X_n mC_21 dX0_loudness_48 rfl
theorem x21_50 {l0 l1 l2 : Value} {x : Int32} : X 21 50 [l0, l1, l2, .int x] st h Q ↔ X 21 51 [l0, l1, l2, .int x] (.int x :: st) h Q := X_n mC_21 dX0_loudness_50 rfl
theorem x21_51 : X 21 51 L st h Q ↔ X 21 52 L (.int 2 :: st) h Q := X_n mC_21 dX0_loudness_51 rfl
theorem x21_52 : X 21 52 L st h Q ↔ X 21 54 L (.int 7 :: st) h Q := X_n mC_21 dX0_loudness_52 rfl
theorem x21_54 {l0 l1 l3 : Value} {x : Int32} : X 21 54 [l0, l1, .int x, l3] st h Q ↔ X 21 55 [l0, l1, .int x, l3] (.int x :: st) h Q := X_n mC_21 dX0_loudness_54 rfl
theorem x21_55 {x y : Int32} : X 21 55 L (.int y :: .int x :: st) h Q ↔ X 21 56 L (.int (x - y) :: st) h Q := X_n mC_21 dX0_loudness_55 rfl
theorem x21_56 {x y : Int32} : X 21 56 L (.int y :: .int x :: st) h Q ↔ X 21 57 L (.int (x * y) :: st) h Q := X_n mC_21 dX0_loudness_56 rfl
theorem x21_57 {x y : Int32} : X 21 57 L (.int y :: .int x :: st) h Q ↔ X 21 58 L (.int (x + y) :: st) h Q := X_n mC_21 dX0_loudness_57 rfl
theorem x21_58 {x y : Int32} : X 21 58 L [.int y, .int x] h Q ↔ X 21 61 L [.int (if y < x then y else x)] h Q := X_min (n := 2) mC_21 dX0_loudness_58 (by decide +kernel) (Nat.le_of_ble_eq_true rfl)
theorem x21_61 {v : Int32} : X 21 61 L [.int v] h Q ↔ Q (some (.int v)) h := X_ret mC_21 dX0_loudness_61 (by decide +kernel)
theorem x21_62 {l0 l1 l3 : Value} {x : Int32} : X 21 62 [l0, l1, .int x, l3] st h Q ↔ X 21 63 [l0, l1, .int x, l3] (.int x :: st) h Q := X_n mC_21 dX0_loudness_62 rfl
theorem x21_63 : X 21 63 L st h Q ↔ X 21 64 L (.int 2 :: st) h Q := X_n mC_21 dX0_loudness_63 rfl
theorem x21_64 {x y : Int32} : X 21 64 L (.int y :: .int x :: st) h Q ↔ (¬ y = 0) ∧ X 21 65 L (.int (x - x / y * y) :: st) h Q := X_gd mC_21 dX0_loudness_64 rfl
theorem x21_65 {x : Int32} : X 21 65 L (.int x :: st) h Q ↔ if x = 0 then X 21 68 L st h Q else X 21 72 L st h Q := X_zne mC_21 dX0_loudness_65 (by decide)
theorem x21_68 {l0 l1 l2 : Value} {x : Int32} : X 21 68 [l0, l1, l2, .int x] st h Q ↔ X 21 69 [l0, l1, l2, .int x] (.int x :: st) h Q := X_n mC_21 dX0_loudness_68 rfl
theorem x21_69 : X 21 69 L st h Q ↔ X 21 73 L st h Q := X_goto mC_21 dX0_loudness_69 (by decide)
theorem x21_72 : X 21 72 L st h Q ↔ X 21 73 L (.int 0 :: st) h Q := X_n mC_21 dX0_loudness_72 rfl
theorem x21_73 {v : Int32} : X 21 73 L [.int v] h Q ↔ Q (some (.int v)) h := X_ret mC_21 dX0_loudness_73 (by decide +kernel)
theorem x21_74 {l0 l1 l3 : Value} {x : Int32} : X 21 74 [l0, l1, .int x, l3] st h Q ↔ X 21 75 [l0, l1, .int x, l3] (.int x :: st) h Q := X_n mC_21 dX0_loudness_74 rfl
theorem x21_75 : X 21 75 L st h Q ↔ X 21 76 L (.int 2 :: st) h Q := X_n mC_21 dX0_loudness_75 rfl
theorem x21_76 {x y : Int32} : X 21 76 L (.int y :: .int x :: st) h Q ↔ if y < x then X 21 86 L st h Q else X 21 79 L st h Q := X_igt mC_21 dX0_loudness_76 (by decide)
theorem x21_79 {l0 l1 l2 : Value} {x : Int32} : X 21 79 [l0, l1, l2, .int x] st h Q ↔ X 21 80 [l0, l1, l2, .int x] (.int x :: st) h Q := X_n mC_21 dX0_loudness_79 rfl
theorem x21_80 : X 21 80 L st h Q ↔ X 21 82 L (.int 10 :: st) h Q := X_n mC_21 dX0_loudness_80 rfl
theorem x21_82 {x y : Int32} : X 21 82 L (.int y :: .int x :: st) h Q ↔ X 21 83 L (.int (x + y) :: st) h Q := X_n mC_21 dX0_loudness_82 rfl
theorem x21_83 : X 21 83 L st h Q ↔ X 21 87 L st h Q := X_goto mC_21 dX0_loudness_83 (by decide)
theorem x21_86 {l0 l1 l2 : Value} {x : Int32} : X 21 86 [l0, l1, l2, .int x] st h Q ↔ X 21 87 [l0, l1, l2, .int x] (.int x :: st) h Q := X_n mC_21 dX0_loudness_86 rfl
theorem x21_87 {v : Int32} : X 21 87 L [.int v] h Q ↔ Q (some (.int v)) h := X_ret mC_21 dX0_loudness_87 (by decide +kernel)
theorem x21_88 {l0 l1 l2 : Value} {x : Int32} : X 21 88 [l0, l1, l2, .int x] st h Q ↔ X 21 89 [l0, l1, l2, .int x] (.int x :: st) h Q := X_n mC_21 dX0_loudness_88 rfl
theorem x21_89 {v : Int32} : X 21 89 L [.int v] h Q ↔ Q (some (.int v)) h := X_ret mC_21 dX0_loudness_89 (by decide +kernel)
theorem mC_22 : mC 22 = cX0_areHumming := rfl
theorem x22_0 {l1 l2 : Value} {x : Nat} : X 22 0 [.ref x, l1, l2] st h Q ↔ X 22 1 [.ref x, l1, l2] (.ref x :: st) h Q := X_n mC_22 dX0_areHumming_0 rfl
theorem x22_1 {l0 l2 : Value} {x : Int32} : X 22 1 [l0, .int x, l2] st h Q ↔ X 22 2 [l0, .int x, l2] (.int x :: st) h Q := X_n mC_22 dX0_areHumming_1 rfl
theorem x22_2 {b : Nat} {a0 : Int32} : X 22 2 L [.int a0, .ref b] h Q ↔ hS h b = (1, 0) ∧ X 13 0 [.ref b, .int a0] [] h (fun r h' => X 22 5 L (pv r []) h' Q) := X_virt (as := [.int a0]) (n := 1) (ml := 2) (ck := 0) mC_22 dX0_areHumming_2 (by unfold cOk; decide +kernel) ⟨rfl, rfl, by decide, Nat.le_of_ble_eq_true rfl⟩
theorem x22_5 {x : Int32} : X 22 5 L (.int x :: st) h Q ↔ if x = 0 then X 22 16 L st h Q else X 22 8 L st h Q := X_zeq mC_22 dX0_areHumming_5 (by decide)
theorem x22_8 {l1 l2 : Value} {x : Nat} : X 22 8 [.ref x, l1, l2] st h Q ↔ X 22 9 [.ref x, l1, l2] (.ref x :: st) h Q := X_n mC_22 dX0_areHumming_8 rfl
theorem x22_9 {l0 l1 : Value} {x : Int32} : X 22 9 [l0, l1, .int x] st h Q ↔ X 22 10 [l0, l1, .int x] (.int x :: st) h Q := X_n mC_22 dX0_areHumming_9 rfl
theorem x22_10 {b : Nat} {a0 : Int32} : X 22 10 L [.int a0, .ref b] h Q ↔ hS h b = (1, 0) ∧ X 13 0 [.ref b, .int a0] [] h (fun r h' => X 22 13 L (pv r []) h' Q) := X_virt (as := [.int a0]) (n := 1) (ml := 2) (ck := 0) mC_22 dX0_areHumming_10 (by unfold cOk; decide +kernel) ⟨rfl, rfl, by decide, Nat.le_of_ble_eq_true rfl⟩
theorem x22_13 {x : Int32} : X 22 13 L (.int x :: st) h Q ↔ if x = 0 then X 22 16 L st h Q else X 22 18 L st h Q := X_zne mC_22 dX0_areHumming_13 (by decide)
theorem x22_16 : X 22 16 L st h Q ↔ X 22 17 L (.int 0 :: st) h Q := X_n mC_22 dX0_areHumming_16 rfl
theorem x22_17 {v : Int32} : X 22 17 L [.int v] h Q ↔ (v = 0 ∨ v = 1) ∧ Q (some (.int v)) h := X_retZ mC_22 dX0_areHumming_17 (by decide +kernel)
theorem x22_18 {l1 l2 : Value} {x : Nat} : X 22 18 [.ref x, l1, l2] st h Q ↔ X 22 19 [.ref x, l1, l2] (.ref x :: st) h Q := X_n mC_22 dX0_areHumming_18 rfl
theorem x22_19 {a : Nat} : X 22 19 L (.ref a :: st) h Q ↔ (hS h a = (1, 0) ∧ hR h a 2 ≠ 0) ∧ X 22 22 L (.ref (hR h a 2) :: st) h Q := X_getR mC_22 dX0_areHumming_19 (by decide +kernel)
theorem x22_22 {l0 l2 : Value} {x : Int32} : X 22 22 [l0, .int x, l2] st h Q ↔ X 22 23 [l0, .int x, l2] (.int x :: st) h Q := X_n mC_22 dX0_areHumming_22 rfl
theorem x22_23 {j : Int32} {a : Nat} : X 22 23 L (.int j :: .ref a :: st) h Q ↔ ib j (hS h a) ∧ X 22 24 L (.int (hI h a j.toNatClampNeg) :: st) h Q := X_iald mC_22 dX0_areHumming_23
theorem x22_24 {l1 l2 : Value} {x : Nat} : X 22 24 [.ref x, l1, l2] st h Q ↔ X 22 25 [.ref x, l1, l2] (.ref x :: st) h Q := X_n mC_22 dX0_areHumming_24 rfl
theorem x22_25 {a : Nat} : X 22 25 L (.ref a :: st) h Q ↔ (hS h a = (1, 0) ∧ hR h a 2 ≠ 0) ∧ X 22 28 L (.ref (hR h a 2) :: st) h Q := X_getR mC_22 dX0_areHumming_25 (by decide +kernel)
theorem x22_28 {l0 l1 : Value} {x : Int32} : X 22 28 [l0, l1, .int x] st h Q ↔ X 22 29 [l0, l1, .int x] (.int x :: st) h Q := X_n mC_22 dX0_areHumming_28 rfl
theorem x22_29 {j : Int32} {a : Nat} : X 22 29 L (.int j :: .ref a :: st) h Q ↔ ib j (hS h a) ∧ X 22 30 L (.int (hI h a j.toNatClampNeg) :: st) h Q := X_iald mC_22 dX0_areHumming_29
theorem x22_30 {x y : Int32} : X 22 30 L (.int y :: .int x :: st) h Q ↔ X 22 31 L (.int (x - y) :: st) h Q := X_n mC_22 dX0_areHumming_30 rfl
theorem x22_31 {x : Int32} : X 22 31 L [.int x] h Q ↔ X 22 34 L [.int (if 0 ≤ x then x else 0 - x)] h Q := X_abs (n := 1) mC_22 dX0_areHumming_31 (by decide +kernel) (Nat.le_of_ble_eq_true rfl)
theorem x22_34 {l1 l2 : Value} {x : Nat} : X 22 34 [.ref x, l1, l2] st h Q ↔ X 22 35 [.ref x, l1, l2] (.ref x :: st) h Q := X_n mC_22 dX0_areHumming_34 rfl
theorem x22_35 {a : Nat} : X 22 35 L (.ref a :: st) h Q ↔ hS h a = (1, 0) ∧ X 22 38 L (.int (hI h a 9) :: st) h Q := X_getI mC_22 dX0_areHumming_35 (by decide +kernel)
theorem x22_38 {x y : Int32} : X 22 38 L (.int y :: .int x :: st) h Q ↔ if x = y then X 22 61 L st h Q else X 22 41 L st h Q := X_ieq mC_22 dX0_areHumming_38 (by decide)
theorem x22_41 {l1 l2 : Value} {x : Nat} : X 22 41 [.ref x, l1, l2] st h Q ↔ X 22 42 [.ref x, l1, l2] (.ref x :: st) h Q := X_n mC_22 dX0_areHumming_41 rfl
theorem x22_42 {a : Nat} : X 22 42 L (.ref a :: st) h Q ↔ (hS h a = (1, 0) ∧ hR h a 2 ≠ 0) ∧ X 22 45 L (.ref (hR h a 2) :: st) h Q := X_getR mC_22 dX0_areHumming_42 (by decide +kernel)
theorem x22_45 {l0 l2 : Value} {x : Int32} : X 22 45 [l0, .int x, l2] st h Q ↔ X 22 46 [l0, .int x, l2] (.int x :: st) h Q := X_n mC_22 dX0_areHumming_45 rfl
theorem x22_46 {j : Int32} {a : Nat} : X 22 46 L (.int j :: .ref a :: st) h Q ↔ ib j (hS h a) ∧ X 22 47 L (.int (hI h a j.toNatClampNeg) :: st) h Q := X_iald mC_22 dX0_areHumming_46
theorem x22_47 {l1 l2 : Value} {x : Nat} : X 22 47 [.ref x, l1, l2] st h Q ↔ X 22 48 [.ref x, l1, l2] (.ref x :: st) h Q := X_n mC_22 dX0_areHumming_47 rfl
theorem x22_48 {a : Nat} : X 22 48 L (.ref a :: st) h Q ↔ (hS h a = (1, 0) ∧ hR h a 2 ≠ 0) ∧ X 22 51 L (.ref (hR h a 2) :: st) h Q := X_getR mC_22 dX0_areHumming_48 (by decide +kernel)
theorem x22_51 {l0 l1 : Value} {x : Int32} : X 22 51 [l0, l1, .int x] st h Q ↔ X 22 52 [l0, l1, .int x] (.int x :: st) h Q := X_n mC_22 dX0_areHumming_51 rfl
theorem x22_52 {j : Int32} {a : Nat} : X 22 52 L (.int j :: .ref a :: st) h Q ↔ ib j (hS h a) ∧ X 22 53 L (.int (hI h a j.toNatClampNeg) :: st) h Q := X_iald mC_22 dX0_areHumming_52
theorem x22_53 {x y : Int32} : X 22 53 L (.int y :: .int x :: st) h Q ↔ X 22 54 L (.int (x + y) :: st) h Q := X_n mC_22 dX0_areHumming_53 rfl
theorem x22_54 {l1 l2 : Value} {x : Nat} : X 22 54 [.ref x, l1, l2] st h Q ↔ X 22 55 [.ref x, l1, l2] (.ref x :: st) h Q := X_n mC_22 dX0_areHumming_54 rfl
theorem x22_55 {a : Nat} : X 22 55 L (.ref a :: st) h Q ↔ hS h a = (1, 0) ∧ X 22 58 L (.int (hI h a 9) :: st) h Q := X_getI mC_22 dX0_areHumming_55 (by decide +kernel)
theorem x22_58 {x y : Int32} : X 22 58 L (.int y :: .int x :: st) h Q ↔ if x = y then X 22 61 L st h Q else X 22 65 L st h Q := X_ine mC_22 dX0_areHumming_58 (by decide)
theorem x22_61 : X 22 61 L st h Q ↔ X 22 62 L (.int 1 :: st) h Q := X_n mC_22 dX0_areHumming_61 rfl
theorem x22_62 : X 22 62 L st h Q ↔ X 22 66 L st h Q := X_goto mC_22 dX0_areHumming_62 (by decide)
theorem x22_65 : X 22 65 L st h Q ↔ X 22 66 L (.int 0 :: st) h Q := X_n mC_22 dX0_areHumming_65 rfl
theorem x22_66 {v : Int32} : X 22 66 L [.int v] h Q ↔ (v = 0 ∨ v = 1) ∧ Q (some (.int v)) h := X_retZ mC_22 dX0_areHumming_66 (by decide +kernel)
theorem mC_23 : mC 23 = cX0_soundOf := rfl
theorem x23_0 {l1 l2 l3 l4 l5 : Value} {x : Nat} : X 23 0 [.ref x, l1, l2, l3, l4, l5] st h Q ↔ X 23 1 [.ref x, l1, l2, l3, l4, l5] (.ref x :: st) h Q := X_n mC_23 dX0_soundOf_0 rfl
theorem x23_1 {l0 l2 l3 l4 l5 : Value} {x : Int32} : X 23 1 [l0, .int x, l2, l3, l4, l5] st h Q ↔ X 23 2 [l0, .int x, l2, l3, l4, l5] (.int x :: st) h Q := X_n mC_23 dX0_soundOf_1 rfl
theorem x23_2 {l0 l1 l2 l3 l5 : Value} {x : Int32} : X 23 2 [l0, l1, l2, l3, .int x, l5] st h Q ↔ X 23 4 [l0, l1, l2, l3, .int x, l5] (.int x :: st) h Q := X_n mC_23 dX0_soundOf_2 rfl
theorem x23_4 {b : Nat} {a0 : Int32} {a1 : Int32} : X 23 4 L [.int a1, .int a0, .ref b] h Q ↔ hS h b = (1, 0) ∧ X 21 0 [.ref b, .int a0, .int a1, .null] [] h (fun r h' => X 23 7 L (pv r []) h' Q) := X_virt (as := [.int a0, .int a1]) (n := 2) (ml := 4) (ck := 0) mC_23 dX0_soundOf_4 (by unfold cOk; decide +kernel) ⟨rfl, rfl, by decide, Nat.le_of_ble_eq_true rfl⟩
theorem x23_7 {l0 l1 l2 l3 l4 l5 : Value} {x : Int32} : X 23 7 [l0, l1, l2, l3, l4, l5] (.int x :: st) h Q ↔ c1 l4 = true ∧ X 23 9 [l0, l1, l2, l3, l4, .int x] st h Q := X_sto (kk := 5) (pc' := 9) (w := .int x) mC_23 dX0_soundOf_7 rfl (Nat.le_of_ble_eq_true rfl) rfl
theorem x23_9 {l0 l1 l2 l4 l5 : Value} {x : Nat} : X 23 9 [l0, l1, l2, .ref x, l4, l5] st h Q ↔ X 23 10 [l0, l1, l2, .ref x, l4, l5] (.ref x :: st) h Q := X_n mC_23 dX0_soundOf_9 rfl
theorem x23_10 {l0 l1 l2 l4 l5 : Value} {x : Nat} : X 23 10 [l0, l1, l2, .ref x, l4, l5] st h Q ↔ X 23 11 [l0, l1, l2, .ref x, l4, l5] (.ref x :: st) h Q := X_n mC_23 dX0_soundOf_10 rfl
theorem x23_11 {l0 l2 l3 l4 l5 : Value} {x : Int32} : X 23 11 [l0, .int x, l2, l3, l4, l5] st h Q ↔ X 23 12 [l0, .int x, l2, l3, l4, l5] (.int x :: st) h Q := X_n mC_23 dX0_soundOf_11 rfl
theorem x23_12 {b : Nat} {a0 : Int32} {w0 : Value} : X 23 12 L [.int a0, .ref b, w0] h Q ↔ hS h b = (1, 1) ∧ X 38 0 [.ref b, .int a0] [] h (fun r h' => X 23 15 L (pv r [w0]) h' Q) := X_virt (as := [.int a0]) (n := 1) (ml := 2) (ck := 1) mC_23 dX0_soundOf_12 (by unfold cOk; decide +kernel) ⟨rfl, rfl, by decide, Nat.le_of_ble_eq_true rfl⟩
theorem x23_15 {l0 l1 l2 l4 l5 : Value} {x : Nat} : X 23 15 [l0, l1, l2, .ref x, l4, l5] st h Q ↔ X 23 16 [l0, l1, l2, .ref x, l4, l5] (.ref x :: st) h Q := X_n mC_23 dX0_soundOf_15 rfl
theorem x23_16 {l0 l1 l3 l4 l5 : Value} {x : Int32} : X 23 16 [l0, l1, .int x, l3, l4, l5] st h Q ↔ X 23 17 [l0, l1, .int x, l3, l4, l5] (.int x :: st) h Q := X_n mC_23 dX0_soundOf_16 rfl
theorem x23_17 {b : Nat} {a0 : Int32} {w0 w1 : Value} : X 23 17 L [.int a0, .ref b, w0, w1] h Q ↔ hS h b = (1, 1) ∧ X 38 0 [.ref b, .int a0] [] h (fun r h' => X 23 20 L (pv r [w0, w1]) h' Q) := X_virt (as := [.int a0]) (n := 1) (ml := 2) (ck := 1) mC_23 dX0_soundOf_17 (by unfold cOk; decide +kernel) ⟨rfl, rfl, by decide, Nat.le_of_ble_eq_true rfl⟩
theorem x23_20 {x y : Int32} {w0 : Value} : X 23 20 L [.int y, .int x, w0] h Q ↔ X 23 23 L [.int (if y < x then y else x), w0] h Q := X_min (n := 2) mC_23 dX0_soundOf_20 (by decide +kernel) (Nat.le_of_ble_eq_true rfl)
theorem x23_23 {b : Nat} {a0 : Int32} : X 23 23 L [.int a0, .ref b] h Q ↔ hS h b = (1, 1) ∧ X 42 0 [.ref b, .int a0] [] h (fun r h' => X 23 26 L (pv r []) h' Q) := X_virt (as := [.int a0]) (n := 1) (ml := 2) (ck := 1) mC_23 dX0_soundOf_23 (by unfold cOk; decide +kernel) ⟨rfl, rfl, by decide, Nat.le_of_ble_eq_true rfl⟩
theorem x23_26 {x : Int32} : X 23 26 L (.int x :: st) h Q ↔ if x = 0 then X 23 35 L st h Q else X 23 29 L st h Q := X_zeq mC_23 dX0_soundOf_26 (by decide)
theorem x23_29 {l0 l1 l2 l3 l4 : Value} {x : Int32} : X 23 29 [l0, l1, l2, l3, l4, .int x] st h Q ↔ X 23 31 [l0, l1, l2, l3, l4, .int x] (.int x :: st) h Q := X_n mC_23 dX0_soundOf_29 rfl
theorem x23_31 : X 23 31 L st h Q ↔ X 23 32 L (.int 2 :: st) h Q := X_n mC_23 dX0_soundOf_31 rfl
theorem x23_32 {x y : Int32} : X 23 32 L (.int y :: .int x :: st) h Q ↔ (¬ y = 0) ∧ X 23 33 L (.int (x / y) :: st) h Q := X_gd mC_23 dX0_soundOf_32 rfl
theorem x23_33 {l0 l1 l2 l3 l4 l5 : Value} {x : Int32} : X 23 33 [l0, l1, l2, l3, l4, l5] (.int x :: st) h Q ↔ c1 l4 = true ∧ X 23 35 [l0, l1, l2, l3, l4, .int x] st h Q := X_sto (kk := 5) (pc' := 35) (w := .int x) mC_23 dX0_soundOf_33 rfl (Nat.le_of_ble_eq_true rfl) rfl
theorem x23_35 {l1 l2 l3 l4 l5 : Value} {x : Nat} : X 23 35 [.ref x, l1, l2, l3, l4, l5] st h Q ↔ X 23 36 [.ref x, l1, l2, l3, l4, l5] (.ref x :: st) h Q := X_n mC_23 dX0_soundOf_35 rfl
theorem x23_36 {l0 l2 l3 l4 l5 : Value} {x : Int32} : X 23 36 [l0, .int x, l2, l3, l4, l5] st h Q ↔ X 23 37 [l0, .int x, l2, l3, l4, l5] (.int x :: st) h Q := X_n mC_23 dX0_soundOf_36 rfl
theorem x23_37 {l0 l1 l3 l4 l5 : Value} {x : Int32} : X 23 37 [l0, l1, .int x, l3, l4, l5] st h Q ↔ X 23 38 [l0, l1, .int x, l3, l4, l5] (.int x :: st) h Q := X_n mC_23 dX0_soundOf_37 rfl
theorem x23_38 {b : Nat} {a0 : Int32} {a1 : Int32} : X 23 38 L [.int a1, .int a0, .ref b] h Q ↔ hS h b = (1, 0) ∧ X 22 0 [.ref b, .int a0, .int a1] [] h (fun r h' => X 23 41 L (pv r []) h' Q) := X_virt (as := [.int a0, .int a1]) (n := 2) (ml := 3) (ck := 0) mC_23 dX0_soundOf_38 (by unfold cOk; decide +kernel) ⟨rfl, rfl, by decide, Nat.le_of_ble_eq_true rfl⟩
theorem x23_41 {x : Int32} : X 23 41 L (.int x :: st) h Q ↔ if x = 0 then X 23 51 L st h Q else X 23 44 L st h Q := X_zeq mC_23 dX0_soundOf_41 (by decide)
theorem x23_44 {l0 l1 l2 l3 l4 : Value} {x : Int32} : X 23 44 [l0, l1, l2, l3, l4, .int x] st h Q ↔ X 23 46 [l0, l1, l2, l3, l4, .int x] (.int x :: st) h Q := X_n mC_23 dX0_soundOf_44 rfl
theorem x23_46 : X 23 46 L st h Q ↔ X 23 47 L (.int 4 :: st) h Q := X_n mC_23 dX0_soundOf_46 rfl
theorem x23_47 {x y : Int32} : X 23 47 L (.int y :: .int x :: st) h Q ↔ X 23 48 L (.int (x + y) :: st) h Q := X_n mC_23 dX0_soundOf_47 rfl
theorem x23_48 : X 23 48 L st h Q ↔ X 23 53 L st h Q := X_goto mC_23 dX0_soundOf_48 (by decide)
theorem x23_51 {l0 l1 l2 l3 l4 : Value} {x : Int32} : X 23 51 [l0, l1, l2, l3, l4, .int x] st h Q ↔ X 23 53 [l0, l1, l2, l3, l4, .int x] (.int x :: st) h Q := X_n mC_23 dX0_soundOf_51 rfl
theorem x23_53 {v : Int32} : X 23 53 L [.int v] h Q ↔ Q (some (.int v)) h := X_ret mC_23 dX0_soundOf_53 (by decide +kernel)
theorem mC_24 : mC 24 = cX0_hearing := rfl
theorem x24_0 : X 24 0 L st h Q ↔ X 24 1 L (.int 0 :: st) h Q := X_n mC_24 dX0_hearing_0 rfl
theorem x24_1 {l0 l1 l2 l3 l4 l5 : Value} {x : Int32} : X 24 1 [l0, l1, l2, l3, l4, l5] (.int x :: st) h Q ↔ c1 l3 = true ∧ X 24 3 [l0, l1, l2, l3, .int x, l5] st h Q := X_sto (kk := 4) (pc' := 3) (w := .int x) mC_24 dX0_hearing_1 rfl (Nat.le_of_ble_eq_true rfl) rfl
theorem x24_3 : X 24 3 L st h Q ↔ X 24 4 L (.int 0 :: st) h Q := X_n mC_24 dX0_hearing_3 rfl
theorem x24_4 {l0 l1 l2 l3 l4 l5 : Value} {x : Int32} : X 24 4 [l0, l1, l2, l3, l4, l5] (.int x :: st) h Q ↔ c1 l4 = true ∧ X 24 6 [l0, l1, l2, l3, l4, .int x] st h Q := X_sto (kk := 5) (pc' := 6) (w := .int x) mC_24 dX0_hearing_4 rfl (Nat.le_of_ble_eq_true rfl) rfl
theorem x24_6 {l0 l1 l2 l3 l4 : Value} {x : Int32} : X 24 6 [l0, l1, l2, l3, l4, .int x] st h Q ↔ X 24 8 [l0, l1, l2, l3, l4, .int x] (.int x :: st) h Q := X_n mC_24 dX0_hearing_6 rfl
theorem x24_8 {l1 l2 l3 l4 l5 : Value} {x : Nat} : X 24 8 [.ref x, l1, l2, l3, l4, l5] st h Q ↔ X 24 9 [.ref x, l1, l2, l3, l4, l5] (.ref x :: st) h Q := X_n mC_24 dX0_hearing_8 rfl
theorem x24_9 {a : Nat} : X 24 9 L (.ref a :: st) h Q ↔ hS h a = (1, 0) ∧ X 24 12 L (.int (hI h a 5) :: st) h Q := X_getI mC_24 dX0_hearing_9 (by decide +kernel)
theorem x24_12 {x y : Int32} : X 24 12 L (.int y :: .int x :: st) h Q ↔ if x < y then X 24 15 L st h Q else X 24 45 L st h Q := X_ige mC_24 dX0_hearing_12 (by decide)
theorem x24_15 {l0 l1 l3 l4 l5 : Value} {x : Nat} : X 24 15 [l0, l1, .ref x, l3, l4, l5] st h Q ↔ X 24 16 [l0, l1, .ref x, l3, l4, l5] (.ref x :: st) h Q := X_n mC_24 dX0_hearing_15 rfl
theorem x24_16 {l0 l2 l3 l4 l5 : Value} {x : Int32} : X 24 16 [l0, .int x, l2, l3, l4, l5] st h Q ↔ X 24 17 [l0, .int x, l2, l3, l4, l5] (.int x :: st) h Q := X_n mC_24 dX0_hearing_16 rfl
theorem x24_17 {l0 l1 l2 l3 l4 : Value} {x : Int32} : X 24 17 [l0, l1, l2, l3, l4, .int x] st h Q ↔ X 24 19 [l0, l1, l2, l3, l4, .int x] (.int x :: st) h Q := X_n mC_24 dX0_hearing_17 rfl
theorem x24_19 {b : Nat} {a0 : Int32} {a1 : Int32} : X 24 19 L [.int a1, .int a0, .ref b] h Q ↔ hS h b = (1, 1) ∧ X 39 0 [.ref b, .int a0, .int a1, .null] [] h (fun r h' => X 24 22 L (pv r []) h' Q) := X_virt (as := [.int a0, .int a1]) (n := 2) (ml := 4) (ck := 1) mC_24 dX0_hearing_19 (by unfold cOk; decide +kernel) ⟨rfl, rfl, by decide, Nat.le_of_ble_eq_true rfl⟩
theorem x24_22 {x : Int32} : X 24 22 L (.int x :: st) h Q ↔ if x = 0 then X 24 39 L st h Q else X 24 25 L st h Q := X_zeq mC_24 dX0_hearing_22 (by decide)
theorem x24_25 {l0 l1 l2 l3 l5 : Value} {x : Int32} : X 24 25 [l0, l1, l2, l3, .int x, l5] st h Q ↔ X 24 27 [l0, l1, l2, l3, .int x, l5] (.int x :: st) h Q := X_n mC_24 dX0_hearing_25 rfl
theorem x24_27 {l1 l2 l3 l4 l5 : Value} {x : Nat} : X 24 27 [.ref x, l1, l2, l3, l4, l5] st h Q ↔ X 24 28 [.ref x, l1, l2, l3, l4, l5] (.ref x :: st) h Q := X_n mC_24 dX0_hearing_27 rfl
theorem x24_28 {l0 l1 l2 l3 l4 : Value} {x : Int32} : X 24 28 [l0, l1, l2, l3, l4, .int x] st h Q ↔ X 24 30 [l0, l1, l2, l3, l4, .int x] (.int x :: st) h Q := X_n mC_24 dX0_hearing_28 rfl
theorem x24_30 {l0 l2 l3 l4 l5 : Value} {x : Int32} : X 24 30 [l0, .int x, l2, l3, l4, l5] st h Q ↔ X 24 31 [l0, .int x, l2, l3, l4, l5] (.int x :: st) h Q := X_n mC_24 dX0_hearing_30 rfl
theorem x24_31 {l0 l1 l3 l4 l5 : Value} {x : Nat} : X 24 31 [l0, l1, .ref x, l3, l4, l5] st h Q ↔ X 24 32 [l0, l1, .ref x, l3, l4, l5] (.ref x :: st) h Q := X_n mC_24 dX0_hearing_31 rfl
theorem x24_32 {l0 l1 l2 l4 l5 : Value} {x : Int32} : X 24 32 [l0, l1, l2, .int x, l4, l5] st h Q ↔ X 24 33 [l0, l1, l2, .int x, l4, l5] (.int x :: st) h Q := X_n mC_24 dX0_hearing_32 rfl
theorem x24_33 {b : Nat} {a0 : Int32} {a1 : Int32} {a2 : Nat} {a3 : Int32} {w0 : Value} : X 24 33 L [.int a3, .ref a2, .int a1, .int a0, .ref b, w0] h Q ↔ hS h b = (1, 0) ∧ X 23 0 [.ref b, .int a0, .int a1, .ref a2, .int a3, .null] [] h (fun r h' => X 24 36 L (pv r [w0]) h' Q) := X_virt (as := [.int a0, .int a1, .ref a2, .int a3]) (n := 4) (ml := 6) (ck := 0) mC_24 dX0_hearing_33 (by unfold cOk; decide +kernel) ⟨rfl, rfl, by decide, Nat.le_of_ble_eq_true rfl⟩
theorem x24_36 {x y : Int32} : X 24 36 L (.int y :: .int x :: st) h Q ↔ X 24 37 L (.int (x + y) :: st) h Q := X_n mC_24 dX0_hearing_36 rfl
theorem x24_37 {l0 l1 l2 l3 l4 l5 : Value} {x : Int32} : X 24 37 [l0, l1, l2, l3, l4, l5] (.int x :: st) h Q ↔ c1 l3 = true ∧ X 24 39 [l0, l1, l2, l3, .int x, l5] st h Q := X_sto (kk := 4) (pc' := 39) (w := .int x) mC_24 dX0_hearing_37 rfl (Nat.le_of_ble_eq_true rfl) rfl
theorem x24_39 {l0 l1 l2 l3 l4 : Value} {x : Int32} : X 24 39 [l0, l1, l2, l3, l4, .int x] st h Q ↔ c1 l4 = true ∧ X 24 42 [l0, l1, l2, l3, l4, .int (x + 1)] st h Q := X_inc (pc' := 42) (x := x) mC_24 dX0_hearing_39 rfl rfl rfl
theorem x24_42 : X 24 42 L st h Q ↔ X 24 6 L st h Q := X_goto mC_24 dX0_hearing_42 (by decide)
theorem x24_45 {l0 l1 l2 l3 l5 : Value} {x : Int32} : X 24 45 [l0, l1, l2, l3, .int x, l5] st h Q ↔ X 24 47 [l0, l1, l2, l3, .int x, l5] (.int x :: st) h Q := X_n mC_24 dX0_hearing_45 rfl
theorem x24_47 {v : Int32} : X 24 47 L [.int v] h Q ↔ Q (some (.int v)) h := X_ret mC_24 dX0_hearing_47 (by decide +kernel)
theorem mC_25 : mC 25 = cX0_isWoken := rfl
theorem x25_0 {l1 l2 l3 : Value} {x : Nat} : X 25 0 [.ref x, l1, l2, l3] st h Q ↔ X 25 1 [.ref x, l1, l2, l3] (.ref x :: st) h Q := X_n mC_25 dX0_isWoken_0 rfl
theorem x25_1 {l0 l2 l3 : Value} {x : Int32} : X 25 1 [l0, .int x, l2, l3] st h Q ↔ X 25 2 [l0, .int x, l2, l3] (.int x :: st) h Q := X_n mC_25 dX0_isWoken_1 rfl
theorem x25_2 {l0 l1 l3 : Value} {x : Nat} : X 25 2 [l0, l1, .ref x, l3] st h Q ↔ X 25 3 [l0, l1, .ref x, l3] (.ref x :: st) h Q := X_n mC_25 dX0_isWoken_2 rfl
theorem x25_3 {l0 l1 l2 : Value} {x : Int32} : X 25 3 [l0, l1, l2, .int x] st h Q ↔ X 25 4 [l0, l1, l2, .int x] (.int x :: st) h Q := X_n mC_25 dX0_isWoken_3 rfl
theorem x25_4 {b : Nat} {a0 : Int32} {a1 : Nat} {a2 : Int32} : X 25 4 L [.int a2, .ref a1, .int a0, .ref b] h Q ↔ hS h b = (1, 0) ∧ X 24 0 [.ref b, .int a0, .ref a1, .int a2, .null, .null] [] h (fun r h' => X 25 7 L (pv r []) h' Q) := X_virt (as := [.int a0, .ref a1, .int a2]) (n := 3) (ml := 6) (ck := 0) mC_25 dX0_isWoken_4 (by unfold cOk; decide +kernel) ⟨rfl, rfl, by decide, Nat.le_of_ble_eq_true rfl⟩
theorem x25_7 {l1 l2 l3 : Value} {x : Nat} : X 25 7 [.ref x, l1, l2, l3] st h Q ↔ X 25 8 [.ref x, l1, l2, l3] (.ref x :: st) h Q := X_n mC_25 dX0_isWoken_7 rfl
theorem x25_8 {l0 l2 l3 : Value} {x : Int32} : X 25 8 [l0, .int x, l2, l3] st h Q ↔ X 25 9 [l0, .int x, l2, l3] (.int x :: st) h Q := X_n mC_25 dX0_isWoken_8 rfl
theorem x25_9 {b : Nat} {a0 : Int32} {w0 : Value} : X 25 9 L [.int a0, .ref b, w0] h Q ↔ hS h b = (1, 0) ∧ X 19 0 [.ref b, .int a0] [] h (fun r h' => X 25 12 L (pv r [w0]) h' Q) := X_virt (as := [.int a0]) (n := 1) (ml := 2) (ck := 0) mC_25 dX0_isWoken_9 (by unfold cOk; decide +kernel) ⟨rfl, rfl, by decide, Nat.le_of_ble_eq_true rfl⟩
theorem x25_12 {x y : Int32} : X 25 12 L (.int y :: .int x :: st) h Q ↔ if x < y then X 25 19 L st h Q else X 25 15 L st h Q := X_ilt mC_25 dX0_isWoken_12 (by decide)
theorem x25_15 : X 25 15 L st h Q ↔ X 25 16 L (.int 1 :: st) h Q := X_n mC_25 dX0_isWoken_15 rfl
theorem x25_16 : X 25 16 L st h Q ↔ X 25 20 L st h Q := X_goto mC_25 dX0_isWoken_16 (by decide)
theorem x25_19 : X 25 19 L st h Q ↔ X 25 20 L (.int 0 :: st) h Q := X_n mC_25 dX0_isWoken_19 rfl
theorem x25_20 {v : Int32} : X 25 20 L [.int v] h Q ↔ (v = 0 ∨ v = 1) ∧ Q (some (.int v)) h := X_retZ mC_25 dX0_isWoken_20 (by decide +kernel)
theorem mC_26 : mC 26 = cX0_wakers := rfl
theorem x26_0 : X 26 0 L st h Q ↔ X 26 1 L (.int 0 :: st) h Q := X_n mC_26 dX0_wakers_0 rfl
theorem x26_1 {l0 l1 l2 l3 l4 : Value} {x : Int32} : X 26 1 [l0, l1, l2, l3, l4] (.int x :: st) h Q ↔ c1 l2 = true ∧ X 26 2 [l0, l1, l2, .int x, l4] st h Q := X_sto (kk := 3) (pc' := 2) (w := .int x) mC_26 dX0_wakers_1 rfl (Nat.le_of_ble_eq_true rfl) rfl
theorem x26_2 : X 26 2 L st h Q ↔ X 26 3 L (.int 0 :: st) h Q := X_n mC_26 dX0_wakers_2 rfl
theorem x26_3 {l0 l1 l2 l3 l4 : Value} {x : Int32} : X 26 3 [l0, l1, l2, l3, l4] (.int x :: st) h Q ↔ c1 l3 = true ∧ X 26 5 [l0, l1, l2, l3, .int x] st h Q := X_sto (kk := 4) (pc' := 5) (w := .int x) mC_26 dX0_wakers_3 rfl (Nat.le_of_ble_eq_true rfl) rfl
theorem x26_5 {l0 l1 l2 l3 : Value} {x : Int32} : X 26 5 [l0, l1, l2, l3, .int x] st h Q ↔ X 26 7 [l0, l1, l2, l3, .int x] (.int x :: st) h Q := X_n mC_26 dX0_wakers_5 rfl
theorem x26_7 {l1 l2 l3 l4 : Value} {x : Nat} : X 26 7 [.ref x, l1, l2, l3, l4] st h Q ↔ X 26 8 [.ref x, l1, l2, l3, l4] (.ref x :: st) h Q := X_n mC_26 dX0_wakers_7 rfl
theorem x26_8 {a : Nat} : X 26 8 L (.ref a :: st) h Q ↔ hS h a = (1, 0) ∧ X 26 11 L (.int (hI h a 5) :: st) h Q := X_getI mC_26 dX0_wakers_8 (by decide +kernel)
theorem x26_11 {x y : Int32} : X 26 11 L (.int y :: .int x :: st) h Q ↔ if x < y then X 26 14 L st h Q else X 26 51 L st h Q := X_ige mC_26 dX0_wakers_11 (by decide)
theorem x26_14 {l0 l1 l2 l3 : Value} {x : Int32} : X 26 14 [l0, l1, l2, l3, .int x] st h Q ↔ X 26 16 [l0, l1, l2, l3, .int x] (.int x :: st) h Q := X_n mC_26 dX0_wakers_14 rfl
theorem x26_16 : X 26 16 L st h Q ↔ X 26 17 L (.int 5 :: st) h Q := X_n mC_26 dX0_wakers_16 rfl
theorem x26_17 {x y : Int32} : X 26 17 L (.int y :: .int x :: st) h Q ↔ if x < y then X 26 20 L st h Q else X 26 51 L st h Q := X_ige mC_26 dX0_wakers_17 (by decide)
theorem x26_20 {l1 l2 l3 l4 : Value} {x : Nat} : X 26 20 [.ref x, l1, l2, l3, l4] st h Q ↔ X 26 21 [.ref x, l1, l2, l3, l4] (.ref x :: st) h Q := X_n mC_26 dX0_wakers_20 rfl
theorem x26_21 {l0 l1 l2 l3 : Value} {x : Int32} : X 26 21 [l0, l1, l2, l3, .int x] st h Q ↔ X 26 23 [l0, l1, l2, l3, .int x] (.int x :: st) h Q := X_n mC_26 dX0_wakers_21 rfl
theorem x26_23 {l0 l2 l3 l4 : Value} {x : Nat} : X 26 23 [l0, .ref x, l2, l3, l4] st h Q ↔ X 26 24 [l0, .ref x, l2, l3, l4] (.ref x :: st) h Q := X_n mC_26 dX0_wakers_23 rfl
theorem x26_24 {l0 l1 l3 l4 : Value} {x : Int32} : X 26 24 [l0, l1, .int x, l3, l4] st h Q ↔ X 26 25 [l0, l1, .int x, l3, l4] (.int x :: st) h Q := X_n mC_26 dX0_wakers_24 rfl
theorem x26_25 {b : Nat} {a0 : Int32} {a1 : Nat} {a2 : Int32} : X 26 25 L [.int a2, .ref a1, .int a0, .ref b] h Q ↔ hS h b = (1, 0) ∧ X 24 0 [.ref b, .int a0, .ref a1, .int a2, .null, .null] [] h (fun r h' => X 26 28 L (pv r []) h' Q) := X_virt (as := [.int a0, .ref a1, .int a2]) (n := 3) (ml := 6) (ck := 0) mC_26 dX0_wakers_25 (by unfold cOk; decide +kernel) ⟨rfl, rfl, by decide, Nat.le_of_ble_eq_true rfl⟩
theorem x26_28 {l1 l2 l3 l4 : Value} {x : Nat} : X 26 28 [.ref x, l1, l2, l3, l4] st h Q ↔ X 26 29 [.ref x, l1, l2, l3, l4] (.ref x :: st) h Q := X_n mC_26 dX0_wakers_28 rfl
theorem x26_29 {a : Nat} : X 26 29 L (.ref a :: st) h Q ↔ (hS h a = (1, 0) ∧ hR h a 3 ≠ 0) ∧ X 26 32 L (.ref (hR h a 3) :: st) h Q := X_getR mC_26 dX0_wakers_29 (by decide +kernel)
theorem x26_32 {l0 l1 l2 l3 : Value} {x : Int32} : X 26 32 [l0, l1, l2, l3, .int x] st h Q ↔ X 26 34 [l0, l1, l2, l3, .int x] (.int x :: st) h Q := X_n mC_26 dX0_wakers_32 rfl
theorem x26_34 {j : Int32} {a : Nat} : X 26 34 L (.int j :: .ref a :: st) h Q ↔ ib j (hS h a) ∧ X 26 35 L (.int (hI h a j.toNatClampNeg) :: st) h Q := X_iald mC_26 dX0_wakers_34
theorem x26_35 {x y : Int32} : X 26 35 L (.int y :: .int x :: st) h Q ↔ if x < y then X 26 45 L st h Q else X 26 38 L st h Q := X_ilt mC_26 dX0_wakers_35 (by decide)
theorem x26_38 {l0 l1 l2 l4 : Value} {x : Int32} : X 26 38 [l0, l1, l2, .int x, l4] st h Q ↔ X 26 39 [l0, l1, l2, .int x, l4] (.int x :: st) h Q := X_n mC_26 dX0_wakers_38 rfl
theorem x26_39 : X 26 39 L st h Q ↔ X 26 40 L (.int 1 :: st) h Q := X_n mC_26 dX0_wakers_39 rfl
theorem x26_40 {l0 l1 l2 l3 : Value} {x : Int32} : X 26 40 [l0, l1, l2, l3, .int x] st h Q ↔ X 26 42 [l0, l1, l2, l3, .int x] (.int x :: st) h Q := X_n mC_26 dX0_wakers_40 rfl
theorem x26_42 {x y : Int32} : X 26 42 L (.int y :: .int x :: st) h Q ↔ X 26 43 L (.int (x <<< (y &&& 31)) :: st) h Q := X_n mC_26 dX0_wakers_42 rfl
theorem x26_43 {x y : Int32} : X 26 43 L (.int y :: .int x :: st) h Q ↔ X 26 44 L (.int (x ||| y) :: st) h Q := X_n mC_26 dX0_wakers_43 rfl
theorem x26_44 {l0 l1 l2 l3 l4 : Value} {x : Int32} : X 26 44 [l0, l1, l2, l3, l4] (.int x :: st) h Q ↔ c1 l2 = true ∧ X 26 45 [l0, l1, l2, .int x, l4] st h Q := X_sto (kk := 3) (pc' := 45) (w := .int x) mC_26 dX0_wakers_44 rfl (Nat.le_of_ble_eq_true rfl) rfl
theorem x26_45 {l0 l1 l2 l3 : Value} {x : Int32} : X 26 45 [l0, l1, l2, l3, .int x] st h Q ↔ c1 l3 = true ∧ X 26 48 [l0, l1, l2, l3, .int (x + 1)] st h Q := X_inc (pc' := 48) (x := x) mC_26 dX0_wakers_45 rfl rfl rfl
theorem x26_48 : X 26 48 L st h Q ↔ X 26 5 L st h Q := X_goto mC_26 dX0_wakers_48 (by decide)
theorem x26_51 {l0 l1 l2 l4 : Value} {x : Int32} : X 26 51 [l0, l1, l2, .int x, l4] st h Q ↔ X 26 52 [l0, l1, l2, .int x, l4] (.int x :: st) h Q := X_n mC_26 dX0_wakers_51 rfl
theorem x26_52 {v : Int32} : X 26 52 L [.int v] h Q ↔ Q (some (.int v)) h := X_ret mC_26 dX0_wakers_52 (by decide +kernel)
theorem mC_27 : mC 27 = cX0_wakingsOfNight := rfl
theorem x27_0 : X 27 0 L st h Q ↔ X 27 1 L (.int 0 :: st) h Q := X_n mC_27 dX0_wakingsOfNight_0 rfl
theorem x27_1 {l0 l1 l2 l3 : Value} {x : Int32} : X 27 1 [l0, l1, l2, l3] (.int x :: st) h Q ↔ c1 l1 = true ∧ X 27 2 [l0, l1, .int x, l3] st h Q := X_sto (kk := 2) (pc' := 2) (w := .int x) mC_27 dX0_wakingsOfNight_1 rfl (Nat.le_of_ble_eq_true rfl) rfl
theorem x27_2 : X 27 2 L st h Q ↔ X 27 3 L (.int 0 :: st) h Q := X_n mC_27 dX0_wakingsOfNight_2 rfl
theorem x27_3 {l0 l1 l2 l3 : Value} {x : Int32} : X 27 3 [l0, l1, l2, l3] (.int x :: st) h Q ↔ c1 l2 = true ∧ X 27 4 [l0, l1, l2, .int x] st h Q := X_sto (kk := 3) (pc' := 4) (w := .int x) mC_27 dX0_wakingsOfNight_3 rfl (Nat.le_of_ble_eq_true rfl) rfl
theorem x27_4 {l0 l1 l2 : Value} {x : Int32} : X 27 4 [l0, l1, l2, .int x] st h Q ↔ X 27 5 [l0, l1, l2, .int x] (.int x :: st) h Q := X_n mC_27 dX0_wakingsOfNight_4 rfl
theorem x27_5 : X 27 5 L st h Q ↔ X 27 7 L (.int 7 :: st) h Q := X_n mC_27 dX0_wakingsOfNight_5 rfl
theorem x27_7 {x y : Int32} : X 27 7 L (.int y :: .int x :: st) h Q ↔ if y < x then X 27 28 L st h Q else X 27 10 L st h Q := X_igt mC_27 dX0_wakingsOfNight_7 (by decide)
theorem x27_10 {l0 l1 l3 : Value} {x : Int32} : X 27 10 [l0, l1, .int x, l3] st h Q ↔ X 27 11 [l0, l1, .int x, l3] (.int x :: st) h Q := X_n mC_27 dX0_wakingsOfNight_10 rfl
theorem x27_11 {l1 l2 l3 : Value} {x : Nat} : X 27 11 [.ref x, l1, l2, l3] st h Q ↔ X 27 12 [.ref x, l1, l2, l3] (.ref x :: st) h Q := X_n mC_27 dX0_wakingsOfNight_11 rfl
theorem x27_12 {l0 l2 l3 : Value} {x : Nat} : X 27 12 [l0, .ref x, l2, l3] st h Q ↔ X 27 13 [l0, .ref x, l2, l3] (.ref x :: st) h Q := X_n mC_27 dX0_wakingsOfNight_12 rfl
theorem x27_13 {l0 l1 l2 : Value} {x : Int32} : X 27 13 [l0, l1, l2, .int x] st h Q ↔ X 27 14 [l0, l1, l2, .int x] (.int x :: st) h Q := X_n mC_27 dX0_wakingsOfNight_13 rfl
theorem x27_14 {b : Nat} {a0 : Nat} {a1 : Int32} {w0 : Value} : X 27 14 L [.int a1, .ref a0, .ref b, w0] h Q ↔ hS h b = (1, 0) ∧ X 26 0 [.ref b, .ref a0, .int a1, .null, .null] [] h (fun r h' => X 27 17 L (pv r [w0]) h' Q) := X_virt (as := [.ref a0, .int a1]) (n := 2) (ml := 5) (ck := 0) mC_27 dX0_wakingsOfNight_14 (by unfold cOk; decide +kernel) ⟨rfl, rfl, by decide, Nat.le_of_ble_eq_true rfl⟩
theorem x27_17 {a0 : Int32} {w0 : Value} : X 27 17 L [.int a0, w0] h Q ↔ X 179 0 [.int a0] [] h (fun r h' => X 27 20 L (pv r [w0]) h' Q) := X_stat (as := [.int a0]) (n := 1) (ml := 1) (ck := 9) mC_27 dX0_wakingsOfNight_17 (by unfold cOk; decide +kernel) ⟨rfl, rfl, by decide, Nat.le_of_ble_eq_true rfl⟩
theorem x27_20 {x y : Int32} : X 27 20 L (.int y :: .int x :: st) h Q ↔ X 27 21 L (.int (x + y) :: st) h Q := X_n mC_27 dX0_wakingsOfNight_20 rfl
theorem x27_21 {l0 l1 l2 l3 : Value} {x : Int32} : X 27 21 [l0, l1, l2, l3] (.int x :: st) h Q ↔ c1 l1 = true ∧ X 27 22 [l0, l1, .int x, l3] st h Q := X_sto (kk := 2) (pc' := 22) (w := .int x) mC_27 dX0_wakingsOfNight_21 rfl (Nat.le_of_ble_eq_true rfl) rfl
theorem x27_22 {l0 l1 l2 : Value} {x : Int32} : X 27 22 [l0, l1, l2, .int x] st h Q ↔ c1 l2 = true ∧ X 27 25 [l0, l1, l2, .int (x + 1)] st h Q := X_inc (pc' := 25) (x := x) mC_27 dX0_wakingsOfNight_22 rfl rfl rfl
theorem x27_25 : X 27 25 L st h Q ↔ X 27 4 L st h Q := X_goto mC_27 dX0_wakingsOfNight_25 (by decide)
theorem x27_28 {l0 l1 l3 : Value} {x : Int32} : X 27 28 [l0, l1, .int x, l3] st h Q ↔ X 27 29 [l0, l1, .int x, l3] (.int x :: st) h Q := X_n mC_27 dX0_wakingsOfNight_28 rfl
theorem x27_29 {v : Int32} : X 27 29 L [.int v] h Q ↔ Q (some (.int v)) h := X_ret mC_27 dX0_wakingsOfNight_29 (by decide +kernel)
theorem mC_28 : mC 28 = cX0_nextHummers := rfl
theorem x28_0 : X 28 0 L st h Q ↔ X 28 1 L (.int 0 :: st) h Q := X_n mC_28 dX0_nextHummers_0 rfl
theorem x28_1 {l0 l1 l2 l3 l4 : Value} {x : Int32} : X 28 1 [l0, l1, l2, l3, l4] (.int x :: st) h Q ↔ c1 l2 = true ∧ X 28 2 [l0, l1, l2, .int x, l4] st h Q := X_sto (kk := 3) (pc' := 2) (w := .int x) mC_28 dX0_nextHummers_1 rfl (Nat.le_of_ble_eq_true rfl) rfl
theorem x28_2 : X 28 2 L st h Q ↔ X 28 3 L (.int 0 :: st) h Q := X_n mC_28 dX0_nextHummers_2 rfl
theorem x28_3 {l0 l1 l2 l3 l4 : Value} {x : Int32} : X 28 3 [l0, l1, l2, l3, l4] (.int x :: st) h Q ↔ c1 l3 = true ∧ X 28 5 [l0, l1, l2, l3, .int x] st h Q := X_sto (kk := 4) (pc' := 5) (w := .int x) mC_28 dX0_nextHummers_3 rfl (Nat.le_of_ble_eq_true rfl) rfl
theorem x28_5 {l0 l1 l2 l3 : Value} {x : Int32} : X 28 5 [l0, l1, l2, l3, .int x] st h Q ↔ X 28 7 [l0, l1, l2, l3, .int x] (.int x :: st) h Q := X_n mC_28 dX0_nextHummers_5 rfl
theorem x28_7 {l1 l2 l3 l4 : Value} {x : Nat} : X 28 7 [.ref x, l1, l2, l3, l4] st h Q ↔ X 28 8 [.ref x, l1, l2, l3, l4] (.ref x :: st) h Q := X_n mC_28 dX0_nextHummers_7 rfl
theorem x28_8 {a : Nat} : X 28 8 L (.ref a :: st) h Q ↔ hS h a = (1, 0) ∧ X 28 11 L (.int (hI h a 5) :: st) h Q := X_getI mC_28 dX0_nextHummers_8 (by decide +kernel)
theorem x28_11 {x y : Int32} : X 28 11 L (.int y :: .int x :: st) h Q ↔ if x < y then X 28 14 L st h Q else X 28 47 L st h Q := X_ige mC_28 dX0_nextHummers_11 (by decide)
theorem x28_14 {l0 l1 l3 l4 : Value} {x : Nat} : X 28 14 [l0, l1, .ref x, l3, l4] st h Q ↔ X 28 15 [l0, l1, .ref x, l3, l4] (.ref x :: st) h Q := X_n mC_28 dX0_nextHummers_14 rfl
theorem x28_15 {l0 l2 l3 l4 : Value} {x : Int32} : X 28 15 [l0, .int x, l2, l3, l4] st h Q ↔ X 28 16 [l0, .int x, l2, l3, l4] (.int x :: st) h Q := X_n mC_28 dX0_nextHummers_15 rfl
theorem x28_16 {l0 l1 l2 l3 : Value} {x : Int32} : X 28 16 [l0, l1, l2, l3, .int x] st h Q ↔ X 28 18 [l0, l1, l2, l3, .int x] (.int x :: st) h Q := X_n mC_28 dX0_nextHummers_16 rfl
theorem x28_18 {b : Nat} {a0 : Int32} {a1 : Int32} : X 28 18 L [.int a1, .int a0, .ref b] h Q ↔ hS h b = (1, 1) ∧ X 39 0 [.ref b, .int a0, .int a1, .null] [] h (fun r h' => X 28 21 L (pv r []) h' Q) := X_virt (as := [.int a0, .int a1]) (n := 2) (ml := 4) (ck := 1) mC_28 dX0_nextHummers_18 (by unfold cOk; decide +kernel) ⟨rfl, rfl, by decide, Nat.le_of_ble_eq_true rfl⟩
theorem x28_21 {x : Int32} : X 28 21 L (.int x :: st) h Q ↔ if x = 0 then X 28 41 L st h Q else X 28 24 L st h Q := X_zeq mC_28 dX0_nextHummers_21 (by decide)
theorem x28_24 {l1 l2 l3 l4 : Value} {x : Nat} : X 28 24 [.ref x, l1, l2, l3, l4] st h Q ↔ X 28 25 [.ref x, l1, l2, l3, l4] (.ref x :: st) h Q := X_n mC_28 dX0_nextHummers_24 rfl
theorem x28_25 {l0 l2 l3 l4 : Value} {x : Int32} : X 28 25 [l0, .int x, l2, l3, l4] st h Q ↔ X 28 26 [l0, .int x, l2, l3, l4] (.int x :: st) h Q := X_n mC_28 dX0_nextHummers_25 rfl
theorem x28_26 {l0 l1 l2 l3 : Value} {x : Int32} : X 28 26 [l0, l1, l2, l3, .int x] st h Q ↔ X 28 28 [l0, l1, l2, l3, .int x] (.int x :: st) h Q := X_n mC_28 dX0_nextHummers_26 rfl
theorem x28_28 {b : Nat} {a0 : Int32} {a1 : Int32} : X 28 28 L [.int a1, .int a0, .ref b] h Q ↔ hS h b = (1, 0) ∧ X 22 0 [.ref b, .int a0, .int a1] [] h (fun r h' => X 28 31 L (pv r []) h' Q) := X_virt (as := [.int a0, .int a1]) (n := 2) (ml := 3) (ck := 0) mC_28 dX0_nextHummers_28 (by unfold cOk; decide +kernel) ⟨rfl, rfl, by decide, Nat.le_of_ble_eq_true rfl⟩
theorem x28_31 {x : Int32} : X 28 31 L (.int x :: st) h Q ↔ if x = 0 then X 28 41 L st h Q else X 28 34 L st h Q := X_zeq mC_28 dX0_nextHummers_31 (by decide)
theorem x28_34 {l0 l1 l2 l4 : Value} {x : Int32} : X 28 34 [l0, l1, l2, .int x, l4] st h Q ↔ X 28 35 [l0, l1, l2, .int x, l4] (.int x :: st) h Q := X_n mC_28 dX0_nextHummers_34 rfl
theorem x28_35 : X 28 35 L st h Q ↔ X 28 36 L (.int 1 :: st) h Q := X_n mC_28 dX0_nextHummers_35 rfl
theorem x28_36 {l0 l1 l2 l3 : Value} {x : Int32} : X 28 36 [l0, l1, l2, l3, .int x] st h Q ↔ X 28 38 [l0, l1, l2, l3, .int x] (.int x :: st) h Q := X_n mC_28 dX0_nextHummers_36 rfl
theorem x28_38 {x y : Int32} : X 28 38 L (.int y :: .int x :: st) h Q ↔ X 28 39 L (.int (x <<< (y &&& 31)) :: st) h Q := X_n mC_28 dX0_nextHummers_38 rfl
theorem x28_39 {x y : Int32} : X 28 39 L (.int y :: .int x :: st) h Q ↔ X 28 40 L (.int (x ||| y) :: st) h Q := X_n mC_28 dX0_nextHummers_39 rfl
theorem x28_40 {l0 l1 l2 l3 l4 : Value} {x : Int32} : X 28 40 [l0, l1, l2, l3, l4] (.int x :: st) h Q ↔ c1 l2 = true ∧ X 28 41 [l0, l1, l2, .int x, l4] st h Q := X_sto (kk := 3) (pc' := 41) (w := .int x) mC_28 dX0_nextHummers_40 rfl (Nat.le_of_ble_eq_true rfl) rfl
theorem x28_41 {l0 l1 l2 l3 : Value} {x : Int32} : X 28 41 [l0, l1, l2, l3, .int x] st h Q ↔ c1 l3 = true ∧ X 28 44 [l0, l1, l2, l3, .int (x + 1)] st h Q := X_inc (pc' := 44) (x := x) mC_28 dX0_nextHummers_41 rfl rfl rfl
theorem x28_44 : X 28 44 L st h Q ↔ X 28 5 L st h Q := X_goto mC_28 dX0_nextHummers_44 (by decide)
theorem x28_47 {l0 l1 l2 l4 : Value} {x : Int32} : X 28 47 [l0, l1, l2, .int x, l4] st h Q ↔ X 28 48 [l0, l1, l2, .int x, l4] (.int x :: st) h Q := X_n mC_28 dX0_nextHummers_47 rfl
theorem x28_48 {v : Int32} : X 28 48 L [.int v] h Q ↔ Q (some (.int v)) h := X_ret mC_28 dX0_nextHummers_48 (by decide +kernel)
theorem mC_29 : mC 29 = cX0_isRousedByPorters := rfl
theorem x29_0 {l1 : Value} {x : Nat} : X 29 0 [.ref x, l1] st h Q ↔ X 29 1 [.ref x, l1] (.ref x :: st) h Q := X_n mC_29 dX0_isRousedByPorters_0 rfl
theorem x29_1 {l0 : Value} {x : Int32} : X 29 1 [l0, .int x] st h Q ↔ X 29 2 [l0, .int x] (.int x :: st) h Q := X_n mC_29 dX0_isRousedByPorters_1 rfl
theorem x29_2 {b : Nat} {a0 : Int32} : X 29 2 L [.int a0, .ref b] h Q ↔ hS h b = (1, 0) ∧ X 19 0 [.ref b, .int a0] [] h (fun r h' => X 29 5 L (pv r []) h' Q) := X_virt (as := [.int a0]) (n := 1) (ml := 2) (ck := 0) mC_29 dX0_isRousedByPorters_2 (by unfold cOk; decide +kernel) ⟨rfl, rfl, by decide, Nat.le_of_ble_eq_true rfl⟩
theorem x29_5 {l1 : Value} {x : Nat} : X 29 5 [.ref x, l1] st h Q ↔ X 29 6 [.ref x, l1] (.ref x :: st) h Q := X_n mC_29 dX0_isRousedByPorters_5 rfl
theorem x29_6 {a : Nat} : X 29 6 L (.ref a :: st) h Q ↔ hS h a = (1, 0) ∧ X 29 9 L (.int (hI h a 8) :: st) h Q := X_getI mC_29 dX0_isRousedByPorters_6 (by decide +kernel)
theorem x29_9 {x y : Int32} : X 29 9 L (.int y :: .int x :: st) h Q ↔ if y < x then X 29 16 L st h Q else X 29 12 L st h Q := X_igt mC_29 dX0_isRousedByPorters_9 (by decide)
theorem x29_12 : X 29 12 L st h Q ↔ X 29 13 L (.int 1 :: st) h Q := X_n mC_29 dX0_isRousedByPorters_12 rfl
theorem x29_13 : X 29 13 L st h Q ↔ X 29 17 L st h Q := X_goto mC_29 dX0_isRousedByPorters_13 (by decide)
theorem x29_16 : X 29 16 L st h Q ↔ X 29 17 L (.int 0 :: st) h Q := X_n mC_29 dX0_isRousedByPorters_16 rfl
theorem x29_17 {v : Int32} : X 29 17 L [.int v] h Q ↔ (v = 0 ∨ v = 1) ∧ Q (some (.int v)) h := X_retZ mC_29 dX0_isRousedByPorters_17 (by decide +kernel)
theorem mC_30 : mC 30 = cX0_roused := rfl
theorem x30_0 {l0 l1 l2 l4 l5 l6 l7 l8 : Value} {x : Nat} : X 30 0 [l0, l1, l2, .ref x, l4, l5, l6, l7, l8] st h Q ↔ X 30 1 [l0, l1, l2, .ref x, l4, l5, l6, l7, l8] (.ref x :: st) h Q := X_n mC_30 dX0_roused_0 rfl
theorem x30_1 {l0 l2 l3 l4 l5 l6 l7 l8 : Value} {x : Int32} : X 30 1 [l0, .int x, l2, l3, l4, l5, l6, l7, l8] st h Q ↔ X 30 2 [l0, .int x, l2, l3, l4, l5, l6, l7, l8] (.int x :: st) h Q := X_n mC_30 dX0_roused_1 rfl
theorem x30_2 {b : Nat} {a0 : Int32} : X 30 2 L [.int a0, .ref b] h Q ↔ hS h b = (1, 1) ∧ X 38 0 [.ref b, .int a0] [] h (fun r h' => X 30 5 L (pv r []) h' Q) := X_virt (as := [.int a0]) (n := 1) (ml := 2) (ck := 1) mC_30 dX0_roused_2 (by unfold cOk; decide +kernel) ⟨rfl, rfl, by decide, Nat.le_of_ble_eq_true rfl⟩
theorem x30_5 {l0 l1 l3 l4 l5 l6 l7 l8 : Value} {x : Int32} : X 30 5 [l0, l1, .int x, l3, l4, l5, l6, l7, l8] st h Q ↔ X 30 6 [l0, l1, .int x, l3, l4, l5, l6, l7, l8] (.int x :: st) h Q := X_n mC_30 dX0_roused_5 rfl
theorem x30_6 {x y : Int32} : X 30 6 L [.int y, .int x] h Q ↔ X 30 9 L [.int (if y < x then y else x)] h Q := X_min (n := 2) mC_30 dX0_roused_6 (by decide +kernel) (Nat.le_of_ble_eq_true rfl)
theorem x30_9 {l0 l1 l2 l3 l4 l5 l6 l7 l8 : Value} {x : Int32} : X 30 9 [l0, l1, l2, l3, l4, l5, l6, l7, l8] (.int x :: st) h Q ↔ c1 l3 = true ∧ X 30 11 [l0, l1, l2, l3, .int x, l5, l6, l7, l8] st h Q := X_sto (kk := 4) (pc' := 11) (w := .int x) mC_30 dX0_roused_9 rfl (Nat.le_of_ble_eq_true rfl) rfl
theorem x30_11 {l0 l1 l2 l4 l5 l6 l7 l8 : Value} {x : Nat} : X 30 11 [l0, l1, l2, .ref x, l4, l5, l6, l7, l8] st h Q ↔ X 30 12 [l0, l1, l2, .ref x, l4, l5, l6, l7, l8] (.ref x :: st) h Q := X_n mC_30 dX0_roused_11 rfl
theorem x30_12 {l0 l2 l3 l4 l5 l6 l7 l8 : Value} {x : Int32} : X 30 12 [l0, .int x, l2, l3, l4, l5, l6, l7, l8] st h Q ↔ X 30 13 [l0, .int x, l2, l3, l4, l5, l6, l7, l8] (.int x :: st) h Q := X_n mC_30 dX0_roused_12 rfl
theorem x30_13 {b : Nat} {a0 : Int32} : X 30 13 L [.int a0, .ref b] h Q ↔ hS h b = (1, 1) ∧ X 38 0 [.ref b, .int a0] [] h (fun r h' => X 30 16 L (pv r []) h' Q) := X_virt (as := [.int a0]) (n := 1) (ml := 2) (ck := 1) mC_30 dX0_roused_13 (by unfold cOk; decide +kernel) ⟨rfl, rfl, by decide, Nat.le_of_ble_eq_true rfl⟩
theorem x30_16 {l0 l1 l3 l4 l5 l6 l7 l8 : Value} {x : Int32} : X 30 16 [l0, l1, .int x, l3, l4, l5, l6, l7, l8] st h Q ↔ X 30 17 [l0, l1, .int x, l3, l4, l5, l6, l7, l8] (.int x :: st) h Q := X_n mC_30 dX0_roused_16 rfl
theorem x30_17 {x y : Int32} : X 30 17 L [.int y, .int x] h Q ↔ X 30 20 L [.int (if x < y then y else x)] h Q := X_max (n := 2) mC_30 dX0_roused_17 (by decide +kernel) (Nat.le_of_ble_eq_true rfl)
theorem x30_20 {l0 l1 l2 l3 l4 l5 l6 l7 l8 : Value} {x : Int32} : X 30 20 [l0, l1, l2, l3, l4, l5, l6, l7, l8] (.int x :: st) h Q ↔ c1 l4 = true ∧ X 30 22 [l0, l1, l2, l3, l4, .int x, l6, l7, l8] st h Q := X_sto (kk := 5) (pc' := 22) (w := .int x) mC_30 dX0_roused_20 rfl (Nat.le_of_ble_eq_true rfl) rfl
theorem x30_22 : X 30 22 L st h Q ↔ X 30 23 L (.int 0 :: st) h Q := X_n mC_30 dX0_roused_22 rfl
theorem x30_23 {l0 l1 l2 l3 l4 l5 l6 l7 l8 : Value} {x : Int32} : X 30 23 [l0, l1, l2, l3, l4, l5, l6, l7, l8] (.int x :: st) h Q ↔ c1 l5 = true ∧ X 30 25 [l0, l1, l2, l3, l4, l5, .int x, l7, l8] st h Q := X_sto (kk := 6) (pc' := 25) (w := .int x) mC_30 dX0_roused_23 rfl (Nat.le_of_ble_eq_true rfl) rfl
theorem x30_25 : X 30 25 L st h Q ↔ X 30 26 L (.int 0 :: st) h Q := X_n mC_30 dX0_roused_25 rfl
theorem x30_26 {l0 l1 l2 l3 l4 l5 l6 l7 l8 : Value} {x : Int32} : X 30 26 [l0, l1, l2, l3, l4, l5, l6, l7, l8] (.int x :: st) h Q ↔ c1 l6 = true ∧ X 30 28 [l0, l1, l2, l3, l4, l5, l6, .int x, l8] st h Q := X_sto (kk := 7) (pc' := 28) (w := .int x) mC_30 dX0_roused_26 rfl (Nat.le_of_ble_eq_true rfl) rfl
theorem x30_28 {l0 l1 l2 l3 l4 l5 l6 l8 : Value} {x : Int32} : X 30 28 [l0, l1, l2, l3, l4, l5, l6, .int x, l8] st h Q ↔ X 30 30 [l0, l1, l2, l3, l4, l5, l6, .int x, l8] (.int x :: st) h Q := X_n mC_30 dX0_roused_28 rfl
theorem x30_30 {l1 l2 l3 l4 l5 l6 l7 l8 : Value} {x : Nat} : X 30 30 [.ref x, l1, l2, l3, l4, l5, l6, l7, l8] st h Q ↔ X 30 31 [.ref x, l1, l2, l3, l4, l5, l6, l7, l8] (.ref x :: st) h Q := X_n mC_30 dX0_roused_30 rfl
theorem x30_31 {a : Nat} : X 30 31 L (.ref a :: st) h Q ↔ hS h a = (1, 0) ∧ X 30 34 L (.int (hI h a 5) :: st) h Q := X_getI mC_30 dX0_roused_31 (by decide +kernel)
theorem x30_34 {x y : Int32} : X 30 34 L (.int y :: .int x :: st) h Q ↔ if x < y then X 30 37 L st h Q else X 30 83 L st h Q := X_ige mC_30 dX0_roused_34 (by decide)
theorem x30_37 {l0 l1 l2 l4 l5 l6 l7 l8 : Value} {x : Nat} : X 30 37 [l0, l1, l2, .ref x, l4, l5, l6, l7, l8] st h Q ↔ X 30 38 [l0, l1, l2, .ref x, l4, l5, l6, l7, l8] (.ref x :: st) h Q := X_n mC_30 dX0_roused_37 rfl
theorem x30_38 {l0 l1 l2 l3 l4 l5 l6 l8 : Value} {x : Int32} : X 30 38 [l0, l1, l2, l3, l4, l5, l6, .int x, l8] st h Q ↔ X 30 40 [l0, l1, l2, l3, l4, l5, l6, .int x, l8] (.int x :: st) h Q := X_n mC_30 dX0_roused_38 rfl
theorem x30_40 {b : Nat} {a0 : Int32} : X 30 40 L [.int a0, .ref b] h Q ↔ hS h b = (1, 1) ∧ X 38 0 [.ref b, .int a0] [] h (fun r h' => X 30 43 L (pv r []) h' Q) := X_virt (as := [.int a0]) (n := 1) (ml := 2) (ck := 1) mC_30 dX0_roused_40 (by unfold cOk; decide +kernel) ⟨rfl, rfl, by decide, Nat.le_of_ble_eq_true rfl⟩
theorem x30_43 {l0 l1 l2 l3 l4 l5 l6 l7 l8 : Value} {x : Int32} : X 30 43 [l0, l1, l2, l3, l4, l5, l6, l7, l8] (.int x :: st) h Q ↔ c1 l7 = true ∧ X 30 45 [l0, l1, l2, l3, l4, l5, l6, l7, .int x] st h Q := X_sto (kk := 8) (pc' := 45) (w := .int x) mC_30 dX0_roused_43 rfl (Nat.le_of_ble_eq_true rfl) rfl
theorem x30_45 {l0 l1 l2 l3 l4 l5 l6 l7 : Value} {x : Int32} : X 30 45 [l0, l1, l2, l3, l4, l5, l6, l7, .int x] st h Q ↔ X 30 47 [l0, l1, l2, l3, l4, l5, l6, l7, .int x] (.int x :: st) h Q := X_n mC_30 dX0_roused_45 rfl
theorem x30_47 {l0 l1 l2 l3 l5 l6 l7 l8 : Value} {x : Int32} : X 30 47 [l0, l1, l2, l3, .int x, l5, l6, l7, l8] st h Q ↔ X 30 49 [l0, l1, l2, l3, .int x, l5, l6, l7, l8] (.int x :: st) h Q := X_n mC_30 dX0_roused_47 rfl
theorem x30_49 {x y : Int32} : X 30 49 L (.int y :: .int x :: st) h Q ↔ if y < x then X 30 52 L st h Q else X 30 77 L st h Q := X_ile mC_30 dX0_roused_49 (by decide)
theorem x30_52 {l0 l1 l2 l3 l4 l5 l6 l7 : Value} {x : Int32} : X 30 52 [l0, l1, l2, l3, l4, l5, l6, l7, .int x] st h Q ↔ X 30 54 [l0, l1, l2, l3, l4, l5, l6, l7, .int x] (.int x :: st) h Q := X_n mC_30 dX0_roused_52 rfl
theorem x30_54 {l0 l1 l2 l3 l4 l6 l7 l8 : Value} {x : Int32} : X 30 54 [l0, l1, l2, l3, l4, .int x, l6, l7, l8] st h Q ↔ X 30 56 [l0, l1, l2, l3, l4, .int x, l6, l7, l8] (.int x :: st) h Q := X_n mC_30 dX0_roused_54 rfl
theorem x30_56 {x y : Int32} : X 30 56 L (.int y :: .int x :: st) h Q ↔ if x < y then X 30 59 L st h Q else X 30 77 L st h Q := X_ige mC_30 dX0_roused_56 (by decide)
theorem x30_59 {l1 l2 l3 l4 l5 l6 l7 l8 : Value} {x : Nat} : X 30 59 [.ref x, l1, l2, l3, l4, l5, l6, l7, l8] st h Q ↔ X 30 60 [.ref x, l1, l2, l3, l4, l5, l6, l7, l8] (.ref x :: st) h Q := X_n mC_30 dX0_roused_59 rfl
theorem x30_60 {l0 l1 l2 l3 l4 l5 l6 l8 : Value} {x : Int32} : X 30 60 [l0, l1, l2, l3, l4, l5, l6, .int x, l8] st h Q ↔ X 30 62 [l0, l1, l2, l3, l4, l5, l6, .int x, l8] (.int x :: st) h Q := X_n mC_30 dX0_roused_60 rfl
theorem x30_62 {b : Nat} {a0 : Int32} : X 30 62 L [.int a0, .ref b] h Q ↔ hS h b = (1, 0) ∧ X 29 0 [.ref b, .int a0] [] h (fun r h' => X 30 65 L (pv r []) h' Q) := X_virt (as := [.int a0]) (n := 1) (ml := 2) (ck := 0) mC_30 dX0_roused_62 (by unfold cOk; decide +kernel) ⟨rfl, rfl, by decide, Nat.le_of_ble_eq_true rfl⟩
theorem x30_65 {x : Int32} : X 30 65 L (.int x :: st) h Q ↔ if x = 0 then X 30 77 L st h Q else X 30 68 L st h Q := X_zeq mC_30 dX0_roused_65 (by decide)
theorem x30_68 {l0 l1 l2 l3 l4 l5 l7 l8 : Value} {x : Int32} : X 30 68 [l0, l1, l2, l3, l4, l5, .int x, l7, l8] st h Q ↔ X 30 70 [l0, l1, l2, l3, l4, l5, .int x, l7, l8] (.int x :: st) h Q := X_n mC_30 dX0_roused_68 rfl
theorem x30_70 : X 30 70 L st h Q ↔ X 30 71 L (.int 1 :: st) h Q := X_n mC_30 dX0_roused_70 rfl
theorem x30_71 {l0 l1 l2 l3 l4 l5 l6 l8 : Value} {x : Int32} : X 30 71 [l0, l1, l2, l3, l4, l5, l6, .int x, l8] st h Q ↔ X 30 73 [l0, l1, l2, l3, l4, l5, l6, .int x, l8] (.int x :: st) h Q := X_n mC_30 dX0_roused_71 rfl
theorem x30_73 {x y : Int32} : X 30 73 L (.int y :: .int x :: st) h Q ↔ X 30 74 L (.int (x <<< (y &&& 31)) :: st) h Q := X_n mC_30 dX0_roused_73 rfl
theorem x30_74 {x y : Int32} : X 30 74 L (.int y :: .int x :: st) h Q ↔ X 30 75 L (.int (x ||| y) :: st) h Q := X_n mC_30 dX0_roused_74 rfl
theorem x30_75 {l0 l1 l2 l3 l4 l5 l6 l7 l8 : Value} {x : Int32} : X 30 75 [l0, l1, l2, l3, l4, l5, l6, l7, l8] (.int x :: st) h Q ↔ c1 l5 = true ∧ X 30 77 [l0, l1, l2, l3, l4, l5, .int x, l7, l8] st h Q := X_sto (kk := 6) (pc' := 77) (w := .int x) mC_30 dX0_roused_75 rfl (Nat.le_of_ble_eq_true rfl) rfl
theorem x30_77 {l0 l1 l2 l3 l4 l5 l6 l8 : Value} {x : Int32} : X 30 77 [l0, l1, l2, l3, l4, l5, l6, .int x, l8] st h Q ↔ c1 l6 = true ∧ X 30 80 [l0, l1, l2, l3, l4, l5, l6, .int (x + 1), l8] st h Q := X_inc (pc' := 80) (x := x) mC_30 dX0_roused_77 rfl rfl rfl
theorem x30_80 : X 30 80 L st h Q ↔ X 30 28 L st h Q := X_goto mC_30 dX0_roused_80 (by decide)
theorem x30_83 {l0 l1 l2 l3 l4 l5 l7 l8 : Value} {x : Int32} : X 30 83 [l0, l1, l2, l3, l4, l5, .int x, l7, l8] st h Q ↔ X 30 85 [l0, l1, l2, l3, l4, l5, .int x, l7, l8] (.int x :: st) h Q := X_n mC_30 dX0_roused_83 rfl
theorem x30_85 {v : Int32} : X 30 85 L [.int v] h Q ↔ Q (some (.int v)) h := X_ret mC_30 dX0_roused_85 (by decide +kernel)
theorem mC_31 : mC 31 = cX0_isEven := rfl
theorem x31_0 : X 31 0 L st h Q ↔ X 31 1 L (.int 0 :: st) h Q := X_n mC_31 dX0_isEven_0 rfl
theorem x31_1 {l0 l1 l2 l3 l4 l5 : Value} {x : Int32} : X 31 1 [l0, l1, l2, l3, l4, l5] (.int x :: st) h Q ↔ c1 l3 = true ∧ X 31 3 [l0, l1, l2, l3, .int x, l5] st h Q := X_sto (kk := 4) (pc' := 3) (w := .int x) mC_31 dX0_isEven_1 rfl (Nat.le_of_ble_eq_true rfl) rfl
theorem x31_3 {l0 l1 l2 l3 l5 : Value} {x : Int32} : X 31 3 [l0, l1, l2, l3, .int x, l5] st h Q ↔ X 31 5 [l0, l1, l2, l3, .int x, l5] (.int x :: st) h Q := X_n mC_31 dX0_isEven_3 rfl
theorem x31_5 {l1 l2 l3 l4 l5 : Value} {x : Nat} : X 31 5 [.ref x, l1, l2, l3, l4, l5] st h Q ↔ X 31 6 [.ref x, l1, l2, l3, l4, l5] (.ref x :: st) h Q := X_n mC_31 dX0_isEven_5 rfl
theorem x31_6 {a : Nat} : X 31 6 L (.ref a :: st) h Q ↔ hS h a = (1, 0) ∧ X 31 9 L (.int (hI h a 5) :: st) h Q := X_getI mC_31 dX0_isEven_6 (by decide +kernel)
theorem x31_9 {x y : Int32} : X 31 9 L (.int y :: .int x :: st) h Q ↔ if x < y then X 31 12 L st h Q else X 31 69 L st h Q := X_ige mC_31 dX0_isEven_9 (by decide)
theorem x31_12 : X 31 12 L st h Q ↔ X 31 13 L (.int 0 :: st) h Q := X_n mC_31 dX0_isEven_12 rfl
theorem x31_13 {l0 l1 l2 l3 l4 l5 : Value} {x : Int32} : X 31 13 [l0, l1, l2, l3, l4, l5] (.int x :: st) h Q ↔ c1 l4 = true ∧ X 31 15 [l0, l1, l2, l3, l4, .int x] st h Q := X_sto (kk := 5) (pc' := 15) (w := .int x) mC_31 dX0_isEven_13 rfl (Nat.le_of_ble_eq_true rfl) rfl
theorem x31_15 {l0 l1 l2 l3 l4 : Value} {x : Int32} : X 31 15 [l0, l1, l2, l3, l4, .int x] st h Q ↔ X 31 17 [l0, l1, l2, l3, l4, .int x] (.int x :: st) h Q := X_n mC_31 dX0_isEven_15 rfl
theorem x31_17 {l0 l1 l2 l3 l5 : Value} {x : Int32} : X 31 17 [l0, l1, l2, l3, .int x, l5] st h Q ↔ X 31 19 [l0, l1, l2, l3, .int x, l5] (.int x :: st) h Q := X_n mC_31 dX0_isEven_17 rfl
theorem x31_19 {x y : Int32} : X 31 19 L (.int y :: .int x :: st) h Q ↔ if x < y then X 31 22 L st h Q else X 31 63 L st h Q := X_ige mC_31 dX0_isEven_19 (by decide)
theorem x31_22 {l0 l2 l3 l4 l5 : Value} {x : Nat} : X 31 22 [l0, .ref x, l2, l3, l4, l5] st h Q ↔ X 31 23 [l0, .ref x, l2, l3, l4, l5] (.ref x :: st) h Q := X_n mC_31 dX0_isEven_22 rfl
theorem x31_23 {l0 l1 l2 l3 l5 : Value} {x : Int32} : X 31 23 [l0, l1, l2, l3, .int x, l5] st h Q ↔ X 31 25 [l0, l1, l2, l3, .int x, l5] (.int x :: st) h Q := X_n mC_31 dX0_isEven_23 rfl
theorem x31_25 {l0 l1 l2 l3 l4 : Value} {x : Int32} : X 31 25 [l0, l1, l2, l3, l4, .int x] st h Q ↔ X 31 27 [l0, l1, l2, l3, l4, .int x] (.int x :: st) h Q := X_n mC_31 dX0_isEven_25 rfl
theorem x31_27 {b : Nat} {a0 : Int32} {a1 : Int32} : X 31 27 L [.int a1, .int a0, .ref b] h Q ↔ hS h b = (1, 1) ∧ X 39 0 [.ref b, .int a0, .int a1, .null] [] h (fun r h' => X 31 30 L (pv r []) h' Q) := X_virt (as := [.int a0, .int a1]) (n := 2) (ml := 4) (ck := 1) mC_31 dX0_isEven_27 (by unfold cOk; decide +kernel) ⟨rfl, rfl, by decide, Nat.le_of_ble_eq_true rfl⟩
theorem x31_30 {x : Int32} : X 31 30 L (.int x :: st) h Q ↔ if x = 0 then X 31 57 L st h Q else X 31 33 L st h Q := X_zeq mC_31 dX0_isEven_30 (by decide)
theorem x31_33 {l1 l2 l3 l4 l5 : Value} {x : Nat} : X 31 33 [.ref x, l1, l2, l3, l4, l5] st h Q ↔ X 31 34 [.ref x, l1, l2, l3, l4, l5] (.ref x :: st) h Q := X_n mC_31 dX0_isEven_33 rfl
theorem x31_34 {l0 l1 l2 l3 l5 : Value} {x : Int32} : X 31 34 [l0, l1, l2, l3, .int x, l5] st h Q ↔ X 31 36 [l0, l1, l2, l3, .int x, l5] (.int x :: st) h Q := X_n mC_31 dX0_isEven_34 rfl
theorem x31_36 {l0 l1 l3 l4 l5 : Value} {x : Int32} : X 31 36 [l0, l1, .int x, l3, l4, l5] st h Q ↔ X 31 37 [l0, l1, .int x, l3, l4, l5] (.int x :: st) h Q := X_n mC_31 dX0_isEven_36 rfl
theorem x31_37 {b : Nat} {a0 : Int32} {a1 : Int32} : X 31 37 L [.int a1, .int a0, .ref b] h Q ↔ hS h b = (1, 0) ∧ X 21 0 [.ref b, .int a0, .int a1, .null] [] h (fun r h' => X 31 40 L (pv r []) h' Q) := X_virt (as := [.int a0, .int a1]) (n := 2) (ml := 4) (ck := 0) mC_31 dX0_isEven_37 (by unfold cOk; decide +kernel) ⟨rfl, rfl, by decide, Nat.le_of_ble_eq_true rfl⟩
theorem x31_40 {l1 l2 l3 l4 l5 : Value} {x : Nat} : X 31 40 [.ref x, l1, l2, l3, l4, l5] st h Q ↔ X 31 41 [.ref x, l1, l2, l3, l4, l5] (.ref x :: st) h Q := X_n mC_31 dX0_isEven_40 rfl
theorem x31_41 {l0 l1 l2 l3 l4 : Value} {x : Int32} : X 31 41 [l0, l1, l2, l3, l4, .int x] st h Q ↔ X 31 43 [l0, l1, l2, l3, l4, .int x] (.int x :: st) h Q := X_n mC_31 dX0_isEven_41 rfl
theorem x31_43 {l0 l1 l3 l4 l5 : Value} {x : Int32} : X 31 43 [l0, l1, .int x, l3, l4, l5] st h Q ↔ X 31 44 [l0, l1, .int x, l3, l4, l5] (.int x :: st) h Q := X_n mC_31 dX0_isEven_43 rfl
theorem x31_44 {b : Nat} {a0 : Int32} {a1 : Int32} {w0 : Value} : X 31 44 L [.int a1, .int a0, .ref b, w0] h Q ↔ hS h b = (1, 0) ∧ X 21 0 [.ref b, .int a0, .int a1, .null] [] h (fun r h' => X 31 47 L (pv r [w0]) h' Q) := X_virt (as := [.int a0, .int a1]) (n := 2) (ml := 4) (ck := 0) mC_31 dX0_isEven_44 (by unfold cOk; decide +kernel) ⟨rfl, rfl, by decide, Nat.le_of_ble_eq_true rfl⟩
theorem x31_47 {x y : Int32} : X 31 47 L (.int y :: .int x :: st) h Q ↔ X 31 48 L (.int (x - y) :: st) h Q := X_n mC_31 dX0_isEven_47 rfl
theorem x31_48 {x : Int32} : X 31 48 L [.int x] h Q ↔ X 31 51 L [.int (if 0 ≤ x then x else 0 - x)] h Q := X_abs (n := 1) mC_31 dX0_isEven_48 (by decide +kernel) (Nat.le_of_ble_eq_true rfl)
theorem x31_51 {l0 l1 l2 l4 l5 : Value} {x : Int32} : X 31 51 [l0, l1, l2, .int x, l4, l5] st h Q ↔ X 31 52 [l0, l1, l2, .int x, l4, l5] (.int x :: st) h Q := X_n mC_31 dX0_isEven_51 rfl
theorem x31_52 {x y : Int32} : X 31 52 L (.int y :: .int x :: st) h Q ↔ if y < x then X 31 55 L st h Q else X 31 57 L st h Q := X_ile mC_31 dX0_isEven_52 (by decide)
theorem x31_55 : X 31 55 L st h Q ↔ X 31 56 L (.int 0 :: st) h Q := X_n mC_31 dX0_isEven_55 rfl
theorem x31_56 {v : Int32} : X 31 56 L [.int v] h Q ↔ (v = 0 ∨ v = 1) ∧ Q (some (.int v)) h := X_retZ mC_31 dX0_isEven_56 (by decide +kernel)
theorem x31_57 {l0 l1 l2 l3 l4 : Value} {x : Int32} : X 31 57 [l0, l1, l2, l3, l4, .int x] st h Q ↔ c1 l4 = true ∧ X 31 60 [l0, l1, l2, l3, l4, .int (x + 1)] st h Q := X_inc (pc' := 60) (x := x) mC_31 dX0_isEven_57 rfl rfl rfl
theorem x31_60 : X 31 60 L st h Q ↔ X 31 15 L st h Q := X_goto mC_31 dX0_isEven_60 (by decide)
theorem x31_63 {l0 l1 l2 l3 l5 : Value} {x : Int32} : X 31 63 [l0, l1, l2, l3, .int x, l5] st h Q ↔ c1 l3 = true ∧ X 31 66 [l0, l1, l2, l3, .int (x + 1), l5] st h Q := X_inc (pc' := 66) (x := x) mC_31 dX0_isEven_63 rfl rfl rfl
theorem x31_66 : X 31 66 L st h Q ↔ X 31 3 L st h Q := X_goto mC_31 dX0_isEven_66 (by decide)
theorem x31_69 : X 31 69 L st h Q ↔ X 31 70 L (.int 1 :: st) h Q := X_n mC_31 dX0_isEven_69 rfl
theorem x31_70 {v : Int32} : X 31 70 L [.int v] h Q ↔ (v = 0 ∨ v = 1) ∧ Q (some (.int v)) h := X_retZ mC_31 dX0_isEven_70 (by decide +kernel)
theorem mC_32 : mC 32 = cX0_lawfulBed := rfl
theorem x32_0 : X 32 0 L st h Q ↔ X 32 1 L (.int 0 :: st) h Q := X_n mC_32 dX0_lawfulBed_0 rfl
theorem x32_1 {l0 l1 l2 l3 l4 l5 l6 : Value} {x : Int32} : X 32 1 [l0, l1, l2, l3, l4, l5, l6] (.int x :: st) h Q ↔ c1 l2 = true ∧ X 32 2 [l0, l1, l2, .int x, l4, l5, l6] st h Q := X_sto (kk := 3) (pc' := 2) (w := .int x) mC_32 dX0_lawfulBed_1 rfl (Nat.le_of_ble_eq_true rfl) rfl
theorem x32_2 {l1 l2 l3 l4 l5 l6 : Value} {x : Nat} : X 32 2 [.ref x, l1, l2, l3, l4, l5, l6] st h Q ↔ X 32 3 [.ref x, l1, l2, l3, l4, l5, l6] (.ref x :: st) h Q := X_n mC_32 dX0_lawfulBed_2 rfl
theorem x32_3 {l0 l2 l3 l4 l5 l6 : Value} {x : Int32} : X 32 3 [l0, .int x, l2, l3, l4, l5, l6] st h Q ↔ X 32 4 [l0, .int x, l2, l3, l4, l5, l6] (.int x :: st) h Q := X_n mC_32 dX0_lawfulBed_3 rfl
theorem x32_4 {l0 l1 l3 l4 l5 l6 : Value} {x : Int32} : X 32 4 [l0, l1, .int x, l3, l4, l5, l6] st h Q ↔ X 32 5 [l0, l1, .int x, l3, l4, l5, l6] (.int x :: st) h Q := X_n mC_32 dX0_lawfulBed_4 rfl
theorem x32_5 {b : Nat} {a0 : Int32} {a1 : Int32} : X 32 5 L [.int a1, .int a0, .ref b] h Q ↔ hS h b = (1, 0) ∧ X 21 0 [.ref b, .int a0, .int a1, .null] [] h (fun r h' => X 32 8 L (pv r []) h' Q) := X_virt (as := [.int a0, .int a1]) (n := 2) (ml := 4) (ck := 0) mC_32 dX0_lawfulBed_5 (by unfold cOk; decide +kernel) ⟨rfl, rfl, by decide, Nat.le_of_ble_eq_true rfl⟩
theorem x32_8 {l0 l1 l2 l3 l4 l5 l6 : Value} {x : Int32} : X 32 8 [l0, l1, l2, l3, l4, l5, l6] (.int x :: st) h Q ↔ c1 l3 = true ∧ X 32 10 [l0, l1, l2, l3, .int x, l5, l6] st h Q := X_sto (kk := 4) (pc' := 10) (w := .int x) mC_32 dX0_lawfulBed_8 rfl (Nat.le_of_ble_eq_true rfl) rfl
theorem x32_10 : X 32 10 L st h Q ↔ X 32 11 L (.int 0 :: st) h Q := X_n mC_32 dX0_lawfulBed_10 rfl
theorem x32_11 {l0 l1 l2 l3 l4 l5 l6 : Value} {x : Int32} : X 32 11 [l0, l1, l2, l3, l4, l5, l6] (.int x :: st) h Q ↔ c1 l4 = true ∧ X 32 13 [l0, l1, l2, l3, l4, .int x, l6] st h Q := X_sto (kk := 5) (pc' := 13) (w := .int x) mC_32 dX0_lawfulBed_11 rfl (Nat.le_of_ble_eq_true rfl) rfl
theorem x32_13 {l0 l1 l2 l3 l4 l6 : Value} {x : Int32} : X 32 13 [l0, l1, l2, l3, l4, .int x, l6] st h Q ↔ X 32 15 [l0, l1, l2, l3, l4, .int x, l6] (.int x :: st) h Q := X_n mC_32 dX0_lawfulBed_13 rfl
theorem x32_15 {l1 l2 l3 l4 l5 l6 : Value} {x : Nat} : X 32 15 [.ref x, l1, l2, l3, l4, l5, l6] st h Q ↔ X 32 16 [.ref x, l1, l2, l3, l4, l5, l6] (.ref x :: st) h Q := X_n mC_32 dX0_lawfulBed_15 rfl
theorem x32_16 {a : Nat} : X 32 16 L (.ref a :: st) h Q ↔ hS h a = (1, 0) ∧ X 32 19 L (.int (hI h a 5) :: st) h Q := X_getI mC_32 dX0_lawfulBed_16 (by decide +kernel)
theorem x32_19 {x y : Int32} : X 32 19 L (.int y :: .int x :: st) h Q ↔ if x < y then X 32 22 L st h Q else X 32 60 L st h Q := X_ige mC_32 dX0_lawfulBed_19 (by decide)
theorem x32_22 {l1 l2 l3 l4 l5 l6 : Value} {x : Nat} : X 32 22 [.ref x, l1, l2, l3, l4, l5, l6] st h Q ↔ X 32 23 [.ref x, l1, l2, l3, l4, l5, l6] (.ref x :: st) h Q := X_n mC_32 dX0_lawfulBed_22 rfl
theorem x32_23 {l0 l1 l2 l3 l4 l6 : Value} {x : Int32} : X 32 23 [l0, l1, l2, l3, l4, .int x, l6] st h Q ↔ X 32 25 [l0, l1, l2, l3, l4, .int x, l6] (.int x :: st) h Q := X_n mC_32 dX0_lawfulBed_23 rfl
theorem x32_25 {l0 l1 l3 l4 l5 l6 : Value} {x : Int32} : X 32 25 [l0, l1, .int x, l3, l4, l5, l6] st h Q ↔ X 32 26 [l0, l1, .int x, l3, l4, l5, l6] (.int x :: st) h Q := X_n mC_32 dX0_lawfulBed_25 rfl
theorem x32_26 {b : Nat} {a0 : Int32} {a1 : Int32} : X 32 26 L [.int a1, .int a0, .ref b] h Q ↔ hS h b = (1, 0) ∧ X 21 0 [.ref b, .int a0, .int a1, .null] [] h (fun r h' => X 32 29 L (pv r []) h' Q) := X_virt (as := [.int a0, .int a1]) (n := 2) (ml := 4) (ck := 0) mC_32 dX0_lawfulBed_26 (by unfold cOk; decide +kernel) ⟨rfl, rfl, by decide, Nat.le_of_ble_eq_true rfl⟩
theorem x32_29 {l0 l1 l2 l3 l4 l5 l6 : Value} {x : Int32} : X 32 29 [l0, l1, l2, l3, l4, l5, l6] (.int x :: st) h Q ↔ c1 l5 = true ∧ X 32 31 [l0, l1, l2, l3, l4, l5, .int x] st h Q := X_sto (kk := 6) (pc' := 31) (w := .int x) mC_32 dX0_lawfulBed_29 rfl (Nat.le_of_ble_eq_true rfl) rfl
theorem x32_31 {l0 l1 l2 l3 l4 l5 : Value} {x : Int32} : X 32 31 [l0, l1, l2, l3, l4, l5, .int x] st h Q ↔ X 32 33 [l0, l1, l2, l3, l4, l5, .int x] (.int x :: st) h Q := X_n mC_32 dX0_lawfulBed_31 rfl
theorem x32_33 {l0 l1 l2 l3 l5 l6 : Value} {x : Int32} : X 32 33 [l0, l1, l2, l3, .int x, l5, l6] st h Q ↔ X 32 35 [l0, l1, l2, l3, .int x, l5, l6] (.int x :: st) h Q := X_n mC_32 dX0_lawfulBed_33 rfl
theorem x32_35 {x y : Int32} : X 32 35 L (.int y :: .int x :: st) h Q ↔ if y < x then X 32 51 L st h Q else X 32 38 L st h Q := X_igt mC_32 dX0_lawfulBed_35 (by decide)
theorem x32_38 {l0 l1 l2 l3 l4 l5 : Value} {x : Int32} : X 32 38 [l0, l1, l2, l3, l4, l5, .int x] st h Q ↔ X 32 40 [l0, l1, l2, l3, l4, l5, .int x] (.int x :: st) h Q := X_n mC_32 dX0_lawfulBed_38 rfl
theorem x32_40 {l0 l1 l2 l3 l5 l6 : Value} {x : Int32} : X 32 40 [l0, l1, l2, l3, .int x, l5, l6] st h Q ↔ X 32 42 [l0, l1, l2, l3, .int x, l5, l6] (.int x :: st) h Q := X_n mC_32 dX0_lawfulBed_40 rfl
theorem x32_42 {x y : Int32} : X 32 42 L (.int y :: .int x :: st) h Q ↔ if x = y then X 32 45 L st h Q else X 32 54 L st h Q := X_ine mC_32 dX0_lawfulBed_42 (by decide)
theorem x32_45 {l0 l1 l2 l3 l4 l6 : Value} {x : Int32} : X 32 45 [l0, l1, l2, l3, l4, .int x, l6] st h Q ↔ X 32 47 [l0, l1, l2, l3, l4, .int x, l6] (.int x :: st) h Q := X_n mC_32 dX0_lawfulBed_45 rfl
theorem x32_47 {l0 l2 l3 l4 l5 l6 : Value} {x : Int32} : X 32 47 [l0, .int x, l2, l3, l4, l5, l6] st h Q ↔ X 32 48 [l0, .int x, l2, l3, l4, l5, l6] (.int x :: st) h Q := X_n mC_32 dX0_lawfulBed_47 rfl
theorem x32_48 {x y : Int32} : X 32 48 L (.int y :: .int x :: st) h Q ↔ if x < y then X 32 51 L st h Q else X 32 54 L st h Q := X_ige mC_32 dX0_lawfulBed_48 (by decide)
theorem x32_51 {l0 l1 l2 l4 l5 l6 : Value} {x : Int32} : X 32 51 [l0, l1, l2, .int x, l4, l5, l6] st h Q ↔ c1 l2 = true ∧ X 32 54 [l0, l1, l2, .int (x + 1), l4, l5, l6] st h Q := X_inc (pc' := 54) (x := x) mC_32 dX0_lawfulBed_51 rfl rfl rfl
theorem x32_54 {l0 l1 l2 l3 l4 l6 : Value} {x : Int32} : X 32 54 [l0, l1, l2, l3, l4, .int x, l6] st h Q ↔ c1 l4 = true ∧ X 32 57 [l0, l1, l2, l3, l4, .int (x + 1), l6] st h Q := X_inc (pc' := 57) (x := x) mC_32 dX0_lawfulBed_54 rfl rfl rfl
theorem x32_57 : X 32 57 L st h Q ↔ X 32 13 L st h Q := X_goto mC_32 dX0_lawfulBed_57 (by decide)
theorem x32_60 {l0 l1 l2 l4 l5 l6 : Value} {x : Int32} : X 32 60 [l0, l1, l2, .int x, l4, l5, l6] st h Q ↔ X 32 61 [l0, l1, l2, .int x, l4, l5, l6] (.int x :: st) h Q := X_n mC_32 dX0_lawfulBed_60 rfl
theorem x32_61 : X 32 61 L st h Q ↔ X 32 62 L (.int 2 :: st) h Q := X_n mC_32 dX0_lawfulBed_61 rfl
theorem x32_62 {x y : Int32} : X 32 62 L (.int y :: .int x :: st) h Q ↔ (¬ y = 0) ∧ X 32 63 L (.int (x - x / y * y) :: st) h Q := X_gd mC_32 dX0_lawfulBed_62 rfl
theorem x32_63 {x : Int32} : X 32 63 L (.int x :: st) h Q ↔ if x = 0 then X 32 66 L st h Q else X 32 72 L st h Q := X_zne mC_32 dX0_lawfulBed_63 (by decide)
theorem x32_66 {l0 l1 l2 l4 l5 l6 : Value} {x : Int32} : X 32 66 [l0, l1, l2, .int x, l4, l5, l6] st h Q ↔ X 32 67 [l0, l1, l2, .int x, l4, l5, l6] (.int x :: st) h Q := X_n mC_32 dX0_lawfulBed_66 rfl
theorem x32_67 : X 32 67 L st h Q ↔ X 32 68 L (.int 2 :: st) h Q := X_n mC_32 dX0_lawfulBed_67 rfl
theorem x32_68 {x y : Int32} : X 32 68 L (.int y :: .int x :: st) h Q ↔ (¬ y = 0) ∧ X 32 69 L (.int (x / y) :: st) h Q := X_gd mC_32 dX0_lawfulBed_68 rfl
theorem x32_69 : X 32 69 L st h Q ↔ X 32 82 L st h Q := X_goto mC_32 dX0_lawfulBed_69 (by decide)
theorem x32_72 {l1 l2 l3 l4 l5 l6 : Value} {x : Nat} : X 32 72 [.ref x, l1, l2, l3, l4, l5, l6] st h Q ↔ X 32 73 [.ref x, l1, l2, l3, l4, l5, l6] (.ref x :: st) h Q := X_n mC_32 dX0_lawfulBed_72 rfl
theorem x32_73 {a : Nat} : X 32 73 L (.ref a :: st) h Q ↔ hS h a = (1, 0) ∧ X 32 76 L (.int (hI h a 6) :: st) h Q := X_getI mC_32 dX0_lawfulBed_73 (by decide +kernel)
theorem x32_76 : X 32 76 L st h Q ↔ X 32 77 L (.int 1 :: st) h Q := X_n mC_32 dX0_lawfulBed_76 rfl
theorem x32_77 {x y : Int32} : X 32 77 L (.int y :: .int x :: st) h Q ↔ X 32 78 L (.int (x - y) :: st) h Q := X_n mC_32 dX0_lawfulBed_77 rfl
theorem x32_78 {l0 l1 l2 l4 l5 l6 : Value} {x : Int32} : X 32 78 [l0, l1, l2, .int x, l4, l5, l6] st h Q ↔ X 32 79 [l0, l1, l2, .int x, l4, l5, l6] (.int x :: st) h Q := X_n mC_32 dX0_lawfulBed_78 rfl
theorem x32_79 : X 32 79 L st h Q ↔ X 32 80 L (.int 2 :: st) h Q := X_n mC_32 dX0_lawfulBed_79 rfl
theorem x32_80 {x y : Int32} : X 32 80 L (.int y :: .int x :: st) h Q ↔ (¬ y = 0) ∧ X 32 81 L (.int (x / y) :: st) h Q := X_gd mC_32 dX0_lawfulBed_80 rfl
theorem x32_81 {x y : Int32} : X 32 81 L (.int y :: .int x :: st) h Q ↔ X 32 82 L (.int (x - y) :: st) h Q := X_n mC_32 dX0_lawfulBed_81 rfl
theorem x32_82 {v : Int32} : X 32 82 L [.int v] h Q ↔ Q (some (.int v)) h := X_ret mC_32 dX0_lawfulBed_82 (by decide +kernel)
end XS
