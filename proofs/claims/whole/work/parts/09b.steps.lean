section XS
variable {L st : List Value} {h : aH} {Q : Option Value → aH → Prop}
theorem mC_33 : mC 33 = cX1_init := rfl
theorem x33_0 {x : Nat} : X 33 0 [.ref x] st h Q ↔ X 33 1 [.ref x] (.ref x :: st) h Q := X_n mC_33 dX1_init_0 rfl
theorem x33_1 {a : Nat} : X 33 1 L [.ref a] h Q ↔ X 33 4 L [] h Q := X_obj (n := 0) mC_33 dX1_init_1 (by decide +kernel) (Nat.le_of_ble_eq_true rfl)
theorem x33_4 {x : Nat} : X 33 4 [.ref x] st h Q ↔ X 33 5 [.ref x] (.ref x :: st) h Q := X_n mC_33 dX1_init_4 rfl
theorem x33_5 : X 33 5 L st h Q ↔ X 33 6 L (.int 5 :: st) h Q := X_n mC_33 dX1_init_5 rfl
theorem x33_6 {x : Int32} : X 33 6 L (.int x :: st) h Q ↔ (¬ x < 0 ∧ x < 100000) ∧ X 33 8 L (.ref (hN h) :: st) (nw h x.toNatClampNeg (2, x.toNatClampNeg)) Q := X_newI mC_33 dX1_init_6
theorem x33_8 {a v : Nat} : X 33 8 L (.ref v :: .ref a :: st) h Q ↔ (hS h a = (1, 1) ∧ v ≠ 0) ∧ X 33 11 L st (sR h a 0 v) Q := X_putR mC_33 dX1_init_8 (by decide +kernel)
theorem x33_11 : X 33 11 L [] h Q ↔ Q none h := X_retV mC_33 dX1_init_11 (by decide +kernel)
theorem mC_34 : mC 34 = cX1_begin := rfl
theorem x34_0 : X 34 0 L st h Q ↔ X 34 1 L (.int 0 :: st) h Q := X_n mC_34 dX1_begin_0 rfl
theorem x34_1 {l0 l1 l2 : Value} {x : Int32} : X 34 1 [l0, l1, l2] (.int x :: st) h Q ↔ c1 l1 = true ∧ X 34 2 [l0, l1, .int x] st h Q := X_sto (kk := 2) (pc' := 2) (w := .int x) mC_34 dX1_begin_1 rfl (Nat.le_of_ble_eq_true rfl) rfl
theorem x34_2 {l0 l1 : Value} {x : Int32} : X 34 2 [l0, l1, .int x] st h Q ↔ X 34 3 [l0, l1, .int x] (.int x :: st) h Q := X_n mC_34 dX1_begin_2 rfl
theorem x34_3 : X 34 3 L st h Q ↔ X 34 4 L (.int 5 :: st) h Q := X_n mC_34 dX1_begin_3 rfl
theorem x34_4 {x y : Int32} : X 34 4 L (.int y :: .int x :: st) h Q ↔ if x < y then X 34 7 L st h Q else X 34 24 L st h Q := X_ige mC_34 dX1_begin_4 (by decide)
theorem x34_7 {l1 l2 : Value} {x : Nat} : X 34 7 [.ref x, l1, l2] st h Q ↔ X 34 8 [.ref x, l1, l2] (.ref x :: st) h Q := X_n mC_34 dX1_begin_7 rfl
theorem x34_8 {a : Nat} : X 34 8 L (.ref a :: st) h Q ↔ (hS h a = (1, 1) ∧ hR h a 0 ≠ 0) ∧ X 34 11 L (.ref (hR h a 0) :: st) h Q := X_getR mC_34 dX1_begin_8 (by decide +kernel)
theorem x34_11 {l0 l1 : Value} {x : Int32} : X 34 11 [l0, l1, .int x] st h Q ↔ X 34 12 [l0, l1, .int x] (.int x :: st) h Q := X_n mC_34 dX1_begin_11 rfl
theorem x34_12 {l0 l2 : Value} {x : Nat} : X 34 12 [l0, .ref x, l2] st h Q ↔ X 34 13 [l0, .ref x, l2] (.ref x :: st) h Q := X_n mC_34 dX1_begin_12 rfl
theorem x34_13 {l0 l1 : Value} {x : Int32} : X 34 13 [l0, l1, .int x] st h Q ↔ X 34 14 [l0, l1, .int x] (.int x :: st) h Q := X_n mC_34 dX1_begin_13 rfl
theorem x34_14 {b : Nat} {a0 : Int32} {w0 w1 : Value} : X 34 14 L [.int a0, .ref b, w0, w1] h Q ↔ hS h b = (1, 0) ∧ X 20 0 [.ref b, .int a0] [] h (fun r h' => X 34 17 L (pv r [w0, w1]) h' Q) := X_virt (as := [.int a0]) (n := 1) (ml := 2) (ck := 0) mC_34 dX1_begin_14 (by unfold cOk; decide +kernel) ⟨rfl, rfl, by decide, Nat.le_of_ble_eq_true rfl⟩
theorem x34_17 {j x : Int32} {a : Nat} : X 34 17 L (.int x :: .int j :: .ref a :: st) h Q ↔ ibw j (hS h a) ∧ X 34 18 L st (sI h a j.toNatClampNeg x) Q := X_iast mC_34 dX1_begin_17
theorem x34_18 {l0 l1 : Value} {x : Int32} : X 34 18 [l0, l1, .int x] st h Q ↔ c1 l1 = true ∧ X 34 21 [l0, l1, .int (x + 1)] st h Q := X_inc (pc' := 21) (x := x) mC_34 dX1_begin_18 rfl rfl rfl
theorem x34_21 : X 34 21 L st h Q ↔ X 34 2 L st h Q := X_goto mC_34 dX1_begin_21 (by decide)
theorem x34_24 {l1 l2 : Value} {x : Nat} : X 34 24 [.ref x, l1, l2] st h Q ↔ X 34 25 [.ref x, l1, l2] (.ref x :: st) h Q := X_n mC_34 dX1_begin_24 rfl
theorem x34_25 {l0 l2 : Value} {x : Nat} : X 34 25 [l0, .ref x, l2] st h Q ↔ X 34 26 [l0, .ref x, l2] (.ref x :: st) h Q := X_n mC_34 dX1_begin_25 rfl
theorem x34_26 {b : Nat} {w0 : Value} : X 34 26 L [.ref b, w0] h Q ↔ hS h b = (1, 0) ∧ X 12 0 [.ref b] [] h (fun r h' => X 34 29 L (pv r [w0]) h' Q) := X_virt (as := []) (n := 0) (ml := 1) (ck := 0) mC_34 dX1_begin_26 (by unfold cOk; decide +kernel) ⟨rfl, rfl, by decide, Nat.le_of_ble_eq_true rfl⟩
theorem x34_29 {a : Nat} {v : Int32} : X 34 29 L (.int v :: .ref a :: st) h Q ↔ hS h a = (1, 1) ∧ X 34 32 L st (sI h a 1 v) Q := X_putI mC_34 dX1_begin_29 (by decide +kernel)
theorem x34_32 {l1 l2 : Value} {x : Nat} : X 34 32 [.ref x, l1, l2] st h Q ↔ X 34 33 [.ref x, l1, l2] (.ref x :: st) h Q := X_n mC_34 dX1_begin_32 rfl
theorem x34_33 : X 34 33 L st h Q ↔ X 34 34 L (.int 0 :: st) h Q := X_n mC_34 dX1_begin_33 rfl
theorem x34_34 {a : Nat} {v : Int32} : X 34 34 L (.int v :: .ref a :: st) h Q ↔ hS h a = (1, 1) ∧ X 34 37 L st (sI h a 2 v) Q := X_putI mC_34 dX1_begin_34 (by decide +kernel)
theorem x34_37 {l1 l2 : Value} {x : Nat} : X 34 37 [.ref x, l1, l2] st h Q ↔ X 34 38 [.ref x, l1, l2] (.ref x :: st) h Q := X_n mC_34 dX1_begin_37 rfl
theorem x34_38 : X 34 38 L st h Q ↔ X 34 39 L (.int 0 :: st) h Q := X_n mC_34 dX1_begin_38 rfl
theorem x34_39 {a : Nat} {v : Int32} : X 34 39 L (.int v :: .ref a :: st) h Q ↔ hS h a = (1, 1) ∧ X 34 42 L st (sI h a 3 v) Q := X_putI mC_34 dX1_begin_39 (by decide +kernel)
theorem x34_42 {l1 l2 : Value} {x : Nat} : X 34 42 [.ref x, l1, l2] st h Q ↔ X 34 43 [.ref x, l1, l2] (.ref x :: st) h Q := X_n mC_34 dX1_begin_42 rfl
theorem x34_43 : X 34 43 L st h Q ↔ X 34 44 L (.int 0 :: st) h Q := X_n mC_34 dX1_begin_43 rfl
theorem x34_44 {a : Nat} {v : Int32} : X 34 44 L (.int v :: .ref a :: st) h Q ↔ hS h a = (1, 1) ∧ X 34 47 L st (sI h a 4 v) Q := X_putI mC_34 dX1_begin_44 (by decide +kernel)
theorem x34_47 {l1 l2 : Value} {x : Nat} : X 34 47 [.ref x, l1, l2] st h Q ↔ X 34 48 [.ref x, l1, l2] (.ref x :: st) h Q := X_n mC_34 dX1_begin_47 rfl
theorem x34_48 : X 34 48 L st h Q ↔ X 34 49 L (.int 0 :: st) h Q := X_n mC_34 dX1_begin_48 rfl
theorem x34_49 {a : Nat} {v : Int32} : X 34 49 L (.int v :: .ref a :: st) h Q ↔ hS h a = (1, 1) ∧ X 34 52 L st (sI h a 5 v) Q := X_putI mC_34 dX1_begin_49 (by decide +kernel)
theorem x34_52 : X 34 52 L [] h Q ↔ Q none h := X_retV mC_34 dX1_begin_52 (by decide +kernel)
theorem mC_35 : mC 35 = cX1_copy := rfl
theorem x35_0 {l0 : Value} {x : Nat} : X 35 0 [l0, .ref x] st h Q ↔ X 35 1 [l0, .ref x] (.ref x :: st) h Q := X_n mC_35 dX1_copy_0 rfl
theorem x35_1 {a : Nat} : X 35 1 L (.ref a :: st) h Q ↔ (hS h a = (1, 1) ∧ hR h a 0 ≠ 0) ∧ X 35 4 L (.ref (hR h a 0) :: st) h Q := X_getR mC_35 dX1_copy_1 (by decide +kernel)
theorem x35_4 : X 35 4 L st h Q ↔ X 35 5 L (.int 0 :: st) h Q := X_n mC_35 dX1_copy_4 rfl
theorem x35_5 {l1 : Value} {x : Nat} : X 35 5 [.ref x, l1] st h Q ↔ X 35 6 [.ref x, l1] (.ref x :: st) h Q := X_n mC_35 dX1_copy_5 rfl
theorem x35_6 {a : Nat} : X 35 6 L (.ref a :: st) h Q ↔ (hS h a = (1, 1) ∧ hR h a 0 ≠ 0) ∧ X 35 9 L (.ref (hR h a 0) :: st) h Q := X_getR mC_35 dX1_copy_6 (by decide +kernel)
theorem x35_9 : X 35 9 L st h Q ↔ X 35 10 L (.int 0 :: st) h Q := X_n mC_35 dX1_copy_9 rfl
theorem x35_10 : X 35 10 L st h Q ↔ X 35 11 L (.int 5 :: st) h Q := X_n mC_35 dX1_copy_10 rfl
theorem x35_11 {x sp dp : Int32} {a b : Nat} : X 35 11 L [.int x, .int dp, .ref b, .int sp, .ref a] h Q ↔ cpOk (hS h a) (hS h b) sp dp x ∧ X 35 14 L [] (cpI h a sp.toNatClampNeg b dp.toNatClampNeg x.toNatClampNeg) Q := X_cpy (n := 5) mC_35 dX1_copy_11 (by decide +kernel) (Nat.le_of_ble_eq_true rfl)
theorem x35_14 {l1 : Value} {x : Nat} : X 35 14 [.ref x, l1] st h Q ↔ X 35 15 [.ref x, l1] (.ref x :: st) h Q := X_n mC_35 dX1_copy_14 rfl
theorem x35_15 {l0 : Value} {x : Nat} : X 35 15 [l0, .ref x] st h Q ↔ X 35 16 [l0, .ref x] (.ref x :: st) h Q := X_n mC_35 dX1_copy_15 rfl
theorem x35_16 {a : Nat} : X 35 16 L (.ref a :: st) h Q ↔ hS h a = (1, 1) ∧ X 35 19 L (.int (hI h a 1) :: st) h Q := X_getI mC_35 dX1_copy_16 (by decide +kernel)
theorem x35_19 {a : Nat} {v : Int32} : X 35 19 L (.int v :: .ref a :: st) h Q ↔ hS h a = (1, 1) ∧ X 35 22 L st (sI h a 1 v) Q := X_putI mC_35 dX1_copy_19 (by decide +kernel)
theorem x35_22 {l1 : Value} {x : Nat} : X 35 22 [.ref x, l1] st h Q ↔ X 35 23 [.ref x, l1] (.ref x :: st) h Q := X_n mC_35 dX1_copy_22 rfl
theorem x35_23 {l0 : Value} {x : Nat} : X 35 23 [l0, .ref x] st h Q ↔ X 35 24 [l0, .ref x] (.ref x :: st) h Q := X_n mC_35 dX1_copy_23 rfl
theorem x35_24 {a : Nat} : X 35 24 L (.ref a :: st) h Q ↔ hS h a = (1, 1) ∧ X 35 27 L (.int (hI h a 2) :: st) h Q := X_getI mC_35 dX1_copy_24 (by decide +kernel)
theorem x35_27 {a : Nat} {v : Int32} : X 35 27 L (.int v :: .ref a :: st) h Q ↔ hS h a = (1, 1) ∧ X 35 30 L st (sI h a 2 v) Q := X_putI mC_35 dX1_copy_27 (by decide +kernel)
theorem x35_30 {l1 : Value} {x : Nat} : X 35 30 [.ref x, l1] st h Q ↔ X 35 31 [.ref x, l1] (.ref x :: st) h Q := X_n mC_35 dX1_copy_30 rfl
theorem x35_31 {l0 : Value} {x : Nat} : X 35 31 [l0, .ref x] st h Q ↔ X 35 32 [l0, .ref x] (.ref x :: st) h Q := X_n mC_35 dX1_copy_31 rfl
theorem x35_32 {a : Nat} : X 35 32 L (.ref a :: st) h Q ↔ hS h a = (1, 1) ∧ X 35 35 L (.int (hI h a 3) :: st) h Q := X_getI mC_35 dX1_copy_32 (by decide +kernel)
theorem x35_35 {a : Nat} {v : Int32} : X 35 35 L (.int v :: .ref a :: st) h Q ↔ hS h a = (1, 1) ∧ X 35 38 L st (sI h a 3 v) Q := X_putI mC_35 dX1_copy_35 (by decide +kernel)
theorem x35_38 {l1 : Value} {x : Nat} : X 35 38 [.ref x, l1] st h Q ↔ X 35 39 [.ref x, l1] (.ref x :: st) h Q := X_n mC_35 dX1_copy_38 rfl
theorem x35_39 {l0 : Value} {x : Nat} : X 35 39 [l0, .ref x] st h Q ↔ X 35 40 [l0, .ref x] (.ref x :: st) h Q := X_n mC_35 dX1_copy_39 rfl
theorem x35_40 {a : Nat} : X 35 40 L (.ref a :: st) h Q ↔ hS h a = (1, 1) ∧ X 35 43 L (.int (hI h a 4) :: st) h Q := X_getI mC_35 dX1_copy_40 (by decide +kernel)
theorem x35_43 {a : Nat} {v : Int32} : X 35 43 L (.int v :: .ref a :: st) h Q ↔ hS h a = (1, 1) ∧ X 35 46 L st (sI h a 4 v) Q := X_putI mC_35 dX1_copy_43 (by decide +kernel)
theorem x35_46 {l1 : Value} {x : Nat} : X 35 46 [.ref x, l1] st h Q ↔ X 35 47 [.ref x, l1] (.ref x :: st) h Q := X_n mC_35 dX1_copy_46 rfl
theorem x35_47 {l0 : Value} {x : Nat} : X 35 47 [l0, .ref x] st h Q ↔ X 35 48 [l0, .ref x] (.ref x :: st) h Q := X_n mC_35 dX1_copy_47 rfl
theorem x35_48 {a : Nat} : X 35 48 L (.ref a :: st) h Q ↔ hS h a = (1, 1) ∧ X 35 51 L (.int (hI h a 5) :: st) h Q := X_getI mC_35 dX1_copy_48 (by decide +kernel)
theorem x35_51 {a : Nat} {v : Int32} : X 35 51 L (.int v :: .ref a :: st) h Q ↔ hS h a = (1, 1) ∧ X 35 54 L st (sI h a 5 v) Q := X_putI mC_35 dX1_copy_51 (by decide +kernel)
theorem x35_54 : X 35 54 L [] h Q ↔ Q none h := X_retV mC_35 dX1_copy_54 (by decide +kernel)
theorem mC_36 : mC 36 = cX1_save := rfl
theorem x36_0 {l0 l1 : Value} {x : Int32} : X 36 0 [l0, l1, .int x] st h Q ↔ X 36 1 [l0, l1, .int x] (.int x :: st) h Q := X_n mC_36 dX1_save_0 rfl
theorem x36_1 {x : Int32} : X 36 1 L (.int x :: st) h Q ↔ if x < 0 then X 36 13 L st h Q else X 36 4 L st h Q := X_zlt mC_36 dX1_save_1 (by decide)
theorem x36_4 {l0 l1 : Value} {x : Int32} : X 36 4 [l0, l1, .int x] st h Q ↔ X 36 5 [l0, l1, .int x] (.int x :: st) h Q := X_n mC_36 dX1_save_4 rfl
theorem x36_5 {l0 l2 : Value} {x : Nat} : X 36 5 [l0, .ref x, l2] st h Q ↔ X 36 6 [l0, .ref x, l2] (.ref x :: st) h Q := X_n mC_36 dX1_save_5 rfl
theorem x36_6 {a : Nat} : X 36 6 L (.ref a :: st) h Q ↔ ((hS h a).1 = 2 ∨ (hS h a).1 = 3 ∨ (hS h a).1 = 4) ∧ X 36 7 L (.int (Int32.ofNat (hS h a).2) :: st) h Q := X_alen mC_36 dX1_save_6
theorem x36_7 : X 36 7 L st h Q ↔ X 36 9 L (.int 10 :: st) h Q := X_n mC_36 dX1_save_7 rfl
theorem x36_9 {x y : Int32} : X 36 9 L (.int y :: .int x :: st) h Q ↔ X 36 10 L (.int (x - y) :: st) h Q := X_n mC_36 dX1_save_9 rfl
theorem x36_10 {x y : Int32} : X 36 10 L (.int y :: .int x :: st) h Q ↔ if y < x then X 36 13 L st h Q else X 36 14 L st h Q := X_ile mC_36 dX1_save_10 (by decide)
theorem x36_13 : X 36 13 L [] h Q ↔ Q none h := X_retV mC_36 dX1_save_13 (by decide +kernel)
theorem x36_14 {l1 l2 : Value} {x : Nat} : X 36 14 [.ref x, l1, l2] st h Q ↔ X 36 15 [.ref x, l1, l2] (.ref x :: st) h Q := X_n mC_36 dX1_save_14 rfl
theorem x36_15 {a : Nat} : X 36 15 L (.ref a :: st) h Q ↔ (hS h a = (1, 1) ∧ hR h a 0 ≠ 0) ∧ X 36 18 L (.ref (hR h a 0) :: st) h Q := X_getR mC_36 dX1_save_15 (by decide +kernel)
theorem x36_18 : X 36 18 L st h Q ↔ X 36 19 L (.int 0 :: st) h Q := X_n mC_36 dX1_save_18 rfl
theorem x36_19 {l0 l2 : Value} {x : Nat} : X 36 19 [l0, .ref x, l2] st h Q ↔ X 36 20 [l0, .ref x, l2] (.ref x :: st) h Q := X_n mC_36 dX1_save_19 rfl
theorem x36_20 {l0 l1 : Value} {x : Int32} : X 36 20 [l0, l1, .int x] st h Q ↔ X 36 21 [l0, l1, .int x] (.int x :: st) h Q := X_n mC_36 dX1_save_20 rfl
theorem x36_21 : X 36 21 L st h Q ↔ X 36 22 L (.int 5 :: st) h Q := X_n mC_36 dX1_save_21 rfl
theorem x36_22 {x sp dp : Int32} {a b : Nat} : X 36 22 L [.int x, .int dp, .ref b, .int sp, .ref a] h Q ↔ cpOk (hS h a) (hS h b) sp dp x ∧ X 36 25 L [] (cpI h a sp.toNatClampNeg b dp.toNatClampNeg x.toNatClampNeg) Q := X_cpy (n := 5) mC_36 dX1_save_22 (by decide +kernel) (Nat.le_of_ble_eq_true rfl)
theorem x36_25 {l0 l2 : Value} {x : Nat} : X 36 25 [l0, .ref x, l2] st h Q ↔ X 36 26 [l0, .ref x, l2] (.ref x :: st) h Q := X_n mC_36 dX1_save_25 rfl
theorem x36_26 {l0 l1 : Value} {x : Int32} : X 36 26 [l0, l1, .int x] st h Q ↔ X 36 27 [l0, l1, .int x] (.int x :: st) h Q := X_n mC_36 dX1_save_26 rfl
theorem x36_27 : X 36 27 L st h Q ↔ X 36 28 L (.int 5 :: st) h Q := X_n mC_36 dX1_save_27 rfl
theorem x36_28 {x y : Int32} : X 36 28 L (.int y :: .int x :: st) h Q ↔ X 36 29 L (.int (x + y) :: st) h Q := X_n mC_36 dX1_save_28 rfl
theorem x36_29 {l1 l2 : Value} {x : Nat} : X 36 29 [.ref x, l1, l2] st h Q ↔ X 36 30 [.ref x, l1, l2] (.ref x :: st) h Q := X_n mC_36 dX1_save_29 rfl
theorem x36_30 {a : Nat} : X 36 30 L (.ref a :: st) h Q ↔ hS h a = (1, 1) ∧ X 36 33 L (.int (hI h a 1) :: st) h Q := X_getI mC_36 dX1_save_30 (by decide +kernel)
theorem x36_33 {j x : Int32} {a : Nat} : X 36 33 L (.int x :: .int j :: .ref a :: st) h Q ↔ ibw j (hS h a) ∧ X 36 34 L st (sI h a j.toNatClampNeg x) Q := X_iast mC_36 dX1_save_33
theorem x36_34 {l0 l2 : Value} {x : Nat} : X 36 34 [l0, .ref x, l2] st h Q ↔ X 36 35 [l0, .ref x, l2] (.ref x :: st) h Q := X_n mC_36 dX1_save_34 rfl
theorem x36_35 {l0 l1 : Value} {x : Int32} : X 36 35 [l0, l1, .int x] st h Q ↔ X 36 36 [l0, l1, .int x] (.int x :: st) h Q := X_n mC_36 dX1_save_35 rfl
theorem x36_36 : X 36 36 L st h Q ↔ X 36 37 L (.int 5 :: st) h Q := X_n mC_36 dX1_save_36 rfl
theorem x36_37 {x y : Int32} : X 36 37 L (.int y :: .int x :: st) h Q ↔ X 36 38 L (.int (x + y) :: st) h Q := X_n mC_36 dX1_save_37 rfl
theorem x36_38 : X 36 38 L st h Q ↔ X 36 39 L (.int 1 :: st) h Q := X_n mC_36 dX1_save_38 rfl
theorem x36_39 {x y : Int32} : X 36 39 L (.int y :: .int x :: st) h Q ↔ X 36 40 L (.int (x + y) :: st) h Q := X_n mC_36 dX1_save_39 rfl
theorem x36_40 {l1 l2 : Value} {x : Nat} : X 36 40 [.ref x, l1, l2] st h Q ↔ X 36 41 [.ref x, l1, l2] (.ref x :: st) h Q := X_n mC_36 dX1_save_40 rfl
theorem x36_41 {a : Nat} : X 36 41 L (.ref a :: st) h Q ↔ hS h a = (1, 1) ∧ X 36 44 L (.int (hI h a 2) :: st) h Q := X_getI mC_36 dX1_save_41 (by decide +kernel)
theorem x36_44 {j x : Int32} {a : Nat} : X 36 44 L (.int x :: .int j :: .ref a :: st) h Q ↔ ibw j (hS h a) ∧ X 36 45 L st (sI h a j.toNatClampNeg x) Q := X_iast mC_36 dX1_save_44
theorem x36_45 {l0 l2 : Value} {x : Nat} : X 36 45 [l0, .ref x, l2] st h Q ↔ X 36 46 [l0, .ref x, l2] (.ref x :: st) h Q := X_n mC_36 dX1_save_45 rfl
theorem x36_46 {l0 l1 : Value} {x : Int32} : X 36 46 [l0, l1, .int x] st h Q ↔ X 36 47 [l0, l1, .int x] (.int x :: st) h Q := X_n mC_36 dX1_save_46 rfl
theorem x36_47 : X 36 47 L st h Q ↔ X 36 48 L (.int 5 :: st) h Q := X_n mC_36 dX1_save_47 rfl
theorem x36_48 {x y : Int32} : X 36 48 L (.int y :: .int x :: st) h Q ↔ X 36 49 L (.int (x + y) :: st) h Q := X_n mC_36 dX1_save_48 rfl
theorem x36_49 : X 36 49 L st h Q ↔ X 36 50 L (.int 2 :: st) h Q := X_n mC_36 dX1_save_49 rfl
theorem x36_50 {x y : Int32} : X 36 50 L (.int y :: .int x :: st) h Q ↔ X 36 51 L (.int (x + y) :: st) h Q := X_n mC_36 dX1_save_50 rfl
theorem x36_51 {l1 l2 : Value} {x : Nat} : X 36 51 [.ref x, l1, l2] st h Q ↔ X 36 52 [.ref x, l1, l2] (.ref x :: st) h Q := X_n mC_36 dX1_save_51 rfl
theorem x36_52 {a : Nat} : X 36 52 L (.ref a :: st) h Q ↔ hS h a = (1, 1) ∧ X 36 55 L (.int (hI h a 3) :: st) h Q := X_getI mC_36 dX1_save_52 (by decide +kernel)
theorem x36_55 {j x : Int32} {a : Nat} : X 36 55 L (.int x :: .int j :: .ref a :: st) h Q ↔ ibw j (hS h a) ∧ X 36 56 L st (sI h a j.toNatClampNeg x) Q := X_iast mC_36 dX1_save_55
theorem x36_56 {l0 l2 : Value} {x : Nat} : X 36 56 [l0, .ref x, l2] st h Q ↔ X 36 57 [l0, .ref x, l2] (.ref x :: st) h Q := X_n mC_36 dX1_save_56 rfl
theorem x36_57 {l0 l1 : Value} {x : Int32} : X 36 57 [l0, l1, .int x] st h Q ↔ X 36 58 [l0, l1, .int x] (.int x :: st) h Q := X_n mC_36 dX1_save_57 rfl
theorem x36_58 : X 36 58 L st h Q ↔ X 36 59 L (.int 5 :: st) h Q := X_n mC_36 dX1_save_58 rfl
theorem x36_59 {x y : Int32} : X 36 59 L (.int y :: .int x :: st) h Q ↔ X 36 60 L (.int (x + y) :: st) h Q := X_n mC_36 dX1_save_59 rfl
theorem x36_60 : X 36 60 L st h Q ↔ X 36 61 L (.int 3 :: st) h Q := X_n mC_36 dX1_save_60 rfl
theorem x36_61 {x y : Int32} : X 36 61 L (.int y :: .int x :: st) h Q ↔ X 36 62 L (.int (x + y) :: st) h Q := X_n mC_36 dX1_save_61 rfl
theorem x36_62 {l1 l2 : Value} {x : Nat} : X 36 62 [.ref x, l1, l2] st h Q ↔ X 36 63 [.ref x, l1, l2] (.ref x :: st) h Q := X_n mC_36 dX1_save_62 rfl
theorem x36_63 {a : Nat} : X 36 63 L (.ref a :: st) h Q ↔ hS h a = (1, 1) ∧ X 36 66 L (.int (hI h a 4) :: st) h Q := X_getI mC_36 dX1_save_63 (by decide +kernel)
theorem x36_66 {j x : Int32} {a : Nat} : X 36 66 L (.int x :: .int j :: .ref a :: st) h Q ↔ ibw j (hS h a) ∧ X 36 67 L st (sI h a j.toNatClampNeg x) Q := X_iast mC_36 dX1_save_66
theorem x36_67 {l0 l2 : Value} {x : Nat} : X 36 67 [l0, .ref x, l2] st h Q ↔ X 36 68 [l0, .ref x, l2] (.ref x :: st) h Q := X_n mC_36 dX1_save_67 rfl
theorem x36_68 {l0 l1 : Value} {x : Int32} : X 36 68 [l0, l1, .int x] st h Q ↔ X 36 69 [l0, l1, .int x] (.int x :: st) h Q := X_n mC_36 dX1_save_68 rfl
theorem x36_69 : X 36 69 L st h Q ↔ X 36 70 L (.int 5 :: st) h Q := X_n mC_36 dX1_save_69 rfl
theorem x36_70 {x y : Int32} : X 36 70 L (.int y :: .int x :: st) h Q ↔ X 36 71 L (.int (x + y) :: st) h Q := X_n mC_36 dX1_save_70 rfl
theorem x36_71 : X 36 71 L st h Q ↔ X 36 72 L (.int 4 :: st) h Q := X_n mC_36 dX1_save_71 rfl
theorem x36_72 {x y : Int32} : X 36 72 L (.int y :: .int x :: st) h Q ↔ X 36 73 L (.int (x + y) :: st) h Q := X_n mC_36 dX1_save_72 rfl
theorem x36_73 {l1 l2 : Value} {x : Nat} : X 36 73 [.ref x, l1, l2] st h Q ↔ X 36 74 [.ref x, l1, l2] (.ref x :: st) h Q := X_n mC_36 dX1_save_73 rfl
theorem x36_74 {a : Nat} : X 36 74 L (.ref a :: st) h Q ↔ hS h a = (1, 1) ∧ X 36 77 L (.int (hI h a 5) :: st) h Q := X_getI mC_36 dX1_save_74 (by decide +kernel)
theorem x36_77 {j x : Int32} {a : Nat} : X 36 77 L (.int x :: .int j :: .ref a :: st) h Q ↔ ibw j (hS h a) ∧ X 36 78 L st (sI h a j.toNatClampNeg x) Q := X_iast mC_36 dX1_save_77
theorem x36_78 : X 36 78 L [] h Q ↔ Q none h := X_retV mC_36 dX1_save_78 (by decide +kernel)
theorem mC_37 : mC 37 = cX1_load := rfl
theorem x37_0 {l0 l1 : Value} {x : Int32} : X 37 0 [l0, l1, .int x] st h Q ↔ X 37 1 [l0, l1, .int x] (.int x :: st) h Q := X_n mC_37 dX1_load_0 rfl
theorem x37_1 {x : Int32} : X 37 1 L (.int x :: st) h Q ↔ if x < 0 then X 37 13 L st h Q else X 37 4 L st h Q := X_zlt mC_37 dX1_load_1 (by decide)
theorem x37_4 {l0 l1 : Value} {x : Int32} : X 37 4 [l0, l1, .int x] st h Q ↔ X 37 5 [l0, l1, .int x] (.int x :: st) h Q := X_n mC_37 dX1_load_4 rfl
theorem x37_5 {l0 l2 : Value} {x : Nat} : X 37 5 [l0, .ref x, l2] st h Q ↔ X 37 6 [l0, .ref x, l2] (.ref x :: st) h Q := X_n mC_37 dX1_load_5 rfl
theorem x37_6 {a : Nat} : X 37 6 L (.ref a :: st) h Q ↔ ((hS h a).1 = 2 ∨ (hS h a).1 = 3 ∨ (hS h a).1 = 4) ∧ X 37 7 L (.int (Int32.ofNat (hS h a).2) :: st) h Q := X_alen mC_37 dX1_load_6
theorem x37_7 : X 37 7 L st h Q ↔ X 37 9 L (.int 10 :: st) h Q := X_n mC_37 dX1_load_7 rfl
theorem x37_9 {x y : Int32} : X 37 9 L (.int y :: .int x :: st) h Q ↔ X 37 10 L (.int (x - y) :: st) h Q := X_n mC_37 dX1_load_9 rfl
theorem x37_10 {x y : Int32} : X 37 10 L (.int y :: .int x :: st) h Q ↔ if y < x then X 37 13 L st h Q else X 37 14 L st h Q := X_ile mC_37 dX1_load_10 (by decide)
theorem x37_13 : X 37 13 L [] h Q ↔ Q none h := X_retV mC_37 dX1_load_13 (by decide +kernel)
theorem x37_14 {l0 l2 : Value} {x : Nat} : X 37 14 [l0, .ref x, l2] st h Q ↔ X 37 15 [l0, .ref x, l2] (.ref x :: st) h Q := X_n mC_37 dX1_load_14 rfl
theorem x37_15 {l0 l1 : Value} {x : Int32} : X 37 15 [l0, l1, .int x] st h Q ↔ X 37 16 [l0, l1, .int x] (.int x :: st) h Q := X_n mC_37 dX1_load_15 rfl
theorem x37_16 {l1 l2 : Value} {x : Nat} : X 37 16 [.ref x, l1, l2] st h Q ↔ X 37 17 [.ref x, l1, l2] (.ref x :: st) h Q := X_n mC_37 dX1_load_16 rfl
theorem x37_17 {a : Nat} : X 37 17 L (.ref a :: st) h Q ↔ (hS h a = (1, 1) ∧ hR h a 0 ≠ 0) ∧ X 37 20 L (.ref (hR h a 0) :: st) h Q := X_getR mC_37 dX1_load_17 (by decide +kernel)
theorem x37_20 : X 37 20 L st h Q ↔ X 37 21 L (.int 0 :: st) h Q := X_n mC_37 dX1_load_20 rfl
theorem x37_21 : X 37 21 L st h Q ↔ X 37 22 L (.int 5 :: st) h Q := X_n mC_37 dX1_load_21 rfl
theorem x37_22 {x sp dp : Int32} {a b : Nat} : X 37 22 L [.int x, .int dp, .ref b, .int sp, .ref a] h Q ↔ cpOk (hS h a) (hS h b) sp dp x ∧ X 37 25 L [] (cpI h a sp.toNatClampNeg b dp.toNatClampNeg x.toNatClampNeg) Q := X_cpy (n := 5) mC_37 dX1_load_22 (by decide +kernel) (Nat.le_of_ble_eq_true rfl)
theorem x37_25 {l1 l2 : Value} {x : Nat} : X 37 25 [.ref x, l1, l2] st h Q ↔ X 37 26 [.ref x, l1, l2] (.ref x :: st) h Q := X_n mC_37 dX1_load_25 rfl
theorem x37_26 {l0 l2 : Value} {x : Nat} : X 37 26 [l0, .ref x, l2] st h Q ↔ X 37 27 [l0, .ref x, l2] (.ref x :: st) h Q := X_n mC_37 dX1_load_26 rfl
theorem x37_27 {l0 l1 : Value} {x : Int32} : X 37 27 [l0, l1, .int x] st h Q ↔ X 37 28 [l0, l1, .int x] (.int x :: st) h Q := X_n mC_37 dX1_load_27 rfl
theorem x37_28 : X 37 28 L st h Q ↔ X 37 29 L (.int 5 :: st) h Q := X_n mC_37 dX1_load_28 rfl
theorem x37_29 {x y : Int32} : X 37 29 L (.int y :: .int x :: st) h Q ↔ X 37 30 L (.int (x + y) :: st) h Q := X_n mC_37 dX1_load_29 rfl
theorem x37_30 {j : Int32} {a : Nat} : X 37 30 L (.int j :: .ref a :: st) h Q ↔ ib j (hS h a) ∧ X 37 31 L (.int (hI h a j.toNatClampNeg) :: st) h Q := X_iald mC_37 dX1_load_30
theorem x37_31 {a : Nat} {v : Int32} : X 37 31 L (.int v :: .ref a :: st) h Q ↔ hS h a = (1, 1) ∧ X 37 34 L st (sI h a 1 v) Q := X_putI mC_37 dX1_load_31 (by decide +kernel)
theorem x37_34 {l1 l2 : Value} {x : Nat} : X 37 34 [.ref x, l1, l2] st h Q ↔ X 37 35 [.ref x, l1, l2] (.ref x :: st) h Q := X_n mC_37 dX1_load_34 rfl
theorem x37_35 {l0 l2 : Value} {x : Nat} : X 37 35 [l0, .ref x, l2] st h Q ↔ X 37 36 [l0, .ref x, l2] (.ref x :: st) h Q := X_n mC_37 dX1_load_35 rfl
theorem x37_36 {l0 l1 : Value} {x : Int32} : X 37 36 [l0, l1, .int x] st h Q ↔ X 37 37 [l0, l1, .int x] (.int x :: st) h Q := X_n mC_37 dX1_load_36 rfl
theorem x37_37 : X 37 37 L st h Q ↔ X 37 38 L (.int 5 :: st) h Q := X_n mC_37 dX1_load_37 rfl
theorem x37_38 {x y : Int32} : X 37 38 L (.int y :: .int x :: st) h Q ↔ X 37 39 L (.int (x + y) :: st) h Q := X_n mC_37 dX1_load_38 rfl
theorem x37_39 : X 37 39 L st h Q ↔ X 37 40 L (.int 1 :: st) h Q := X_n mC_37 dX1_load_39 rfl
theorem x37_40 {x y : Int32} : X 37 40 L (.int y :: .int x :: st) h Q ↔ X 37 41 L (.int (x + y) :: st) h Q := X_n mC_37 dX1_load_40 rfl
theorem x37_41 {j : Int32} {a : Nat} : X 37 41 L (.int j :: .ref a :: st) h Q ↔ ib j (hS h a) ∧ X 37 42 L (.int (hI h a j.toNatClampNeg) :: st) h Q := X_iald mC_37 dX1_load_41
theorem x37_42 {a : Nat} {v : Int32} : X 37 42 L (.int v :: .ref a :: st) h Q ↔ hS h a = (1, 1) ∧ X 37 45 L st (sI h a 2 v) Q := X_putI mC_37 dX1_load_42 (by decide +kernel)
theorem x37_45 {l1 l2 : Value} {x : Nat} : X 37 45 [.ref x, l1, l2] st h Q ↔ X 37 46 [.ref x, l1, l2] (.ref x :: st) h Q := X_n mC_37 dX1_load_45 rfl
theorem x37_46 {l0 l2 : Value} {x : Nat} : X 37 46 [l0, .ref x, l2] st h Q ↔ X 37 47 [l0, .ref x, l2] (.ref x :: st) h Q := X_n mC_37 dX1_load_46 rfl
theorem x37_47 {l0 l1 : Value} {x : Int32} : X 37 47 [l0, l1, .int x] st h Q ↔ X 37 48 [l0, l1, .int x] (.int x :: st) h Q := X_n mC_37 dX1_load_47 rfl
theorem x37_48 : X 37 48 L st h Q ↔ X 37 49 L (.int 5 :: st) h Q := X_n mC_37 dX1_load_48 rfl
theorem x37_49 {x y : Int32} : X 37 49 L (.int y :: .int x :: st) h Q ↔ X 37 50 L (.int (x + y) :: st) h Q := X_n mC_37 dX1_load_49 rfl
theorem x37_50 : X 37 50 L st h Q ↔ X 37 51 L (.int 2 :: st) h Q := X_n mC_37 dX1_load_50 rfl
theorem x37_51 {x y : Int32} : X 37 51 L (.int y :: .int x :: st) h Q ↔ X 37 52 L (.int (x + y) :: st) h Q := X_n mC_37 dX1_load_51 rfl
theorem x37_52 {j : Int32} {a : Nat} : X 37 52 L (.int j :: .ref a :: st) h Q ↔ ib j (hS h a) ∧ X 37 53 L (.int (hI h a j.toNatClampNeg) :: st) h Q := X_iald mC_37 dX1_load_52
theorem x37_53 {a : Nat} {v : Int32} : X 37 53 L (.int v :: .ref a :: st) h Q ↔ hS h a = (1, 1) ∧ X 37 56 L st (sI h a 3 v) Q := X_putI mC_37 dX1_load_53 (by decide +kernel)
theorem x37_56 {l1 l2 : Value} {x : Nat} : X 37 56 [.ref x, l1, l2] st h Q ↔ X 37 57 [.ref x, l1, l2] (.ref x :: st) h Q := X_n mC_37 dX1_load_56 rfl
theorem x37_57 {l0 l2 : Value} {x : Nat} : X 37 57 [l0, .ref x, l2] st h Q ↔ X 37 58 [l0, .ref x, l2] (.ref x :: st) h Q := X_n mC_37 dX1_load_57 rfl
theorem x37_58 {l0 l1 : Value} {x : Int32} : X 37 58 [l0, l1, .int x] st h Q ↔ X 37 59 [l0, l1, .int x] (.int x :: st) h Q := X_n mC_37 dX1_load_58 rfl
theorem x37_59 : X 37 59 L st h Q ↔ X 37 60 L (.int 5 :: st) h Q := X_n mC_37 dX1_load_59 rfl
theorem x37_60 {x y : Int32} : X 37 60 L (.int y :: .int x :: st) h Q ↔ X 37 61 L (.int (x + y) :: st) h Q := X_n mC_37 dX1_load_60 rfl
theorem x37_61 : X 37 61 L st h Q ↔ X 37 62 L (.int 3 :: st) h Q := X_n mC_37 dX1_load_61 rfl
theorem x37_62 {x y : Int32} : X 37 62 L (.int y :: .int x :: st) h Q ↔ X 37 63 L (.int (x + y) :: st) h Q := X_n mC_37 dX1_load_62 rfl
theorem x37_63 {j : Int32} {a : Nat} : X 37 63 L (.int j :: .ref a :: st) h Q ↔ ib j (hS h a) ∧ X 37 64 L (.int (hI h a j.toNatClampNeg) :: st) h Q := X_iald mC_37 dX1_load_63
theorem x37_64 {a : Nat} {v : Int32} : X 37 64 L (.int v :: .ref a :: st) h Q ↔ hS h a = (1, 1) ∧ X 37 67 L st (sI h a 4 v) Q := X_putI mC_37 dX1_load_64 (by decide +kernel)
theorem x37_67 {l1 l2 : Value} {x : Nat} : X 37 67 [.ref x, l1, l2] st h Q ↔ X 37 68 [.ref x, l1, l2] (.ref x :: st) h Q := X_n mC_37 dX1_load_67 rfl
theorem x37_68 {l0 l2 : Value} {x : Nat} : X 37 68 [l0, .ref x, l2] st h Q ↔ X 37 69 [l0, .ref x, l2] (.ref x :: st) h Q := X_n mC_37 dX1_load_68 rfl
theorem x37_69 {l0 l1 : Value} {x : Int32} : X 37 69 [l0, l1, .int x] st h Q ↔ X 37 70 [l0, l1, .int x] (.int x :: st) h Q := X_n mC_37 dX1_load_69 rfl
theorem x37_70 : X 37 70 L st h Q ↔ X 37 71 L (.int 5 :: st) h Q := X_n mC_37 dX1_load_70 rfl
theorem x37_71 {x y : Int32} : X 37 71 L (.int y :: .int x :: st) h Q ↔ X 37 72 L (.int (x + y) :: st) h Q := X_n mC_37 dX1_load_71 rfl
theorem x37_72 : X 37 72 L st h Q ↔ X 37 73 L (.int 4 :: st) h Q := X_n mC_37 dX1_load_72 rfl
theorem x37_73 {x y : Int32} : X 37 73 L (.int y :: .int x :: st) h Q ↔ X 37 74 L (.int (x + y) :: st) h Q := X_n mC_37 dX1_load_73 rfl
theorem x37_74 {j : Int32} {a : Nat} : X 37 74 L (.int j :: .ref a :: st) h Q ↔ ib j (hS h a) ∧ X 37 75 L (.int (hI h a j.toNatClampNeg) :: st) h Q := X_iald mC_37 dX1_load_74
theorem x37_75 {a : Nat} {v : Int32} : X 37 75 L (.int v :: .ref a :: st) h Q ↔ hS h a = (1, 1) ∧ X 37 78 L st (sI h a 5 v) Q := X_putI mC_37 dX1_load_75 (by decide +kernel)
theorem x37_78 : X 37 78 L [] h Q ↔ Q none h := X_retV mC_37 dX1_load_78 (by decide +kernel)
theorem mC_38 : mC 38 = cX1_placeOf := rfl
theorem x38_0 {l0 : Value} {x : Int32} : X 38 0 [l0, .int x] st h Q ↔ X 38 1 [l0, .int x] (.int x :: st) h Q := X_n mC_38 dX1_placeOf_0 rfl
theorem x38_1 {x : Int32} : X 38 1 L (.int x :: st) h Q ↔ if x < 0 then X 38 22 L st h Q else X 38 4 L st h Q := X_zlt mC_38 dX1_placeOf_1 (by decide)
theorem x38_4 {l0 : Value} {x : Int32} : X 38 4 [l0, .int x] st h Q ↔ X 38 5 [l0, .int x] (.int x :: st) h Q := X_n mC_38 dX1_placeOf_4 rfl
theorem x38_5 {l1 : Value} {x : Nat} : X 38 5 [.ref x, l1] st h Q ↔ X 38 6 [.ref x, l1] (.ref x :: st) h Q := X_n mC_38 dX1_placeOf_5 rfl
theorem x38_6 {a : Nat} : X 38 6 L (.ref a :: st) h Q ↔ (hS h a = (1, 1) ∧ hR h a 0 ≠ 0) ∧ X 38 9 L (.ref (hR h a 0) :: st) h Q := X_getR mC_38 dX1_placeOf_6 (by decide +kernel)
theorem x38_9 {a : Nat} : X 38 9 L (.ref a :: st) h Q ↔ ((hS h a).1 = 2 ∨ (hS h a).1 = 3 ∨ (hS h a).1 = 4) ∧ X 38 10 L (.int (Int32.ofNat (hS h a).2) :: st) h Q := X_alen mC_38 dX1_placeOf_9
theorem x38_10 {x y : Int32} : X 38 10 L (.int y :: .int x :: st) h Q ↔ if x < y then X 38 13 L st h Q else X 38 22 L st h Q := X_ige mC_38 dX1_placeOf_10 (by decide)
theorem x38_13 {l1 : Value} {x : Nat} : X 38 13 [.ref x, l1] st h Q ↔ X 38 14 [.ref x, l1] (.ref x :: st) h Q := X_n mC_38 dX1_placeOf_13 rfl
theorem x38_14 {a : Nat} : X 38 14 L (.ref a :: st) h Q ↔ (hS h a = (1, 1) ∧ hR h a 0 ≠ 0) ∧ X 38 17 L (.ref (hR h a 0) :: st) h Q := X_getR mC_38 dX1_placeOf_14 (by decide +kernel)
theorem x38_17 {l0 : Value} {x : Int32} : X 38 17 [l0, .int x] st h Q ↔ X 38 18 [l0, .int x] (.int x :: st) h Q := X_n mC_38 dX1_placeOf_17 rfl
theorem x38_18 {j : Int32} {a : Nat} : X 38 18 L (.int j :: .ref a :: st) h Q ↔ ib j (hS h a) ∧ X 38 19 L (.int (hI h a j.toNatClampNeg) :: st) h Q := X_iald mC_38 dX1_placeOf_18
theorem x38_19 : X 38 19 L st h Q ↔ X 38 24 L st h Q := X_goto mC_38 dX1_placeOf_19 (by decide)
theorem x38_22 : X 38 22 L st h Q ↔ X 38 24 L (.int (-4) :: st) h Q := X_n mC_38 dX1_placeOf_22 rfl
theorem x38_24 {v : Int32} : X 38 24 L [.int v] h Q ↔ Q (some (.int v)) h := X_ret mC_38 dX1_placeOf_24 (by decide +kernel)
theorem mC_39 : mC 39 = cX1_areNext := rfl
theorem x39_0 {l1 l2 l3 : Value} {x : Nat} : X 39 0 [.ref x, l1, l2, l3] st h Q ↔ X 39 1 [.ref x, l1, l2, l3] (.ref x :: st) h Q := X_n mC_39 dX1_areNext_0 rfl
theorem x39_1 {l0 l2 l3 : Value} {x : Int32} : X 39 1 [l0, .int x, l2, l3] st h Q ↔ X 39 2 [l0, .int x, l2, l3] (.int x :: st) h Q := X_n mC_39 dX1_areNext_1 rfl
theorem x39_2 {b : Nat} {a0 : Int32} : X 39 2 L [.int a0, .ref b] h Q ↔ hS h b = (1, 1) ∧ X 38 0 [.ref b, .int a0] [] h (fun r h' => X 39 5 L (pv r []) h' Q) := X_virt (as := [.int a0]) (n := 1) (ml := 2) (ck := 1) mC_39 dX1_areNext_2 (by unfold cOk; decide +kernel) ⟨rfl, rfl, by decide, Nat.le_of_ble_eq_true rfl⟩
theorem x39_5 {l1 l2 l3 : Value} {x : Nat} : X 39 5 [.ref x, l1, l2, l3] st h Q ↔ X 39 6 [.ref x, l1, l2, l3] (.ref x :: st) h Q := X_n mC_39 dX1_areNext_5 rfl
theorem x39_6 {l0 l1 l3 : Value} {x : Int32} : X 39 6 [l0, l1, .int x, l3] st h Q ↔ X 39 7 [l0, l1, .int x, l3] (.int x :: st) h Q := X_n mC_39 dX1_areNext_6 rfl
theorem x39_7 {b : Nat} {a0 : Int32} {w0 : Value} : X 39 7 L [.int a0, .ref b, w0] h Q ↔ hS h b = (1, 1) ∧ X 38 0 [.ref b, .int a0] [] h (fun r h' => X 39 10 L (pv r [w0]) h' Q) := X_virt (as := [.int a0]) (n := 1) (ml := 2) (ck := 1) mC_39 dX1_areNext_7 (by unfold cOk; decide +kernel) ⟨rfl, rfl, by decide, Nat.le_of_ble_eq_true rfl⟩
theorem x39_10 {x y : Int32} : X 39 10 L (.int y :: .int x :: st) h Q ↔ X 39 11 L (.int (x - y) :: st) h Q := X_n mC_39 dX1_areNext_10 rfl
theorem x39_11 {l0 l1 l2 l3 : Value} {x : Int32} : X 39 11 [l0, l1, l2, l3] (.int x :: st) h Q ↔ c1 l2 = true ∧ X 39 12 [l0, l1, l2, .int x] st h Q := X_sto (kk := 3) (pc' := 12) (w := .int x) mC_39 dX1_areNext_11 rfl (Nat.le_of_ble_eq_true rfl) rfl
theorem x39_12 {l0 l1 l2 : Value} {x : Int32} : X 39 12 [l0, l1, l2, .int x] st h Q ↔ X 39 13 [l0, l1, l2, .int x] (.int x :: st) h Q := X_n mC_39 dX1_areNext_12 rfl
theorem x39_13 : X 39 13 L st h Q ↔ X 39 14 L (.int 1 :: st) h Q := X_n mC_39 dX1_areNext_13 rfl
theorem x39_14 {x y : Int32} : X 39 14 L (.int y :: .int x :: st) h Q ↔ if x = y then X 39 22 L st h Q else X 39 17 L st h Q := X_ieq mC_39 dX1_areNext_14 (by decide)
theorem x39_17 {l0 l1 l2 : Value} {x : Int32} : X 39 17 [l0, l1, l2, .int x] st h Q ↔ X 39 18 [l0, l1, l2, .int x] (.int x :: st) h Q := X_n mC_39 dX1_areNext_17 rfl
theorem x39_18 : X 39 18 L st h Q ↔ X 39 19 L (.int (-1) :: st) h Q := X_n mC_39 dX1_areNext_18 rfl
theorem x39_19 {x y : Int32} : X 39 19 L (.int y :: .int x :: st) h Q ↔ if x = y then X 39 22 L st h Q else X 39 26 L st h Q := X_ine mC_39 dX1_areNext_19 (by decide)
theorem x39_22 : X 39 22 L st h Q ↔ X 39 23 L (.int 1 :: st) h Q := X_n mC_39 dX1_areNext_22 rfl
theorem x39_23 : X 39 23 L st h Q ↔ X 39 27 L st h Q := X_goto mC_39 dX1_areNext_23 (by decide)
theorem x39_26 : X 39 26 L st h Q ↔ X 39 27 L (.int 0 :: st) h Q := X_n mC_39 dX1_areNext_26 rfl
theorem x39_27 {v : Int32} : X 39 27 L [.int v] h Q ↔ (v = 0 ∨ v = 1) ∧ Q (some (.int v)) h := X_retZ mC_39 dX1_areNext_27 (by decide +kernel)
theorem mC_40 : mC 40 = cX1_guestIn := rfl
theorem x40_0 : X 40 0 L st h Q ↔ X 40 1 L (.int 0 :: st) h Q := X_n mC_40 dX1_guestIn_0 rfl
theorem x40_1 {l0 l1 l2 l3 : Value} {x : Int32} : X 40 1 [l0, l1, l2, l3] (.int x :: st) h Q ↔ c1 l2 = true ∧ X 40 2 [l0, l1, l2, .int x] st h Q := X_sto (kk := 3) (pc' := 2) (w := .int x) mC_40 dX1_guestIn_1 rfl (Nat.le_of_ble_eq_true rfl) rfl
theorem x40_2 {l0 l1 l2 : Value} {x : Int32} : X 40 2 [l0, l1, l2, .int x] st h Q ↔ X 40 3 [l0, l1, l2, .int x] (.int x :: st) h Q := X_n mC_40 dX1_guestIn_2 rfl
theorem x40_3 {l0 l1 l3 : Value} {x : Int32} : X 40 3 [l0, l1, .int x, l3] st h Q ↔ X 40 4 [l0, l1, .int x, l3] (.int x :: st) h Q := X_n mC_40 dX1_guestIn_3 rfl
theorem x40_4 {x y : Int32} : X 40 4 L (.int y :: .int x :: st) h Q ↔ if x < y then X 40 7 L st h Q else X 40 24 L st h Q := X_ige mC_40 dX1_guestIn_4 (by decide)
theorem x40_7 {l1 l2 l3 : Value} {x : Nat} : X 40 7 [.ref x, l1, l2, l3] st h Q ↔ X 40 8 [.ref x, l1, l2, l3] (.ref x :: st) h Q := X_n mC_40 dX1_guestIn_7 rfl
theorem x40_8 {l0 l1 l2 : Value} {x : Int32} : X 40 8 [l0, l1, l2, .int x] st h Q ↔ X 40 9 [l0, l1, l2, .int x] (.int x :: st) h Q := X_n mC_40 dX1_guestIn_8 rfl
theorem x40_9 {b : Nat} {a0 : Int32} : X 40 9 L [.int a0, .ref b] h Q ↔ hS h b = (1, 1) ∧ X 38 0 [.ref b, .int a0] [] h (fun r h' => X 40 12 L (pv r []) h' Q) := X_virt (as := [.int a0]) (n := 1) (ml := 2) (ck := 1) mC_40 dX1_guestIn_9 (by unfold cOk; decide +kernel) ⟨rfl, rfl, by decide, Nat.le_of_ble_eq_true rfl⟩
theorem x40_12 {l0 l2 l3 : Value} {x : Int32} : X 40 12 [l0, .int x, l2, l3] st h Q ↔ X 40 13 [l0, .int x, l2, l3] (.int x :: st) h Q := X_n mC_40 dX1_guestIn_12 rfl
theorem x40_13 {x y : Int32} : X 40 13 L (.int y :: .int x :: st) h Q ↔ if x = y then X 40 16 L st h Q else X 40 18 L st h Q := X_ine mC_40 dX1_guestIn_13 (by decide)
theorem x40_16 {l0 l1 l2 : Value} {x : Int32} : X 40 16 [l0, l1, l2, .int x] st h Q ↔ X 40 17 [l0, l1, l2, .int x] (.int x :: st) h Q := X_n mC_40 dX1_guestIn_16 rfl
theorem x40_17 {v : Int32} : X 40 17 L [.int v] h Q ↔ Q (some (.int v)) h := X_ret mC_40 dX1_guestIn_17 (by decide +kernel)
theorem x40_18 {l0 l1 l2 : Value} {x : Int32} : X 40 18 [l0, l1, l2, .int x] st h Q ↔ c1 l2 = true ∧ X 40 21 [l0, l1, l2, .int (x + 1)] st h Q := X_inc (pc' := 21) (x := x) mC_40 dX1_guestIn_18 rfl rfl rfl
theorem x40_21 : X 40 21 L st h Q ↔ X 40 2 L st h Q := X_goto mC_40 dX1_guestIn_21 (by decide)
theorem x40_24 : X 40 24 L st h Q ↔ X 40 26 L (.int (-4) :: st) h Q := X_n mC_40 dX1_guestIn_24 rfl
theorem x40_26 {v : Int32} : X 40 26 L [.int v] h Q ↔ Q (some (.int v)) h := X_ret mC_40 dX1_guestIn_26 (by decide +kernel)
theorem mC_41 : mC 41 = cX1_isEmpty := rfl
theorem x41_0 {l1 l2 : Value} {x : Nat} : X 41 0 [.ref x, l1, l2] st h Q ↔ X 41 1 [.ref x, l1, l2] (.ref x :: st) h Q := X_n mC_41 dX1_isEmpty_0 rfl
theorem x41_1 {l0 l2 : Value} {x : Int32} : X 41 1 [l0, .int x, l2] st h Q ↔ X 41 2 [l0, .int x, l2] (.int x :: st) h Q := X_n mC_41 dX1_isEmpty_1 rfl
theorem x41_2 {l0 l1 : Value} {x : Int32} : X 41 2 [l0, l1, .int x] st h Q ↔ X 41 3 [l0, l1, .int x] (.int x :: st) h Q := X_n mC_41 dX1_isEmpty_2 rfl
theorem x41_3 {b : Nat} {a0 : Int32} {a1 : Int32} : X 41 3 L [.int a1, .int a0, .ref b] h Q ↔ hS h b = (1, 1) ∧ X 40 0 [.ref b, .int a0, .int a1, .null] [] h (fun r h' => X 41 6 L (pv r []) h' Q) := X_virt (as := [.int a0, .int a1]) (n := 2) (ml := 4) (ck := 1) mC_41 dX1_isEmpty_3 (by unfold cOk; decide +kernel) ⟨rfl, rfl, by decide, Nat.le_of_ble_eq_true rfl⟩
theorem x41_6 : X 41 6 L st h Q ↔ X 41 8 L (.int (-4) :: st) h Q := X_n mC_41 dX1_isEmpty_6 rfl
theorem x41_8 {x y : Int32} : X 41 8 L (.int y :: .int x :: st) h Q ↔ if x = y then X 41 11 L st h Q else X 41 15 L st h Q := X_ine mC_41 dX1_isEmpty_8 (by decide)
theorem x41_11 : X 41 11 L st h Q ↔ X 41 12 L (.int 1 :: st) h Q := X_n mC_41 dX1_isEmpty_11 rfl
theorem x41_12 : X 41 12 L st h Q ↔ X 41 16 L st h Q := X_goto mC_41 dX1_isEmpty_12 (by decide)
theorem x41_15 : X 41 15 L st h Q ↔ X 41 16 L (.int 0 :: st) h Q := X_n mC_41 dX1_isEmpty_15 rfl
theorem x41_16 {v : Int32} : X 41 16 L [.int v] h Q ↔ (v = 0 ∨ v = 1) ∧ Q (some (.int v)) h := X_retZ mC_41 dX1_isEmpty_16 (by decide +kernel)
theorem mC_42 : mC 42 = cX1_isStuffed := rfl
theorem x42_0 {l1 : Value} {x : Nat} : X 42 0 [.ref x, l1] st h Q ↔ X 42 1 [.ref x, l1] (.ref x :: st) h Q := X_n mC_42 dX1_isStuffed_0 rfl
theorem x42_1 {a : Nat} : X 42 1 L (.ref a :: st) h Q ↔ hS h a = (1, 1) ∧ X 42 4 L (.int (hI h a 1) :: st) h Q := X_getI mC_42 dX1_isStuffed_1 (by decide +kernel)
theorem x42_4 {l0 : Value} {x : Int32} : X 42 4 [l0, .int x] st h Q ↔ X 42 5 [l0, .int x] (.int x :: st) h Q := X_n mC_42 dX1_isStuffed_4 rfl
theorem x42_5 {x y : Int32} : X 42 5 L (.int y :: .int x :: st) h Q ↔ X 42 6 L (.int (x >>> (y &&& 31)) :: st) h Q := X_n mC_42 dX1_isStuffed_5 rfl
theorem x42_6 : X 42 6 L st h Q ↔ X 42 7 L (.int 1 :: st) h Q := X_n mC_42 dX1_isStuffed_6 rfl
theorem x42_7 {x y : Int32} : X 42 7 L (.int y :: .int x :: st) h Q ↔ X 42 8 L (.int (x &&& y) :: st) h Q := X_n mC_42 dX1_isStuffed_7 rfl
theorem x42_8 : X 42 8 L st h Q ↔ X 42 9 L (.int 1 :: st) h Q := X_n mC_42 dX1_isStuffed_8 rfl
theorem x42_9 {x y : Int32} : X 42 9 L (.int y :: .int x :: st) h Q ↔ if x = y then X 42 12 L st h Q else X 42 16 L st h Q := X_ine mC_42 dX1_isStuffed_9 (by decide)
theorem x42_12 : X 42 12 L st h Q ↔ X 42 13 L (.int 1 :: st) h Q := X_n mC_42 dX1_isStuffed_12 rfl
theorem x42_13 : X 42 13 L st h Q ↔ X 42 17 L st h Q := X_goto mC_42 dX1_isStuffed_13 (by decide)
theorem x42_16 : X 42 16 L st h Q ↔ X 42 17 L (.int 0 :: st) h Q := X_n mC_42 dX1_isStuffed_16 rfl
theorem x42_17 {v : Int32} : X 42 17 L [.int v] h Q ↔ (v = 0 ∨ v = 1) ∧ Q (some (.int v)) h := X_retZ mC_42 dX1_isStuffed_17 (by decide +kernel)
theorem mC_43 : mC 43 = cX1_turnWall := rfl
theorem x43_0 {l1 : Value} {x : Nat} : X 43 0 [.ref x, l1] st h Q ↔ X 43 1 [.ref x, l1] (.ref x :: st) h Q := X_n mC_43 dX1_turnWall_0 rfl
theorem x43_1 {x : Nat} : X 43 1 L (.ref x :: st) h Q ↔ X 43 2 L (.ref x :: .ref x :: st) h Q := X_n mC_43 dX1_turnWall_1 rfl
theorem x43_2 {a : Nat} : X 43 2 L (.ref a :: st) h Q ↔ hS h a = (1, 1) ∧ X 43 5 L (.int (hI h a 1) :: st) h Q := X_getI mC_43 dX1_turnWall_2 (by decide +kernel)
theorem x43_5 : X 43 5 L st h Q ↔ X 43 6 L (.int 1 :: st) h Q := X_n mC_43 dX1_turnWall_5 rfl
theorem x43_6 {l0 : Value} {x : Int32} : X 43 6 [l0, .int x] st h Q ↔ X 43 7 [l0, .int x] (.int x :: st) h Q := X_n mC_43 dX1_turnWall_6 rfl
theorem x43_7 {x y : Int32} : X 43 7 L (.int y :: .int x :: st) h Q ↔ X 43 8 L (.int (x <<< (y &&& 31)) :: st) h Q := X_n mC_43 dX1_turnWall_7 rfl
theorem x43_8 {x y : Int32} : X 43 8 L (.int y :: .int x :: st) h Q ↔ X 43 9 L (.int (x ^^^ y) :: st) h Q := X_n mC_43 dX1_turnWall_8 rfl
theorem x43_9 {a : Nat} {v : Int32} : X 43 9 L (.int v :: .ref a :: st) h Q ↔ hS h a = (1, 1) ∧ X 43 12 L st (sI h a 1 v) Q := X_putI mC_43 dX1_turnWall_9 (by decide +kernel)
theorem x43_12 : X 43 12 L [] h Q ↔ Q none h := X_retV mC_43 dX1_turnWall_12 (by decide +kernel)
theorem mC_44 : mC 44 = cX1_passHour := rfl
theorem x44_0 {x : Nat} : X 44 0 [.ref x] st h Q ↔ X 44 1 [.ref x] (.ref x :: st) h Q := X_n mC_44 dX1_passHour_0 rfl
theorem x44_1 : X 44 1 L st h Q ↔ X 44 3 L (.int 7 :: st) h Q := X_n mC_44 dX1_passHour_1 rfl
theorem x44_3 {x : Nat} : X 44 3 [.ref x] st h Q ↔ X 44 4 [.ref x] (.ref x :: st) h Q := X_n mC_44 dX1_passHour_3 rfl
theorem x44_4 {a : Nat} : X 44 4 L (.ref a :: st) h Q ↔ hS h a = (1, 1) ∧ X 44 7 L (.int (hI h a 2) :: st) h Q := X_getI mC_44 dX1_passHour_4 (by decide +kernel)
theorem x44_7 : X 44 7 L st h Q ↔ X 44 8 L (.int 1 :: st) h Q := X_n mC_44 dX1_passHour_7 rfl
theorem x44_8 {x y : Int32} : X 44 8 L (.int y :: .int x :: st) h Q ↔ X 44 9 L (.int (x + y) :: st) h Q := X_n mC_44 dX1_passHour_8 rfl
theorem x44_9 {x y : Int32} {w0 : Value} : X 44 9 L [.int y, .int x, w0] h Q ↔ X 44 12 L [.int (if y < x then y else x), w0] h Q := X_min (n := 2) mC_44 dX1_passHour_9 (by decide +kernel) (Nat.le_of_ble_eq_true rfl)
theorem x44_12 {a : Nat} {v : Int32} : X 44 12 L (.int v :: .ref a :: st) h Q ↔ hS h a = (1, 1) ∧ X 44 15 L st (sI h a 2 v) Q := X_putI mC_44 dX1_passHour_12 (by decide +kernel)
theorem x44_15 : X 44 15 L [] h Q ↔ Q none h := X_retV mC_44 dX1_passHour_15 (by decide +kernel)
theorem mC_45 : mC 45 = cX1_move := rfl
theorem x45_0 {l0 l2 l3 : Value} {x : Int32} : X 45 0 [l0, .int x, l2, l3] st h Q ↔ X 45 1 [l0, .int x, l2, l3] (.int x :: st) h Q := X_n mC_45 dX1_move_0 rfl
theorem x45_1 {x : Int32} : X 45 1 L (.int x :: st) h Q ↔ if x < 0 then X 45 13 L st h Q else X 45 4 L st h Q := X_zlt mC_45 dX1_move_1 (by decide)
theorem x45_4 {l0 l2 l3 : Value} {x : Int32} : X 45 4 [l0, .int x, l2, l3] st h Q ↔ X 45 5 [l0, .int x, l2, l3] (.int x :: st) h Q := X_n mC_45 dX1_move_4 rfl
theorem x45_5 {l1 l2 l3 : Value} {x : Nat} : X 45 5 [.ref x, l1, l2, l3] st h Q ↔ X 45 6 [.ref x, l1, l2, l3] (.ref x :: st) h Q := X_n mC_45 dX1_move_5 rfl
theorem x45_6 {a : Nat} : X 45 6 L (.ref a :: st) h Q ↔ (hS h a = (1, 1) ∧ hR h a 0 ≠ 0) ∧ X 45 9 L (.ref (hR h a 0) :: st) h Q := X_getR mC_45 dX1_move_6 (by decide +kernel)
theorem x45_9 {a : Nat} : X 45 9 L (.ref a :: st) h Q ↔ ((hS h a).1 = 2 ∨ (hS h a).1 = 3 ∨ (hS h a).1 = 4) ∧ X 45 10 L (.int (Int32.ofNat (hS h a).2) :: st) h Q := X_alen mC_45 dX1_move_9
theorem x45_10 {x y : Int32} : X 45 10 L (.int y :: .int x :: st) h Q ↔ if x < y then X 45 14 L st h Q else X 45 13 L st h Q := X_ilt mC_45 dX1_move_10 (by decide)
theorem x45_13 : X 45 13 L [] h Q ↔ Q none h := X_retV mC_45 dX1_move_13 (by decide +kernel)
theorem x45_14 {l1 l2 l3 : Value} {x : Nat} : X 45 14 [.ref x, l1, l2, l3] st h Q ↔ X 45 15 [.ref x, l1, l2, l3] (.ref x :: st) h Q := X_n mC_45 dX1_move_14 rfl
theorem x45_15 {x : Nat} : X 45 15 L (.ref x :: st) h Q ↔ X 45 16 L (.ref x :: .ref x :: st) h Q := X_n mC_45 dX1_move_15 rfl
theorem x45_16 {a : Nat} : X 45 16 L (.ref a :: st) h Q ↔ hS h a = (1, 1) ∧ X 45 19 L (.int (hI h a 3) :: st) h Q := X_getI mC_45 dX1_move_16 (by decide +kernel)
theorem x45_19 {l0 l1 l3 : Value} {x : Int32} : X 45 19 [l0, l1, .int x, l3] st h Q ↔ X 45 20 [l0, l1, .int x, l3] (.int x :: st) h Q := X_n mC_45 dX1_move_19 rfl
theorem x45_20 {l1 l2 l3 : Value} {x : Nat} : X 45 20 [.ref x, l1, l2, l3] st h Q ↔ X 45 21 [.ref x, l1, l2, l3] (.ref x :: st) h Q := X_n mC_45 dX1_move_20 rfl
theorem x45_21 {a : Nat} : X 45 21 L (.ref a :: st) h Q ↔ (hS h a = (1, 1) ∧ hR h a 0 ≠ 0) ∧ X 45 24 L (.ref (hR h a 0) :: st) h Q := X_getR mC_45 dX1_move_21 (by decide +kernel)
theorem x45_24 {l0 l2 l3 : Value} {x : Int32} : X 45 24 [l0, .int x, l2, l3] st h Q ↔ X 45 25 [l0, .int x, l2, l3] (.int x :: st) h Q := X_n mC_45 dX1_move_24 rfl
theorem x45_25 {j : Int32} {a : Nat} : X 45 25 L (.int j :: .ref a :: st) h Q ↔ ib j (hS h a) ∧ X 45 26 L (.int (hI h a j.toNatClampNeg) :: st) h Q := X_iald mC_45 dX1_move_25
theorem x45_26 {x y : Int32} : X 45 26 L (.int y :: .int x :: st) h Q ↔ X 45 27 L (.int (x - y) :: st) h Q := X_n mC_45 dX1_move_26 rfl
theorem x45_27 {x : Int32} {w0 w1 : Value} : X 45 27 L [.int x, w0, w1] h Q ↔ X 45 30 L [.int (if 0 ≤ x then x else 0 - x), w0, w1] h Q := X_abs (n := 1) mC_45 dX1_move_27 (by decide +kernel) (Nat.le_of_ble_eq_true rfl)
theorem x45_30 {x y : Int32} : X 45 30 L (.int y :: .int x :: st) h Q ↔ X 45 31 L (.int (x + y) :: st) h Q := X_n mC_45 dX1_move_30 rfl
theorem x45_31 {a : Nat} {v : Int32} : X 45 31 L (.int v :: .ref a :: st) h Q ↔ hS h a = (1, 1) ∧ X 45 34 L st (sI h a 3 v) Q := X_putI mC_45 dX1_move_31 (by decide +kernel)
theorem x45_34 {l1 l2 l3 : Value} {x : Nat} : X 45 34 [.ref x, l1, l2, l3] st h Q ↔ X 45 35 [.ref x, l1, l2, l3] (.ref x :: st) h Q := X_n mC_45 dX1_move_34 rfl
theorem x45_35 {x : Nat} : X 45 35 L (.ref x :: st) h Q ↔ X 45 36 L (.ref x :: .ref x :: st) h Q := X_n mC_45 dX1_move_35 rfl
theorem x45_36 {a : Nat} : X 45 36 L (.ref a :: st) h Q ↔ hS h a = (1, 1) ∧ X 45 39 L (.int (hI h a 4) :: st) h Q := X_getI mC_45 dX1_move_36 (by decide +kernel)
theorem x45_39 : X 45 39 L st h Q ↔ X 45 40 L (.int 1 :: st) h Q := X_n mC_45 dX1_move_39 rfl
theorem x45_40 {x y : Int32} : X 45 40 L (.int y :: .int x :: st) h Q ↔ X 45 41 L (.int (x + y) :: st) h Q := X_n mC_45 dX1_move_40 rfl
theorem x45_41 {a : Nat} {v : Int32} : X 45 41 L (.int v :: .ref a :: st) h Q ↔ hS h a = (1, 1) ∧ X 45 44 L st (sI h a 4 v) Q := X_putI mC_45 dX1_move_41 (by decide +kernel)
theorem x45_44 {l1 l2 l3 : Value} {x : Nat} : X 45 44 [.ref x, l1, l2, l3] st h Q ↔ X 45 45 [.ref x, l1, l2, l3] (.ref x :: st) h Q := X_n mC_45 dX1_move_44 rfl
theorem x45_45 {x : Nat} : X 45 45 L (.ref x :: st) h Q ↔ X 45 46 L (.ref x :: .ref x :: st) h Q := X_n mC_45 dX1_move_45 rfl
theorem x45_46 {a : Nat} : X 45 46 L (.ref a :: st) h Q ↔ hS h a = (1, 1) ∧ X 45 49 L (.int (hI h a 5) :: st) h Q := X_getI mC_45 dX1_move_46 (by decide +kernel)
theorem x45_49 {l0 l1 l2 : Value} {x : Int32} : X 45 49 [l0, l1, l2, .int x] st h Q ↔ X 45 50 [l0, l1, l2, .int x] (.int x :: st) h Q := X_n mC_45 dX1_move_49 rfl
theorem x45_50 {x y : Int32} : X 45 50 L (.int y :: .int x :: st) h Q ↔ X 45 51 L (.int (x + y) :: st) h Q := X_n mC_45 dX1_move_50 rfl
theorem x45_51 {a : Nat} {v : Int32} : X 45 51 L (.int v :: .ref a :: st) h Q ↔ hS h a = (1, 1) ∧ X 45 54 L st (sI h a 5 v) Q := X_putI mC_45 dX1_move_51 (by decide +kernel)
theorem x45_54 {l1 l2 l3 : Value} {x : Nat} : X 45 54 [.ref x, l1, l2, l3] st h Q ↔ X 45 55 [.ref x, l1, l2, l3] (.ref x :: st) h Q := X_n mC_45 dX1_move_54 rfl
theorem x45_55 {a : Nat} : X 45 55 L (.ref a :: st) h Q ↔ (hS h a = (1, 1) ∧ hR h a 0 ≠ 0) ∧ X 45 58 L (.ref (hR h a 0) :: st) h Q := X_getR mC_45 dX1_move_55 (by decide +kernel)
theorem x45_58 {l0 l2 l3 : Value} {x : Int32} : X 45 58 [l0, .int x, l2, l3] st h Q ↔ X 45 59 [l0, .int x, l2, l3] (.int x :: st) h Q := X_n mC_45 dX1_move_58 rfl
theorem x45_59 {l0 l1 l3 : Value} {x : Int32} : X 45 59 [l0, l1, .int x, l3] st h Q ↔ X 45 60 [l0, l1, .int x, l3] (.int x :: st) h Q := X_n mC_45 dX1_move_59 rfl
theorem x45_60 {j x : Int32} {a : Nat} : X 45 60 L (.int x :: .int j :: .ref a :: st) h Q ↔ ibw j (hS h a) ∧ X 45 61 L st (sI h a j.toNatClampNeg x) Q := X_iast mC_45 dX1_move_60
theorem x45_61 : X 45 61 L [] h Q ↔ Q none h := X_retV mC_45 dX1_move_61 (by decide +kernel)
theorem mC_46 : mC 46 = cX2_init := rfl
theorem x46_0 {x : Nat} : X 46 0 [.ref x] st h Q ↔ X 46 1 [.ref x] (.ref x :: st) h Q := X_n mC_46 dX2_init_0 rfl
theorem x46_1 {a : Nat} : X 46 1 L [.ref a] h Q ↔ X 46 4 L [] h Q := X_obj (n := 0) mC_46 dX2_init_1 (by decide +kernel) (Nat.le_of_ble_eq_true rfl)
theorem x46_4 {x : Nat} : X 46 4 [.ref x] st h Q ↔ X 46 5 [.ref x] (.ref x :: st) h Q := X_n mC_46 dX2_init_4 rfl
theorem x46_5 : X 46 5 L st h Q ↔ X 46 7 L (.int 8 :: st) h Q := X_n mC_46 dX2_init_5 rfl
theorem x46_7 {x : Int32} : X 46 7 L (.int x :: st) h Q ↔ (¬ x < 0 ∧ x < 100000) ∧ X 46 9 L (.ref (hN h) :: st) (nw h x.toNatClampNeg (2, x.toNatClampNeg)) Q := X_newI mC_46 dX2_init_7
theorem x46_9 {a v : Nat} : X 46 9 L (.ref v :: .ref a :: st) h Q ↔ (hS h a = (1, 2) ∧ v ≠ 0) ∧ X 46 12 L st (sR h a 0 v) Q := X_putR mC_46 dX2_init_9 (by decide +kernel)
theorem x46_12 {x : Nat} : X 46 12 [.ref x] st h Q ↔ X 46 13 [.ref x] (.ref x :: st) h Q := X_n mC_46 dX2_init_12 rfl
theorem x46_13 : X 46 13 L st h Q ↔ X 46 15 L (.int 8 :: st) h Q := X_n mC_46 dX2_init_13 rfl
theorem x46_15 {x : Int32} : X 46 15 L (.int x :: st) h Q ↔ (¬ x < 0 ∧ x < 100000) ∧ X 46 17 L (.ref (hN h) :: st) (nw h x.toNatClampNeg (2, x.toNatClampNeg)) Q := X_newI mC_46 dX2_init_15
theorem x46_17 {a v : Nat} : X 46 17 L (.ref v :: .ref a :: st) h Q ↔ (hS h a = (1, 2) ∧ v ≠ 0) ∧ X 46 20 L st (sR h a 1 v) Q := X_putR mC_46 dX2_init_17 (by decide +kernel)
theorem x46_20 {x : Nat} : X 46 20 [.ref x] st h Q ↔ X 46 21 [.ref x] (.ref x :: st) h Q := X_n mC_46 dX2_init_20 rfl
theorem x46_21 : X 46 21 L st h Q ↔ X 46 23 L (.int 8 :: st) h Q := X_n mC_46 dX2_init_21 rfl
theorem x46_23 {x : Int32} : X 46 23 L (.int x :: st) h Q ↔ (¬ x < 0 ∧ x < 100000) ∧ X 46 25 L (.ref (hN h) :: st) (nw h x.toNatClampNeg (3, x.toNatClampNeg)) Q := X_newZ mC_46 dX2_init_23
theorem x46_25 {a v : Nat} : X 46 25 L (.ref v :: .ref a :: st) h Q ↔ (hS h a = (1, 2) ∧ v ≠ 0) ∧ X 46 28 L st (sR h a 2 v) Q := X_putR mC_46 dX2_init_25 (by decide +kernel)
theorem x46_28 : X 46 28 L [] h Q ↔ Q none h := X_retV mC_46 dX2_init_28 (by decide +kernel)
theorem mC_47 : mC 47 = cX2_size := rfl
theorem x47_0 {x : Nat} : X 47 0 [.ref x] st h Q ↔ X 47 1 [.ref x] (.ref x :: st) h Q := X_n mC_47 dX2_size_0 rfl
theorem x47_1 {a : Nat} : X 47 1 L (.ref a :: st) h Q ↔ hS h a = (1, 2) ∧ X 47 4 L (.int (hI h a 3) :: st) h Q := X_getI mC_47 dX2_size_1 (by decide +kernel)
theorem x47_4 {v : Int32} : X 47 4 L [.int v] h Q ↔ Q (some (.int v)) h := X_ret mC_47 dX2_size_4 (by decide +kernel)
theorem mC_48 : mC 48 = cX2_clear := rfl
theorem x48_0 {x : Nat} : X 48 0 [.ref x] st h Q ↔ X 48 1 [.ref x] (.ref x :: st) h Q := X_n mC_48 dX2_clear_0 rfl
theorem x48_1 : X 48 1 L st h Q ↔ X 48 2 L (.int 0 :: st) h Q := X_n mC_48 dX2_clear_1 rfl
theorem x48_2 {a : Nat} {v : Int32} : X 48 2 L (.int v :: .ref a :: st) h Q ↔ hS h a = (1, 2) ∧ X 48 5 L st (sI h a 3 v) Q := X_putI mC_48 dX2_clear_2 (by decide +kernel)
theorem x48_5 : X 48 5 L [] h Q ↔ Q none h := X_retV mC_48 dX2_clear_5 (by decide +kernel)
theorem mC_49 : mC 49 = cX2_add := rfl
theorem x49_0 {l1 l2 l3 : Value} {x : Nat} : X 49 0 [.ref x, l1, l2, l3] st h Q ↔ X 49 1 [.ref x, l1, l2, l3] (.ref x :: st) h Q := X_n mC_49 dX2_add_0 rfl
theorem x49_1 {a : Nat} : X 49 1 L (.ref a :: st) h Q ↔ hS h a = (1, 2) ∧ X 49 4 L (.int (hI h a 3) :: st) h Q := X_getI mC_49 dX2_add_1 (by decide +kernel)
theorem x49_4 : X 49 4 L st h Q ↔ X 49 6 L (.int 8 :: st) h Q := X_n mC_49 dX2_add_4 rfl
theorem x49_6 {x y : Int32} : X 49 6 L (.int y :: .int x :: st) h Q ↔ if x < y then X 49 11 L st h Q else X 49 9 L st h Q := X_ilt mC_49 dX2_add_6 (by decide)
theorem x49_9 : X 49 9 L st h Q ↔ X 49 10 L (.int 0 :: st) h Q := X_n mC_49 dX2_add_9 rfl
theorem x49_10 {v : Int32} : X 49 10 L [.int v] h Q ↔ (v = 0 ∨ v = 1) ∧ Q (some (.int v)) h := X_retZ mC_49 dX2_add_10 (by decide +kernel)
theorem x49_11 {l1 l2 l3 : Value} {x : Nat} : X 49 11 [.ref x, l1, l2, l3] st h Q ↔ X 49 12 [.ref x, l1, l2, l3] (.ref x :: st) h Q := X_n mC_49 dX2_add_11 rfl
theorem x49_12 {a : Nat} : X 49 12 L (.ref a :: st) h Q ↔ (hS h a = (1, 2) ∧ hR h a 0 ≠ 0) ∧ X 49 15 L (.ref (hR h a 0) :: st) h Q := X_getR mC_49 dX2_add_12 (by decide +kernel)
theorem x49_15 {l1 l2 l3 : Value} {x : Nat} : X 49 15 [.ref x, l1, l2, l3] st h Q ↔ X 49 16 [.ref x, l1, l2, l3] (.ref x :: st) h Q := X_n mC_49 dX2_add_15 rfl
theorem x49_16 {a : Nat} : X 49 16 L (.ref a :: st) h Q ↔ hS h a = (1, 2) ∧ X 49 19 L (.int (hI h a 3) :: st) h Q := X_getI mC_49 dX2_add_16 (by decide +kernel)
theorem x49_19 {l0 l2 l3 : Value} {x : Int32} : X 49 19 [l0, .int x, l2, l3] st h Q ↔ X 49 20 [l0, .int x, l2, l3] (.int x :: st) h Q := X_n mC_49 dX2_add_19 rfl
theorem x49_20 {j x : Int32} {a : Nat} : X 49 20 L (.int x :: .int j :: .ref a :: st) h Q ↔ ibw j (hS h a) ∧ X 49 21 L st (sI h a j.toNatClampNeg x) Q := X_iast mC_49 dX2_add_20
theorem x49_21 {l1 l2 l3 : Value} {x : Nat} : X 49 21 [.ref x, l1, l2, l3] st h Q ↔ X 49 22 [.ref x, l1, l2, l3] (.ref x :: st) h Q := X_n mC_49 dX2_add_21 rfl
theorem x49_22 {a : Nat} : X 49 22 L (.ref a :: st) h Q ↔ (hS h a = (1, 2) ∧ hR h a 1 ≠ 0) ∧ X 49 25 L (.ref (hR h a 1) :: st) h Q := X_getR mC_49 dX2_add_22 (by decide +kernel)
theorem x49_25 {l1 l2 l3 : Value} {x : Nat} : X 49 25 [.ref x, l1, l2, l3] st h Q ↔ X 49 26 [.ref x, l1, l2, l3] (.ref x :: st) h Q := X_n mC_49 dX2_add_25 rfl
theorem x49_26 {a : Nat} : X 49 26 L (.ref a :: st) h Q ↔ hS h a = (1, 2) ∧ X 49 29 L (.int (hI h a 3) :: st) h Q := X_getI mC_49 dX2_add_26 (by decide +kernel)
theorem x49_29 {l0 l1 l3 : Value} {x : Int32} : X 49 29 [l0, l1, .int x, l3] st h Q ↔ X 49 30 [l0, l1, .int x, l3] (.int x :: st) h Q := X_n mC_49 dX2_add_29 rfl
theorem x49_30 {j x : Int32} {a : Nat} : X 49 30 L (.int x :: .int j :: .ref a :: st) h Q ↔ ibw j (hS h a) ∧ X 49 31 L st (sI h a j.toNatClampNeg x) Q := X_iast mC_49 dX2_add_30
theorem x49_31 {l1 l2 l3 : Value} {x : Nat} : X 49 31 [.ref x, l1, l2, l3] st h Q ↔ X 49 32 [.ref x, l1, l2, l3] (.ref x :: st) h Q := X_n mC_49 dX2_add_31 rfl
theorem x49_32 {a : Nat} : X 49 32 L (.ref a :: st) h Q ↔ (hS h a = (1, 2) ∧ hR h a 2 ≠ 0) ∧ X 49 35 L (.ref (hR h a 2) :: st) h Q := X_getR mC_49 dX2_add_32 (by decide +kernel)
theorem x49_35 {l1 l2 l3 : Value} {x : Nat} : X 49 35 [.ref x, l1, l2, l3] st h Q ↔ X 49 36 [.ref x, l1, l2, l3] (.ref x :: st) h Q := X_n mC_49 dX2_add_35 rfl
theorem x49_36 {a : Nat} : X 49 36 L (.ref a :: st) h Q ↔ hS h a = (1, 2) ∧ X 49 39 L (.int (hI h a 3) :: st) h Q := X_getI mC_49 dX2_add_36 (by decide +kernel)
theorem x49_39 {l0 l1 l2 : Value} {x : Int32} : X 49 39 [l0, l1, l2, .int x] st h Q ↔ X 49 40 [l0, l1, l2, .int x] (.int x :: st) h Q := X_n mC_49 dX2_add_39 rfl
theorem x49_40 {j x : Int32} {a : Nat} : X 49 40 L (.int x :: .int j :: .ref a :: st) h Q ↔ (ibz j (hS h a) ∧ (x = 0 ∨ x = 1)) ∧ X 49 41 L st (sI h a j.toNatClampNeg x) Q := X_bast mC_49 dX2_add_40
theorem x49_41 {l1 l2 l3 : Value} {x : Nat} : X 49 41 [.ref x, l1, l2, l3] st h Q ↔ X 49 42 [.ref x, l1, l2, l3] (.ref x :: st) h Q := X_n mC_49 dX2_add_41 rfl
theorem x49_42 {x : Nat} : X 49 42 L (.ref x :: st) h Q ↔ X 49 43 L (.ref x :: .ref x :: st) h Q := X_n mC_49 dX2_add_42 rfl
theorem x49_43 {a : Nat} : X 49 43 L (.ref a :: st) h Q ↔ hS h a = (1, 2) ∧ X 49 46 L (.int (hI h a 3) :: st) h Q := X_getI mC_49 dX2_add_43 (by decide +kernel)
theorem x49_46 : X 49 46 L st h Q ↔ X 49 47 L (.int 1 :: st) h Q := X_n mC_49 dX2_add_46 rfl
theorem x49_47 {x y : Int32} : X 49 47 L (.int y :: .int x :: st) h Q ↔ X 49 48 L (.int (x + y) :: st) h Q := X_n mC_49 dX2_add_47 rfl
theorem x49_48 {a : Nat} {v : Int32} : X 49 48 L (.int v :: .ref a :: st) h Q ↔ hS h a = (1, 2) ∧ X 49 51 L st (sI h a 3 v) Q := X_putI mC_49 dX2_add_48 (by decide +kernel)
theorem x49_51 : X 49 51 L st h Q ↔ X 49 52 L (.int 1 :: st) h Q := X_n mC_49 dX2_add_51 rfl
theorem x49_52 {v : Int32} : X 49 52 L [.int v] h Q ↔ (v = 0 ∨ v = 1) ∧ Q (some (.int v)) h := X_retZ mC_49 dX2_add_52 (by decide +kernel)
theorem mC_50 : mC 50 = cX2_allHold := rfl
theorem x50_0 : X 50 0 L st h Q ↔ X 50 1 L (.int 0 :: st) h Q := X_n mC_50 dX2_allHold_0 rfl
theorem x50_1 {l0 l1 l2 l3 : Value} {x : Int32} : X 50 1 [l0, l1, l2, l3] (.int x :: st) h Q ↔ c1 l2 = true ∧ X 50 2 [l0, l1, l2, .int x] st h Q := X_sto (kk := 3) (pc' := 2) (w := .int x) mC_50 dX2_allHold_1 rfl (Nat.le_of_ble_eq_true rfl) rfl
theorem x50_2 {l0 l1 l2 : Value} {x : Int32} : X 50 2 [l0, l1, l2, .int x] st h Q ↔ X 50 3 [l0, l1, l2, .int x] (.int x :: st) h Q := X_n mC_50 dX2_allHold_2 rfl
theorem x50_3 {l1 l2 l3 : Value} {x : Nat} : X 50 3 [.ref x, l1, l2, l3] st h Q ↔ X 50 4 [.ref x, l1, l2, l3] (.ref x :: st) h Q := X_n mC_50 dX2_allHold_3 rfl
theorem x50_4 {a : Nat} : X 50 4 L (.ref a :: st) h Q ↔ hS h a = (1, 2) ∧ X 50 7 L (.int (hI h a 3) :: st) h Q := X_getI mC_50 dX2_allHold_4 (by decide +kernel)
theorem x50_7 {x y : Int32} : X 50 7 L (.int y :: .int x :: st) h Q ↔ if x < y then X 50 10 L st h Q else X 50 50 L st h Q := X_ige mC_50 dX2_allHold_7 (by decide)
theorem x50_10 {l0 l1 l2 : Value} {x : Int32} : X 50 10 [l0, l1, l2, .int x] st h Q ↔ X 50 11 [l0, l1, l2, .int x] (.int x :: st) h Q := X_n mC_50 dX2_allHold_10 rfl
theorem x50_11 : X 50 11 L st h Q ↔ X 50 13 L (.int 8 :: st) h Q := X_n mC_50 dX2_allHold_11 rfl
theorem x50_13 {x y : Int32} : X 50 13 L (.int y :: .int x :: st) h Q ↔ if x < y then X 50 16 L st h Q else X 50 50 L st h Q := X_ige mC_50 dX2_allHold_13 (by decide)
theorem x50_16 {l0 l2 l3 : Value} {x : Nat} : X 50 16 [l0, .ref x, l2, l3] st h Q ↔ X 50 17 [l0, .ref x, l2, l3] (.ref x :: st) h Q := X_n mC_50 dX2_allHold_16 rfl
theorem x50_17 {l1 l2 l3 : Value} {x : Nat} : X 50 17 [.ref x, l1, l2, l3] st h Q ↔ X 50 18 [.ref x, l1, l2, l3] (.ref x :: st) h Q := X_n mC_50 dX2_allHold_17 rfl
theorem x50_18 {a : Nat} : X 50 18 L (.ref a :: st) h Q ↔ (hS h a = (1, 2) ∧ hR h a 0 ≠ 0) ∧ X 50 21 L (.ref (hR h a 0) :: st) h Q := X_getR mC_50 dX2_allHold_18 (by decide +kernel)
theorem x50_21 {l0 l1 l2 : Value} {x : Int32} : X 50 21 [l0, l1, l2, .int x] st h Q ↔ X 50 22 [l0, l1, l2, .int x] (.int x :: st) h Q := X_n mC_50 dX2_allHold_21 rfl
theorem x50_22 {j : Int32} {a : Nat} : X 50 22 L (.int j :: .ref a :: st) h Q ↔ ib j (hS h a) ∧ X 50 23 L (.int (hI h a j.toNatClampNeg) :: st) h Q := X_iald mC_50 dX2_allHold_22
theorem x50_23 {l0 l1 l3 : Value} {x : Nat} : X 50 23 [l0, l1, .ref x, l3] st h Q ↔ X 50 24 [l0, l1, .ref x, l3] (.ref x :: st) h Q := X_n mC_50 dX2_allHold_23 rfl
theorem x50_24 {l1 l2 l3 : Value} {x : Nat} : X 50 24 [.ref x, l1, l2, l3] st h Q ↔ X 50 25 [.ref x, l1, l2, l3] (.ref x :: st) h Q := X_n mC_50 dX2_allHold_24 rfl
theorem x50_25 {a : Nat} : X 50 25 L (.ref a :: st) h Q ↔ (hS h a = (1, 2) ∧ hR h a 1 ≠ 0) ∧ X 50 28 L (.ref (hR h a 1) :: st) h Q := X_getR mC_50 dX2_allHold_25 (by decide +kernel)
theorem x50_28 {l0 l1 l2 : Value} {x : Int32} : X 50 28 [l0, l1, l2, .int x] st h Q ↔ X 50 29 [l0, l1, l2, .int x] (.int x :: st) h Q := X_n mC_50 dX2_allHold_28 rfl
theorem x50_29 {j : Int32} {a : Nat} : X 50 29 L (.int j :: .ref a :: st) h Q ↔ ib j (hS h a) ∧ X 50 30 L (.int (hI h a j.toNatClampNeg) :: st) h Q := X_iald mC_50 dX2_allHold_29
theorem x50_30 {b : Nat} {a0 : Int32} {a1 : Nat} {a2 : Int32} : X 50 30 L [.int a2, .ref a1, .int a0, .ref b] h Q ↔ hS h b = (1, 0) ∧ X 25 0 [.ref b, .int a0, .ref a1, .int a2] [] h (fun r h' => X 50 33 L (pv r []) h' Q) := X_virt (as := [.int a0, .ref a1, .int a2]) (n := 3) (ml := 4) (ck := 0) mC_50 dX2_allHold_30 (by unfold cOk; decide +kernel) ⟨rfl, rfl, by decide, Nat.le_of_ble_eq_true rfl⟩
theorem x50_33 {l1 l2 l3 : Value} {x : Nat} : X 50 33 [.ref x, l1, l2, l3] st h Q ↔ X 50 34 [.ref x, l1, l2, l3] (.ref x :: st) h Q := X_n mC_50 dX2_allHold_33 rfl
theorem x50_34 {a : Nat} : X 50 34 L (.ref a :: st) h Q ↔ (hS h a = (1, 2) ∧ hR h a 2 ≠ 0) ∧ X 50 37 L (.ref (hR h a 2) :: st) h Q := X_getR mC_50 dX2_allHold_34 (by decide +kernel)
theorem x50_37 {l0 l1 l2 : Value} {x : Int32} : X 50 37 [l0, l1, l2, .int x] st h Q ↔ X 50 38 [l0, l1, l2, .int x] (.int x :: st) h Q := X_n mC_50 dX2_allHold_37 rfl
theorem x50_38 {j : Int32} {a : Nat} : X 50 38 L (.int j :: .ref a :: st) h Q ↔ ibz j (hS h a) ∧ X 50 39 L (.int (hI h a j.toNatClampNeg) :: st) h Q := X_bald mC_50 dX2_allHold_38
theorem x50_39 {x y : Int32} : X 50 39 L (.int y :: .int x :: st) h Q ↔ if x = y then X 50 44 L st h Q else X 50 42 L st h Q := X_ieq mC_50 dX2_allHold_39 (by decide)
theorem x50_42 : X 50 42 L st h Q ↔ X 50 43 L (.int 0 :: st) h Q := X_n mC_50 dX2_allHold_42 rfl
theorem x50_43 {v : Int32} : X 50 43 L [.int v] h Q ↔ (v = 0 ∨ v = 1) ∧ Q (some (.int v)) h := X_retZ mC_50 dX2_allHold_43 (by decide +kernel)
theorem x50_44 {l0 l1 l2 : Value} {x : Int32} : X 50 44 [l0, l1, l2, .int x] st h Q ↔ c1 l2 = true ∧ X 50 47 [l0, l1, l2, .int (x + 1)] st h Q := X_inc (pc' := 47) (x := x) mC_50 dX2_allHold_44 rfl rfl rfl
theorem x50_47 : X 50 47 L st h Q ↔ X 50 2 L st h Q := X_goto mC_50 dX2_allHold_47 (by decide)
theorem x50_50 : X 50 50 L st h Q ↔ X 50 51 L (.int 1 :: st) h Q := X_n mC_50 dX2_allHold_50 rfl
theorem x50_51 {v : Int32} : X 50 51 L [.int v] h Q ↔ (v = 0 ∨ v = 1) ∧ Q (some (.int v)) h := X_retZ mC_50 dX2_allHold_51 (by decide +kernel)
theorem mC_51 : mC 51 = cX3_init := rfl
theorem x51_0 {x : Nat} : X 51 0 [.ref x] st h Q ↔ X 51 1 [.ref x] (.ref x :: st) h Q := X_n mC_51 dX3_init_0 rfl
theorem x51_1 {a : Nat} : X 51 1 L [.ref a] h Q ↔ X 51 4 L [] h Q := X_obj (n := 0) mC_51 dX3_init_1 (by decide +kernel) (Nat.le_of_ble_eq_true rfl)
theorem x51_4 {x : Nat} : X 51 4 [.ref x] st h Q ↔ X 51 5 [.ref x] (.ref x :: st) h Q := X_n mC_51 dX3_init_4 rfl
theorem x51_5 : X 51 5 L st h Q ↔ X 51 8 L (.int 720 :: st) h Q := X_n mC_51 dX3_init_5 rfl
theorem x51_8 {x : Int32} : X 51 8 L (.int x :: st) h Q ↔ (¬ x < 0 ∧ x < 100000) ∧ X 51 10 L (.ref (hN h) :: st) (nw h x.toNatClampNeg (2, x.toNatClampNeg)) Q := X_newI mC_51 dX3_init_8
theorem x51_10 {a v : Nat} : X 51 10 L (.ref v :: .ref a :: st) h Q ↔ (hS h a = (1, 3) ∧ v ≠ 0) ∧ X 51 13 L st (sR h a 0 v) Q := X_putR mC_51 dX3_init_10 (by decide +kernel)
theorem x51_13 {x : Nat} : X 51 13 [.ref x] st h Q ↔ X 51 14 [.ref x] (.ref x :: st) h Q := X_n mC_51 dX3_init_13 rfl
theorem x51_14 : X 51 14 L st h Q ↔ X 51 17 L (.int 720 :: st) h Q := X_n mC_51 dX3_init_14 rfl
theorem x51_17 {x : Int32} : X 51 17 L (.int x :: st) h Q ↔ (¬ x < 0 ∧ x < 100000) ∧ X 51 19 L (.ref (hN h) :: st) (nw h x.toNatClampNeg (2, x.toNatClampNeg)) Q := X_newI mC_51 dX3_init_17
theorem x51_19 {a v : Nat} : X 51 19 L (.ref v :: .ref a :: st) h Q ↔ (hS h a = (1, 3) ∧ v ≠ 0) ∧ X 51 22 L st (sR h a 1 v) Q := X_putR mC_51 dX3_init_19 (by decide +kernel)
theorem x51_22 {x : Nat} : X 51 22 [.ref x] st h Q ↔ X 51 23 [.ref x] (.ref x :: st) h Q := X_n mC_51 dX3_init_22 rfl
theorem x51_23 : X 51 23 L st h Q ↔ X 51 26 L (.ref (hN h) :: st) (nw h 6 (1, 1)) Q := X_new mC_51 dX3_init_23 (by decide +kernel)
theorem x51_26 {x : Nat} : X 51 26 L (.ref x :: st) h Q ↔ X 51 27 L (.ref x :: .ref x :: st) h Q := X_n mC_51 dX3_init_26 rfl
theorem x51_27 {b : Nat} {w0 w1 : Value} : X 51 27 L [.ref b, w0, w1] h Q ↔ X 33 0 [.ref b] [] h (fun r h' => X 51 30 L (pv r [w0, w1]) h' Q) := X_spec (as := []) (n := 0) (ml := 1) (ck := 1) mC_51 dX3_init_27 (by unfold cOk; decide +kernel) ⟨rfl, rfl, by decide, Nat.le_of_ble_eq_true rfl⟩
theorem x51_30 {a v : Nat} : X 51 30 L (.ref v :: .ref a :: st) h Q ↔ (hS h a = (1, 3) ∧ v ≠ 0) ∧ X 51 33 L st (sR h a 3 v) Q := X_putR mC_51 dX3_init_30 (by decide +kernel)
theorem x51_33 {x : Nat} : X 51 33 [.ref x] st h Q ↔ X 51 34 [.ref x] (.ref x :: st) h Q := X_n mC_51 dX3_init_33 rfl
theorem x51_34 : X 51 34 L st h Q ↔ X 51 36 L (.int 6 :: st) h Q := X_n mC_51 dX3_init_34 rfl
theorem x51_36 {x : Int32} : X 51 36 L (.int x :: st) h Q ↔ (¬ x < 0 ∧ x < 100000) ∧ X 51 38 L (.ref (hN h) :: st) (nw h x.toNatClampNeg (2, x.toNatClampNeg)) Q := X_newI mC_51 dX3_init_36
theorem x51_38 {a v : Nat} : X 51 38 L (.ref v :: .ref a :: st) h Q ↔ (hS h a = (1, 3) ∧ v ≠ 0) ∧ X 51 41 L st (sR h a 4 v) Q := X_putR mC_51 dX3_init_38 (by decide +kernel)
theorem x51_41 : X 51 41 L [] h Q ↔ Q none h := X_retV mC_51 dX3_init_41 (by decide +kernel)
theorem mC_52 : mC 52 = cX3_measure := rfl
theorem x52_0 {l1 l2 l3 l4 l5 : Value} {x : Nat} : X 52 0 [.ref x, l1, l2, l3, l4, l5] st h Q ↔ X 52 1 [.ref x, l1, l2, l3, l4, l5] (.ref x :: st) h Q := X_n mC_52 dX3_measure_0 rfl
theorem x52_1 {a : Nat} : X 52 1 L (.ref a :: st) h Q ↔ (hS h a = (1, 3) ∧ hR h a 0 ≠ 0) ∧ X 52 4 L (.ref (hR h a 0) :: st) h Q := X_getR mC_52 dX3_measure_1 (by decide +kernel)
theorem x52_4 : X 52 4 L st h Q ↔ X 52 6 L (.int (-4) :: st) h Q := X_n mC_52 dX3_measure_4 rfl
theorem x52_6 {a0 : Nat} {a1 : Int32} : X 52 6 L [.int a1, .ref a0] h Q ↔ X 180 0 [.ref a0, .int a1, .null, .null] [] h (fun r h' => X 52 9 L (pv r []) h' Q) := X_stat (as := [.ref a0, .int a1]) (n := 2) (ml := 4) (ck := 10) mC_52 dX3_measure_6 (by unfold cOk; decide +kernel) ⟨rfl, rfl, by decide, Nat.le_of_ble_eq_true rfl⟩
theorem x52_9 {l1 l2 l3 l4 l5 : Value} {x : Nat} : X 52 9 [.ref x, l1, l2, l3, l4, l5] st h Q ↔ X 52 10 [.ref x, l1, l2, l3, l4, l5] (.ref x :: st) h Q := X_n mC_52 dX3_measure_9 rfl
theorem x52_10 : X 52 10 L st h Q ↔ X 52 11 L (.int 0 :: st) h Q := X_n mC_52 dX3_measure_10 rfl
theorem x52_11 {a : Nat} {v : Int32} : X 52 11 L (.int v :: .ref a :: st) h Q ↔ hS h a = (1, 3) ∧ X 52 14 L st (sI h a 2 v) Q := X_putI mC_52 dX3_measure_11 (by decide +kernel)
theorem x52_14 : X 52 14 L st h Q ↔ X 52 15 L (.int 0 :: st) h Q := X_n mC_52 dX3_measure_14 rfl
theorem x52_15 {l0 l1 l2 l3 l4 l5 : Value} {x : Int32} : X 52 15 [l0, l1, l2, l3, l4, l5] (.int x :: st) h Q ↔ c1 l3 = true ∧ X 52 17 [l0, l1, l2, l3, .int x, l5] st h Q := X_sto (kk := 4) (pc' := 17) (w := .int x) mC_52 dX3_measure_15 rfl (Nat.le_of_ble_eq_true rfl) rfl
theorem x52_17 {l0 l1 l2 l3 l5 : Value} {x : Int32} : X 52 17 [l0, l1, l2, l3, .int x, l5] st h Q ↔ X 52 19 [l0, l1, l2, l3, .int x, l5] (.int x :: st) h Q := X_n mC_52 dX3_measure_17 rfl
theorem x52_19 {l0 l2 l3 l4 l5 : Value} {x : Nat} : X 52 19 [l0, .ref x, l2, l3, l4, l5] st h Q ↔ X 52 20 [l0, .ref x, l2, l3, l4, l5] (.ref x :: st) h Q := X_n mC_52 dX3_measure_19 rfl
theorem x52_20 {b : Nat} {w0 : Value} : X 52 20 L [.ref b, w0] h Q ↔ hS h b = (1, 0) ∧ X 10 0 [.ref b] [] h (fun r h' => X 52 23 L (pv r [w0]) h' Q) := X_virt (as := []) (n := 0) (ml := 1) (ck := 0) mC_52 dX3_measure_20 (by unfold cOk; decide +kernel) ⟨rfl, rfl, by decide, Nat.le_of_ble_eq_true rfl⟩
theorem x52_23 {x y : Int32} : X 52 23 L (.int y :: .int x :: st) h Q ↔ if x < y then X 52 26 L st h Q else X 52 58 L st h Q := X_ige mC_52 dX3_measure_23 (by decide)
theorem x52_26 {l0 l1 l2 l3 l5 : Value} {x : Int32} : X 52 26 [l0, l1, l2, l3, .int x, l5] st h Q ↔ X 52 28 [l0, l1, l2, l3, .int x, l5] (.int x :: st) h Q := X_n mC_52 dX3_measure_26 rfl
theorem x52_28 : X 52 28 L st h Q ↔ X 52 29 L (.int 5 :: st) h Q := X_n mC_52 dX3_measure_28 rfl
theorem x52_29 {x y : Int32} : X 52 29 L (.int y :: .int x :: st) h Q ↔ if x < y then X 52 32 L st h Q else X 52 58 L st h Q := X_ige mC_52 dX3_measure_29 (by decide)
theorem x52_32 {l1 l2 l3 l4 l5 : Value} {x : Nat} : X 52 32 [.ref x, l1, l2, l3, l4, l5] st h Q ↔ X 52 33 [.ref x, l1, l2, l3, l4, l5] (.ref x :: st) h Q := X_n mC_52 dX3_measure_32 rfl
theorem x52_33 {a : Nat} : X 52 33 L (.ref a :: st) h Q ↔ (hS h a = (1, 3) ∧ hR h a 3 ≠ 0) ∧ X 52 36 L (.ref (hR h a 3) :: st) h Q := X_getR mC_52 dX3_measure_33 (by decide +kernel)
theorem x52_36 {a : Nat} : X 52 36 L (.ref a :: st) h Q ↔ (hS h a = (1, 1) ∧ hR h a 0 ≠ 0) ∧ X 52 39 L (.ref (hR h a 0) :: st) h Q := X_getR mC_52 dX3_measure_36 (by decide +kernel)
theorem x52_39 {l0 l1 l2 l3 l5 : Value} {x : Int32} : X 52 39 [l0, l1, l2, l3, .int x, l5] st h Q ↔ X 52 41 [l0, l1, l2, l3, .int x, l5] (.int x :: st) h Q := X_n mC_52 dX3_measure_39 rfl
theorem x52_41 {l0 l2 l3 l4 l5 : Value} {x : Nat} : X 52 41 [l0, .ref x, l2, l3, l4, l5] st h Q ↔ X 52 42 [l0, .ref x, l2, l3, l4, l5] (.ref x :: st) h Q := X_n mC_52 dX3_measure_41 rfl
theorem x52_42 {l0 l1 l2 l3 l5 : Value} {x : Int32} : X 52 42 [l0, l1, l2, l3, .int x, l5] st h Q ↔ X 52 44 [l0, l1, l2, l3, .int x, l5] (.int x :: st) h Q := X_n mC_52 dX3_measure_42 rfl
theorem x52_44 {l0 l1 l3 l4 l5 : Value} {x : Nat} : X 52 44 [l0, l1, .ref x, l3, l4, l5] st h Q ↔ X 52 45 [l0, l1, .ref x, l3, l4, l5] (.ref x :: st) h Q := X_n mC_52 dX3_measure_44 rfl
theorem x52_45 {a : Nat} : X 52 45 L (.ref a :: st) h Q ↔ hS h a = (1, 1) ∧ X 52 48 L (.int (hI h a 2) :: st) h Q := X_getI mC_52 dX3_measure_45 (by decide +kernel)
theorem x52_48 {b : Nat} {a0 : Int32} {a1 : Int32} {w0 w1 : Value} : X 52 48 L [.int a1, .int a0, .ref b, w0, w1] h Q ↔ hS h b = (1, 0) ∧ X 32 0 [.ref b, .int a0, .int a1, .null, .null, .null, .null] [] h (fun r h' => X 52 51 L (pv r [w0, w1]) h' Q) := X_virt (as := [.int a0, .int a1]) (n := 2) (ml := 7) (ck := 0) mC_52 dX3_measure_48 (by unfold cOk; decide +kernel) ⟨rfl, rfl, by decide, Nat.le_of_ble_eq_true rfl⟩
theorem x52_51 {j x : Int32} {a : Nat} : X 52 51 L (.int x :: .int j :: .ref a :: st) h Q ↔ ibw j (hS h a) ∧ X 52 52 L st (sI h a j.toNatClampNeg x) Q := X_iast mC_52 dX3_measure_51
theorem x52_52 {l0 l1 l2 l3 l5 : Value} {x : Int32} : X 52 52 [l0, l1, l2, l3, .int x, l5] st h Q ↔ c1 l3 = true ∧ X 52 55 [l0, l1, l2, l3, .int (x + 1), l5] st h Q := X_inc (pc' := 55) (x := x) mC_52 dX3_measure_52 rfl rfl rfl
theorem x52_55 : X 52 55 L st h Q ↔ X 52 17 L st h Q := X_goto mC_52 dX3_measure_55 (by decide)
theorem x52_58 {l1 l2 l3 l4 l5 : Value} {x : Nat} : X 52 58 [.ref x, l1, l2, l3, l4, l5] st h Q ↔ X 52 59 [.ref x, l1, l2, l3, l4, l5] (.ref x :: st) h Q := X_n mC_52 dX3_measure_58 rfl
theorem x52_59 {l0 l1 l2 l4 l5 : Value} {x : Nat} : X 52 59 [l0, l1, l2, .ref x, l4, l5] st h Q ↔ X 52 60 [l0, l1, l2, .ref x, l4, l5] (.ref x :: st) h Q := X_n mC_52 dX3_measure_59 rfl
theorem x52_60 {l1 l2 l3 l4 l5 : Value} {x : Nat} : X 52 60 [.ref x, l1, l2, l3, l4, l5] st h Q ↔ X 52 61 [.ref x, l1, l2, l3, l4, l5] (.ref x :: st) h Q := X_n mC_52 dX3_measure_60 rfl
theorem x52_61 {a : Nat} : X 52 61 L (.ref a :: st) h Q ↔ (hS h a = (1, 3) ∧ hR h a 3 ≠ 0) ∧ X 52 64 L (.ref (hR h a 3) :: st) h Q := X_getR mC_52 dX3_measure_61 (by decide +kernel)
theorem x52_64 {a : Nat} : X 52 64 L (.ref a :: st) h Q ↔ (hS h a = (1, 1) ∧ hR h a 0 ≠ 0) ∧ X 52 67 L (.ref (hR h a 0) :: st) h Q := X_getR mC_52 dX3_measure_64 (by decide +kernel)
theorem x52_67 {b : Nat} {a0 : Nat} {w0 : Value} : X 52 67 L [.ref a0, .ref b, w0] h Q ↔ hS h b = (1, 6) ∧ X 77 0 [.ref b, .ref a0, .null, .null, .null, .null] [] h (fun r h' => X 52 70 L (pv r [w0]) h' Q) := X_virt (as := [.ref a0]) (n := 1) (ml := 6) (ck := 6) mC_52 dX3_measure_67 (by unfold cOk; decide +kernel) ⟨rfl, rfl, by decide, Nat.le_of_ble_eq_true rfl⟩
theorem x52_70 : X 52 70 L st h Q ↔ X 52 71 L (.int 0 :: st) h Q := X_n mC_52 dX3_measure_70 rfl
theorem x52_71 {b : Nat} {a0 : Int32} {a1 : Int32} : X 52 71 L [.int a1, .int a0, .ref b] h Q ↔ hS h b = (1, 3) ∧ X 55 0 [.ref b, .int a0, .int a1] [] h (fun r h' => X 52 74 L (pv r []) h' Q) := X_virt (as := [.int a0, .int a1]) (n := 2) (ml := 3) (ck := 3) mC_52 dX3_measure_71 (by unfold cOk; decide +kernel) ⟨rfl, rfl, by decide, Nat.le_of_ble_eq_true rfl⟩
theorem x52_74 {l0 l1 l2 l4 l5 : Value} {x : Nat} : X 52 74 [l0, l1, l2, .ref x, l4, l5] st h Q ↔ X 52 75 [l0, l1, l2, .ref x, l4, l5] (.ref x :: st) h Q := X_n mC_52 dX3_measure_74 rfl
theorem x52_75 {l0 l1 l3 l4 l5 : Value} {x : Nat} : X 52 75 [l0, l1, .ref x, l3, l4, l5] st h Q ↔ X 52 76 [l0, l1, .ref x, l3, l4, l5] (.ref x :: st) h Q := X_n mC_52 dX3_measure_75 rfl
theorem x52_76 {a : Nat} : X 52 76 L (.ref a :: st) h Q ↔ (hS h a = (1, 1) ∧ hR h a 0 ≠ 0) ∧ X 52 79 L (.ref (hR h a 0) :: st) h Q := X_getR mC_52 dX3_measure_76 (by decide +kernel)
theorem x52_79 {b : Nat} {a0 : Nat} : X 52 79 L [.ref a0, .ref b] h Q ↔ hS h b = (1, 6) ∧ X 77 0 [.ref b, .ref a0, .null, .null, .null, .null] [] h (fun r h' => X 52 82 L (pv r []) h' Q) := X_virt (as := [.ref a0]) (n := 1) (ml := 6) (ck := 6) mC_52 dX3_measure_79 (by unfold cOk; decide +kernel) ⟨rfl, rfl, by decide, Nat.le_of_ble_eq_true rfl⟩
theorem x52_82 {l0 l1 l2 l3 l4 l5 : Value} {x : Int32} : X 52 82 [l0, l1, l2, l3, l4, l5] (.int x :: st) h Q ↔ c1 l3 = true ∧ X 52 84 [l0, l1, l2, l3, .int x, l5] st h Q := X_sto (kk := 4) (pc' := 84) (w := .int x) mC_52 dX3_measure_82 rfl (Nat.le_of_ble_eq_true rfl) rfl
theorem x52_84 {l0 l1 l2 l3 l5 : Value} {x : Int32} : X 52 84 [l0, l1, l2, l3, .int x, l5] st h Q ↔ X 52 86 [l0, l1, l2, l3, .int x, l5] (.int x :: st) h Q := X_n mC_52 dX3_measure_84 rfl
theorem x52_86 {x : Int32} : X 52 86 L (.int x :: st) h Q ↔ if x < 0 then X 52 97 L st h Q else X 52 89 L st h Q := X_zlt mC_52 dX3_measure_86 (by decide)
theorem x52_89 {l0 l1 l2 l3 l5 : Value} {x : Int32} : X 52 89 [l0, l1, l2, l3, .int x, l5] st h Q ↔ X 52 91 [l0, l1, l2, l3, .int x, l5] (.int x :: st) h Q := X_n mC_52 dX3_measure_89 rfl
theorem x52_91 : X 52 91 L st h Q ↔ X 52 94 L (.int 720 :: st) h Q := X_n mC_52 dX3_measure_91 rfl
theorem x52_94 {x y : Int32} : X 52 94 L (.int y :: .int x :: st) h Q ↔ if x < y then X 52 98 L st h Q else X 52 97 L st h Q := X_ilt mC_52 dX3_measure_94 (by decide)
theorem x52_97 : X 52 97 L [] h Q ↔ Q none h := X_retV mC_52 dX3_measure_97 (by decide +kernel)
theorem x52_98 : X 52 98 L st h Q ↔ X 52 99 L (.int 0 :: st) h Q := X_n mC_52 dX3_measure_98 rfl
theorem x52_99 {l0 l1 l2 l3 l4 l5 : Value} {x : Int32} : X 52 99 [l0, l1, l2, l3, l4, l5] (.int x :: st) h Q ↔ c1 l4 = true ∧ X 52 101 [l0, l1, l2, l3, l4, .int x] st h Q := X_sto (kk := 5) (pc' := 101) (w := .int x) mC_52 dX3_measure_99 rfl (Nat.le_of_ble_eq_true rfl) rfl
theorem x52_101 {l0 l1 l2 l3 l4 : Value} {x : Int32} : X 52 101 [l0, l1, l2, l3, l4, .int x] st h Q ↔ X 52 103 [l0, l1, l2, l3, l4, .int x] (.int x :: st) h Q := X_n mC_52 dX3_measure_101 rfl
theorem x52_103 {l1 l2 l3 l4 l5 : Value} {x : Nat} : X 52 103 [.ref x, l1, l2, l3, l4, l5] st h Q ↔ X 52 104 [.ref x, l1, l2, l3, l4, l5] (.ref x :: st) h Q := X_n mC_52 dX3_measure_103 rfl
theorem x52_104 {a : Nat} : X 52 104 L (.ref a :: st) h Q ↔ hS h a = (1, 3) ∧ X 52 107 L (.int (hI h a 2) :: st) h Q := X_getI mC_52 dX3_measure_104 (by decide +kernel)
theorem x52_107 {x y : Int32} : X 52 107 L (.int y :: .int x :: st) h Q ↔ if x < y then X 52 110 L st h Q else X 52 149 L st h Q := X_ige mC_52 dX3_measure_107 (by decide)
theorem x52_110 {l0 l1 l2 l3 l4 : Value} {x : Int32} : X 52 110 [l0, l1, l2, l3, l4, .int x] st h Q ↔ X 52 112 [l0, l1, l2, l3, l4, .int x] (.int x :: st) h Q := X_n mC_52 dX3_measure_110 rfl
theorem x52_112 : X 52 112 L st h Q ↔ X 52 115 L (.int 720 :: st) h Q := X_n mC_52 dX3_measure_112 rfl
theorem x52_115 {x y : Int32} : X 52 115 L (.int y :: .int x :: st) h Q ↔ if x < y then X 52 118 L st h Q else X 52 149 L st h Q := X_ige mC_52 dX3_measure_115 (by decide)
theorem x52_118 {l1 l2 l3 l4 l5 : Value} {x : Nat} : X 52 118 [.ref x, l1, l2, l3, l4, l5] st h Q ↔ X 52 119 [.ref x, l1, l2, l3, l4, l5] (.ref x :: st) h Q := X_n mC_52 dX3_measure_118 rfl
theorem x52_119 {a : Nat} : X 52 119 L (.ref a :: st) h Q ↔ (hS h a = (1, 3) ∧ hR h a 0 ≠ 0) ∧ X 52 122 L (.ref (hR h a 0) :: st) h Q := X_getR mC_52 dX3_measure_119 (by decide +kernel)
theorem x52_122 {l0 l1 l2 l3 l5 : Value} {x : Int32} : X 52 122 [l0, l1, l2, l3, .int x, l5] st h Q ↔ X 52 124 [l0, l1, l2, l3, .int x, l5] (.int x :: st) h Q := X_n mC_52 dX3_measure_122 rfl
theorem x52_124 {j : Int32} {a : Nat} : X 52 124 L (.int j :: .ref a :: st) h Q ↔ ib j (hS h a) ∧ X 52 125 L (.int (hI h a j.toNatClampNeg) :: st) h Q := X_iald mC_52 dX3_measure_124
theorem x52_125 : X 52 125 L st h Q ↔ X 52 127 L (.int (-4) :: st) h Q := X_n mC_52 dX3_measure_125 rfl
theorem x52_127 {x y : Int32} : X 52 127 L (.int y :: .int x :: st) h Q ↔ if x = y then X 52 130 L st h Q else X 52 149 L st h Q := X_ine mC_52 dX3_measure_127 (by decide)
theorem x52_130 {l1 l2 l3 l4 l5 : Value} {x : Nat} : X 52 130 [.ref x, l1, l2, l3, l4, l5] st h Q ↔ X 52 131 [.ref x, l1, l2, l3, l4, l5] (.ref x :: st) h Q := X_n mC_52 dX3_measure_130 rfl
theorem x52_131 {l1 l2 l3 l4 l5 : Value} {x : Nat} : X 52 131 [.ref x, l1, l2, l3, l4, l5] st h Q ↔ X 52 132 [.ref x, l1, l2, l3, l4, l5] (.ref x :: st) h Q := X_n mC_52 dX3_measure_131 rfl
theorem x52_132 {a : Nat} : X 52 132 L (.ref a :: st) h Q ↔ (hS h a = (1, 3) ∧ hR h a 1 ≠ 0) ∧ X 52 135 L (.ref (hR h a 1) :: st) h Q := X_getR mC_52 dX3_measure_132 (by decide +kernel)
theorem x52_135 {l0 l1 l2 l3 l4 : Value} {x : Int32} : X 52 135 [l0, l1, l2, l3, l4, .int x] st h Q ↔ X 52 137 [l0, l1, l2, l3, l4, .int x] (.int x :: st) h Q := X_n mC_52 dX3_measure_135 rfl
theorem x52_137 {j : Int32} {a : Nat} : X 52 137 L (.int j :: .ref a :: st) h Q ↔ ib j (hS h a) ∧ X 52 138 L (.int (hI h a j.toNatClampNeg) :: st) h Q := X_iald mC_52 dX3_measure_137
theorem x52_138 {l0 l2 l3 l4 l5 : Value} {x : Nat} : X 52 138 [l0, .ref x, l2, l3, l4, l5] st h Q ↔ X 52 139 [l0, .ref x, l2, l3, l4, l5] (.ref x :: st) h Q := X_n mC_52 dX3_measure_138 rfl
theorem x52_139 {l0 l1 l2 l4 l5 : Value} {x : Nat} : X 52 139 [l0, l1, l2, .ref x, l4, l5] st h Q ↔ X 52 140 [l0, l1, l2, .ref x, l4, l5] (.ref x :: st) h Q := X_n mC_52 dX3_measure_139 rfl
theorem x52_140 {b : Nat} {a0 : Int32} {a1 : Nat} {a2 : Nat} : X 52 140 L [.ref a2, .ref a1, .int a0, .ref b] h Q ↔ hS h b = (1, 3) ∧ X 56 0 [.ref b, .int a0, .ref a1, .ref a2, .null] [] h (fun r h' => X 52 143 L (pv r []) h' Q) := X_virt (as := [.int a0, .ref a1, .ref a2]) (n := 3) (ml := 5) (ck := 3) mC_52 dX3_measure_140 (by unfold cOk; decide +kernel) ⟨rfl, rfl, by decide, Nat.le_of_ble_eq_true rfl⟩
theorem x52_143 {l0 l1 l2 l3 l4 : Value} {x : Int32} : X 52 143 [l0, l1, l2, l3, l4, .int x] st h Q ↔ c1 l4 = true ∧ X 52 146 [l0, l1, l2, l3, l4, .int (x + 1)] st h Q := X_inc (pc' := 146) (x := x) mC_52 dX3_measure_143 rfl rfl rfl
theorem x52_146 : X 52 146 L st h Q ↔ X 52 101 L st h Q := X_goto mC_52 dX3_measure_146 (by decide)
theorem x52_149 : X 52 149 L [] h Q ↔ Q none h := X_retV mC_52 dX3_measure_149 (by decide +kernel)
theorem mC_53 : mC 53 = cX3_distanceOf := rfl
theorem x53_0 {l0 l1 l3 : Value} {x : Nat} : X 53 0 [l0, l1, .ref x, l3] st h Q ↔ X 53 1 [l0, l1, .ref x, l3] (.ref x :: st) h Q := X_n mC_53 dX3_distanceOf_0 rfl
theorem x53_1 {l0 l2 l3 : Value} {x : Nat} : X 53 1 [l0, .ref x, l2, l3] st h Q ↔ X 53 2 [l0, .ref x, l2, l3] (.ref x :: st) h Q := X_n mC_53 dX3_distanceOf_1 rfl
theorem x53_2 {b : Nat} {a0 : Nat} : X 53 2 L [.ref a0, .ref b] h Q ↔ hS h b = (1, 6) ∧ X 77 0 [.ref b, .ref a0, .null, .null, .null, .null] [] h (fun r h' => X 53 5 L (pv r []) h' Q) := X_virt (as := [.ref a0]) (n := 1) (ml := 6) (ck := 6) mC_53 dX3_distanceOf_2 (by unfold cOk; decide +kernel) ⟨rfl, rfl, by decide, Nat.le_of_ble_eq_true rfl⟩
theorem x53_5 {l0 l1 l2 l3 : Value} {x : Int32} : X 53 5 [l0, l1, l2, l3] (.int x :: st) h Q ↔ c1 l2 = true ∧ X 53 6 [l0, l1, l2, .int x] st h Q := X_sto (kk := 3) (pc' := 6) (w := .int x) mC_53 dX3_distanceOf_5 rfl (Nat.le_of_ble_eq_true rfl) rfl
theorem x53_6 {l0 l1 l2 : Value} {x : Int32} : X 53 6 [l0, l1, l2, .int x] st h Q ↔ X 53 7 [l0, l1, l2, .int x] (.int x :: st) h Q := X_n mC_53 dX3_distanceOf_6 rfl
theorem x53_7 {x : Int32} : X 53 7 L (.int x :: st) h Q ↔ if x < 0 then X 53 26 L st h Q else X 53 10 L st h Q := X_zlt mC_53 dX3_distanceOf_7 (by decide)
theorem x53_10 {l0 l1 l2 : Value} {x : Int32} : X 53 10 [l0, l1, l2, .int x] st h Q ↔ X 53 11 [l0, l1, l2, .int x] (.int x :: st) h Q := X_n mC_53 dX3_distanceOf_10 rfl
theorem x53_11 : X 53 11 L st h Q ↔ X 53 14 L (.int 720 :: st) h Q := X_n mC_53 dX3_distanceOf_11 rfl
theorem x53_14 {x y : Int32} : X 53 14 L (.int y :: .int x :: st) h Q ↔ if x < y then X 53 17 L st h Q else X 53 26 L st h Q := X_ige mC_53 dX3_distanceOf_14 (by decide)
theorem x53_17 {l1 l2 l3 : Value} {x : Nat} : X 53 17 [.ref x, l1, l2, l3] st h Q ↔ X 53 18 [.ref x, l1, l2, l3] (.ref x :: st) h Q := X_n mC_53 dX3_distanceOf_17 rfl
theorem x53_18 {a : Nat} : X 53 18 L (.ref a :: st) h Q ↔ (hS h a = (1, 3) ∧ hR h a 0 ≠ 0) ∧ X 53 21 L (.ref (hR h a 0) :: st) h Q := X_getR mC_53 dX3_distanceOf_18 (by decide +kernel)
theorem x53_21 {l0 l1 l2 : Value} {x : Int32} : X 53 21 [l0, l1, l2, .int x] st h Q ↔ X 53 22 [l0, l1, l2, .int x] (.int x :: st) h Q := X_n mC_53 dX3_distanceOf_21 rfl
theorem x53_22 {j : Int32} {a : Nat} : X 53 22 L (.int j :: .ref a :: st) h Q ↔ ib j (hS h a) ∧ X 53 23 L (.int (hI h a j.toNatClampNeg) :: st) h Q := X_iald mC_53 dX3_distanceOf_22
theorem x53_23 : X 53 23 L st h Q ↔ X 53 28 L st h Q := X_goto mC_53 dX3_distanceOf_23 (by decide)
theorem x53_26 : X 53 26 L st h Q ↔ X 53 28 L (.int (-4) :: st) h Q := X_n mC_53 dX3_distanceOf_26 rfl
theorem x53_28 {v : Int32} : X 53 28 L [.int v] h Q ↔ Q (some (.int v)) h := X_ret mC_53 dX3_distanceOf_28 (by decide +kernel)
theorem mC_54 : mC 54 = cX3_firstMove := rfl
theorem x54_0 {l1 l2 l3 l4 l5 l6 l7 : Value} {x : Nat} : X 54 0 [.ref x, l1, l2, l3, l4, l5, l6, l7] st h Q ↔ X 54 1 [.ref x, l1, l2, l3, l4, l5, l6, l7] (.ref x :: st) h Q := X_n mC_54 dX3_firstMove_0 rfl
theorem x54_1 {l0 l1 l3 l4 l5 l6 l7 : Value} {x : Nat} : X 54 1 [l0, l1, .ref x, l3, l4, l5, l6, l7] st h Q ↔ X 54 2 [l0, l1, .ref x, l3, l4, l5, l6, l7] (.ref x :: st) h Q := X_n mC_54 dX3_firstMove_1 rfl
theorem x54_2 {a : Nat} : X 54 2 L (.ref a :: st) h Q ↔ (hS h a = (1, 1) ∧ hR h a 0 ≠ 0) ∧ X 54 5 L (.ref (hR h a 0) :: st) h Q := X_getR mC_54 dX3_firstMove_2 (by decide +kernel)
theorem x54_5 {l0 l1 l2 l4 l5 l6 l7 : Value} {x : Nat} : X 54 5 [l0, l1, l2, .ref x, l4, l5, l6, l7] st h Q ↔ X 54 6 [l0, l1, l2, .ref x, l4, l5, l6, l7] (.ref x :: st) h Q := X_n mC_54 dX3_firstMove_5 rfl
theorem x54_6 {b : Nat} {a0 : Nat} {a1 : Nat} : X 54 6 L [.ref a1, .ref a0, .ref b] h Q ↔ hS h b = (1, 3) ∧ X 53 0 [.ref b, .ref a0, .ref a1, .null] [] h (fun r h' => X 54 9 L (pv r []) h' Q) := X_virt (as := [.ref a0, .ref a1]) (n := 2) (ml := 4) (ck := 3) mC_54 dX3_firstMove_6 (by unfold cOk; decide +kernel) ⟨rfl, rfl, by decide, Nat.le_of_ble_eq_true rfl⟩
theorem x54_9 : X 54 9 L st h Q ↔ X 54 10 L (.int 1 :: st) h Q := X_n mC_54 dX3_firstMove_9 rfl
theorem x54_10 {x y : Int32} : X 54 10 L (.int y :: .int x :: st) h Q ↔ X 54 11 L (.int (x - y) :: st) h Q := X_n mC_54 dX3_firstMove_10 rfl
theorem x54_11 {l0 l1 l2 l3 l4 l5 l6 l7 : Value} {x : Int32} : X 54 11 [l0, l1, l2, l3, l4, l5, l6, l7] (.int x :: st) h Q ↔ c1 l3 = true ∧ X 54 13 [l0, l1, l2, l3, .int x, l5, l6, l7] st h Q := X_sto (kk := 4) (pc' := 13) (w := .int x) mC_54 dX3_firstMove_11 rfl (Nat.le_of_ble_eq_true rfl) rfl
theorem x54_13 {l1 l2 l3 l4 l5 l6 l7 : Value} {x : Nat} : X 54 13 [.ref x, l1, l2, l3, l4, l5, l6, l7] st h Q ↔ X 54 14 [.ref x, l1, l2, l3, l4, l5, l6, l7] (.ref x :: st) h Q := X_n mC_54 dX3_firstMove_13 rfl
theorem x54_14 {a : Nat} : X 54 14 L (.ref a :: st) h Q ↔ (hS h a = (1, 3) ∧ hR h a 3 ≠ 0) ∧ X 54 17 L (.ref (hR h a 3) :: st) h Q := X_getR mC_54 dX3_firstMove_14 (by decide +kernel)
theorem x54_17 {l0 l1 l3 l4 l5 l6 l7 : Value} {x : Nat} : X 54 17 [l0, l1, .ref x, l3, l4, l5, l6, l7] st h Q ↔ X 54 18 [l0, l1, .ref x, l3, l4, l5, l6, l7] (.ref x :: st) h Q := X_n mC_54 dX3_firstMove_17 rfl
theorem x54_18 {b : Nat} {a0 : Nat} : X 54 18 L [.ref a0, .ref b] h Q ↔ hS h b = (1, 1) ∧ X 35 0 [.ref b, .ref a0] [] h (fun r h' => X 54 21 L (pv r []) h' Q) := X_virt (as := [.ref a0]) (n := 1) (ml := 2) (ck := 1) mC_54 dX3_firstMove_18 (by unfold cOk; decide +kernel) ⟨rfl, rfl, by decide, Nat.le_of_ble_eq_true rfl⟩
theorem x54_21 : X 54 21 L st h Q ↔ X 54 22 L (.int 0 :: st) h Q := X_n mC_54 dX3_firstMove_21 rfl
theorem x54_22 {l0 l1 l2 l3 l4 l5 l6 l7 : Value} {x : Int32} : X 54 22 [l0, l1, l2, l3, l4, l5, l6, l7] (.int x :: st) h Q ↔ c1 l4 = true ∧ X 54 24 [l0, l1, l2, l3, l4, .int x, l6, l7] st h Q := X_sto (kk := 5) (pc' := 24) (w := .int x) mC_54 dX3_firstMove_22 rfl (Nat.le_of_ble_eq_true rfl) rfl
theorem x54_24 {l0 l1 l2 l3 l4 l6 l7 : Value} {x : Int32} : X 54 24 [l0, l1, l2, l3, l4, .int x, l6, l7] st h Q ↔ X 54 26 [l0, l1, l2, l3, l4, .int x, l6, l7] (.int x :: st) h Q := X_n mC_54 dX3_firstMove_24 rfl
theorem x54_26 {l0 l2 l3 l4 l5 l6 l7 : Value} {x : Nat} : X 54 26 [l0, .ref x, l2, l3, l4, l5, l6, l7] st h Q ↔ X 54 27 [l0, .ref x, l2, l3, l4, l5, l6, l7] (.ref x :: st) h Q := X_n mC_54 dX3_firstMove_26 rfl
theorem x54_27 {b : Nat} {w0 : Value} : X 54 27 L [.ref b, w0] h Q ↔ hS h b = (1, 0) ∧ X 10 0 [.ref b] [] h (fun r h' => X 54 30 L (pv r [w0]) h' Q) := X_virt (as := []) (n := 0) (ml := 1) (ck := 0) mC_54 dX3_firstMove_27 (by unfold cOk; decide +kernel) ⟨rfl, rfl, by decide, Nat.le_of_ble_eq_true rfl⟩
theorem x54_30 {x y : Int32} : X 54 30 L (.int y :: .int x :: st) h Q ↔ if x < y then X 54 33 L st h Q else X 54 155 L st h Q := X_ige mC_54 dX3_firstMove_30 (by decide)
theorem x54_33 {l0 l1 l2 l3 l4 l6 l7 : Value} {x : Int32} : X 54 33 [l0, l1, l2, l3, l4, .int x, l6, l7] st h Q ↔ X 54 35 [l0, l1, l2, l3, l4, .int x, l6, l7] (.int x :: st) h Q := X_n mC_54 dX3_firstMove_33 rfl
theorem x54_35 : X 54 35 L st h Q ↔ X 54 36 L (.int 5 :: st) h Q := X_n mC_54 dX3_firstMove_35 rfl
theorem x54_36 {x y : Int32} : X 54 36 L (.int y :: .int x :: st) h Q ↔ if x < y then X 54 39 L st h Q else X 54 155 L st h Q := X_ige mC_54 dX3_firstMove_36 (by decide)
theorem x54_39 {l1 l2 l3 l4 l5 l6 l7 : Value} {x : Nat} : X 54 39 [.ref x, l1, l2, l3, l4, l5, l6, l7] st h Q ↔ X 54 40 [.ref x, l1, l2, l3, l4, l5, l6, l7] (.ref x :: st) h Q := X_n mC_54 dX3_firstMove_39 rfl
theorem x54_40 {a : Nat} : X 54 40 L (.ref a :: st) h Q ↔ (hS h a = (1, 3) ∧ hR h a 3 ≠ 0) ∧ X 54 43 L (.ref (hR h a 3) :: st) h Q := X_getR mC_54 dX3_firstMove_40 (by decide +kernel)
theorem x54_43 {l0 l1 l2 l3 l4 l6 l7 : Value} {x : Int32} : X 54 43 [l0, l1, l2, l3, l4, .int x, l6, l7] st h Q ↔ X 54 45 [l0, l1, l2, l3, l4, .int x, l6, l7] (.int x :: st) h Q := X_n mC_54 dX3_firstMove_43 rfl
theorem x54_45 {b : Nat} {a0 : Int32} : X 54 45 L [.int a0, .ref b] h Q ↔ hS h b = (1, 1) ∧ X 38 0 [.ref b, .int a0] [] h (fun r h' => X 54 48 L (pv r []) h' Q) := X_virt (as := [.int a0]) (n := 1) (ml := 2) (ck := 1) mC_54 dX3_firstMove_45 (by unfold cOk; decide +kernel) ⟨rfl, rfl, by decide, Nat.le_of_ble_eq_true rfl⟩
theorem x54_48 {l0 l1 l2 l3 l4 l5 l6 l7 : Value} {x : Int32} : X 54 48 [l0, l1, l2, l3, l4, l5, l6, l7] (.int x :: st) h Q ↔ c1 l5 = true ∧ X 54 50 [l0, l1, l2, l3, l4, l5, .int x, l7] st h Q := X_sto (kk := 6) (pc' := 50) (w := .int x) mC_54 dX3_firstMove_48 rfl (Nat.le_of_ble_eq_true rfl) rfl
theorem x54_50 : X 54 50 L st h Q ↔ X 54 51 L (.int 0 :: st) h Q := X_n mC_54 dX3_firstMove_50 rfl
theorem x54_51 {l0 l1 l2 l3 l4 l5 l6 l7 : Value} {x : Int32} : X 54 51 [l0, l1, l2, l3, l4, l5, l6, l7] (.int x :: st) h Q ↔ c1 l6 = true ∧ X 54 53 [l0, l1, l2, l3, l4, l5, l6, .int x] st h Q := X_sto (kk := 7) (pc' := 53) (w := .int x) mC_54 dX3_firstMove_51 rfl (Nat.le_of_ble_eq_true rfl) rfl
theorem x54_53 {l0 l1 l2 l3 l4 l5 l6 : Value} {x : Int32} : X 54 53 [l0, l1, l2, l3, l4, l5, l6, .int x] st h Q ↔ X 54 55 [l0, l1, l2, l3, l4, l5, l6, .int x] (.int x :: st) h Q := X_n mC_54 dX3_firstMove_53 rfl
theorem x54_55 {l0 l2 l3 l4 l5 l6 l7 : Value} {x : Nat} : X 54 55 [l0, .ref x, l2, l3, l4, l5, l6, l7] st h Q ↔ X 54 56 [l0, .ref x, l2, l3, l4, l5, l6, l7] (.ref x :: st) h Q := X_n mC_54 dX3_firstMove_55 rfl
theorem x54_56 {b : Nat} {w0 : Value} : X 54 56 L [.ref b, w0] h Q ↔ hS h b = (1, 0) ∧ X 11 0 [.ref b] [] h (fun r h' => X 54 59 L (pv r [w0]) h' Q) := X_virt (as := []) (n := 0) (ml := 1) (ck := 0) mC_54 dX3_firstMove_56 (by unfold cOk; decide +kernel) ⟨rfl, rfl, by decide, Nat.le_of_ble_eq_true rfl⟩
theorem x54_59 {x y : Int32} : X 54 59 L (.int y :: .int x :: st) h Q ↔ if x < y then X 54 62 L st h Q else X 54 149 L st h Q := X_ige mC_54 dX3_firstMove_59 (by decide)
theorem x54_62 {l1 l2 l3 l4 l5 l6 l7 : Value} {x : Nat} : X 54 62 [.ref x, l1, l2, l3, l4, l5, l6, l7] st h Q ↔ X 54 63 [.ref x, l1, l2, l3, l4, l5, l6, l7] (.ref x :: st) h Q := X_n mC_54 dX3_firstMove_62 rfl
theorem x54_63 {a : Nat} : X 54 63 L (.ref a :: st) h Q ↔ (hS h a = (1, 3) ∧ hR h a 3 ≠ 0) ∧ X 54 66 L (.ref (hR h a 3) :: st) h Q := X_getR mC_54 dX3_firstMove_63 (by decide +kernel)
theorem x54_66 {l0 l1 l2 l3 l4 l5 l6 : Value} {x : Int32} : X 54 66 [l0, l1, l2, l3, l4, l5, l6, .int x] st h Q ↔ X 54 68 [l0, l1, l2, l3, l4, l5, l6, .int x] (.int x :: st) h Q := X_n mC_54 dX3_firstMove_66 rfl
theorem x54_68 {l0 l2 l3 l4 l5 l6 l7 : Value} {x : Nat} : X 54 68 [l0, .ref x, l2, l3, l4, l5, l6, l7] st h Q ↔ X 54 69 [l0, .ref x, l2, l3, l4, l5, l6, l7] (.ref x :: st) h Q := X_n mC_54 dX3_firstMove_68 rfl
theorem x54_69 {b : Nat} {w0 w1 : Value} : X 54 69 L [.ref b, w0, w1] h Q ↔ hS h b = (1, 0) ∧ X 10 0 [.ref b] [] h (fun r h' => X 54 72 L (pv r [w0, w1]) h' Q) := X_virt (as := []) (n := 0) (ml := 1) (ck := 0) mC_54 dX3_firstMove_69 (by unfold cOk; decide +kernel) ⟨rfl, rfl, by decide, Nat.le_of_ble_eq_true rfl⟩
theorem x54_72 {b : Nat} {a0 : Int32} {a1 : Int32} : X 54 72 L [.int a1, .int a0, .ref b] h Q ↔ hS h b = (1, 1) ∧ X 41 0 [.ref b, .int a0, .int a1] [] h (fun r h' => X 54 75 L (pv r []) h' Q) := X_virt (as := [.int a0, .int a1]) (n := 2) (ml := 3) (ck := 1) mC_54 dX3_firstMove_72 (by unfold cOk; decide +kernel) ⟨rfl, rfl, by decide, Nat.le_of_ble_eq_true rfl⟩
theorem x54_75 {x : Int32} : X 54 75 L (.int x :: st) h Q ↔ if x = 0 then X 54 143 L st h Q else X 54 78 L st h Q := X_zeq mC_54 dX3_firstMove_75 (by decide)
theorem x54_78 {l0 l2 l3 l4 l5 l6 l7 : Value} {x : Nat} : X 54 78 [l0, .ref x, l2, l3, l4, l5, l6, l7] st h Q ↔ X 54 79 [l0, .ref x, l2, l3, l4, l5, l6, l7] (.ref x :: st) h Q := X_n mC_54 dX3_firstMove_78 rfl
theorem x54_79 {l0 l1 l2 l3 l4 l6 l7 : Value} {x : Int32} : X 54 79 [l0, l1, l2, l3, l4, .int x, l6, l7] st h Q ↔ X 54 81 [l0, l1, l2, l3, l4, .int x, l6, l7] (.int x :: st) h Q := X_n mC_54 dX3_firstMove_79 rfl
theorem x54_81 {l0 l1 l2 l3 l4 l5 l6 : Value} {x : Int32} : X 54 81 [l0, l1, l2, l3, l4, l5, l6, .int x] st h Q ↔ X 54 83 [l0, l1, l2, l3, l4, l5, l6, .int x] (.int x :: st) h Q := X_n mC_54 dX3_firstMove_81 rfl
theorem x54_83 {l1 l2 l3 l4 l5 l6 l7 : Value} {x : Nat} : X 54 83 [.ref x, l1, l2, l3, l4, l5, l6, l7] st h Q ↔ X 54 84 [.ref x, l1, l2, l3, l4, l5, l6, l7] (.ref x :: st) h Q := X_n mC_54 dX3_firstMove_83 rfl
theorem x54_84 {a : Nat} : X 54 84 L (.ref a :: st) h Q ↔ (hS h a = (1, 3) ∧ hR h a 3 ≠ 0) ∧ X 54 87 L (.ref (hR h a 3) :: st) h Q := X_getR mC_54 dX3_firstMove_84 (by decide +kernel)
theorem x54_87 {b : Nat} {a0 : Int32} {a1 : Int32} {a2 : Nat} : X 54 87 L [.ref a2, .int a1, .int a0, .ref b] h Q ↔ hS h b = (1, 0) ∧ X 30 0 [.ref b, .int a0, .int a1, .ref a2, .null, .null, .null, .null, .null] [] h (fun r h' => X 54 90 L (pv r []) h' Q) := X_virt (as := [.int a0, .int a1, .ref a2]) (n := 3) (ml := 9) (ck := 0) mC_54 dX3_firstMove_87 (by unfold cOk; decide +kernel) ⟨rfl, rfl, by decide, Nat.le_of_ble_eq_true rfl⟩
theorem x54_90 {x : Int32} : X 54 90 L (.int x :: st) h Q ↔ if x = 0 then X 54 93 L st h Q else X 54 143 L st h Q := X_zne mC_54 dX3_firstMove_90 (by decide)
theorem x54_93 {l1 l2 l3 l4 l5 l6 l7 : Value} {x : Nat} : X 54 93 [.ref x, l1, l2, l3, l4, l5, l6, l7] st h Q ↔ X 54 94 [.ref x, l1, l2, l3, l4, l5, l6, l7] (.ref x :: st) h Q := X_n mC_54 dX3_firstMove_93 rfl
theorem x54_94 {a : Nat} : X 54 94 L (.ref a :: st) h Q ↔ (hS h a = (1, 3) ∧ hR h a 3 ≠ 0) ∧ X 54 97 L (.ref (hR h a 3) :: st) h Q := X_getR mC_54 dX3_firstMove_94 (by decide +kernel)
theorem x54_97 {a : Nat} : X 54 97 L (.ref a :: st) h Q ↔ (hS h a = (1, 1) ∧ hR h a 0 ≠ 0) ∧ X 54 100 L (.ref (hR h a 0) :: st) h Q := X_getR mC_54 dX3_firstMove_97 (by decide +kernel)
theorem x54_100 {l0 l1 l2 l3 l4 l6 l7 : Value} {x : Int32} : X 54 100 [l0, l1, l2, l3, l4, .int x, l6, l7] st h Q ↔ X 54 102 [l0, l1, l2, l3, l4, .int x, l6, l7] (.int x :: st) h Q := X_n mC_54 dX3_firstMove_100 rfl
theorem x54_102 {l0 l1 l2 l3 l4 l5 l6 : Value} {x : Int32} : X 54 102 [l0, l1, l2, l3, l4, l5, l6, .int x] st h Q ↔ X 54 104 [l0, l1, l2, l3, l4, l5, l6, .int x] (.int x :: st) h Q := X_n mC_54 dX3_firstMove_102 rfl
theorem x54_104 {j x : Int32} {a : Nat} : X 54 104 L (.int x :: .int j :: .ref a :: st) h Q ↔ ibw j (hS h a) ∧ X 54 105 L st (sI h a j.toNatClampNeg x) Q := X_iast mC_54 dX3_firstMove_104
theorem x54_105 {l1 l2 l3 l4 l5 l6 l7 : Value} {x : Nat} : X 54 105 [.ref x, l1, l2, l3, l4, l5, l6, l7] st h Q ↔ X 54 106 [.ref x, l1, l2, l3, l4, l5, l6, l7] (.ref x :: st) h Q := X_n mC_54 dX3_firstMove_105 rfl
theorem x54_106 {l1 l2 l3 l4 l5 l6 l7 : Value} {x : Nat} : X 54 106 [.ref x, l1, l2, l3, l4, l5, l6, l7] st h Q ↔ X 54 107 [.ref x, l1, l2, l3, l4, l5, l6, l7] (.ref x :: st) h Q := X_n mC_54 dX3_firstMove_106 rfl
theorem x54_107 {a : Nat} : X 54 107 L (.ref a :: st) h Q ↔ (hS h a = (1, 3) ∧ hR h a 3 ≠ 0) ∧ X 54 110 L (.ref (hR h a 3) :: st) h Q := X_getR mC_54 dX3_firstMove_107 (by decide +kernel)
theorem x54_110 {a : Nat} : X 54 110 L (.ref a :: st) h Q ↔ (hS h a = (1, 1) ∧ hR h a 0 ≠ 0) ∧ X 54 113 L (.ref (hR h a 0) :: st) h Q := X_getR mC_54 dX3_firstMove_110 (by decide +kernel)
theorem x54_113 {l0 l1 l2 l4 l5 l6 l7 : Value} {x : Nat} : X 54 113 [l0, l1, l2, .ref x, l4, l5, l6, l7] st h Q ↔ X 54 114 [l0, l1, l2, .ref x, l4, l5, l6, l7] (.ref x :: st) h Q := X_n mC_54 dX3_firstMove_113 rfl
theorem x54_114 {b : Nat} {a0 : Nat} {a1 : Nat} : X 54 114 L [.ref a1, .ref a0, .ref b] h Q ↔ hS h b = (1, 3) ∧ X 53 0 [.ref b, .ref a0, .ref a1, .null] [] h (fun r h' => X 54 117 L (pv r []) h' Q) := X_virt (as := [.ref a0, .ref a1]) (n := 2) (ml := 4) (ck := 3) mC_54 dX3_firstMove_114 (by unfold cOk; decide +kernel) ⟨rfl, rfl, by decide, Nat.le_of_ble_eq_true rfl⟩
theorem x54_117 {l0 l1 l2 l3 l5 l6 l7 : Value} {x : Int32} : X 54 117 [l0, l1, l2, l3, .int x, l5, l6, l7] st h Q ↔ X 54 119 [l0, l1, l2, l3, .int x, l5, l6, l7] (.int x :: st) h Q := X_n mC_54 dX3_firstMove_117 rfl
theorem x54_119 {x y : Int32} : X 54 119 L (.int y :: .int x :: st) h Q ↔ if x = y then X 54 122 L st h Q else X 54 131 L st h Q := X_ine mC_54 dX3_firstMove_119 (by decide)
theorem x54_122 : X 54 122 L st h Q ↔ X 54 124 L (.int 8 :: st) h Q := X_n mC_54 dX3_firstMove_122 rfl
theorem x54_124 {l0 l1 l2 l3 l4 l6 l7 : Value} {x : Int32} : X 54 124 [l0, l1, l2, l3, l4, .int x, l6, l7] st h Q ↔ X 54 126 [l0, l1, l2, l3, l4, .int x, l6, l7] (.int x :: st) h Q := X_n mC_54 dX3_firstMove_124 rfl
theorem x54_126 {x y : Int32} : X 54 126 L (.int y :: .int x :: st) h Q ↔ X 54 127 L (.int (x * y) :: st) h Q := X_n mC_54 dX3_firstMove_126 rfl
theorem x54_127 {l0 l1 l2 l3 l4 l5 l6 : Value} {x : Int32} : X 54 127 [l0, l1, l2, l3, l4, l5, l6, .int x] st h Q ↔ X 54 129 [l0, l1, l2, l3, l4, l5, l6, .int x] (.int x :: st) h Q := X_n mC_54 dX3_firstMove_127 rfl
theorem x54_129 {x y : Int32} : X 54 129 L (.int y :: .int x :: st) h Q ↔ X 54 130 L (.int (x + y) :: st) h Q := X_n mC_54 dX3_firstMove_129 rfl
theorem x54_130 {v : Int32} : X 54 130 L [.int v] h Q ↔ Q (some (.int v)) h := X_ret mC_54 dX3_firstMove_130 (by decide +kernel)
theorem x54_131 {l1 l2 l3 l4 l5 l6 l7 : Value} {x : Nat} : X 54 131 [.ref x, l1, l2, l3, l4, l5, l6, l7] st h Q ↔ X 54 132 [.ref x, l1, l2, l3, l4, l5, l6, l7] (.ref x :: st) h Q := X_n mC_54 dX3_firstMove_131 rfl
theorem x54_132 {a : Nat} : X 54 132 L (.ref a :: st) h Q ↔ (hS h a = (1, 3) ∧ hR h a 3 ≠ 0) ∧ X 54 135 L (.ref (hR h a 3) :: st) h Q := X_getR mC_54 dX3_firstMove_132 (by decide +kernel)
theorem x54_135 {a : Nat} : X 54 135 L (.ref a :: st) h Q ↔ (hS h a = (1, 1) ∧ hR h a 0 ≠ 0) ∧ X 54 138 L (.ref (hR h a 0) :: st) h Q := X_getR mC_54 dX3_firstMove_135 (by decide +kernel)
theorem x54_138 {l0 l1 l2 l3 l4 l6 l7 : Value} {x : Int32} : X 54 138 [l0, l1, l2, l3, l4, .int x, l6, l7] st h Q ↔ X 54 140 [l0, l1, l2, l3, l4, .int x, l6, l7] (.int x :: st) h Q := X_n mC_54 dX3_firstMove_138 rfl
theorem x54_140 {l0 l1 l2 l3 l4 l5 l7 : Value} {x : Int32} : X 54 140 [l0, l1, l2, l3, l4, l5, .int x, l7] st h Q ↔ X 54 142 [l0, l1, l2, l3, l4, l5, .int x, l7] (.int x :: st) h Q := X_n mC_54 dX3_firstMove_140 rfl
theorem x54_142 {j x : Int32} {a : Nat} : X 54 142 L (.int x :: .int j :: .ref a :: st) h Q ↔ ibw j (hS h a) ∧ X 54 143 L st (sI h a j.toNatClampNeg x) Q := X_iast mC_54 dX3_firstMove_142
theorem x54_143 {l0 l1 l2 l3 l4 l5 l6 : Value} {x : Int32} : X 54 143 [l0, l1, l2, l3, l4, l5, l6, .int x] st h Q ↔ c1 l6 = true ∧ X 54 146 [l0, l1, l2, l3, l4, l5, l6, .int (x + 1)] st h Q := X_inc (pc' := 146) (x := x) mC_54 dX3_firstMove_143 rfl rfl rfl
theorem x54_146 : X 54 146 L st h Q ↔ X 54 53 L st h Q := X_goto mC_54 dX3_firstMove_146 (by decide)
theorem x54_149 {l0 l1 l2 l3 l4 l6 l7 : Value} {x : Int32} : X 54 149 [l0, l1, l2, l3, l4, .int x, l6, l7] st h Q ↔ c1 l4 = true ∧ X 54 152 [l0, l1, l2, l3, l4, .int (x + 1), l6, l7] st h Q := X_inc (pc' := 152) (x := x) mC_54 dX3_firstMove_149 rfl rfl rfl
theorem x54_152 : X 54 152 L st h Q ↔ X 54 24 L st h Q := X_goto mC_54 dX3_firstMove_152 (by decide)
theorem x54_155 : X 54 155 L st h Q ↔ X 54 157 L (.int (-4) :: st) h Q := X_n mC_54 dX3_firstMove_155 rfl
theorem x54_157 {v : Int32} : X 54 157 L [.int v] h Q ↔ Q (some (.int v)) h := X_ret mC_54 dX3_firstMove_157 (by decide +kernel)
theorem mC_55 : mC 55 = cX3_reach := rfl
theorem x55_0 {l0 l2 : Value} {x : Int32} : X 55 0 [l0, .int x, l2] st h Q ↔ X 55 1 [l0, .int x, l2] (.int x :: st) h Q := X_n mC_55 dX3_reach_0 rfl
theorem x55_1 {x : Int32} : X 55 1 L (.int x :: st) h Q ↔ if x < 0 then X 55 21 L st h Q else X 55 4 L st h Q := X_zlt mC_55 dX3_reach_1 (by decide)
theorem x55_4 {l0 l2 : Value} {x : Int32} : X 55 4 [l0, .int x, l2] st h Q ↔ X 55 5 [l0, .int x, l2] (.int x :: st) h Q := X_n mC_55 dX3_reach_4 rfl
theorem x55_5 : X 55 5 L st h Q ↔ X 55 8 L (.int 720 :: st) h Q := X_n mC_55 dX3_reach_5 rfl
theorem x55_8 {x y : Int32} : X 55 8 L (.int y :: .int x :: st) h Q ↔ if x < y then X 55 11 L st h Q else X 55 21 L st h Q := X_ige mC_55 dX3_reach_8 (by decide)
theorem x55_11 {l1 l2 : Value} {x : Nat} : X 55 11 [.ref x, l1, l2] st h Q ↔ X 55 12 [.ref x, l1, l2] (.ref x :: st) h Q := X_n mC_55 dX3_reach_11 rfl
theorem x55_12 {a : Nat} : X 55 12 L (.ref a :: st) h Q ↔ hS h a = (1, 3) ∧ X 55 15 L (.int (hI h a 2) :: st) h Q := X_getI mC_55 dX3_reach_12 (by decide +kernel)
theorem x55_15 : X 55 15 L st h Q ↔ X 55 18 L (.int 720 :: st) h Q := X_n mC_55 dX3_reach_15 rfl
theorem x55_18 {x y : Int32} : X 55 18 L (.int y :: .int x :: st) h Q ↔ if x < y then X 55 22 L st h Q else X 55 21 L st h Q := X_ilt mC_55 dX3_reach_18 (by decide)
theorem x55_21 : X 55 21 L [] h Q ↔ Q none h := X_retV mC_55 dX3_reach_21 (by decide +kernel)
theorem x55_22 {l1 l2 : Value} {x : Nat} : X 55 22 [.ref x, l1, l2] st h Q ↔ X 55 23 [.ref x, l1, l2] (.ref x :: st) h Q := X_n mC_55 dX3_reach_22 rfl
theorem x55_23 {a : Nat} : X 55 23 L (.ref a :: st) h Q ↔ (hS h a = (1, 3) ∧ hR h a 0 ≠ 0) ∧ X 55 26 L (.ref (hR h a 0) :: st) h Q := X_getR mC_55 dX3_reach_23 (by decide +kernel)
theorem x55_26 {l0 l2 : Value} {x : Int32} : X 55 26 [l0, .int x, l2] st h Q ↔ X 55 27 [l0, .int x, l2] (.int x :: st) h Q := X_n mC_55 dX3_reach_26 rfl
theorem x55_27 {j : Int32} {a : Nat} : X 55 27 L (.int j :: .ref a :: st) h Q ↔ ib j (hS h a) ∧ X 55 28 L (.int (hI h a j.toNatClampNeg) :: st) h Q := X_iald mC_55 dX3_reach_27
theorem x55_28 : X 55 28 L st h Q ↔ X 55 30 L (.int (-4) :: st) h Q := X_n mC_55 dX3_reach_28 rfl
theorem x55_30 {x y : Int32} : X 55 30 L (.int y :: .int x :: st) h Q ↔ if x = y then X 55 33 L st h Q else X 55 60 L st h Q := X_ine mC_55 dX3_reach_30 (by decide)
theorem x55_33 {l1 l2 : Value} {x : Nat} : X 55 33 [.ref x, l1, l2] st h Q ↔ X 55 34 [.ref x, l1, l2] (.ref x :: st) h Q := X_n mC_55 dX3_reach_33 rfl
theorem x55_34 {a : Nat} : X 55 34 L (.ref a :: st) h Q ↔ (hS h a = (1, 3) ∧ hR h a 0 ≠ 0) ∧ X 55 37 L (.ref (hR h a 0) :: st) h Q := X_getR mC_55 dX3_reach_34 (by decide +kernel)
theorem x55_37 {l0 l2 : Value} {x : Int32} : X 55 37 [l0, .int x, l2] st h Q ↔ X 55 38 [l0, .int x, l2] (.int x :: st) h Q := X_n mC_55 dX3_reach_37 rfl
theorem x55_38 {l0 l1 : Value} {x : Int32} : X 55 38 [l0, l1, .int x] st h Q ↔ X 55 39 [l0, l1, .int x] (.int x :: st) h Q := X_n mC_55 dX3_reach_38 rfl
theorem x55_39 {j x : Int32} {a : Nat} : X 55 39 L (.int x :: .int j :: .ref a :: st) h Q ↔ ibw j (hS h a) ∧ X 55 40 L st (sI h a j.toNatClampNeg x) Q := X_iast mC_55 dX3_reach_39
theorem x55_40 {l1 l2 : Value} {x : Nat} : X 55 40 [.ref x, l1, l2] st h Q ↔ X 55 41 [.ref x, l1, l2] (.ref x :: st) h Q := X_n mC_55 dX3_reach_40 rfl
theorem x55_41 {a : Nat} : X 55 41 L (.ref a :: st) h Q ↔ (hS h a = (1, 3) ∧ hR h a 1 ≠ 0) ∧ X 55 44 L (.ref (hR h a 1) :: st) h Q := X_getR mC_55 dX3_reach_41 (by decide +kernel)
theorem x55_44 {l1 l2 : Value} {x : Nat} : X 55 44 [.ref x, l1, l2] st h Q ↔ X 55 45 [.ref x, l1, l2] (.ref x :: st) h Q := X_n mC_55 dX3_reach_44 rfl
theorem x55_45 {a : Nat} : X 55 45 L (.ref a :: st) h Q ↔ hS h a = (1, 3) ∧ X 55 48 L (.int (hI h a 2) :: st) h Q := X_getI mC_55 dX3_reach_45 (by decide +kernel)
theorem x55_48 {l0 l2 : Value} {x : Int32} : X 55 48 [l0, .int x, l2] st h Q ↔ X 55 49 [l0, .int x, l2] (.int x :: st) h Q := X_n mC_55 dX3_reach_48 rfl
theorem x55_49 {j x : Int32} {a : Nat} : X 55 49 L (.int x :: .int j :: .ref a :: st) h Q ↔ ibw j (hS h a) ∧ X 55 50 L st (sI h a j.toNatClampNeg x) Q := X_iast mC_55 dX3_reach_49
theorem x55_50 {l1 l2 : Value} {x : Nat} : X 55 50 [.ref x, l1, l2] st h Q ↔ X 55 51 [.ref x, l1, l2] (.ref x :: st) h Q := X_n mC_55 dX3_reach_50 rfl
theorem x55_51 {x : Nat} : X 55 51 L (.ref x :: st) h Q ↔ X 55 52 L (.ref x :: .ref x :: st) h Q := X_n mC_55 dX3_reach_51 rfl
theorem x55_52 {a : Nat} : X 55 52 L (.ref a :: st) h Q ↔ hS h a = (1, 3) ∧ X 55 55 L (.int (hI h a 2) :: st) h Q := X_getI mC_55 dX3_reach_52 (by decide +kernel)
theorem x55_55 : X 55 55 L st h Q ↔ X 55 56 L (.int 1 :: st) h Q := X_n mC_55 dX3_reach_55 rfl
theorem x55_56 {x y : Int32} : X 55 56 L (.int y :: .int x :: st) h Q ↔ X 55 57 L (.int (x + y) :: st) h Q := X_n mC_55 dX3_reach_56 rfl
theorem x55_57 {a : Nat} {v : Int32} : X 55 57 L (.int v :: .ref a :: st) h Q ↔ hS h a = (1, 3) ∧ X 55 60 L st (sI h a 2 v) Q := X_putI mC_55 dX3_reach_57 (by decide +kernel)
theorem x55_60 : X 55 60 L [] h Q ↔ Q none h := X_retV mC_55 dX3_reach_60 (by decide +kernel)
theorem mC_56 : mC 56 = cX3_goOn := rfl
theorem x56_0 {l0 l2 l3 l4 : Value} {x : Int32} : X 56 0 [l0, .int x, l2, l3, l4] st h Q ↔ X 56 1 [l0, .int x, l2, l3, l4] (.int x :: st) h Q := X_n mC_56 dX3_goOn_0 rfl
theorem x56_1 {x : Int32} : X 56 1 L (.int x :: st) h Q ↔ if x < 0 then X 56 11 L st h Q else X 56 4 L st h Q := X_zlt mC_56 dX3_goOn_1 (by decide)
theorem x56_4 {l0 l2 l3 l4 : Value} {x : Int32} : X 56 4 [l0, .int x, l2, l3, l4] st h Q ↔ X 56 5 [l0, .int x, l2, l3, l4] (.int x :: st) h Q := X_n mC_56 dX3_goOn_4 rfl
theorem x56_5 : X 56 5 L st h Q ↔ X 56 8 L (.int 720 :: st) h Q := X_n mC_56 dX3_goOn_5 rfl
theorem x56_8 {x y : Int32} : X 56 8 L (.int y :: .int x :: st) h Q ↔ if x < y then X 56 12 L st h Q else X 56 11 L st h Q := X_ilt mC_56 dX3_goOn_8 (by decide)
theorem x56_11 : X 56 11 L [] h Q ↔ Q none h := X_retV mC_56 dX3_goOn_11 (by decide +kernel)
theorem x56_12 {l0 l1 l2 l4 : Value} {x : Nat} : X 56 12 [l0, l1, l2, .ref x, l4] st h Q ↔ X 56 13 [l0, l1, l2, .ref x, l4] (.ref x :: st) h Q := X_n mC_56 dX3_goOn_12 rfl
theorem x56_13 {l0 l2 l3 l4 : Value} {x : Int32} : X 56 13 [l0, .int x, l2, l3, l4] st h Q ↔ X 56 14 [l0, .int x, l2, l3, l4] (.int x :: st) h Q := X_n mC_56 dX3_goOn_13 rfl
theorem x56_14 {l1 l2 l3 l4 : Value} {x : Nat} : X 56 14 [.ref x, l1, l2, l3, l4] st h Q ↔ X 56 15 [.ref x, l1, l2, l3, l4] (.ref x :: st) h Q := X_n mC_56 dX3_goOn_14 rfl
theorem x56_15 {a : Nat} : X 56 15 L (.ref a :: st) h Q ↔ (hS h a = (1, 3) ∧ hR h a 3 ≠ 0) ∧ X 56 18 L (.ref (hR h a 3) :: st) h Q := X_getR mC_56 dX3_goOn_15 (by decide +kernel)
theorem x56_18 {a : Nat} : X 56 18 L (.ref a :: st) h Q ↔ (hS h a = (1, 1) ∧ hR h a 0 ≠ 0) ∧ X 56 21 L (.ref (hR h a 0) :: st) h Q := X_getR mC_56 dX3_goOn_18 (by decide +kernel)
theorem x56_21 {b : Nat} {a0 : Int32} {a1 : Nat} : X 56 21 L [.ref a1, .int a0, .ref b] h Q ↔ hS h b = (1, 6) ∧ X 78 0 [.ref b, .int a0, .ref a1, .null, .null, .null, .null, .null] [] h (fun r h' => X 56 24 L (pv r []) h' Q) := X_virt (as := [.int a0, .ref a1]) (n := 2) (ml := 8) (ck := 6) mC_56 dX3_goOn_21 (by unfold cOk; decide +kernel) ⟨rfl, rfl, by decide, Nat.le_of_ble_eq_true rfl⟩
theorem x56_24 {l1 l2 l3 l4 : Value} {x : Nat} : X 56 24 [.ref x, l1, l2, l3, l4] st h Q ↔ X 56 25 [.ref x, l1, l2, l3, l4] (.ref x :: st) h Q := X_n mC_56 dX3_goOn_24 rfl
theorem x56_25 {l0 l1 l3 l4 : Value} {x : Nat} : X 56 25 [l0, l1, .ref x, l3, l4] st h Q ↔ X 56 26 [l0, l1, .ref x, l3, l4] (.ref x :: st) h Q := X_n mC_56 dX3_goOn_25 rfl
theorem x56_26 {b : Nat} {a0 : Nat} : X 56 26 L [.ref a0, .ref b] h Q ↔ hS h b = (1, 3) ∧ X 57 0 [.ref b, .ref a0, .null, .null] [] h (fun r h' => X 56 29 L (pv r []) h' Q) := X_virt (as := [.ref a0]) (n := 1) (ml := 4) (ck := 3) mC_56 dX3_goOn_26 (by unfold cOk; decide +kernel) ⟨rfl, rfl, by decide, Nat.le_of_ble_eq_true rfl⟩
theorem x56_29 : X 56 29 L st h Q ↔ X 56 30 L (.int 0 :: st) h Q := X_n mC_56 dX3_goOn_29 rfl
theorem x56_30 {l0 l1 l2 l3 l4 : Value} {x : Int32} : X 56 30 [l0, l1, l2, l3, l4] (.int x :: st) h Q ↔ c1 l3 = true ∧ X 56 32 [l0, l1, l2, l3, .int x] st h Q := X_sto (kk := 4) (pc' := 32) (w := .int x) mC_56 dX3_goOn_30 rfl (Nat.le_of_ble_eq_true rfl) rfl
theorem x56_32 {l0 l1 l2 l3 : Value} {x : Int32} : X 56 32 [l0, l1, l2, l3, .int x] st h Q ↔ X 56 34 [l0, l1, l2, l3, .int x] (.int x :: st) h Q := X_n mC_56 dX3_goOn_32 rfl
theorem x56_34 {l0 l1 l3 l4 : Value} {x : Nat} : X 56 34 [l0, l1, .ref x, l3, l4] st h Q ↔ X 56 35 [l0, l1, .ref x, l3, l4] (.ref x :: st) h Q := X_n mC_56 dX3_goOn_34 rfl
theorem x56_35 {b : Nat} {w0 : Value} : X 56 35 L [.ref b, w0] h Q ↔ hS h b = (1, 0) ∧ X 10 0 [.ref b] [] h (fun r h' => X 56 38 L (pv r [w0]) h' Q) := X_virt (as := []) (n := 0) (ml := 1) (ck := 0) mC_56 dX3_goOn_35 (by unfold cOk; decide +kernel) ⟨rfl, rfl, by decide, Nat.le_of_ble_eq_true rfl⟩
theorem x56_38 {x y : Int32} : X 56 38 L (.int y :: .int x :: st) h Q ↔ if x < y then X 56 41 L st h Q else X 56 81 L st h Q := X_ige mC_56 dX3_goOn_38 (by decide)
theorem x56_41 {l1 l2 l3 l4 : Value} {x : Nat} : X 56 41 [.ref x, l1, l2, l3, l4] st h Q ↔ X 56 42 [.ref x, l1, l2, l3, l4] (.ref x :: st) h Q := X_n mC_56 dX3_goOn_41 rfl
theorem x56_42 {l0 l1 l2 l3 : Value} {x : Int32} : X 56 42 [l0, l1, l2, l3, .int x] st h Q ↔ X 56 44 [l0, l1, l2, l3, .int x] (.int x :: st) h Q := X_n mC_56 dX3_goOn_42 rfl
theorem x56_44 : X 56 44 L st h Q ↔ X 56 45 L (.int 1 :: st) h Q := X_n mC_56 dX3_goOn_44 rfl
theorem x56_45 {l1 l2 l3 l4 : Value} {x : Nat} : X 56 45 [.ref x, l1, l2, l3, l4] st h Q ↔ X 56 46 [.ref x, l1, l2, l3, l4] (.ref x :: st) h Q := X_n mC_56 dX3_goOn_45 rfl
theorem x56_46 {a : Nat} : X 56 46 L (.ref a :: st) h Q ↔ (hS h a = (1, 3) ∧ hR h a 0 ≠ 0) ∧ X 56 49 L (.ref (hR h a 0) :: st) h Q := X_getR mC_56 dX3_goOn_46 (by decide +kernel)
theorem x56_49 {l0 l2 l3 l4 : Value} {x : Int32} : X 56 49 [l0, .int x, l2, l3, l4] st h Q ↔ X 56 50 [l0, .int x, l2, l3, l4] (.int x :: st) h Q := X_n mC_56 dX3_goOn_49 rfl
theorem x56_50 {j : Int32} {a : Nat} : X 56 50 L (.int j :: .ref a :: st) h Q ↔ ib j (hS h a) ∧ X 56 51 L (.int (hI h a j.toNatClampNeg) :: st) h Q := X_iald mC_56 dX3_goOn_50
theorem x56_51 : X 56 51 L st h Q ↔ X 56 52 L (.int 1 :: st) h Q := X_n mC_56 dX3_goOn_51 rfl
theorem x56_52 {x y : Int32} : X 56 52 L (.int y :: .int x :: st) h Q ↔ X 56 53 L (.int (x + y) :: st) h Q := X_n mC_56 dX3_goOn_52 rfl
theorem x56_53 {l0 l1 l3 l4 : Value} {x : Nat} : X 56 53 [l0, l1, .ref x, l3, l4] st h Q ↔ X 56 54 [l0, l1, .ref x, l3, l4] (.ref x :: st) h Q := X_n mC_56 dX3_goOn_53 rfl
theorem x56_54 {l0 l1 l2 l4 : Value} {x : Nat} : X 56 54 [l0, l1, l2, .ref x, l4] st h Q ↔ X 56 55 [l0, l1, l2, .ref x, l4] (.ref x :: st) h Q := X_n mC_56 dX3_goOn_54 rfl
theorem x56_55 {b : Nat} {a0 : Int32} {a1 : Int32} {a2 : Int32} {a3 : Nat} {a4 : Nat} : X 56 55 L [.ref a4, .ref a3, .int a2, .int a1, .int a0, .ref b] h Q ↔ hS h b = (1, 3) ∧ X 58 0 [.ref b, .int a0, .int a1, .int a2, .ref a3, .ref a4, .null, .null, .null] [] h (fun r h' => X 56 58 L (pv r []) h' Q) := X_virt (as := [.int a0, .int a1, .int a2, .ref a3, .ref a4]) (n := 5) (ml := 9) (ck := 3) mC_56 dX3_goOn_55 (by unfold cOk; decide +kernel) ⟨rfl, rfl, by decide, Nat.le_of_ble_eq_true rfl⟩
theorem x56_58 {l1 l2 l3 l4 : Value} {x : Nat} : X 56 58 [.ref x, l1, l2, l3, l4] st h Q ↔ X 56 59 [.ref x, l1, l2, l3, l4] (.ref x :: st) h Q := X_n mC_56 dX3_goOn_58 rfl
theorem x56_59 {l0 l1 l2 l3 : Value} {x : Int32} : X 56 59 [l0, l1, l2, l3, .int x] st h Q ↔ X 56 61 [l0, l1, l2, l3, .int x] (.int x :: st) h Q := X_n mC_56 dX3_goOn_59 rfl
theorem x56_61 : X 56 61 L st h Q ↔ X 56 62 L (.int (-1) :: st) h Q := X_n mC_56 dX3_goOn_61 rfl
theorem x56_62 {l1 l2 l3 l4 : Value} {x : Nat} : X 56 62 [.ref x, l1, l2, l3, l4] st h Q ↔ X 56 63 [.ref x, l1, l2, l3, l4] (.ref x :: st) h Q := X_n mC_56 dX3_goOn_62 rfl
theorem x56_63 {a : Nat} : X 56 63 L (.ref a :: st) h Q ↔ (hS h a = (1, 3) ∧ hR h a 0 ≠ 0) ∧ X 56 66 L (.ref (hR h a 0) :: st) h Q := X_getR mC_56 dX3_goOn_63 (by decide +kernel)
theorem x56_66 {l0 l2 l3 l4 : Value} {x : Int32} : X 56 66 [l0, .int x, l2, l3, l4] st h Q ↔ X 56 67 [l0, .int x, l2, l3, l4] (.int x :: st) h Q := X_n mC_56 dX3_goOn_66 rfl
theorem x56_67 {j : Int32} {a : Nat} : X 56 67 L (.int j :: .ref a :: st) h Q ↔ ib j (hS h a) ∧ X 56 68 L (.int (hI h a j.toNatClampNeg) :: st) h Q := X_iald mC_56 dX3_goOn_67
theorem x56_68 : X 56 68 L st h Q ↔ X 56 69 L (.int 1 :: st) h Q := X_n mC_56 dX3_goOn_68 rfl
theorem x56_69 {x y : Int32} : X 56 69 L (.int y :: .int x :: st) h Q ↔ X 56 70 L (.int (x + y) :: st) h Q := X_n mC_56 dX3_goOn_69 rfl
theorem x56_70 {l0 l1 l3 l4 : Value} {x : Nat} : X 56 70 [l0, l1, .ref x, l3, l4] st h Q ↔ X 56 71 [l0, l1, .ref x, l3, l4] (.ref x :: st) h Q := X_n mC_56 dX3_goOn_70 rfl
theorem x56_71 {l0 l1 l2 l4 : Value} {x : Nat} : X 56 71 [l0, l1, l2, .ref x, l4] st h Q ↔ X 56 72 [l0, l1, l2, .ref x, l4] (.ref x :: st) h Q := X_n mC_56 dX3_goOn_71 rfl
theorem x56_72 {b : Nat} {a0 : Int32} {a1 : Int32} {a2 : Int32} {a3 : Nat} {a4 : Nat} : X 56 72 L [.ref a4, .ref a3, .int a2, .int a1, .int a0, .ref b] h Q ↔ hS h b = (1, 3) ∧ X 58 0 [.ref b, .int a0, .int a1, .int a2, .ref a3, .ref a4, .null, .null, .null] [] h (fun r h' => X 56 75 L (pv r []) h' Q) := X_virt (as := [.int a0, .int a1, .int a2, .ref a3, .ref a4]) (n := 5) (ml := 9) (ck := 3) mC_56 dX3_goOn_72 (by unfold cOk; decide +kernel) ⟨rfl, rfl, by decide, Nat.le_of_ble_eq_true rfl⟩
theorem x56_75 {l0 l1 l2 l3 : Value} {x : Int32} : X 56 75 [l0, l1, l2, l3, .int x] st h Q ↔ c1 l3 = true ∧ X 56 78 [l0, l1, l2, l3, .int (x + 1)] st h Q := X_inc (pc' := 78) (x := x) mC_56 dX3_goOn_75 rfl rfl rfl
theorem x56_78 : X 56 78 L st h Q ↔ X 56 32 L st h Q := X_goto mC_56 dX3_goOn_78 (by decide)
theorem x56_81 : X 56 81 L [] h Q ↔ Q none h := X_retV mC_56 dX3_goOn_81 (by decide +kernel)
theorem mC_57 : mC 57 = cX3_noteSleepers := rfl
theorem x57_0 {l1 l2 l3 : Value} {x : Nat} : X 57 0 [.ref x, l1, l2, l3] st h Q ↔ X 57 1 [.ref x, l1, l2, l3] (.ref x :: st) h Q := X_n mC_57 dX3_noteSleepers_0 rfl
theorem x57_1 {a : Nat} : X 57 1 L (.ref a :: st) h Q ↔ (hS h a = (1, 3) ∧ hR h a 4 ≠ 0) ∧ X 57 4 L (.ref (hR h a 4) :: st) h Q := X_getR mC_57 dX3_noteSleepers_1 (by decide +kernel)
theorem x57_4 : X 57 4 L st h Q ↔ X 57 5 L (.int 0 :: st) h Q := X_n mC_57 dX3_noteSleepers_4 rfl
theorem x57_5 {a0 : Nat} {a1 : Int32} : X 57 5 L [.int a1, .ref a0] h Q ↔ X 180 0 [.ref a0, .int a1, .null, .null] [] h (fun r h' => X 57 8 L (pv r []) h' Q) := X_stat (as := [.ref a0, .int a1]) (n := 2) (ml := 4) (ck := 10) mC_57 dX3_noteSleepers_5 (by unfold cOk; decide +kernel) ⟨rfl, rfl, by decide, Nat.le_of_ble_eq_true rfl⟩
theorem x57_8 : X 57 8 L st h Q ↔ X 57 9 L (.int 0 :: st) h Q := X_n mC_57 dX3_noteSleepers_8 rfl
theorem x57_9 {l0 l1 l2 l3 : Value} {x : Int32} : X 57 9 [l0, l1, l2, l3] (.int x :: st) h Q ↔ c1 l1 = true ∧ X 57 10 [l0, l1, .int x, l3] st h Q := X_sto (kk := 2) (pc' := 10) (w := .int x) mC_57 dX3_noteSleepers_9 rfl (Nat.le_of_ble_eq_true rfl) rfl
theorem x57_10 {l0 l1 l3 : Value} {x : Int32} : X 57 10 [l0, l1, .int x, l3] st h Q ↔ X 57 11 [l0, l1, .int x, l3] (.int x :: st) h Q := X_n mC_57 dX3_noteSleepers_10 rfl
theorem x57_11 {l0 l2 l3 : Value} {x : Nat} : X 57 11 [l0, .ref x, l2, l3] st h Q ↔ X 57 12 [l0, .ref x, l2, l3] (.ref x :: st) h Q := X_n mC_57 dX3_noteSleepers_11 rfl
theorem x57_12 {b : Nat} {w0 : Value} : X 57 12 L [.ref b, w0] h Q ↔ hS h b = (1, 0) ∧ X 10 0 [.ref b] [] h (fun r h' => X 57 15 L (pv r [w0]) h' Q) := X_virt (as := []) (n := 0) (ml := 1) (ck := 0) mC_57 dX3_noteSleepers_12 (by unfold cOk; decide +kernel) ⟨rfl, rfl, by decide, Nat.le_of_ble_eq_true rfl⟩
theorem x57_15 {x y : Int32} : X 57 15 L (.int y :: .int x :: st) h Q ↔ if x < y then X 57 18 L st h Q else X 57 62 L st h Q := X_ige mC_57 dX3_noteSleepers_15 (by decide)
theorem x57_18 {l1 l2 l3 : Value} {x : Nat} : X 57 18 [.ref x, l1, l2, l3] st h Q ↔ X 57 19 [.ref x, l1, l2, l3] (.ref x :: st) h Q := X_n mC_57 dX3_noteSleepers_18 rfl
theorem x57_19 {a : Nat} : X 57 19 L (.ref a :: st) h Q ↔ (hS h a = (1, 3) ∧ hR h a 3 ≠ 0) ∧ X 57 22 L (.ref (hR h a 3) :: st) h Q := X_getR mC_57 dX3_noteSleepers_19 (by decide +kernel)
theorem x57_22 {l0 l1 l3 : Value} {x : Int32} : X 57 22 [l0, l1, .int x, l3] st h Q ↔ X 57 23 [l0, l1, .int x, l3] (.int x :: st) h Q := X_n mC_57 dX3_noteSleepers_22 rfl
theorem x57_23 {b : Nat} {a0 : Int32} : X 57 23 L [.int a0, .ref b] h Q ↔ hS h b = (1, 1) ∧ X 38 0 [.ref b, .int a0] [] h (fun r h' => X 57 26 L (pv r []) h' Q) := X_virt (as := [.int a0]) (n := 1) (ml := 2) (ck := 1) mC_57 dX3_noteSleepers_23 (by unfold cOk; decide +kernel) ⟨rfl, rfl, by decide, Nat.le_of_ble_eq_true rfl⟩
theorem x57_26 {l0 l1 l2 l3 : Value} {x : Int32} : X 57 26 [l0, l1, l2, l3] (.int x :: st) h Q ↔ c1 l2 = true ∧ X 57 27 [l0, l1, l2, .int x] st h Q := X_sto (kk := 3) (pc' := 27) (w := .int x) mC_57 dX3_noteSleepers_26 rfl (Nat.le_of_ble_eq_true rfl) rfl
theorem x57_27 {l0 l1 l2 : Value} {x : Int32} : X 57 27 [l0, l1, l2, .int x] st h Q ↔ X 57 28 [l0, l1, l2, .int x] (.int x :: st) h Q := X_n mC_57 dX3_noteSleepers_27 rfl
theorem x57_28 {x : Int32} : X 57 28 L (.int x :: st) h Q ↔ if x < 0 then X 57 56 L st h Q else X 57 31 L st h Q := X_zlt mC_57 dX3_noteSleepers_28 (by decide)
theorem x57_31 {l0 l1 l2 : Value} {x : Int32} : X 57 31 [l0, l1, l2, .int x] st h Q ↔ X 57 32 [l0, l1, l2, .int x] (.int x :: st) h Q := X_n mC_57 dX3_noteSleepers_31 rfl
theorem x57_32 : X 57 32 L st h Q ↔ X 57 34 L (.int 6 :: st) h Q := X_n mC_57 dX3_noteSleepers_32 rfl
theorem x57_34 {x y : Int32} : X 57 34 L (.int y :: .int x :: st) h Q ↔ if x < y then X 57 37 L st h Q else X 57 56 L st h Q := X_ige mC_57 dX3_noteSleepers_34 (by decide)
theorem x57_37 {l1 l2 l3 : Value} {x : Nat} : X 57 37 [.ref x, l1, l2, l3] st h Q ↔ X 57 38 [.ref x, l1, l2, l3] (.ref x :: st) h Q := X_n mC_57 dX3_noteSleepers_37 rfl
theorem x57_38 {a : Nat} : X 57 38 L (.ref a :: st) h Q ↔ (hS h a = (1, 3) ∧ hR h a 4 ≠ 0) ∧ X 57 41 L (.ref (hR h a 4) :: st) h Q := X_getR mC_57 dX3_noteSleepers_38 (by decide +kernel)
theorem x57_41 {l0 l1 l2 : Value} {x : Int32} : X 57 41 [l0, l1, l2, .int x] st h Q ↔ X 57 42 [l0, l1, l2, .int x] (.int x :: st) h Q := X_n mC_57 dX3_noteSleepers_41 rfl
theorem x57_42 {l0 l2 l3 : Value} {x : Nat} : X 57 42 [l0, .ref x, l2, l3] st h Q ↔ X 57 43 [l0, .ref x, l2, l3] (.ref x :: st) h Q := X_n mC_57 dX3_noteSleepers_42 rfl
theorem x57_43 {l0 l1 l3 : Value} {x : Int32} : X 57 43 [l0, l1, .int x, l3] st h Q ↔ X 57 44 [l0, l1, .int x, l3] (.int x :: st) h Q := X_n mC_57 dX3_noteSleepers_43 rfl
theorem x57_44 {b : Nat} {a0 : Int32} {w0 w1 : Value} : X 57 44 L [.int a0, .ref b, w0, w1] h Q ↔ hS h b = (1, 0) ∧ X 29 0 [.ref b, .int a0] [] h (fun r h' => X 57 47 L (pv r [w0, w1]) h' Q) := X_virt (as := [.int a0]) (n := 1) (ml := 2) (ck := 0) mC_57 dX3_noteSleepers_44 (by unfold cOk; decide +kernel) ⟨rfl, rfl, by decide, Nat.le_of_ble_eq_true rfl⟩
theorem x57_47 {x : Int32} : X 57 47 L (.int x :: st) h Q ↔ if x = 0 then X 57 54 L st h Q else X 57 50 L st h Q := X_zeq mC_57 dX3_noteSleepers_47 (by decide)
theorem x57_50 : X 57 50 L st h Q ↔ X 57 51 L (.int 2 :: st) h Q := X_n mC_57 dX3_noteSleepers_50 rfl
theorem x57_51 : X 57 51 L st h Q ↔ X 57 55 L st h Q := X_goto mC_57 dX3_noteSleepers_51 (by decide)
theorem x57_54 : X 57 54 L st h Q ↔ X 57 55 L (.int 1 :: st) h Q := X_n mC_57 dX3_noteSleepers_54 rfl
theorem x57_55 {j x : Int32} {a : Nat} : X 57 55 L (.int x :: .int j :: .ref a :: st) h Q ↔ ibw j (hS h a) ∧ X 57 56 L st (sI h a j.toNatClampNeg x) Q := X_iast mC_57 dX3_noteSleepers_55
theorem x57_56 {l0 l1 l3 : Value} {x : Int32} : X 57 56 [l0, l1, .int x, l3] st h Q ↔ c1 l1 = true ∧ X 57 59 [l0, l1, .int (x + 1), l3] st h Q := X_inc (pc' := 59) (x := x) mC_57 dX3_noteSleepers_56 rfl rfl rfl
theorem x57_59 : X 57 59 L st h Q ↔ X 57 10 L st h Q := X_goto mC_57 dX3_noteSleepers_59 (by decide)
theorem x57_62 : X 57 62 L [] h Q ↔ Q none h := X_retV mC_57 dX3_noteSleepers_62 (by decide +kernel)
theorem mC_58 : mC 58 = cX3_goAside := rfl
theorem x58_0 {l0 l2 l3 l4 l5 l6 l7 l8 : Value} {x : Int32} : X 58 0 [l0, .int x, l2, l3, l4, l5, l6, l7, l8] st h Q ↔ X 58 1 [l0, .int x, l2, l3, l4, l5, l6, l7, l8] (.int x :: st) h Q := X_n mC_58 dX3_goAside_0 rfl
theorem x58_1 {x : Int32} : X 58 1 L (.int x :: st) h Q ↔ if x < 0 then X 58 9 L st h Q else X 58 4 L st h Q := X_zlt mC_58 dX3_goAside_1 (by decide)
theorem x58_4 {l0 l2 l3 l4 l5 l6 l7 l8 : Value} {x : Int32} : X 58 4 [l0, .int x, l2, l3, l4, l5, l6, l7, l8] st h Q ↔ X 58 5 [l0, .int x, l2, l3, l4, l5, l6, l7, l8] (.int x :: st) h Q := X_n mC_58 dX3_goAside_4 rfl
theorem x58_5 : X 58 5 L st h Q ↔ X 58 6 L (.int 5 :: st) h Q := X_n mC_58 dX3_goAside_5 rfl
theorem x58_6 {x y : Int32} : X 58 6 L (.int y :: .int x :: st) h Q ↔ if x < y then X 58 10 L st h Q else X 58 9 L st h Q := X_ilt mC_58 dX3_goAside_6 (by decide)
theorem x58_9 : X 58 9 L [] h Q ↔ Q none h := X_retV mC_58 dX3_goAside_9 (by decide +kernel)
theorem x58_10 {l1 l2 l3 l4 l5 l6 l7 l8 : Value} {x : Nat} : X 58 10 [.ref x, l1, l2, l3, l4, l5, l6, l7, l8] st h Q ↔ X 58 11 [.ref x, l1, l2, l3, l4, l5, l6, l7, l8] (.ref x :: st) h Q := X_n mC_58 dX3_goAside_10 rfl
theorem x58_11 {a : Nat} : X 58 11 L (.ref a :: st) h Q ↔ (hS h a = (1, 3) ∧ hR h a 3 ≠ 0) ∧ X 58 14 L (.ref (hR h a 3) :: st) h Q := X_getR mC_58 dX3_goAside_11 (by decide +kernel)
theorem x58_14 {a : Nat} : X 58 14 L (.ref a :: st) h Q ↔ (hS h a = (1, 1) ∧ hR h a 0 ≠ 0) ∧ X 58 17 L (.ref (hR h a 0) :: st) h Q := X_getR mC_58 dX3_goAside_14 (by decide +kernel)
theorem x58_17 {l0 l2 l3 l4 l5 l6 l7 l8 : Value} {x : Int32} : X 58 17 [l0, .int x, l2, l3, l4, l5, l6, l7, l8] st h Q ↔ X 58 18 [l0, .int x, l2, l3, l4, l5, l6, l7, l8] (.int x :: st) h Q := X_n mC_58 dX3_goAside_17 rfl
theorem x58_18 {j : Int32} {a : Nat} : X 58 18 L (.int j :: .ref a :: st) h Q ↔ ib j (hS h a) ∧ X 58 19 L (.int (hI h a j.toNatClampNeg) :: st) h Q := X_iald mC_58 dX3_goAside_18
theorem x58_19 {l0 l1 l2 l3 l4 l5 l6 l7 l8 : Value} {x : Int32} : X 58 19 [l0, l1, l2, l3, l4, l5, l6, l7, l8] (.int x :: st) h Q ↔ c1 l5 = true ∧ X 58 21 [l0, l1, l2, l3, l4, l5, .int x, l7, l8] st h Q := X_sto (kk := 6) (pc' := 21) (w := .int x) mC_58 dX3_goAside_19 rfl (Nat.le_of_ble_eq_true rfl) rfl
theorem x58_21 {l0 l1 l2 l3 l4 l5 l7 l8 : Value} {x : Int32} : X 58 21 [l0, l1, l2, l3, l4, l5, .int x, l7, l8] st h Q ↔ X 58 23 [l0, l1, l2, l3, l4, l5, .int x, l7, l8] (.int x :: st) h Q := X_n mC_58 dX3_goAside_21 rfl
theorem x58_23 {l0 l1 l3 l4 l5 l6 l7 l8 : Value} {x : Int32} : X 58 23 [l0, l1, .int x, l3, l4, l5, l6, l7, l8] st h Q ↔ X 58 24 [l0, l1, .int x, l3, l4, l5, l6, l7, l8] (.int x :: st) h Q := X_n mC_58 dX3_goAside_23 rfl
theorem x58_24 {x y : Int32} : X 58 24 L (.int y :: .int x :: st) h Q ↔ X 58 25 L (.int (x + y) :: st) h Q := X_n mC_58 dX3_goAside_24 rfl
theorem x58_25 {l0 l1 l2 l3 l4 l5 l6 l7 l8 : Value} {x : Int32} : X 58 25 [l0, l1, l2, l3, l4, l5, l6, l7, l8] (.int x :: st) h Q ↔ c1 l6 = true ∧ X 58 27 [l0, l1, l2, l3, l4, l5, l6, .int x, l8] st h Q := X_sto (kk := 7) (pc' := 27) (w := .int x) mC_58 dX3_goAside_25 rfl (Nat.le_of_ble_eq_true rfl) rfl
theorem x58_27 : X 58 27 L st h Q ↔ X 58 28 L (.int 1 :: st) h Q := X_n mC_58 dX3_goAside_27 rfl
theorem x58_28 {l0 l1 l2 l3 l4 l5 l6 l7 l8 : Value} {x : Int32} : X 58 28 [l0, l1, l2, l3, l4, l5, l6, l7, l8] (.int x :: st) h Q ↔ c1 l7 = true ∧ X 58 30 [l0, l1, l2, l3, l4, l5, l6, l7, .int x] st h Q := X_sto (kk := 8) (pc' := 30) (w := .int x) mC_58 dX3_goAside_28 rfl (Nat.le_of_ble_eq_true rfl) rfl
theorem x58_30 {l0 l1 l2 l3 l4 l5 l6 l7 : Value} {x : Int32} : X 58 30 [l0, l1, l2, l3, l4, l5, l6, l7, .int x] st h Q ↔ X 58 32 [l0, l1, l2, l3, l4, l5, l6, l7, .int x] (.int x :: st) h Q := X_n mC_58 dX3_goAside_30 rfl
theorem x58_32 : X 58 32 L st h Q ↔ X 58 34 L (.int 6 :: st) h Q := X_n mC_58 dX3_goAside_32 rfl
theorem x58_34 {x y : Int32} : X 58 34 L (.int y :: .int x :: st) h Q ↔ if x < y then X 58 37 L st h Q else X 58 127 L st h Q := X_ige mC_58 dX3_goAside_34 (by decide)
theorem x58_37 {l0 l1 l2 l3 l5 l6 l7 l8 : Value} {x : Nat} : X 58 37 [l0, l1, l2, l3, .ref x, l5, l6, l7, l8] st h Q ↔ X 58 39 [l0, l1, l2, l3, .ref x, l5, l6, l7, l8] (.ref x :: st) h Q := X_n mC_58 dX3_goAside_37 rfl
theorem x58_39 {l0 l1 l2 l3 l4 l5 l6 l8 : Value} {x : Int32} : X 58 39 [l0, l1, l2, l3, l4, l5, l6, .int x, l8] st h Q ↔ X 58 41 [l0, l1, l2, l3, l4, l5, l6, .int x, l8] (.int x :: st) h Q := X_n mC_58 dX3_goAside_39 rfl
theorem x58_41 {b : Nat} {a0 : Int32} : X 58 41 L [.int a0, .ref b] h Q ↔ hS h b = (1, 0) ∧ X 14 0 [.ref b, .int a0] [] h (fun r h' => X 58 44 L (pv r []) h' Q) := X_virt (as := [.int a0]) (n := 1) (ml := 2) (ck := 0) mC_58 dX3_goAside_41 (by unfold cOk; decide +kernel) ⟨rfl, rfl, by decide, Nat.le_of_ble_eq_true rfl⟩
theorem x58_44 {x : Int32} : X 58 44 L (.int x :: st) h Q ↔ if x = 0 then X 58 127 L st h Q else X 58 47 L st h Q := X_zeq mC_58 dX3_goAside_44 (by decide)
theorem x58_47 {l0 l1 l2 l3 l4 l5 l6 l8 : Value} {x : Int32} : X 58 47 [l0, l1, l2, l3, l4, l5, l6, .int x, l8] st h Q ↔ X 58 49 [l0, l1, l2, l3, l4, l5, l6, .int x, l8] (.int x :: st) h Q := X_n mC_58 dX3_goAside_47 rfl
theorem x58_49 : X 58 49 L st h Q ↔ X 58 51 L (.int 6 :: st) h Q := X_n mC_58 dX3_goAside_49 rfl
theorem x58_51 {x y : Int32} : X 58 51 L (.int y :: .int x :: st) h Q ↔ if x < y then X 58 54 L st h Q else X 58 127 L st h Q := X_ige mC_58 dX3_goAside_51 (by decide)
theorem x58_54 {l1 l2 l3 l4 l5 l6 l7 l8 : Value} {x : Nat} : X 58 54 [.ref x, l1, l2, l3, l4, l5, l6, l7, l8] st h Q ↔ X 58 55 [.ref x, l1, l2, l3, l4, l5, l6, l7, l8] (.ref x :: st) h Q := X_n mC_58 dX3_goAside_54 rfl
theorem x58_55 {a : Nat} : X 58 55 L (.ref a :: st) h Q ↔ (hS h a = (1, 3) ∧ hR h a 4 ≠ 0) ∧ X 58 58 L (.ref (hR h a 4) :: st) h Q := X_getR mC_58 dX3_goAside_55 (by decide +kernel)
theorem x58_58 {l0 l1 l2 l3 l4 l5 l6 l8 : Value} {x : Int32} : X 58 58 [l0, l1, l2, l3, l4, l5, l6, .int x, l8] st h Q ↔ X 58 60 [l0, l1, l2, l3, l4, l5, l6, .int x, l8] (.int x :: st) h Q := X_n mC_58 dX3_goAside_58 rfl
theorem x58_60 {j : Int32} {a : Nat} : X 58 60 L (.int j :: .ref a :: st) h Q ↔ ib j (hS h a) ∧ X 58 61 L (.int (hI h a j.toNatClampNeg) :: st) h Q := X_iald mC_58 dX3_goAside_60
theorem x58_61 : X 58 61 L st h Q ↔ X 58 62 L (.int 2 :: st) h Q := X_n mC_58 dX3_goAside_61 rfl
theorem x58_62 {x y : Int32} : X 58 62 L (.int y :: .int x :: st) h Q ↔ if x = y then X 58 65 L st h Q else X 58 66 L st h Q := X_ine mC_58 dX3_goAside_62 (by decide)
theorem x58_65 : X 58 65 L [] h Q ↔ Q none h := X_retV mC_58 dX3_goAside_65 (by decide +kernel)
theorem x58_66 {l1 l2 l3 l4 l5 l6 l7 l8 : Value} {x : Nat} : X 58 66 [.ref x, l1, l2, l3, l4, l5, l6, l7, l8] st h Q ↔ X 58 67 [.ref x, l1, l2, l3, l4, l5, l6, l7, l8] (.ref x :: st) h Q := X_n mC_58 dX3_goAside_66 rfl
theorem x58_67 {a : Nat} : X 58 67 L (.ref a :: st) h Q ↔ (hS h a = (1, 3) ∧ hR h a 4 ≠ 0) ∧ X 58 70 L (.ref (hR h a 4) :: st) h Q := X_getR mC_58 dX3_goAside_67 (by decide +kernel)
theorem x58_70 {l0 l1 l2 l3 l4 l5 l6 l8 : Value} {x : Int32} : X 58 70 [l0, l1, l2, l3, l4, l5, l6, .int x, l8] st h Q ↔ X 58 72 [l0, l1, l2, l3, l4, l5, l6, .int x, l8] (.int x :: st) h Q := X_n mC_58 dX3_goAside_70 rfl
theorem x58_72 {j : Int32} {a : Nat} : X 58 72 L (.int j :: .ref a :: st) h Q ↔ ib j (hS h a) ∧ X 58 73 L (.int (hI h a j.toNatClampNeg) :: st) h Q := X_iald mC_58 dX3_goAside_72
theorem x58_73 {x : Int32} : X 58 73 L (.int x :: st) h Q ↔ if x = 0 then X 58 76 L st h Q else X 58 115 L st h Q := X_zne mC_58 dX3_goAside_73 (by decide)
theorem x58_76 {l1 l2 l3 l4 l5 l6 l7 l8 : Value} {x : Nat} : X 58 76 [.ref x, l1, l2, l3, l4, l5, l6, l7, l8] st h Q ↔ X 58 77 [.ref x, l1, l2, l3, l4, l5, l6, l7, l8] (.ref x :: st) h Q := X_n mC_58 dX3_goAside_76 rfl
theorem x58_77 {a : Nat} : X 58 77 L (.ref a :: st) h Q ↔ (hS h a = (1, 3) ∧ hR h a 3 ≠ 0) ∧ X 58 80 L (.ref (hR h a 3) :: st) h Q := X_getR mC_58 dX3_goAside_77 (by decide +kernel)
theorem x58_80 {a : Nat} : X 58 80 L (.ref a :: st) h Q ↔ (hS h a = (1, 1) ∧ hR h a 0 ≠ 0) ∧ X 58 83 L (.ref (hR h a 0) :: st) h Q := X_getR mC_58 dX3_goAside_80 (by decide +kernel)
theorem x58_83 {l0 l2 l3 l4 l5 l6 l7 l8 : Value} {x : Int32} : X 58 83 [l0, .int x, l2, l3, l4, l5, l6, l7, l8] st h Q ↔ X 58 84 [l0, .int x, l2, l3, l4, l5, l6, l7, l8] (.int x :: st) h Q := X_n mC_58 dX3_goAside_83 rfl
theorem x58_84 {l0 l1 l2 l3 l4 l5 l6 l8 : Value} {x : Int32} : X 58 84 [l0, l1, l2, l3, l4, l5, l6, .int x, l8] st h Q ↔ X 58 86 [l0, l1, l2, l3, l4, l5, l6, .int x, l8] (.int x :: st) h Q := X_n mC_58 dX3_goAside_84 rfl
theorem x58_86 {j x : Int32} {a : Nat} : X 58 86 L (.int x :: .int j :: .ref a :: st) h Q ↔ ibw j (hS h a) ∧ X 58 87 L st (sI h a j.toNatClampNeg x) Q := X_iast mC_58 dX3_goAside_86
theorem x58_87 {l1 l2 l3 l4 l5 l6 l7 l8 : Value} {x : Nat} : X 58 87 [.ref x, l1, l2, l3, l4, l5, l6, l7, l8] st h Q ↔ X 58 88 [.ref x, l1, l2, l3, l4, l5, l6, l7, l8] (.ref x :: st) h Q := X_n mC_58 dX3_goAside_87 rfl
theorem x58_88 {l0 l1 l2 l3 l4 l6 l7 l8 : Value} {x : Nat} : X 58 88 [l0, l1, l2, l3, l4, .ref x, l6, l7, l8] st h Q ↔ X 58 90 [l0, l1, l2, l3, l4, .ref x, l6, l7, l8] (.ref x :: st) h Q := X_n mC_58 dX3_goAside_88 rfl
theorem x58_90 {l1 l2 l3 l4 l5 l6 l7 l8 : Value} {x : Nat} : X 58 90 [.ref x, l1, l2, l3, l4, l5, l6, l7, l8] st h Q ↔ X 58 91 [.ref x, l1, l2, l3, l4, l5, l6, l7, l8] (.ref x :: st) h Q := X_n mC_58 dX3_goAside_90 rfl
theorem x58_91 {a : Nat} : X 58 91 L (.ref a :: st) h Q ↔ (hS h a = (1, 3) ∧ hR h a 3 ≠ 0) ∧ X 58 94 L (.ref (hR h a 3) :: st) h Q := X_getR mC_58 dX3_goAside_91 (by decide +kernel)
theorem x58_94 {a : Nat} : X 58 94 L (.ref a :: st) h Q ↔ (hS h a = (1, 1) ∧ hR h a 0 ≠ 0) ∧ X 58 97 L (.ref (hR h a 0) :: st) h Q := X_getR mC_58 dX3_goAside_94 (by decide +kernel)
theorem x58_97 {b : Nat} {a0 : Nat} {w0 : Value} : X 58 97 L [.ref a0, .ref b, w0] h Q ↔ hS h b = (1, 6) ∧ X 77 0 [.ref b, .ref a0, .null, .null, .null, .null] [] h (fun r h' => X 58 100 L (pv r [w0]) h' Q) := X_virt (as := [.ref a0]) (n := 1) (ml := 6) (ck := 6) mC_58 dX3_goAside_97 (by unfold cOk; decide +kernel) ⟨rfl, rfl, by decide, Nat.le_of_ble_eq_true rfl⟩
theorem x58_100 {l0 l1 l2 l4 l5 l6 l7 l8 : Value} {x : Int32} : X 58 100 [l0, l1, l2, .int x, l4, l5, l6, l7, l8] st h Q ↔ X 58 101 [l0, l1, l2, .int x, l4, l5, l6, l7, l8] (.int x :: st) h Q := X_n mC_58 dX3_goAside_100 rfl
theorem x58_101 {b : Nat} {a0 : Int32} {a1 : Int32} : X 58 101 L [.int a1, .int a0, .ref b] h Q ↔ hS h b = (1, 3) ∧ X 55 0 [.ref b, .int a0, .int a1] [] h (fun r h' => X 58 104 L (pv r []) h' Q) := X_virt (as := [.int a0, .int a1]) (n := 2) (ml := 3) (ck := 3) mC_58 dX3_goAside_101 (by unfold cOk; decide +kernel) ⟨rfl, rfl, by decide, Nat.le_of_ble_eq_true rfl⟩
theorem x58_104 {l1 l2 l3 l4 l5 l6 l7 l8 : Value} {x : Nat} : X 58 104 [.ref x, l1, l2, l3, l4, l5, l6, l7, l8] st h Q ↔ X 58 105 [.ref x, l1, l2, l3, l4, l5, l6, l7, l8] (.ref x :: st) h Q := X_n mC_58 dX3_goAside_104 rfl
theorem x58_105 {a : Nat} : X 58 105 L (.ref a :: st) h Q ↔ (hS h a = (1, 3) ∧ hR h a 3 ≠ 0) ∧ X 58 108 L (.ref (hR h a 3) :: st) h Q := X_getR mC_58 dX3_goAside_105 (by decide +kernel)
theorem x58_108 {a : Nat} : X 58 108 L (.ref a :: st) h Q ↔ (hS h a = (1, 1) ∧ hR h a 0 ≠ 0) ∧ X 58 111 L (.ref (hR h a 0) :: st) h Q := X_getR mC_58 dX3_goAside_108 (by decide +kernel)
theorem x58_111 {l0 l2 l3 l4 l5 l6 l7 l8 : Value} {x : Int32} : X 58 111 [l0, .int x, l2, l3, l4, l5, l6, l7, l8] st h Q ↔ X 58 112 [l0, .int x, l2, l3, l4, l5, l6, l7, l8] (.int x :: st) h Q := X_n mC_58 dX3_goAside_111 rfl
theorem x58_112 {l0 l1 l2 l3 l4 l5 l7 l8 : Value} {x : Int32} : X 58 112 [l0, l1, l2, l3, l4, l5, .int x, l7, l8] st h Q ↔ X 58 114 [l0, l1, l2, l3, l4, l5, .int x, l7, l8] (.int x :: st) h Q := X_n mC_58 dX3_goAside_112 rfl
theorem x58_114 {j x : Int32} {a : Nat} : X 58 114 L (.int x :: .int j :: .ref a :: st) h Q ↔ ibw j (hS h a) ∧ X 58 115 L st (sI h a j.toNatClampNeg x) Q := X_iast mC_58 dX3_goAside_114
theorem x58_115 {l0 l1 l2 l3 l4 l5 l6 l8 : Value} {x : Int32} : X 58 115 [l0, l1, l2, l3, l4, l5, l6, .int x, l8] st h Q ↔ X 58 117 [l0, l1, l2, l3, l4, l5, l6, .int x, l8] (.int x :: st) h Q := X_n mC_58 dX3_goAside_115 rfl
theorem x58_117 {l0 l1 l3 l4 l5 l6 l7 l8 : Value} {x : Int32} : X 58 117 [l0, l1, .int x, l3, l4, l5, l6, l7, l8] st h Q ↔ X 58 118 [l0, l1, .int x, l3, l4, l5, l6, l7, l8] (.int x :: st) h Q := X_n mC_58 dX3_goAside_117 rfl
theorem x58_118 {x y : Int32} : X 58 118 L (.int y :: .int x :: st) h Q ↔ X 58 119 L (.int (x + y) :: st) h Q := X_n mC_58 dX3_goAside_118 rfl
theorem x58_119 {l0 l1 l2 l3 l4 l5 l6 l7 l8 : Value} {x : Int32} : X 58 119 [l0, l1, l2, l3, l4, l5, l6, l7, l8] (.int x :: st) h Q ↔ c1 l6 = true ∧ X 58 121 [l0, l1, l2, l3, l4, l5, l6, .int x, l8] st h Q := X_sto (kk := 7) (pc' := 121) (w := .int x) mC_58 dX3_goAside_119 rfl (Nat.le_of_ble_eq_true rfl) rfl
theorem x58_121 {l0 l1 l2 l3 l4 l5 l6 l7 : Value} {x : Int32} : X 58 121 [l0, l1, l2, l3, l4, l5, l6, l7, .int x] st h Q ↔ c1 l7 = true ∧ X 58 124 [l0, l1, l2, l3, l4, l5, l6, l7, .int (x + 1)] st h Q := X_inc (pc' := 124) (x := x) mC_58 dX3_goAside_121 rfl rfl rfl
theorem x58_124 : X 58 124 L st h Q ↔ X 58 30 L st h Q := X_goto mC_58 dX3_goAside_124 (by decide)
theorem x58_127 : X 58 127 L [] h Q ↔ Q none h := X_retV mC_58 dX3_goAside_127 (by decide +kernel)
end XS
