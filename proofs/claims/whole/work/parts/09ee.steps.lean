section XS
variable {L st : List Value} {h : aH} {Q : Option Value → aH → Prop}
theorem x156_25 {x y : Int32} : X 156 25 L (.int y :: .int x :: st) h Q ↔ if y < x then X 156 46 L st h Q else X 156 28 L st h Q := X_igt mC_156 dX8_lawOf_25 (by decide)
theorem x156_28 {l1 l2 l3 : Value} {x : Nat} : X 156 28 [.ref x, l1, l2, l3] st h Q ↔ X 156 29 [.ref x, l1, l2, l3] (.ref x :: st) h Q := X_n mC_156 dX8_lawOf_28 rfl
theorem x156_29 {l0 l1 l2 : Value} {x : Int32} : X 156 29 [l0, l1, l2, .int x] st h Q ↔ X 156 30 [l0, l1, l2, .int x] (.int x :: st) h Q := X_n mC_156 dX8_lawOf_29 rfl
theorem x156_30 {b : Nat} {a0 : Int32} {w0 : Value} : X 156 30 L [.int a0, .ref b, w0] h Q ↔ hS h b = (1, 8) ∧ X 139 0 [.ref b, .int a0, .null] [] h (fun r h' => X 156 33 L (pv r [w0]) h' Q) := X_virt (as := [.int a0]) (n := 1) (ml := 3) (ck := 8) mC_156 dX8_lawOf_30 (by unfold cOk; decide +kernel) ⟨rfl, rfl, by decide, Nat.le_of_ble_eq_true rfl⟩
theorem x156_33 {l1 l2 l3 : Value} {x : Nat} : X 156 33 [.ref x, l1, l2, l3] st h Q ↔ X 156 34 [.ref x, l1, l2, l3] (.ref x :: st) h Q := X_n mC_156 dX8_lawOf_33 rfl
theorem x156_34 {l0 l2 l3 : Value} {x : Int32} : X 156 34 [l0, .int x, l2, l3] st h Q ↔ X 156 35 [l0, .int x, l2, l3] (.int x :: st) h Q := X_n mC_156 dX8_lawOf_34 rfl
theorem x156_35 {b : Nat} {a0 : Int32} {w0 w1 : Value} : X 156 35 L [.int a0, .ref b, w0, w1] h Q ↔ hS h b = (1, 8) ∧ X 139 0 [.ref b, .int a0, .null] [] h (fun r h' => X 156 38 L (pv r [w0, w1]) h' Q) := X_virt (as := [.int a0]) (n := 1) (ml := 3) (ck := 8) mC_156 dX8_lawOf_35 (by unfold cOk; decide +kernel) ⟨rfl, rfl, by decide, Nat.le_of_ble_eq_true rfl⟩
theorem x156_38 {x y : Int32} : X 156 38 L (.int y :: .int x :: st) h Q ↔ if x = y then X 156 41 L st h Q else X 156 50 L st h Q := X_ine mC_156 dX8_lawOf_38 (by decide)
theorem x156_41 {l0 l1 l2 : Value} {x : Int32} : X 156 41 [l0, l1, l2, .int x] st h Q ↔ X 156 42 [l0, l1, l2, .int x] (.int x :: st) h Q := X_n mC_156 dX8_lawOf_41 rfl
theorem x156_42 {l0 l2 l3 : Value} {x : Int32} : X 156 42 [l0, .int x, l2, l3] st h Q ↔ X 156 43 [l0, .int x, l2, l3] (.int x :: st) h Q := X_n mC_156 dX8_lawOf_42 rfl
theorem x156_43 {x y : Int32} : X 156 43 L (.int y :: .int x :: st) h Q ↔ if x < y then X 156 46 L st h Q else X 156 50 L st h Q := X_ige mC_156 dX8_lawOf_43 (by decide)
theorem x156_46 : X 156 46 L st h Q ↔ X 156 47 L (.int 1 :: st) h Q := X_n mC_156 dX8_lawOf_46 rfl
theorem x156_47 : X 156 47 L st h Q ↔ X 156 51 L st h Q := X_goto mC_156 dX8_lawOf_47 (by decide)
theorem x156_50 : X 156 50 L st h Q ↔ X 156 51 L (.int 0 :: st) h Q := X_n mC_156 dX8_lawOf_50 rfl
theorem x156_51 {x y : Int32} : X 156 51 L (.int y :: .int x :: st) h Q ↔ X 156 52 L (.int (x + y) :: st) h Q := X_n mC_156 dX8_lawOf_51 rfl
theorem x156_52 {l0 l1 l2 l3 : Value} {x : Int32} : X 156 52 [l0, l1, l2, l3] (.int x :: st) h Q ↔ c1 l1 = true ∧ X 156 53 [l0, l1, .int x, l3] st h Q := X_sto (kk := 2) (pc' := 53) (w := .int x) mC_156 dX8_lawOf_52 rfl (Nat.le_of_ble_eq_true rfl) rfl
theorem x156_53 {l0 l1 l2 : Value} {x : Int32} : X 156 53 [l0, l1, l2, .int x] st h Q ↔ c1 l2 = true ∧ X 156 56 [l0, l1, l2, .int (x + 1)] st h Q := X_inc (pc' := 56) (x := x) mC_156 dX8_lawOf_53 rfl rfl rfl
theorem x156_56 : X 156 56 L st h Q ↔ X 156 4 L st h Q := X_goto mC_156 dX8_lawOf_56 (by decide)
theorem x156_59 {l0 l1 l3 : Value} {x : Int32} : X 156 59 [l0, l1, .int x, l3] st h Q ↔ X 156 60 [l0, l1, .int x, l3] (.int x :: st) h Q := X_n mC_156 dX8_lawOf_59 rfl
theorem x156_60 : X 156 60 L st h Q ↔ X 156 61 L (.int 2 :: st) h Q := X_n mC_156 dX8_lawOf_60 rfl
theorem x156_61 {x y : Int32} : X 156 61 L (.int y :: .int x :: st) h Q ↔ (¬ y = 0) ∧ X 156 62 L (.int (x - x / y * y) :: st) h Q := X_gd mC_156 dX8_lawOf_61 rfl
theorem x156_62 {x : Int32} : X 156 62 L (.int x :: st) h Q ↔ if x = 0 then X 156 65 L st h Q else X 156 71 L st h Q := X_zne mC_156 dX8_lawOf_62 (by decide)
theorem x156_65 {l0 l1 l3 : Value} {x : Int32} : X 156 65 [l0, l1, .int x, l3] st h Q ↔ X 156 66 [l0, l1, .int x, l3] (.int x :: st) h Q := X_n mC_156 dX8_lawOf_65 rfl
theorem x156_66 : X 156 66 L st h Q ↔ X 156 67 L (.int 2 :: st) h Q := X_n mC_156 dX8_lawOf_66 rfl
theorem x156_67 {x y : Int32} : X 156 67 L (.int y :: .int x :: st) h Q ↔ (¬ y = 0) ∧ X 156 68 L (.int (x / y) :: st) h Q := X_gd mC_156 dX8_lawOf_67 rfl
theorem x156_68 : X 156 68 L st h Q ↔ X 156 83 L st h Q := X_goto mC_156 dX8_lawOf_68 (by decide)
theorem x156_71 {l1 l2 l3 : Value} {x : Nat} : X 156 71 [.ref x, l1, l2, l3] st h Q ↔ X 156 72 [.ref x, l1, l2, l3] (.ref x :: st) h Q := X_n mC_156 dX8_lawOf_71 rfl
theorem x156_72 {a : Nat} : X 156 72 L (.ref a :: st) h Q ↔ (hS h a = (1, 8) ∧ hR h a 2 ≠ 0) ∧ X 156 75 L (.ref (hR h a 2) :: st) h Q := X_getR mC_156 dX8_lawOf_72 (by decide +kernel)
theorem x156_75 : X 156 75 L st h Q ↔ X 156 76 L (.int 1 :: st) h Q := X_n mC_156 dX8_lawOf_75 rfl
theorem x156_76 {j : Int32} {a : Nat} : X 156 76 L (.int j :: .ref a :: st) h Q ↔ ib j (hS h a) ∧ X 156 77 L (.int (hI h a j.toNatClampNeg) :: st) h Q := X_iald mC_156 dX8_lawOf_76
theorem x156_77 : X 156 77 L st h Q ↔ X 156 78 L (.int 1 :: st) h Q := X_n mC_156 dX8_lawOf_77 rfl
theorem x156_78 {x y : Int32} : X 156 78 L (.int y :: .int x :: st) h Q ↔ X 156 79 L (.int (x - y) :: st) h Q := X_n mC_156 dX8_lawOf_78 rfl
theorem x156_79 {l0 l1 l3 : Value} {x : Int32} : X 156 79 [l0, l1, .int x, l3] st h Q ↔ X 156 80 [l0, l1, .int x, l3] (.int x :: st) h Q := X_n mC_156 dX8_lawOf_79 rfl
theorem x156_80 : X 156 80 L st h Q ↔ X 156 81 L (.int 2 :: st) h Q := X_n mC_156 dX8_lawOf_80 rfl
theorem x156_81 {x y : Int32} : X 156 81 L (.int y :: .int x :: st) h Q ↔ (¬ y = 0) ∧ X 156 82 L (.int (x / y) :: st) h Q := X_gd mC_156 dX8_lawOf_81 rfl
theorem x156_82 {x y : Int32} : X 156 82 L (.int y :: .int x :: st) h Q ↔ X 156 83 L (.int (x - y) :: st) h Q := X_n mC_156 dX8_lawOf_82 rfl
theorem x156_83 {v : Int32} : X 156 83 L [.int v] h Q ↔ Q (some (.int v)) h := X_ret mC_156 dX8_lawOf_83 (by decide +kernel)
theorem mC_157 : mC 157 = cX8_law := rfl
theorem x157_0 {l0 l2 l3 : Value} {x : Int32} : X 157 0 [l0, .int x, l2, l3] st h Q ↔ X 157 1 [l0, .int x, l2, l3] (.int x :: st) h Q := X_n mC_157 dX8_law_0 rfl
theorem x157_1 : X 157 1 L st h Q ↔ X 157 2 L (.int (-1) :: st) h Q := X_n mC_157 dX8_law_1 rfl
theorem x157_2 {x y : Int32} : X 157 2 L (.int y :: .int x :: st) h Q ↔ if x = y then X 157 15 L st h Q else X 157 5 L st h Q := X_ieq mC_157 dX8_law_2 (by decide)
theorem x157_5 {l1 l2 l3 : Value} {x : Nat} : X 157 5 [.ref x, l1, l2, l3] st h Q ↔ X 157 6 [.ref x, l1, l2, l3] (.ref x :: st) h Q := X_n mC_157 dX8_law_5 rfl
theorem x157_6 {l0 l2 l3 : Value} {x : Int32} : X 157 6 [l0, .int x, l2, l3] st h Q ↔ X 157 7 [l0, .int x, l2, l3] (.int x :: st) h Q := X_n mC_157 dX8_law_6 rfl
theorem x157_7 {b : Nat} {a0 : Int32} : X 157 7 L [.int a0, .ref b] h Q ↔ hS h b = (1, 8) ∧ X 121 0 [.ref b, .int a0] [] h (fun r h' => X 157 10 L (pv r []) h' Q) := X_virt (as := [.int a0]) (n := 1) (ml := 2) (ck := 8) mC_157 dX8_law_7 (by unfold cOk; decide +kernel) ⟨rfl, rfl, by decide, Nat.le_of_ble_eq_true rfl⟩
theorem x157_10 {x : Int32} : X 157 10 L (.int x :: st) h Q ↔ if x = 0 then X 157 13 L st h Q else X 157 15 L st h Q := X_zne mC_157 dX8_law_10 (by decide)
theorem x157_13 : X 157 13 L st h Q ↔ X 157 14 L (.int (-1) :: st) h Q := X_n mC_157 dX8_law_13 rfl
theorem x157_14 {v : Int32} : X 157 14 L [.int v] h Q ↔ Q (some (.int v)) h := X_ret mC_157 dX8_law_14 (by decide +kernel)
theorem x157_15 {l1 l2 l3 : Value} {x : Nat} : X 157 15 [.ref x, l1, l2, l3] st h Q ↔ X 157 16 [.ref x, l1, l2, l3] (.ref x :: st) h Q := X_n mC_157 dX8_law_15 rfl
theorem x157_16 {b : Nat} : X 157 16 L [.ref b] h Q ↔ hS h b = (1, 8) ∧ X 138 0 [.ref b, .null] [] h (fun r h' => X 157 19 L (pv r []) h' Q) := X_virt (as := []) (n := 0) (ml := 2) (ck := 8) mC_157 dX8_law_16 (by unfold cOk; decide +kernel) ⟨rfl, rfl, by decide, Nat.le_of_ble_eq_true rfl⟩
theorem x157_19 {l0 l2 l3 : Value} {x : Int32} : X 157 19 [l0, .int x, l2, l3] st h Q ↔ X 157 20 [l0, .int x, l2, l3] (.int x :: st) h Q := X_n mC_157 dX8_law_19 rfl
theorem x157_20 {x : Int32} : X 157 20 L (.int x :: st) h Q ↔ if x < 0 then X 157 29 L st h Q else X 157 23 L st h Q := X_zlt mC_157 dX8_law_20 (by decide)
theorem x157_23 {l1 l2 l3 : Value} {x : Nat} : X 157 23 [.ref x, l1, l2, l3] st h Q ↔ X 157 24 [.ref x, l1, l2, l3] (.ref x :: st) h Q := X_n mC_157 dX8_law_23 rfl
theorem x157_24 {l0 l2 l3 : Value} {x : Int32} : X 157 24 [l0, .int x, l2, l3] st h Q ↔ X 157 25 [l0, .int x, l2, l3] (.int x :: st) h Q := X_n mC_157 dX8_law_24 rfl
theorem x157_25 {b : Nat} {a0 : Int32} : X 157 25 L [.int a0, .ref b] h Q ↔ hS h b = (1, 8) ∧ X 156 0 [.ref b, .int a0, .null, .null] [] h (fun r h' => X 157 28 L (pv r []) h' Q) := X_virt (as := [.int a0]) (n := 1) (ml := 4) (ck := 8) mC_157 dX8_law_25 (by unfold cOk; decide +kernel) ⟨rfl, rfl, by decide, Nat.le_of_ble_eq_true rfl⟩
theorem x157_28 {v : Int32} : X 157 28 L [.int v] h Q ↔ Q (some (.int v)) h := X_ret mC_157 dX8_law_28 (by decide +kernel)
theorem x157_29 : X 157 29 L st h Q ↔ X 157 30 L (.int 1 :: st) h Q := X_n mC_157 dX8_law_29 rfl
theorem x157_30 {l0 l1 l2 l3 : Value} {x : Int32} : X 157 30 [l0, l1, l2, l3] (.int x :: st) h Q ↔ c1 l1 = true ∧ X 157 31 [l0, l1, .int x, l3] st h Q := X_sto (kk := 2) (pc' := 31) (w := .int x) mC_157 dX8_law_30 rfl (Nat.le_of_ble_eq_true rfl) rfl
theorem x157_31 : X 157 31 L st h Q ↔ X 157 32 L (.int 0 :: st) h Q := X_n mC_157 dX8_law_31 rfl
theorem x157_32 {l0 l1 l2 l3 : Value} {x : Int32} : X 157 32 [l0, l1, l2, l3] (.int x :: st) h Q ↔ c1 l2 = true ∧ X 157 33 [l0, l1, l2, .int x] st h Q := X_sto (kk := 3) (pc' := 33) (w := .int x) mC_157 dX8_law_32 rfl (Nat.le_of_ble_eq_true rfl) rfl
theorem x157_33 {l0 l1 l2 : Value} {x : Int32} : X 157 33 [l0, l1, l2, .int x] st h Q ↔ X 157 34 [l0, l1, l2, .int x] (.int x :: st) h Q := X_n mC_157 dX8_law_33 rfl
theorem x157_34 {l1 l2 l3 : Value} {x : Nat} : X 157 34 [.ref x, l1, l2, l3] st h Q ↔ X 157 35 [.ref x, l1, l2, l3] (.ref x :: st) h Q := X_n mC_157 dX8_law_34 rfl
theorem x157_35 {a : Nat} : X 157 35 L (.ref a :: st) h Q ↔ (hS h a = (1, 8) ∧ hR h a 2 ≠ 0) ∧ X 157 38 L (.ref (hR h a 2) :: st) h Q := X_getR mC_157 dX8_law_35 (by decide +kernel)
theorem x157_38 : X 157 38 L st h Q ↔ X 157 39 L (.int 0 :: st) h Q := X_n mC_157 dX8_law_38 rfl
theorem x157_39 {j : Int32} {a : Nat} : X 157 39 L (.int j :: .ref a :: st) h Q ↔ ib j (hS h a) ∧ X 157 40 L (.int (hI h a j.toNatClampNeg) :: st) h Q := X_iald mC_157 dX8_law_39
theorem x157_40 {x y : Int32} : X 157 40 L (.int y :: .int x :: st) h Q ↔ if x < y then X 157 43 L st h Q else X 157 73 L st h Q := X_ige mC_157 dX8_law_40 (by decide)
theorem x157_43 {l0 l1 l3 : Value} {x : Int32} : X 157 43 [l0, l1, .int x, l3] st h Q ↔ X 157 44 [l0, l1, .int x, l3] (.int x :: st) h Q := X_n mC_157 dX8_law_43 rfl
theorem x157_44 {x : Int32} : X 157 44 L (.int x :: st) h Q ↔ if x = 0 then X 157 65 L st h Q else X 157 47 L st h Q := X_zeq mC_157 dX8_law_44 (by decide)
theorem x157_47 {l1 l2 l3 : Value} {x : Nat} : X 157 47 [.ref x, l1, l2, l3] st h Q ↔ X 157 48 [.ref x, l1, l2, l3] (.ref x :: st) h Q := X_n mC_157 dX8_law_47 rfl
theorem x157_48 {l0 l1 l2 : Value} {x : Int32} : X 157 48 [l0, l1, l2, .int x] st h Q ↔ X 157 49 [l0, l1, l2, .int x] (.int x :: st) h Q := X_n mC_157 dX8_law_48 rfl
theorem x157_49 {b : Nat} {a0 : Int32} : X 157 49 L [.int a0, .ref b] h Q ↔ hS h b = (1, 8) ∧ X 156 0 [.ref b, .int a0, .null, .null] [] h (fun r h' => X 157 52 L (pv r []) h' Q) := X_virt (as := [.int a0]) (n := 1) (ml := 4) (ck := 8) mC_157 dX8_law_49 (by unfold cOk; decide +kernel) ⟨rfl, rfl, by decide, Nat.le_of_ble_eq_true rfl⟩
theorem x157_52 {l1 l2 l3 : Value} {x : Nat} : X 157 52 [.ref x, l1, l2, l3] st h Q ↔ X 157 53 [.ref x, l1, l2, l3] (.ref x :: st) h Q := X_n mC_157 dX8_law_52 rfl
theorem x157_53 {a : Nat} : X 157 53 L (.ref a :: st) h Q ↔ (hS h a = (1, 8) ∧ hR h a 4 ≠ 0) ∧ X 157 56 L (.ref (hR h a 4) :: st) h Q := X_getR mC_157 dX8_law_53 (by decide +kernel)
theorem x157_56 {l0 l1 l2 : Value} {x : Int32} : X 157 56 [l0, l1, l2, .int x] st h Q ↔ X 157 57 [l0, l1, l2, .int x] (.int x :: st) h Q := X_n mC_157 dX8_law_56 rfl
theorem x157_57 {j : Int32} {a : Nat} : X 157 57 L (.int j :: .ref a :: st) h Q ↔ ib j (hS h a) ∧ X 157 58 L (.int (hI h a j.toNatClampNeg) :: st) h Q := X_iald mC_157 dX8_law_57
theorem x157_58 {x y : Int32} : X 157 58 L (.int y :: .int x :: st) h Q ↔ if x = y then X 157 61 L st h Q else X 157 65 L st h Q := X_ine mC_157 dX8_law_58 (by decide)
theorem x157_61 : X 157 61 L st h Q ↔ X 157 62 L (.int 1 :: st) h Q := X_n mC_157 dX8_law_61 rfl
theorem x157_62 : X 157 62 L st h Q ↔ X 157 66 L st h Q := X_goto mC_157 dX8_law_62 (by decide)
theorem x157_65 : X 157 65 L st h Q ↔ X 157 66 L (.int 0 :: st) h Q := X_n mC_157 dX8_law_65 rfl
theorem x157_66 {l0 l1 l2 l3 : Value} {x : Int32} : X 157 66 [l0, l1, l2, l3] (.int x :: st) h Q ↔ c1 l1 = true ∧ X 157 67 [l0, l1, .int x, l3] st h Q := X_sto (kk := 2) (pc' := 67) (w := .int x) mC_157 dX8_law_66 rfl (Nat.le_of_ble_eq_true rfl) rfl
theorem x157_67 {l0 l1 l2 : Value} {x : Int32} : X 157 67 [l0, l1, l2, .int x] st h Q ↔ c1 l2 = true ∧ X 157 70 [l0, l1, l2, .int (x + 1)] st h Q := X_inc (pc' := 70) (x := x) mC_157 dX8_law_67 rfl rfl rfl
theorem x157_70 : X 157 70 L st h Q ↔ X 157 33 L st h Q := X_goto mC_157 dX8_law_70 (by decide)
theorem x157_73 {l0 l1 l3 : Value} {x : Int32} : X 157 73 [l0, l1, .int x, l3] st h Q ↔ X 157 74 [l0, l1, .int x, l3] (.int x :: st) h Q := X_n mC_157 dX8_law_73 rfl
theorem x157_74 {x : Int32} : X 157 74 L (.int x :: st) h Q ↔ if x = 0 then X 157 81 L st h Q else X 157 77 L st h Q := X_zeq mC_157 dX8_law_74 (by decide)
theorem x157_77 : X 157 77 L st h Q ↔ X 157 78 L (.int 1 :: st) h Q := X_n mC_157 dX8_law_77 rfl
theorem x157_78 : X 157 78 L st h Q ↔ X 157 82 L st h Q := X_goto mC_157 dX8_law_78 (by decide)
theorem x157_81 : X 157 81 L st h Q ↔ X 157 82 L (.int 0 :: st) h Q := X_n mC_157 dX8_law_81 rfl
theorem x157_82 {v : Int32} : X 157 82 L [.int v] h Q ↔ Q (some (.int v)) h := X_ret mC_157 dX8_law_82 (by decide +kernel)
theorem mC_158 : mC 158 = cX8_codeOf := rfl
theorem x158_0 : X 158 0 L st h Q ↔ X 158 1 L (.int 0 :: st) h Q := X_n mC_158 dX8_codeOf_0 rfl
theorem x158_1 {l0 l1 l2 : Value} {x : Int32} : X 158 1 [l0, l1, l2] (.int x :: st) h Q ↔ c1 l0 = true ∧ X 158 2 [l0, .int x, l2] st h Q := X_sto (kk := 1) (pc' := 2) (w := .int x) mC_158 dX8_codeOf_1 rfl (Nat.le_of_ble_eq_true rfl) rfl
theorem x158_2 : X 158 2 L st h Q ↔ X 158 3 L (.int 0 :: st) h Q := X_n mC_158 dX8_codeOf_2 rfl
theorem x158_3 {l0 l1 l2 : Value} {x : Int32} : X 158 3 [l0, l1, l2] (.int x :: st) h Q ↔ c1 l1 = true ∧ X 158 4 [l0, l1, .int x] st h Q := X_sto (kk := 2) (pc' := 4) (w := .int x) mC_158 dX8_codeOf_3 rfl (Nat.le_of_ble_eq_true rfl) rfl
theorem x158_4 {l0 l1 : Value} {x : Int32} : X 158 4 [l0, l1, .int x] st h Q ↔ X 158 5 [l0, l1, .int x] (.int x :: st) h Q := X_n mC_158 dX8_codeOf_4 rfl
theorem x158_5 {l1 l2 : Value} {x : Nat} : X 158 5 [.ref x, l1, l2] st h Q ↔ X 158 6 [.ref x, l1, l2] (.ref x :: st) h Q := X_n mC_158 dX8_codeOf_5 rfl
theorem x158_6 {a : Nat} : X 158 6 L (.ref a :: st) h Q ↔ (hS h a = (1, 8) ∧ hR h a 2 ≠ 0) ∧ X 158 9 L (.ref (hR h a 2) :: st) h Q := X_getR mC_158 dX8_codeOf_6 (by decide +kernel)
theorem x158_9 : X 158 9 L st h Q ↔ X 158 10 L (.int 0 :: st) h Q := X_n mC_158 dX8_codeOf_9 rfl
theorem x158_10 {j : Int32} {a : Nat} : X 158 10 L (.int j :: .ref a :: st) h Q ↔ ib j (hS h a) ∧ X 158 11 L (.int (hI h a j.toNatClampNeg) :: st) h Q := X_iald mC_158 dX8_codeOf_10
theorem x158_11 {x y : Int32} : X 158 11 L (.int y :: .int x :: st) h Q ↔ if x < y then X 158 14 L st h Q else X 158 32 L st h Q := X_ige mC_158 dX8_codeOf_11 (by decide)
theorem x158_14 : X 158 14 L st h Q ↔ X 158 16 L (.int 6 :: st) h Q := X_n mC_158 dX8_codeOf_14 rfl
theorem x158_16 {l0 l2 : Value} {x : Int32} : X 158 16 [l0, .int x, l2] st h Q ↔ X 158 17 [l0, .int x, l2] (.int x :: st) h Q := X_n mC_158 dX8_codeOf_16 rfl
theorem x158_17 {x y : Int32} : X 158 17 L (.int y :: .int x :: st) h Q ↔ X 158 18 L (.int (x * y) :: st) h Q := X_n mC_158 dX8_codeOf_17 rfl
theorem x158_18 {l1 l2 : Value} {x : Nat} : X 158 18 [.ref x, l1, l2] st h Q ↔ X 158 19 [.ref x, l1, l2] (.ref x :: st) h Q := X_n mC_158 dX8_codeOf_18 rfl
theorem x158_19 {a : Nat} : X 158 19 L (.ref a :: st) h Q ↔ (hS h a = (1, 8) ∧ hR h a 12 ≠ 0) ∧ X 158 22 L (.ref (hR h a 12) :: st) h Q := X_getR mC_158 dX8_codeOf_19 (by decide +kernel)
theorem x158_22 {l0 l1 : Value} {x : Int32} : X 158 22 [l0, l1, .int x] st h Q ↔ X 158 23 [l0, l1, .int x] (.int x :: st) h Q := X_n mC_158 dX8_codeOf_22 rfl
theorem x158_23 {j : Int32} {a : Nat} : X 158 23 L (.int j :: .ref a :: st) h Q ↔ ib j (hS h a) ∧ X 158 24 L (.int (hI h a j.toNatClampNeg) :: st) h Q := X_iald mC_158 dX8_codeOf_23
theorem x158_24 {x y : Int32} : X 158 24 L (.int y :: .int x :: st) h Q ↔ X 158 25 L (.int (x + y) :: st) h Q := X_n mC_158 dX8_codeOf_24 rfl
theorem x158_25 {l0 l1 l2 : Value} {x : Int32} : X 158 25 [l0, l1, l2] (.int x :: st) h Q ↔ c1 l0 = true ∧ X 158 26 [l0, .int x, l2] st h Q := X_sto (kk := 1) (pc' := 26) (w := .int x) mC_158 dX8_codeOf_25 rfl (Nat.le_of_ble_eq_true rfl) rfl
theorem x158_26 {l0 l1 : Value} {x : Int32} : X 158 26 [l0, l1, .int x] st h Q ↔ c1 l1 = true ∧ X 158 29 [l0, l1, .int (x + 1)] st h Q := X_inc (pc' := 29) (x := x) mC_158 dX8_codeOf_26 rfl rfl rfl
theorem x158_29 : X 158 29 L st h Q ↔ X 158 4 L st h Q := X_goto mC_158 dX8_codeOf_29 (by decide)
theorem x158_32 {l0 l2 : Value} {x : Int32} : X 158 32 [l0, .int x, l2] st h Q ↔ X 158 33 [l0, .int x, l2] (.int x :: st) h Q := X_n mC_158 dX8_codeOf_32 rfl
theorem x158_33 {v : Int32} : X 158 33 L [.int v] h Q ↔ Q (some (.int v)) h := X_ret mC_158 dX8_codeOf_33 (by decide +kernel)
theorem mC_159 : mC 159 = cX8_lieBy := rfl
theorem x159_0 {l0 l2 l3 l4 : Value} {x : Int32} : X 159 0 [l0, .int x, l2, l3, l4] st h Q ↔ X 159 1 [l0, .int x, l2, l3, l4] (.int x :: st) h Q := X_n mC_159 dX8_lieBy_0 rfl
theorem x159_1 {l0 l1 l2 l3 l4 : Value} {x : Int32} : X 159 1 [l0, l1, l2, l3, l4] (.int x :: st) h Q ↔ c1 l1 = true ∧ X 159 2 [l0, l1, .int x, l3, l4] st h Q := X_sto (kk := 2) (pc' := 2) (w := .int x) mC_159 dX8_lieBy_1 rfl (Nat.le_of_ble_eq_true rfl) rfl
theorem x159_2 : X 159 2 L st h Q ↔ X 159 3 L (.int 0 :: st) h Q := X_n mC_159 dX8_lieBy_2 rfl
theorem x159_3 {l0 l1 l2 l3 l4 : Value} {x : Int32} : X 159 3 [l0, l1, l2, l3, l4] (.int x :: st) h Q ↔ c1 l2 = true ∧ X 159 4 [l0, l1, l2, .int x, l4] st h Q := X_sto (kk := 3) (pc' := 4) (w := .int x) mC_159 dX8_lieBy_3 rfl (Nat.le_of_ble_eq_true rfl) rfl
theorem x159_4 {l1 l2 l3 l4 : Value} {x : Nat} : X 159 4 [.ref x, l1, l2, l3, l4] st h Q ↔ X 159 5 [.ref x, l1, l2, l3, l4] (.ref x :: st) h Q := X_n mC_159 dX8_lieBy_4 rfl
theorem x159_5 {a : Nat} : X 159 5 L (.ref a :: st) h Q ↔ (hS h a = (1, 8) ∧ hR h a 2 ≠ 0) ∧ X 159 8 L (.ref (hR h a 2) :: st) h Q := X_getR mC_159 dX8_lieBy_5 (by decide +kernel)
theorem x159_8 : X 159 8 L st h Q ↔ X 159 9 L (.int 0 :: st) h Q := X_n mC_159 dX8_lieBy_8 rfl
theorem x159_9 {j : Int32} {a : Nat} : X 159 9 L (.int j :: .ref a :: st) h Q ↔ ib j (hS h a) ∧ X 159 10 L (.int (hI h a j.toNatClampNeg) :: st) h Q := X_iald mC_159 dX8_lieBy_9
theorem x159_10 : X 159 10 L st h Q ↔ X 159 11 L (.int 1 :: st) h Q := X_n mC_159 dX8_lieBy_10 rfl
theorem x159_11 {x y : Int32} : X 159 11 L (.int y :: .int x :: st) h Q ↔ X 159 12 L (.int (x - y) :: st) h Q := X_n mC_159 dX8_lieBy_11 rfl
theorem x159_12 {l0 l1 l2 l3 l4 : Value} {x : Int32} : X 159 12 [l0, l1, l2, l3, l4] (.int x :: st) h Q ↔ c1 l3 = true ∧ X 159 14 [l0, l1, l2, l3, .int x] st h Q := X_sto (kk := 4) (pc' := 14) (w := .int x) mC_159 dX8_lieBy_12 rfl (Nat.le_of_ble_eq_true rfl) rfl
theorem x159_14 {l0 l1 l2 l3 : Value} {x : Int32} : X 159 14 [l0, l1, l2, l3, .int x] st h Q ↔ X 159 16 [l0, l1, l2, l3, .int x] (.int x :: st) h Q := X_n mC_159 dX8_lieBy_14 rfl
theorem x159_16 {x : Int32} : X 159 16 L (.int x :: st) h Q ↔ if x < 0 then X 159 50 L st h Q else X 159 19 L st h Q := X_zlt mC_159 dX8_lieBy_16 (by decide)
theorem x159_19 {l1 l2 l3 l4 : Value} {x : Nat} : X 159 19 [.ref x, l1, l2, l3, l4] st h Q ↔ X 159 20 [.ref x, l1, l2, l3, l4] (.ref x :: st) h Q := X_n mC_159 dX8_lieBy_19 rfl
theorem x159_20 {a : Nat} : X 159 20 L (.ref a :: st) h Q ↔ (hS h a = (1, 8) ∧ hR h a 12 ≠ 0) ∧ X 159 23 L (.ref (hR h a 12) :: st) h Q := X_getR mC_159 dX8_lieBy_20 (by decide +kernel)
theorem x159_23 {l0 l1 l2 l3 : Value} {x : Int32} : X 159 23 [l0, l1, l2, l3, .int x] st h Q ↔ X 159 25 [l0, l1, l2, l3, .int x] (.int x :: st) h Q := X_n mC_159 dX8_lieBy_23 rfl
theorem x159_25 {l0 l1 l3 l4 : Value} {x : Int32} : X 159 25 [l0, l1, .int x, l3, l4] st h Q ↔ X 159 26 [l0, l1, .int x, l3, l4] (.int x :: st) h Q := X_n mC_159 dX8_lieBy_25 rfl
theorem x159_26 : X 159 26 L st h Q ↔ X 159 28 L (.int 6 :: st) h Q := X_n mC_159 dX8_lieBy_26 rfl
theorem x159_28 {x y : Int32} : X 159 28 L (.int y :: .int x :: st) h Q ↔ (¬ y = 0) ∧ X 159 29 L (.int (x - x / y * y) :: st) h Q := X_gd mC_159 dX8_lieBy_28 rfl
theorem x159_29 {j x : Int32} {a : Nat} : X 159 29 L (.int x :: .int j :: .ref a :: st) h Q ↔ ibw j (hS h a) ∧ X 159 30 L st (sI h a j.toNatClampNeg x) Q := X_iast mC_159 dX8_lieBy_29
theorem x159_30 {l0 l1 l2 l4 : Value} {x : Int32} : X 159 30 [l0, l1, l2, .int x, l4] st h Q ↔ X 159 31 [l0, l1, l2, .int x, l4] (.int x :: st) h Q := X_n mC_159 dX8_lieBy_30 rfl
theorem x159_31 : X 159 31 L st h Q ↔ X 159 32 L (.int 1 :: st) h Q := X_n mC_159 dX8_lieBy_31 rfl
theorem x159_32 {l0 l1 l3 l4 : Value} {x : Int32} : X 159 32 [l0, l1, .int x, l3, l4] st h Q ↔ X 159 33 [l0, l1, .int x, l3, l4] (.int x :: st) h Q := X_n mC_159 dX8_lieBy_32 rfl
theorem x159_33 : X 159 33 L st h Q ↔ X 159 35 L (.int 6 :: st) h Q := X_n mC_159 dX8_lieBy_33 rfl
theorem x159_35 {x y : Int32} : X 159 35 L (.int y :: .int x :: st) h Q ↔ (¬ y = 0) ∧ X 159 36 L (.int (x - x / y * y) :: st) h Q := X_gd mC_159 dX8_lieBy_35 rfl
theorem x159_36 {x y : Int32} : X 159 36 L (.int y :: .int x :: st) h Q ↔ X 159 37 L (.int (x <<< (y &&& 31)) :: st) h Q := X_n mC_159 dX8_lieBy_36 rfl
theorem x159_37 {x y : Int32} : X 159 37 L (.int y :: .int x :: st) h Q ↔ X 159 38 L (.int (x ||| y) :: st) h Q := X_n mC_159 dX8_lieBy_37 rfl
theorem x159_38 {l0 l1 l2 l3 l4 : Value} {x : Int32} : X 159 38 [l0, l1, l2, l3, l4] (.int x :: st) h Q ↔ c1 l2 = true ∧ X 159 39 [l0, l1, l2, .int x, l4] st h Q := X_sto (kk := 3) (pc' := 39) (w := .int x) mC_159 dX8_lieBy_38 rfl (Nat.le_of_ble_eq_true rfl) rfl
theorem x159_39 {l0 l1 l3 l4 : Value} {x : Int32} : X 159 39 [l0, l1, .int x, l3, l4] st h Q ↔ X 159 40 [l0, l1, .int x, l3, l4] (.int x :: st) h Q := X_n mC_159 dX8_lieBy_39 rfl
theorem x159_40 : X 159 40 L st h Q ↔ X 159 42 L (.int 6 :: st) h Q := X_n mC_159 dX8_lieBy_40 rfl
theorem x159_42 {x y : Int32} : X 159 42 L (.int y :: .int x :: st) h Q ↔ (¬ y = 0) ∧ X 159 43 L (.int (x / y) :: st) h Q := X_gd mC_159 dX8_lieBy_42 rfl
theorem x159_43 {l0 l1 l2 l3 l4 : Value} {x : Int32} : X 159 43 [l0, l1, l2, l3, l4] (.int x :: st) h Q ↔ c1 l1 = true ∧ X 159 44 [l0, l1, .int x, l3, l4] st h Q := X_sto (kk := 2) (pc' := 44) (w := .int x) mC_159 dX8_lieBy_43 rfl (Nat.le_of_ble_eq_true rfl) rfl
theorem x159_44 {l0 l1 l2 l3 : Value} {x : Int32} : X 159 44 [l0, l1, l2, l3, .int x] st h Q ↔ c1 l3 = true ∧ X 159 47 [l0, l1, l2, l3, .int (x + (-1))] st h Q := X_inc (pc' := 47) (x := x) mC_159 dX8_lieBy_44 rfl rfl rfl
theorem x159_47 : X 159 47 L st h Q ↔ X 159 14 L st h Q := X_goto mC_159 dX8_lieBy_47 (by decide)
theorem x159_50 {l0 l1 l2 l4 : Value} {x : Int32} : X 159 50 [l0, l1, l2, .int x, l4] st h Q ↔ X 159 51 [l0, l1, l2, .int x, l4] (.int x :: st) h Q := X_n mC_159 dX8_lieBy_50 rfl
theorem x159_51 {a0 : Int32} : X 159 51 L [.int a0] h Q ↔ X 124 0 [.int a0, .null, .null] [] h (fun r h' => X 159 54 L (pv r []) h' Q) := X_stat (as := [.int a0]) (n := 1) (ml := 3) (ck := 8) mC_159 dX8_lieBy_51 (by unfold cOk; decide +kernel) ⟨rfl, rfl, by decide, Nat.le_of_ble_eq_true rfl⟩
theorem x159_54 {l1 l2 l3 l4 : Value} {x : Nat} : X 159 54 [.ref x, l1, l2, l3, l4] st h Q ↔ X 159 55 [.ref x, l1, l2, l3, l4] (.ref x :: st) h Q := X_n mC_159 dX8_lieBy_54 rfl
theorem x159_55 {a : Nat} : X 159 55 L (.ref a :: st) h Q ↔ (hS h a = (1, 8) ∧ hR h a 2 ≠ 0) ∧ X 159 58 L (.ref (hR h a 2) :: st) h Q := X_getR mC_159 dX8_lieBy_55 (by decide +kernel)
theorem x159_58 : X 159 58 L st h Q ↔ X 159 59 L (.int 0 :: st) h Q := X_n mC_159 dX8_lieBy_58 rfl
theorem x159_59 {j : Int32} {a : Nat} : X 159 59 L (.int j :: .ref a :: st) h Q ↔ ib j (hS h a) ∧ X 159 60 L (.int (hI h a j.toNatClampNeg) :: st) h Q := X_iald mC_159 dX8_lieBy_59
theorem x159_60 {x y : Int32} : X 159 60 L (.int y :: .int x :: st) h Q ↔ if x = y then X 159 63 L st h Q else X 159 79 L st h Q := X_ine mC_159 dX8_lieBy_60 (by decide)
theorem x159_63 {l0 l1 l2 l4 : Value} {x : Int32} : X 159 63 [l0, l1, l2, .int x, l4] st h Q ↔ X 159 64 [l0, l1, l2, .int x, l4] (.int x :: st) h Q := X_n mC_159 dX8_lieBy_63 rfl
theorem x159_64 : X 159 64 L st h Q ↔ X 159 65 L (.int 1 :: st) h Q := X_n mC_159 dX8_lieBy_64 rfl
theorem x159_65 {l1 l2 l3 l4 : Value} {x : Nat} : X 159 65 [.ref x, l1, l2, l3, l4] st h Q ↔ X 159 66 [.ref x, l1, l2, l3, l4] (.ref x :: st) h Q := X_n mC_159 dX8_lieBy_65 rfl
theorem x159_66 {a : Nat} : X 159 66 L (.ref a :: st) h Q ↔ (hS h a = (1, 8) ∧ hR h a 2 ≠ 0) ∧ X 159 69 L (.ref (hR h a 2) :: st) h Q := X_getR mC_159 dX8_lieBy_66 (by decide +kernel)
theorem x159_69 : X 159 69 L st h Q ↔ X 159 70 L (.int 1 :: st) h Q := X_n mC_159 dX8_lieBy_69 rfl
theorem x159_70 {j : Int32} {a : Nat} : X 159 70 L (.int j :: .ref a :: st) h Q ↔ ib j (hS h a) ∧ X 159 71 L (.int (hI h a j.toNatClampNeg) :: st) h Q := X_iald mC_159 dX8_lieBy_70
theorem x159_71 {x y : Int32} : X 159 71 L (.int y :: .int x :: st) h Q ↔ X 159 72 L (.int (x <<< (y &&& 31)) :: st) h Q := X_n mC_159 dX8_lieBy_71 rfl
theorem x159_72 {x y : Int32} : X 159 72 L (.int y :: .int x :: st) h Q ↔ if x < y then X 159 75 L st h Q else X 159 79 L st h Q := X_ige mC_159 dX8_lieBy_72 (by decide)
theorem x159_75 : X 159 75 L st h Q ↔ X 159 76 L (.int 1 :: st) h Q := X_n mC_159 dX8_lieBy_75 rfl
theorem x159_76 : X 159 76 L st h Q ↔ X 159 80 L st h Q := X_goto mC_159 dX8_lieBy_76 (by decide)
theorem x159_79 : X 159 79 L st h Q ↔ X 159 80 L (.int 0 :: st) h Q := X_n mC_159 dX8_lieBy_79 rfl
theorem x159_80 {v : Int32} : X 159 80 L [.int v] h Q ↔ (v = 0 ∨ v = 1) ∧ Q (some (.int v)) h := X_retZ mC_159 dX8_lieBy_80 (by decide +kernel)
theorem mC_160 : mC 160 = cX8_codes := rfl
theorem x160_0 : X 160 0 L st h Q ↔ X 160 1 L (.int 1 :: st) h Q := X_n mC_160 dX8_codes_0 rfl
theorem x160_1 {l0 l1 l2 : Value} {x : Int32} : X 160 1 [l0, l1, l2] (.int x :: st) h Q ↔ c1 l0 = true ∧ X 160 2 [l0, .int x, l2] st h Q := X_sto (kk := 1) (pc' := 2) (w := .int x) mC_160 dX8_codes_1 rfl (Nat.le_of_ble_eq_true rfl) rfl
theorem x160_2 : X 160 2 L st h Q ↔ X 160 3 L (.int 0 :: st) h Q := X_n mC_160 dX8_codes_2 rfl
theorem x160_3 {l0 l1 l2 : Value} {x : Int32} : X 160 3 [l0, l1, l2] (.int x :: st) h Q ↔ c1 l1 = true ∧ X 160 4 [l0, l1, .int x] st h Q := X_sto (kk := 2) (pc' := 4) (w := .int x) mC_160 dX8_codes_3 rfl (Nat.le_of_ble_eq_true rfl) rfl
theorem x160_4 {l0 l1 : Value} {x : Int32} : X 160 4 [l0, l1, .int x] st h Q ↔ X 160 5 [l0, l1, .int x] (.int x :: st) h Q := X_n mC_160 dX8_codes_4 rfl
theorem x160_5 {l1 l2 : Value} {x : Nat} : X 160 5 [.ref x, l1, l2] st h Q ↔ X 160 6 [.ref x, l1, l2] (.ref x :: st) h Q := X_n mC_160 dX8_codes_5 rfl
theorem x160_6 {a : Nat} : X 160 6 L (.ref a :: st) h Q ↔ (hS h a = (1, 8) ∧ hR h a 2 ≠ 0) ∧ X 160 9 L (.ref (hR h a 2) :: st) h Q := X_getR mC_160 dX8_codes_6 (by decide +kernel)
theorem x160_9 : X 160 9 L st h Q ↔ X 160 10 L (.int 0 :: st) h Q := X_n mC_160 dX8_codes_9 rfl
theorem x160_10 {j : Int32} {a : Nat} : X 160 10 L (.int j :: .ref a :: st) h Q ↔ ib j (hS h a) ∧ X 160 11 L (.int (hI h a j.toNatClampNeg) :: st) h Q := X_iald mC_160 dX8_codes_10
theorem x160_11 {x y : Int32} : X 160 11 L (.int y :: .int x :: st) h Q ↔ if x < y then X 160 14 L st h Q else X 160 25 L st h Q := X_ige mC_160 dX8_codes_11 (by decide)
theorem x160_14 {l0 l2 : Value} {x : Int32} : X 160 14 [l0, .int x, l2] st h Q ↔ X 160 15 [l0, .int x, l2] (.int x :: st) h Q := X_n mC_160 dX8_codes_14 rfl
theorem x160_15 : X 160 15 L st h Q ↔ X 160 17 L (.int 6 :: st) h Q := X_n mC_160 dX8_codes_15 rfl
theorem x160_17 {x y : Int32} : X 160 17 L (.int y :: .int x :: st) h Q ↔ X 160 18 L (.int (x * y) :: st) h Q := X_n mC_160 dX8_codes_17 rfl
theorem x160_18 {l0 l1 l2 : Value} {x : Int32} : X 160 18 [l0, l1, l2] (.int x :: st) h Q ↔ c1 l0 = true ∧ X 160 19 [l0, .int x, l2] st h Q := X_sto (kk := 1) (pc' := 19) (w := .int x) mC_160 dX8_codes_18 rfl (Nat.le_of_ble_eq_true rfl) rfl
theorem x160_19 {l0 l1 : Value} {x : Int32} : X 160 19 [l0, l1, .int x] st h Q ↔ c1 l1 = true ∧ X 160 22 [l0, l1, .int (x + 1)] st h Q := X_inc (pc' := 22) (x := x) mC_160 dX8_codes_19 rfl rfl rfl
theorem x160_22 : X 160 22 L st h Q ↔ X 160 4 L st h Q := X_goto mC_160 dX8_codes_22 (by decide)
theorem x160_25 {l0 l2 : Value} {x : Int32} : X 160 25 [l0, .int x, l2] st h Q ↔ X 160 26 [l0, .int x, l2] (.int x :: st) h Q := X_n mC_160 dX8_codes_25 rfl
theorem x160_26 {v : Int32} : X 160 26 L [.int v] h Q ↔ Q (some (.int v)) h := X_ret mC_160 dX8_codes_26 (by decide +kernel)
theorem mC_161 : mC 161 = cX8_mayCarry := rfl
theorem x161_0 : X 161 0 L st h Q ↔ X 161 1 L (.int 1 :: st) h Q := X_n mC_161 dX8_mayCarry_0 rfl
theorem x161_1 {l0 l1 l2 l3 l4 l5 : Value} {x : Int32} : X 161 1 [l0, l1, l2, l3, l4, l5] (.int x :: st) h Q ↔ c1 l2 = true ∧ X 161 2 [l0, l1, l2, .int x, l4, l5] st h Q := X_sto (kk := 3) (pc' := 2) (w := .int x) mC_161 dX8_mayCarry_1 rfl (Nat.le_of_ble_eq_true rfl) rfl
theorem x161_2 : X 161 2 L st h Q ↔ X 161 3 L (.int 0 :: st) h Q := X_n mC_161 dX8_mayCarry_2 rfl
theorem x161_3 {l0 l1 l2 l3 l4 l5 : Value} {x : Int32} : X 161 3 [l0, l1, l2, l3, l4, l5] (.int x :: st) h Q ↔ c1 l3 = true ∧ X 161 5 [l0, l1, l2, l3, .int x, l5] st h Q := X_sto (kk := 4) (pc' := 5) (w := .int x) mC_161 dX8_mayCarry_3 rfl (Nat.le_of_ble_eq_true rfl) rfl
theorem x161_5 {l0 l1 l2 l3 l5 : Value} {x : Int32} : X 161 5 [l0, l1, l2, l3, .int x, l5] st h Q ↔ X 161 7 [l0, l1, l2, l3, .int x, l5] (.int x :: st) h Q := X_n mC_161 dX8_mayCarry_5 rfl
theorem x161_7 {l1 l2 l3 l4 l5 : Value} {x : Nat} : X 161 7 [.ref x, l1, l2, l3, l4, l5] st h Q ↔ X 161 8 [.ref x, l1, l2, l3, l4, l5] (.ref x :: st) h Q := X_n mC_161 dX8_mayCarry_7 rfl
theorem x161_8 {a : Nat} : X 161 8 L (.ref a :: st) h Q ↔ (hS h a = (1, 8) ∧ hR h a 2 ≠ 0) ∧ X 161 11 L (.ref (hR h a 2) :: st) h Q := X_getR mC_161 dX8_mayCarry_8 (by decide +kernel)
theorem x161_11 : X 161 11 L st h Q ↔ X 161 12 L (.int 0 :: st) h Q := X_n mC_161 dX8_mayCarry_11 rfl
theorem x161_12 {j : Int32} {a : Nat} : X 161 12 L (.int j :: .ref a :: st) h Q ↔ ib j (hS h a) ∧ X 161 13 L (.int (hI h a j.toNatClampNeg) :: st) h Q := X_iald mC_161 dX8_mayCarry_12
theorem x161_13 {x y : Int32} : X 161 13 L (.int y :: .int x :: st) h Q ↔ if x < y then X 161 16 L st h Q else X 161 128 L st h Q := X_ige mC_161 dX8_mayCarry_13 (by decide)
theorem x161_16 {l1 l2 l3 l4 l5 : Value} {x : Nat} : X 161 16 [.ref x, l1, l2, l3, l4, l5] st h Q ↔ X 161 17 [.ref x, l1, l2, l3, l4, l5] (.ref x :: st) h Q := X_n mC_161 dX8_mayCarry_16 rfl
theorem x161_17 {a : Nat} : X 161 17 L (.ref a :: st) h Q ↔ (hS h a = (1, 8) ∧ hR h a 12 ≠ 0) ∧ X 161 20 L (.ref (hR h a 12) :: st) h Q := X_getR mC_161 dX8_mayCarry_17 (by decide +kernel)
theorem x161_20 {l0 l1 l2 l3 l5 : Value} {x : Int32} : X 161 20 [l0, l1, l2, l3, .int x, l5] st h Q ↔ X 161 22 [l0, l1, l2, l3, .int x, l5] (.int x :: st) h Q := X_n mC_161 dX8_mayCarry_20 rfl
theorem x161_22 {j : Int32} {a : Nat} : X 161 22 L (.int j :: .ref a :: st) h Q ↔ ib j (hS h a) ∧ X 161 23 L (.int (hI h a j.toNatClampNeg) :: st) h Q := X_iald mC_161 dX8_mayCarry_22
theorem x161_23 {l1 l2 l3 l4 l5 : Value} {x : Nat} : X 161 23 [.ref x, l1, l2, l3, l4, l5] st h Q ↔ X 161 24 [.ref x, l1, l2, l3, l4, l5] (.ref x :: st) h Q := X_n mC_161 dX8_mayCarry_23 rfl
theorem x161_24 {a : Nat} : X 161 24 L (.ref a :: st) h Q ↔ (hS h a = (1, 8) ∧ hR h a 12 ≠ 0) ∧ X 161 27 L (.ref (hR h a 12) :: st) h Q := X_getR mC_161 dX8_mayCarry_24 (by decide +kernel)
theorem x161_27 {l0 l2 l3 l4 l5 : Value} {x : Int32} : X 161 27 [l0, .int x, l2, l3, l4, l5] st h Q ↔ X 161 28 [l0, .int x, l2, l3, l4, l5] (.int x :: st) h Q := X_n mC_161 dX8_mayCarry_27 rfl
theorem x161_28 {j : Int32} {a : Nat} : X 161 28 L (.int j :: .ref a :: st) h Q ↔ ib j (hS h a) ∧ X 161 29 L (.int (hI h a j.toNatClampNeg) :: st) h Q := X_iald mC_161 dX8_mayCarry_28
theorem x161_29 {x y : Int32} : X 161 29 L (.int y :: .int x :: st) h Q ↔ if y < x then X 161 32 L st h Q else X 161 43 L st h Q := X_ile mC_161 dX8_mayCarry_29 (by decide)
theorem x161_32 {l1 l2 l3 l4 l5 : Value} {x : Nat} : X 161 32 [.ref x, l1, l2, l3, l4, l5] st h Q ↔ X 161 33 [.ref x, l1, l2, l3, l4, l5] (.ref x :: st) h Q := X_n mC_161 dX8_mayCarry_32 rfl
theorem x161_33 {a : Nat} : X 161 33 L (.ref a :: st) h Q ↔ (hS h a = (1, 8) ∧ hR h a 12 ≠ 0) ∧ X 161 36 L (.ref (hR h a 12) :: st) h Q := X_getR mC_161 dX8_mayCarry_33 (by decide +kernel)
theorem x161_36 {l0 l1 l2 l3 l5 : Value} {x : Int32} : X 161 36 [l0, l1, l2, l3, .int x, l5] st h Q ↔ X 161 38 [l0, l1, l2, l3, .int x, l5] (.int x :: st) h Q := X_n mC_161 dX8_mayCarry_36 rfl
theorem x161_38 {j : Int32} {a : Nat} : X 161 38 L (.int j :: .ref a :: st) h Q ↔ ib j (hS h a) ∧ X 161 39 L (.int (hI h a j.toNatClampNeg) :: st) h Q := X_iald mC_161 dX8_mayCarry_38
theorem x161_39 {l0 l1 l3 l4 l5 : Value} {x : Int32} : X 161 39 [l0, l1, .int x, l3, l4, l5] st h Q ↔ X 161 40 [l0, l1, .int x, l3, l4, l5] (.int x :: st) h Q := X_n mC_161 dX8_mayCarry_39 rfl
theorem x161_40 {x y : Int32} : X 161 40 L (.int y :: .int x :: st) h Q ↔ if x < y then X 161 70 L st h Q else X 161 43 L st h Q := X_ilt mC_161 dX8_mayCarry_40 (by decide)
theorem x161_43 {l1 l2 l3 l4 l5 : Value} {x : Nat} : X 161 43 [.ref x, l1, l2, l3, l4, l5] st h Q ↔ X 161 44 [.ref x, l1, l2, l3, l4, l5] (.ref x :: st) h Q := X_n mC_161 dX8_mayCarry_43 rfl
theorem x161_44 {a : Nat} : X 161 44 L (.ref a :: st) h Q ↔ (hS h a = (1, 8) ∧ hR h a 12 ≠ 0) ∧ X 161 47 L (.ref (hR h a 12) :: st) h Q := X_getR mC_161 dX8_mayCarry_44 (by decide +kernel)
theorem x161_47 {l0 l1 l2 l3 l5 : Value} {x : Int32} : X 161 47 [l0, l1, l2, l3, .int x, l5] st h Q ↔ X 161 49 [l0, l1, l2, l3, .int x, l5] (.int x :: st) h Q := X_n mC_161 dX8_mayCarry_47 rfl
theorem x161_49 {j : Int32} {a : Nat} : X 161 49 L (.int j :: .ref a :: st) h Q ↔ ib j (hS h a) ∧ X 161 50 L (.int (hI h a j.toNatClampNeg) :: st) h Q := X_iald mC_161 dX8_mayCarry_49
theorem x161_50 {l1 l2 l3 l4 l5 : Value} {x : Nat} : X 161 50 [.ref x, l1, l2, l3, l4, l5] st h Q ↔ X 161 51 [.ref x, l1, l2, l3, l4, l5] (.ref x :: st) h Q := X_n mC_161 dX8_mayCarry_50 rfl
theorem x161_51 {a : Nat} : X 161 51 L (.ref a :: st) h Q ↔ (hS h a = (1, 8) ∧ hR h a 12 ≠ 0) ∧ X 161 54 L (.ref (hR h a 12) :: st) h Q := X_getR mC_161 dX8_mayCarry_51 (by decide +kernel)
theorem x161_54 {l0 l2 l3 l4 l5 : Value} {x : Int32} : X 161 54 [l0, .int x, l2, l3, l4, l5] st h Q ↔ X 161 55 [l0, .int x, l2, l3, l4, l5] (.int x :: st) h Q := X_n mC_161 dX8_mayCarry_54 rfl
theorem x161_55 {j : Int32} {a : Nat} : X 161 55 L (.int j :: .ref a :: st) h Q ↔ ib j (hS h a) ∧ X 161 56 L (.int (hI h a j.toNatClampNeg) :: st) h Q := X_iald mC_161 dX8_mayCarry_55
theorem x161_56 {x y : Int32} : X 161 56 L (.int y :: .int x :: st) h Q ↔ if x < y then X 161 59 L st h Q else X 161 74 L st h Q := X_ige mC_161 dX8_mayCarry_56 (by decide)
theorem x161_59 {l1 l2 l3 l4 l5 : Value} {x : Nat} : X 161 59 [.ref x, l1, l2, l3, l4, l5] st h Q ↔ X 161 60 [.ref x, l1, l2, l3, l4, l5] (.ref x :: st) h Q := X_n mC_161 dX8_mayCarry_59 rfl
theorem x161_60 {a : Nat} : X 161 60 L (.ref a :: st) h Q ↔ (hS h a = (1, 8) ∧ hR h a 12 ≠ 0) ∧ X 161 63 L (.ref (hR h a 12) :: st) h Q := X_getR mC_161 dX8_mayCarry_60 (by decide +kernel)
theorem x161_63 {l0 l1 l2 l3 l5 : Value} {x : Int32} : X 161 63 [l0, l1, l2, l3, .int x, l5] st h Q ↔ X 161 65 [l0, l1, l2, l3, .int x, l5] (.int x :: st) h Q := X_n mC_161 dX8_mayCarry_63 rfl
theorem x161_65 {j : Int32} {a : Nat} : X 161 65 L (.int j :: .ref a :: st) h Q ↔ ib j (hS h a) ∧ X 161 66 L (.int (hI h a j.toNatClampNeg) :: st) h Q := X_iald mC_161 dX8_mayCarry_65
theorem x161_66 {l0 l1 l3 l4 l5 : Value} {x : Int32} : X 161 66 [l0, l1, .int x, l3, l4, l5] st h Q ↔ X 161 67 [l0, l1, .int x, l3, l4, l5] (.int x :: st) h Q := X_n mC_161 dX8_mayCarry_66 rfl
theorem x161_67 {x y : Int32} : X 161 67 L (.int y :: .int x :: st) h Q ↔ if y < x then X 161 70 L st h Q else X 161 74 L st h Q := X_ile mC_161 dX8_mayCarry_67 (by decide)
theorem x161_70 : X 161 70 L st h Q ↔ X 161 71 L (.int 1 :: st) h Q := X_n mC_161 dX8_mayCarry_70 rfl
theorem x161_71 : X 161 71 L st h Q ↔ X 161 75 L st h Q := X_goto mC_161 dX8_mayCarry_71 (by decide)
theorem x161_74 : X 161 74 L st h Q ↔ X 161 75 L (.int 0 :: st) h Q := X_n mC_161 dX8_mayCarry_74 rfl
theorem x161_75 {l0 l1 l2 l3 l4 l5 : Value} {x : Int32} : X 161 75 [l0, l1, l2, l3, l4, l5] (.int x :: st) h Q ↔ c1 l4 = true ∧ X 161 77 [l0, l1, l2, l3, l4, .int x] st h Q := X_sto (kk := 5) (pc' := 77) (w := .int x) mC_161 dX8_mayCarry_75 rfl (Nat.le_of_ble_eq_true rfl) rfl
theorem x161_77 {l0 l1 l2 l4 l5 : Value} {x : Int32} : X 161 77 [l0, l1, l2, .int x, l4, l5] st h Q ↔ X 161 78 [l0, l1, l2, .int x, l4, l5] (.int x :: st) h Q := X_n mC_161 dX8_mayCarry_77 rfl
theorem x161_78 {x : Int32} : X 161 78 L (.int x :: st) h Q ↔ if x = 0 then X 161 120 L st h Q else X 161 81 L st h Q := X_zeq mC_161 dX8_mayCarry_78 (by decide)
theorem x161_81 {l1 l2 l3 l4 l5 : Value} {x : Nat} : X 161 81 [.ref x, l1, l2, l3, l4, l5] st h Q ↔ X 161 82 [.ref x, l1, l2, l3, l4, l5] (.ref x :: st) h Q := X_n mC_161 dX8_mayCarry_81 rfl
theorem x161_82 {a : Nat} : X 161 82 L (.ref a :: st) h Q ↔ (hS h a = (1, 8) ∧ hR h a 12 ≠ 0) ∧ X 161 85 L (.ref (hR h a 12) :: st) h Q := X_getR mC_161 dX8_mayCarry_82 (by decide +kernel)
theorem x161_85 {l0 l1 l2 l3 l5 : Value} {x : Int32} : X 161 85 [l0, l1, l2, l3, .int x, l5] st h Q ↔ X 161 87 [l0, l1, l2, l3, .int x, l5] (.int x :: st) h Q := X_n mC_161 dX8_mayCarry_85 rfl
theorem x161_87 {j : Int32} {a : Nat} : X 161 87 L (.int j :: .ref a :: st) h Q ↔ ib j (hS h a) ∧ X 161 88 L (.int (hI h a j.toNatClampNeg) :: st) h Q := X_iald mC_161 dX8_mayCarry_87
theorem x161_88 {l0 l1 l3 l4 l5 : Value} {x : Int32} : X 161 88 [l0, l1, .int x, l3, l4, l5] st h Q ↔ X 161 89 [l0, l1, .int x, l3, l4, l5] (.int x :: st) h Q := X_n mC_161 dX8_mayCarry_88 rfl
theorem x161_89 {x y : Int32} : X 161 89 L (.int y :: .int x :: st) h Q ↔ if x = y then X 161 120 L st h Q else X 161 92 L st h Q := X_ieq mC_161 dX8_mayCarry_89 (by decide)
theorem x161_92 {l0 l1 l2 l3 l4 : Value} {x : Int32} : X 161 92 [l0, l1, l2, l3, l4, .int x] st h Q ↔ X 161 94 [l0, l1, l2, l3, l4, .int x] (.int x :: st) h Q := X_n mC_161 dX8_mayCarry_92 rfl
theorem x161_94 {x : Int32} : X 161 94 L (.int x :: st) h Q ↔ if x = 0 then X 161 116 L st h Q else X 161 97 L st h Q := X_zeq mC_161 dX8_mayCarry_94 (by decide)
theorem x161_97 {l1 l2 l3 l4 l5 : Value} {x : Nat} : X 161 97 [.ref x, l1, l2, l3, l4, l5] st h Q ↔ X 161 98 [.ref x, l1, l2, l3, l4, l5] (.ref x :: st) h Q := X_n mC_161 dX8_mayCarry_97 rfl
theorem x161_98 {a : Nat} : X 161 98 L (.ref a :: st) h Q ↔ (hS h a = (1, 8) ∧ hR h a 2 ≠ 0) ∧ X 161 101 L (.ref (hR h a 2) :: st) h Q := X_getR mC_161 dX8_mayCarry_98 (by decide +kernel)
theorem x161_101 : X 161 101 L st h Q ↔ X 161 103 L (.int 21 :: st) h Q := X_n mC_161 dX8_mayCarry_101 rfl
theorem x161_103 {l0 l1 l2 l3 l5 : Value} {x : Int32} : X 161 103 [l0, l1, l2, l3, .int x, l5] st h Q ↔ X 161 105 [l0, l1, l2, l3, .int x, l5] (.int x :: st) h Q := X_n mC_161 dX8_mayCarry_103 rfl
theorem x161_105 {x y : Int32} : X 161 105 L (.int y :: .int x :: st) h Q ↔ X 161 106 L (.int (x + y) :: st) h Q := X_n mC_161 dX8_mayCarry_105 rfl
theorem x161_106 {j : Int32} {a : Nat} : X 161 106 L (.int j :: .ref a :: st) h Q ↔ ib j (hS h a) ∧ X 161 107 L (.int (hI h a j.toNatClampNeg) :: st) h Q := X_iald mC_161 dX8_mayCarry_106
theorem x161_107 {l1 l2 l3 l4 l5 : Value} {x : Nat} : X 161 107 [.ref x, l1, l2, l3, l4, l5] st h Q ↔ X 161 108 [.ref x, l1, l2, l3, l4, l5] (.ref x :: st) h Q := X_n mC_161 dX8_mayCarry_107 rfl
theorem x161_108 {a : Nat} : X 161 108 L (.ref a :: st) h Q ↔ (hS h a = (1, 8) ∧ hR h a 2 ≠ 0) ∧ X 161 111 L (.ref (hR h a 2) :: st) h Q := X_getR mC_161 dX8_mayCarry_108 (by decide +kernel)
theorem x161_111 : X 161 111 L st h Q ↔ X 161 112 L (.int 2 :: st) h Q := X_n mC_161 dX8_mayCarry_111 rfl
theorem x161_112 {j : Int32} {a : Nat} : X 161 112 L (.int j :: .ref a :: st) h Q ↔ ib j (hS h a) ∧ X 161 113 L (.int (hI h a j.toNatClampNeg) :: st) h Q := X_iald mC_161 dX8_mayCarry_112
theorem x161_113 {x y : Int32} : X 161 113 L (.int y :: .int x :: st) h Q ↔ if y < x then X 161 116 L st h Q else X 161 120 L st h Q := X_ile mC_161 dX8_mayCarry_113 (by decide)
theorem x161_116 : X 161 116 L st h Q ↔ X 161 117 L (.int 1 :: st) h Q := X_n mC_161 dX8_mayCarry_116 rfl
theorem x161_117 : X 161 117 L st h Q ↔ X 161 121 L st h Q := X_goto mC_161 dX8_mayCarry_117 (by decide)
theorem x161_120 : X 161 120 L st h Q ↔ X 161 121 L (.int 0 :: st) h Q := X_n mC_161 dX8_mayCarry_120 rfl
theorem x161_121 {l0 l1 l2 l3 l4 l5 : Value} {x : Int32} : X 161 121 [l0, l1, l2, l3, l4, l5] (.int x :: st) h Q ↔ c1 l2 = true ∧ X 161 122 [l0, l1, l2, .int x, l4, l5] st h Q := X_sto (kk := 3) (pc' := 122) (w := .int x) mC_161 dX8_mayCarry_121 rfl (Nat.le_of_ble_eq_true rfl) rfl
theorem x161_122 {l0 l1 l2 l3 l5 : Value} {x : Int32} : X 161 122 [l0, l1, l2, l3, .int x, l5] st h Q ↔ c1 l3 = true ∧ X 161 125 [l0, l1, l2, l3, .int (x + 1), l5] st h Q := X_inc (pc' := 125) (x := x) mC_161 dX8_mayCarry_122 rfl rfl rfl
theorem x161_125 : X 161 125 L st h Q ↔ X 161 5 L st h Q := X_goto mC_161 dX8_mayCarry_125 (by decide)
theorem x161_128 {l0 l1 l2 l4 l5 : Value} {x : Int32} : X 161 128 [l0, l1, l2, .int x, l4, l5] st h Q ↔ X 161 129 [l0, l1, l2, .int x, l4, l5] (.int x :: st) h Q := X_n mC_161 dX8_mayCarry_128 rfl
theorem x161_129 {v : Int32} : X 161 129 L [.int v] h Q ↔ (v = 0 ∨ v = 1) ∧ Q (some (.int v)) h := X_retZ mC_161 dX8_mayCarry_129 (by decide +kernel)
theorem mC_162 : mC 162 = cX8_laysFars := rfl
theorem x162_0 {l1 l2 l3 l4 l5 l6 l7 l8 : Value} {x : Nat} : X 162 0 [.ref x, l1, l2, l3, l4, l5, l6, l7, l8] st h Q ↔ X 162 1 [.ref x, l1, l2, l3, l4, l5, l6, l7, l8] (.ref x :: st) h Q := X_n mC_162 dX8_laysFars_0 rfl
theorem x162_1 {b : Nat} : X 162 1 L [.ref b] h Q ↔ hS h b = (1, 8) ∧ X 160 0 [.ref b, .null, .null] [] h (fun r h' => X 162 4 L (pv r []) h' Q) := X_virt (as := []) (n := 0) (ml := 3) (ck := 8) mC_162 dX8_laysFars_1 (by unfold cOk; decide +kernel) ⟨rfl, rfl, by decide, Nat.le_of_ble_eq_true rfl⟩
theorem x162_4 {l0 l1 l2 l3 l4 l5 l6 l7 l8 : Value} {x : Int32} : X 162 4 [l0, l1, l2, l3, l4, l5, l6, l7, l8] (.int x :: st) h Q ↔ c1 l0 = true ∧ X 162 5 [l0, .int x, l2, l3, l4, l5, l6, l7, l8] st h Q := X_sto (kk := 1) (pc' := 5) (w := .int x) mC_162 dX8_laysFars_4 rfl (Nat.le_of_ble_eq_true rfl) rfl
theorem x162_5 : X 162 5 L st h Q ↔ X 162 6 L (.int 0 :: st) h Q := X_n mC_162 dX8_laysFars_5 rfl
theorem x162_6 {l0 l1 l2 l3 l4 l5 l6 l7 l8 : Value} {x : Int32} : X 162 6 [l0, l1, l2, l3, l4, l5, l6, l7, l8] (.int x :: st) h Q ↔ c1 l1 = true ∧ X 162 7 [l0, l1, .int x, l3, l4, l5, l6, l7, l8] st h Q := X_sto (kk := 2) (pc' := 7) (w := .int x) mC_162 dX8_laysFars_6 rfl (Nat.le_of_ble_eq_true rfl) rfl
theorem x162_7 {l0 l1 l3 l4 l5 l6 l7 l8 : Value} {x : Int32} : X 162 7 [l0, l1, .int x, l3, l4, l5, l6, l7, l8] st h Q ↔ X 162 8 [l0, l1, .int x, l3, l4, l5, l6, l7, l8] (.int x :: st) h Q := X_n mC_162 dX8_laysFars_7 rfl
theorem x162_8 {l0 l2 l3 l4 l5 l6 l7 l8 : Value} {x : Int32} : X 162 8 [l0, .int x, l2, l3, l4, l5, l6, l7, l8] st h Q ↔ X 162 9 [l0, .int x, l2, l3, l4, l5, l6, l7, l8] (.int x :: st) h Q := X_n mC_162 dX8_laysFars_8 rfl
theorem x162_9 {x y : Int32} : X 162 9 L (.int y :: .int x :: st) h Q ↔ if x < y then X 162 12 L st h Q else X 162 25 L st h Q := X_ige mC_162 dX8_laysFars_9 (by decide)
theorem x162_12 {l1 l2 l3 l4 l5 l6 l7 l8 : Value} {x : Nat} : X 162 12 [.ref x, l1, l2, l3, l4, l5, l6, l7, l8] st h Q ↔ X 162 13 [.ref x, l1, l2, l3, l4, l5, l6, l7, l8] (.ref x :: st) h Q := X_n mC_162 dX8_laysFars_12 rfl
theorem x162_13 {a : Nat} : X 162 13 L (.ref a :: st) h Q ↔ (hS h a = (1, 8) ∧ hR h a 17 ≠ 0) ∧ X 162 16 L (.ref (hR h a 17) :: st) h Q := X_getR mC_162 dX8_laysFars_13 (by decide +kernel)
theorem x162_16 {l0 l1 l3 l4 l5 l6 l7 l8 : Value} {x : Int32} : X 162 16 [l0, l1, .int x, l3, l4, l5, l6, l7, l8] st h Q ↔ X 162 17 [l0, l1, .int x, l3, l4, l5, l6, l7, l8] (.int x :: st) h Q := X_n mC_162 dX8_laysFars_16 rfl
theorem x162_17 : X 162 17 L st h Q ↔ X 162 18 L (.int (-1) :: st) h Q := X_n mC_162 dX8_laysFars_17 rfl
theorem x162_18 {j x : Int32} {a : Nat} : X 162 18 L (.int x :: .int j :: .ref a :: st) h Q ↔ ibw j (hS h a) ∧ X 162 19 L st (sI h a j.toNatClampNeg x) Q := X_iast mC_162 dX8_laysFars_18
theorem x162_19 {l0 l1 l3 l4 l5 l6 l7 l8 : Value} {x : Int32} : X 162 19 [l0, l1, .int x, l3, l4, l5, l6, l7, l8] st h Q ↔ c1 l1 = true ∧ X 162 22 [l0, l1, .int (x + 1), l3, l4, l5, l6, l7, l8] st h Q := X_inc (pc' := 22) (x := x) mC_162 dX8_laysFars_19 rfl rfl rfl
theorem x162_22 : X 162 22 L st h Q ↔ X 162 7 L st h Q := X_goto mC_162 dX8_laysFars_22 (by decide)
theorem x162_25 : X 162 25 L st h Q ↔ X 162 26 L (.int 0 :: st) h Q := X_n mC_162 dX8_laysFars_25 rfl
theorem x162_26 {l0 l1 l2 l3 l4 l5 l6 l7 l8 : Value} {x : Int32} : X 162 26 [l0, l1, l2, l3, l4, l5, l6, l7, l8] (.int x :: st) h Q ↔ c1 l1 = true ∧ X 162 27 [l0, l1, .int x, l3, l4, l5, l6, l7, l8] st h Q := X_sto (kk := 2) (pc' := 27) (w := .int x) mC_162 dX8_laysFars_26 rfl (Nat.le_of_ble_eq_true rfl) rfl
theorem x162_27 {l0 l1 l3 l4 l5 l6 l7 l8 : Value} {x : Int32} : X 162 27 [l0, l1, .int x, l3, l4, l5, l6, l7, l8] st h Q ↔ X 162 28 [l0, l1, .int x, l3, l4, l5, l6, l7, l8] (.int x :: st) h Q := X_n mC_162 dX8_laysFars_27 rfl
theorem x162_28 {l1 l2 l3 l4 l5 l6 l7 l8 : Value} {x : Nat} : X 162 28 [.ref x, l1, l2, l3, l4, l5, l6, l7, l8] st h Q ↔ X 162 29 [.ref x, l1, l2, l3, l4, l5, l6, l7, l8] (.ref x :: st) h Q := X_n mC_162 dX8_laysFars_28 rfl
theorem x162_29 {a : Nat} : X 162 29 L (.ref a :: st) h Q ↔ (hS h a = (1, 8) ∧ hR h a 2 ≠ 0) ∧ X 162 32 L (.ref (hR h a 2) :: st) h Q := X_getR mC_162 dX8_laysFars_29 (by decide +kernel)
theorem x162_32 : X 162 32 L st h Q ↔ X 162 33 L (.int 0 :: st) h Q := X_n mC_162 dX8_laysFars_32 rfl
theorem x162_33 {j : Int32} {a : Nat} : X 162 33 L (.int j :: .ref a :: st) h Q ↔ ib j (hS h a) ∧ X 162 34 L (.int (hI h a j.toNatClampNeg) :: st) h Q := X_iald mC_162 dX8_laysFars_33
theorem x162_34 {x y : Int32} : X 162 34 L (.int y :: .int x :: st) h Q ↔ if x < y then X 162 37 L st h Q else X 162 54 L st h Q := X_ige mC_162 dX8_laysFars_34 (by decide)
theorem x162_37 {l1 l2 l3 l4 l5 l6 l7 l8 : Value} {x : Nat} : X 162 37 [.ref x, l1, l2, l3, l4, l5, l6, l7, l8] st h Q ↔ X 162 38 [.ref x, l1, l2, l3, l4, l5, l6, l7, l8] (.ref x :: st) h Q := X_n mC_162 dX8_laysFars_37 rfl
theorem x162_38 {a : Nat} : X 162 38 L (.ref a :: st) h Q ↔ (hS h a = (1, 8) ∧ hR h a 12 ≠ 0) ∧ X 162 41 L (.ref (hR h a 12) :: st) h Q := X_getR mC_162 dX8_laysFars_38 (by decide +kernel)
theorem x162_41 {l0 l1 l3 l4 l5 l6 l7 l8 : Value} {x : Int32} : X 162 41 [l0, l1, .int x, l3, l4, l5, l6, l7, l8] st h Q ↔ X 162 42 [l0, l1, .int x, l3, l4, l5, l6, l7, l8] (.int x :: st) h Q := X_n mC_162 dX8_laysFars_41 rfl
theorem x162_42 {l1 l2 l3 l4 l5 l6 l7 l8 : Value} {x : Nat} : X 162 42 [.ref x, l1, l2, l3, l4, l5, l6, l7, l8] st h Q ↔ X 162 43 [.ref x, l1, l2, l3, l4, l5, l6, l7, l8] (.ref x :: st) h Q := X_n mC_162 dX8_laysFars_42 rfl
theorem x162_43 {l0 l1 l3 l4 l5 l6 l7 l8 : Value} {x : Int32} : X 162 43 [l0, l1, .int x, l3, l4, l5, l6, l7, l8] st h Q ↔ X 162 44 [l0, l1, .int x, l3, l4, l5, l6, l7, l8] (.int x :: st) h Q := X_n mC_162 dX8_laysFars_43 rfl
theorem x162_44 {b : Nat} {a0 : Int32} {w0 w1 : Value} : X 162 44 L [.int a0, .ref b, w0, w1] h Q ↔ hS h b = (1, 8) ∧ X 156 0 [.ref b, .int a0, .null, .null] [] h (fun r h' => X 162 47 L (pv r [w0, w1]) h' Q) := X_virt (as := [.int a0]) (n := 1) (ml := 4) (ck := 8) mC_162 dX8_laysFars_44 (by unfold cOk; decide +kernel) ⟨rfl, rfl, by decide, Nat.le_of_ble_eq_true rfl⟩
theorem x162_47 {j x : Int32} {a : Nat} : X 162 47 L (.int x :: .int j :: .ref a :: st) h Q ↔ ibw j (hS h a) ∧ X 162 48 L st (sI h a j.toNatClampNeg x) Q := X_iast mC_162 dX8_laysFars_47
theorem x162_48 {l0 l1 l3 l4 l5 l6 l7 l8 : Value} {x : Int32} : X 162 48 [l0, l1, .int x, l3, l4, l5, l6, l7, l8] st h Q ↔ c1 l1 = true ∧ X 162 51 [l0, l1, .int (x + 1), l3, l4, l5, l6, l7, l8] st h Q := X_inc (pc' := 51) (x := x) mC_162 dX8_laysFars_48 rfl rfl rfl
theorem x162_51 : X 162 51 L st h Q ↔ X 162 27 L st h Q := X_goto mC_162 dX8_laysFars_51 (by decide)
theorem x162_54 {l1 l2 l3 l4 l5 l6 l7 l8 : Value} {x : Nat} : X 162 54 [.ref x, l1, l2, l3, l4, l5, l6, l7, l8] st h Q ↔ X 162 55 [.ref x, l1, l2, l3, l4, l5, l6, l7, l8] (.ref x :: st) h Q := X_n mC_162 dX8_laysFars_54 rfl
theorem x162_55 {a : Nat} : X 162 55 L (.ref a :: st) h Q ↔ (hS h a = (1, 8) ∧ hR h a 17 ≠ 0) ∧ X 162 58 L (.ref (hR h a 17) :: st) h Q := X_getR mC_162 dX8_laysFars_55 (by decide +kernel)
theorem x162_58 {l1 l2 l3 l4 l5 l6 l7 l8 : Value} {x : Nat} : X 162 58 [.ref x, l1, l2, l3, l4, l5, l6, l7, l8] st h Q ↔ X 162 59 [.ref x, l1, l2, l3, l4, l5, l6, l7, l8] (.ref x :: st) h Q := X_n mC_162 dX8_laysFars_58 rfl
theorem x162_59 {b : Nat} {w0 : Value} : X 162 59 L [.ref b, w0] h Q ↔ hS h b = (1, 8) ∧ X 158 0 [.ref b, .null, .null] [] h (fun r h' => X 162 62 L (pv r [w0]) h' Q) := X_virt (as := []) (n := 0) (ml := 3) (ck := 8) mC_162 dX8_laysFars_59 (by unfold cOk; decide +kernel) ⟨rfl, rfl, by decide, Nat.le_of_ble_eq_true rfl⟩
theorem x162_62 : X 162 62 L st h Q ↔ X 162 63 L (.int 0 :: st) h Q := X_n mC_162 dX8_laysFars_62 rfl
theorem x162_63 {j x : Int32} {a : Nat} : X 162 63 L (.int x :: .int j :: .ref a :: st) h Q ↔ ibw j (hS h a) ∧ X 162 64 L st (sI h a j.toNatClampNeg x) Q := X_iast mC_162 dX8_laysFars_63
theorem x162_64 : X 162 64 L st h Q ↔ X 162 65 L (.int 1 :: st) h Q := X_n mC_162 dX8_laysFars_64 rfl
theorem x162_65 {l0 l1 l2 l3 l4 l5 l6 l7 l8 : Value} {x : Int32} : X 162 65 [l0, l1, l2, l3, l4, l5, l6, l7, l8] (.int x :: st) h Q ↔ c1 l1 = true ∧ X 162 66 [l0, l1, .int x, l3, l4, l5, l6, l7, l8] st h Q := X_sto (kk := 2) (pc' := 66) (w := .int x) mC_162 dX8_laysFars_65 rfl (Nat.le_of_ble_eq_true rfl) rfl
theorem x162_66 : X 162 66 L st h Q ↔ X 162 67 L (.int 0 :: st) h Q := X_n mC_162 dX8_laysFars_66 rfl
theorem x162_67 {l0 l1 l2 l3 l4 l5 l6 l7 l8 : Value} {x : Int32} : X 162 67 [l0, l1, l2, l3, l4, l5, l6, l7, l8] (.int x :: st) h Q ↔ c1 l2 = true ∧ X 162 68 [l0, l1, l2, .int x, l4, l5, l6, l7, l8] st h Q := X_sto (kk := 3) (pc' := 68) (w := .int x) mC_162 dX8_laysFars_67 rfl (Nat.le_of_ble_eq_true rfl) rfl
theorem x162_68 {l0 l1 l3 l4 l5 l6 l7 l8 : Value} {x : Int32} : X 162 68 [l0, l1, .int x, l3, l4, l5, l6, l7, l8] st h Q ↔ X 162 69 [l0, l1, .int x, l3, l4, l5, l6, l7, l8] (.int x :: st) h Q := X_n mC_162 dX8_laysFars_68 rfl
theorem x162_69 {x : Int32} : X 162 69 L (.int x :: st) h Q ↔ if x = 0 then X 162 249 L st h Q else X 162 72 L st h Q := X_zeq mC_162 dX8_laysFars_69 (by decide)
theorem x162_72 : X 162 72 L st h Q ↔ X 162 73 L (.int 0 :: st) h Q := X_n mC_162 dX8_laysFars_72 rfl
theorem x162_73 {l0 l1 l2 l3 l4 l5 l6 l7 l8 : Value} {x : Int32} : X 162 73 [l0, l1, l2, l3, l4, l5, l6, l7, l8] (.int x :: st) h Q ↔ c1 l1 = true ∧ X 162 74 [l0, l1, .int x, l3, l4, l5, l6, l7, l8] st h Q := X_sto (kk := 2) (pc' := 74) (w := .int x) mC_162 dX8_laysFars_73 rfl (Nat.le_of_ble_eq_true rfl) rfl
theorem x162_74 : X 162 74 L st h Q ↔ X 162 75 L (.int 0 :: st) h Q := X_n mC_162 dX8_laysFars_74 rfl
theorem x162_75 {l0 l1 l2 l3 l4 l5 l6 l7 l8 : Value} {x : Int32} : X 162 75 [l0, l1, l2, l3, l4, l5, l6, l7, l8] (.int x :: st) h Q ↔ c1 l3 = true ∧ X 162 77 [l0, l1, l2, l3, .int x, l5, l6, l7, l8] st h Q := X_sto (kk := 4) (pc' := 77) (w := .int x) mC_162 dX8_laysFars_75 rfl (Nat.le_of_ble_eq_true rfl) rfl
theorem x162_77 {l0 l1 l2 l3 l5 l6 l7 l8 : Value} {x : Int32} : X 162 77 [l0, l1, l2, l3, .int x, l5, l6, l7, l8] st h Q ↔ X 162 79 [l0, l1, l2, l3, .int x, l5, l6, l7, l8] (.int x :: st) h Q := X_n mC_162 dX8_laysFars_77 rfl
theorem x162_79 {l0 l2 l3 l4 l5 l6 l7 l8 : Value} {x : Int32} : X 162 79 [l0, .int x, l2, l3, l4, l5, l6, l7, l8] st h Q ↔ X 162 80 [l0, .int x, l2, l3, l4, l5, l6, l7, l8] (.int x :: st) h Q := X_n mC_162 dX8_laysFars_79 rfl
theorem x162_80 {x y : Int32} : X 162 80 L (.int y :: .int x :: st) h Q ↔ if x < y then X 162 83 L st h Q else X 162 243 L st h Q := X_ige mC_162 dX8_laysFars_80 (by decide)
theorem x162_83 {l1 l2 l3 l4 l5 l6 l7 l8 : Value} {x : Nat} : X 162 83 [.ref x, l1, l2, l3, l4, l5, l6, l7, l8] st h Q ↔ X 162 84 [.ref x, l1, l2, l3, l4, l5, l6, l7, l8] (.ref x :: st) h Q := X_n mC_162 dX8_laysFars_83 rfl
theorem x162_84 {a : Nat} : X 162 84 L (.ref a :: st) h Q ↔ (hS h a = (1, 8) ∧ hR h a 17 ≠ 0) ∧ X 162 87 L (.ref (hR h a 17) :: st) h Q := X_getR mC_162 dX8_laysFars_84 (by decide +kernel)
theorem x162_87 {l0 l1 l2 l3 l5 l6 l7 l8 : Value} {x : Int32} : X 162 87 [l0, l1, l2, l3, .int x, l5, l6, l7, l8] st h Q ↔ X 162 89 [l0, l1, l2, l3, .int x, l5, l6, l7, l8] (.int x :: st) h Q := X_n mC_162 dX8_laysFars_87 rfl
theorem x162_89 {j : Int32} {a : Nat} : X 162 89 L (.int j :: .ref a :: st) h Q ↔ ib j (hS h a) ∧ X 162 90 L (.int (hI h a j.toNatClampNeg) :: st) h Q := X_iald mC_162 dX8_laysFars_89
theorem x162_90 {l0 l1 l2 l4 l5 l6 l7 l8 : Value} {x : Int32} : X 162 90 [l0, l1, l2, .int x, l4, l5, l6, l7, l8] st h Q ↔ X 162 91 [l0, l1, l2, .int x, l4, l5, l6, l7, l8] (.int x :: st) h Q := X_n mC_162 dX8_laysFars_90 rfl
theorem x162_91 {x y : Int32} : X 162 91 L (.int y :: .int x :: st) h Q ↔ if x = y then X 162 94 L st h Q else X 162 237 L st h Q := X_ine mC_162 dX8_laysFars_91 (by decide)
theorem x162_94 {l1 l2 l3 l4 l5 l6 l7 l8 : Value} {x : Nat} : X 162 94 [.ref x, l1, l2, l3, l4, l5, l6, l7, l8] st h Q ↔ X 162 95 [.ref x, l1, l2, l3, l4, l5, l6, l7, l8] (.ref x :: st) h Q := X_n mC_162 dX8_laysFars_94 rfl
theorem x162_95 {l0 l1 l2 l3 l5 l6 l7 l8 : Value} {x : Int32} : X 162 95 [l0, l1, l2, l3, .int x, l5, l6, l7, l8] st h Q ↔ X 162 97 [l0, l1, l2, l3, .int x, l5, l6, l7, l8] (.int x :: st) h Q := X_n mC_162 dX8_laysFars_95 rfl
theorem x162_97 {b : Nat} {a0 : Int32} : X 162 97 L [.int a0, .ref b] h Q ↔ hS h b = (1, 8) ∧ X 159 0 [.ref b, .int a0, .null, .null, .null] [] h (fun r h' => X 162 100 L (pv r []) h' Q) := X_virt (as := [.int a0]) (n := 1) (ml := 5) (ck := 8) mC_162 dX8_laysFars_97 (by unfold cOk; decide +kernel) ⟨rfl, rfl, by decide, Nat.le_of_ble_eq_true rfl⟩
theorem x162_100 {x : Int32} : X 162 100 L (.int x :: st) h Q ↔ if x = 0 then X 162 237 L st h Q else X 162 103 L st h Q := X_zeq mC_162 dX8_laysFars_100 (by decide)
theorem x162_103 : X 162 103 L st h Q ↔ X 162 104 L (.int 0 :: st) h Q := X_n mC_162 dX8_laysFars_103 rfl
theorem x162_104 {l0 l1 l2 l3 l4 l5 l6 l7 l8 : Value} {x : Int32} : X 162 104 [l0, l1, l2, l3, l4, l5, l6, l7, l8] (.int x :: st) h Q ↔ c1 l4 = true ∧ X 162 106 [l0, l1, l2, l3, l4, .int x, l6, l7, l8] st h Q := X_sto (kk := 5) (pc' := 106) (w := .int x) mC_162 dX8_laysFars_104 rfl (Nat.le_of_ble_eq_true rfl) rfl
theorem x162_106 {l0 l1 l2 l3 l4 l6 l7 l8 : Value} {x : Int32} : X 162 106 [l0, l1, l2, l3, l4, .int x, l6, l7, l8] st h Q ↔ X 162 108 [l0, l1, l2, l3, l4, .int x, l6, l7, l8] (.int x :: st) h Q := X_n mC_162 dX8_laysFars_106 rfl
theorem x162_108 {l1 l2 l3 l4 l5 l6 l7 l8 : Value} {x : Nat} : X 162 108 [.ref x, l1, l2, l3, l4, l5, l6, l7, l8] st h Q ↔ X 162 109 [.ref x, l1, l2, l3, l4, l5, l6, l7, l8] (.ref x :: st) h Q := X_n mC_162 dX8_laysFars_108 rfl
theorem x162_109 {a : Nat} : X 162 109 L (.ref a :: st) h Q ↔ (hS h a = (1, 8) ∧ hR h a 2 ≠ 0) ∧ X 162 112 L (.ref (hR h a 2) :: st) h Q := X_getR mC_162 dX8_laysFars_109 (by decide +kernel)
theorem x162_112 : X 162 112 L st h Q ↔ X 162 113 L (.int 0 :: st) h Q := X_n mC_162 dX8_laysFars_112 rfl
theorem x162_113 {j : Int32} {a : Nat} : X 162 113 L (.int j :: .ref a :: st) h Q ↔ ib j (hS h a) ∧ X 162 114 L (.int (hI h a j.toNatClampNeg) :: st) h Q := X_iald mC_162 dX8_laysFars_113
theorem x162_114 {x y : Int32} : X 162 114 L (.int y :: .int x :: st) h Q ↔ if x < y then X 162 117 L st h Q else X 162 237 L st h Q := X_ige mC_162 dX8_laysFars_114 (by decide)
theorem x162_117 {l1 l2 l3 l4 l5 l6 l7 l8 : Value} {x : Nat} : X 162 117 [.ref x, l1, l2, l3, l4, l5, l6, l7, l8] st h Q ↔ X 162 118 [.ref x, l1, l2, l3, l4, l5, l6, l7, l8] (.ref x :: st) h Q := X_n mC_162 dX8_laysFars_117 rfl
theorem x162_118 {a : Nat} : X 162 118 L (.ref a :: st) h Q ↔ (hS h a = (1, 8) ∧ hR h a 12 ≠ 0) ∧ X 162 121 L (.ref (hR h a 12) :: st) h Q := X_getR mC_162 dX8_laysFars_118 (by decide +kernel)
theorem x162_121 {l0 l1 l2 l3 l4 l6 l7 l8 : Value} {x : Int32} : X 162 121 [l0, l1, l2, l3, l4, .int x, l6, l7, l8] st h Q ↔ X 162 123 [l0, l1, l2, l3, l4, .int x, l6, l7, l8] (.int x :: st) h Q := X_n mC_162 dX8_laysFars_121 rfl
theorem x162_123 {j : Int32} {a : Nat} : X 162 123 L (.int j :: .ref a :: st) h Q ↔ ib j (hS h a) ∧ X 162 124 L (.int (hI h a j.toNatClampNeg) :: st) h Q := X_iald mC_162 dX8_laysFars_123
theorem x162_124 {l0 l1 l2 l3 l4 l5 l6 l7 l8 : Value} {x : Int32} : X 162 124 [l0, l1, l2, l3, l4, l5, l6, l7, l8] (.int x :: st) h Q ↔ c1 l5 = true ∧ X 162 126 [l0, l1, l2, l3, l4, l5, .int x, l7, l8] st h Q := X_sto (kk := 6) (pc' := 126) (w := .int x) mC_162 dX8_laysFars_124 rfl (Nat.le_of_ble_eq_true rfl) rfl
theorem x162_126 : X 162 126 L st h Q ↔ X 162 127 L (.int 0 :: st) h Q := X_n mC_162 dX8_laysFars_126 rfl
theorem x162_127 {l0 l1 l2 l3 l4 l5 l6 l7 l8 : Value} {x : Int32} : X 162 127 [l0, l1, l2, l3, l4, l5, l6, l7, l8] (.int x :: st) h Q ↔ c1 l6 = true ∧ X 162 129 [l0, l1, l2, l3, l4, l5, l6, .int x, l8] st h Q := X_sto (kk := 7) (pc' := 129) (w := .int x) mC_162 dX8_laysFars_127 rfl (Nat.le_of_ble_eq_true rfl) rfl
theorem x162_129 {l0 l1 l2 l3 l4 l5 l6 l8 : Value} {x : Int32} : X 162 129 [l0, l1, l2, l3, l4, l5, l6, .int x, l8] st h Q ↔ X 162 131 [l0, l1, l2, l3, l4, l5, l6, .int x, l8] (.int x :: st) h Q := X_n mC_162 dX8_laysFars_129 rfl
theorem x162_131 {l1 l2 l3 l4 l5 l6 l7 l8 : Value} {x : Nat} : X 162 131 [.ref x, l1, l2, l3, l4, l5, l6, l7, l8] st h Q ↔ X 162 132 [.ref x, l1, l2, l3, l4, l5, l6, l7, l8] (.ref x :: st) h Q := X_n mC_162 dX8_laysFars_131 rfl
theorem x162_132 {a : Nat} : X 162 132 L (.ref a :: st) h Q ↔ (hS h a = (1, 8) ∧ hR h a 2 ≠ 0) ∧ X 162 135 L (.ref (hR h a 2) :: st) h Q := X_getR mC_162 dX8_laysFars_132 (by decide +kernel)
theorem x162_135 : X 162 135 L st h Q ↔ X 162 136 L (.int 1 :: st) h Q := X_n mC_162 dX8_laysFars_135 rfl
theorem x162_136 {j : Int32} {a : Nat} : X 162 136 L (.int j :: .ref a :: st) h Q ↔ ib j (hS h a) ∧ X 162 137 L (.int (hI h a j.toNatClampNeg) :: st) h Q := X_iald mC_162 dX8_laysFars_136
theorem x162_137 {x y : Int32} : X 162 137 L (.int y :: .int x :: st) h Q ↔ if x < y then X 162 140 L st h Q else X 162 231 L st h Q := X_ige mC_162 dX8_laysFars_137 (by decide)
theorem x162_140 {l1 l2 l3 l4 l5 l6 l7 l8 : Value} {x : Nat} : X 162 140 [.ref x, l1, l2, l3, l4, l5, l6, l7, l8] st h Q ↔ X 162 141 [.ref x, l1, l2, l3, l4, l5, l6, l7, l8] (.ref x :: st) h Q := X_n mC_162 dX8_laysFars_140 rfl
theorem x162_141 {l0 l1 l2 l3 l4 l6 l7 l8 : Value} {x : Int32} : X 162 141 [l0, l1, l2, l3, l4, .int x, l6, l7, l8] st h Q ↔ X 162 143 [l0, l1, l2, l3, l4, .int x, l6, l7, l8] (.int x :: st) h Q := X_n mC_162 dX8_laysFars_141 rfl
theorem x162_143 {l0 l1 l2 l3 l4 l5 l6 l8 : Value} {x : Int32} : X 162 143 [l0, l1, l2, l3, l4, l5, l6, .int x, l8] st h Q ↔ X 162 145 [l0, l1, l2, l3, l4, l5, l6, .int x, l8] (.int x :: st) h Q := X_n mC_162 dX8_laysFars_143 rfl
theorem x162_145 {b : Nat} {a0 : Int32} {a1 : Int32} : X 162 145 L [.int a1, .int a0, .ref b] h Q ↔ hS h b = (1, 8) ∧ X 161 0 [.ref b, .int a0, .int a1, .null, .null, .null] [] h (fun r h' => X 162 148 L (pv r []) h' Q) := X_virt (as := [.int a0, .int a1]) (n := 2) (ml := 6) (ck := 8) mC_162 dX8_laysFars_145 (by unfold cOk; decide +kernel) ⟨rfl, rfl, by decide, Nat.le_of_ble_eq_true rfl⟩
theorem x162_148 {x : Int32} : X 162 148 L (.int x :: st) h Q ↔ if x = 0 then X 162 225 L st h Q else X 162 151 L st h Q := X_zeq mC_162 dX8_laysFars_148 (by decide)
theorem x162_151 {l1 l2 l3 l4 l5 l6 l7 l8 : Value} {x : Nat} : X 162 151 [.ref x, l1, l2, l3, l4, l5, l6, l7, l8] st h Q ↔ X 162 152 [.ref x, l1, l2, l3, l4, l5, l6, l7, l8] (.ref x :: st) h Q := X_n mC_162 dX8_laysFars_151 rfl
theorem x162_152 {a : Nat} : X 162 152 L (.ref a :: st) h Q ↔ (hS h a = (1, 8) ∧ hR h a 12 ≠ 0) ∧ X 162 155 L (.ref (hR h a 12) :: st) h Q := X_getR mC_162 dX8_laysFars_152 (by decide +kernel)
theorem x162_155 {l0 l1 l2 l3 l4 l6 l7 l8 : Value} {x : Int32} : X 162 155 [l0, l1, l2, l3, l4, .int x, l6, l7, l8] st h Q ↔ X 162 157 [l0, l1, l2, l3, l4, .int x, l6, l7, l8] (.int x :: st) h Q := X_n mC_162 dX8_laysFars_155 rfl
theorem x162_157 {l0 l1 l2 l3 l4 l5 l6 l8 : Value} {x : Int32} : X 162 157 [l0, l1, l2, l3, l4, l5, l6, .int x, l8] st h Q ↔ X 162 159 [l0, l1, l2, l3, l4, l5, l6, .int x, l8] (.int x :: st) h Q := X_n mC_162 dX8_laysFars_157 rfl
theorem x162_159 {j x : Int32} {a : Nat} : X 162 159 L (.int x :: .int j :: .ref a :: st) h Q ↔ ibw j (hS h a) ∧ X 162 160 L st (sI h a j.toNatClampNeg x) Q := X_iast mC_162 dX8_laysFars_159
theorem x162_160 {l1 l2 l3 l4 l5 l6 l7 l8 : Value} {x : Nat} : X 162 160 [.ref x, l1, l2, l3, l4, l5, l6, l7, l8] st h Q ↔ X 162 161 [.ref x, l1, l2, l3, l4, l5, l6, l7, l8] (.ref x :: st) h Q := X_n mC_162 dX8_laysFars_160 rfl
theorem x162_161 {b : Nat} : X 162 161 L [.ref b] h Q ↔ hS h b = (1, 8) ∧ X 158 0 [.ref b, .null, .null] [] h (fun r h' => X 162 164 L (pv r []) h' Q) := X_virt (as := []) (n := 0) (ml := 3) (ck := 8) mC_162 dX8_laysFars_161 (by unfold cOk; decide +kernel) ⟨rfl, rfl, by decide, Nat.le_of_ble_eq_true rfl⟩
theorem x162_164 {l0 l1 l2 l3 l4 l5 l6 l7 l8 : Value} {x : Int32} : X 162 164 [l0, l1, l2, l3, l4, l5, l6, l7, l8] (.int x :: st) h Q ↔ c1 l7 = true ∧ X 162 166 [l0, l1, l2, l3, l4, l5, l6, l7, .int x] st h Q := X_sto (kk := 8) (pc' := 166) (w := .int x) mC_162 dX8_laysFars_164 rfl (Nat.le_of_ble_eq_true rfl) rfl
theorem x162_166 {l1 l2 l3 l4 l5 l6 l7 l8 : Value} {x : Nat} : X 162 166 [.ref x, l1, l2, l3, l4, l5, l6, l7, l8] st h Q ↔ X 162 167 [.ref x, l1, l2, l3, l4, l5, l6, l7, l8] (.ref x :: st) h Q := X_n mC_162 dX8_laysFars_166 rfl
theorem x162_167 {a : Nat} : X 162 167 L (.ref a :: st) h Q ↔ (hS h a = (1, 8) ∧ hR h a 12 ≠ 0) ∧ X 162 170 L (.ref (hR h a 12) :: st) h Q := X_getR mC_162 dX8_laysFars_167 (by decide +kernel)
theorem x162_170 {l0 l1 l2 l3 l4 l6 l7 l8 : Value} {x : Int32} : X 162 170 [l0, l1, l2, l3, l4, .int x, l6, l7, l8] st h Q ↔ X 162 172 [l0, l1, l2, l3, l4, .int x, l6, l7, l8] (.int x :: st) h Q := X_n mC_162 dX8_laysFars_170 rfl
theorem x162_172 {l0 l1 l2 l3 l4 l5 l7 l8 : Value} {x : Int32} : X 162 172 [l0, l1, l2, l3, l4, l5, .int x, l7, l8] st h Q ↔ X 162 174 [l0, l1, l2, l3, l4, l5, .int x, l7, l8] (.int x :: st) h Q := X_n mC_162 dX8_laysFars_172 rfl
theorem x162_174 {j x : Int32} {a : Nat} : X 162 174 L (.int x :: .int j :: .ref a :: st) h Q ↔ ibw j (hS h a) ∧ X 162 175 L st (sI h a j.toNatClampNeg x) Q := X_iast mC_162 dX8_laysFars_174
theorem x162_175 {l0 l1 l3 l4 l5 l6 l7 l8 : Value} {x : Int32} : X 162 175 [l0, l1, .int x, l3, l4, l5, l6, l7, l8] st h Q ↔ X 162 176 [l0, l1, .int x, l3, l4, l5, l6, l7, l8] (.int x :: st) h Q := X_n mC_162 dX8_laysFars_175 rfl
theorem x162_176 {x : Int32} : X 162 176 L (.int x :: st) h Q ↔ if x = 0 then X 162 179 L st h Q else X 162 189 L st h Q := X_zne mC_162 dX8_laysFars_176 (by decide)
theorem x162_179 {l1 l2 l3 l4 l5 l6 l7 l8 : Value} {x : Nat} : X 162 179 [.ref x, l1, l2, l3, l4, l5, l6, l7, l8] st h Q ↔ X 162 180 [.ref x, l1, l2, l3, l4, l5, l6, l7, l8] (.ref x :: st) h Q := X_n mC_162 dX8_laysFars_179 rfl
theorem x162_180 {a : Nat} : X 162 180 L (.ref a :: st) h Q ↔ (hS h a = (1, 8) ∧ hR h a 17 ≠ 0) ∧ X 162 183 L (.ref (hR h a 17) :: st) h Q := X_getR mC_162 dX8_laysFars_180 (by decide +kernel)
theorem x162_183 {l0 l1 l2 l3 l4 l5 l6 l7 : Value} {x : Int32} : X 162 183 [l0, l1, l2, l3, l4, l5, l6, l7, .int x] st h Q ↔ X 162 185 [l0, l1, l2, l3, l4, l5, l6, l7, .int x] (.int x :: st) h Q := X_n mC_162 dX8_laysFars_183 rfl
theorem x162_185 {j : Int32} {a : Nat} : X 162 185 L (.int j :: .ref a :: st) h Q ↔ ib j (hS h a) ∧ X 162 186 L (.int (hI h a j.toNatClampNeg) :: st) h Q := X_iald mC_162 dX8_laysFars_185
theorem x162_186 {x : Int32} : X 162 186 L (.int x :: st) h Q ↔ if x < 0 then X 162 189 L st h Q else X 162 193 L st h Q := X_zge mC_162 dX8_laysFars_186 (by decide)
theorem x162_189 : X 162 189 L st h Q ↔ X 162 190 L (.int 1 :: st) h Q := X_n mC_162 dX8_laysFars_189 rfl
theorem x162_190 : X 162 190 L st h Q ↔ X 162 194 L st h Q := X_goto mC_162 dX8_laysFars_190 (by decide)
theorem x162_193 : X 162 193 L st h Q ↔ X 162 194 L (.int 0 :: st) h Q := X_n mC_162 dX8_laysFars_193 rfl
theorem x162_194 {l0 l1 l2 l3 l4 l5 l6 l7 l8 : Value} {x : Int32} : X 162 194 [l0, l1, l2, l3, l4, l5, l6, l7, l8] (.int x :: st) h Q ↔ c1 l1 = true ∧ X 162 195 [l0, l1, .int x, l3, l4, l5, l6, l7, l8] st h Q := X_sto (kk := 2) (pc' := 195) (w := .int x) mC_162 dX8_laysFars_194 rfl (Nat.le_of_ble_eq_true rfl) rfl
theorem x162_195 {l1 l2 l3 l4 l5 l6 l7 l8 : Value} {x : Nat} : X 162 195 [.ref x, l1, l2, l3, l4, l5, l6, l7, l8] st h Q ↔ X 162 196 [.ref x, l1, l2, l3, l4, l5, l6, l7, l8] (.ref x :: st) h Q := X_n mC_162 dX8_laysFars_195 rfl
theorem x162_196 {a : Nat} : X 162 196 L (.ref a :: st) h Q ↔ (hS h a = (1, 8) ∧ hR h a 17 ≠ 0) ∧ X 162 199 L (.ref (hR h a 17) :: st) h Q := X_getR mC_162 dX8_laysFars_196 (by decide +kernel)
theorem x162_199 {l0 l1 l2 l3 l4 l5 l6 l7 : Value} {x : Int32} : X 162 199 [l0, l1, l2, l3, l4, l5, l6, l7, .int x] st h Q ↔ X 162 201 [l0, l1, l2, l3, l4, l5, l6, l7, .int x] (.int x :: st) h Q := X_n mC_162 dX8_laysFars_199 rfl
theorem x162_201 {l1 l2 l3 l4 l5 l6 l7 l8 : Value} {x : Nat} : X 162 201 [.ref x, l1, l2, l3, l4, l5, l6, l7, l8] st h Q ↔ X 162 202 [.ref x, l1, l2, l3, l4, l5, l6, l7, l8] (.ref x :: st) h Q := X_n mC_162 dX8_laysFars_201 rfl
theorem x162_202 {a : Nat} : X 162 202 L (.ref a :: st) h Q ↔ (hS h a = (1, 8) ∧ hR h a 17 ≠ 0) ∧ X 162 205 L (.ref (hR h a 17) :: st) h Q := X_getR mC_162 dX8_laysFars_202 (by decide +kernel)
theorem x162_205 {l0 l1 l2 l3 l4 l5 l6 l7 : Value} {x : Int32} : X 162 205 [l0, l1, l2, l3, l4, l5, l6, l7, .int x] st h Q ↔ X 162 207 [l0, l1, l2, l3, l4, l5, l6, l7, .int x] (.int x :: st) h Q := X_n mC_162 dX8_laysFars_205 rfl
theorem x162_207 {j : Int32} {a : Nat} : X 162 207 L (.int j :: .ref a :: st) h Q ↔ ib j (hS h a) ∧ X 162 208 L (.int (hI h a j.toNatClampNeg) :: st) h Q := X_iald mC_162 dX8_laysFars_207
theorem x162_208 {x : Int32} : X 162 208 L (.int x :: st) h Q ↔ if x < 0 then X 162 211 L st h Q else X 162 217 L st h Q := X_zge mC_162 dX8_laysFars_208 (by decide)
theorem x162_211 {l0 l1 l2 l4 l5 l6 l7 l8 : Value} {x : Int32} : X 162 211 [l0, l1, l2, .int x, l4, l5, l6, l7, l8] st h Q ↔ X 162 212 [l0, l1, l2, .int x, l4, l5, l6, l7, l8] (.int x :: st) h Q := X_n mC_162 dX8_laysFars_211 rfl
theorem x162_212 : X 162 212 L st h Q ↔ X 162 213 L (.int 1 :: st) h Q := X_n mC_162 dX8_laysFars_212 rfl
theorem x162_213 {x y : Int32} : X 162 213 L (.int y :: .int x :: st) h Q ↔ X 162 214 L (.int (x + y) :: st) h Q := X_n mC_162 dX8_laysFars_213 rfl
theorem x162_214 : X 162 214 L st h Q ↔ X 162 224 L st h Q := X_goto mC_162 dX8_laysFars_214 (by decide)
theorem x162_217 {l1 l2 l3 l4 l5 l6 l7 l8 : Value} {x : Nat} : X 162 217 [.ref x, l1, l2, l3, l4, l5, l6, l7, l8] st h Q ↔ X 162 218 [.ref x, l1, l2, l3, l4, l5, l6, l7, l8] (.ref x :: st) h Q := X_n mC_162 dX8_laysFars_217 rfl
theorem x162_218 {a : Nat} : X 162 218 L (.ref a :: st) h Q ↔ (hS h a = (1, 8) ∧ hR h a 17 ≠ 0) ∧ X 162 221 L (.ref (hR h a 17) :: st) h Q := X_getR mC_162 dX8_laysFars_218 (by decide +kernel)
theorem x162_221 {l0 l1 l2 l3 l4 l5 l6 l7 : Value} {x : Int32} : X 162 221 [l0, l1, l2, l3, l4, l5, l6, l7, .int x] st h Q ↔ X 162 223 [l0, l1, l2, l3, l4, l5, l6, l7, .int x] (.int x :: st) h Q := X_n mC_162 dX8_laysFars_221 rfl
theorem x162_223 {j : Int32} {a : Nat} : X 162 223 L (.int j :: .ref a :: st) h Q ↔ ib j (hS h a) ∧ X 162 224 L (.int (hI h a j.toNatClampNeg) :: st) h Q := X_iald mC_162 dX8_laysFars_223
theorem x162_224 {j x : Int32} {a : Nat} : X 162 224 L (.int x :: .int j :: .ref a :: st) h Q ↔ ibw j (hS h a) ∧ X 162 225 L st (sI h a j.toNatClampNeg x) Q := X_iast mC_162 dX8_laysFars_224
theorem x162_225 {l0 l1 l2 l3 l4 l5 l6 l8 : Value} {x : Int32} : X 162 225 [l0, l1, l2, l3, l4, l5, l6, .int x, l8] st h Q ↔ c1 l6 = true ∧ X 162 228 [l0, l1, l2, l3, l4, l5, l6, .int (x + 1), l8] st h Q := X_inc (pc' := 228) (x := x) mC_162 dX8_laysFars_225 rfl rfl rfl
theorem x162_228 : X 162 228 L st h Q ↔ X 162 129 L st h Q := X_goto mC_162 dX8_laysFars_228 (by decide)
theorem x162_231 {l0 l1 l2 l3 l4 l6 l7 l8 : Value} {x : Int32} : X 162 231 [l0, l1, l2, l3, l4, .int x, l6, l7, l8] st h Q ↔ c1 l4 = true ∧ X 162 234 [l0, l1, l2, l3, l4, .int (x + 1), l6, l7, l8] st h Q := X_inc (pc' := 234) (x := x) mC_162 dX8_laysFars_231 rfl rfl rfl
theorem x162_234 : X 162 234 L st h Q ↔ X 162 106 L st h Q := X_goto mC_162 dX8_laysFars_234 (by decide)
theorem x162_237 {l0 l1 l2 l3 l5 l6 l7 l8 : Value} {x : Int32} : X 162 237 [l0, l1, l2, l3, .int x, l5, l6, l7, l8] st h Q ↔ c1 l3 = true ∧ X 162 240 [l0, l1, l2, l3, .int (x + 1), l5, l6, l7, l8] st h Q := X_inc (pc' := 240) (x := x) mC_162 dX8_laysFars_237 rfl rfl rfl
theorem x162_240 : X 162 240 L st h Q ↔ X 162 77 L st h Q := X_goto mC_162 dX8_laysFars_240 (by decide)
theorem x162_243 {l0 l1 l2 l4 l5 l6 l7 l8 : Value} {x : Int32} : X 162 243 [l0, l1, l2, .int x, l4, l5, l6, l7, l8] st h Q ↔ c1 l2 = true ∧ X 162 246 [l0, l1, l2, .int (x + 1), l4, l5, l6, l7, l8] st h Q := X_inc (pc' := 246) (x := x) mC_162 dX8_laysFars_243 rfl rfl rfl
theorem x162_246 : X 162 246 L st h Q ↔ X 162 68 L st h Q := X_goto mC_162 dX8_laysFars_246 (by decide)
theorem x162_249 : X 162 249 L [] h Q ↔ Q none h := X_retV mC_162 dX8_laysFars_249 (by decide +kernel)
theorem mC_163 : mC 163 = cX8_moves := rfl
theorem x163_0 {l0 l2 l3 l4 l5 : Value} {x : Int32} : X 163 0 [l0, .int x, l2, l3, l4, l5] st h Q ↔ X 163 1 [l0, .int x, l2, l3, l4, l5] (.int x :: st) h Q := X_n mC_163 dX8_moves_0 rfl
theorem x163_1 : X 163 1 L st h Q ↔ X 163 2 L (.int 0 :: st) h Q := X_n mC_163 dX8_moves_1 rfl
theorem x163_2 : X 163 2 L st h Q ↔ X 163 3 L (.int 1 :: st) h Q := X_n mC_163 dX8_moves_2 rfl
theorem x163_3 {a0 : Int32} {a1 : Int32} {a2 : Int32} : X 163 3 L [.int a2, .int a1, .int a0] h Q ↔ X 120 0 [.int a0, .int a1, .int a2] [] h (fun r h' => X 163 6 L (pv r []) h' Q) := X_stat (as := [.int a0, .int a1, .int a2]) (n := 3) (ml := 3) (ck := 8) mC_163 dX8_moves_3 (by unfold cOk; decide +kernel) ⟨rfl, rfl, by decide, Nat.le_of_ble_eq_true rfl⟩
theorem x163_6 {x : Int32} : X 163 6 L (.int x :: st) h Q ↔ if x = 0 then X 163 9 L st h Q else X 163 11 L st h Q := X_zne mC_163 dX8_moves_6 (by decide)
theorem x163_9 : X 163 9 L st h Q ↔ X 163 10 L (.int (-1) :: st) h Q := X_n mC_163 dX8_moves_9 rfl
theorem x163_10 {v : Int32} : X 163 10 L [.int v] h Q ↔ Q (some (.int v)) h := X_ret mC_163 dX8_moves_10 (by decide +kernel)
theorem x163_11 {l1 l2 l3 l4 l5 : Value} {x : Nat} : X 163 11 [.ref x, l1, l2, l3, l4, l5] st h Q ↔ X 163 12 [.ref x, l1, l2, l3, l4, l5] (.ref x :: st) h Q := X_n mC_163 dX8_moves_11 rfl
theorem x163_12 {b : Nat} : X 163 12 L [.ref b] h Q ↔ hS h b = (1, 8) ∧ X 138 0 [.ref b, .null] [] h (fun r h' => X 163 15 L (pv r []) h' Q) := X_virt (as := []) (n := 0) (ml := 2) (ck := 8) mC_163 dX8_moves_12 (by unfold cOk; decide +kernel) ⟨rfl, rfl, by decide, Nat.le_of_ble_eq_true rfl⟩
theorem x163_15 {l1 l2 l3 l4 l5 : Value} {x : Nat} : X 163 15 [.ref x, l1, l2, l3, l4, l5] st h Q ↔ X 163 16 [.ref x, l1, l2, l3, l4, l5] (.ref x :: st) h Q := X_n mC_163 dX8_moves_15 rfl
theorem x163_16 {b : Nat} : X 163 16 L [.ref b] h Q ↔ hS h b = (1, 8) ∧ X 162 0 [.ref b, .null, .null, .null, .null, .null, .null, .null, .null] [] h (fun r h' => X 163 19 L (pv r []) h' Q) := X_virt (as := []) (n := 0) (ml := 9) (ck := 8) mC_163 dX8_moves_16 (by unfold cOk; decide +kernel) ⟨rfl, rfl, by decide, Nat.le_of_ble_eq_true rfl⟩
theorem x163_19 {l1 l2 l3 l4 l5 : Value} {x : Nat} : X 163 19 [.ref x, l1, l2, l3, l4, l5] st h Q ↔ X 163 20 [.ref x, l1, l2, l3, l4, l5] (.ref x :: st) h Q := X_n mC_163 dX8_moves_19 rfl
theorem x163_20 {b : Nat} : X 163 20 L [.ref b] h Q ↔ hS h b = (1, 8) ∧ X 138 0 [.ref b, .null] [] h (fun r h' => X 163 23 L (pv r []) h' Q) := X_virt (as := []) (n := 0) (ml := 2) (ck := 8) mC_163 dX8_moves_20 (by unfold cOk; decide +kernel) ⟨rfl, rfl, by decide, Nat.le_of_ble_eq_true rfl⟩
theorem x163_23 {l1 l2 l3 l4 l5 : Value} {x : Nat} : X 163 23 [.ref x, l1, l2, l3, l4, l5] st h Q ↔ X 163 24 [.ref x, l1, l2, l3, l4, l5] (.ref x :: st) h Q := X_n mC_163 dX8_moves_23 rfl
theorem x163_24 {a : Nat} : X 163 24 L (.ref a :: st) h Q ↔ (hS h a = (1, 8) ∧ hR h a 17 ≠ 0) ∧ X 163 27 L (.ref (hR h a 17) :: st) h Q := X_getR mC_163 dX8_moves_24 (by decide +kernel)
theorem x163_27 {l1 l2 l3 l4 l5 : Value} {x : Nat} : X 163 27 [.ref x, l1, l2, l3, l4, l5] st h Q ↔ X 163 28 [.ref x, l1, l2, l3, l4, l5] (.ref x :: st) h Q := X_n mC_163 dX8_moves_27 rfl
theorem x163_28 {b : Nat} {w0 : Value} : X 163 28 L [.ref b, w0] h Q ↔ hS h b = (1, 8) ∧ X 158 0 [.ref b, .null, .null] [] h (fun r h' => X 163 31 L (pv r [w0]) h' Q) := X_virt (as := []) (n := 0) (ml := 3) (ck := 8) mC_163 dX8_moves_28 (by unfold cOk; decide +kernel) ⟨rfl, rfl, by decide, Nat.le_of_ble_eq_true rfl⟩
theorem x163_31 {j : Int32} {a : Nat} : X 163 31 L (.int j :: .ref a :: st) h Q ↔ ib j (hS h a) ∧ X 163 32 L (.int (hI h a j.toNatClampNeg) :: st) h Q := X_iald mC_163 dX8_moves_31
theorem x163_32 {l0 l1 l2 l3 l4 l5 : Value} {x : Int32} : X 163 32 [l0, l1, l2, l3, l4, l5] (.int x :: st) h Q ↔ c1 l1 = true ∧ X 163 33 [l0, l1, .int x, l3, l4, l5] st h Q := X_sto (kk := 2) (pc' := 33) (w := .int x) mC_163 dX8_moves_32 rfl (Nat.le_of_ble_eq_true rfl) rfl
theorem x163_33 {l0 l1 l3 l4 l5 : Value} {x : Int32} : X 163 33 [l0, l1, .int x, l3, l4, l5] st h Q ↔ X 163 34 [l0, l1, .int x, l3, l4, l5] (.int x :: st) h Q := X_n mC_163 dX8_moves_33 rfl
theorem x163_34 {x : Int32} : X 163 34 L (.int x :: st) h Q ↔ if x < 0 then X 163 37 L st h Q else X 163 40 L st h Q := X_zge mC_163 dX8_moves_34 (by decide)
theorem x163_37 : X 163 37 L st h Q ↔ X 163 39 L (.int (-4) :: st) h Q := X_n mC_163 dX8_moves_37 rfl
theorem x163_39 {v : Int32} : X 163 39 L [.int v] h Q ↔ Q (some (.int v)) h := X_ret mC_163 dX8_moves_39 (by decide +kernel)
theorem x163_40 {l0 l2 l3 l4 l5 : Value} {x : Int32} : X 163 40 [l0, .int x, l2, l3, l4, l5] st h Q ↔ X 163 41 [l0, .int x, l2, l3, l4, l5] (.int x :: st) h Q := X_n mC_163 dX8_moves_40 rfl
theorem x163_41 {x : Int32} : X 163 41 L (.int x :: st) h Q ↔ if x = 0 then X 163 44 L st h Q else X 163 46 L st h Q := X_zne mC_163 dX8_moves_41 (by decide)
theorem x163_44 {l0 l1 l3 l4 l5 : Value} {x : Int32} : X 163 44 [l0, l1, .int x, l3, l4, l5] st h Q ↔ X 163 45 [l0, l1, .int x, l3, l4, l5] (.int x :: st) h Q := X_n mC_163 dX8_moves_44 rfl
theorem x163_45 {v : Int32} : X 163 45 L [.int v] h Q ↔ Q (some (.int v)) h := X_ret mC_163 dX8_moves_45 (by decide +kernel)
theorem x163_46 : X 163 46 L st h Q ↔ X 163 48 L (.int (-4) :: st) h Q := X_n mC_163 dX8_moves_46 rfl
theorem x163_48 {l0 l1 l2 l3 l4 l5 : Value} {x : Int32} : X 163 48 [l0, l1, l2, l3, l4, l5] (.int x :: st) h Q ↔ c1 l2 = true ∧ X 163 49 [l0, l1, l2, .int x, l4, l5] st h Q := X_sto (kk := 3) (pc' := 49) (w := .int x) mC_163 dX8_moves_48 rfl (Nat.le_of_ble_eq_true rfl) rfl
theorem x163_49 {l1 l2 l3 l4 l5 : Value} {x : Nat} : X 163 49 [.ref x, l1, l2, l3, l4, l5] st h Q ↔ X 163 50 [.ref x, l1, l2, l3, l4, l5] (.ref x :: st) h Q := X_n mC_163 dX8_moves_49 rfl
theorem x163_50 {a : Nat} : X 163 50 L (.ref a :: st) h Q ↔ (hS h a = (1, 8) ∧ hR h a 2 ≠ 0) ∧ X 163 53 L (.ref (hR h a 2) :: st) h Q := X_getR mC_163 dX8_moves_50 (by decide +kernel)
theorem x163_53 : X 163 53 L st h Q ↔ X 163 54 L (.int 0 :: st) h Q := X_n mC_163 dX8_moves_53 rfl
theorem x163_54 {j : Int32} {a : Nat} : X 163 54 L (.int j :: .ref a :: st) h Q ↔ ib j (hS h a) ∧ X 163 55 L (.int (hI h a j.toNatClampNeg) :: st) h Q := X_iald mC_163 dX8_moves_54
theorem x163_55 : X 163 55 L st h Q ↔ X 163 56 L (.int 1 :: st) h Q := X_n mC_163 dX8_moves_55 rfl
theorem x163_56 {x y : Int32} : X 163 56 L (.int y :: .int x :: st) h Q ↔ X 163 57 L (.int (x - y) :: st) h Q := X_n mC_163 dX8_moves_56 rfl
theorem x163_57 {l0 l1 l2 l3 l4 l5 : Value} {x : Int32} : X 163 57 [l0, l1, l2, l3, l4, l5] (.int x :: st) h Q ↔ c1 l3 = true ∧ X 163 59 [l0, l1, l2, l3, .int x, l5] st h Q := X_sto (kk := 4) (pc' := 59) (w := .int x) mC_163 dX8_moves_57 rfl (Nat.le_of_ble_eq_true rfl) rfl
theorem x163_59 {l0 l1 l2 l3 l5 : Value} {x : Int32} : X 163 59 [l0, l1, l2, l3, .int x, l5] st h Q ↔ X 163 61 [l0, l1, l2, l3, .int x, l5] (.int x :: st) h Q := X_n mC_163 dX8_moves_59 rfl
theorem x163_61 {x : Int32} : X 163 61 L (.int x :: st) h Q ↔ if x < 0 then X 163 157 L st h Q else X 163 64 L st h Q := X_zlt mC_163 dX8_moves_61 (by decide)
theorem x163_64 {l0 l1 l3 l4 l5 : Value} {x : Int32} : X 163 64 [l0, l1, .int x, l3, l4, l5] st h Q ↔ X 163 65 [l0, l1, .int x, l3, l4, l5] (.int x :: st) h Q := X_n mC_163 dX8_moves_64 rfl
theorem x163_65 {x : Int32} : X 163 65 L (.int x :: st) h Q ↔ if 0 < x then X 163 68 L st h Q else X 163 157 L st h Q := X_zle mC_163 dX8_moves_65 (by decide)
theorem x163_68 {l1 l2 l3 l4 l5 : Value} {x : Nat} : X 163 68 [.ref x, l1, l2, l3, l4, l5] st h Q ↔ X 163 69 [.ref x, l1, l2, l3, l4, l5] (.ref x :: st) h Q := X_n mC_163 dX8_moves_68 rfl
theorem x163_69 {a : Nat} : X 163 69 L (.ref a :: st) h Q ↔ (hS h a = (1, 8) ∧ hR h a 2 ≠ 0) ∧ X 163 72 L (.ref (hR h a 2) :: st) h Q := X_getR mC_163 dX8_moves_69 (by decide +kernel)
theorem x163_72 : X 163 72 L st h Q ↔ X 163 73 L (.int 1 :: st) h Q := X_n mC_163 dX8_moves_72 rfl
theorem x163_73 {j : Int32} {a : Nat} : X 163 73 L (.int j :: .ref a :: st) h Q ↔ ib j (hS h a) ∧ X 163 74 L (.int (hI h a j.toNatClampNeg) :: st) h Q := X_iald mC_163 dX8_moves_73
theorem x163_74 : X 163 74 L st h Q ↔ X 163 75 L (.int 1 :: st) h Q := X_n mC_163 dX8_moves_74 rfl
theorem x163_75 {x y : Int32} : X 163 75 L (.int y :: .int x :: st) h Q ↔ X 163 76 L (.int (x - y) :: st) h Q := X_n mC_163 dX8_moves_75 rfl
theorem x163_76 {l0 l1 l2 l3 l4 l5 : Value} {x : Int32} : X 163 76 [l0, l1, l2, l3, l4, l5] (.int x :: st) h Q ↔ c1 l4 = true ∧ X 163 78 [l0, l1, l2, l3, l4, .int x] st h Q := X_sto (kk := 5) (pc' := 78) (w := .int x) mC_163 dX8_moves_76 rfl (Nat.le_of_ble_eq_true rfl) rfl
theorem x163_78 {l0 l1 l2 l3 l4 : Value} {x : Int32} : X 163 78 [l0, l1, l2, l3, l4, .int x] st h Q ↔ X 163 80 [l0, l1, l2, l3, l4, .int x] (.int x :: st) h Q := X_n mC_163 dX8_moves_78 rfl
theorem x163_80 {x : Int32} : X 163 80 L (.int x :: st) h Q ↔ if x < 0 then X 163 151 L st h Q else X 163 83 L st h Q := X_zlt mC_163 dX8_moves_80 (by decide)
theorem x163_83 {l1 l2 l3 l4 l5 : Value} {x : Nat} : X 163 83 [.ref x, l1, l2, l3, l4, l5] st h Q ↔ X 163 84 [.ref x, l1, l2, l3, l4, l5] (.ref x :: st) h Q := X_n mC_163 dX8_moves_83 rfl
theorem x163_84 {l0 l1 l2 l3 l5 : Value} {x : Int32} : X 163 84 [l0, l1, l2, l3, .int x, l5] st h Q ↔ X 163 86 [l0, l1, l2, l3, .int x, l5] (.int x :: st) h Q := X_n mC_163 dX8_moves_84 rfl
theorem x163_86 {l0 l1 l2 l3 l4 : Value} {x : Int32} : X 163 86 [l0, l1, l2, l3, l4, .int x] st h Q ↔ X 163 88 [l0, l1, l2, l3, l4, .int x] (.int x :: st) h Q := X_n mC_163 dX8_moves_86 rfl
theorem x163_88 {b : Nat} {a0 : Int32} {a1 : Int32} : X 163 88 L [.int a1, .int a0, .ref b] h Q ↔ hS h b = (1, 8) ∧ X 161 0 [.ref b, .int a0, .int a1, .null, .null, .null] [] h (fun r h' => X 163 91 L (pv r []) h' Q) := X_virt (as := [.int a0, .int a1]) (n := 2) (ml := 6) (ck := 8) mC_163 dX8_moves_88 (by unfold cOk; decide +kernel) ⟨rfl, rfl, by decide, Nat.le_of_ble_eq_true rfl⟩
theorem x163_91 {x : Int32} : X 163 91 L (.int x :: st) h Q ↔ if x = 0 then X 163 145 L st h Q else X 163 94 L st h Q := X_zeq mC_163 dX8_moves_91 (by decide)
theorem x163_94 {l1 l2 l3 l4 l5 : Value} {x : Nat} : X 163 94 [.ref x, l1, l2, l3, l4, l5] st h Q ↔ X 163 95 [.ref x, l1, l2, l3, l4, l5] (.ref x :: st) h Q := X_n mC_163 dX8_moves_94 rfl
theorem x163_95 {a : Nat} : X 163 95 L (.ref a :: st) h Q ↔ (hS h a = (1, 8) ∧ hR h a 12 ≠ 0) ∧ X 163 98 L (.ref (hR h a 12) :: st) h Q := X_getR mC_163 dX8_moves_95 (by decide +kernel)
theorem x163_98 {l0 l1 l2 l3 l5 : Value} {x : Int32} : X 163 98 [l0, l1, l2, l3, .int x, l5] st h Q ↔ X 163 100 [l0, l1, l2, l3, .int x, l5] (.int x :: st) h Q := X_n mC_163 dX8_moves_98 rfl
theorem x163_100 {l0 l1 l2 l3 l4 : Value} {x : Int32} : X 163 100 [l0, l1, l2, l3, l4, .int x] st h Q ↔ X 163 102 [l0, l1, l2, l3, l4, .int x] (.int x :: st) h Q := X_n mC_163 dX8_moves_100 rfl
theorem x163_102 {j x : Int32} {a : Nat} : X 163 102 L (.int x :: .int j :: .ref a :: st) h Q ↔ ibw j (hS h a) ∧ X 163 103 L st (sI h a j.toNatClampNeg x) Q := X_iast mC_163 dX8_moves_102
theorem x163_103 {l1 l2 l3 l4 l5 : Value} {x : Nat} : X 163 103 [.ref x, l1, l2, l3, l4, l5] st h Q ↔ X 163 104 [.ref x, l1, l2, l3, l4, l5] (.ref x :: st) h Q := X_n mC_163 dX8_moves_103 rfl
theorem x163_104 {a : Nat} : X 163 104 L (.ref a :: st) h Q ↔ (hS h a = (1, 8) ∧ hR h a 17 ≠ 0) ∧ X 163 107 L (.ref (hR h a 17) :: st) h Q := X_getR mC_163 dX8_moves_104 (by decide +kernel)
theorem x163_107 {l1 l2 l3 l4 l5 : Value} {x : Nat} : X 163 107 [.ref x, l1, l2, l3, l4, l5] st h Q ↔ X 163 108 [.ref x, l1, l2, l3, l4, l5] (.ref x :: st) h Q := X_n mC_163 dX8_moves_107 rfl
theorem x163_108 {b : Nat} {w0 : Value} : X 163 108 L [.ref b, w0] h Q ↔ hS h b = (1, 8) ∧ X 158 0 [.ref b, .null, .null] [] h (fun r h' => X 163 111 L (pv r [w0]) h' Q) := X_virt (as := []) (n := 0) (ml := 3) (ck := 8) mC_163 dX8_moves_108 (by unfold cOk; decide +kernel) ⟨rfl, rfl, by decide, Nat.le_of_ble_eq_true rfl⟩
theorem x163_111 {j : Int32} {a : Nat} : X 163 111 L (.int j :: .ref a :: st) h Q ↔ ib j (hS h a) ∧ X 163 112 L (.int (hI h a j.toNatClampNeg) :: st) h Q := X_iald mC_163 dX8_moves_111
theorem x163_112 {l0 l1 l3 l4 l5 : Value} {x : Int32} : X 163 112 [l0, l1, .int x, l3, l4, l5] st h Q ↔ X 163 113 [l0, l1, .int x, l3, l4, l5] (.int x :: st) h Q := X_n mC_163 dX8_moves_112 rfl
theorem x163_113 : X 163 113 L st h Q ↔ X 163 114 L (.int 1 :: st) h Q := X_n mC_163 dX8_moves_113 rfl
theorem x163_114 {x y : Int32} : X 163 114 L (.int y :: .int x :: st) h Q ↔ X 163 115 L (.int (x - y) :: st) h Q := X_n mC_163 dX8_moves_114 rfl
theorem x163_115 {x y : Int32} : X 163 115 L (.int y :: .int x :: st) h Q ↔ if x = y then X 163 118 L st h Q else X 163 129 L st h Q := X_ine mC_163 dX8_moves_115 (by decide)
theorem x163_118 : X 163 118 L st h Q ↔ X 163 120 L (.int 8 :: st) h Q := X_n mC_163 dX8_moves_118 rfl
theorem x163_120 {l0 l1 l2 l3 l5 : Value} {x : Int32} : X 163 120 [l0, l1, l2, l3, .int x, l5] st h Q ↔ X 163 122 [l0, l1, l2, l3, .int x, l5] (.int x :: st) h Q := X_n mC_163 dX8_moves_120 rfl
theorem x163_122 {x y : Int32} : X 163 122 L (.int y :: .int x :: st) h Q ↔ X 163 123 L (.int (x * y) :: st) h Q := X_n mC_163 dX8_moves_122 rfl
theorem x163_123 {l0 l1 l2 l3 l4 : Value} {x : Int32} : X 163 123 [l0, l1, l2, l3, l4, .int x] st h Q ↔ X 163 125 [l0, l1, l2, l3, l4, .int x] (.int x :: st) h Q := X_n mC_163 dX8_moves_123 rfl
theorem x163_125 {x y : Int32} : X 163 125 L (.int y :: .int x :: st) h Q ↔ X 163 126 L (.int (x + y) :: st) h Q := X_n mC_163 dX8_moves_125 rfl
theorem x163_126 : X 163 126 L st h Q ↔ X 163 130 L st h Q := X_goto mC_163 dX8_moves_126 (by decide)
theorem x163_129 {l0 l1 l2 l4 l5 : Value} {x : Int32} : X 163 129 [l0, l1, l2, .int x, l4, l5] st h Q ↔ X 163 130 [l0, l1, l2, .int x, l4, l5] (.int x :: st) h Q := X_n mC_163 dX8_moves_129 rfl
theorem x163_130 {l0 l1 l2 l3 l4 l5 : Value} {x : Int32} : X 163 130 [l0, l1, l2, l3, l4, l5] (.int x :: st) h Q ↔ c1 l2 = true ∧ X 163 131 [l0, l1, l2, .int x, l4, l5] st h Q := X_sto (kk := 3) (pc' := 131) (w := .int x) mC_163 dX8_moves_130 rfl (Nat.le_of_ble_eq_true rfl) rfl
theorem x163_131 {l1 l2 l3 l4 l5 : Value} {x : Nat} : X 163 131 [.ref x, l1, l2, l3, l4, l5] st h Q ↔ X 163 132 [.ref x, l1, l2, l3, l4, l5] (.ref x :: st) h Q := X_n mC_163 dX8_moves_131 rfl
theorem x163_132 {a : Nat} : X 163 132 L (.ref a :: st) h Q ↔ (hS h a = (1, 8) ∧ hR h a 12 ≠ 0) ∧ X 163 135 L (.ref (hR h a 12) :: st) h Q := X_getR mC_163 dX8_moves_132 (by decide +kernel)
theorem x163_135 {l0 l1 l2 l3 l5 : Value} {x : Int32} : X 163 135 [l0, l1, l2, l3, .int x, l5] st h Q ↔ X 163 137 [l0, l1, l2, l3, .int x, l5] (.int x :: st) h Q := X_n mC_163 dX8_moves_135 rfl
theorem x163_137 {l1 l2 l3 l4 l5 : Value} {x : Nat} : X 163 137 [.ref x, l1, l2, l3, l4, l5] st h Q ↔ X 163 138 [.ref x, l1, l2, l3, l4, l5] (.ref x :: st) h Q := X_n mC_163 dX8_moves_137 rfl
theorem x163_138 {a : Nat} : X 163 138 L (.ref a :: st) h Q ↔ (hS h a = (1, 8) ∧ hR h a 4 ≠ 0) ∧ X 163 141 L (.ref (hR h a 4) :: st) h Q := X_getR mC_163 dX8_moves_138 (by decide +kernel)
theorem x163_141 {l0 l1 l2 l3 l5 : Value} {x : Int32} : X 163 141 [l0, l1, l2, l3, .int x, l5] st h Q ↔ X 163 143 [l0, l1, l2, l3, .int x, l5] (.int x :: st) h Q := X_n mC_163 dX8_moves_141 rfl
theorem x163_143 {j : Int32} {a : Nat} : X 163 143 L (.int j :: .ref a :: st) h Q ↔ ib j (hS h a) ∧ X 163 144 L (.int (hI h a j.toNatClampNeg) :: st) h Q := X_iald mC_163 dX8_moves_143
theorem x163_144 {j x : Int32} {a : Nat} : X 163 144 L (.int x :: .int j :: .ref a :: st) h Q ↔ ibw j (hS h a) ∧ X 163 145 L st (sI h a j.toNatClampNeg x) Q := X_iast mC_163 dX8_moves_144
theorem x163_145 {l0 l1 l2 l3 l4 : Value} {x : Int32} : X 163 145 [l0, l1, l2, l3, l4, .int x] st h Q ↔ c1 l4 = true ∧ X 163 148 [l0, l1, l2, l3, l4, .int (x + (-1))] st h Q := X_inc (pc' := 148) (x := x) mC_163 dX8_moves_145 rfl rfl rfl
theorem x163_148 : X 163 148 L st h Q ↔ X 163 78 L st h Q := X_goto mC_163 dX8_moves_148 (by decide)
theorem x163_151 {l0 l1 l2 l3 l5 : Value} {x : Int32} : X 163 151 [l0, l1, l2, l3, .int x, l5] st h Q ↔ c1 l3 = true ∧ X 163 154 [l0, l1, l2, l3, .int (x + (-1)), l5] st h Q := X_inc (pc' := 154) (x := x) mC_163 dX8_moves_151 rfl rfl rfl
theorem x163_154 : X 163 154 L st h Q ↔ X 163 59 L st h Q := X_goto mC_163 dX8_moves_154 (by decide)
theorem x163_157 {l0 l1 l2 l4 l5 : Value} {x : Int32} : X 163 157 [l0, l1, l2, .int x, l4, l5] st h Q ↔ X 163 158 [l0, l1, l2, .int x, l4, l5] (.int x :: st) h Q := X_n mC_163 dX8_moves_157 rfl
theorem x163_158 {v : Int32} : X 163 158 L [.int v] h Q ↔ Q (some (.int v)) h := X_ret mC_163 dX8_moves_158 (by decide +kernel)
theorem mC_164 : mC 164 = cX8_best := rfl
theorem x164_0 {l0 l2 l3 l4 l5 l6 l7 l8 : Value} {x : Int32} : X 164 0 [l0, .int x, l2, l3, l4, l5, l6, l7, l8] st h Q ↔ X 164 1 [l0, .int x, l2, l3, l4, l5, l6, l7, l8] (.int x :: st) h Q := X_n mC_164 dX8_best_0 rfl
theorem x164_1 : X 164 1 L st h Q ↔ X 164 2 L (.int 0 :: st) h Q := X_n mC_164 dX8_best_1 rfl
theorem x164_2 : X 164 2 L st h Q ↔ X 164 4 L (.int 7 :: st) h Q := X_n mC_164 dX8_best_2 rfl
theorem x164_4 {a0 : Int32} {a1 : Int32} {a2 : Int32} : X 164 4 L [.int a2, .int a1, .int a0] h Q ↔ X 120 0 [.int a0, .int a1, .int a2] [] h (fun r h' => X 164 7 L (pv r []) h' Q) := X_stat (as := [.int a0, .int a1, .int a2]) (n := 3) (ml := 3) (ck := 8) mC_164 dX8_best_4 (by unfold cOk; decide +kernel) ⟨rfl, rfl, by decide, Nat.le_of_ble_eq_true rfl⟩
theorem x164_7 {x : Int32} : X 164 7 L (.int x :: st) h Q ↔ if x = 0 then X 164 23 L st h Q else X 164 10 L st h Q := X_zeq mC_164 dX8_best_7 (by decide)
theorem x164_10 {l0 l1 l3 l4 l5 l6 l7 l8 : Value} {x : Int32} : X 164 10 [l0, l1, .int x, l3, l4, l5, l6, l7, l8] st h Q ↔ X 164 11 [l0, l1, .int x, l3, l4, l5, l6, l7, l8] (.int x :: st) h Q := X_n mC_164 dX8_best_10 rfl
theorem x164_11 : X 164 11 L st h Q ↔ X 164 12 L (.int (-1) :: st) h Q := X_n mC_164 dX8_best_11 rfl
theorem x164_12 {x y : Int32} : X 164 12 L (.int y :: .int x :: st) h Q ↔ if x = y then X 164 25 L st h Q else X 164 15 L st h Q := X_ieq mC_164 dX8_best_12 (by decide)
theorem x164_15 {l1 l2 l3 l4 l5 l6 l7 l8 : Value} {x : Nat} : X 164 15 [.ref x, l1, l2, l3, l4, l5, l6, l7, l8] st h Q ↔ X 164 16 [.ref x, l1, l2, l3, l4, l5, l6, l7, l8] (.ref x :: st) h Q := X_n mC_164 dX8_best_15 rfl
theorem x164_16 {l0 l1 l3 l4 l5 l6 l7 l8 : Value} {x : Int32} : X 164 16 [l0, l1, .int x, l3, l4, l5, l6, l7, l8] st h Q ↔ X 164 17 [l0, l1, .int x, l3, l4, l5, l6, l7, l8] (.int x :: st) h Q := X_n mC_164 dX8_best_16 rfl
theorem x164_17 {b : Nat} {a0 : Int32} : X 164 17 L [.int a0, .ref b] h Q ↔ hS h b = (1, 8) ∧ X 121 0 [.ref b, .int a0] [] h (fun r h' => X 164 20 L (pv r []) h' Q) := X_virt (as := [.int a0]) (n := 1) (ml := 2) (ck := 8) mC_164 dX8_best_17 (by unfold cOk; decide +kernel) ⟨rfl, rfl, by decide, Nat.le_of_ble_eq_true rfl⟩
theorem x164_20 {x : Int32} : X 164 20 L (.int x :: st) h Q ↔ if x = 0 then X 164 23 L st h Q else X 164 25 L st h Q := X_zne mC_164 dX8_best_20 (by decide)
theorem x164_23 : X 164 23 L st h Q ↔ X 164 24 L (.int (-1) :: st) h Q := X_n mC_164 dX8_best_23 rfl
theorem x164_24 {v : Int32} : X 164 24 L [.int v] h Q ↔ Q (some (.int v)) h := X_ret mC_164 dX8_best_24 (by decide +kernel)
theorem x164_25 {l1 l2 l3 l4 l5 l6 l7 l8 : Value} {x : Nat} : X 164 25 [.ref x, l1, l2, l3, l4, l5, l6, l7, l8] st h Q ↔ X 164 26 [.ref x, l1, l2, l3, l4, l5, l6, l7, l8] (.ref x :: st) h Q := X_n mC_164 dX8_best_25 rfl
theorem x164_26 {b : Nat} : X 164 26 L [.ref b] h Q ↔ hS h b = (1, 8) ∧ X 138 0 [.ref b, .null] [] h (fun r h' => X 164 29 L (pv r []) h' Q) := X_virt (as := []) (n := 0) (ml := 2) (ck := 8) mC_164 dX8_best_26 (by unfold cOk; decide +kernel) ⟨rfl, rfl, by decide, Nat.le_of_ble_eq_true rfl⟩
theorem x164_29 {l1 l2 l3 l4 l5 l6 l7 l8 : Value} {x : Nat} : X 164 29 [.ref x, l1, l2, l3, l4, l5, l6, l7, l8] st h Q ↔ X 164 30 [.ref x, l1, l2, l3, l4, l5, l6, l7, l8] (.ref x :: st) h Q := X_n mC_164 dX8_best_29 rfl
theorem x164_30 {l0 l2 l3 l4 l5 l6 l7 l8 : Value} {x : Int32} : X 164 30 [l0, .int x, l2, l3, l4, l5, l6, l7, l8] st h Q ↔ X 164 31 [l0, .int x, l2, l3, l4, l5, l6, l7, l8] (.int x :: st) h Q := X_n mC_164 dX8_best_30 rfl
theorem x164_31 {a : Nat} {v : Int32} : X 164 31 L (.int v :: .ref a :: st) h Q ↔ hS h a = (1, 8) ∧ X 164 34 L st (sI h a 15 v) Q := X_putI mC_164 dX8_best_31 (by decide +kernel)
theorem x164_34 : X 164 34 L st h Q ↔ X 164 36 L (.int (-4) :: st) h Q := X_n mC_164 dX8_best_34 rfl
theorem x164_36 {l0 l1 l2 l3 l4 l5 l6 l7 l8 : Value} {x : Int32} : X 164 36 [l0, l1, l2, l3, l4, l5, l6, l7, l8] (.int x :: st) h Q ↔ c1 l2 = true ∧ X 164 37 [l0, l1, l2, .int x, l4, l5, l6, l7, l8] st h Q := X_sto (kk := 3) (pc' := 37) (w := .int x) mC_164 dX8_best_36 rfl (Nat.le_of_ble_eq_true rfl) rfl
theorem x164_37 : X 164 37 L st h Q ↔ X 164 38 L (.int 0 :: st) h Q := X_n mC_164 dX8_best_37 rfl
theorem x164_38 {l0 l1 l2 l3 l4 l5 l6 l7 l8 : Value} {x : Int32} : X 164 38 [l0, l1, l2, l3, l4, l5, l6, l7, l8] (.int x :: st) h Q ↔ c1 l3 = true ∧ X 164 40 [l0, l1, l2, l3, .int x, l5, l6, l7, l8] st h Q := X_sto (kk := 4) (pc' := 40) (w := .int x) mC_164 dX8_best_38 rfl (Nat.le_of_ble_eq_true rfl) rfl
theorem x164_40 {l1 l2 l3 l4 l5 l6 l7 l8 : Value} {x : Nat} : X 164 40 [.ref x, l1, l2, l3, l4, l5, l6, l7, l8] st h Q ↔ X 164 41 [.ref x, l1, l2, l3, l4, l5, l6, l7, l8] (.ref x :: st) h Q := X_n mC_164 dX8_best_40 rfl
theorem x164_41 {b : Nat} : X 164 41 L [.ref b] h Q ↔ hS h b = (1, 8) ∧ X 160 0 [.ref b, .null, .null] [] h (fun r h' => X 164 44 L (pv r []) h' Q) := X_virt (as := []) (n := 0) (ml := 3) (ck := 8) mC_164 dX8_best_41 (by unfold cOk; decide +kernel) ⟨rfl, rfl, by decide, Nat.le_of_ble_eq_true rfl⟩
theorem x164_44 {l0 l1 l2 l3 l4 l5 l6 l7 l8 : Value} {x : Int32} : X 164 44 [l0, l1, l2, l3, l4, l5, l6, l7, l8] (.int x :: st) h Q ↔ c1 l4 = true ∧ X 164 46 [l0, l1, l2, l3, l4, .int x, l6, l7, l8] st h Q := X_sto (kk := 5) (pc' := 46) (w := .int x) mC_164 dX8_best_44 rfl (Nat.le_of_ble_eq_true rfl) rfl
theorem x164_46 : X 164 46 L st h Q ↔ X 164 47 L (.int 0 :: st) h Q := X_n mC_164 dX8_best_46 rfl
theorem x164_47 {l0 l1 l2 l3 l4 l5 l6 l7 l8 : Value} {x : Int32} : X 164 47 [l0, l1, l2, l3, l4, l5, l6, l7, l8] (.int x :: st) h Q ↔ c1 l5 = true ∧ X 164 49 [l0, l1, l2, l3, l4, l5, .int x, l7, l8] st h Q := X_sto (kk := 6) (pc' := 49) (w := .int x) mC_164 dX8_best_47 rfl (Nat.le_of_ble_eq_true rfl) rfl
theorem x164_49 {l0 l1 l2 l3 l4 l5 l7 l8 : Value} {x : Int32} : X 164 49 [l0, l1, l2, l3, l4, l5, .int x, l7, l8] st h Q ↔ X 164 51 [l0, l1, l2, l3, l4, l5, .int x, l7, l8] (.int x :: st) h Q := X_n mC_164 dX8_best_49 rfl
theorem x164_51 {l0 l1 l2 l3 l4 l6 l7 l8 : Value} {x : Int32} : X 164 51 [l0, l1, l2, l3, l4, .int x, l6, l7, l8] st h Q ↔ X 164 53 [l0, l1, l2, l3, l4, .int x, l6, l7, l8] (.int x :: st) h Q := X_n mC_164 dX8_best_51 rfl
theorem x164_53 {x y : Int32} : X 164 53 L (.int y :: .int x :: st) h Q ↔ if x < y then X 164 56 L st h Q else X 164 145 L st h Q := X_ige mC_164 dX8_best_53 (by decide)
theorem x164_56 {l1 l2 l3 l4 l5 l6 l7 l8 : Value} {x : Nat} : X 164 56 [.ref x, l1, l2, l3, l4, l5, l6, l7, l8] st h Q ↔ X 164 57 [.ref x, l1, l2, l3, l4, l5, l6, l7, l8] (.ref x :: st) h Q := X_n mC_164 dX8_best_56 rfl
theorem x164_57 {l0 l1 l2 l3 l4 l5 l7 l8 : Value} {x : Int32} : X 164 57 [l0, l1, l2, l3, l4, l5, .int x, l7, l8] st h Q ↔ X 164 59 [l0, l1, l2, l3, l4, l5, .int x, l7, l8] (.int x :: st) h Q := X_n mC_164 dX8_best_57 rfl
theorem x164_59 {b : Nat} {a0 : Int32} : X 164 59 L [.int a0, .ref b] h Q ↔ hS h b = (1, 8) ∧ X 159 0 [.ref b, .int a0, .null, .null, .null] [] h (fun r h' => X 164 62 L (pv r []) h' Q) := X_virt (as := [.int a0]) (n := 1) (ml := 5) (ck := 8) mC_164 dX8_best_59 (by unfold cOk; decide +kernel) ⟨rfl, rfl, by decide, Nat.le_of_ble_eq_true rfl⟩
theorem x164_62 {x : Int32} : X 164 62 L (.int x :: st) h Q ↔ if x = 0 then X 164 75 L st h Q else X 164 65 L st h Q := X_zeq mC_164 dX8_best_62 (by decide)
theorem x164_65 {l1 l2 l3 l4 l5 l6 l7 l8 : Value} {x : Nat} : X 164 65 [.ref x, l1, l2, l3, l4, l5, l6, l7, l8] st h Q ↔ X 164 66 [.ref x, l1, l2, l3, l4, l5, l6, l7, l8] (.ref x :: st) h Q := X_n mC_164 dX8_best_65 rfl
theorem x164_66 {b : Nat} : X 164 66 L [.ref b] h Q ↔ hS h b = (1, 8) ∧ X 143 0 [.ref b, .null, .null] [] h (fun r h' => X 164 69 L (pv r []) h' Q) := X_virt (as := []) (n := 0) (ml := 3) (ck := 8) mC_164 dX8_best_66 (by unfold cOk; decide +kernel) ⟨rfl, rfl, by decide, Nat.le_of_ble_eq_true rfl⟩
theorem x164_69 {a0 : Int32} : X 164 69 L [.int a0] h Q ↔ X 124 0 [.int a0, .null, .null] [] h (fun r h' => X 164 72 L (pv r []) h' Q) := X_stat (as := [.int a0]) (n := 1) (ml := 3) (ck := 8) mC_164 dX8_best_69 (by unfold cOk; decide +kernel) ⟨rfl, rfl, by decide, Nat.le_of_ble_eq_true rfl⟩
theorem x164_72 : X 164 72 L st h Q ↔ X 164 77 L st h Q := X_goto mC_164 dX8_best_72 (by decide)
theorem x164_75 : X 164 75 L st h Q ↔ X 164 77 L (.int 99 :: st) h Q := X_n mC_164 dX8_best_75 rfl
theorem x164_77 {l0 l1 l2 l3 l4 l5 l6 l7 l8 : Value} {x : Int32} : X 164 77 [l0, l1, l2, l3, l4, l5, l6, l7, l8] (.int x :: st) h Q ↔ c1 l6 = true ∧ X 164 79 [l0, l1, l2, l3, l4, l5, l6, .int x, l8] st h Q := X_sto (kk := 7) (pc' := 79) (w := .int x) mC_164 dX8_best_77 rfl (Nat.le_of_ble_eq_true rfl) rfl
theorem x164_79 {l0 l1 l2 l3 l4 l5 l6 l8 : Value} {x : Int32} : X 164 79 [l0, l1, l2, l3, l4, l5, l6, .int x, l8] st h Q ↔ X 164 81 [l0, l1, l2, l3, l4, l5, l6, .int x, l8] (.int x :: st) h Q := X_n mC_164 dX8_best_79 rfl
theorem x164_81 : X 164 81 L st h Q ↔ X 164 83 L (.int 99 :: st) h Q := X_n mC_164 dX8_best_81 rfl
theorem x164_83 {x y : Int32} : X 164 83 L (.int y :: .int x :: st) h Q ↔ if x < y then X 164 86 L st h Q else X 164 102 L st h Q := X_ige mC_164 dX8_best_83 (by decide)
theorem x164_86 {l0 l1 l2 l4 l5 l6 l7 l8 : Value} {x : Int32} : X 164 86 [l0, l1, l2, .int x, l4, l5, l6, l7, l8] st h Q ↔ X 164 87 [l0, l1, l2, .int x, l4, l5, l6, l7, l8] (.int x :: st) h Q := X_n mC_164 dX8_best_86 rfl
theorem x164_87 : X 164 87 L st h Q ↔ X 164 89 L (.int (-4) :: st) h Q := X_n mC_164 dX8_best_87 rfl
theorem x164_89 {x y : Int32} : X 164 89 L (.int y :: .int x :: st) h Q ↔ if x = y then X 164 98 L st h Q else X 164 92 L st h Q := X_ieq mC_164 dX8_best_89 (by decide)
theorem x164_92 {l0 l1 l2 l3 l4 l5 l6 l8 : Value} {x : Int32} : X 164 92 [l0, l1, l2, l3, l4, l5, l6, .int x, l8] st h Q ↔ X 164 94 [l0, l1, l2, l3, l4, l5, l6, .int x, l8] (.int x :: st) h Q := X_n mC_164 dX8_best_92 rfl
theorem x164_94 {l0 l1 l2 l4 l5 l6 l7 l8 : Value} {x : Int32} : X 164 94 [l0, l1, l2, .int x, l4, l5, l6, l7, l8] st h Q ↔ X 164 95 [l0, l1, l2, .int x, l4, l5, l6, l7, l8] (.int x :: st) h Q := X_n mC_164 dX8_best_94 rfl
theorem x164_95 {x y : Int32} : X 164 95 L (.int y :: .int x :: st) h Q ↔ if x < y then X 164 98 L st h Q else X 164 102 L st h Q := X_ige mC_164 dX8_best_95 (by decide)
theorem x164_98 : X 164 98 L st h Q ↔ X 164 99 L (.int 1 :: st) h Q := X_n mC_164 dX8_best_98 rfl
theorem x164_99 : X 164 99 L st h Q ↔ X 164 103 L st h Q := X_goto mC_164 dX8_best_99 (by decide)
theorem x164_102 : X 164 102 L st h Q ↔ X 164 103 L (.int 0 :: st) h Q := X_n mC_164 dX8_best_102 rfl
theorem x164_103 {l0 l1 l2 l3 l4 l5 l6 l7 l8 : Value} {x : Int32} : X 164 103 [l0, l1, l2, l3, l4, l5, l6, l7, l8] (.int x :: st) h Q ↔ c1 l7 = true ∧ X 164 105 [l0, l1, l2, l3, l4, l5, l6, l7, .int x] st h Q := X_sto (kk := 8) (pc' := 105) (w := .int x) mC_164 dX8_best_103 rfl (Nat.le_of_ble_eq_true rfl) rfl
theorem x164_105 {l0 l1 l2 l3 l4 l5 l6 l7 : Value} {x : Int32} : X 164 105 [l0, l1, l2, l3, l4, l5, l6, l7, .int x] st h Q ↔ X 164 107 [l0, l1, l2, l3, l4, l5, l6, l7, .int x] (.int x :: st) h Q := X_n mC_164 dX8_best_105 rfl
theorem x164_107 {x : Int32} : X 164 107 L (.int x :: st) h Q ↔ if x = 0 then X 164 115 L st h Q else X 164 110 L st h Q := X_zeq mC_164 dX8_best_107 (by decide)
theorem x164_110 {l0 l1 l2 l3 l4 l5 l6 l8 : Value} {x : Int32} : X 164 110 [l0, l1, l2, l3, l4, l5, l6, .int x, l8] st h Q ↔ X 164 112 [l0, l1, l2, l3, l4, l5, l6, .int x, l8] (.int x :: st) h Q := X_n mC_164 dX8_best_110 rfl
theorem x164_112 : X 164 112 L st h Q ↔ X 164 116 L st h Q := X_goto mC_164 dX8_best_112 (by decide)
theorem x164_115 {l0 l1 l2 l4 l5 l6 l7 l8 : Value} {x : Int32} : X 164 115 [l0, l1, l2, .int x, l4, l5, l6, l7, l8] st h Q ↔ X 164 116 [l0, l1, l2, .int x, l4, l5, l6, l7, l8] (.int x :: st) h Q := X_n mC_164 dX8_best_115 rfl
theorem x164_116 {l0 l1 l2 l3 l4 l5 l6 l7 l8 : Value} {x : Int32} : X 164 116 [l0, l1, l2, l3, l4, l5, l6, l7, l8] (.int x :: st) h Q ↔ c1 l2 = true ∧ X 164 117 [l0, l1, l2, .int x, l4, l5, l6, l7, l8] st h Q := X_sto (kk := 3) (pc' := 117) (w := .int x) mC_164 dX8_best_116 rfl (Nat.le_of_ble_eq_true rfl) rfl
theorem x164_117 {l0 l1 l2 l3 l4 l5 l6 l7 : Value} {x : Int32} : X 164 117 [l0, l1, l2, l3, l4, l5, l6, l7, .int x] st h Q ↔ X 164 119 [l0, l1, l2, l3, l4, l5, l6, l7, .int x] (.int x :: st) h Q := X_n mC_164 dX8_best_117 rfl
theorem x164_119 {x : Int32} : X 164 119 L (.int x :: st) h Q ↔ if x = 0 then X 164 135 L st h Q else X 164 122 L st h Q := X_zeq mC_164 dX8_best_119 (by decide)
theorem x164_122 {l0 l1 l3 l4 l5 l6 l7 l8 : Value} {x : Int32} : X 164 122 [l0, l1, .int x, l3, l4, l5, l6, l7, l8] st h Q ↔ X 164 123 [l0, l1, .int x, l3, l4, l5, l6, l7, l8] (.int x :: st) h Q := X_n mC_164 dX8_best_122 rfl
theorem x164_123 {x : Int32} : X 164 123 L (.int x :: st) h Q ↔ if x < 0 then X 164 135 L st h Q else X 164 126 L st h Q := X_zlt mC_164 dX8_best_123 (by decide)
theorem x164_126 {l1 l2 l3 l4 l5 l6 l7 l8 : Value} {x : Nat} : X 164 126 [.ref x, l1, l2, l3, l4, l5, l6, l7, l8] st h Q ↔ X 164 127 [.ref x, l1, l2, l3, l4, l5, l6, l7, l8] (.ref x :: st) h Q := X_n mC_164 dX8_best_126 rfl
theorem x164_127 {a : Nat} : X 164 127 L (.ref a :: st) h Q ↔ (hS h a = (1, 8) ∧ hR h a 12 ≠ 0) ∧ X 164 130 L (.ref (hR h a 12) :: st) h Q := X_getR mC_164 dX8_best_127 (by decide +kernel)
theorem x164_130 {l0 l1 l3 l4 l5 l6 l7 l8 : Value} {x : Int32} : X 164 130 [l0, l1, .int x, l3, l4, l5, l6, l7, l8] st h Q ↔ X 164 131 [l0, l1, .int x, l3, l4, l5, l6, l7, l8] (.int x :: st) h Q := X_n mC_164 dX8_best_130 rfl
theorem x164_131 {j : Int32} {a : Nat} : X 164 131 L (.int j :: .ref a :: st) h Q ↔ ib j (hS h a) ∧ X 164 132 L (.int (hI h a j.toNatClampNeg) :: st) h Q := X_iald mC_164 dX8_best_131
theorem x164_132 : X 164 132 L st h Q ↔ X 164 137 L st h Q := X_goto mC_164 dX8_best_132 (by decide)
theorem x164_135 {l0 l1 l2 l3 l5 l6 l7 l8 : Value} {x : Int32} : X 164 135 [l0, l1, l2, l3, .int x, l5, l6, l7, l8] st h Q ↔ X 164 137 [l0, l1, l2, l3, .int x, l5, l6, l7, l8] (.int x :: st) h Q := X_n mC_164 dX8_best_135 rfl
theorem x164_137 {l0 l1 l2 l3 l4 l5 l6 l7 l8 : Value} {x : Int32} : X 164 137 [l0, l1, l2, l3, l4, l5, l6, l7, l8] (.int x :: st) h Q ↔ c1 l3 = true ∧ X 164 139 [l0, l1, l2, l3, .int x, l5, l6, l7, l8] st h Q := X_sto (kk := 4) (pc' := 139) (w := .int x) mC_164 dX8_best_137 rfl (Nat.le_of_ble_eq_true rfl) rfl
theorem x164_139 {l0 l1 l2 l3 l4 l5 l7 l8 : Value} {x : Int32} : X 164 139 [l0, l1, l2, l3, l4, l5, .int x, l7, l8] st h Q ↔ c1 l5 = true ∧ X 164 142 [l0, l1, l2, l3, l4, l5, .int (x + 1), l7, l8] st h Q := X_inc (pc' := 142) (x := x) mC_164 dX8_best_139 rfl rfl rfl
theorem x164_142 : X 164 142 L st h Q ↔ X 164 49 L st h Q := X_goto mC_164 dX8_best_142 (by decide)
theorem x164_145 {l0 l1 l3 l4 l5 l6 l7 l8 : Value} {x : Int32} : X 164 145 [l0, l1, .int x, l3, l4, l5, l6, l7, l8] st h Q ↔ X 164 146 [l0, l1, .int x, l3, l4, l5, l6, l7, l8] (.int x :: st) h Q := X_n mC_164 dX8_best_145 rfl
theorem x164_146 {x : Int32} : X 164 146 L (.int x :: st) h Q ↔ if x < 0 then X 164 149 L st h Q else X 164 153 L st h Q := X_zge mC_164 dX8_best_146 (by decide)
theorem x164_149 {l0 l1 l2 l4 l5 l6 l7 l8 : Value} {x : Int32} : X 164 149 [l0, l1, l2, .int x, l4, l5, l6, l7, l8] st h Q ↔ X 164 150 [l0, l1, l2, .int x, l4, l5, l6, l7, l8] (.int x :: st) h Q := X_n mC_164 dX8_best_149 rfl
theorem x164_150 : X 164 150 L st h Q ↔ X 164 155 L st h Q := X_goto mC_164 dX8_best_150 (by decide)
theorem x164_153 {l0 l1 l2 l3 l5 l6 l7 l8 : Value} {x : Int32} : X 164 153 [l0, l1, l2, l3, .int x, l5, l6, l7, l8] st h Q ↔ X 164 155 [l0, l1, l2, l3, .int x, l5, l6, l7, l8] (.int x :: st) h Q := X_n mC_164 dX8_best_153 rfl
theorem x164_155 {v : Int32} : X 164 155 L [.int v] h Q ↔ Q (some (.int v)) h := X_ret mC_164 dX8_best_155 (by decide +kernel)
theorem mC_165 : mC 165 = cX8_allNight := rfl
theorem x165_0 : X 165 0 L st h Q ↔ X 165 1 L (.int 0 :: st) h Q := X_n mC_165 dX8_allNight_0 rfl
theorem x165_1 {l0 l1 l2 : Value} {x : Int32} : X 165 1 [l0, l1, l2] (.int x :: st) h Q ↔ c1 l0 = true ∧ X 165 2 [l0, .int x, l2] st h Q := X_sto (kk := 1) (pc' := 2) (w := .int x) mC_165 dX8_allNight_1 rfl (Nat.le_of_ble_eq_true rfl) rfl
theorem x165_2 : X 165 2 L st h Q ↔ X 165 3 L (.int 0 :: st) h Q := X_n mC_165 dX8_allNight_2 rfl
theorem x165_3 {l0 l1 l2 : Value} {x : Int32} : X 165 3 [l0, l1, l2] (.int x :: st) h Q ↔ c1 l1 = true ∧ X 165 4 [l0, l1, .int x] st h Q := X_sto (kk := 2) (pc' := 4) (w := .int x) mC_165 dX8_allNight_3 rfl (Nat.le_of_ble_eq_true rfl) rfl
theorem x165_4 {l0 l1 : Value} {x : Int32} : X 165 4 [l0, l1, .int x] st h Q ↔ X 165 5 [l0, l1, .int x] (.int x :: st) h Q := X_n mC_165 dX8_allNight_4 rfl
theorem x165_5 : X 165 5 L st h Q ↔ X 165 7 L (.int 8 :: st) h Q := X_n mC_165 dX8_allNight_5 rfl
theorem x165_7 {x y : Int32} : X 165 7 L (.int y :: .int x :: st) h Q ↔ if x < y then X 165 10 L st h Q else X 165 31 L st h Q := X_ige mC_165 dX8_allNight_7 (by decide)
theorem x165_10 {l1 l2 : Value} {x : Nat} : X 165 10 [.ref x, l1, l2] st h Q ↔ X 165 11 [.ref x, l1, l2] (.ref x :: st) h Q := X_n mC_165 dX8_allNight_10 rfl
theorem x165_11 {l0 l1 : Value} {x : Int32} : X 165 11 [l0, l1, .int x] st h Q ↔ X 165 12 [l0, l1, .int x] (.int x :: st) h Q := X_n mC_165 dX8_allNight_11 rfl
theorem x165_12 {a : Nat} {v : Int32} : X 165 12 L (.int v :: .ref a :: st) h Q ↔ hS h a = (1, 8) ∧ X 165 15 L st (sI h a 15 v) Q := X_putI mC_165 dX8_allNight_12 (by decide +kernel)
theorem x165_15 {l0 l2 : Value} {x : Int32} : X 165 15 [l0, .int x, l2] st h Q ↔ X 165 16 [l0, .int x, l2] (.int x :: st) h Q := X_n mC_165 dX8_allNight_15 rfl
theorem x165_16 {l1 l2 : Value} {x : Nat} : X 165 16 [.ref x, l1, l2] st h Q ↔ X 165 17 [.ref x, l1, l2] (.ref x :: st) h Q := X_n mC_165 dX8_allNight_16 rfl
theorem x165_17 {b : Nat} {w0 : Value} : X 165 17 L [.ref b, w0] h Q ↔ hS h b = (1, 8) ∧ X 143 0 [.ref b, .null, .null] [] h (fun r h' => X 165 20 L (pv r [w0]) h' Q) := X_virt (as := []) (n := 0) (ml := 3) (ck := 8) mC_165 dX8_allNight_17 (by unfold cOk; decide +kernel) ⟨rfl, rfl, by decide, Nat.le_of_ble_eq_true rfl⟩
theorem x165_20 {a0 : Int32} {w0 : Value} : X 165 20 L [.int a0, w0] h Q ↔ X 124 0 [.int a0, .null, .null] [] h (fun r h' => X 165 23 L (pv r [w0]) h' Q) := X_stat (as := [.int a0]) (n := 1) (ml := 3) (ck := 8) mC_165 dX8_allNight_20 (by unfold cOk; decide +kernel) ⟨rfl, rfl, by decide, Nat.le_of_ble_eq_true rfl⟩
theorem x165_23 {x y : Int32} : X 165 23 L (.int y :: .int x :: st) h Q ↔ X 165 24 L (.int (x + y) :: st) h Q := X_n mC_165 dX8_allNight_23 rfl
theorem x165_24 {l0 l1 l2 : Value} {x : Int32} : X 165 24 [l0, l1, l2] (.int x :: st) h Q ↔ c1 l0 = true ∧ X 165 25 [l0, .int x, l2] st h Q := X_sto (kk := 1) (pc' := 25) (w := .int x) mC_165 dX8_allNight_24 rfl (Nat.le_of_ble_eq_true rfl) rfl
theorem x165_25 {l0 l1 : Value} {x : Int32} : X 165 25 [l0, l1, .int x] st h Q ↔ c1 l1 = true ∧ X 165 28 [l0, l1, .int (x + 1)] st h Q := X_inc (pc' := 28) (x := x) mC_165 dX8_allNight_25 rfl rfl rfl
theorem x165_28 : X 165 28 L st h Q ↔ X 165 4 L st h Q := X_goto mC_165 dX8_allNight_28 (by decide)
theorem x165_31 {l0 l2 : Value} {x : Int32} : X 165 31 [l0, .int x, l2] st h Q ↔ X 165 32 [l0, .int x, l2] (.int x :: st) h Q := X_n mC_165 dX8_allNight_31 rfl
theorem x165_32 {v : Int32} : X 165 32 L [.int v] h Q ↔ Q (some (.int v)) h := X_ret mC_165 dX8_allNight_32 (by decide +kernel)
theorem mC_166 : mC 166 = cX8_wallTo := rfl
theorem x166_0 {l0 l2 l3 l4 l5 l6 : Value} {x : Int32} : X 166 0 [l0, .int x, l2, l3, l4, l5, l6] st h Q ↔ X 166 1 [l0, .int x, l2, l3, l4, l5, l6] (.int x :: st) h Q := X_n mC_166 dX8_wallTo_0 rfl
theorem x166_1 : X 166 1 L st h Q ↔ X 166 2 L (.int 0 :: st) h Q := X_n mC_166 dX8_wallTo_1 rfl
theorem x166_2 : X 166 2 L st h Q ↔ X 166 3 L (.int 1 :: st) h Q := X_n mC_166 dX8_wallTo_2 rfl
theorem x166_3 {a0 : Int32} {a1 : Int32} {a2 : Int32} : X 166 3 L [.int a2, .int a1, .int a0] h Q ↔ X 120 0 [.int a0, .int a1, .int a2] [] h (fun r h' => X 166 6 L (pv r []) h' Q) := X_stat (as := [.int a0, .int a1, .int a2]) (n := 3) (ml := 3) (ck := 8) mC_166 dX8_wallTo_3 (by unfold cOk; decide +kernel) ⟨rfl, rfl, by decide, Nat.le_of_ble_eq_true rfl⟩
theorem x166_6 {x : Int32} : X 166 6 L (.int x :: st) h Q ↔ if x = 0 then X 166 9 L st h Q else X 166 11 L st h Q := X_zne mC_166 dX8_wallTo_6 (by decide)
theorem x166_9 : X 166 9 L st h Q ↔ X 166 10 L (.int (-1) :: st) h Q := X_n mC_166 dX8_wallTo_9 rfl
theorem x166_10 {v : Int32} : X 166 10 L [.int v] h Q ↔ Q (some (.int v)) h := X_ret mC_166 dX8_wallTo_10 (by decide +kernel)
theorem x166_11 {l1 l2 l3 l4 l5 l6 : Value} {x : Nat} : X 166 11 [.ref x, l1, l2, l3, l4, l5, l6] st h Q ↔ X 166 12 [.ref x, l1, l2, l3, l4, l5, l6] (.ref x :: st) h Q := X_n mC_166 dX8_wallTo_11 rfl
theorem x166_12 {b : Nat} : X 166 12 L [.ref b] h Q ↔ hS h b = (1, 8) ∧ X 138 0 [.ref b, .null] [] h (fun r h' => X 166 15 L (pv r []) h' Q) := X_virt (as := []) (n := 0) (ml := 2) (ck := 8) mC_166 dX8_wallTo_12 (by unfold cOk; decide +kernel) ⟨rfl, rfl, by decide, Nat.le_of_ble_eq_true rfl⟩
theorem x166_15 : X 166 15 L st h Q ↔ X 166 17 L (.int (-4) :: st) h Q := X_n mC_166 dX8_wallTo_15 rfl
theorem x166_17 {l0 l1 l2 l3 l4 l5 l6 : Value} {x : Int32} : X 166 17 [l0, l1, l2, l3, l4, l5, l6] (.int x :: st) h Q ↔ c1 l1 = true ∧ X 166 18 [l0, l1, .int x, l3, l4, l5, l6] st h Q := X_sto (kk := 2) (pc' := 18) (w := .int x) mC_166 dX8_wallTo_17 rfl (Nat.le_of_ble_eq_true rfl) rfl
theorem x166_18 : X 166 18 L st h Q ↔ X 166 20 L (.int (-4) :: st) h Q := X_n mC_166 dX8_wallTo_18 rfl
theorem x166_20 {l0 l1 l2 l3 l4 l5 l6 : Value} {x : Int32} : X 166 20 [l0, l1, l2, l3, l4, l5, l6] (.int x :: st) h Q ↔ c1 l2 = true ∧ X 166 21 [l0, l1, l2, .int x, l4, l5, l6] st h Q := X_sto (kk := 3) (pc' := 21) (w := .int x) mC_166 dX8_wallTo_20 rfl (Nat.le_of_ble_eq_true rfl) rfl
theorem x166_21 : X 166 21 L st h Q ↔ X 166 22 L (.int 0 :: st) h Q := X_n mC_166 dX8_wallTo_21 rfl
theorem x166_22 {l0 l1 l2 l3 l4 l5 l6 : Value} {x : Int32} : X 166 22 [l0, l1, l2, l3, l4, l5, l6] (.int x :: st) h Q ↔ c1 l3 = true ∧ X 166 24 [l0, l1, l2, l3, .int x, l5, l6] st h Q := X_sto (kk := 4) (pc' := 24) (w := .int x) mC_166 dX8_wallTo_22 rfl (Nat.le_of_ble_eq_true rfl) rfl
theorem x166_24 {l0 l1 l2 l3 l5 l6 : Value} {x : Int32} : X 166 24 [l0, l1, l2, l3, .int x, l5, l6] st h Q ↔ X 166 26 [l0, l1, l2, l3, .int x, l5, l6] (.int x :: st) h Q := X_n mC_166 dX8_wallTo_24 rfl
theorem x166_26 : X 166 26 L st h Q ↔ X 166 27 L (.int 1 :: st) h Q := X_n mC_166 dX8_wallTo_26 rfl
theorem x166_27 {x y : Int32} : X 166 27 L (.int y :: .int x :: st) h Q ↔ X 166 28 L (.int (x + y) :: st) h Q := X_n mC_166 dX8_wallTo_27 rfl
theorem x166_28 {l1 l2 l3 l4 l5 l6 : Value} {x : Nat} : X 166 28 [.ref x, l1, l2, l3, l4, l5, l6] st h Q ↔ X 166 29 [.ref x, l1, l2, l3, l4, l5, l6] (.ref x :: st) h Q := X_n mC_166 dX8_wallTo_28 rfl
theorem x166_29 {a : Nat} : X 166 29 L (.ref a :: st) h Q ↔ (hS h a = (1, 8) ∧ hR h a 2 ≠ 0) ∧ X 166 32 L (.ref (hR h a 2) :: st) h Q := X_getR mC_166 dX8_wallTo_29 (by decide +kernel)
theorem x166_32 : X 166 32 L st h Q ↔ X 166 33 L (.int 1 :: st) h Q := X_n mC_166 dX8_wallTo_32 rfl
theorem x166_33 {j : Int32} {a : Nat} : X 166 33 L (.int j :: .ref a :: st) h Q ↔ ib j (hS h a) ∧ X 166 34 L (.int (hI h a j.toNatClampNeg) :: st) h Q := X_iald mC_166 dX8_wallTo_33
theorem x166_34 {x y : Int32} : X 166 34 L (.int y :: .int x :: st) h Q ↔ if x < y then X 166 37 L st h Q else X 166 121 L st h Q := X_ige mC_166 dX8_wallTo_34 (by decide)
theorem x166_37 {l1 l2 l3 l4 l5 l6 : Value} {x : Nat} : X 166 37 [.ref x, l1, l2, l3, l4, l5, l6] st h Q ↔ X 166 38 [.ref x, l1, l2, l3, l4, l5, l6] (.ref x :: st) h Q := X_n mC_166 dX8_wallTo_37 rfl
theorem x166_38 {a : Nat} : X 166 38 L (.ref a :: st) h Q ↔ (hS h a = (1, 8) ∧ hR h a 4 ≠ 0) ∧ X 166 41 L (.ref (hR h a 4) :: st) h Q := X_getR mC_166 dX8_wallTo_38 (by decide +kernel)
theorem x166_41 : X 166 41 L st h Q ↔ X 166 42 L (.int 5 :: st) h Q := X_n mC_166 dX8_wallTo_41 rfl
theorem x166_42 {j : Int32} {a : Nat} : X 166 42 L (.int j :: .ref a :: st) h Q ↔ ib j (hS h a) ∧ X 166 43 L (.int (hI h a j.toNatClampNeg) :: st) h Q := X_iald mC_166 dX8_wallTo_42
theorem x166_43 {l0 l1 l2 l3 l5 l6 : Value} {x : Int32} : X 166 43 [l0, l1, l2, l3, .int x, l5, l6] st h Q ↔ X 166 45 [l0, l1, l2, l3, .int x, l5, l6] (.int x :: st) h Q := X_n mC_166 dX8_wallTo_43 rfl
theorem x166_45 {x y : Int32} : X 166 45 L (.int y :: .int x :: st) h Q ↔ X 166 46 L (.int (x >>> (y &&& 31)) :: st) h Q := X_n mC_166 dX8_wallTo_45 rfl
theorem x166_46 : X 166 46 L st h Q ↔ X 166 47 L (.int 1 :: st) h Q := X_n mC_166 dX8_wallTo_46 rfl
theorem x166_47 {x y : Int32} : X 166 47 L (.int y :: .int x :: st) h Q ↔ X 166 48 L (.int (x &&& y) :: st) h Q := X_n mC_166 dX8_wallTo_47 rfl
theorem x166_48 {x : Int32} : X 166 48 L (.int x :: st) h Q ↔ if x = 0 then X 166 51 L st h Q else X 166 115 L st h Q := X_zne mC_166 dX8_wallTo_48 (by decide)
theorem x166_51 {l1 l2 l3 l4 l5 l6 : Value} {x : Nat} : X 166 51 [.ref x, l1, l2, l3, l4, l5, l6] st h Q ↔ X 166 52 [.ref x, l1, l2, l3, l4, l5, l6] (.ref x :: st) h Q := X_n mC_166 dX8_wallTo_51 rfl
theorem x166_52 {l1 l2 l3 l4 l5 l6 : Value} {x : Nat} : X 166 52 [.ref x, l1, l2, l3, l4, l5, l6] st h Q ↔ X 166 53 [.ref x, l1, l2, l3, l4, l5, l6] (.ref x :: st) h Q := X_n mC_166 dX8_wallTo_52 rfl
theorem x166_53 {a : Nat} : X 166 53 L (.ref a :: st) h Q ↔ (hS h a = (1, 8) ∧ hR h a 4 ≠ 0) ∧ X 166 56 L (.ref (hR h a 4) :: st) h Q := X_getR mC_166 dX8_wallTo_53 (by decide +kernel)
theorem x166_56 : X 166 56 L st h Q ↔ X 166 57 L (.int 5 :: st) h Q := X_n mC_166 dX8_wallTo_56 rfl
theorem x166_57 {j : Int32} {a : Nat} : X 166 57 L (.int j :: .ref a :: st) h Q ↔ ib j (hS h a) ∧ X 166 58 L (.int (hI h a j.toNatClampNeg) :: st) h Q := X_iald mC_166 dX8_wallTo_57
theorem x166_58 : X 166 58 L st h Q ↔ X 166 59 L (.int 1 :: st) h Q := X_n mC_166 dX8_wallTo_58 rfl
theorem x166_59 {l0 l1 l2 l3 l5 l6 : Value} {x : Int32} : X 166 59 [l0, l1, l2, l3, .int x, l5, l6] st h Q ↔ X 166 61 [l0, l1, l2, l3, .int x, l5, l6] (.int x :: st) h Q := X_n mC_166 dX8_wallTo_59 rfl
theorem x166_61 {x y : Int32} : X 166 61 L (.int y :: .int x :: st) h Q ↔ X 166 62 L (.int (x <<< (y &&& 31)) :: st) h Q := X_n mC_166 dX8_wallTo_61 rfl
theorem x166_62 {x y : Int32} : X 166 62 L (.int y :: .int x :: st) h Q ↔ X 166 63 L (.int (x ||| y) :: st) h Q := X_n mC_166 dX8_wallTo_62 rfl
theorem x166_63 {a : Nat} {v : Int32} : X 166 63 L (.int v :: .ref a :: st) h Q ↔ hS h a = (1, 8) ∧ X 166 66 L st (sI h a 14 v) Q := X_putI mC_166 dX8_wallTo_63 (by decide +kernel)
theorem x166_66 {l1 l2 l3 l4 l5 l6 : Value} {x : Nat} : X 166 66 [.ref x, l1, l2, l3, l4, l5, l6] st h Q ↔ X 166 67 [.ref x, l1, l2, l3, l4, l5, l6] (.ref x :: st) h Q := X_n mC_166 dX8_wallTo_66 rfl
theorem x166_67 {b : Nat} : X 166 67 L [.ref b] h Q ↔ hS h b = (1, 8) ∧ X 165 0 [.ref b, .null, .null] [] h (fun r h' => X 166 70 L (pv r []) h' Q) := X_virt (as := []) (n := 0) (ml := 3) (ck := 8) mC_166 dX8_wallTo_67 (by unfold cOk; decide +kernel) ⟨rfl, rfl, by decide, Nat.le_of_ble_eq_true rfl⟩
theorem x166_70 {l0 l1 l2 l3 l4 l5 l6 : Value} {x : Int32} : X 166 70 [l0, l1, l2, l3, l4, l5, l6] (.int x :: st) h Q ↔ c1 l4 = true ∧ X 166 72 [l0, l1, l2, l3, l4, .int x, l6] st h Q := X_sto (kk := 5) (pc' := 72) (w := .int x) mC_166 dX8_wallTo_70 rfl (Nat.le_of_ble_eq_true rfl) rfl
theorem x166_72 {l0 l1 l3 l4 l5 l6 : Value} {x : Int32} : X 166 72 [l0, l1, .int x, l3, l4, l5, l6] st h Q ↔ X 166 73 [l0, l1, .int x, l3, l4, l5, l6] (.int x :: st) h Q := X_n mC_166 dX8_wallTo_72 rfl
theorem x166_73 : X 166 73 L st h Q ↔ X 166 75 L (.int (-4) :: st) h Q := X_n mC_166 dX8_wallTo_73 rfl
theorem x166_75 {x y : Int32} : X 166 75 L (.int y :: .int x :: st) h Q ↔ if x = y then X 166 84 L st h Q else X 166 78 L st h Q := X_ieq mC_166 dX8_wallTo_75 (by decide)
theorem x166_78 {l0 l1 l2 l3 l4 l6 : Value} {x : Int32} : X 166 78 [l0, l1, l2, l3, l4, .int x, l6] st h Q ↔ X 166 80 [l0, l1, l2, l3, l4, .int x, l6] (.int x :: st) h Q := X_n mC_166 dX8_wallTo_78 rfl
theorem x166_80 {l0 l1 l2 l4 l5 l6 : Value} {x : Int32} : X 166 80 [l0, l1, l2, .int x, l4, l5, l6] st h Q ↔ X 166 81 [l0, l1, l2, .int x, l4, l5, l6] (.int x :: st) h Q := X_n mC_166 dX8_wallTo_80 rfl
theorem x166_81 {x y : Int32} : X 166 81 L (.int y :: .int x :: st) h Q ↔ if x < y then X 166 84 L st h Q else X 166 88 L st h Q := X_ige mC_166 dX8_wallTo_81 (by decide)
theorem x166_84 : X 166 84 L st h Q ↔ X 166 85 L (.int 1 :: st) h Q := X_n mC_166 dX8_wallTo_84 rfl
theorem x166_85 : X 166 85 L st h Q ↔ X 166 89 L st h Q := X_goto mC_166 dX8_wallTo_85 (by decide)
theorem x166_88 : X 166 88 L st h Q ↔ X 166 89 L (.int 0 :: st) h Q := X_n mC_166 dX8_wallTo_88 rfl
theorem x166_89 {l0 l1 l2 l3 l4 l5 l6 : Value} {x : Int32} : X 166 89 [l0, l1, l2, l3, l4, l5, l6] (.int x :: st) h Q ↔ c1 l5 = true ∧ X 166 91 [l0, l1, l2, l3, l4, l5, .int x] st h Q := X_sto (kk := 6) (pc' := 91) (w := .int x) mC_166 dX8_wallTo_89 rfl (Nat.le_of_ble_eq_true rfl) rfl
theorem x166_91 {l0 l1 l2 l3 l4 l5 : Value} {x : Int32} : X 166 91 [l0, l1, l2, l3, l4, l5, .int x] st h Q ↔ X 166 93 [l0, l1, l2, l3, l4, l5, .int x] (.int x :: st) h Q := X_n mC_166 dX8_wallTo_91 rfl
theorem x166_93 {x : Int32} : X 166 93 L (.int x :: st) h Q ↔ if x = 0 then X 166 101 L st h Q else X 166 96 L st h Q := X_zeq mC_166 dX8_wallTo_93 (by decide)
theorem x166_96 {l0 l1 l2 l3 l5 l6 : Value} {x : Int32} : X 166 96 [l0, l1, l2, l3, .int x, l5, l6] st h Q ↔ X 166 98 [l0, l1, l2, l3, .int x, l5, l6] (.int x :: st) h Q := X_n mC_166 dX8_wallTo_96 rfl
theorem x166_98 : X 166 98 L st h Q ↔ X 166 102 L st h Q := X_goto mC_166 dX8_wallTo_98 (by decide)
theorem x166_101 {l0 l1 l3 l4 l5 l6 : Value} {x : Int32} : X 166 101 [l0, l1, .int x, l3, l4, l5, l6] st h Q ↔ X 166 102 [l0, l1, .int x, l3, l4, l5, l6] (.int x :: st) h Q := X_n mC_166 dX8_wallTo_101 rfl
theorem x166_102 {l0 l1 l2 l3 l4 l5 l6 : Value} {x : Int32} : X 166 102 [l0, l1, l2, l3, l4, l5, l6] (.int x :: st) h Q ↔ c1 l1 = true ∧ X 166 103 [l0, l1, .int x, l3, l4, l5, l6] st h Q := X_sto (kk := 2) (pc' := 103) (w := .int x) mC_166 dX8_wallTo_102 rfl (Nat.le_of_ble_eq_true rfl) rfl
theorem x166_103 {l0 l1 l2 l3 l4 l5 : Value} {x : Int32} : X 166 103 [l0, l1, l2, l3, l4, l5, .int x] st h Q ↔ X 166 105 [l0, l1, l2, l3, l4, l5, .int x] (.int x :: st) h Q := X_n mC_166 dX8_wallTo_103 rfl
theorem x166_105 {x : Int32} : X 166 105 L (.int x :: st) h Q ↔ if x = 0 then X 166 113 L st h Q else X 166 108 L st h Q := X_zeq mC_166 dX8_wallTo_105 (by decide)
theorem x166_108 {l0 l1 l2 l3 l4 l6 : Value} {x : Int32} : X 166 108 [l0, l1, l2, l3, l4, .int x, l6] st h Q ↔ X 166 110 [l0, l1, l2, l3, l4, .int x, l6] (.int x :: st) h Q := X_n mC_166 dX8_wallTo_108 rfl
theorem x166_110 : X 166 110 L st h Q ↔ X 166 114 L st h Q := X_goto mC_166 dX8_wallTo_110 (by decide)
theorem x166_113 {l0 l1 l2 l4 l5 l6 : Value} {x : Int32} : X 166 113 [l0, l1, l2, .int x, l4, l5, l6] st h Q ↔ X 166 114 [l0, l1, l2, .int x, l4, l5, l6] (.int x :: st) h Q := X_n mC_166 dX8_wallTo_113 rfl
theorem x166_114 {l0 l1 l2 l3 l4 l5 l6 : Value} {x : Int32} : X 166 114 [l0, l1, l2, l3, l4, l5, l6] (.int x :: st) h Q ↔ c1 l2 = true ∧ X 166 115 [l0, l1, l2, .int x, l4, l5, l6] st h Q := X_sto (kk := 3) (pc' := 115) (w := .int x) mC_166 dX8_wallTo_114 rfl (Nat.le_of_ble_eq_true rfl) rfl
theorem x166_115 {l0 l1 l2 l3 l5 l6 : Value} {x : Int32} : X 166 115 [l0, l1, l2, l3, .int x, l5, l6] st h Q ↔ c1 l3 = true ∧ X 166 118 [l0, l1, l2, l3, .int (x + 1), l5, l6] st h Q := X_inc (pc' := 118) (x := x) mC_166 dX8_wallTo_115 rfl rfl rfl
theorem x166_118 : X 166 118 L st h Q ↔ X 166 24 L st h Q := X_goto mC_166 dX8_wallTo_118 (by decide)
theorem x166_121 {l0 l2 l3 l4 l5 l6 : Value} {x : Int32} : X 166 121 [l0, .int x, l2, l3, l4, l5, l6] st h Q ↔ X 166 122 [l0, .int x, l2, l3, l4, l5, l6] (.int x :: st) h Q := X_n mC_166 dX8_wallTo_121 rfl
theorem x166_122 {x : Int32} : X 166 122 L (.int x :: st) h Q ↔ if x = 0 then X 166 125 L st h Q else X 166 129 L st h Q := X_zne mC_166 dX8_wallTo_122 (by decide)
theorem x166_125 {l0 l1 l3 l4 l5 l6 : Value} {x : Int32} : X 166 125 [l0, l1, .int x, l3, l4, l5, l6] st h Q ↔ X 166 126 [l0, l1, .int x, l3, l4, l5, l6] (.int x :: st) h Q := X_n mC_166 dX8_wallTo_125 rfl
theorem x166_126 : X 166 126 L st h Q ↔ X 166 130 L st h Q := X_goto mC_166 dX8_wallTo_126 (by decide)
theorem x166_129 {l0 l1 l2 l4 l5 l6 : Value} {x : Int32} : X 166 129 [l0, l1, l2, .int x, l4, l5, l6] st h Q ↔ X 166 130 [l0, l1, l2, .int x, l4, l5, l6] (.int x :: st) h Q := X_n mC_166 dX8_wallTo_129 rfl
theorem x166_130 {v : Int32} : X 166 130 L [.int v] h Q ↔ Q (some (.int v)) h := X_ret mC_166 dX8_wallTo_130 (by decide +kernel)
theorem mC_167 : mC 167 = cX8_within := rfl
theorem x167_0 {l0 l2 l3 l4 l5 l6 l7 l8 l9 : Value} {x : Int32} : X 167 0 [l0, .int x, l2, l3, l4, l5, l6, l7, l8, l9] st h Q ↔ X 167 1 [l0, .int x, l2, l3, l4, l5, l6, l7, l8, l9] (.int x :: st) h Q := X_n mC_167 dX8_within_0 rfl
theorem x167_1 : X 167 1 L st h Q ↔ X 167 2 L (.int 0 :: st) h Q := X_n mC_167 dX8_within_1 rfl
theorem x167_2 : X 167 2 L st h Q ↔ X 167 4 L (.int 40 :: st) h Q := X_n mC_167 dX8_within_2 rfl
theorem x167_4 {a0 : Int32} {a1 : Int32} {a2 : Int32} : X 167 4 L [.int a2, .int a1, .int a0] h Q ↔ X 120 0 [.int a0, .int a1, .int a2] [] h (fun r h' => X 167 7 L (pv r []) h' Q) := X_stat (as := [.int a0, .int a1, .int a2]) (n := 3) (ml := 3) (ck := 8) mC_167 dX8_within_4 (by unfold cOk; decide +kernel) ⟨rfl, rfl, by decide, Nat.le_of_ble_eq_true rfl⟩
theorem x167_7 {x : Int32} : X 167 7 L (.int x :: st) h Q ↔ if x = 0 then X 167 23 L st h Q else X 167 10 L st h Q := X_zeq mC_167 dX8_within_7 (by decide)
theorem x167_10 {l0 l1 l3 l4 l5 l6 l7 l8 l9 : Value} {x : Int32} : X 167 10 [l0, l1, .int x, l3, l4, l5, l6, l7, l8, l9] st h Q ↔ X 167 11 [l0, l1, .int x, l3, l4, l5, l6, l7, l8, l9] (.int x :: st) h Q := X_n mC_167 dX8_within_10 rfl
theorem x167_11 : X 167 11 L st h Q ↔ X 167 12 L (.int (-1) :: st) h Q := X_n mC_167 dX8_within_11 rfl
theorem x167_12 {x y : Int32} : X 167 12 L (.int y :: .int x :: st) h Q ↔ if x = y then X 167 25 L st h Q else X 167 15 L st h Q := X_ieq mC_167 dX8_within_12 (by decide)
theorem x167_15 {l1 l2 l3 l4 l5 l6 l7 l8 l9 : Value} {x : Nat} : X 167 15 [.ref x, l1, l2, l3, l4, l5, l6, l7, l8, l9] st h Q ↔ X 167 16 [.ref x, l1, l2, l3, l4, l5, l6, l7, l8, l9] (.ref x :: st) h Q := X_n mC_167 dX8_within_15 rfl
theorem x167_16 {l0 l1 l3 l4 l5 l6 l7 l8 l9 : Value} {x : Int32} : X 167 16 [l0, l1, .int x, l3, l4, l5, l6, l7, l8, l9] st h Q ↔ X 167 17 [l0, l1, .int x, l3, l4, l5, l6, l7, l8, l9] (.int x :: st) h Q := X_n mC_167 dX8_within_16 rfl
theorem x167_17 {b : Nat} {a0 : Int32} : X 167 17 L [.int a0, .ref b] h Q ↔ hS h b = (1, 8) ∧ X 121 0 [.ref b, .int a0] [] h (fun r h' => X 167 20 L (pv r []) h' Q) := X_virt (as := [.int a0]) (n := 1) (ml := 2) (ck := 8) mC_167 dX8_within_17 (by unfold cOk; decide +kernel) ⟨rfl, rfl, by decide, Nat.le_of_ble_eq_true rfl⟩
theorem x167_20 {x : Int32} : X 167 20 L (.int x :: st) h Q ↔ if x = 0 then X 167 23 L st h Q else X 167 25 L st h Q := X_zne mC_167 dX8_within_20 (by decide)
theorem x167_23 : X 167 23 L st h Q ↔ X 167 24 L (.int (-1) :: st) h Q := X_n mC_167 dX8_within_23 rfl
theorem x167_24 {v : Int32} : X 167 24 L [.int v] h Q ↔ Q (some (.int v)) h := X_ret mC_167 dX8_within_24 (by decide +kernel)
theorem x167_25 {l1 l2 l3 l4 l5 l6 l7 l8 l9 : Value} {x : Nat} : X 167 25 [.ref x, l1, l2, l3, l4, l5, l6, l7, l8, l9] st h Q ↔ X 167 26 [.ref x, l1, l2, l3, l4, l5, l6, l7, l8, l9] (.ref x :: st) h Q := X_n mC_167 dX8_within_25 rfl
theorem x167_26 {b : Nat} : X 167 26 L [.ref b] h Q ↔ hS h b = (1, 8) ∧ X 138 0 [.ref b, .null] [] h (fun r h' => X 167 29 L (pv r []) h' Q) := X_virt (as := []) (n := 0) (ml := 2) (ck := 8) mC_167 dX8_within_26 (by unfold cOk; decide +kernel) ⟨rfl, rfl, by decide, Nat.le_of_ble_eq_true rfl⟩
theorem x167_29 : X 167 29 L st h Q ↔ X 167 30 L (.int 0 :: st) h Q := X_n mC_167 dX8_within_29 rfl
theorem x167_30 {l0 l1 l2 l3 l4 l5 l6 l7 l8 l9 : Value} {x : Int32} : X 167 30 [l0, l1, l2, l3, l4, l5, l6, l7, l8, l9] (.int x :: st) h Q ↔ c1 l2 = true ∧ X 167 31 [l0, l1, l2, .int x, l4, l5, l6, l7, l8, l9] st h Q := X_sto (kk := 3) (pc' := 31) (w := .int x) mC_167 dX8_within_30 rfl (Nat.le_of_ble_eq_true rfl) rfl
theorem x167_31 : X 167 31 L st h Q ↔ X 167 33 L (.int (-4) :: st) h Q := X_n mC_167 dX8_within_31 rfl
theorem x167_33 {l0 l1 l2 l3 l4 l5 l6 l7 l8 l9 : Value} {x : Int32} : X 167 33 [l0, l1, l2, l3, l4, l5, l6, l7, l8, l9] (.int x :: st) h Q ↔ c1 l3 = true ∧ X 167 35 [l0, l1, l2, l3, .int x, l5, l6, l7, l8, l9] st h Q := X_sto (kk := 4) (pc' := 35) (w := .int x) mC_167 dX8_within_33 rfl (Nat.le_of_ble_eq_true rfl) rfl
theorem x167_35 {l1 l2 l3 l4 l5 l6 l7 l8 l9 : Value} {x : Nat} : X 167 35 [.ref x, l1, l2, l3, l4, l5, l6, l7, l8, l9] st h Q ↔ X 167 36 [.ref x, l1, l2, l3, l4, l5, l6, l7, l8, l9] (.ref x :: st) h Q := X_n mC_167 dX8_within_35 rfl
theorem x167_36 {b : Nat} : X 167 36 L [.ref b] h Q ↔ hS h b = (1, 8) ∧ X 160 0 [.ref b, .null, .null] [] h (fun r h' => X 167 39 L (pv r []) h' Q) := X_virt (as := []) (n := 0) (ml := 3) (ck := 8) mC_167 dX8_within_36 (by unfold cOk; decide +kernel) ⟨rfl, rfl, by decide, Nat.le_of_ble_eq_true rfl⟩
theorem x167_39 {l0 l1 l2 l3 l4 l5 l6 l7 l8 l9 : Value} {x : Int32} : X 167 39 [l0, l1, l2, l3, l4, l5, l6, l7, l8, l9] (.int x :: st) h Q ↔ c1 l4 = true ∧ X 167 41 [l0, l1, l2, l3, l4, .int x, l6, l7, l8, l9] st h Q := X_sto (kk := 5) (pc' := 41) (w := .int x) mC_167 dX8_within_39 rfl (Nat.le_of_ble_eq_true rfl) rfl
theorem x167_41 : X 167 41 L st h Q ↔ X 167 42 L (.int 0 :: st) h Q := X_n mC_167 dX8_within_41 rfl
theorem x167_42 {l0 l1 l2 l3 l4 l5 l6 l7 l8 l9 : Value} {x : Int32} : X 167 42 [l0, l1, l2, l3, l4, l5, l6, l7, l8, l9] (.int x :: st) h Q ↔ c1 l5 = true ∧ X 167 44 [l0, l1, l2, l3, l4, l5, .int x, l7, l8, l9] st h Q := X_sto (kk := 6) (pc' := 44) (w := .int x) mC_167 dX8_within_42 rfl (Nat.le_of_ble_eq_true rfl) rfl
theorem x167_44 {l0 l1 l2 l3 l4 l5 l7 l8 l9 : Value} {x : Int32} : X 167 44 [l0, l1, l2, l3, l4, l5, .int x, l7, l8, l9] st h Q ↔ X 167 46 [l0, l1, l2, l3, l4, l5, .int x, l7, l8, l9] (.int x :: st) h Q := X_n mC_167 dX8_within_44 rfl
theorem x167_46 {l0 l1 l2 l3 l4 l6 l7 l8 l9 : Value} {x : Int32} : X 167 46 [l0, l1, l2, l3, l4, .int x, l6, l7, l8, l9] st h Q ↔ X 167 48 [l0, l1, l2, l3, l4, .int x, l6, l7, l8, l9] (.int x :: st) h Q := X_n mC_167 dX8_within_46 rfl
theorem x167_48 {x y : Int32} : X 167 48 L (.int y :: .int x :: st) h Q ↔ if x < y then X 167 51 L st h Q else X 167 182 L st h Q := X_ige mC_167 dX8_within_48 (by decide)
theorem x167_51 {l1 l2 l3 l4 l5 l6 l7 l8 l9 : Value} {x : Nat} : X 167 51 [.ref x, l1, l2, l3, l4, l5, l6, l7, l8, l9] st h Q ↔ X 167 52 [.ref x, l1, l2, l3, l4, l5, l6, l7, l8, l9] (.ref x :: st) h Q := X_n mC_167 dX8_within_51 rfl
theorem x167_52 {l0 l1 l2 l3 l4 l5 l7 l8 l9 : Value} {x : Int32} : X 167 52 [l0, l1, l2, l3, l4, l5, .int x, l7, l8, l9] st h Q ↔ X 167 54 [l0, l1, l2, l3, l4, l5, .int x, l7, l8, l9] (.int x :: st) h Q := X_n mC_167 dX8_within_52 rfl
theorem x167_54 {b : Nat} {a0 : Int32} : X 167 54 L [.int a0, .ref b] h Q ↔ hS h b = (1, 8) ∧ X 159 0 [.ref b, .int a0, .null, .null, .null] [] h (fun r h' => X 167 57 L (pv r []) h' Q) := X_virt (as := [.int a0]) (n := 1) (ml := 5) (ck := 8) mC_167 dX8_within_54 (by unfold cOk; decide +kernel) ⟨rfl, rfl, by decide, Nat.le_of_ble_eq_true rfl⟩
theorem x167_57 {l0 l1 l2 l3 l4 l5 l6 l7 l8 l9 : Value} {x : Int32} : X 167 57 [l0, l1, l2, l3, l4, l5, l6, l7, l8, l9] (.int x :: st) h Q ↔ c1 l6 = true ∧ X 167 59 [l0, l1, l2, l3, l4, l5, l6, .int x, l8, l9] st h Q := X_sto (kk := 7) (pc' := 59) (w := .int x) mC_167 dX8_within_57 rfl (Nat.le_of_ble_eq_true rfl) rfl
theorem x167_59 : X 167 59 L st h Q ↔ X 167 60 L (.int 0 :: st) h Q := X_n mC_167 dX8_within_59 rfl
theorem x167_60 {l0 l1 l2 l3 l4 l5 l6 l7 l8 l9 : Value} {x : Int32} : X 167 60 [l0, l1, l2, l3, l4, l5, l6, l7, l8, l9] (.int x :: st) h Q ↔ c1 l7 = true ∧ X 167 62 [l0, l1, l2, l3, l4, l5, l6, l7, .int x, l9] st h Q := X_sto (kk := 8) (pc' := 62) (w := .int x) mC_167 dX8_within_60 rfl (Nat.le_of_ble_eq_true rfl) rfl
theorem x167_62 {l0 l1 l2 l3 l4 l5 l6 l7 l9 : Value} {x : Int32} : X 167 62 [l0, l1, l2, l3, l4, l5, l6, l7, .int x, l9] st h Q ↔ X 167 64 [l0, l1, l2, l3, l4, l5, l6, l7, .int x, l9] (.int x :: st) h Q := X_n mC_167 dX8_within_62 rfl
theorem x167_64 {l1 l2 l3 l4 l5 l6 l7 l8 l9 : Value} {x : Nat} : X 167 64 [.ref x, l1, l2, l3, l4, l5, l6, l7, l8, l9] st h Q ↔ X 167 65 [.ref x, l1, l2, l3, l4, l5, l6, l7, l8, l9] (.ref x :: st) h Q := X_n mC_167 dX8_within_64 rfl
theorem x167_65 {a : Nat} : X 167 65 L (.ref a :: st) h Q ↔ (hS h a = (1, 8) ∧ hR h a 2 ≠ 0) ∧ X 167 68 L (.ref (hR h a 2) :: st) h Q := X_getR mC_167 dX8_within_65 (by decide +kernel)
theorem x167_68 : X 167 68 L st h Q ↔ X 167 69 L (.int 0 :: st) h Q := X_n mC_167 dX8_within_68 rfl
theorem x167_69 {j : Int32} {a : Nat} : X 167 69 L (.int j :: .ref a :: st) h Q ↔ ib j (hS h a) ∧ X 167 70 L (.int (hI h a j.toNatClampNeg) :: st) h Q := X_iald mC_167 dX8_within_69
theorem x167_70 {x y : Int32} : X 167 70 L (.int y :: .int x :: st) h Q ↔ if x < y then X 167 73 L st h Q else X 167 137 L st h Q := X_ige mC_167 dX8_within_70 (by decide)
theorem x167_73 : X 167 73 L st h Q ↔ X 167 74 L (.int 0 :: st) h Q := X_n mC_167 dX8_within_73 rfl
theorem x167_74 {l0 l1 l2 l3 l4 l5 l6 l7 l8 l9 : Value} {x : Int32} : X 167 74 [l0, l1, l2, l3, l4, l5, l6, l7, l8, l9] (.int x :: st) h Q ↔ c1 l8 = true ∧ X 167 76 [l0, l1, l2, l3, l4, l5, l6, l7, l8, .int x] st h Q := X_sto (kk := 9) (pc' := 76) (w := .int x) mC_167 dX8_within_74 rfl (Nat.le_of_ble_eq_true rfl) rfl
theorem x167_76 {l0 l1 l2 l3 l4 l5 l6 l7 l8 : Value} {x : Int32} : X 167 76 [l0, l1, l2, l3, l4, l5, l6, l7, l8, .int x] st h Q ↔ X 167 78 [l0, l1, l2, l3, l4, l5, l6, l7, l8, .int x] (.int x :: st) h Q := X_n mC_167 dX8_within_76 rfl
theorem x167_78 {l0 l1 l2 l3 l4 l5 l6 l7 l9 : Value} {x : Int32} : X 167 78 [l0, l1, l2, l3, l4, l5, l6, l7, .int x, l9] st h Q ↔ X 167 80 [l0, l1, l2, l3, l4, l5, l6, l7, .int x, l9] (.int x :: st) h Q := X_n mC_167 dX8_within_78 rfl
theorem x167_80 {x y : Int32} : X 167 80 L (.int y :: .int x :: st) h Q ↔ if x < y then X 167 83 L st h Q else X 167 131 L st h Q := X_ige mC_167 dX8_within_80 (by decide)
theorem x167_83 {l0 l1 l2 l3 l4 l5 l6 l8 l9 : Value} {x : Int32} : X 167 83 [l0, l1, l2, l3, l4, l5, l6, .int x, l8, l9] st h Q ↔ X 167 85 [l0, l1, l2, l3, l4, l5, l6, .int x, l8, l9] (.int x :: st) h Q := X_n mC_167 dX8_within_83 rfl
theorem x167_85 {x : Int32} : X 167 85 L (.int x :: st) h Q ↔ if x = 0 then X 167 122 L st h Q else X 167 88 L st h Q := X_zeq mC_167 dX8_within_85 (by decide)
theorem x167_88 {l1 l2 l3 l4 l5 l6 l7 l8 l9 : Value} {x : Nat} : X 167 88 [.ref x, l1, l2, l3, l4, l5, l6, l7, l8, l9] st h Q ↔ X 167 89 [.ref x, l1, l2, l3, l4, l5, l6, l7, l8, l9] (.ref x :: st) h Q := X_n mC_167 dX8_within_88 rfl
theorem x167_89 {l0 l1 l2 l3 l4 l5 l6 l7 l9 : Value} {x : Int32} : X 167 89 [l0, l1, l2, l3, l4, l5, l6, l7, .int x, l9] st h Q ↔ X 167 91 [l0, l1, l2, l3, l4, l5, l6, l7, .int x, l9] (.int x :: st) h Q := X_n mC_167 dX8_within_89 rfl
theorem x167_91 {l0 l1 l2 l3 l4 l5 l6 l7 l8 : Value} {x : Int32} : X 167 91 [l0, l1, l2, l3, l4, l5, l6, l7, l8, .int x] st h Q ↔ X 167 93 [l0, l1, l2, l3, l4, l5, l6, l7, l8, .int x] (.int x :: st) h Q := X_n mC_167 dX8_within_91 rfl
theorem x167_93 {b : Nat} {a0 : Int32} {a1 : Int32} : X 167 93 L [.int a1, .int a0, .ref b] h Q ↔ hS h b = (1, 8) ∧ X 141 0 [.ref b, .int a0, .int a1] [] h (fun r h' => X 167 96 L (pv r []) h' Q) := X_virt (as := [.int a0, .int a1]) (n := 2) (ml := 3) (ck := 8) mC_167 dX8_within_93 (by unfold cOk; decide +kernel) ⟨rfl, rfl, by decide, Nat.le_of_ble_eq_true rfl⟩
theorem x167_96 {x : Int32} : X 167 96 L (.int x :: st) h Q ↔ if x = 0 then X 167 118 L st h Q else X 167 99 L st h Q := X_zeq mC_167 dX8_within_96 (by decide)
theorem x167_99 {l1 l2 l3 l4 l5 l6 l7 l8 l9 : Value} {x : Nat} : X 167 99 [.ref x, l1, l2, l3, l4, l5, l6, l7, l8, l9] st h Q ↔ X 167 100 [.ref x, l1, l2, l3, l4, l5, l6, l7, l8, l9] (.ref x :: st) h Q := X_n mC_167 dX8_within_99 rfl
theorem x167_100 {l0 l1 l2 l3 l4 l5 l6 l7 l9 : Value} {x : Int32} : X 167 100 [l0, l1, l2, l3, l4, l5, l6, l7, .int x, l9] st h Q ↔ X 167 102 [l0, l1, l2, l3, l4, l5, l6, l7, .int x, l9] (.int x :: st) h Q := X_n mC_167 dX8_within_100 rfl
theorem x167_102 {b : Nat} {a0 : Int32} : X 167 102 L [.int a0, .ref b] h Q ↔ hS h b = (1, 8) ∧ X 139 0 [.ref b, .int a0, .null] [] h (fun r h' => X 167 105 L (pv r []) h' Q) := X_virt (as := [.int a0]) (n := 1) (ml := 3) (ck := 8) mC_167 dX8_within_102 (by unfold cOk; decide +kernel) ⟨rfl, rfl, by decide, Nat.le_of_ble_eq_true rfl⟩
theorem x167_105 {l1 l2 l3 l4 l5 l6 l7 l8 l9 : Value} {x : Nat} : X 167 105 [.ref x, l1, l2, l3, l4, l5, l6, l7, l8, l9] st h Q ↔ X 167 106 [.ref x, l1, l2, l3, l4, l5, l6, l7, l8, l9] (.ref x :: st) h Q := X_n mC_167 dX8_within_105 rfl
theorem x167_106 {l0 l1 l2 l3 l4 l5 l6 l7 l8 : Value} {x : Int32} : X 167 106 [l0, l1, l2, l3, l4, l5, l6, l7, l8, .int x] st h Q ↔ X 167 108 [l0, l1, l2, l3, l4, l5, l6, l7, l8, .int x] (.int x :: st) h Q := X_n mC_167 dX8_within_106 rfl
theorem x167_108 {b : Nat} {a0 : Int32} {w0 : Value} : X 167 108 L [.int a0, .ref b, w0] h Q ↔ hS h b = (1, 8) ∧ X 139 0 [.ref b, .int a0, .null] [] h (fun r h' => X 167 111 L (pv r [w0]) h' Q) := X_virt (as := [.int a0]) (n := 1) (ml := 3) (ck := 8) mC_167 dX8_within_108 (by unfold cOk; decide +kernel) ⟨rfl, rfl, by decide, Nat.le_of_ble_eq_true rfl⟩
theorem x167_111 {a0 : Int32} {a1 : Int32} : X 167 111 L [.int a1, .int a0] h Q ↔ X 149 0 [.int a0, .int a1] [] h (fun r h' => X 167 114 L (pv r []) h' Q) := X_stat (as := [.int a0, .int a1]) (n := 2) (ml := 2) (ck := 8) mC_167 dX8_within_111 (by unfold cOk; decide +kernel) ⟨rfl, rfl, by decide, Nat.le_of_ble_eq_true rfl⟩
theorem x167_114 {l0 l2 l3 l4 l5 l6 l7 l8 l9 : Value} {x : Int32} : X 167 114 [l0, .int x, l2, l3, l4, l5, l6, l7, l8, l9] st h Q ↔ X 167 115 [l0, .int x, l2, l3, l4, l5, l6, l7, l8, l9] (.int x :: st) h Q := X_n mC_167 dX8_within_114 rfl
theorem x167_115 {x y : Int32} : X 167 115 L (.int y :: .int x :: st) h Q ↔ if y < x then X 167 122 L st h Q else X 167 118 L st h Q := X_igt mC_167 dX8_within_115 (by decide)
theorem x167_118 : X 167 118 L st h Q ↔ X 167 119 L (.int 1 :: st) h Q := X_n mC_167 dX8_within_118 rfl
theorem x167_119 : X 167 119 L st h Q ↔ X 167 123 L st h Q := X_goto mC_167 dX8_within_119 (by decide)
theorem x167_122 : X 167 122 L st h Q ↔ X 167 123 L (.int 0 :: st) h Q := X_n mC_167 dX8_within_122 rfl
theorem x167_123 {l0 l1 l2 l3 l4 l5 l6 l7 l8 l9 : Value} {x : Int32} : X 167 123 [l0, l1, l2, l3, l4, l5, l6, l7, l8, l9] (.int x :: st) h Q ↔ c1 l6 = true ∧ X 167 125 [l0, l1, l2, l3, l4, l5, l6, .int x, l8, l9] st h Q := X_sto (kk := 7) (pc' := 125) (w := .int x) mC_167 dX8_within_123 rfl (Nat.le_of_ble_eq_true rfl) rfl
theorem x167_125 {l0 l1 l2 l3 l4 l5 l6 l7 l8 : Value} {x : Int32} : X 167 125 [l0, l1, l2, l3, l4, l5, l6, l7, l8, .int x] st h Q ↔ c1 l8 = true ∧ X 167 128 [l0, l1, l2, l3, l4, l5, l6, l7, l8, .int (x + 1)] st h Q := X_inc (pc' := 128) (x := x) mC_167 dX8_within_125 rfl rfl rfl
theorem x167_128 : X 167 128 L st h Q ↔ X 167 76 L st h Q := X_goto mC_167 dX8_within_128 (by decide)
theorem x167_131 {l0 l1 l2 l3 l4 l5 l6 l7 l9 : Value} {x : Int32} : X 167 131 [l0, l1, l2, l3, l4, l5, l6, l7, .int x, l9] st h Q ↔ c1 l7 = true ∧ X 167 134 [l0, l1, l2, l3, l4, l5, l6, l7, .int (x + 1), l9] st h Q := X_inc (pc' := 134) (x := x) mC_167 dX8_within_131 rfl rfl rfl
theorem x167_134 : X 167 134 L st h Q ↔ X 167 62 L st h Q := X_goto mC_167 dX8_within_134 (by decide)
theorem x167_137 {l0 l1 l2 l3 l4 l5 l6 l8 l9 : Value} {x : Int32} : X 167 137 [l0, l1, l2, l3, l4, l5, l6, .int x, l8, l9] st h Q ↔ X 167 139 [l0, l1, l2, l3, l4, l5, l6, .int x, l8, l9] (.int x :: st) h Q := X_n mC_167 dX8_within_137 rfl
theorem x167_139 {x : Int32} : X 167 139 L (.int x :: st) h Q ↔ if x = 0 then X 167 159 L st h Q else X 167 142 L st h Q := X_zeq mC_167 dX8_within_139 (by decide)
theorem x167_142 {l0 l1 l2 l4 l5 l6 l7 l8 l9 : Value} {x : Int32} : X 167 142 [l0, l1, l2, .int x, l4, l5, l6, l7, l8, l9] st h Q ↔ X 167 143 [l0, l1, l2, .int x, l4, l5, l6, l7, l8, l9] (.int x :: st) h Q := X_n mC_167 dX8_within_142 rfl
theorem x167_143 {x : Int32} : X 167 143 L (.int x :: st) h Q ↔ if x = 0 then X 167 146 L st h Q else X 167 159 L st h Q := X_zne mC_167 dX8_within_143 (by decide)
theorem x167_146 {l0 l1 l3 l4 l5 l6 l7 l8 l9 : Value} {x : Int32} : X 167 146 [l0, l1, .int x, l3, l4, l5, l6, l7, l8, l9] st h Q ↔ X 167 147 [l0, l1, .int x, l3, l4, l5, l6, l7, l8, l9] (.int x :: st) h Q := X_n mC_167 dX8_within_146 rfl
theorem x167_147 {x : Int32} : X 167 147 L (.int x :: st) h Q ↔ if x < 0 then X 167 159 L st h Q else X 167 150 L st h Q := X_zlt mC_167 dX8_within_147 (by decide)
theorem x167_150 {l1 l2 l3 l4 l5 l6 l7 l8 l9 : Value} {x : Nat} : X 167 150 [.ref x, l1, l2, l3, l4, l5, l6, l7, l8, l9] st h Q ↔ X 167 151 [.ref x, l1, l2, l3, l4, l5, l6, l7, l8, l9] (.ref x :: st) h Q := X_n mC_167 dX8_within_150 rfl
theorem x167_151 {a : Nat} : X 167 151 L (.ref a :: st) h Q ↔ (hS h a = (1, 8) ∧ hR h a 12 ≠ 0) ∧ X 167 154 L (.ref (hR h a 12) :: st) h Q := X_getR mC_167 dX8_within_151 (by decide +kernel)
theorem x167_154 {l0 l1 l3 l4 l5 l6 l7 l8 l9 : Value} {x : Int32} : X 167 154 [l0, l1, .int x, l3, l4, l5, l6, l7, l8, l9] st h Q ↔ X 167 155 [l0, l1, .int x, l3, l4, l5, l6, l7, l8, l9] (.int x :: st) h Q := X_n mC_167 dX8_within_154 rfl
theorem x167_155 {j : Int32} {a : Nat} : X 167 155 L (.int j :: .ref a :: st) h Q ↔ ib j (hS h a) ∧ X 167 156 L (.int (hI h a j.toNatClampNeg) :: st) h Q := X_iald mC_167 dX8_within_155
theorem x167_156 : X 167 156 L st h Q ↔ X 167 161 L st h Q := X_goto mC_167 dX8_within_156 (by decide)
theorem x167_159 {l0 l1 l2 l3 l5 l6 l7 l8 l9 : Value} {x : Int32} : X 167 159 [l0, l1, l2, l3, .int x, l5, l6, l7, l8, l9] st h Q ↔ X 167 161 [l0, l1, l2, l3, .int x, l5, l6, l7, l8, l9] (.int x :: st) h Q := X_n mC_167 dX8_within_159 rfl
theorem x167_161 {l0 l1 l2 l3 l4 l5 l6 l7 l8 l9 : Value} {x : Int32} : X 167 161 [l0, l1, l2, l3, l4, l5, l6, l7, l8, l9] (.int x :: st) h Q ↔ c1 l3 = true ∧ X 167 163 [l0, l1, l2, l3, .int x, l5, l6, l7, l8, l9] st h Q := X_sto (kk := 4) (pc' := 163) (w := .int x) mC_167 dX8_within_161 rfl (Nat.le_of_ble_eq_true rfl) rfl
theorem x167_163 {l0 l1 l2 l4 l5 l6 l7 l8 l9 : Value} {x : Int32} : X 167 163 [l0, l1, l2, .int x, l4, l5, l6, l7, l8, l9] st h Q ↔ X 167 164 [l0, l1, l2, .int x, l4, l5, l6, l7, l8, l9] (.int x :: st) h Q := X_n mC_167 dX8_within_163 rfl
theorem x167_164 {l0 l1 l2 l3 l4 l5 l6 l8 l9 : Value} {x : Int32} : X 167 164 [l0, l1, l2, l3, l4, l5, l6, .int x, l8, l9] st h Q ↔ X 167 166 [l0, l1, l2, l3, l4, l5, l6, .int x, l8, l9] (.int x :: st) h Q := X_n mC_167 dX8_within_164 rfl
theorem x167_166 {x : Int32} : X 167 166 L (.int x :: st) h Q ↔ if x = 0 then X 167 173 L st h Q else X 167 169 L st h Q := X_zeq mC_167 dX8_within_166 (by decide)
theorem x167_169 : X 167 169 L st h Q ↔ X 167 170 L (.int 1 :: st) h Q := X_n mC_167 dX8_within_169 rfl
theorem x167_170 : X 167 170 L st h Q ↔ X 167 174 L st h Q := X_goto mC_167 dX8_within_170 (by decide)
theorem x167_173 : X 167 173 L st h Q ↔ X 167 174 L (.int 0 :: st) h Q := X_n mC_167 dX8_within_173 rfl
theorem x167_174 {x y : Int32} : X 167 174 L (.int y :: .int x :: st) h Q ↔ X 167 175 L (.int (x + y) :: st) h Q := X_n mC_167 dX8_within_174 rfl
theorem x167_175 {l0 l1 l2 l3 l4 l5 l6 l7 l8 l9 : Value} {x : Int32} : X 167 175 [l0, l1, l2, l3, l4, l5, l6, l7, l8, l9] (.int x :: st) h Q ↔ c1 l2 = true ∧ X 167 176 [l0, l1, l2, .int x, l4, l5, l6, l7, l8, l9] st h Q := X_sto (kk := 3) (pc' := 176) (w := .int x) mC_167 dX8_within_175 rfl (Nat.le_of_ble_eq_true rfl) rfl
theorem x167_176 {l0 l1 l2 l3 l4 l5 l7 l8 l9 : Value} {x : Int32} : X 167 176 [l0, l1, l2, l3, l4, l5, .int x, l7, l8, l9] st h Q ↔ c1 l5 = true ∧ X 167 179 [l0, l1, l2, l3, l4, l5, .int (x + 1), l7, l8, l9] st h Q := X_inc (pc' := 179) (x := x) mC_167 dX8_within_176 rfl rfl rfl
theorem x167_179 : X 167 179 L st h Q ↔ X 167 44 L st h Q := X_goto mC_167 dX8_within_179 (by decide)
theorem x167_182 {l0 l1 l3 l4 l5 l6 l7 l8 l9 : Value} {x : Int32} : X 167 182 [l0, l1, .int x, l3, l4, l5, l6, l7, l8, l9] st h Q ↔ X 167 183 [l0, l1, .int x, l3, l4, l5, l6, l7, l8, l9] (.int x :: st) h Q := X_n mC_167 dX8_within_182 rfl
theorem x167_183 {x : Int32} : X 167 183 L (.int x :: st) h Q ↔ if x < 0 then X 167 191 L st h Q else X 167 186 L st h Q := X_zlt mC_167 dX8_within_183 (by decide)
theorem x167_186 {l0 l1 l2 l3 l5 l6 l7 l8 l9 : Value} {x : Int32} : X 167 186 [l0, l1, l2, l3, .int x, l5, l6, l7, l8, l9] st h Q ↔ X 167 188 [l0, l1, l2, l3, .int x, l5, l6, l7, l8, l9] (.int x :: st) h Q := X_n mC_167 dX8_within_186 rfl
theorem x167_188 : X 167 188 L st h Q ↔ X 167 201 L st h Q := X_goto mC_167 dX8_within_188 (by decide)
theorem x167_191 {l0 l1 l2 l4 l5 l6 l7 l8 l9 : Value} {x : Int32} : X 167 191 [l0, l1, l2, .int x, l4, l5, l6, l7, l8, l9] st h Q ↔ X 167 192 [l0, l1, l2, .int x, l4, l5, l6, l7, l8, l9] (.int x :: st) h Q := X_n mC_167 dX8_within_191 rfl
theorem x167_192 {x : Int32} : X 167 192 L (.int x :: st) h Q ↔ if x = 0 then X 167 195 L st h Q else X 167 200 L st h Q := X_zne mC_167 dX8_within_192 (by decide)
theorem x167_195 : X 167 195 L st h Q ↔ X 167 197 L (.int (-4) :: st) h Q := X_n mC_167 dX8_within_195 rfl
theorem x167_197 : X 167 197 L st h Q ↔ X 167 201 L st h Q := X_goto mC_167 dX8_within_197 (by decide)
theorem x167_200 {l0 l1 l2 l4 l5 l6 l7 l8 l9 : Value} {x : Int32} : X 167 200 [l0, l1, l2, .int x, l4, l5, l6, l7, l8, l9] st h Q ↔ X 167 201 [l0, l1, l2, .int x, l4, l5, l6, l7, l8, l9] (.int x :: st) h Q := X_n mC_167 dX8_within_200 rfl
theorem x167_201 {v : Int32} : X 167 201 L [.int v] h Q ↔ Q (some (.int v)) h := X_ret mC_167 dX8_within_201 (by decide +kernel)
theorem mC_168 : mC 168 = cX8_night := rfl
theorem x168_0 {l0 : Value} {x : Int32} : X 168 0 [l0, .int x] st h Q ↔ X 168 1 [l0, .int x] (.int x :: st) h Q := X_n mC_168 dX8_night_0 rfl
theorem x168_1 : X 168 1 L st h Q ↔ X 168 2 L (.int (-1) :: st) h Q := X_n mC_168 dX8_night_1 rfl
theorem x168_2 : X 168 2 L st h Q ↔ X 168 4 L (.int 7 :: st) h Q := X_n mC_168 dX8_night_2 rfl
theorem x168_4 {a0 : Int32} {a1 : Int32} {a2 : Int32} : X 168 4 L [.int a2, .int a1, .int a0] h Q ↔ X 120 0 [.int a0, .int a1, .int a2] [] h (fun r h' => X 168 7 L (pv r []) h' Q) := X_stat (as := [.int a0, .int a1, .int a2]) (n := 3) (ml := 3) (ck := 8) mC_168 dX8_night_4 (by unfold cOk; decide +kernel) ⟨rfl, rfl, by decide, Nat.le_of_ble_eq_true rfl⟩
theorem x168_7 {x : Int32} : X 168 7 L (.int x :: st) h Q ↔ if x = 0 then X 168 10 L st h Q else X 168 12 L st h Q := X_zne mC_168 dX8_night_7 (by decide)
theorem x168_10 : X 168 10 L st h Q ↔ X 168 11 L (.int (-1) :: st) h Q := X_n mC_168 dX8_night_10 rfl
theorem x168_11 {v : Int32} : X 168 11 L [.int v] h Q ↔ Q (some (.int v)) h := X_ret mC_168 dX8_night_11 (by decide +kernel)
theorem x168_12 {l1 : Value} {x : Nat} : X 168 12 [.ref x, l1] st h Q ↔ X 168 13 [.ref x, l1] (.ref x :: st) h Q := X_n mC_168 dX8_night_12 rfl
theorem x168_13 {b : Nat} : X 168 13 L [.ref b] h Q ↔ hS h b = (1, 8) ∧ X 138 0 [.ref b, .null] [] h (fun r h' => X 168 16 L (pv r []) h' Q) := X_virt (as := []) (n := 0) (ml := 2) (ck := 8) mC_168 dX8_night_13 (by unfold cOk; decide +kernel) ⟨rfl, rfl, by decide, Nat.le_of_ble_eq_true rfl⟩
theorem x168_16 {l0 : Value} {x : Int32} : X 168 16 [l0, .int x] st h Q ↔ X 168 17 [l0, .int x] (.int x :: st) h Q := X_n mC_168 dX8_night_16 rfl
theorem x168_17 {x : Int32} : X 168 17 L (.int x :: st) h Q ↔ if x < 0 then X 168 20 L st h Q else X 168 25 L st h Q := X_zge mC_168 dX8_night_17 (by decide)
theorem x168_20 {l1 : Value} {x : Nat} : X 168 20 [.ref x, l1] st h Q ↔ X 168 21 [.ref x, l1] (.ref x :: st) h Q := X_n mC_168 dX8_night_20 rfl
theorem x168_21 {b : Nat} : X 168 21 L [.ref b] h Q ↔ hS h b = (1, 8) ∧ X 165 0 [.ref b, .null, .null] [] h (fun r h' => X 168 24 L (pv r []) h' Q) := X_virt (as := []) (n := 0) (ml := 3) (ck := 8) mC_168 dX8_night_21 (by unfold cOk; decide +kernel) ⟨rfl, rfl, by decide, Nat.le_of_ble_eq_true rfl⟩
theorem x168_24 {v : Int32} : X 168 24 L [.int v] h Q ↔ Q (some (.int v)) h := X_ret mC_168 dX8_night_24 (by decide +kernel)
theorem x168_25 {l1 : Value} {x : Nat} : X 168 25 [.ref x, l1] st h Q ↔ X 168 26 [.ref x, l1] (.ref x :: st) h Q := X_n mC_168 dX8_night_25 rfl
theorem x168_26 {l0 : Value} {x : Int32} : X 168 26 [l0, .int x] st h Q ↔ X 168 27 [l0, .int x] (.int x :: st) h Q := X_n mC_168 dX8_night_26 rfl
theorem x168_27 {a : Nat} {v : Int32} : X 168 27 L (.int v :: .ref a :: st) h Q ↔ hS h a = (1, 8) ∧ X 168 30 L st (sI h a 15 v) Q := X_putI mC_168 dX8_night_27 (by decide +kernel)
theorem x168_30 {l1 : Value} {x : Nat} : X 168 30 [.ref x, l1] st h Q ↔ X 168 31 [.ref x, l1] (.ref x :: st) h Q := X_n mC_168 dX8_night_30 rfl
theorem x168_31 {b : Nat} : X 168 31 L [.ref b] h Q ↔ hS h b = (1, 8) ∧ X 143 0 [.ref b, .null, .null] [] h (fun r h' => X 168 34 L (pv r []) h' Q) := X_virt (as := []) (n := 0) (ml := 3) (ck := 8) mC_168 dX8_night_31 (by unfold cOk; decide +kernel) ⟨rfl, rfl, by decide, Nat.le_of_ble_eq_true rfl⟩
theorem x168_34 {v : Int32} : X 168 34 L [.int v] h Q ↔ Q (some (.int v)) h := X_ret mC_168 dX8_night_34 (by decide +kernel)
theorem mC_169 : mC 169 = cX8_heard := rfl
theorem x169_0 {l1 l2 l3 : Value} {x : Nat} : X 169 0 [.ref x, l1, l2, l3] st h Q ↔ X 169 1 [.ref x, l1, l2, l3] (.ref x :: st) h Q := X_n mC_169 dX8_heard_0 rfl
theorem x169_1 {l0 l2 l3 : Value} {x : Int32} : X 169 1 [l0, .int x, l2, l3] st h Q ↔ X 169 2 [l0, .int x, l2, l3] (.int x :: st) h Q := X_n mC_169 dX8_heard_1 rfl
theorem x169_2 {b : Nat} {a0 : Int32} : X 169 2 L [.int a0, .ref b] h Q ↔ hS h b = (1, 8) ∧ X 121 0 [.ref b, .int a0] [] h (fun r h' => X 169 5 L (pv r []) h' Q) := X_virt (as := [.int a0]) (n := 1) (ml := 2) (ck := 8) mC_169 dX8_heard_2 (by unfold cOk; decide +kernel) ⟨rfl, rfl, by decide, Nat.le_of_ble_eq_true rfl⟩
theorem x169_5 {x : Int32} : X 169 5 L (.int x :: st) h Q ↔ if x = 0 then X 169 27 L st h Q else X 169 8 L st h Q := X_zeq mC_169 dX8_heard_5 (by decide)
theorem x169_8 {l0 l1 l3 : Value} {x : Int32} : X 169 8 [l0, l1, .int x, l3] st h Q ↔ X 169 9 [l0, l1, .int x, l3] (.int x :: st) h Q := X_n mC_169 dX8_heard_8 rfl
theorem x169_9 : X 169 9 L st h Q ↔ X 169 10 L (.int 0 :: st) h Q := X_n mC_169 dX8_heard_9 rfl
theorem x169_10 : X 169 10 L st h Q ↔ X 169 12 L (.int 7 :: st) h Q := X_n mC_169 dX8_heard_10 rfl
theorem x169_12 {a0 : Int32} {a1 : Int32} {a2 : Int32} : X 169 12 L [.int a2, .int a1, .int a0] h Q ↔ X 120 0 [.int a0, .int a1, .int a2] [] h (fun r h' => X 169 15 L (pv r []) h' Q) := X_stat (as := [.int a0, .int a1, .int a2]) (n := 3) (ml := 3) (ck := 8) mC_169 dX8_heard_12 (by unfold cOk; decide +kernel) ⟨rfl, rfl, by decide, Nat.le_of_ble_eq_true rfl⟩
theorem x169_15 {x : Int32} : X 169 15 L (.int x :: st) h Q ↔ if x = 0 then X 169 27 L st h Q else X 169 18 L st h Q := X_zeq mC_169 dX8_heard_15 (by decide)
theorem x169_18 {l0 l1 l2 : Value} {x : Int32} : X 169 18 [l0, l1, l2, .int x] st h Q ↔ X 169 19 [l0, l1, l2, .int x] (.int x :: st) h Q := X_n mC_169 dX8_heard_18 rfl
theorem x169_19 : X 169 19 L st h Q ↔ X 169 20 L (.int 0 :: st) h Q := X_n mC_169 dX8_heard_19 rfl
theorem x169_20 : X 169 20 L st h Q ↔ X 169 21 L (.int 1 :: st) h Q := X_n mC_169 dX8_heard_20 rfl
theorem x169_21 {a0 : Int32} {a1 : Int32} {a2 : Int32} : X 169 21 L [.int a2, .int a1, .int a0] h Q ↔ X 120 0 [.int a0, .int a1, .int a2] [] h (fun r h' => X 169 24 L (pv r []) h' Q) := X_stat (as := [.int a0, .int a1, .int a2]) (n := 3) (ml := 3) (ck := 8) mC_169 dX8_heard_21 (by unfold cOk; decide +kernel) ⟨rfl, rfl, by decide, Nat.le_of_ble_eq_true rfl⟩
theorem x169_24 {x : Int32} : X 169 24 L (.int x :: st) h Q ↔ if x = 0 then X 169 27 L st h Q else X 169 29 L st h Q := X_zne mC_169 dX8_heard_24 (by decide)
theorem x169_27 : X 169 27 L st h Q ↔ X 169 28 L (.int (-1) :: st) h Q := X_n mC_169 dX8_heard_27 rfl
theorem x169_28 {v : Int32} : X 169 28 L [.int v] h Q ↔ Q (some (.int v)) h := X_ret mC_169 dX8_heard_28 (by decide +kernel)
theorem x169_29 {l1 l2 l3 : Value} {x : Nat} : X 169 29 [.ref x, l1, l2, l3] st h Q ↔ X 169 30 [.ref x, l1, l2, l3] (.ref x :: st) h Q := X_n mC_169 dX8_heard_29 rfl
theorem x169_30 {a : Nat} : X 169 30 L (.ref a :: st) h Q ↔ hS h a = (1, 8) ∧ X 169 33 L (.int (hI h a 10) :: st) h Q := X_getI mC_169 dX8_heard_30 (by decide +kernel)
theorem x169_33 : X 169 33 L st h Q ↔ X 169 35 L (.int 8 :: st) h Q := X_n mC_169 dX8_heard_33 rfl
theorem x169_35 {x y : Int32} : X 169 35 L (.int y :: .int x :: st) h Q ↔ if x = y then X 169 38 L st h Q else X 169 41 L st h Q := X_ine mC_169 dX8_heard_35 (by decide)
theorem x169_38 : X 169 38 L st h Q ↔ X 169 40 L (.int (-3) :: st) h Q := X_n mC_169 dX8_heard_38 rfl
theorem x169_40 {v : Int32} : X 169 40 L [.int v] h Q ↔ Q (some (.int v)) h := X_ret mC_169 dX8_heard_40 (by decide +kernel)
theorem x169_41 {l1 l2 l3 : Value} {x : Nat} : X 169 41 [.ref x, l1, l2, l3] st h Q ↔ X 169 42 [.ref x, l1, l2, l3] (.ref x :: st) h Q := X_n mC_169 dX8_heard_41 rfl
theorem x169_42 {a : Nat} : X 169 42 L (.ref a :: st) h Q ↔ (hS h a = (1, 8) ∧ hR h a 9 ≠ 0) ∧ X 169 45 L (.ref (hR h a 9) :: st) h Q := X_getR mC_169 dX8_heard_42 (by decide +kernel)
theorem x169_45 {l1 l2 l3 : Value} {x : Nat} : X 169 45 [.ref x, l1, l2, l3] st h Q ↔ X 169 46 [.ref x, l1, l2, l3] (.ref x :: st) h Q := X_n mC_169 dX8_heard_45 rfl
theorem x169_46 {a : Nat} : X 169 46 L (.ref a :: st) h Q ↔ hS h a = (1, 8) ∧ X 169 49 L (.int (hI h a 10) :: st) h Q := X_getI mC_169 dX8_heard_46 (by decide +kernel)
theorem x169_49 : X 169 49 L st h Q ↔ X 169 51 L (.int 100 :: st) h Q := X_n mC_169 dX8_heard_49 rfl
theorem x169_51 {l0 l2 l3 : Value} {x : Int32} : X 169 51 [l0, .int x, l2, l3] st h Q ↔ X 169 52 [l0, .int x, l2, l3] (.int x :: st) h Q := X_n mC_169 dX8_heard_51 rfl
theorem x169_52 {x y : Int32} : X 169 52 L (.int y :: .int x :: st) h Q ↔ X 169 53 L (.int (x * y) :: st) h Q := X_n mC_169 dX8_heard_52 rfl
theorem x169_53 : X 169 53 L st h Q ↔ X 169 55 L (.int 10 :: st) h Q := X_n mC_169 dX8_heard_53 rfl
theorem x169_55 {l0 l1 l3 : Value} {x : Int32} : X 169 55 [l0, l1, .int x, l3] st h Q ↔ X 169 56 [l0, l1, .int x, l3] (.int x :: st) h Q := X_n mC_169 dX8_heard_55 rfl
theorem x169_56 {x y : Int32} : X 169 56 L (.int y :: .int x :: st) h Q ↔ X 169 57 L (.int (x * y) :: st) h Q := X_n mC_169 dX8_heard_56 rfl
theorem x169_57 {x y : Int32} : X 169 57 L (.int y :: .int x :: st) h Q ↔ X 169 58 L (.int (x + y) :: st) h Q := X_n mC_169 dX8_heard_57 rfl
theorem x169_58 {l0 l1 l2 : Value} {x : Int32} : X 169 58 [l0, l1, l2, .int x] st h Q ↔ X 169 59 [l0, l1, l2, .int x] (.int x :: st) h Q := X_n mC_169 dX8_heard_58 rfl
theorem x169_59 {x y : Int32} : X 169 59 L (.int y :: .int x :: st) h Q ↔ X 169 60 L (.int (x + y) :: st) h Q := X_n mC_169 dX8_heard_59 rfl
theorem x169_60 {j x : Int32} {a : Nat} : X 169 60 L (.int x :: .int j :: .ref a :: st) h Q ↔ ibw j (hS h a) ∧ X 169 61 L st (sI h a j.toNatClampNeg x) Q := X_iast mC_169 dX8_heard_60
theorem x169_61 {l1 l2 l3 : Value} {x : Nat} : X 169 61 [.ref x, l1, l2, l3] st h Q ↔ X 169 62 [.ref x, l1, l2, l3] (.ref x :: st) h Q := X_n mC_169 dX8_heard_61 rfl
theorem x169_62 {x : Nat} : X 169 62 L (.ref x :: st) h Q ↔ X 169 63 L (.ref x :: .ref x :: st) h Q := X_n mC_169 dX8_heard_62 rfl
theorem x169_63 {a : Nat} : X 169 63 L (.ref a :: st) h Q ↔ hS h a = (1, 8) ∧ X 169 66 L (.int (hI h a 10) :: st) h Q := X_getI mC_169 dX8_heard_63 (by decide +kernel)
theorem x169_66 : X 169 66 L st h Q ↔ X 169 67 L (.int 1 :: st) h Q := X_n mC_169 dX8_heard_66 rfl
theorem x169_67 {x y : Int32} : X 169 67 L (.int y :: .int x :: st) h Q ↔ X 169 68 L (.int (x + y) :: st) h Q := X_n mC_169 dX8_heard_67 rfl
theorem x169_68 {a : Nat} {v : Int32} : X 169 68 L (.int v :: .ref a :: st) h Q ↔ hS h a = (1, 8) ∧ X 169 71 L st (sI h a 10 v) Q := X_putI mC_169 dX8_heard_68 (by decide +kernel)
theorem x169_71 {l1 l2 l3 : Value} {x : Nat} : X 169 71 [.ref x, l1, l2, l3] st h Q ↔ X 169 72 [.ref x, l1, l2, l3] (.ref x :: st) h Q := X_n mC_169 dX8_heard_71 rfl
theorem x169_72 {a : Nat} : X 169 72 L (.ref a :: st) h Q ↔ hS h a = (1, 8) ∧ X 169 75 L (.int (hI h a 10) :: st) h Q := X_getI mC_169 dX8_heard_72 (by decide +kernel)
theorem x169_75 {v : Int32} : X 169 75 L [.int v] h Q ↔ Q (some (.int v)) h := X_ret mC_169 dX8_heard_75 (by decide +kernel)
theorem mC_170 : mC 170 = cX8_forget := rfl
theorem x170_0 {l1 : Value} {x : Nat} : X 170 0 [.ref x, l1] st h Q ↔ X 170 1 [.ref x, l1] (.ref x :: st) h Q := X_n mC_170 dX8_forget_0 rfl
theorem x170_1 {a : Nat} : X 170 1 L (.ref a :: st) h Q ↔ hS h a = (1, 8) ∧ X 170 4 L (.int (hI h a 10) :: st) h Q := X_getI mC_170 dX8_forget_1 (by decide +kernel)
theorem x170_4 {l0 l1 : Value} {x : Int32} : X 170 4 [l0, l1] (.int x :: st) h Q ↔ c1 l0 = true ∧ X 170 5 [l0, .int x] st h Q := X_sto (kk := 1) (pc' := 5) (w := .int x) mC_170 dX8_forget_4 rfl (Nat.le_of_ble_eq_true rfl) rfl
theorem x170_5 {l1 : Value} {x : Nat} : X 170 5 [.ref x, l1] st h Q ↔ X 170 6 [.ref x, l1] (.ref x :: st) h Q := X_n mC_170 dX8_forget_5 rfl
theorem x170_6 : X 170 6 L st h Q ↔ X 170 7 L (.int 0 :: st) h Q := X_n mC_170 dX8_forget_6 rfl
theorem x170_7 {a : Nat} {v : Int32} : X 170 7 L (.int v :: .ref a :: st) h Q ↔ hS h a = (1, 8) ∧ X 170 10 L st (sI h a 10 v) Q := X_putI mC_170 dX8_forget_7 (by decide +kernel)
theorem x170_10 {l0 : Value} {x : Int32} : X 170 10 [l0, .int x] st h Q ↔ X 170 11 [l0, .int x] (.int x :: st) h Q := X_n mC_170 dX8_forget_10 rfl
theorem x170_11 {v : Int32} : X 170 11 L [.int v] h Q ↔ Q (some (.int v)) h := X_ret mC_170 dX8_forget_11 (by decide +kernel)
theorem mC_171 : mC 171 = cX8_feigned := rfl
theorem x171_0 {l1 l2 l3 l4 : Value} {x : Nat} : X 171 0 [.ref x, l1, l2, l3, l4] st h Q ↔ X 171 1 [.ref x, l1, l2, l3, l4] (.ref x :: st) h Q := X_n mC_171 dX8_feigned_0 rfl
theorem x171_1 {b : Nat} : X 171 1 L [.ref b] h Q ↔ hS h b = (1, 8) ∧ X 138 0 [.ref b, .null] [] h (fun r h' => X 171 4 L (pv r []) h' Q) := X_virt (as := []) (n := 0) (ml := 2) (ck := 8) mC_171 dX8_feigned_1 (by unfold cOk; decide +kernel) ⟨rfl, rfl, by decide, Nat.le_of_ble_eq_true rfl⟩
theorem x171_4 : X 171 4 L st h Q ↔ X 171 5 L (.int 0 :: st) h Q := X_n mC_171 dX8_feigned_4 rfl
theorem x171_5 {l0 l1 l2 l3 l4 : Value} {x : Int32} : X 171 5 [l0, l1, l2, l3, l4] (.int x :: st) h Q ↔ c1 l0 = true ∧ X 171 6 [l0, .int x, l2, l3, l4] st h Q := X_sto (kk := 1) (pc' := 6) (w := .int x) mC_171 dX8_feigned_5 rfl (Nat.le_of_ble_eq_true rfl) rfl
theorem x171_6 : X 171 6 L st h Q ↔ X 171 7 L (.int 0 :: st) h Q := X_n mC_171 dX8_feigned_6 rfl
theorem x171_7 {l0 l1 l2 l3 l4 : Value} {x : Int32} : X 171 7 [l0, l1, l2, l3, l4] (.int x :: st) h Q ↔ c1 l1 = true ∧ X 171 8 [l0, l1, .int x, l3, l4] st h Q := X_sto (kk := 2) (pc' := 8) (w := .int x) mC_171 dX8_feigned_7 rfl (Nat.le_of_ble_eq_true rfl) rfl
theorem x171_8 {l0 l1 l3 l4 : Value} {x : Int32} : X 171 8 [l0, l1, .int x, l3, l4] st h Q ↔ X 171 9 [l0, l1, .int x, l3, l4] (.int x :: st) h Q := X_n mC_171 dX8_feigned_8 rfl
theorem x171_9 {l1 l2 l3 l4 : Value} {x : Nat} : X 171 9 [.ref x, l1, l2, l3, l4] st h Q ↔ X 171 10 [.ref x, l1, l2, l3, l4] (.ref x :: st) h Q := X_n mC_171 dX8_feigned_9 rfl
theorem x171_10 {a : Nat} : X 171 10 L (.ref a :: st) h Q ↔ (hS h a = (1, 8) ∧ hR h a 2 ≠ 0) ∧ X 171 13 L (.ref (hR h a 2) :: st) h Q := X_getR mC_171 dX8_feigned_10 (by decide +kernel)
theorem x171_13 : X 171 13 L st h Q ↔ X 171 14 L (.int 0 :: st) h Q := X_n mC_171 dX8_feigned_13 rfl
theorem x171_14 {j : Int32} {a : Nat} : X 171 14 L (.int j :: .ref a :: st) h Q ↔ ib j (hS h a) ∧ X 171 15 L (.int (hI h a j.toNatClampNeg) :: st) h Q := X_iald mC_171 dX8_feigned_14
theorem x171_15 {x y : Int32} : X 171 15 L (.int y :: .int x :: st) h Q ↔ if x < y then X 171 18 L st h Q else X 171 171 L st h Q := X_ige mC_171 dX8_feigned_15 (by decide)
theorem x171_18 : X 171 18 L st h Q ↔ X 171 19 L (.int 0 :: st) h Q := X_n mC_171 dX8_feigned_18 rfl
theorem x171_19 {l0 l1 l2 l3 l4 : Value} {x : Int32} : X 171 19 [l0, l1, l2, l3, l4] (.int x :: st) h Q ↔ c1 l2 = true ∧ X 171 20 [l0, l1, l2, .int x, l4] st h Q := X_sto (kk := 3) (pc' := 20) (w := .int x) mC_171 dX8_feigned_19 rfl (Nat.le_of_ble_eq_true rfl) rfl
theorem x171_20 {l0 l1 l2 l4 : Value} {x : Int32} : X 171 20 [l0, l1, l2, .int x, l4] st h Q ↔ X 171 21 [l0, l1, l2, .int x, l4] (.int x :: st) h Q := X_n mC_171 dX8_feigned_20 rfl
theorem x171_21 {l1 l2 l3 l4 : Value} {x : Nat} : X 171 21 [.ref x, l1, l2, l3, l4] st h Q ↔ X 171 22 [.ref x, l1, l2, l3, l4] (.ref x :: st) h Q := X_n mC_171 dX8_feigned_21 rfl
theorem x171_22 {a : Nat} : X 171 22 L (.ref a :: st) h Q ↔ (hS h a = (1, 8) ∧ hR h a 2 ≠ 0) ∧ X 171 25 L (.ref (hR h a 2) :: st) h Q := X_getR mC_171 dX8_feigned_22 (by decide +kernel)
theorem x171_25 : X 171 25 L st h Q ↔ X 171 26 L (.int 0 :: st) h Q := X_n mC_171 dX8_feigned_25 rfl
theorem x171_26 {j : Int32} {a : Nat} : X 171 26 L (.int j :: .ref a :: st) h Q ↔ ib j (hS h a) ∧ X 171 27 L (.int (hI h a j.toNatClampNeg) :: st) h Q := X_iald mC_171 dX8_feigned_26
theorem x171_27 {x y : Int32} : X 171 27 L (.int y :: .int x :: st) h Q ↔ if x < y then X 171 30 L st h Q else X 171 74 L st h Q := X_ige mC_171 dX8_feigned_27 (by decide)
theorem x171_30 {l1 l2 l3 l4 : Value} {x : Nat} : X 171 30 [.ref x, l1, l2, l3, l4] st h Q ↔ X 171 31 [.ref x, l1, l2, l3, l4] (.ref x :: st) h Q := X_n mC_171 dX8_feigned_30 rfl
theorem x171_31 {a : Nat} : X 171 31 L (.ref a :: st) h Q ↔ (hS h a = (1, 8) ∧ hR h a 2 ≠ 0) ∧ X 171 34 L (.ref (hR h a 2) :: st) h Q := X_getR mC_171 dX8_feigned_31 (by decide +kernel)
theorem x171_34 : X 171 34 L st h Q ↔ X 171 36 L (.int 6 :: st) h Q := X_n mC_171 dX8_feigned_34 rfl
theorem x171_36 {l0 l1 l2 l4 : Value} {x : Int32} : X 171 36 [l0, l1, l2, .int x, l4] st h Q ↔ X 171 37 [l0, l1, l2, .int x, l4] (.int x :: st) h Q := X_n mC_171 dX8_feigned_36 rfl
theorem x171_37 {x y : Int32} : X 171 37 L (.int y :: .int x :: st) h Q ↔ X 171 38 L (.int (x + y) :: st) h Q := X_n mC_171 dX8_feigned_37 rfl
theorem x171_38 {j : Int32} {a : Nat} : X 171 38 L (.int j :: .ref a :: st) h Q ↔ ib j (hS h a) ∧ X 171 39 L (.int (hI h a j.toNatClampNeg) :: st) h Q := X_iald mC_171 dX8_feigned_38
theorem x171_39 {l0 l1 l2 l3 l4 : Value} {x : Int32} : X 171 39 [l0, l1, l2, l3, l4] (.int x :: st) h Q ↔ c1 l3 = true ∧ X 171 41 [l0, l1, l2, l3, .int x] st h Q := X_sto (kk := 4) (pc' := 41) (w := .int x) mC_171 dX8_feigned_39 rfl (Nat.le_of_ble_eq_true rfl) rfl
theorem x171_41 {l1 l2 l3 l4 : Value} {x : Nat} : X 171 41 [.ref x, l1, l2, l3, l4] st h Q ↔ X 171 42 [.ref x, l1, l2, l3, l4] (.ref x :: st) h Q := X_n mC_171 dX8_feigned_41 rfl
theorem x171_42 {a : Nat} : X 171 42 L (.ref a :: st) h Q ↔ (hS h a = (1, 8) ∧ hR h a 13 ≠ 0) ∧ X 171 45 L (.ref (hR h a 13) :: st) h Q := X_getR mC_171 dX8_feigned_42 (by decide +kernel)
theorem x171_45 {l0 l1 l2 l4 : Value} {x : Int32} : X 171 45 [l0, l1, l2, .int x, l4] st h Q ↔ X 171 46 [l0, l1, l2, .int x, l4] (.int x :: st) h Q := X_n mC_171 dX8_feigned_45 rfl
theorem x171_46 {l0 l1 l2 l4 : Value} {x : Int32} : X 171 46 [l0, l1, l2, .int x, l4] st h Q ↔ X 171 47 [l0, l1, l2, .int x, l4] (.int x :: st) h Q := X_n mC_171 dX8_feigned_46 rfl
theorem x171_47 {l0 l1 l3 l4 : Value} {x : Int32} : X 171 47 [l0, l1, .int x, l3, l4] st h Q ↔ X 171 48 [l0, l1, .int x, l3, l4] (.int x :: st) h Q := X_n mC_171 dX8_feigned_47 rfl
theorem x171_48 {x y : Int32} : X 171 48 L (.int y :: .int x :: st) h Q ↔ if x = y then X 171 51 L st h Q else X 171 55 L st h Q := X_ine mC_171 dX8_feigned_48 (by decide)
theorem x171_51 : X 171 51 L st h Q ↔ X 171 52 L (.int 3 :: st) h Q := X_n mC_171 dX8_feigned_51 rfl
theorem x171_52 : X 171 52 L st h Q ↔ X 171 67 L st h Q := X_goto mC_171 dX8_feigned_52 (by decide)
theorem x171_55 {l0 l1 l2 l3 : Value} {x : Int32} : X 171 55 [l0, l1, l2, l3, .int x] st h Q ↔ X 171 57 [l0, l1, l2, l3, .int x] (.int x :: st) h Q := X_n mC_171 dX8_feigned_55 rfl
theorem x171_57 : X 171 57 L st h Q ↔ X 171 58 L (.int 3 :: st) h Q := X_n mC_171 dX8_feigned_57 rfl
theorem x171_58 {x y : Int32} : X 171 58 L (.int y :: .int x :: st) h Q ↔ if x = y then X 171 61 L st h Q else X 171 65 L st h Q := X_ine mC_171 dX8_feigned_58 (by decide)
theorem x171_61 : X 171 61 L st h Q ↔ X 171 62 L (.int 0 :: st) h Q := X_n mC_171 dX8_feigned_61 rfl
theorem x171_62 : X 171 62 L st h Q ↔ X 171 67 L st h Q := X_goto mC_171 dX8_feigned_62 (by decide)
theorem x171_65 {l0 l1 l2 l3 : Value} {x : Int32} : X 171 65 [l0, l1, l2, l3, .int x] st h Q ↔ X 171 67 [l0, l1, l2, l3, .int x] (.int x :: st) h Q := X_n mC_171 dX8_feigned_65 rfl
theorem x171_67 {j x : Int32} {a : Nat} : X 171 67 L (.int x :: .int j :: .ref a :: st) h Q ↔ ibw j (hS h a) ∧ X 171 68 L st (sI h a j.toNatClampNeg x) Q := X_iast mC_171 dX8_feigned_67
theorem x171_68 {l0 l1 l2 l4 : Value} {x : Int32} : X 171 68 [l0, l1, l2, .int x, l4] st h Q ↔ c1 l2 = true ∧ X 171 71 [l0, l1, l2, .int (x + 1), l4] st h Q := X_inc (pc' := 71) (x := x) mC_171 dX8_feigned_68 rfl rfl rfl
theorem x171_71 : X 171 71 L st h Q ↔ X 171 20 L st h Q := X_goto mC_171 dX8_feigned_71 (by decide)
theorem x171_74 : X 171 74 L st h Q ↔ X 171 75 L (.int 1 :: st) h Q := X_n mC_171 dX8_feigned_74 rfl
theorem x171_75 {l0 l1 l2 l3 l4 : Value} {x : Int32} : X 171 75 [l0, l1, l2, l3, l4] (.int x :: st) h Q ↔ c1 l2 = true ∧ X 171 76 [l0, l1, l2, .int x, l4] st h Q := X_sto (kk := 3) (pc' := 76) (w := .int x) mC_171 dX8_feigned_75 rfl (Nat.le_of_ble_eq_true rfl) rfl
theorem x171_76 : X 171 76 L st h Q ↔ X 171 77 L (.int 0 :: st) h Q := X_n mC_171 dX8_feigned_76 rfl
theorem x171_77 {l0 l1 l2 l3 l4 : Value} {x : Int32} : X 171 77 [l0, l1, l2, l3, l4] (.int x :: st) h Q ↔ c1 l3 = true ∧ X 171 79 [l0, l1, l2, l3, .int x] st h Q := X_sto (kk := 4) (pc' := 79) (w := .int x) mC_171 dX8_feigned_77 rfl (Nat.le_of_ble_eq_true rfl) rfl
theorem x171_79 {l0 l1 l2 l3 : Value} {x : Int32} : X 171 79 [l0, l1, l2, l3, .int x] st h Q ↔ X 171 81 [l0, l1, l2, l3, .int x] (.int x :: st) h Q := X_n mC_171 dX8_feigned_79 rfl
theorem x171_81 {l1 l2 l3 l4 : Value} {x : Nat} : X 171 81 [.ref x, l1, l2, l3, l4] st h Q ↔ X 171 82 [.ref x, l1, l2, l3, l4] (.ref x :: st) h Q := X_n mC_171 dX8_feigned_81 rfl
theorem x171_82 {a : Nat} : X 171 82 L (.ref a :: st) h Q ↔ hS h a = (1, 8) ∧ X 171 85 L (.int (hI h a 10) :: st) h Q := X_getI mC_171 dX8_feigned_82 (by decide +kernel)
theorem x171_85 {x y : Int32} : X 171 85 L (.int y :: .int x :: st) h Q ↔ if x < y then X 171 88 L st h Q else X 171 151 L st h Q := X_ige mC_171 dX8_feigned_85 (by decide)
theorem x171_88 {l1 l2 l3 l4 : Value} {x : Nat} : X 171 88 [.ref x, l1, l2, l3, l4] st h Q ↔ X 171 89 [.ref x, l1, l2, l3, l4] (.ref x :: st) h Q := X_n mC_171 dX8_feigned_88 rfl
theorem x171_89 {l1 l2 l3 l4 : Value} {x : Nat} : X 171 89 [.ref x, l1, l2, l3, l4] st h Q ↔ X 171 90 [.ref x, l1, l2, l3, l4] (.ref x :: st) h Q := X_n mC_171 dX8_feigned_89 rfl
theorem x171_90 {a : Nat} : X 171 90 L (.ref a :: st) h Q ↔ (hS h a = (1, 8) ∧ hR h a 9 ≠ 0) ∧ X 171 93 L (.ref (hR h a 9) :: st) h Q := X_getR mC_171 dX8_feigned_90 (by decide +kernel)
theorem x171_93 {l0 l1 l2 l3 : Value} {x : Int32} : X 171 93 [l0, l1, l2, l3, .int x] st h Q ↔ X 171 95 [l0, l1, l2, l3, .int x] (.int x :: st) h Q := X_n mC_171 dX8_feigned_93 rfl
theorem x171_95 {j : Int32} {a : Nat} : X 171 95 L (.int j :: .ref a :: st) h Q ↔ ib j (hS h a) ∧ X 171 96 L (.int (hI h a j.toNatClampNeg) :: st) h Q := X_iald mC_171 dX8_feigned_95
theorem x171_96 : X 171 96 L st h Q ↔ X 171 98 L (.int 10 :: st) h Q := X_n mC_171 dX8_feigned_96 rfl
theorem x171_98 {x y : Int32} : X 171 98 L (.int y :: .int x :: st) h Q ↔ (¬ y = 0) ∧ X 171 99 L (.int (x / y) :: st) h Q := X_gd mC_171 dX8_feigned_98 rfl
theorem x171_99 : X 171 99 L st h Q ↔ X 171 101 L (.int 10 :: st) h Q := X_n mC_171 dX8_feigned_99 rfl
theorem x171_101 {x y : Int32} : X 171 101 L (.int y :: .int x :: st) h Q ↔ (¬ y = 0) ∧ X 171 102 L (.int (x - x / y * y) :: st) h Q := X_gd mC_171 dX8_feigned_101 rfl
theorem x171_102 {a : Nat} {v : Int32} : X 171 102 L (.int v :: .ref a :: st) h Q ↔ hS h a = (1, 8) ∧ X 171 105 L st (sI h a 15 v) Q := X_putI mC_171 dX8_feigned_102 (by decide +kernel)
theorem x171_105 {l0 l1 l2 l4 : Value} {x : Int32} : X 171 105 [l0, l1, l2, .int x, l4] st h Q ↔ X 171 106 [l0, l1, l2, .int x, l4] (.int x :: st) h Q := X_n mC_171 dX8_feigned_105 rfl
theorem x171_106 {x : Int32} : X 171 106 L (.int x :: st) h Q ↔ if x = 0 then X 171 143 L st h Q else X 171 109 L st h Q := X_zeq mC_171 dX8_feigned_106 (by decide)
theorem x171_109 {l1 l2 l3 l4 : Value} {x : Nat} : X 171 109 [.ref x, l1, l2, l3, l4] st h Q ↔ X 171 110 [.ref x, l1, l2, l3, l4] (.ref x :: st) h Q := X_n mC_171 dX8_feigned_109 rfl
theorem x171_110 {b : Nat} : X 171 110 L [.ref b] h Q ↔ hS h b = (1, 8) ∧ X 143 0 [.ref b, .null, .null] [] h (fun r h' => X 171 113 L (pv r []) h' Q) := X_virt (as := []) (n := 0) (ml := 3) (ck := 8) mC_171 dX8_feigned_110 (by unfold cOk; decide +kernel) ⟨rfl, rfl, by decide, Nat.le_of_ble_eq_true rfl⟩
theorem x171_113 {l1 l2 l3 l4 : Value} {x : Nat} : X 171 113 [.ref x, l1, l2, l3, l4] st h Q ↔ X 171 114 [.ref x, l1, l2, l3, l4] (.ref x :: st) h Q := X_n mC_171 dX8_feigned_113 rfl
theorem x171_114 {a : Nat} : X 171 114 L (.ref a :: st) h Q ↔ (hS h a = (1, 8) ∧ hR h a 9 ≠ 0) ∧ X 171 117 L (.ref (hR h a 9) :: st) h Q := X_getR mC_171 dX8_feigned_114 (by decide +kernel)
theorem x171_117 {l0 l1 l2 l3 : Value} {x : Int32} : X 171 117 [l0, l1, l2, l3, .int x] st h Q ↔ X 171 119 [l0, l1, l2, l3, .int x] (.int x :: st) h Q := X_n mC_171 dX8_feigned_117 rfl
theorem x171_119 {j : Int32} {a : Nat} : X 171 119 L (.int j :: .ref a :: st) h Q ↔ ib j (hS h a) ∧ X 171 120 L (.int (hI h a j.toNatClampNeg) :: st) h Q := X_iald mC_171 dX8_feigned_119
theorem x171_120 : X 171 120 L st h Q ↔ X 171 122 L (.int 100 :: st) h Q := X_n mC_171 dX8_feigned_120 rfl
theorem x171_122 {x y : Int32} : X 171 122 L (.int y :: .int x :: st) h Q ↔ (¬ y = 0) ∧ X 171 123 L (.int (x / y) :: st) h Q := X_gd mC_171 dX8_feigned_122 rfl
theorem x171_123 {x y : Int32} : X 171 123 L (.int y :: .int x :: st) h Q ↔ X 171 124 L (.int (x >>> (y &&& 31)) :: st) h Q := X_n mC_171 dX8_feigned_123 rfl
theorem x171_124 : X 171 124 L st h Q ↔ X 171 125 L (.int 1 :: st) h Q := X_n mC_171 dX8_feigned_124 rfl
theorem x171_125 {x y : Int32} : X 171 125 L (.int y :: .int x :: st) h Q ↔ X 171 126 L (.int (x &&& y) :: st) h Q := X_n mC_171 dX8_feigned_125 rfl
theorem x171_126 {l1 l2 l3 l4 : Value} {x : Nat} : X 171 126 [.ref x, l1, l2, l3, l4] st h Q ↔ X 171 127 [.ref x, l1, l2, l3, l4] (.ref x :: st) h Q := X_n mC_171 dX8_feigned_126 rfl
theorem x171_127 {a : Nat} : X 171 127 L (.ref a :: st) h Q ↔ (hS h a = (1, 8) ∧ hR h a 9 ≠ 0) ∧ X 171 130 L (.ref (hR h a 9) :: st) h Q := X_getR mC_171 dX8_feigned_127 (by decide +kernel)
theorem x171_130 {l0 l1 l2 l3 : Value} {x : Int32} : X 171 130 [l0, l1, l2, l3, .int x] st h Q ↔ X 171 132 [l0, l1, l2, l3, .int x] (.int x :: st) h Q := X_n mC_171 dX8_feigned_130 rfl
theorem x171_132 {j : Int32} {a : Nat} : X 171 132 L (.int j :: .ref a :: st) h Q ↔ ib j (hS h a) ∧ X 171 133 L (.int (hI h a j.toNatClampNeg) :: st) h Q := X_iald mC_171 dX8_feigned_132
theorem x171_133 : X 171 133 L st h Q ↔ X 171 135 L (.int 10 :: st) h Q := X_n mC_171 dX8_feigned_133 rfl
theorem x171_135 {x y : Int32} : X 171 135 L (.int y :: .int x :: st) h Q ↔ (¬ y = 0) ∧ X 171 136 L (.int (x - x / y * y) :: st) h Q := X_gd mC_171 dX8_feigned_135 rfl
theorem x171_136 {x y : Int32} : X 171 136 L (.int y :: .int x :: st) h Q ↔ if x = y then X 171 139 L st h Q else X 171 143 L st h Q := X_ine mC_171 dX8_feigned_136 (by decide)
theorem x171_139 : X 171 139 L st h Q ↔ X 171 140 L (.int 1 :: st) h Q := X_n mC_171 dX8_feigned_139 rfl
theorem x171_140 : X 171 140 L st h Q ↔ X 171 144 L st h Q := X_goto mC_171 dX8_feigned_140 (by decide)
theorem x171_143 : X 171 143 L st h Q ↔ X 171 144 L (.int 0 :: st) h Q := X_n mC_171 dX8_feigned_143 rfl
theorem x171_144 {l0 l1 l2 l3 l4 : Value} {x : Int32} : X 171 144 [l0, l1, l2, l3, l4] (.int x :: st) h Q ↔ c1 l2 = true ∧ X 171 145 [l0, l1, l2, .int x, l4] st h Q := X_sto (kk := 3) (pc' := 145) (w := .int x) mC_171 dX8_feigned_144 rfl (Nat.le_of_ble_eq_true rfl) rfl
theorem x171_145 {l0 l1 l2 l3 : Value} {x : Int32} : X 171 145 [l0, l1, l2, l3, .int x] st h Q ↔ c1 l3 = true ∧ X 171 148 [l0, l1, l2, l3, .int (x + 1)] st h Q := X_inc (pc' := 148) (x := x) mC_171 dX8_feigned_145 rfl rfl rfl
theorem x171_148 : X 171 148 L st h Q ↔ X 171 79 L st h Q := X_goto mC_171 dX8_feigned_148 (by decide)
theorem x171_151 {l0 l2 l3 l4 : Value} {x : Int32} : X 171 151 [l0, .int x, l2, l3, l4] st h Q ↔ X 171 152 [l0, .int x, l2, l3, l4] (.int x :: st) h Q := X_n mC_171 dX8_feigned_151 rfl
theorem x171_152 {l0 l1 l2 l4 : Value} {x : Int32} : X 171 152 [l0, l1, l2, .int x, l4] st h Q ↔ X 171 153 [l0, l1, l2, .int x, l4] (.int x :: st) h Q := X_n mC_171 dX8_feigned_152 rfl
theorem x171_153 {x : Int32} : X 171 153 L (.int x :: st) h Q ↔ if x = 0 then X 171 162 L st h Q else X 171 156 L st h Q := X_zeq mC_171 dX8_feigned_153 (by decide)
theorem x171_156 : X 171 156 L st h Q ↔ X 171 157 L (.int 1 :: st) h Q := X_n mC_171 dX8_feigned_156 rfl
theorem x171_157 {l0 l1 l3 l4 : Value} {x : Int32} : X 171 157 [l0, l1, .int x, l3, l4] st h Q ↔ X 171 158 [l0, l1, .int x, l3, l4] (.int x :: st) h Q := X_n mC_171 dX8_feigned_157 rfl
theorem x171_158 {x y : Int32} : X 171 158 L (.int y :: .int x :: st) h Q ↔ X 171 159 L (.int (x <<< (y &&& 31)) :: st) h Q := X_n mC_171 dX8_feigned_158 rfl
theorem x171_159 : X 171 159 L st h Q ↔ X 171 163 L st h Q := X_goto mC_171 dX8_feigned_159 (by decide)
theorem x171_162 : X 171 162 L st h Q ↔ X 171 163 L (.int 0 :: st) h Q := X_n mC_171 dX8_feigned_162 rfl
theorem x171_163 {x y : Int32} : X 171 163 L (.int y :: .int x :: st) h Q ↔ X 171 164 L (.int (x ||| y) :: st) h Q := X_n mC_171 dX8_feigned_163 rfl
theorem x171_164 {l0 l1 l2 l3 l4 : Value} {x : Int32} : X 171 164 [l0, l1, l2, l3, l4] (.int x :: st) h Q ↔ c1 l0 = true ∧ X 171 165 [l0, .int x, l2, l3, l4] st h Q := X_sto (kk := 1) (pc' := 165) (w := .int x) mC_171 dX8_feigned_164 rfl (Nat.le_of_ble_eq_true rfl) rfl
theorem x171_165 {l0 l1 l3 l4 : Value} {x : Int32} : X 171 165 [l0, l1, .int x, l3, l4] st h Q ↔ c1 l1 = true ∧ X 171 168 [l0, l1, .int (x + 1), l3, l4] st h Q := X_inc (pc' := 168) (x := x) mC_171 dX8_feigned_165 rfl rfl rfl
theorem x171_168 : X 171 168 L st h Q ↔ X 171 8 L st h Q := X_goto mC_171 dX8_feigned_168 (by decide)
theorem x171_171 {l0 l2 l3 l4 : Value} {x : Int32} : X 171 171 [l0, .int x, l2, l3, l4] st h Q ↔ X 171 172 [l0, .int x, l2, l3, l4] (.int x :: st) h Q := X_n mC_171 dX8_feigned_171 rfl
theorem x171_172 {v : Int32} : X 171 172 L [.int v] h Q ↔ Q (some (.int v)) h := X_ret mC_171 dX8_feigned_172 (by decide +kernel)
theorem mC_172 : mC 172 = cX8_hums := rfl
theorem x172_0 {l1 l2 l3 : Value} {x : Nat} : X 172 0 [.ref x, l1, l2, l3] st h Q ↔ X 172 1 [.ref x, l1, l2, l3] (.ref x :: st) h Q := X_n mC_172 dX8_hums_0 rfl
theorem x172_1 {l0 l2 l3 : Value} {x : Int32} : X 172 1 [l0, .int x, l2, l3] st h Q ↔ X 172 2 [l0, .int x, l2, l3] (.int x :: st) h Q := X_n mC_172 dX8_hums_1 rfl
theorem x172_2 {b : Nat} {a0 : Int32} : X 172 2 L [.int a0, .ref b] h Q ↔ hS h b = (1, 8) ∧ X 121 0 [.ref b, .int a0] [] h (fun r h' => X 172 5 L (pv r []) h' Q) := X_virt (as := [.int a0]) (n := 1) (ml := 2) (ck := 8) mC_172 dX8_hums_2 (by unfold cOk; decide +kernel) ⟨rfl, rfl, by decide, Nat.le_of_ble_eq_true rfl⟩
theorem x172_5 {x : Int32} : X 172 5 L (.int x :: st) h Q ↔ if x = 0 then X 172 8 L st h Q else X 172 10 L st h Q := X_zne mC_172 dX8_hums_5 (by decide)
theorem x172_8 : X 172 8 L st h Q ↔ X 172 9 L (.int (-1) :: st) h Q := X_n mC_172 dX8_hums_8 rfl
theorem x172_9 {v : Int32} : X 172 9 L [.int v] h Q ↔ Q (some (.int v)) h := X_ret mC_172 dX8_hums_9 (by decide +kernel)
theorem x172_10 {l1 l2 l3 : Value} {x : Nat} : X 172 10 [.ref x, l1, l2, l3] st h Q ↔ X 172 11 [.ref x, l1, l2, l3] (.ref x :: st) h Q := X_n mC_172 dX8_hums_10 rfl
theorem x172_11 {b : Nat} : X 172 11 L [.ref b] h Q ↔ hS h b = (1, 8) ∧ X 138 0 [.ref b, .null] [] h (fun r h' => X 172 14 L (pv r []) h' Q) := X_virt (as := []) (n := 0) (ml := 2) (ck := 8) mC_172 dX8_hums_11 (by unfold cOk; decide +kernel) ⟨rfl, rfl, by decide, Nat.le_of_ble_eq_true rfl⟩
theorem x172_14 : X 172 14 L st h Q ↔ X 172 15 L (.int 0 :: st) h Q := X_n mC_172 dX8_hums_14 rfl
theorem x172_15 {l0 l1 l2 l3 : Value} {x : Int32} : X 172 15 [l0, l1, l2, l3] (.int x :: st) h Q ↔ c1 l1 = true ∧ X 172 16 [l0, l1, .int x, l3] st h Q := X_sto (kk := 2) (pc' := 16) (w := .int x) mC_172 dX8_hums_15 rfl (Nat.le_of_ble_eq_true rfl) rfl
theorem x172_16 : X 172 16 L st h Q ↔ X 172 17 L (.int 0 :: st) h Q := X_n mC_172 dX8_hums_16 rfl
theorem x172_17 {l0 l1 l2 l3 : Value} {x : Int32} : X 172 17 [l0, l1, l2, l3] (.int x :: st) h Q ↔ c1 l2 = true ∧ X 172 18 [l0, l1, l2, .int x] st h Q := X_sto (kk := 3) (pc' := 18) (w := .int x) mC_172 dX8_hums_17 rfl (Nat.le_of_ble_eq_true rfl) rfl
theorem x172_18 {l0 l1 l2 : Value} {x : Int32} : X 172 18 [l0, l1, l2, .int x] st h Q ↔ X 172 19 [l0, l1, l2, .int x] (.int x :: st) h Q := X_n mC_172 dX8_hums_18 rfl
theorem x172_19 {l1 l2 l3 : Value} {x : Nat} : X 172 19 [.ref x, l1, l2, l3] st h Q ↔ X 172 20 [.ref x, l1, l2, l3] (.ref x :: st) h Q := X_n mC_172 dX8_hums_19 rfl
theorem x172_20 {a : Nat} : X 172 20 L (.ref a :: st) h Q ↔ (hS h a = (1, 8) ∧ hR h a 2 ≠ 0) ∧ X 172 23 L (.ref (hR h a 2) :: st) h Q := X_getR mC_172 dX8_hums_20 (by decide +kernel)
theorem x172_23 : X 172 23 L st h Q ↔ X 172 24 L (.int 0 :: st) h Q := X_n mC_172 dX8_hums_23 rfl
theorem x172_24 {j : Int32} {a : Nat} : X 172 24 L (.int j :: .ref a :: st) h Q ↔ ib j (hS h a) ∧ X 172 25 L (.int (hI h a j.toNatClampNeg) :: st) h Q := X_iald mC_172 dX8_hums_24
theorem x172_25 {x y : Int32} : X 172 25 L (.int y :: .int x :: st) h Q ↔ if x < y then X 172 28 L st h Q else X 172 62 L st h Q := X_ige mC_172 dX8_hums_25 (by decide)
theorem x172_28 {l0 l1 l3 : Value} {x : Int32} : X 172 28 [l0, l1, .int x, l3] st h Q ↔ X 172 29 [l0, l1, .int x, l3] (.int x :: st) h Q := X_n mC_172 dX8_hums_28 rfl
theorem x172_29 {l1 l2 l3 : Value} {x : Nat} : X 172 29 [.ref x, l1, l2, l3] st h Q ↔ X 172 30 [.ref x, l1, l2, l3] (.ref x :: st) h Q := X_n mC_172 dX8_hums_29 rfl
theorem x172_30 {l0 l2 l3 : Value} {x : Int32} : X 172 30 [l0, .int x, l2, l3] st h Q ↔ X 172 31 [l0, .int x, l2, l3] (.int x :: st) h Q := X_n mC_172 dX8_hums_30 rfl
theorem x172_31 {l0 l1 l2 : Value} {x : Int32} : X 172 31 [l0, l1, l2, .int x] st h Q ↔ X 172 32 [l0, l1, l2, .int x] (.int x :: st) h Q := X_n mC_172 dX8_hums_31 rfl
theorem x172_32 {b : Nat} {a0 : Int32} {a1 : Int32} {w0 : Value} : X 172 32 L [.int a1, .int a0, .ref b, w0] h Q ↔ hS h b = (1, 8) ∧ X 141 0 [.ref b, .int a0, .int a1] [] h (fun r h' => X 172 35 L (pv r [w0]) h' Q) := X_virt (as := [.int a0, .int a1]) (n := 2) (ml := 3) (ck := 8) mC_172 dX8_hums_32 (by unfold cOk; decide +kernel) ⟨rfl, rfl, by decide, Nat.le_of_ble_eq_true rfl⟩
theorem x172_35 {x : Int32} : X 172 35 L (.int x :: st) h Q ↔ if x = 0 then X 172 53 L st h Q else X 172 38 L st h Q := X_zeq mC_172 dX8_hums_35 (by decide)
theorem x172_38 {l1 l2 l3 : Value} {x : Nat} : X 172 38 [.ref x, l1, l2, l3] st h Q ↔ X 172 39 [.ref x, l1, l2, l3] (.ref x :: st) h Q := X_n mC_172 dX8_hums_38 rfl
theorem x172_39 {l0 l2 l3 : Value} {x : Int32} : X 172 39 [l0, .int x, l2, l3] st h Q ↔ X 172 40 [l0, .int x, l2, l3] (.int x :: st) h Q := X_n mC_172 dX8_hums_39 rfl
theorem x172_40 {l0 l1 l2 : Value} {x : Int32} : X 172 40 [l0, l1, l2, .int x] st h Q ↔ X 172 41 [l0, l1, l2, .int x] (.int x :: st) h Q := X_n mC_172 dX8_hums_40 rfl
theorem x172_41 {b : Nat} {a0 : Int32} {a1 : Int32} {w0 : Value} : X 172 41 L [.int a1, .int a0, .ref b, w0] h Q ↔ hS h b = (1, 8) ∧ X 140 0 [.ref b, .int a0, .int a1, .null, .null] [] h (fun r h' => X 172 44 L (pv r [w0]) h' Q) := X_virt (as := [.int a0, .int a1]) (n := 2) (ml := 5) (ck := 8) mC_172 dX8_hums_41 (by unfold cOk; decide +kernel) ⟨rfl, rfl, by decide, Nat.le_of_ble_eq_true rfl⟩
theorem x172_44 {x : Int32} : X 172 44 L (.int x :: st) h Q ↔ if x = 0 then X 172 53 L st h Q else X 172 47 L st h Q := X_zeq mC_172 dX8_hums_44 (by decide)
theorem x172_47 : X 172 47 L st h Q ↔ X 172 48 L (.int 1 :: st) h Q := X_n mC_172 dX8_hums_47 rfl
theorem x172_48 {l0 l1 l2 : Value} {x : Int32} : X 172 48 [l0, l1, l2, .int x] st h Q ↔ X 172 49 [l0, l1, l2, .int x] (.int x :: st) h Q := X_n mC_172 dX8_hums_48 rfl
theorem x172_49 {x y : Int32} : X 172 49 L (.int y :: .int x :: st) h Q ↔ X 172 50 L (.int (x <<< (y &&& 31)) :: st) h Q := X_n mC_172 dX8_hums_49 rfl
theorem x172_50 : X 172 50 L st h Q ↔ X 172 54 L st h Q := X_goto mC_172 dX8_hums_50 (by decide)
theorem x172_53 : X 172 53 L st h Q ↔ X 172 54 L (.int 0 :: st) h Q := X_n mC_172 dX8_hums_53 rfl
theorem x172_54 {x y : Int32} : X 172 54 L (.int y :: .int x :: st) h Q ↔ X 172 55 L (.int (x ||| y) :: st) h Q := X_n mC_172 dX8_hums_54 rfl
theorem x172_55 {l0 l1 l2 l3 : Value} {x : Int32} : X 172 55 [l0, l1, l2, l3] (.int x :: st) h Q ↔ c1 l1 = true ∧ X 172 56 [l0, l1, .int x, l3] st h Q := X_sto (kk := 2) (pc' := 56) (w := .int x) mC_172 dX8_hums_55 rfl (Nat.le_of_ble_eq_true rfl) rfl
theorem x172_56 {l0 l1 l2 : Value} {x : Int32} : X 172 56 [l0, l1, l2, .int x] st h Q ↔ c1 l2 = true ∧ X 172 59 [l0, l1, l2, .int (x + 1)] st h Q := X_inc (pc' := 59) (x := x) mC_172 dX8_hums_56 rfl rfl rfl
theorem x172_59 : X 172 59 L st h Q ↔ X 172 18 L st h Q := X_goto mC_172 dX8_hums_59 (by decide)
theorem x172_62 {l0 l1 l3 : Value} {x : Int32} : X 172 62 [l0, l1, .int x, l3] st h Q ↔ X 172 63 [l0, l1, .int x, l3] (.int x :: st) h Q := X_n mC_172 dX8_hums_62 rfl
theorem x172_63 {v : Int32} : X 172 63 L [.int v] h Q ↔ Q (some (.int v)) h := X_ret mC_172 dX8_hums_63 (by decide +kernel)
theorem mC_173 : mC 173 = cX8_odds := rfl
theorem x173_0 {l1 l2 l3 l4 l5 l6 l7 l8 : Value} {x : Nat} : X 173 0 [.ref x, l1, l2, l3, l4, l5, l6, l7, l8] st h Q ↔ X 173 1 [.ref x, l1, l2, l3, l4, l5, l6, l7, l8] (.ref x :: st) h Q := X_n mC_173 dX8_odds_0 rfl
theorem x173_1 {l0 l2 l3 l4 l5 l6 l7 l8 : Value} {x : Int32} : X 173 1 [l0, .int x, l2, l3, l4, l5, l6, l7, l8] st h Q ↔ X 173 2 [l0, .int x, l2, l3, l4, l5, l6, l7, l8] (.int x :: st) h Q := X_n mC_173 dX8_odds_1 rfl
theorem x173_2 {b : Nat} {a0 : Int32} : X 173 2 L [.int a0, .ref b] h Q ↔ hS h b = (1, 8) ∧ X 121 0 [.ref b, .int a0] [] h (fun r h' => X 173 5 L (pv r []) h' Q) := X_virt (as := [.int a0]) (n := 1) (ml := 2) (ck := 8) mC_173 dX8_odds_2 (by unfold cOk; decide +kernel) ⟨rfl, rfl, by decide, Nat.le_of_ble_eq_true rfl⟩
theorem x173_5 {x : Int32} : X 173 5 L (.int x :: st) h Q ↔ if x = 0 then X 173 27 L st h Q else X 173 8 L st h Q := X_zeq mC_173 dX8_odds_5 (by decide)
theorem x173_8 {l0 l1 l3 l4 l5 l6 l7 l8 : Value} {x : Int32} : X 173 8 [l0, l1, .int x, l3, l4, l5, l6, l7, l8] st h Q ↔ X 173 9 [l0, l1, .int x, l3, l4, l5, l6, l7, l8] (.int x :: st) h Q := X_n mC_173 dX8_odds_8 rfl
theorem x173_9 : X 173 9 L st h Q ↔ X 173 10 L (.int 0 :: st) h Q := X_n mC_173 dX8_odds_9 rfl
theorem x173_10 : X 173 10 L st h Q ↔ X 173 12 L (.int 10 :: st) h Q := X_n mC_173 dX8_odds_10 rfl
theorem x173_12 {a0 : Int32} {a1 : Int32} {a2 : Int32} : X 173 12 L [.int a2, .int a1, .int a0] h Q ↔ X 120 0 [.int a0, .int a1, .int a2] [] h (fun r h' => X 173 15 L (pv r []) h' Q) := X_stat (as := [.int a0, .int a1, .int a2]) (n := 3) (ml := 3) (ck := 8) mC_173 dX8_odds_12 (by unfold cOk; decide +kernel) ⟨rfl, rfl, by decide, Nat.le_of_ble_eq_true rfl⟩
theorem x173_15 {x : Int32} : X 173 15 L (.int x :: st) h Q ↔ if x = 0 then X 173 27 L st h Q else X 173 18 L st h Q := X_zeq mC_173 dX8_odds_15 (by decide)
theorem x173_18 {l0 l1 l2 l4 l5 l6 l7 l8 : Value} {x : Int32} : X 173 18 [l0, l1, l2, .int x, l4, l5, l6, l7, l8] st h Q ↔ X 173 19 [l0, l1, l2, .int x, l4, l5, l6, l7, l8] (.int x :: st) h Q := X_n mC_173 dX8_odds_18 rfl
theorem x173_19 : X 173 19 L st h Q ↔ X 173 20 L (.int 0 :: st) h Q := X_n mC_173 dX8_odds_19 rfl
theorem x173_20 : X 173 20 L st h Q ↔ X 173 21 L (.int 1 :: st) h Q := X_n mC_173 dX8_odds_20 rfl
theorem x173_21 {a0 : Int32} {a1 : Int32} {a2 : Int32} : X 173 21 L [.int a2, .int a1, .int a0] h Q ↔ X 120 0 [.int a0, .int a1, .int a2] [] h (fun r h' => X 173 24 L (pv r []) h' Q) := X_stat (as := [.int a0, .int a1, .int a2]) (n := 3) (ml := 3) (ck := 8) mC_173 dX8_odds_21 (by unfold cOk; decide +kernel) ⟨rfl, rfl, by decide, Nat.le_of_ble_eq_true rfl⟩
theorem x173_24 {x : Int32} : X 173 24 L (.int x :: st) h Q ↔ if x = 0 then X 173 27 L st h Q else X 173 29 L st h Q := X_zne mC_173 dX8_odds_24 (by decide)
theorem x173_27 : X 173 27 L st h Q ↔ X 173 28 L (.int (-1) :: st) h Q := X_n mC_173 dX8_odds_27 rfl
theorem x173_28 {v : Int32} : X 173 28 L [.int v] h Q ↔ Q (some (.int v)) h := X_ret mC_173 dX8_odds_28 (by decide +kernel)
theorem x173_29 {l1 l2 l3 l4 l5 l6 l7 l8 : Value} {x : Nat} : X 173 29 [.ref x, l1, l2, l3, l4, l5, l6, l7, l8] st h Q ↔ X 173 30 [.ref x, l1, l2, l3, l4, l5, l6, l7, l8] (.ref x :: st) h Q := X_n mC_173 dX8_odds_29 rfl
theorem x173_30 {b : Nat} : X 173 30 L [.ref b] h Q ↔ hS h b = (1, 8) ∧ X 138 0 [.ref b, .null] [] h (fun r h' => X 173 33 L (pv r []) h' Q) := X_virt (as := []) (n := 0) (ml := 2) (ck := 8) mC_173 dX8_odds_30 (by unfold cOk; decide +kernel) ⟨rfl, rfl, by decide, Nat.le_of_ble_eq_true rfl⟩
theorem x173_33 : X 173 33 L st h Q ↔ X 173 34 L (.int 0 :: st) h Q := X_n mC_173 dX8_odds_33 rfl
theorem x173_34 {l0 l1 l2 l3 l4 l5 l6 l7 l8 : Value} {x : Int32} : X 173 34 [l0, l1, l2, l3, l4, l5, l6, l7, l8] (.int x :: st) h Q ↔ c1 l3 = true ∧ X 173 36 [l0, l1, l2, l3, .int x, l5, l6, l7, l8] st h Q := X_sto (kk := 4) (pc' := 36) (w := .int x) mC_173 dX8_odds_34 rfl (Nat.le_of_ble_eq_true rfl) rfl
theorem x173_36 : X 173 36 L st h Q ↔ X 173 37 L (.int 1 :: st) h Q := X_n mC_173 dX8_odds_36 rfl
theorem x173_37 {l0 l1 l2 l3 l4 l5 l6 l7 l8 : Value} {x : Int32} : X 173 37 [l0, l1, l2, l3, l4, l5, l6, l7, l8] (.int x :: st) h Q ↔ c1 l4 = true ∧ X 173 39 [l0, l1, l2, l3, l4, .int x, l6, l7, l8] st h Q := X_sto (kk := 5) (pc' := 39) (w := .int x) mC_173 dX8_odds_37 rfl (Nat.le_of_ble_eq_true rfl) rfl
theorem x173_39 : X 173 39 L st h Q ↔ X 173 40 L (.int 1 :: st) h Q := X_n mC_173 dX8_odds_39 rfl
theorem x173_40 {l0 l1 l2 l3 l4 l5 l6 l7 l8 : Value} {x : Int32} : X 173 40 [l0, l1, l2, l3, l4, l5, l6, l7, l8] (.int x :: st) h Q ↔ c1 l5 = true ∧ X 173 42 [l0, l1, l2, l3, l4, l5, .int x, l7, l8] st h Q := X_sto (kk := 6) (pc' := 42) (w := .int x) mC_173 dX8_odds_40 rfl (Nat.le_of_ble_eq_true rfl) rfl
theorem x173_42 {l0 l1 l2 l3 l4 l5 l7 l8 : Value} {x : Int32} : X 173 42 [l0, l1, l2, l3, l4, l5, .int x, l7, l8] st h Q ↔ X 173 44 [l0, l1, l2, l3, l4, l5, .int x, l7, l8] (.int x :: st) h Q := X_n mC_173 dX8_odds_42 rfl
theorem x173_44 {l1 l2 l3 l4 l5 l6 l7 l8 : Value} {x : Nat} : X 173 44 [.ref x, l1, l2, l3, l4, l5, l6, l7, l8] st h Q ↔ X 173 45 [.ref x, l1, l2, l3, l4, l5, l6, l7, l8] (.ref x :: st) h Q := X_n mC_173 dX8_odds_44 rfl
theorem x173_45 {a : Nat} : X 173 45 L (.ref a :: st) h Q ↔ (hS h a = (1, 8) ∧ hR h a 2 ≠ 0) ∧ X 173 48 L (.ref (hR h a 2) :: st) h Q := X_getR mC_173 dX8_odds_45 (by decide +kernel)
theorem x173_48 : X 173 48 L st h Q ↔ X 173 49 L (.int 0 :: st) h Q := X_n mC_173 dX8_odds_48 rfl
theorem x173_49 {j : Int32} {a : Nat} : X 173 49 L (.int j :: .ref a :: st) h Q ↔ ib j (hS h a) ∧ X 173 50 L (.int (hI h a j.toNatClampNeg) :: st) h Q := X_iald mC_173 dX8_odds_49
theorem x173_50 {x y : Int32} : X 173 50 L (.int y :: .int x :: st) h Q ↔ if x < y then X 173 53 L st h Q else X 173 66 L st h Q := X_ige mC_173 dX8_odds_50 (by decide)
theorem x173_53 {l0 l1 l2 l3 l4 l6 l7 l8 : Value} {x : Int32} : X 173 53 [l0, l1, l2, l3, l4, .int x, l6, l7, l8] st h Q ↔ X 173 55 [l0, l1, l2, l3, l4, .int x, l6, l7, l8] (.int x :: st) h Q := X_n mC_173 dX8_odds_53 rfl
theorem x173_55 : X 173 55 L st h Q ↔ X 173 57 L (.int 10 :: st) h Q := X_n mC_173 dX8_odds_55 rfl
theorem x173_57 {x y : Int32} : X 173 57 L (.int y :: .int x :: st) h Q ↔ X 173 58 L (.int (x * y) :: st) h Q := X_n mC_173 dX8_odds_57 rfl
theorem x173_58 {l0 l1 l2 l3 l4 l5 l6 l7 l8 : Value} {x : Int32} : X 173 58 [l0, l1, l2, l3, l4, l5, l6, l7, l8] (.int x :: st) h Q ↔ c1 l4 = true ∧ X 173 60 [l0, l1, l2, l3, l4, .int x, l6, l7, l8] st h Q := X_sto (kk := 5) (pc' := 60) (w := .int x) mC_173 dX8_odds_58 rfl (Nat.le_of_ble_eq_true rfl) rfl
theorem x173_60 {l0 l1 l2 l3 l4 l5 l7 l8 : Value} {x : Int32} : X 173 60 [l0, l1, l2, l3, l4, l5, .int x, l7, l8] st h Q ↔ c1 l5 = true ∧ X 173 63 [l0, l1, l2, l3, l4, l5, .int (x + 1), l7, l8] st h Q := X_inc (pc' := 63) (x := x) mC_173 dX8_odds_60 rfl rfl rfl
theorem x173_63 : X 173 63 L st h Q ↔ X 173 42 L st h Q := X_goto mC_173 dX8_odds_63 (by decide)
theorem x173_66 : X 173 66 L st h Q ↔ X 173 67 L (.int 0 :: st) h Q := X_n mC_173 dX8_odds_66 rfl
theorem x173_67 {l0 l1 l2 l3 l4 l5 l6 l7 l8 : Value} {x : Int32} : X 173 67 [l0, l1, l2, l3, l4, l5, l6, l7, l8] (.int x :: st) h Q ↔ c1 l5 = true ∧ X 173 69 [l0, l1, l2, l3, l4, l5, .int x, l7, l8] st h Q := X_sto (kk := 6) (pc' := 69) (w := .int x) mC_173 dX8_odds_67 rfl (Nat.le_of_ble_eq_true rfl) rfl
theorem x173_69 {l0 l1 l2 l3 l4 l5 l7 l8 : Value} {x : Int32} : X 173 69 [l0, l1, l2, l3, l4, l5, .int x, l7, l8] st h Q ↔ X 173 71 [l0, l1, l2, l3, l4, l5, .int x, l7, l8] (.int x :: st) h Q := X_n mC_173 dX8_odds_69 rfl
theorem x173_71 : X 173 71 L st h Q ↔ X 173 72 L (.int 1 :: st) h Q := X_n mC_173 dX8_odds_71 rfl
theorem x173_72 {l1 l2 l3 l4 l5 l6 l7 l8 : Value} {x : Nat} : X 173 72 [.ref x, l1, l2, l3, l4, l5, l6, l7, l8] st h Q ↔ X 173 73 [.ref x, l1, l2, l3, l4, l5, l6, l7, l8] (.ref x :: st) h Q := X_n mC_173 dX8_odds_72 rfl
theorem x173_73 {a : Nat} : X 173 73 L (.ref a :: st) h Q ↔ (hS h a = (1, 8) ∧ hR h a 2 ≠ 0) ∧ X 173 76 L (.ref (hR h a 2) :: st) h Q := X_getR mC_173 dX8_odds_73 (by decide +kernel)
theorem x173_76 : X 173 76 L st h Q ↔ X 173 77 L (.int 0 :: st) h Q := X_n mC_173 dX8_odds_76 rfl
theorem x173_77 {j : Int32} {a : Nat} : X 173 77 L (.int j :: .ref a :: st) h Q ↔ ib j (hS h a) ∧ X 173 78 L (.int (hI h a j.toNatClampNeg) :: st) h Q := X_iald mC_173 dX8_odds_77
theorem x173_78 {x y : Int32} : X 173 78 L (.int y :: .int x :: st) h Q ↔ X 173 79 L (.int (x <<< (y &&& 31)) :: st) h Q := X_n mC_173 dX8_odds_78 rfl
theorem x173_79 {x y : Int32} : X 173 79 L (.int y :: .int x :: st) h Q ↔ if x < y then X 173 82 L st h Q else X 173 188 L st h Q := X_ige mC_173 dX8_odds_79 (by decide)
theorem x173_82 {l0 l1 l2 l3 l4 l5 l7 l8 : Value} {x : Int32} : X 173 82 [l0, l1, l2, l3, l4, l5, .int x, l7, l8] st h Q ↔ X 173 84 [l0, l1, l2, l3, l4, l5, .int x, l7, l8] (.int x :: st) h Q := X_n mC_173 dX8_odds_82 rfl
theorem x173_84 {l0 l2 l3 l4 l5 l6 l7 l8 : Value} {x : Int32} : X 173 84 [l0, .int x, l2, l3, l4, l5, l6, l7, l8] st h Q ↔ X 173 85 [l0, .int x, l2, l3, l4, l5, l6, l7, l8] (.int x :: st) h Q := X_n mC_173 dX8_odds_84 rfl
theorem x173_85 {x y : Int32} : X 173 85 L (.int y :: .int x :: st) h Q ↔ X 173 86 L (.int (x >>> (y &&& 31)) :: st) h Q := X_n mC_173 dX8_odds_85 rfl
theorem x173_86 : X 173 86 L st h Q ↔ X 173 87 L (.int 1 :: st) h Q := X_n mC_173 dX8_odds_86 rfl
theorem x173_87 {x y : Int32} : X 173 87 L (.int y :: .int x :: st) h Q ↔ X 173 88 L (.int (x &&& y) :: st) h Q := X_n mC_173 dX8_odds_87 rfl
theorem x173_88 {x : Int32} : X 173 88 L (.int x :: st) h Q ↔ if x = 0 then X 173 91 L st h Q else X 173 182 L st h Q := X_zne mC_173 dX8_odds_88 (by decide)
theorem x173_91 : X 173 91 L st h Q ↔ X 173 92 L (.int 1 :: st) h Q := X_n mC_173 dX8_odds_91 rfl
theorem x173_92 {l0 l1 l2 l3 l4 l5 l6 l7 l8 : Value} {x : Int32} : X 173 92 [l0, l1, l2, l3, l4, l5, l6, l7, l8] (.int x :: st) h Q ↔ c1 l6 = true ∧ X 173 94 [l0, l1, l2, l3, l4, l5, l6, .int x, l8] st h Q := X_sto (kk := 7) (pc' := 94) (w := .int x) mC_173 dX8_odds_92 rfl (Nat.le_of_ble_eq_true rfl) rfl
theorem x173_94 : X 173 94 L st h Q ↔ X 173 95 L (.int 0 :: st) h Q := X_n mC_173 dX8_odds_94 rfl
theorem x173_95 {l0 l1 l2 l3 l4 l5 l6 l7 l8 : Value} {x : Int32} : X 173 95 [l0, l1, l2, l3, l4, l5, l6, l7, l8] (.int x :: st) h Q ↔ c1 l7 = true ∧ X 173 97 [l0, l1, l2, l3, l4, l5, l6, l7, .int x] st h Q := X_sto (kk := 8) (pc' := 97) (w := .int x) mC_173 dX8_odds_95 rfl (Nat.le_of_ble_eq_true rfl) rfl
theorem x173_97 {l0 l1 l2 l3 l4 l5 l6 l7 : Value} {x : Int32} : X 173 97 [l0, l1, l2, l3, l4, l5, l6, l7, .int x] st h Q ↔ X 173 99 [l0, l1, l2, l3, l4, l5, l6, l7, .int x] (.int x :: st) h Q := X_n mC_173 dX8_odds_97 rfl
theorem x173_99 {l1 l2 l3 l4 l5 l6 l7 l8 : Value} {x : Nat} : X 173 99 [.ref x, l1, l2, l3, l4, l5, l6, l7, l8] st h Q ↔ X 173 100 [.ref x, l1, l2, l3, l4, l5, l6, l7, l8] (.ref x :: st) h Q := X_n mC_173 dX8_odds_99 rfl
theorem x173_100 {a : Nat} : X 173 100 L (.ref a :: st) h Q ↔ (hS h a = (1, 8) ∧ hR h a 2 ≠ 0) ∧ X 173 103 L (.ref (hR h a 2) :: st) h Q := X_getR mC_173 dX8_odds_100 (by decide +kernel)
theorem x173_103 : X 173 103 L st h Q ↔ X 173 104 L (.int 0 :: st) h Q := X_n mC_173 dX8_odds_103 rfl
theorem x173_104 {j : Int32} {a : Nat} : X 173 104 L (.int j :: .ref a :: st) h Q ↔ ib j (hS h a) ∧ X 173 105 L (.int (hI h a j.toNatClampNeg) :: st) h Q := X_iald mC_173 dX8_odds_104
theorem x173_105 {x y : Int32} : X 173 105 L (.int y :: .int x :: st) h Q ↔ if x < y then X 173 108 L st h Q else X 173 148 L st h Q := X_ige mC_173 dX8_odds_105 (by decide)
theorem x173_108 {l0 l1 l2 l3 l4 l5 l6 l8 : Value} {x : Int32} : X 173 108 [l0, l1, l2, l3, l4, l5, l6, .int x, l8] st h Q ↔ X 173 110 [l0, l1, l2, l3, l4, l5, l6, .int x, l8] (.int x :: st) h Q := X_n mC_173 dX8_odds_108 rfl
theorem x173_110 {l0 l1 l2 l3 l4 l5 l6 l7 : Value} {x : Int32} : X 173 110 [l0, l1, l2, l3, l4, l5, l6, l7, .int x] st h Q ↔ X 173 112 [l0, l1, l2, l3, l4, l5, l6, l7, .int x] (.int x :: st) h Q := X_n mC_173 dX8_odds_110 rfl
theorem x173_112 {l0 l2 l3 l4 l5 l6 l7 l8 : Value} {x : Int32} : X 173 112 [l0, .int x, l2, l3, l4, l5, l6, l7, l8] st h Q ↔ X 173 113 [l0, .int x, l2, l3, l4, l5, l6, l7, l8] (.int x :: st) h Q := X_n mC_173 dX8_odds_112 rfl
theorem x173_113 {x y : Int32} : X 173 113 L (.int y :: .int x :: st) h Q ↔ if x = y then X 173 116 L st h Q else X 173 120 L st h Q := X_ine mC_173 dX8_odds_113 (by decide)
theorem x173_116 : X 173 116 L st h Q ↔ X 173 117 L (.int 1 :: st) h Q := X_n mC_173 dX8_odds_116 rfl
theorem x173_117 : X 173 117 L st h Q ↔ X 173 139 L st h Q := X_goto mC_173 dX8_odds_117 (by decide)
theorem x173_120 {l0 l1 l2 l3 l4 l5 l7 l8 : Value} {x : Int32} : X 173 120 [l0, l1, l2, l3, l4, l5, .int x, l7, l8] st h Q ↔ X 173 122 [l0, l1, l2, l3, l4, l5, .int x, l7, l8] (.int x :: st) h Q := X_n mC_173 dX8_odds_120 rfl
theorem x173_122 {l0 l1 l2 l3 l4 l5 l6 l7 : Value} {x : Int32} : X 173 122 [l0, l1, l2, l3, l4, l5, l6, l7, .int x] st h Q ↔ X 173 124 [l0, l1, l2, l3, l4, l5, l6, l7, .int x] (.int x :: st) h Q := X_n mC_173 dX8_odds_122 rfl
theorem x173_124 {x y : Int32} : X 173 124 L (.int y :: .int x :: st) h Q ↔ X 173 125 L (.int (x >>> (y &&& 31)) :: st) h Q := X_n mC_173 dX8_odds_124 rfl
theorem x173_125 : X 173 125 L st h Q ↔ X 173 126 L (.int 1 :: st) h Q := X_n mC_173 dX8_odds_125 rfl
theorem x173_126 {x y : Int32} : X 173 126 L (.int y :: .int x :: st) h Q ↔ X 173 127 L (.int (x &&& y) :: st) h Q := X_n mC_173 dX8_odds_126 rfl
theorem x173_127 : X 173 127 L st h Q ↔ X 173 128 L (.int 1 :: st) h Q := X_n mC_173 dX8_odds_127 rfl
theorem x173_128 {x y : Int32} : X 173 128 L (.int y :: .int x :: st) h Q ↔ if x = y then X 173 131 L st h Q else X 173 135 L st h Q := X_ine mC_173 dX8_odds_128 (by decide)
theorem x173_131 {l0 l1 l3 l4 l5 l6 l7 l8 : Value} {x : Int32} : X 173 131 [l0, l1, .int x, l3, l4, l5, l6, l7, l8] st h Q ↔ X 173 132 [l0, l1, .int x, l3, l4, l5, l6, l7, l8] (.int x :: st) h Q := X_n mC_173 dX8_odds_131 rfl
theorem x173_132 : X 173 132 L st h Q ↔ X 173 139 L st h Q := X_goto mC_173 dX8_odds_132 (by decide)
theorem x173_135 : X 173 135 L st h Q ↔ X 173 137 L (.int 10 :: st) h Q := X_n mC_173 dX8_odds_135 rfl
theorem x173_137 {l0 l1 l3 l4 l5 l6 l7 l8 : Value} {x : Int32} : X 173 137 [l0, l1, .int x, l3, l4, l5, l6, l7, l8] st h Q ↔ X 173 138 [l0, l1, .int x, l3, l4, l5, l6, l7, l8] (.int x :: st) h Q := X_n mC_173 dX8_odds_137 rfl
theorem x173_138 {x y : Int32} : X 173 138 L (.int y :: .int x :: st) h Q ↔ X 173 139 L (.int (x - y) :: st) h Q := X_n mC_173 dX8_odds_138 rfl
theorem x173_139 {x y : Int32} : X 173 139 L (.int y :: .int x :: st) h Q ↔ X 173 140 L (.int (x * y) :: st) h Q := X_n mC_173 dX8_odds_139 rfl
theorem x173_140 {l0 l1 l2 l3 l4 l5 l6 l7 l8 : Value} {x : Int32} : X 173 140 [l0, l1, l2, l3, l4, l5, l6, l7, l8] (.int x :: st) h Q ↔ c1 l6 = true ∧ X 173 142 [l0, l1, l2, l3, l4, l5, l6, .int x, l8] st h Q := X_sto (kk := 7) (pc' := 142) (w := .int x) mC_173 dX8_odds_140 rfl (Nat.le_of_ble_eq_true rfl) rfl
theorem x173_142 {l0 l1 l2 l3 l4 l5 l6 l7 : Value} {x : Int32} : X 173 142 [l0, l1, l2, l3, l4, l5, l6, l7, .int x] st h Q ↔ c1 l7 = true ∧ X 173 145 [l0, l1, l2, l3, l4, l5, l6, l7, .int (x + 1)] st h Q := X_inc (pc' := 145) (x := x) mC_173 dX8_odds_142 rfl rfl rfl
theorem x173_145 : X 173 145 L st h Q ↔ X 173 97 L st h Q := X_goto mC_173 dX8_odds_145 (by decide)
theorem x173_148 {l1 l2 l3 l4 l5 l6 l7 l8 : Value} {x : Nat} : X 173 148 [.ref x, l1, l2, l3, l4, l5, l6, l7, l8] st h Q ↔ X 173 149 [.ref x, l1, l2, l3, l4, l5, l6, l7, l8] (.ref x :: st) h Q := X_n mC_173 dX8_odds_148 rfl
theorem x173_149 {l0 l1 l2 l3 l4 l5 l7 l8 : Value} {x : Int32} : X 173 149 [l0, l1, l2, l3, l4, l5, .int x, l7, l8] st h Q ↔ X 173 151 [l0, l1, l2, l3, l4, l5, .int x, l7, l8] (.int x :: st) h Q := X_n mC_173 dX8_odds_149 rfl
theorem x173_151 {a : Nat} {v : Int32} : X 173 151 L (.int v :: .ref a :: st) h Q ↔ hS h a = (1, 8) ∧ X 173 154 L st (sI h a 16 v) Q := X_putI mC_173 dX8_odds_151 (by decide +kernel)
theorem x173_154 {l0 l1 l2 l3 l5 l6 l7 l8 : Value} {x : Int32} : X 173 154 [l0, l1, l2, l3, .int x, l5, l6, l7, l8] st h Q ↔ X 173 156 [l0, l1, l2, l3, .int x, l5, l6, l7, l8] (.int x :: st) h Q := X_n mC_173 dX8_odds_154 rfl
theorem x173_156 {l1 l2 l3 l4 l5 l6 l7 l8 : Value} {x : Nat} : X 173 156 [.ref x, l1, l2, l3, l4, l5, l6, l7, l8] st h Q ↔ X 173 157 [.ref x, l1, l2, l3, l4, l5, l6, l7, l8] (.ref x :: st) h Q := X_n mC_173 dX8_odds_156 rfl
theorem x173_157 {l0 l2 l3 l4 l5 l6 l7 l8 : Value} {x : Int32} : X 173 157 [l0, .int x, l2, l3, l4, l5, l6, l7, l8] st h Q ↔ X 173 158 [l0, .int x, l2, l3, l4, l5, l6, l7, l8] (.int x :: st) h Q := X_n mC_173 dX8_odds_157 rfl
theorem x173_158 {b : Nat} {a0 : Int32} {w0 : Value} : X 173 158 L [.int a0, .ref b, w0] h Q ↔ hS h b = (1, 8) ∧ X 142 0 [.ref b, .int a0, .null, .null, .null] [] h (fun r h' => X 173 161 L (pv r [w0]) h' Q) := X_virt (as := [.int a0]) (n := 1) (ml := 5) (ck := 8) mC_173 dX8_odds_158 (by unfold cOk; decide +kernel) ⟨rfl, rfl, by decide, Nat.le_of_ble_eq_true rfl⟩
theorem x173_161 {l1 l2 l3 l4 l5 l6 l7 l8 : Value} {x : Nat} : X 173 161 [.ref x, l1, l2, l3, l4, l5, l6, l7, l8] st h Q ↔ X 173 162 [.ref x, l1, l2, l3, l4, l5, l6, l7, l8] (.ref x :: st) h Q := X_n mC_173 dX8_odds_161 rfl
theorem x173_162 {a : Nat} : X 173 162 L (.ref a :: st) h Q ↔ (hS h a = (1, 8) ∧ hR h a 2 ≠ 0) ∧ X 173 165 L (.ref (hR h a 2) :: st) h Q := X_getR mC_173 dX8_odds_162 (by decide +kernel)
theorem x173_165 : X 173 165 L st h Q ↔ X 173 167 L (.int 21 :: st) h Q := X_n mC_173 dX8_odds_165 rfl
theorem x173_167 {l0 l2 l3 l4 l5 l6 l7 l8 : Value} {x : Int32} : X 173 167 [l0, .int x, l2, l3, l4, l5, l6, l7, l8] st h Q ↔ X 173 168 [l0, .int x, l2, l3, l4, l5, l6, l7, l8] (.int x :: st) h Q := X_n mC_173 dX8_odds_167 rfl
theorem x173_168 {x y : Int32} : X 173 168 L (.int y :: .int x :: st) h Q ↔ X 173 169 L (.int (x + y) :: st) h Q := X_n mC_173 dX8_odds_168 rfl
theorem x173_169 {j : Int32} {a : Nat} : X 173 169 L (.int j :: .ref a :: st) h Q ↔ ib j (hS h a) ∧ X 173 170 L (.int (hI h a j.toNatClampNeg) :: st) h Q := X_iald mC_173 dX8_odds_169
theorem x173_170 {x y : Int32} : X 173 170 L (.int y :: .int x :: st) h Q ↔ if x < y then X 173 173 L st h Q else X 173 178 L st h Q := X_ige mC_173 dX8_odds_170 (by decide)
theorem x173_173 {l0 l1 l2 l3 l4 l5 l6 l8 : Value} {x : Int32} : X 173 173 [l0, l1, l2, l3, l4, l5, l6, .int x, l8] st h Q ↔ X 173 175 [l0, l1, l2, l3, l4, l5, l6, .int x, l8] (.int x :: st) h Q := X_n mC_173 dX8_odds_173 rfl
theorem x173_175 : X 173 175 L st h Q ↔ X 173 179 L st h Q := X_goto mC_173 dX8_odds_175 (by decide)
theorem x173_178 : X 173 178 L st h Q ↔ X 173 179 L (.int 0 :: st) h Q := X_n mC_173 dX8_odds_178 rfl
theorem x173_179 {x y : Int32} : X 173 179 L (.int y :: .int x :: st) h Q ↔ X 173 180 L (.int (x + y) :: st) h Q := X_n mC_173 dX8_odds_179 rfl
theorem x173_180 {l0 l1 l2 l3 l4 l5 l6 l7 l8 : Value} {x : Int32} : X 173 180 [l0, l1, l2, l3, l4, l5, l6, l7, l8] (.int x :: st) h Q ↔ c1 l3 = true ∧ X 173 182 [l0, l1, l2, l3, .int x, l5, l6, l7, l8] st h Q := X_sto (kk := 4) (pc' := 182) (w := .int x) mC_173 dX8_odds_180 rfl (Nat.le_of_ble_eq_true rfl) rfl
theorem x173_182 {l0 l1 l2 l3 l4 l5 l7 l8 : Value} {x : Int32} : X 173 182 [l0, l1, l2, l3, l4, l5, .int x, l7, l8] st h Q ↔ c1 l5 = true ∧ X 173 185 [l0, l1, l2, l3, l4, l5, .int (x + 1), l7, l8] st h Q := X_inc (pc' := 185) (x := x) mC_173 dX8_odds_182 rfl rfl rfl
theorem x173_185 : X 173 185 L st h Q ↔ X 173 69 L st h Q := X_goto mC_173 dX8_odds_185 (by decide)
theorem x173_188 {l0 l1 l2 l3 l5 l6 l7 l8 : Value} {x : Int32} : X 173 188 [l0, l1, l2, l3, .int x, l5, l6, l7, l8] st h Q ↔ X 173 190 [l0, l1, l2, l3, .int x, l5, l6, l7, l8] (.int x :: st) h Q := X_n mC_173 dX8_odds_188 rfl
theorem x173_190 {l0 l1 l2 l3 l4 l5 l6 l7 l8 : Value} {x : Int32} : X 173 190 [l0, l1, l2, l3, l4, l5, l6, l7, l8] (.int x :: st) h Q ↔ c1 l5 = true ∧ X 173 192 [l0, l1, l2, l3, l4, l5, .int x, l7, l8] st h Q := X_sto (kk := 6) (pc' := 192) (w := .int x) mC_173 dX8_odds_190 rfl (Nat.le_of_ble_eq_true rfl) rfl
theorem x173_192 {l0 l1 l2 l3 l4 l6 l7 l8 : Value} {x : Int32} : X 173 192 [l0, l1, l2, l3, l4, .int x, l6, l7, l8] st h Q ↔ X 173 194 [l0, l1, l2, l3, l4, .int x, l6, l7, l8] (.int x :: st) h Q := X_n mC_173 dX8_odds_192 rfl
theorem x173_194 {l0 l1 l2 l3 l4 l5 l6 l7 l8 : Value} {x : Int32} : X 173 194 [l0, l1, l2, l3, l4, l5, l6, l7, l8] (.int x :: st) h Q ↔ c1 l6 = true ∧ X 173 196 [l0, l1, l2, l3, l4, l5, l6, .int x, l8] st h Q := X_sto (kk := 7) (pc' := 196) (w := .int x) mC_173 dX8_odds_194 rfl (Nat.le_of_ble_eq_true rfl) rfl
theorem x173_196 {l0 l1 l2 l3 l4 l5 l6 l8 : Value} {x : Int32} : X 173 196 [l0, l1, l2, l3, l4, l5, l6, .int x, l8] st h Q ↔ X 173 198 [l0, l1, l2, l3, l4, l5, l6, .int x, l8] (.int x :: st) h Q := X_n mC_173 dX8_odds_196 rfl
theorem x173_198 {x : Int32} : X 173 198 L (.int x :: st) h Q ↔ if 0 < x then X 173 201 L st h Q else X 173 219 L st h Q := X_zle mC_173 dX8_odds_198 (by decide)
theorem x173_201 {l0 l1 l2 l3 l4 l5 l7 l8 : Value} {x : Int32} : X 173 201 [l0, l1, l2, l3, l4, l5, .int x, l7, l8] st h Q ↔ X 173 203 [l0, l1, l2, l3, l4, l5, .int x, l7, l8] (.int x :: st) h Q := X_n mC_173 dX8_odds_201 rfl
theorem x173_203 {l0 l1 l2 l3 l4 l5 l6 l8 : Value} {x : Int32} : X 173 203 [l0, l1, l2, l3, l4, l5, l6, .int x, l8] st h Q ↔ X 173 205 [l0, l1, l2, l3, l4, l5, l6, .int x, l8] (.int x :: st) h Q := X_n mC_173 dX8_odds_203 rfl
theorem x173_205 {x y : Int32} : X 173 205 L (.int y :: .int x :: st) h Q ↔ (¬ y = 0) ∧ X 173 206 L (.int (x - x / y * y) :: st) h Q := X_gd mC_173 dX8_odds_205 rfl
theorem x173_206 {l0 l1 l2 l3 l4 l5 l6 l7 l8 : Value} {x : Int32} : X 173 206 [l0, l1, l2, l3, l4, l5, l6, l7, l8] (.int x :: st) h Q ↔ c1 l7 = true ∧ X 173 208 [l0, l1, l2, l3, l4, l5, l6, l7, .int x] st h Q := X_sto (kk := 8) (pc' := 208) (w := .int x) mC_173 dX8_odds_206 rfl (Nat.le_of_ble_eq_true rfl) rfl
theorem x173_208 {l0 l1 l2 l3 l4 l5 l6 l8 : Value} {x : Int32} : X 173 208 [l0, l1, l2, l3, l4, l5, l6, .int x, l8] st h Q ↔ X 173 210 [l0, l1, l2, l3, l4, l5, l6, .int x, l8] (.int x :: st) h Q := X_n mC_173 dX8_odds_208 rfl
theorem x173_210 {l0 l1 l2 l3 l4 l5 l6 l7 l8 : Value} {x : Int32} : X 173 210 [l0, l1, l2, l3, l4, l5, l6, l7, l8] (.int x :: st) h Q ↔ c1 l5 = true ∧ X 173 212 [l0, l1, l2, l3, l4, l5, .int x, l7, l8] st h Q := X_sto (kk := 6) (pc' := 212) (w := .int x) mC_173 dX8_odds_210 rfl (Nat.le_of_ble_eq_true rfl) rfl
theorem x173_212 {l0 l1 l2 l3 l4 l5 l6 l7 : Value} {x : Int32} : X 173 212 [l0, l1, l2, l3, l4, l5, l6, l7, .int x] st h Q ↔ X 173 214 [l0, l1, l2, l3, l4, l5, l6, l7, .int x] (.int x :: st) h Q := X_n mC_173 dX8_odds_212 rfl
theorem x173_214 {l0 l1 l2 l3 l4 l5 l6 l7 l8 : Value} {x : Int32} : X 173 214 [l0, l1, l2, l3, l4, l5, l6, l7, l8] (.int x :: st) h Q ↔ c1 l6 = true ∧ X 173 216 [l0, l1, l2, l3, l4, l5, l6, .int x, l8] st h Q := X_sto (kk := 7) (pc' := 216) (w := .int x) mC_173 dX8_odds_214 rfl (Nat.le_of_ble_eq_true rfl) rfl
theorem x173_216 : X 173 216 L st h Q ↔ X 173 196 L st h Q := X_goto mC_173 dX8_odds_216 (by decide)
theorem x173_219 {l0 l1 l2 l4 l5 l6 l7 l8 : Value} {x : Int32} : X 173 219 [l0, l1, l2, .int x, l4, l5, l6, l7, l8] st h Q ↔ X 173 220 [l0, l1, l2, .int x, l4, l5, l6, l7, l8] (.int x :: st) h Q := X_n mC_173 dX8_odds_219 rfl
theorem x173_220 {x : Int32} : X 173 220 L (.int x :: st) h Q ↔ if x = 0 then X 173 223 L st h Q else X 173 231 L st h Q := X_zne mC_173 dX8_odds_220 (by decide)
theorem x173_223 {l0 l1 l2 l3 l5 l6 l7 l8 : Value} {x : Int32} : X 173 223 [l0, l1, l2, l3, .int x, l5, l6, l7, l8] st h Q ↔ X 173 225 [l0, l1, l2, l3, .int x, l5, l6, l7, l8] (.int x :: st) h Q := X_n mC_173 dX8_odds_223 rfl
theorem x173_225 {l0 l1 l2 l3 l4 l5 l7 l8 : Value} {x : Int32} : X 173 225 [l0, l1, l2, l3, l4, l5, .int x, l7, l8] st h Q ↔ X 173 227 [l0, l1, l2, l3, l4, l5, .int x, l7, l8] (.int x :: st) h Q := X_n mC_173 dX8_odds_225 rfl
theorem x173_227 {x y : Int32} : X 173 227 L (.int y :: .int x :: st) h Q ↔ (¬ y = 0) ∧ X 173 228 L (.int (x / y) :: st) h Q := X_gd mC_173 dX8_odds_227 rfl
theorem x173_228 : X 173 228 L st h Q ↔ X 173 236 L st h Q := X_goto mC_173 dX8_odds_228 (by decide)
theorem x173_231 {l0 l1 l2 l3 l4 l6 l7 l8 : Value} {x : Int32} : X 173 231 [l0, l1, l2, l3, l4, .int x, l6, l7, l8] st h Q ↔ X 173 233 [l0, l1, l2, l3, l4, .int x, l6, l7, l8] (.int x :: st) h Q := X_n mC_173 dX8_odds_231 rfl
theorem x173_233 {l0 l1 l2 l3 l4 l5 l7 l8 : Value} {x : Int32} : X 173 233 [l0, l1, l2, l3, l4, l5, .int x, l7, l8] st h Q ↔ X 173 235 [l0, l1, l2, l3, l4, l5, .int x, l7, l8] (.int x :: st) h Q := X_n mC_173 dX8_odds_233 rfl
theorem x173_235 {x y : Int32} : X 173 235 L (.int y :: .int x :: st) h Q ↔ (¬ y = 0) ∧ X 173 236 L (.int (x / y) :: st) h Q := X_gd mC_173 dX8_odds_235 rfl
theorem x173_236 {v : Int32} : X 173 236 L [.int v] h Q ↔ Q (some (.int v)) h := X_ret mC_173 dX8_odds_236 (by decide +kernel)
theorem mC_174 : mC 174 = cX8_steps := rfl
theorem x174_0 {l0 : Value} {x : Int32} : X 174 0 [l0, .int x] st h Q ↔ X 174 1 [l0, .int x] (.int x :: st) h Q := X_n mC_174 dX8_steps_0 rfl
theorem x174_1 : X 174 1 L st h Q ↔ X 174 2 L (.int 0 :: st) h Q := X_n mC_174 dX8_steps_1 rfl
theorem x174_2 : X 174 2 L st h Q ↔ X 174 3 L (.int 2 :: st) h Q := X_n mC_174 dX8_steps_2 rfl
theorem x174_3 {a0 : Int32} {a1 : Int32} {a2 : Int32} : X 174 3 L [.int a2, .int a1, .int a0] h Q ↔ X 120 0 [.int a0, .int a1, .int a2] [] h (fun r h' => X 174 6 L (pv r []) h' Q) := X_stat (as := [.int a0, .int a1, .int a2]) (n := 3) (ml := 3) (ck := 8) mC_174 dX8_steps_3 (by unfold cOk; decide +kernel) ⟨rfl, rfl, by decide, Nat.le_of_ble_eq_true rfl⟩
theorem x174_6 {x : Int32} : X 174 6 L (.int x :: st) h Q ↔ if x = 0 then X 174 21 L st h Q else X 174 9 L st h Q := X_zeq mC_174 dX8_steps_6 (by decide)
theorem x174_9 {l1 : Value} {x : Nat} : X 174 9 [.ref x, l1] st h Q ↔ X 174 10 [.ref x, l1] (.ref x :: st) h Q := X_n mC_174 dX8_steps_9 rfl
theorem x174_10 {a : Nat} : X 174 10 L (.ref a :: st) h Q ↔ (hS h a = (1, 8) ∧ hR h a 4 ≠ 0) ∧ X 174 13 L (.ref (hR h a 4) :: st) h Q := X_getR mC_174 dX8_steps_10 (by decide +kernel)
theorem x174_13 : X 174 13 L st h Q ↔ X 174 15 L (.int 7 :: st) h Q := X_n mC_174 dX8_steps_13 rfl
theorem x174_15 {l0 : Value} {x : Int32} : X 174 15 [l0, .int x] st h Q ↔ X 174 16 [l0, .int x] (.int x :: st) h Q := X_n mC_174 dX8_steps_15 rfl
theorem x174_16 {x y : Int32} : X 174 16 L (.int y :: .int x :: st) h Q ↔ X 174 17 L (.int (x + y) :: st) h Q := X_n mC_174 dX8_steps_16 rfl
theorem x174_17 {j : Int32} {a : Nat} : X 174 17 L (.int j :: .ref a :: st) h Q ↔ ib j (hS h a) ∧ X 174 18 L (.int (hI h a j.toNatClampNeg) :: st) h Q := X_iald mC_174 dX8_steps_17
theorem x174_18 : X 174 18 L st h Q ↔ X 174 22 L st h Q := X_goto mC_174 dX8_steps_18 (by decide)
theorem x174_21 : X 174 21 L st h Q ↔ X 174 22 L (.int (-1) :: st) h Q := X_n mC_174 dX8_steps_21 rfl
theorem x174_22 {v : Int32} : X 174 22 L [.int v] h Q ↔ Q (some (.int v)) h := X_ret mC_174 dX8_steps_22 (by decide +kernel)
theorem mC_175 : mC 175 = cX8_day := rfl
theorem x175_0 {l0 l2 l3 l4 l5 l6 l7 l8 : Value} {x : Int32} : X 175 0 [l0, .int x, l2, l3, l4, l5, l6, l7, l8] st h Q ↔ X 175 1 [l0, .int x, l2, l3, l4, l5, l6, l7, l8] (.int x :: st) h Q := X_n mC_175 dX8_day_0 rfl
theorem x175_1 : X 175 1 L st h Q ↔ X 175 2 L (.int 0 :: st) h Q := X_n mC_175 dX8_day_1 rfl
theorem x175_2 : X 175 2 L st h Q ↔ X 175 5 L (.int 9999 :: st) h Q := X_n mC_175 dX8_day_2 rfl
theorem x175_5 {a0 : Int32} {a1 : Int32} {a2 : Int32} : X 175 5 L [.int a2, .int a1, .int a0] h Q ↔ X 120 0 [.int a0, .int a1, .int a2] [] h (fun r h' => X 175 8 L (pv r []) h' Q) := X_stat (as := [.int a0, .int a1, .int a2]) (n := 3) (ml := 3) (ck := 8) mC_175 dX8_day_5 (by unfold cOk; decide +kernel) ⟨rfl, rfl, by decide, Nat.le_of_ble_eq_true rfl⟩
theorem x175_8 {x : Int32} : X 175 8 L (.int x :: st) h Q ↔ if x = 0 then X 175 30 L st h Q else X 175 11 L st h Q := X_zeq mC_175 dX8_day_8 (by decide)
theorem x175_11 {l0 l1 l3 l4 l5 l6 l7 l8 : Value} {x : Int32} : X 175 11 [l0, l1, .int x, l3, l4, l5, l6, l7, l8] st h Q ↔ X 175 12 [l0, l1, .int x, l3, l4, l5, l6, l7, l8] (.int x :: st) h Q := X_n mC_175 dX8_day_11 rfl
theorem x175_12 : X 175 12 L st h Q ↔ X 175 13 L (.int 1 :: st) h Q := X_n mC_175 dX8_day_12 rfl
theorem x175_13 : X 175 13 L st h Q ↔ X 175 15 L (.int 30 :: st) h Q := X_n mC_175 dX8_day_13 rfl
theorem x175_15 {a0 : Int32} {a1 : Int32} {a2 : Int32} : X 175 15 L [.int a2, .int a1, .int a0] h Q ↔ X 120 0 [.int a0, .int a1, .int a2] [] h (fun r h' => X 175 18 L (pv r []) h' Q) := X_stat (as := [.int a0, .int a1, .int a2]) (n := 3) (ml := 3) (ck := 8) mC_175 dX8_day_15 (by unfold cOk; decide +kernel) ⟨rfl, rfl, by decide, Nat.le_of_ble_eq_true rfl⟩
theorem x175_18 {x : Int32} : X 175 18 L (.int x :: st) h Q ↔ if x = 0 then X 175 30 L st h Q else X 175 21 L st h Q := X_zeq mC_175 dX8_day_18 (by decide)
theorem x175_21 {l0 l1 l2 l4 l5 l6 l7 l8 : Value} {x : Int32} : X 175 21 [l0, l1, l2, .int x, l4, l5, l6, l7, l8] st h Q ↔ X 175 22 [l0, l1, l2, .int x, l4, l5, l6, l7, l8] (.int x :: st) h Q := X_n mC_175 dX8_day_21 rfl
theorem x175_22 : X 175 22 L st h Q ↔ X 175 23 L (.int 0 :: st) h Q := X_n mC_175 dX8_day_22 rfl
theorem x175_23 : X 175 23 L st h Q ↔ X 175 24 L (.int 1 :: st) h Q := X_n mC_175 dX8_day_23 rfl
theorem x175_24 {a0 : Int32} {a1 : Int32} {a2 : Int32} : X 175 24 L [.int a2, .int a1, .int a0] h Q ↔ X 120 0 [.int a0, .int a1, .int a2] [] h (fun r h' => X 175 27 L (pv r []) h' Q) := X_stat (as := [.int a0, .int a1, .int a2]) (n := 3) (ml := 3) (ck := 8) mC_175 dX8_day_24 (by unfold cOk; decide +kernel) ⟨rfl, rfl, by decide, Nat.le_of_ble_eq_true rfl⟩
theorem x175_27 {x : Int32} : X 175 27 L (.int x :: st) h Q ↔ if x = 0 then X 175 30 L st h Q else X 175 32 L st h Q := X_zne mC_175 dX8_day_27 (by decide)
theorem x175_30 : X 175 30 L st h Q ↔ X 175 31 L (.int (-1) :: st) h Q := X_n mC_175 dX8_day_30 rfl
theorem x175_31 {v : Int32} : X 175 31 L [.int v] h Q ↔ Q (some (.int v)) h := X_ret mC_175 dX8_day_31 (by decide +kernel)
theorem x175_32 : X 175 32 L st h Q ↔ X 175 33 L (.int 0 :: st) h Q := X_n mC_175 dX8_day_32 rfl
theorem x175_33 {l0 l1 l2 l3 l4 l5 l6 l7 l8 : Value} {x : Int32} : X 175 33 [l0, l1, l2, l3, l4, l5, l6, l7, l8] (.int x :: st) h Q ↔ c1 l3 = true ∧ X 175 35 [l0, l1, l2, l3, .int x, l5, l6, l7, l8] st h Q := X_sto (kk := 4) (pc' := 35) (w := .int x) mC_175 dX8_day_33 rfl (Nat.le_of_ble_eq_true rfl) rfl
theorem x175_35 {l0 l1 l2 l3 l5 l6 l7 l8 : Value} {x : Int32} : X 175 35 [l0, l1, l2, l3, .int x, l5, l6, l7, l8] st h Q ↔ X 175 37 [l0, l1, l2, l3, .int x, l5, l6, l7, l8] (.int x :: st) h Q := X_n mC_175 dX8_day_35 rfl
theorem x175_37 : X 175 37 L st h Q ↔ X 175 39 L (.int 10 :: st) h Q := X_n mC_175 dX8_day_37 rfl
theorem x175_39 {x y : Int32} : X 175 39 L (.int y :: .int x :: st) h Q ↔ if x < y then X 175 42 L st h Q else X 175 62 L st h Q := X_ige mC_175 dX8_day_39 (by decide)
theorem x175_42 {l1 l2 l3 l4 l5 l6 l7 l8 : Value} {x : Nat} : X 175 42 [.ref x, l1, l2, l3, l4, l5, l6, l7, l8] st h Q ↔ X 175 43 [.ref x, l1, l2, l3, l4, l5, l6, l7, l8] (.ref x :: st) h Q := X_n mC_175 dX8_day_42 rfl
theorem x175_43 {a : Nat} : X 175 43 L (.ref a :: st) h Q ↔ (hS h a = (1, 8) ∧ hR h a 18 ≠ 0) ∧ X 175 46 L (.ref (hR h a 18) :: st) h Q := X_getR mC_175 dX8_day_43 (by decide +kernel)
theorem x175_46 {l0 l1 l2 l3 l5 l6 l7 l8 : Value} {x : Int32} : X 175 46 [l0, l1, l2, l3, .int x, l5, l6, l7, l8] st h Q ↔ X 175 48 [l0, l1, l2, l3, .int x, l5, l6, l7, l8] (.int x :: st) h Q := X_n mC_175 dX8_day_46 rfl
theorem x175_48 {l1 l2 l3 l4 l5 l6 l7 l8 : Value} {x : Nat} : X 175 48 [.ref x, l1, l2, l3, l4, l5, l6, l7, l8] st h Q ↔ X 175 49 [.ref x, l1, l2, l3, l4, l5, l6, l7, l8] (.ref x :: st) h Q := X_n mC_175 dX8_day_48 rfl
theorem x175_49 {a : Nat} : X 175 49 L (.ref a :: st) h Q ↔ (hS h a = (1, 8) ∧ hR h a 4 ≠ 0) ∧ X 175 52 L (.ref (hR h a 4) :: st) h Q := X_getR mC_175 dX8_day_49 (by decide +kernel)
theorem x175_52 {l0 l1 l2 l3 l5 l6 l7 l8 : Value} {x : Int32} : X 175 52 [l0, l1, l2, l3, .int x, l5, l6, l7, l8] st h Q ↔ X 175 54 [l0, l1, l2, l3, .int x, l5, l6, l7, l8] (.int x :: st) h Q := X_n mC_175 dX8_day_52 rfl
theorem x175_54 {j : Int32} {a : Nat} : X 175 54 L (.int j :: .ref a :: st) h Q ↔ ib j (hS h a) ∧ X 175 55 L (.int (hI h a j.toNatClampNeg) :: st) h Q := X_iald mC_175 dX8_day_54
theorem x175_55 {j x : Int32} {a : Nat} : X 175 55 L (.int x :: .int j :: .ref a :: st) h Q ↔ ibw j (hS h a) ∧ X 175 56 L st (sI h a j.toNatClampNeg x) Q := X_iast mC_175 dX8_day_55
theorem x175_56 {l0 l1 l2 l3 l5 l6 l7 l8 : Value} {x : Int32} : X 175 56 [l0, l1, l2, l3, .int x, l5, l6, l7, l8] st h Q ↔ c1 l3 = true ∧ X 175 59 [l0, l1, l2, l3, .int (x + 1), l5, l6, l7, l8] st h Q := X_inc (pc' := 59) (x := x) mC_175 dX8_day_56 rfl rfl rfl
theorem x175_59 : X 175 59 L st h Q ↔ X 175 35 L st h Q := X_goto mC_175 dX8_day_59 (by decide)
theorem x175_62 : X 175 62 L st h Q ↔ X 175 63 L (.int 0 :: st) h Q := X_n mC_175 dX8_day_62 rfl
theorem x175_63 {l0 l1 l2 l3 l4 l5 l6 l7 l8 : Value} {x : Int32} : X 175 63 [l0, l1, l2, l3, l4, l5, l6, l7, l8] (.int x :: st) h Q ↔ c1 l3 = true ∧ X 175 65 [l0, l1, l2, l3, .int x, l5, l6, l7, l8] st h Q := X_sto (kk := 4) (pc' := 65) (w := .int x) mC_175 dX8_day_63 rfl (Nat.le_of_ble_eq_true rfl) rfl
theorem x175_65 {l0 l1 l2 l3 l5 l6 l7 l8 : Value} {x : Int32} : X 175 65 [l0, l1, l2, l3, .int x, l5, l6, l7, l8] st h Q ↔ X 175 67 [l0, l1, l2, l3, .int x, l5, l6, l7, l8] (.int x :: st) h Q := X_n mC_175 dX8_day_65 rfl
theorem x175_67 {l0 l1 l3 l4 l5 l6 l7 l8 : Value} {x : Int32} : X 175 67 [l0, l1, .int x, l3, l4, l5, l6, l7, l8] st h Q ↔ X 175 68 [l0, l1, .int x, l3, l4, l5, l6, l7, l8] (.int x :: st) h Q := X_n mC_175 dX8_day_67 rfl
theorem x175_68 {x y : Int32} : X 175 68 L (.int y :: .int x :: st) h Q ↔ if x < y then X 175 71 L st h Q else X 175 162 L st h Q := X_ige mC_175 dX8_day_68 (by decide)
theorem x175_71 : X 175 71 L st h Q ↔ X 175 74 L (.long 7919 :: st) h Q := X_ldc2 mC_175 dX8_day_71 (by decide +kernel)
theorem x175_74 {l0 l2 l3 l4 l5 l6 l7 l8 : Value} {x : Int32} : X 175 74 [l0, .int x, l2, l3, l4, l5, l6, l7, l8] st h Q ↔ X 175 75 [l0, .int x, l2, l3, l4, l5, l6, l7, l8] (.int x :: st) h Q := X_n mC_175 dX8_day_74 rfl
theorem x175_75 {x : Int32} : X 175 75 L (.int x :: st) h Q ↔ X 175 76 L (.long x.toInt64 :: st) h Q := X_n mC_175 dX8_day_75 rfl
theorem x175_76 {x y : Int64} : X 175 76 L (.long y :: .long x :: st) h Q ↔ X 175 77 L (.long (x * y) :: st) h Q := X_n mC_175 dX8_day_76 rfl
theorem x175_77 : X 175 77 L st h Q ↔ X 175 80 L (.long 6151 :: st) h Q := X_ldc2 mC_175 dX8_day_77 (by decide +kernel)
theorem x175_80 {l0 l1 l2 l3 l5 l6 l7 l8 : Value} {x : Int32} : X 175 80 [l0, l1, l2, l3, .int x, l5, l6, l7, l8] st h Q ↔ X 175 82 [l0, l1, l2, l3, .int x, l5, l6, l7, l8] (.int x :: st) h Q := X_n mC_175 dX8_day_80 rfl
theorem x175_82 {x : Int32} : X 175 82 L (.int x :: st) h Q ↔ X 175 83 L (.long x.toInt64 :: st) h Q := X_n mC_175 dX8_day_82 rfl
theorem x175_83 {x y : Int64} : X 175 83 L (.long y :: .long x :: st) h Q ↔ X 175 84 L (.long (x * y) :: st) h Q := X_n mC_175 dX8_day_83 rfl
theorem x175_84 {x y : Int64} : X 175 84 L (.long y :: .long x :: st) h Q ↔ X 175 85 L (.long (x + y) :: st) h Q := X_n mC_175 dX8_day_84 rfl
theorem x175_85 : X 175 85 L st h Q ↔ X 175 86 L (.long 1 :: st) h Q := X_n mC_175 dX8_day_85 rfl
theorem x175_86 {x y : Int64} : X 175 86 L (.long y :: .long x :: st) h Q ↔ X 175 87 L (.long (x + y) :: st) h Q := X_n mC_175 dX8_day_86 rfl
theorem x175_87 {l0 l1 l2 l3 l4 l5 l6 l7 l8 : Value} {x : Int64} : X 175 87 [l0, l1, l2, l3, l4, l5, l6, l7, l8] (.long x :: st) h Q ↔ c1 l4 = true ∧ X 175 89 [l0, l1, l2, l3, l4, .long x, .null, l7, l8] st h Q := X_sto2 (kk := 5) (pc' := 89) mC_175 dX8_day_87 rfl (Nat.le_of_ble_eq_true rfl) rfl
theorem x175_89 {l0 l1 l2 l3 l4 l6 l7 l8 : Value} {x : Int64} : X 175 89 [l0, l1, l2, l3, l4, .long x, l6, l7, l8] st h Q ↔ X 175 91 [l0, l1, l2, l3, l4, .long x, l6, l7, l8] (.long x :: st) h Q := X_n mC_175 dX8_day_89 rfl
theorem x175_91 {l0 l1 l2 l3 l4 l6 l7 l8 : Value} {x : Int64} : X 175 91 [l0, l1, l2, l3, l4, .long x, l6, l7, l8] st h Q ↔ X 175 93 [l0, l1, l2, l3, l4, .long x, l6, l7, l8] (.long x :: st) h Q := X_n mC_175 dX8_day_91 rfl
theorem x175_93 {x y : Int64} : X 175 93 L (.long y :: .long x :: st) h Q ↔ X 175 94 L (.long (x * y) :: st) h Q := X_n mC_175 dX8_day_93 rfl
theorem x175_94 : X 175 94 L st h Q ↔ X 175 97 L (.long 65521 :: st) h Q := X_ldc2 mC_175 dX8_day_94 (by decide +kernel)
theorem x175_97 {x y : Int64} : X 175 97 L (.long y :: .long x :: st) h Q ↔ (¬ y = 0) ∧ X 175 98 L (.long (x - x / y * y) :: st) h Q := X_gd mC_175 dX8_day_97 rfl
theorem x175_98 {x : Int64} : X 175 98 L (.long x :: st) h Q ↔ X 175 99 L (.int x.toInt32 :: st) h Q := X_n mC_175 dX8_day_98 rfl
theorem x175_99 : X 175 99 L st h Q ↔ X 175 100 L (.int 4 :: st) h Q := X_n mC_175 dX8_day_99 rfl
theorem x175_100 {x y : Int32} : X 175 100 L (.int y :: .int x :: st) h Q ↔ (¬ y = 0) ∧ X 175 101 L (.int (x / y) :: st) h Q := X_gd mC_175 dX8_day_100 rfl
theorem x175_101 {l0 l1 l2 l3 l4 l5 l6 l7 l8 : Value} {x : Int32} : X 175 101 [l0, l1, l2, l3, l4, l5, l6, l7, l8] (.int x :: st) h Q ↔ c1 l6 = true ∧ X 175 103 [l0, l1, l2, l3, l4, l5, l6, .int x, l8] st h Q := X_sto (kk := 7) (pc' := 103) (w := .int x) mC_175 dX8_day_101 rfl (Nat.le_of_ble_eq_true rfl) rfl
theorem x175_103 {l0 l1 l2 l3 l4 l5 l6 l8 : Value} {x : Int32} : X 175 103 [l0, l1, l2, l3, l4, l5, l6, .int x, l8] st h Q ↔ X 175 105 [l0, l1, l2, l3, l4, l5, l6, .int x, l8] (.int x :: st) h Q := X_n mC_175 dX8_day_103 rfl
theorem x175_105 : X 175 105 L st h Q ↔ X 175 107 L (.int 8 :: st) h Q := X_n mC_175 dX8_day_105 rfl
theorem x175_107 {x y : Int32} : X 175 107 L (.int y :: .int x :: st) h Q ↔ (¬ y = 0) ∧ X 175 108 L (.int (x / y) :: st) h Q := X_gd mC_175 dX8_day_107 rfl
theorem x175_108 {l1 l2 l3 l4 l5 l6 l7 l8 : Value} {x : Nat} : X 175 108 [.ref x, l1, l2, l3, l4, l5, l6, l7, l8] st h Q ↔ X 175 109 [.ref x, l1, l2, l3, l4, l5, l6, l7, l8] (.ref x :: st) h Q := X_n mC_175 dX8_day_108 rfl
theorem x175_109 {a : Nat} : X 175 109 L (.ref a :: st) h Q ↔ (hS h a = (1, 8) ∧ hR h a 2 ≠ 0) ∧ X 175 112 L (.ref (hR h a 2) :: st) h Q := X_getR mC_175 dX8_day_109 (by decide +kernel)
theorem x175_112 : X 175 112 L st h Q ↔ X 175 113 L (.int 1 :: st) h Q := X_n mC_175 dX8_day_112 rfl
theorem x175_113 {j : Int32} {a : Nat} : X 175 113 L (.int j :: .ref a :: st) h Q ↔ ib j (hS h a) ∧ X 175 114 L (.int (hI h a j.toNatClampNeg) :: st) h Q := X_iald mC_175 dX8_day_113
theorem x175_114 {x y : Int32} : X 175 114 L (.int y :: .int x :: st) h Q ↔ (¬ y = 0) ∧ X 175 115 L (.int (x - x / y * y) :: st) h Q := X_gd mC_175 dX8_day_114 rfl
theorem x175_115 {l0 l1 l2 l3 l4 l5 l6 l7 l8 : Value} {x : Int32} : X 175 115 [l0, l1, l2, l3, l4, l5, l6, l7, l8] (.int x :: st) h Q ↔ c1 l7 = true ∧ X 175 117 [l0, l1, l2, l3, l4, l5, l6, l7, .int x] st h Q := X_sto (kk := 8) (pc' := 117) (w := .int x) mC_175 dX8_day_115 rfl (Nat.le_of_ble_eq_true rfl) rfl
theorem x175_117 {l1 l2 l3 l4 l5 l6 l7 l8 : Value} {x : Nat} : X 175 117 [.ref x, l1, l2, l3, l4, l5, l6, l7, l8] st h Q ↔ X 175 118 [.ref x, l1, l2, l3, l4, l5, l6, l7, l8] (.ref x :: st) h Q := X_n mC_175 dX8_day_117 rfl
theorem x175_118 {l0 l1 l2 l3 l4 l5 l6 l7 : Value} {x : Int32} : X 175 118 [l0, l1, l2, l3, l4, l5, l6, l7, .int x] st h Q ↔ X 175 120 [l0, l1, l2, l3, l4, l5, l6, l7, .int x] (.int x :: st) h Q := X_n mC_175 dX8_day_118 rfl
theorem x175_120 {b : Nat} {a0 : Int32} : X 175 120 L [.int a0, .ref b] h Q ↔ hS h b = (1, 8) ∧ X 145 0 [.ref b, .int a0, .null, .null] [] h (fun r h' => X 175 123 L (pv r []) h' Q) := X_virt (as := [.int a0]) (n := 1) (ml := 4) (ck := 8) mC_175 dX8_day_120 (by unfold cOk; decide +kernel) ⟨rfl, rfl, by decide, Nat.le_of_ble_eq_true rfl⟩
theorem x175_123 : X 175 123 L st h Q ↔ X 175 125 L (.int (-4) :: st) h Q := X_n mC_175 dX8_day_123 rfl
theorem x175_125 {x y : Int32} : X 175 125 L (.int y :: .int x :: st) h Q ↔ if x = y then X 175 128 L st h Q else X 175 144 L st h Q := X_ine mC_175 dX8_day_125 (by decide)
theorem x175_128 {l1 l2 l3 l4 l5 l6 l7 l8 : Value} {x : Nat} : X 175 128 [.ref x, l1, l2, l3, l4, l5, l6, l7, l8] st h Q ↔ X 175 129 [.ref x, l1, l2, l3, l4, l5, l6, l7, l8] (.ref x :: st) h Q := X_n mC_175 dX8_day_128 rfl
theorem x175_129 {l0 l1 l2 l3 l4 l5 l6 l8 : Value} {x : Int32} : X 175 129 [l0, l1, l2, l3, l4, l5, l6, .int x, l8] st h Q ↔ X 175 131 [l0, l1, l2, l3, l4, l5, l6, .int x, l8] (.int x :: st) h Q := X_n mC_175 dX8_day_129 rfl
theorem x175_131 {l1 l2 l3 l4 l5 l6 l7 l8 : Value} {x : Nat} : X 175 131 [.ref x, l1, l2, l3, l4, l5, l6, l7, l8] st h Q ↔ X 175 132 [.ref x, l1, l2, l3, l4, l5, l6, l7, l8] (.ref x :: st) h Q := X_n mC_175 dX8_day_131 rfl
theorem x175_132 {a : Nat} : X 175 132 L (.ref a :: st) h Q ↔ (hS h a = (1, 8) ∧ hR h a 2 ≠ 0) ∧ X 175 135 L (.ref (hR h a 2) :: st) h Q := X_getR mC_175 dX8_day_132 (by decide +kernel)
theorem x175_135 : X 175 135 L st h Q ↔ X 175 136 L (.int 0 :: st) h Q := X_n mC_175 dX8_day_135 rfl
theorem x175_136 {j : Int32} {a : Nat} : X 175 136 L (.int j :: .ref a :: st) h Q ↔ ib j (hS h a) ∧ X 175 137 L (.int (hI h a j.toNatClampNeg) :: st) h Q := X_iald mC_175 dX8_day_136
theorem x175_137 {x y : Int32} : X 175 137 L (.int y :: .int x :: st) h Q ↔ (¬ y = 0) ∧ X 175 138 L (.int (x - x / y * y) :: st) h Q := X_gd mC_175 dX8_day_137 rfl
theorem x175_138 {l0 l1 l2 l3 l4 l5 l6 l7 : Value} {x : Int32} : X 175 138 [l0, l1, l2, l3, l4, l5, l6, l7, .int x] st h Q ↔ X 175 140 [l0, l1, l2, l3, l4, l5, l6, l7, .int x] (.int x :: st) h Q := X_n mC_175 dX8_day_138 rfl
theorem x175_140 {b : Nat} {a0 : Int32} {a1 : Int32} : X 175 140 L [.int a1, .int a0, .ref b] h Q ↔ hS h b = (1, 8) ∧ X 150 0 [.ref b, .int a0, .int a1, .null, .null, .null] [] h (fun r h' => X 175 143 L (pv r []) h' Q) := X_virt (as := [.int a0, .int a1]) (n := 2) (ml := 6) (ck := 8) mC_175 dX8_day_140 (by unfold cOk; decide +kernel) ⟨rfl, rfl, by decide, Nat.le_of_ble_eq_true rfl⟩
theorem x175_143 {x : Int32} : X 175 143 L (.int x :: st) h Q ↔ X 175 144 L st h Q := X_n mC_175 dX8_day_143 rfl
theorem x175_144 {l0 l1 l2 l3 l5 l6 l7 l8 : Value} {x : Int32} : X 175 144 [l0, l1, l2, l3, .int x, l5, l6, l7, l8] st h Q ↔ X 175 146 [l0, l1, l2, l3, .int x, l5, l6, l7, l8] (.int x :: st) h Q := X_n mC_175 dX8_day_144 rfl
theorem x175_146 : X 175 146 L st h Q ↔ X 175 147 L (.int 4 :: st) h Q := X_n mC_175 dX8_day_146 rfl
theorem x175_147 {x y : Int32} : X 175 147 L (.int y :: .int x :: st) h Q ↔ (¬ y = 0) ∧ X 175 148 L (.int (x - x / y * y) :: st) h Q := X_gd mC_175 dX8_day_147 rfl
theorem x175_148 : X 175 148 L st h Q ↔ X 175 149 L (.int 3 :: st) h Q := X_n mC_175 dX8_day_148 rfl
theorem x175_149 {x y : Int32} : X 175 149 L (.int y :: .int x :: st) h Q ↔ if x = y then X 175 152 L st h Q else X 175 156 L st h Q := X_ine mC_175 dX8_day_149 (by decide)
theorem x175_152 {l1 l2 l3 l4 l5 l6 l7 l8 : Value} {x : Nat} : X 175 152 [.ref x, l1, l2, l3, l4, l5, l6, l7, l8] st h Q ↔ X 175 153 [.ref x, l1, l2, l3, l4, l5, l6, l7, l8] (.ref x :: st) h Q := X_n mC_175 dX8_day_152 rfl
theorem x175_153 {b : Nat} : X 175 153 L [.ref b] h Q ↔ hS h b = (1, 8) ∧ X 153 0 [.ref b] [] h (fun r h' => X 175 156 L (pv r []) h' Q) := X_virt (as := []) (n := 0) (ml := 1) (ck := 8) mC_175 dX8_day_153 (by unfold cOk; decide +kernel) ⟨rfl, rfl, by decide, Nat.le_of_ble_eq_true rfl⟩
theorem x175_156 {l0 l1 l2 l3 l5 l6 l7 l8 : Value} {x : Int32} : X 175 156 [l0, l1, l2, l3, .int x, l5, l6, l7, l8] st h Q ↔ c1 l3 = true ∧ X 175 159 [l0, l1, l2, l3, .int (x + 1), l5, l6, l7, l8] st h Q := X_inc (pc' := 159) (x := x) mC_175 dX8_day_156 rfl rfl rfl
theorem x175_159 : X 175 159 L st h Q ↔ X 175 65 L st h Q := X_goto mC_175 dX8_day_159 (by decide)
theorem x175_162 {l1 l2 l3 l4 l5 l6 l7 l8 : Value} {x : Nat} : X 175 162 [.ref x, l1, l2, l3, l4, l5, l6, l7, l8] st h Q ↔ X 175 163 [.ref x, l1, l2, l3, l4, l5, l6, l7, l8] (.ref x :: st) h Q := X_n mC_175 dX8_day_162 rfl
theorem x175_163 {b : Nat} : X 175 163 L [.ref b] h Q ↔ hS h b = (1, 8) ∧ X 138 0 [.ref b, .null] [] h (fun r h' => X 175 166 L (pv r []) h' Q) := X_virt (as := []) (n := 0) (ml := 2) (ck := 8) mC_175 dX8_day_163 (by unfold cOk; decide +kernel) ⟨rfl, rfl, by decide, Nat.le_of_ble_eq_true rfl⟩
theorem x175_166 {l0 l1 l2 l4 l5 l6 l7 l8 : Value} {x : Int32} : X 175 166 [l0, l1, l2, .int x, l4, l5, l6, l7, l8] st h Q ↔ X 175 167 [l0, l1, l2, .int x, l4, l5, l6, l7, l8] (.int x :: st) h Q := X_n mC_175 dX8_day_166 rfl
theorem x175_167 {x : Int32} : X 175 167 L (.int x :: st) h Q ↔ if x = 0 then X 175 170 L st h Q else X 175 188 L st h Q := X_zne mC_175 dX8_day_167 (by decide)
theorem x175_170 {l1 l2 l3 l4 l5 l6 l7 l8 : Value} {x : Nat} : X 175 170 [.ref x, l1, l2, l3, l4, l5, l6, l7, l8] st h Q ↔ X 175 171 [.ref x, l1, l2, l3, l4, l5, l6, l7, l8] (.ref x :: st) h Q := X_n mC_175 dX8_day_170 rfl
theorem x175_171 {a : Nat} : X 175 171 L (.ref a :: st) h Q ↔ (hS h a = (1, 8) ∧ hR h a 4 ≠ 0) ∧ X 175 174 L (.ref (hR h a 4) :: st) h Q := X_getR mC_175 dX8_day_171 (by decide +kernel)
theorem x175_174 : X 175 174 L st h Q ↔ X 175 176 L (.int 9 :: st) h Q := X_n mC_175 dX8_day_174 rfl
theorem x175_176 {j : Int32} {a : Nat} : X 175 176 L (.int j :: .ref a :: st) h Q ↔ ib j (hS h a) ∧ X 175 177 L (.int (hI h a j.toNatClampNeg) :: st) h Q := X_iald mC_175 dX8_day_176
theorem x175_177 {l1 l2 l3 l4 l5 l6 l7 l8 : Value} {x : Nat} : X 175 177 [.ref x, l1, l2, l3, l4, l5, l6, l7, l8] st h Q ↔ X 175 178 [.ref x, l1, l2, l3, l4, l5, l6, l7, l8] (.ref x :: st) h Q := X_n mC_175 dX8_day_177 rfl
theorem x175_178 {a : Nat} : X 175 178 L (.ref a :: st) h Q ↔ (hS h a = (1, 8) ∧ hR h a 18 ≠ 0) ∧ X 175 181 L (.ref (hR h a 18) :: st) h Q := X_getR mC_175 dX8_day_178 (by decide +kernel)
theorem x175_181 : X 175 181 L st h Q ↔ X 175 183 L (.int 9 :: st) h Q := X_n mC_175 dX8_day_181 rfl
theorem x175_183 {j : Int32} {a : Nat} : X 175 183 L (.int j :: .ref a :: st) h Q ↔ ib j (hS h a) ∧ X 175 184 L (.int (hI h a j.toNatClampNeg) :: st) h Q := X_iald mC_175 dX8_day_183
theorem x175_184 {x y : Int32} : X 175 184 L (.int y :: .int x :: st) h Q ↔ X 175 185 L (.int (x - y) :: st) h Q := X_n mC_175 dX8_day_184 rfl
theorem x175_185 : X 175 185 L st h Q ↔ X 175 195 L st h Q := X_goto mC_175 dX8_day_185 (by decide)
theorem x175_188 {l1 l2 l3 l4 l5 l6 l7 l8 : Value} {x : Nat} : X 175 188 [.ref x, l1, l2, l3, l4, l5, l6, l7, l8] st h Q ↔ X 175 189 [.ref x, l1, l2, l3, l4, l5, l6, l7, l8] (.ref x :: st) h Q := X_n mC_175 dX8_day_188 rfl
theorem x175_189 {b : Nat} : X 175 189 L [.ref b] h Q ↔ hS h b = (1, 8) ∧ X 143 0 [.ref b, .null, .null] [] h (fun r h' => X 175 192 L (pv r []) h' Q) := X_virt (as := []) (n := 0) (ml := 3) (ck := 8) mC_175 dX8_day_189 (by unfold cOk; decide +kernel) ⟨rfl, rfl, by decide, Nat.le_of_ble_eq_true rfl⟩
theorem x175_192 {a0 : Int32} : X 175 192 L [.int a0] h Q ↔ X 124 0 [.int a0, .null, .null] [] h (fun r h' => X 175 195 L (pv r []) h' Q) := X_stat (as := [.int a0]) (n := 1) (ml := 3) (ck := 8) mC_175 dX8_day_192 (by unfold cOk; decide +kernel) ⟨rfl, rfl, by decide, Nat.le_of_ble_eq_true rfl⟩
theorem x175_195 {l0 l1 l2 l3 l4 l5 l6 l7 l8 : Value} {x : Int32} : X 175 195 [l0, l1, l2, l3, l4, l5, l6, l7, l8] (.int x :: st) h Q ↔ c1 l3 = true ∧ X 175 197 [l0, l1, l2, l3, .int x, l5, l6, l7, l8] st h Q := X_sto (kk := 4) (pc' := 197) (w := .int x) mC_175 dX8_day_195 rfl (Nat.le_of_ble_eq_true rfl) rfl
theorem x175_197 : X 175 197 L st h Q ↔ X 175 198 L (.int 0 :: st) h Q := X_n mC_175 dX8_day_197 rfl
theorem x175_198 {l0 l1 l2 l3 l4 l5 l6 l7 l8 : Value} {x : Int32} : X 175 198 [l0, l1, l2, l3, l4, l5, l6, l7, l8] (.int x :: st) h Q ↔ c1 l4 = true ∧ X 175 200 [l0, l1, l2, l3, l4, .int x, l6, l7, l8] st h Q := X_sto (kk := 5) (pc' := 200) (w := .int x) mC_175 dX8_day_198 rfl (Nat.le_of_ble_eq_true rfl) rfl
theorem x175_200 {l0 l1 l2 l3 l4 l6 l7 l8 : Value} {x : Int32} : X 175 200 [l0, l1, l2, l3, l4, .int x, l6, l7, l8] st h Q ↔ X 175 202 [l0, l1, l2, l3, l4, .int x, l6, l7, l8] (.int x :: st) h Q := X_n mC_175 dX8_day_200 rfl
theorem x175_202 : X 175 202 L st h Q ↔ X 175 204 L (.int 10 :: st) h Q := X_n mC_175 dX8_day_202 rfl
theorem x175_204 {x y : Int32} : X 175 204 L (.int y :: .int x :: st) h Q ↔ if x < y then X 175 207 L st h Q else X 175 227 L st h Q := X_ige mC_175 dX8_day_204 (by decide)
theorem x175_207 {l1 l2 l3 l4 l5 l6 l7 l8 : Value} {x : Nat} : X 175 207 [.ref x, l1, l2, l3, l4, l5, l6, l7, l8] st h Q ↔ X 175 208 [.ref x, l1, l2, l3, l4, l5, l6, l7, l8] (.ref x :: st) h Q := X_n mC_175 dX8_day_207 rfl
theorem x175_208 {a : Nat} : X 175 208 L (.ref a :: st) h Q ↔ (hS h a = (1, 8) ∧ hR h a 4 ≠ 0) ∧ X 175 211 L (.ref (hR h a 4) :: st) h Q := X_getR mC_175 dX8_day_208 (by decide +kernel)
theorem x175_211 {l0 l1 l2 l3 l4 l6 l7 l8 : Value} {x : Int32} : X 175 211 [l0, l1, l2, l3, l4, .int x, l6, l7, l8] st h Q ↔ X 175 213 [l0, l1, l2, l3, l4, .int x, l6, l7, l8] (.int x :: st) h Q := X_n mC_175 dX8_day_211 rfl
theorem x175_213 {l1 l2 l3 l4 l5 l6 l7 l8 : Value} {x : Nat} : X 175 213 [.ref x, l1, l2, l3, l4, l5, l6, l7, l8] st h Q ↔ X 175 214 [.ref x, l1, l2, l3, l4, l5, l6, l7, l8] (.ref x :: st) h Q := X_n mC_175 dX8_day_213 rfl
theorem x175_214 {a : Nat} : X 175 214 L (.ref a :: st) h Q ↔ (hS h a = (1, 8) ∧ hR h a 18 ≠ 0) ∧ X 175 217 L (.ref (hR h a 18) :: st) h Q := X_getR mC_175 dX8_day_214 (by decide +kernel)
theorem x175_217 {l0 l1 l2 l3 l4 l6 l7 l8 : Value} {x : Int32} : X 175 217 [l0, l1, l2, l3, l4, .int x, l6, l7, l8] st h Q ↔ X 175 219 [l0, l1, l2, l3, l4, .int x, l6, l7, l8] (.int x :: st) h Q := X_n mC_175 dX8_day_217 rfl
theorem x175_219 {j : Int32} {a : Nat} : X 175 219 L (.int j :: .ref a :: st) h Q ↔ ib j (hS h a) ∧ X 175 220 L (.int (hI h a j.toNatClampNeg) :: st) h Q := X_iald mC_175 dX8_day_219
theorem x175_220 {j x : Int32} {a : Nat} : X 175 220 L (.int x :: .int j :: .ref a :: st) h Q ↔ ibw j (hS h a) ∧ X 175 221 L st (sI h a j.toNatClampNeg x) Q := X_iast mC_175 dX8_day_220
theorem x175_221 {l0 l1 l2 l3 l4 l6 l7 l8 : Value} {x : Int32} : X 175 221 [l0, l1, l2, l3, l4, .int x, l6, l7, l8] st h Q ↔ c1 l4 = true ∧ X 175 224 [l0, l1, l2, l3, l4, .int (x + 1), l6, l7, l8] st h Q := X_inc (pc' := 224) (x := x) mC_175 dX8_day_221 rfl rfl rfl
theorem x175_224 : X 175 224 L st h Q ↔ X 175 200 L st h Q := X_goto mC_175 dX8_day_224 (by decide)
theorem x175_227 {l0 l1 l2 l3 l5 l6 l7 l8 : Value} {x : Int32} : X 175 227 [l0, l1, l2, l3, .int x, l5, l6, l7, l8] st h Q ↔ X 175 229 [l0, l1, l2, l3, .int x, l5, l6, l7, l8] (.int x :: st) h Q := X_n mC_175 dX8_day_227 rfl
theorem x175_229 {v : Int32} : X 175 229 L [.int v] h Q ↔ Q (some (.int v)) h := X_ret mC_175 dX8_day_229 (by decide +kernel)
theorem mC_176 : mC 176 = cX8_keep := rfl
theorem x176_0 {l1 : Value} {x : Nat} : X 176 0 [.ref x, l1] st h Q ↔ X 176 1 [.ref x, l1] (.ref x :: st) h Q := X_n mC_176 dX8_keep_0 rfl
theorem x176_1 {a : Nat} : X 176 1 L (.ref a :: st) h Q ↔ hS h a = (1, 8) ∧ X 176 4 L (.int (hI h a 8) :: st) h Q := X_getI mC_176 dX8_keep_1 (by decide +kernel)
theorem x176_4 : X 176 4 L st h Q ↔ X 176 5 L (.int 2 :: st) h Q := X_n mC_176 dX8_keep_4 rfl
theorem x176_5 {x y : Int32} : X 176 5 L (.int y :: .int x :: st) h Q ↔ if x = y then X 176 8 L st h Q else X 176 11 L st h Q := X_ine mC_176 dX8_keep_5 (by decide)
theorem x176_8 : X 176 8 L st h Q ↔ X 176 10 L (.int (-3) :: st) h Q := X_n mC_176 dX8_keep_8 rfl
theorem x176_10 {v : Int32} : X 176 10 L [.int v] h Q ↔ Q (some (.int v)) h := X_ret mC_176 dX8_keep_10 (by decide +kernel)
theorem x176_11 : X 176 11 L st h Q ↔ X 176 12 L (.int 0 :: st) h Q := X_n mC_176 dX8_keep_11 rfl
theorem x176_12 {l0 l1 : Value} {x : Int32} : X 176 12 [l0, l1] (.int x :: st) h Q ↔ c1 l0 = true ∧ X 176 13 [l0, .int x] st h Q := X_sto (kk := 1) (pc' := 13) (w := .int x) mC_176 dX8_keep_12 rfl (Nat.le_of_ble_eq_true rfl) rfl
theorem x176_13 {l0 : Value} {x : Int32} : X 176 13 [l0, .int x] st h Q ↔ X 176 14 [l0, .int x] (.int x :: st) h Q := X_n mC_176 dX8_keep_13 rfl
theorem x176_14 : X 176 14 L st h Q ↔ X 176 16 L (.int 10 :: st) h Q := X_n mC_176 dX8_keep_14 rfl
theorem x176_16 {x y : Int32} : X 176 16 L (.int y :: .int x :: st) h Q ↔ if x < y then X 176 19 L st h Q else X 176 45 L st h Q := X_ige mC_176 dX8_keep_16 (by decide)
theorem x176_19 {l1 : Value} {x : Nat} : X 176 19 [.ref x, l1] st h Q ↔ X 176 20 [.ref x, l1] (.ref x :: st) h Q := X_n mC_176 dX8_keep_19 rfl
theorem x176_20 {a : Nat} : X 176 20 L (.ref a :: st) h Q ↔ (hS h a = (1, 8) ∧ hR h a 7 ≠ 0) ∧ X 176 23 L (.ref (hR h a 7) :: st) h Q := X_getR mC_176 dX8_keep_20 (by decide +kernel)
theorem x176_23 : X 176 23 L st h Q ↔ X 176 25 L (.int 10 :: st) h Q := X_n mC_176 dX8_keep_23 rfl
theorem x176_25 {l1 : Value} {x : Nat} : X 176 25 [.ref x, l1] st h Q ↔ X 176 26 [.ref x, l1] (.ref x :: st) h Q := X_n mC_176 dX8_keep_25 rfl
theorem x176_26 {a : Nat} : X 176 26 L (.ref a :: st) h Q ↔ hS h a = (1, 8) ∧ X 176 29 L (.int (hI h a 8) :: st) h Q := X_getI mC_176 dX8_keep_26 (by decide +kernel)
theorem x176_29 {x y : Int32} : X 176 29 L (.int y :: .int x :: st) h Q ↔ X 176 30 L (.int (x * y) :: st) h Q := X_n mC_176 dX8_keep_29 rfl
theorem x176_30 {l0 : Value} {x : Int32} : X 176 30 [l0, .int x] st h Q ↔ X 176 31 [l0, .int x] (.int x :: st) h Q := X_n mC_176 dX8_keep_30 rfl
theorem x176_31 {x y : Int32} : X 176 31 L (.int y :: .int x :: st) h Q ↔ X 176 32 L (.int (x + y) :: st) h Q := X_n mC_176 dX8_keep_31 rfl
theorem x176_32 {l1 : Value} {x : Nat} : X 176 32 [.ref x, l1] st h Q ↔ X 176 33 [.ref x, l1] (.ref x :: st) h Q := X_n mC_176 dX8_keep_32 rfl
theorem x176_33 {a : Nat} : X 176 33 L (.ref a :: st) h Q ↔ (hS h a = (1, 8) ∧ hR h a 4 ≠ 0) ∧ X 176 36 L (.ref (hR h a 4) :: st) h Q := X_getR mC_176 dX8_keep_33 (by decide +kernel)
theorem x176_36 {l0 : Value} {x : Int32} : X 176 36 [l0, .int x] st h Q ↔ X 176 37 [l0, .int x] (.int x :: st) h Q := X_n mC_176 dX8_keep_36 rfl
theorem x176_37 {j : Int32} {a : Nat} : X 176 37 L (.int j :: .ref a :: st) h Q ↔ ib j (hS h a) ∧ X 176 38 L (.int (hI h a j.toNatClampNeg) :: st) h Q := X_iald mC_176 dX8_keep_37
theorem x176_38 {j x : Int32} {a : Nat} : X 176 38 L (.int x :: .int j :: .ref a :: st) h Q ↔ ibw j (hS h a) ∧ X 176 39 L st (sI h a j.toNatClampNeg x) Q := X_iast mC_176 dX8_keep_38
theorem x176_39 {l0 : Value} {x : Int32} : X 176 39 [l0, .int x] st h Q ↔ c1 l0 = true ∧ X 176 42 [l0, .int (x + 1)] st h Q := X_inc (pc' := 42) (x := x) mC_176 dX8_keep_39 rfl rfl rfl
theorem x176_42 : X 176 42 L st h Q ↔ X 176 13 L st h Q := X_goto mC_176 dX8_keep_42 (by decide)
theorem x176_45 {l1 : Value} {x : Nat} : X 176 45 [.ref x, l1] st h Q ↔ X 176 46 [.ref x, l1] (.ref x :: st) h Q := X_n mC_176 dX8_keep_45 rfl
theorem x176_46 {x : Nat} : X 176 46 L (.ref x :: st) h Q ↔ X 176 47 L (.ref x :: .ref x :: st) h Q := X_n mC_176 dX8_keep_46 rfl
theorem x176_47 {a : Nat} : X 176 47 L (.ref a :: st) h Q ↔ hS h a = (1, 8) ∧ X 176 50 L (.int (hI h a 8) :: st) h Q := X_getI mC_176 dX8_keep_47 (by decide +kernel)
theorem x176_50 : X 176 50 L st h Q ↔ X 176 51 L (.int 1 :: st) h Q := X_n mC_176 dX8_keep_50 rfl
theorem x176_51 {x y : Int32} : X 176 51 L (.int y :: .int x :: st) h Q ↔ X 176 52 L (.int (x + y) :: st) h Q := X_n mC_176 dX8_keep_51 rfl
theorem x176_52 {a : Nat} {v : Int32} : X 176 52 L (.int v :: .ref a :: st) h Q ↔ hS h a = (1, 8) ∧ X 176 55 L st (sI h a 8 v) Q := X_putI mC_176 dX8_keep_52 (by decide +kernel)
theorem x176_55 {l1 : Value} {x : Nat} : X 176 55 [.ref x, l1] st h Q ↔ X 176 56 [.ref x, l1] (.ref x :: st) h Q := X_n mC_176 dX8_keep_55 rfl
theorem x176_56 {a : Nat} : X 176 56 L (.ref a :: st) h Q ↔ hS h a = (1, 8) ∧ X 176 59 L (.int (hI h a 8) :: st) h Q := X_getI mC_176 dX8_keep_56 (by decide +kernel)
theorem x176_59 {v : Int32} : X 176 59 L [.int v] h Q ↔ Q (some (.int v)) h := X_ret mC_176 dX8_keep_59 (by decide +kernel)
theorem mC_177 : mC 177 = cX8_back := rfl
theorem x177_0 {l1 : Value} {x : Nat} : X 177 0 [.ref x, l1] st h Q ↔ X 177 1 [.ref x, l1] (.ref x :: st) h Q := X_n mC_177 dX8_back_0 rfl
theorem x177_1 {a : Nat} : X 177 1 L (.ref a :: st) h Q ↔ hS h a = (1, 8) ∧ X 177 4 L (.int (hI h a 8) :: st) h Q := X_getI mC_177 dX8_back_1 (by decide +kernel)
theorem x177_4 {x : Int32} : X 177 4 L (.int x :: st) h Q ↔ if x = 0 then X 177 7 L st h Q else X 177 10 L st h Q := X_zne mC_177 dX8_back_4 (by decide)
theorem x177_7 : X 177 7 L st h Q ↔ X 177 9 L (.int (-2) :: st) h Q := X_n mC_177 dX8_back_7 rfl
theorem x177_9 {v : Int32} : X 177 9 L [.int v] h Q ↔ Q (some (.int v)) h := X_ret mC_177 dX8_back_9 (by decide +kernel)
theorem x177_10 {l1 : Value} {x : Nat} : X 177 10 [.ref x, l1] st h Q ↔ X 177 11 [.ref x, l1] (.ref x :: st) h Q := X_n mC_177 dX8_back_10 rfl
theorem x177_11 {x : Nat} : X 177 11 L (.ref x :: st) h Q ↔ X 177 12 L (.ref x :: .ref x :: st) h Q := X_n mC_177 dX8_back_11 rfl
theorem x177_12 {a : Nat} : X 177 12 L (.ref a :: st) h Q ↔ hS h a = (1, 8) ∧ X 177 15 L (.int (hI h a 8) :: st) h Q := X_getI mC_177 dX8_back_12 (by decide +kernel)
theorem x177_15 : X 177 15 L st h Q ↔ X 177 16 L (.int 1 :: st) h Q := X_n mC_177 dX8_back_15 rfl
theorem x177_16 {x y : Int32} : X 177 16 L (.int y :: .int x :: st) h Q ↔ X 177 17 L (.int (x - y) :: st) h Q := X_n mC_177 dX8_back_16 rfl
theorem x177_17 {a : Nat} {v : Int32} : X 177 17 L (.int v :: .ref a :: st) h Q ↔ hS h a = (1, 8) ∧ X 177 20 L st (sI h a 8 v) Q := X_putI mC_177 dX8_back_17 (by decide +kernel)
theorem x177_20 : X 177 20 L st h Q ↔ X 177 21 L (.int 0 :: st) h Q := X_n mC_177 dX8_back_20 rfl
theorem x177_21 {l0 l1 : Value} {x : Int32} : X 177 21 [l0, l1] (.int x :: st) h Q ↔ c1 l0 = true ∧ X 177 22 [l0, .int x] st h Q := X_sto (kk := 1) (pc' := 22) (w := .int x) mC_177 dX8_back_21 rfl (Nat.le_of_ble_eq_true rfl) rfl
theorem x177_22 {l0 : Value} {x : Int32} : X 177 22 [l0, .int x] st h Q ↔ X 177 23 [l0, .int x] (.int x :: st) h Q := X_n mC_177 dX8_back_22 rfl
theorem x177_23 : X 177 23 L st h Q ↔ X 177 25 L (.int 10 :: st) h Q := X_n mC_177 dX8_back_23 rfl
theorem x177_25 {x y : Int32} : X 177 25 L (.int y :: .int x :: st) h Q ↔ if x < y then X 177 28 L st h Q else X 177 54 L st h Q := X_ige mC_177 dX8_back_25 (by decide)
theorem x177_28 {l1 : Value} {x : Nat} : X 177 28 [.ref x, l1] st h Q ↔ X 177 29 [.ref x, l1] (.ref x :: st) h Q := X_n mC_177 dX8_back_28 rfl
theorem x177_29 {a : Nat} : X 177 29 L (.ref a :: st) h Q ↔ (hS h a = (1, 8) ∧ hR h a 4 ≠ 0) ∧ X 177 32 L (.ref (hR h a 4) :: st) h Q := X_getR mC_177 dX8_back_29 (by decide +kernel)
theorem x177_32 {l0 : Value} {x : Int32} : X 177 32 [l0, .int x] st h Q ↔ X 177 33 [l0, .int x] (.int x :: st) h Q := X_n mC_177 dX8_back_32 rfl
theorem x177_33 {l1 : Value} {x : Nat} : X 177 33 [.ref x, l1] st h Q ↔ X 177 34 [.ref x, l1] (.ref x :: st) h Q := X_n mC_177 dX8_back_33 rfl
theorem x177_34 {a : Nat} : X 177 34 L (.ref a :: st) h Q ↔ (hS h a = (1, 8) ∧ hR h a 7 ≠ 0) ∧ X 177 37 L (.ref (hR h a 7) :: st) h Q := X_getR mC_177 dX8_back_34 (by decide +kernel)
theorem x177_37 : X 177 37 L st h Q ↔ X 177 39 L (.int 10 :: st) h Q := X_n mC_177 dX8_back_37 rfl
theorem x177_39 {l1 : Value} {x : Nat} : X 177 39 [.ref x, l1] st h Q ↔ X 177 40 [.ref x, l1] (.ref x :: st) h Q := X_n mC_177 dX8_back_39 rfl
theorem x177_40 {a : Nat} : X 177 40 L (.ref a :: st) h Q ↔ hS h a = (1, 8) ∧ X 177 43 L (.int (hI h a 8) :: st) h Q := X_getI mC_177 dX8_back_40 (by decide +kernel)
theorem x177_43 {x y : Int32} : X 177 43 L (.int y :: .int x :: st) h Q ↔ X 177 44 L (.int (x * y) :: st) h Q := X_n mC_177 dX8_back_43 rfl
theorem x177_44 {l0 : Value} {x : Int32} : X 177 44 [l0, .int x] st h Q ↔ X 177 45 [l0, .int x] (.int x :: st) h Q := X_n mC_177 dX8_back_44 rfl
theorem x177_45 {x y : Int32} : X 177 45 L (.int y :: .int x :: st) h Q ↔ X 177 46 L (.int (x + y) :: st) h Q := X_n mC_177 dX8_back_45 rfl
theorem x177_46 {j : Int32} {a : Nat} : X 177 46 L (.int j :: .ref a :: st) h Q ↔ ib j (hS h a) ∧ X 177 47 L (.int (hI h a j.toNatClampNeg) :: st) h Q := X_iald mC_177 dX8_back_46
theorem x177_47 {j x : Int32} {a : Nat} : X 177 47 L (.int x :: .int j :: .ref a :: st) h Q ↔ ibw j (hS h a) ∧ X 177 48 L st (sI h a j.toNatClampNeg x) Q := X_iast mC_177 dX8_back_47
theorem x177_48 {l0 : Value} {x : Int32} : X 177 48 [l0, .int x] st h Q ↔ c1 l0 = true ∧ X 177 51 [l0, .int (x + 1)] st h Q := X_inc (pc' := 51) (x := x) mC_177 dX8_back_48 rfl rfl rfl
theorem x177_51 : X 177 51 L st h Q ↔ X 177 22 L st h Q := X_goto mC_177 dX8_back_51 (by decide)
theorem x177_54 {l1 : Value} {x : Nat} : X 177 54 [.ref x, l1] st h Q ↔ X 177 55 [.ref x, l1] (.ref x :: st) h Q := X_n mC_177 dX8_back_54 rfl
theorem x177_55 : X 177 55 L st h Q ↔ X 177 56 L (.int 0 :: st) h Q := X_n mC_177 dX8_back_55 rfl
theorem x177_56 {a : Nat} {v : Int32} : X 177 56 L (.int v :: .ref a :: st) h Q ↔ hS h a = (1, 8) ∧ X 177 59 L st (sI h a 6 v) Q := X_putI mC_177 dX8_back_56 (by decide +kernel)
theorem x177_59 {l1 : Value} {x : Nat} : X 177 59 [.ref x, l1] st h Q ↔ X 177 60 [.ref x, l1] (.ref x :: st) h Q := X_n mC_177 dX8_back_59 rfl
theorem x177_60 {a : Nat} : X 177 60 L (.ref a :: st) h Q ↔ hS h a = (1, 8) ∧ X 177 63 L (.int (hI h a 8) :: st) h Q := X_getI mC_177 dX8_back_60 (by decide +kernel)
theorem x177_63 {v : Int32} : X 177 63 L [.int v] h Q ↔ Q (some (.int v)) h := X_ret mC_177 dX8_back_63 (by decide +kernel)
theorem mC_178 : mC 178 = cX8_count := rfl
theorem x178_0 {l0 : Value} {x : Int32} : X 178 0 [l0, .int x] st h Q ↔ X 178 1 [l0, .int x] (.int x :: st) h Q := X_n mC_178 dX8_count_0 rfl
theorem x178_1 {x : Int32} : X 178 1 L (.int x :: st) h Q ↔ if x = 0 then X 178 48 L st h Q else if x = 1 then X 178 55 L st h Q else if x = 2 then X 178 62 L st h Q else if x = 3 then X 178 70 L st h Q else if x = 4 then X 178 80 L st h Q else if x = 5 then X 178 85 L st h Q else if x = 6 then X 178 90 L st h Q else if x = 7 then X 178 95 L st h Q else X 178 100 L st h Q := by
  by_cases h0 : x = 0
  · subst h0; simp only [if_true]; exact X_tabIn (off := 47) mC_178 dX8_count_1 ⟨by decide, by decide⟩ (by decide)
  rw [if_neg h0]
  by_cases h1 : x = 1
  · subst h1; simp only [if_true]; exact X_tabIn (off := 54) mC_178 dX8_count_1 ⟨by decide, by decide⟩ (by decide)
  rw [if_neg h1]
  by_cases h2 : x = 2
  · subst h2; simp only [if_true]; exact X_tabIn (off := 61) mC_178 dX8_count_1 ⟨by decide, by decide⟩ (by decide)
  rw [if_neg h2]
  by_cases h3 : x = 3
  · subst h3; simp only [if_true]; exact X_tabIn (off := 69) mC_178 dX8_count_1 ⟨by decide, by decide⟩ (by decide)
  rw [if_neg h3]
  by_cases h4 : x = 4
  · subst h4; simp only [if_true]; exact X_tabIn (off := 79) mC_178 dX8_count_1 ⟨by decide, by decide⟩ (by decide)
  rw [if_neg h4]
  by_cases h5 : x = 5
  · subst h5; simp only [if_true]; exact X_tabIn (off := 84) mC_178 dX8_count_1 ⟨by decide, by decide⟩ (by decide)
  rw [if_neg h5]
  by_cases h6 : x = 6
  · subst h6; simp only [if_true]; exact X_tabIn (off := 89) mC_178 dX8_count_1 ⟨by decide, by decide⟩ (by decide)
  rw [if_neg h6]
  by_cases h7 : x = 7
  · subst h7; simp only [if_true]; exact X_tabIn (off := 94) mC_178 dX8_count_1 ⟨by decide, by decide⟩ (by decide)
  rw [if_neg h7]
  have q0 := toInt_ne h0
  rw [show (0 : Int32).toInt = 0 by decide] at q0
  have q1 := toInt_ne h1
  rw [show (1 : Int32).toInt = 1 by decide] at q1
  have q2 := toInt_ne h2
  rw [show (2 : Int32).toInt = 2 by decide] at q2
  have q3 := toInt_ne h3
  rw [show (3 : Int32).toInt = 3 by decide] at q3
  have q4 := toInt_ne h4
  rw [show (4 : Int32).toInt = 4 by decide] at q4
  have q5 := toInt_ne h5
  rw [show (5 : Int32).toInt = 5 by decide] at q5
  have q6 := toInt_ne h6
  rw [show (6 : Int32).toInt = 6 by decide] at q6
  have q7 := toInt_ne h7
  rw [show (7 : Int32).toInt = 7 by decide] at q7
  exact X_tabOut mC_178 dX8_count_1 (by omega) (by decide)
theorem x178_48 {l1 : Value} {x : Nat} : X 178 48 [.ref x, l1] st h Q ↔ X 178 49 [.ref x, l1] (.ref x :: st) h Q := X_n mC_178 dX8_count_48 rfl
theorem x178_49 {a : Nat} : X 178 49 L (.ref a :: st) h Q ↔ (hS h a = (1, 8) ∧ hR h a 2 ≠ 0) ∧ X 178 52 L (.ref (hR h a 2) :: st) h Q := X_getR mC_178 dX8_count_49 (by decide +kernel)
theorem x178_52 : X 178 52 L st h Q ↔ X 178 53 L (.int 0 :: st) h Q := X_n mC_178 dX8_count_52 rfl
theorem x178_53 {j : Int32} {a : Nat} : X 178 53 L (.int j :: .ref a :: st) h Q ↔ ib j (hS h a) ∧ X 178 54 L (.int (hI h a j.toNatClampNeg) :: st) h Q := X_iald mC_178 dX8_count_53
theorem x178_54 {v : Int32} : X 178 54 L [.int v] h Q ↔ Q (some (.int v)) h := X_ret mC_178 dX8_count_54 (by decide +kernel)
theorem x178_55 {l1 : Value} {x : Nat} : X 178 55 [.ref x, l1] st h Q ↔ X 178 56 [.ref x, l1] (.ref x :: st) h Q := X_n mC_178 dX8_count_55 rfl
theorem x178_56 {a : Nat} : X 178 56 L (.ref a :: st) h Q ↔ (hS h a = (1, 8) ∧ hR h a 2 ≠ 0) ∧ X 178 59 L (.ref (hR h a 2) :: st) h Q := X_getR mC_178 dX8_count_56 (by decide +kernel)
theorem x178_59 : X 178 59 L st h Q ↔ X 178 60 L (.int 1 :: st) h Q := X_n mC_178 dX8_count_59 rfl
theorem x178_60 {j : Int32} {a : Nat} : X 178 60 L (.int j :: .ref a :: st) h Q ↔ ib j (hS h a) ∧ X 178 61 L (.int (hI h a j.toNatClampNeg) :: st) h Q := X_iald mC_178 dX8_count_60
theorem x178_61 {v : Int32} : X 178 61 L [.int v] h Q ↔ Q (some (.int v)) h := X_ret mC_178 dX8_count_61 (by decide +kernel)
theorem x178_62 {l1 : Value} {x : Nat} : X 178 62 [.ref x, l1] st h Q ↔ X 178 63 [.ref x, l1] (.ref x :: st) h Q := X_n mC_178 dX8_count_62 rfl
theorem x178_63 {a : Nat} : X 178 63 L (.ref a :: st) h Q ↔ (hS h a = (1, 8) ∧ hR h a 4 ≠ 0) ∧ X 178 66 L (.ref (hR h a 4) :: st) h Q := X_getR mC_178 dX8_count_63 (by decide +kernel)
theorem x178_66 : X 178 66 L st h Q ↔ X 178 68 L (.int 6 :: st) h Q := X_n mC_178 dX8_count_66 rfl
theorem x178_68 {j : Int32} {a : Nat} : X 178 68 L (.int j :: .ref a :: st) h Q ↔ ib j (hS h a) ∧ X 178 69 L (.int (hI h a j.toNatClampNeg) :: st) h Q := X_iald mC_178 dX8_count_68
theorem x178_69 {v : Int32} : X 178 69 L [.int v] h Q ↔ Q (some (.int v)) h := X_ret mC_178 dX8_count_69 (by decide +kernel)
theorem x178_70 {l1 : Value} {x : Nat} : X 178 70 [.ref x, l1] st h Q ↔ X 178 71 [.ref x, l1] (.ref x :: st) h Q := X_n mC_178 dX8_count_70 rfl
theorem x178_71 {a : Nat} : X 178 71 L (.ref a :: st) h Q ↔ (hS h a = (1, 8) ∧ hR h a 4 ≠ 0) ∧ X 178 74 L (.ref (hR h a 4) :: st) h Q := X_getR mC_178 dX8_count_71 (by decide +kernel)
theorem x178_74 : X 178 74 L st h Q ↔ X 178 75 L (.int 5 :: st) h Q := X_n mC_178 dX8_count_74 rfl
theorem x178_75 {j : Int32} {a : Nat} : X 178 75 L (.int j :: .ref a :: st) h Q ↔ ib j (hS h a) ∧ X 178 76 L (.int (hI h a j.toNatClampNeg) :: st) h Q := X_iald mC_178 dX8_count_75
theorem x178_76 {a0 : Int32} : X 178 76 L [.int a0] h Q ↔ X 124 0 [.int a0, .null, .null] [] h (fun r h' => X 178 79 L (pv r []) h' Q) := X_stat (as := [.int a0]) (n := 1) (ml := 3) (ck := 8) mC_178 dX8_count_76 (by unfold cOk; decide +kernel) ⟨rfl, rfl, by decide, Nat.le_of_ble_eq_true rfl⟩
theorem x178_79 {v : Int32} : X 178 79 L [.int v] h Q ↔ Q (some (.int v)) h := X_ret mC_178 dX8_count_79 (by decide +kernel)
theorem x178_80 {l1 : Value} {x : Nat} : X 178 80 [.ref x, l1] st h Q ↔ X 178 81 [.ref x, l1] (.ref x :: st) h Q := X_n mC_178 dX8_count_80 rfl
theorem x178_81 {a : Nat} : X 178 81 L (.ref a :: st) h Q ↔ hS h a = (1, 8) ∧ X 178 84 L (.int (hI h a 10) :: st) h Q := X_getI mC_178 dX8_count_81 (by decide +kernel)
theorem x178_84 {v : Int32} : X 178 84 L [.int v] h Q ↔ Q (some (.int v)) h := X_ret mC_178 dX8_count_84 (by decide +kernel)
theorem x178_85 {l1 : Value} {x : Nat} : X 178 85 [.ref x, l1] st h Q ↔ X 178 86 [.ref x, l1] (.ref x :: st) h Q := X_n mC_178 dX8_count_85 rfl
theorem x178_86 {a : Nat} : X 178 86 L (.ref a :: st) h Q ↔ hS h a = (1, 8) ∧ X 178 89 L (.int (hI h a 6) :: st) h Q := X_getI mC_178 dX8_count_86 (by decide +kernel)
theorem x178_89 {v : Int32} : X 178 89 L [.int v] h Q ↔ Q (some (.int v)) h := X_ret mC_178 dX8_count_89 (by decide +kernel)
theorem x178_90 {l1 : Value} {x : Nat} : X 178 90 [.ref x, l1] st h Q ↔ X 178 91 [.ref x, l1] (.ref x :: st) h Q := X_n mC_178 dX8_count_90 rfl
theorem x178_91 {a : Nat} : X 178 91 L (.ref a :: st) h Q ↔ hS h a = (1, 8) ∧ X 178 94 L (.int (hI h a 8) :: st) h Q := X_getI mC_178 dX8_count_91 (by decide +kernel)
theorem x178_94 {v : Int32} : X 178 94 L [.int v] h Q ↔ Q (some (.int v)) h := X_ret mC_178 dX8_count_94 (by decide +kernel)
theorem x178_95 {l1 : Value} {x : Nat} : X 178 95 [.ref x, l1] st h Q ↔ X 178 96 [.ref x, l1] (.ref x :: st) h Q := X_n mC_178 dX8_count_95 rfl
theorem x178_96 {a : Nat} : X 178 96 L (.ref a :: st) h Q ↔ hS h a = (1, 8) ∧ X 178 99 L (.int (hI h a 1) :: st) h Q := X_getI mC_178 dX8_count_96 (by decide +kernel)
theorem x178_99 {v : Int32} : X 178 99 L [.int v] h Q ↔ Q (some (.int v)) h := X_ret mC_178 dX8_count_99 (by decide +kernel)
theorem x178_100 : X 178 100 L st h Q ↔ X 178 101 L (.int (-1) :: st) h Q := X_n mC_178 dX8_count_100 rfl
theorem x178_101 {v : Int32} : X 178 101 L [.int v] h Q ↔ Q (some (.int v)) h := X_ret mC_178 dX8_count_101 (by decide +kernel)
end XS
