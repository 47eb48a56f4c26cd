section XS
variable {L st : List Value} {h : aH} {Q : Option Value → aH → Prop}
theorem mC_119 : mC 119 = cX8_init := rfl
theorem x119_0 {x : Nat} : X 119 0 [.ref x] st h Q ↔ X 119 1 [.ref x] (.ref x :: st) h Q := X_n mC_119 dX8_init_0 rfl
theorem x119_1 {a : Nat} : X 119 1 L [.ref a] h Q ↔ X 119 4 L [] h Q := X_obj (n := 0) mC_119 dX8_init_1 (by decide +kernel) (Nat.le_of_ble_eq_true rfl)
theorem x119_4 {x : Nat} : X 119 4 [.ref x] st h Q ↔ X 119 5 [.ref x] (.ref x :: st) h Q := X_n mC_119 dX8_init_4 rfl
theorem x119_5 : X 119 5 L st h Q ↔ X 119 8 L (.int 200 :: st) h Q := X_n mC_119 dX8_init_5 rfl
theorem x119_8 {x : Int32} : X 119 8 L (.int x :: st) h Q ↔ (¬ x < 0 ∧ x < 100000) ∧ X 119 10 L (.ref (hN h) :: st) (nw h x.toNatClampNeg (2, x.toNatClampNeg)) Q := X_newI mC_119 dX8_init_8
theorem x119_10 {a v : Nat} : X 119 10 L (.ref v :: .ref a :: st) h Q ↔ (hS h a = (1, 8) ∧ v ≠ 0) ∧ X 119 13 L st (sR h a 0 v) Q := X_putR mC_119 dX8_init_10 (by decide +kernel)
theorem x119_13 {x : Nat} : X 119 13 [.ref x] st h Q ↔ X 119 14 [.ref x] (.ref x :: st) h Q := X_n mC_119 dX8_init_13 rfl
theorem x119_14 : X 119 14 L st h Q ↔ X 119 16 L (.int 31 :: st) h Q := X_n mC_119 dX8_init_14 rfl
theorem x119_16 {x : Int32} : X 119 16 L (.int x :: st) h Q ↔ (¬ x < 0 ∧ x < 100000) ∧ X 119 18 L (.ref (hN h) :: st) (nw h x.toNatClampNeg (2, x.toNatClampNeg)) Q := X_newI mC_119 dX8_init_16
theorem x119_18 {a v : Nat} : X 119 18 L (.ref v :: .ref a :: st) h Q ↔ (hS h a = (1, 8) ∧ v ≠ 0) ∧ X 119 21 L st (sR h a 2 v) Q := X_putR mC_119 dX8_init_18 (by decide +kernel)
theorem x119_21 {x : Nat} : X 119 21 [.ref x] st h Q ↔ X 119 22 [.ref x] (.ref x :: st) h Q := X_n mC_119 dX8_init_21 rfl
theorem x119_22 : X 119 22 L st h Q ↔ X 119 24 L (.int 31 :: st) h Q := X_n mC_119 dX8_init_22 rfl
theorem x119_24 {x : Int32} : X 119 24 L (.int x :: st) h Q ↔ (¬ x < 0 ∧ x < 100000) ∧ X 119 26 L (.ref (hN h) :: st) (nw h x.toNatClampNeg (2, x.toNatClampNeg)) Q := X_newI mC_119 dX8_init_24
theorem x119_26 {a v : Nat} : X 119 26 L (.ref v :: .ref a :: st) h Q ↔ (hS h a = (1, 8) ∧ v ≠ 0) ∧ X 119 29 L st (sR h a 3 v) Q := X_putR mC_119 dX8_init_26 (by decide +kernel)
theorem x119_29 {x : Nat} : X 119 29 [.ref x] st h Q ↔ X 119 30 [.ref x] (.ref x :: st) h Q := X_n mC_119 dX8_init_29 rfl
theorem x119_30 : X 119 30 L st h Q ↔ X 119 32 L (.int 10 :: st) h Q := X_n mC_119 dX8_init_30 rfl
theorem x119_32 {x : Int32} : X 119 32 L (.int x :: st) h Q ↔ (¬ x < 0 ∧ x < 100000) ∧ X 119 34 L (.ref (hN h) :: st) (nw h x.toNatClampNeg (2, x.toNatClampNeg)) Q := X_newI mC_119 dX8_init_32
theorem x119_34 {a v : Nat} : X 119 34 L (.ref v :: .ref a :: st) h Q ↔ (hS h a = (1, 8) ∧ v ≠ 0) ∧ X 119 37 L st (sR h a 4 v) Q := X_putR mC_119 dX8_init_34 (by decide +kernel)
theorem x119_37 {x : Nat} : X 119 37 [.ref x] st h Q ↔ X 119 38 [.ref x] (.ref x :: st) h Q := X_n mC_119 dX8_init_37 rfl
theorem x119_38 : X 119 38 L st h Q ↔ X 119 40 L (.int 80 :: st) h Q := X_n mC_119 dX8_init_38 rfl
theorem x119_40 {x : Int32} : X 119 40 L (.int x :: st) h Q ↔ (¬ x < 0 ∧ x < 100000) ∧ X 119 42 L (.ref (hN h) :: st) (nw h x.toNatClampNeg (2, x.toNatClampNeg)) Q := X_newI mC_119 dX8_init_40
theorem x119_42 {a v : Nat} : X 119 42 L (.ref v :: .ref a :: st) h Q ↔ (hS h a = (1, 8) ∧ v ≠ 0) ∧ X 119 45 L st (sR h a 5 v) Q := X_putR mC_119 dX8_init_42 (by decide +kernel)
theorem x119_45 {x : Nat} : X 119 45 [.ref x] st h Q ↔ X 119 46 [.ref x] (.ref x :: st) h Q := X_n mC_119 dX8_init_45 rfl
theorem x119_46 : X 119 46 L st h Q ↔ X 119 48 L (.int 20 :: st) h Q := X_n mC_119 dX8_init_46 rfl
theorem x119_48 {x : Int32} : X 119 48 L (.int x :: st) h Q ↔ (¬ x < 0 ∧ x < 100000) ∧ X 119 50 L (.ref (hN h) :: st) (nw h x.toNatClampNeg (2, x.toNatClampNeg)) Q := X_newI mC_119 dX8_init_48
theorem x119_50 {a v : Nat} : X 119 50 L (.ref v :: .ref a :: st) h Q ↔ (hS h a = (1, 8) ∧ v ≠ 0) ∧ X 119 53 L st (sR h a 7 v) Q := X_putR mC_119 dX8_init_50 (by decide +kernel)
theorem x119_53 {x : Nat} : X 119 53 [.ref x] st h Q ↔ X 119 54 [.ref x] (.ref x :: st) h Q := X_n mC_119 dX8_init_53 rfl
theorem x119_54 : X 119 54 L st h Q ↔ X 119 56 L (.int 8 :: st) h Q := X_n mC_119 dX8_init_54 rfl
theorem x119_56 {x : Int32} : X 119 56 L (.int x :: st) h Q ↔ (¬ x < 0 ∧ x < 100000) ∧ X 119 58 L (.ref (hN h) :: st) (nw h x.toNatClampNeg (2, x.toNatClampNeg)) Q := X_newI mC_119 dX8_init_56
theorem x119_58 {a v : Nat} : X 119 58 L (.ref v :: .ref a :: st) h Q ↔ (hS h a = (1, 8) ∧ v ≠ 0) ∧ X 119 61 L st (sR h a 9 v) Q := X_putR mC_119 dX8_init_58 (by decide +kernel)
theorem x119_61 {x : Nat} : X 119 61 [.ref x] st h Q ↔ X 119 62 [.ref x] (.ref x :: st) h Q := X_n mC_119 dX8_init_61 rfl
theorem x119_62 : X 119 62 L st h Q ↔ X 119 63 L (.int 5 :: st) h Q := X_n mC_119 dX8_init_62 rfl
theorem x119_63 {x : Int32} : X 119 63 L (.int x :: st) h Q ↔ (¬ x < 0 ∧ x < 100000) ∧ X 119 65 L (.ref (hN h) :: st) (nw h x.toNatClampNeg (2, x.toNatClampNeg)) Q := X_newI mC_119 dX8_init_63
theorem x119_65 {a v : Nat} : X 119 65 L (.ref v :: .ref a :: st) h Q ↔ (hS h a = (1, 8) ∧ v ≠ 0) ∧ X 119 68 L st (sR h a 12 v) Q := X_putR mC_119 dX8_init_65 (by decide +kernel)
theorem x119_68 {x : Nat} : X 119 68 [.ref x] st h Q ↔ X 119 69 [.ref x] (.ref x :: st) h Q := X_n mC_119 dX8_init_68 rfl
theorem x119_69 : X 119 69 L st h Q ↔ X 119 70 L (.int 5 :: st) h Q := X_n mC_119 dX8_init_69 rfl
theorem x119_70 {x : Int32} : X 119 70 L (.int x :: st) h Q ↔ (¬ x < 0 ∧ x < 100000) ∧ X 119 72 L (.ref (hN h) :: st) (nw h x.toNatClampNeg (2, x.toNatClampNeg)) Q := X_newI mC_119 dX8_init_70
theorem x119_72 {a v : Nat} : X 119 72 L (.ref v :: .ref a :: st) h Q ↔ (hS h a = (1, 8) ∧ v ≠ 0) ∧ X 119 75 L st (sR h a 13 v) Q := X_putR mC_119 dX8_init_72 (by decide +kernel)
theorem x119_75 {x : Nat} : X 119 75 [.ref x] st h Q ↔ X 119 76 [.ref x] (.ref x :: st) h Q := X_n mC_119 dX8_init_75 rfl
theorem x119_76 : X 119 76 L st h Q ↔ X 119 79 L (.int 7776 :: st) h Q := X_n mC_119 dX8_init_76 rfl
theorem x119_79 {x : Int32} : X 119 79 L (.int x :: st) h Q ↔ (¬ x < 0 ∧ x < 100000) ∧ X 119 81 L (.ref (hN h) :: st) (nw h x.toNatClampNeg (2, x.toNatClampNeg)) Q := X_newI mC_119 dX8_init_79
theorem x119_81 {a v : Nat} : X 119 81 L (.ref v :: .ref a :: st) h Q ↔ (hS h a = (1, 8) ∧ v ≠ 0) ∧ X 119 84 L st (sR h a 17 v) Q := X_putR mC_119 dX8_init_81 (by decide +kernel)
theorem x119_84 {x : Nat} : X 119 84 [.ref x] st h Q ↔ X 119 85 [.ref x] (.ref x :: st) h Q := X_n mC_119 dX8_init_84 rfl
theorem x119_85 : X 119 85 L st h Q ↔ X 119 87 L (.int 10 :: st) h Q := X_n mC_119 dX8_init_85 rfl
theorem x119_87 {x : Int32} : X 119 87 L (.int x :: st) h Q ↔ (¬ x < 0 ∧ x < 100000) ∧ X 119 89 L (.ref (hN h) :: st) (nw h x.toNatClampNeg (2, x.toNatClampNeg)) Q := X_newI mC_119 dX8_init_87
theorem x119_89 {a v : Nat} : X 119 89 L (.ref v :: .ref a :: st) h Q ↔ (hS h a = (1, 8) ∧ v ≠ 0) ∧ X 119 92 L st (sR h a 18 v) Q := X_putR mC_119 dX8_init_89 (by decide +kernel)
theorem x119_92 {x : Nat} : X 119 92 [.ref x] st h Q ↔ X 119 93 [.ref x] (.ref x :: st) h Q := X_n mC_119 dX8_init_92 rfl
theorem x119_93 {b : Nat} : X 119 93 L [.ref b] h Q ↔ hS h b = (1, 8) ∧ X 130 0 [.ref b, .null] [] h (fun r h' => X 119 96 L (pv r []) h' Q) := X_virt (as := []) (n := 0) (ml := 2) (ck := 8) mC_119 dX8_init_93 (by unfold cOk; decide +kernel) ⟨rfl, rfl, by decide, Nat.le_of_ble_eq_true rfl⟩
theorem x119_96 {x : Nat} : X 119 96 [.ref x] st h Q ↔ X 119 97 [.ref x] (.ref x :: st) h Q := X_n mC_119 dX8_init_96 rfl
theorem x119_97 : X 119 97 L st h Q ↔ X 119 98 L (.int 0 :: st) h Q := X_n mC_119 dX8_init_97 rfl
theorem x119_98 : X 119 98 L st h Q ↔ X 119 100 L (.int 12 :: st) h Q := X_n mC_119 dX8_init_98 rfl
theorem x119_100 : X 119 100 L st h Q ↔ X 119 101 L (.int 3 :: st) h Q := X_n mC_119 dX8_init_100 rfl
theorem x119_101 : X 119 101 L st h Q ↔ X 119 103 L (.int 9 :: st) h Q := X_n mC_119 dX8_init_101 rfl
theorem x119_103 : X 119 103 L st h Q ↔ X 119 104 L (.int 0 :: st) h Q := X_n mC_119 dX8_init_103 rfl
theorem x119_104 {b : Nat} {a0 : Int32} {a1 : Int32} {a2 : Int32} {a3 : Int32} {a4 : Int32} : X 119 104 L [.int a4, .int a3, .int a2, .int a1, .int a0, .ref b] h Q ↔ hS h b = (1, 8) ∧ X 131 0 [.ref b, .int a0, .int a1, .int a2, .int a3, .int a4, .null] [] h (fun r h' => X 119 107 L (pv r []) h' Q) := X_virt (as := [.int a0, .int a1, .int a2, .int a3, .int a4]) (n := 5) (ml := 7) (ck := 8) mC_119 dX8_init_104 (by unfold cOk; decide +kernel) ⟨rfl, rfl, by decide, Nat.le_of_ble_eq_true rfl⟩
theorem x119_107 {x : Nat} : X 119 107 [.ref x] st h Q ↔ X 119 108 [.ref x] (.ref x :: st) h Q := X_n mC_119 dX8_init_107 rfl
theorem x119_108 : X 119 108 L st h Q ↔ X 119 109 L (.int 1 :: st) h Q := X_n mC_119 dX8_init_108 rfl
theorem x119_109 : X 119 109 L st h Q ↔ X 119 111 L (.int 8 :: st) h Q := X_n mC_119 dX8_init_109 rfl
theorem x119_111 : X 119 111 L st h Q ↔ X 119 113 L (.int 7 :: st) h Q := X_n mC_119 dX8_init_111 rfl
theorem x119_113 : X 119 113 L st h Q ↔ X 119 115 L (.int 6 :: st) h Q := X_n mC_119 dX8_init_113 rfl
theorem x119_115 : X 119 115 L st h Q ↔ X 119 116 L (.int 1 :: st) h Q := X_n mC_119 dX8_init_115 rfl
theorem x119_116 {b : Nat} {a0 : Int32} {a1 : Int32} {a2 : Int32} {a3 : Int32} {a4 : Int32} : X 119 116 L [.int a4, .int a3, .int a2, .int a1, .int a0, .ref b] h Q ↔ hS h b = (1, 8) ∧ X 131 0 [.ref b, .int a0, .int a1, .int a2, .int a3, .int a4, .null] [] h (fun r h' => X 119 119 L (pv r []) h' Q) := X_virt (as := [.int a0, .int a1, .int a2, .int a3, .int a4]) (n := 5) (ml := 7) (ck := 8) mC_119 dX8_init_116 (by unfold cOk; decide +kernel) ⟨rfl, rfl, by decide, Nat.le_of_ble_eq_true rfl⟩
theorem x119_119 {x : Nat} : X 119 119 [.ref x] st h Q ↔ X 119 120 [.ref x] (.ref x :: st) h Q := X_n mC_119 dX8_init_119 rfl
theorem x119_120 : X 119 120 L st h Q ↔ X 119 121 L (.int 2 :: st) h Q := X_n mC_119 dX8_init_120 rfl
theorem x119_121 : X 119 121 L st h Q ↔ X 119 123 L (.int 10 :: st) h Q := X_n mC_119 dX8_init_121 rfl
theorem x119_123 : X 119 123 L st h Q ↔ X 119 124 L (.int 0 :: st) h Q := X_n mC_119 dX8_init_123 rfl
theorem x119_124 : X 119 124 L st h Q ↔ X 119 126 L (.int 14 :: st) h Q := X_n mC_119 dX8_init_124 rfl
theorem x119_126 : X 119 126 L st h Q ↔ X 119 127 L (.int 3 :: st) h Q := X_n mC_119 dX8_init_126 rfl
theorem x119_127 {b : Nat} {a0 : Int32} {a1 : Int32} {a2 : Int32} {a3 : Int32} {a4 : Int32} : X 119 127 L [.int a4, .int a3, .int a2, .int a1, .int a0, .ref b] h Q ↔ hS h b = (1, 8) ∧ X 131 0 [.ref b, .int a0, .int a1, .int a2, .int a3, .int a4, .null] [] h (fun r h' => X 119 130 L (pv r []) h' Q) := X_virt (as := [.int a0, .int a1, .int a2, .int a3, .int a4]) (n := 5) (ml := 7) (ck := 8) mC_119 dX8_init_127 (by unfold cOk; decide +kernel) ⟨rfl, rfl, by decide, Nat.le_of_ble_eq_true rfl⟩
theorem x119_130 {x : Nat} : X 119 130 [.ref x] st h Q ↔ X 119 131 [.ref x] (.ref x :: st) h Q := X_n mC_119 dX8_init_130 rfl
theorem x119_131 : X 119 131 L st h Q ↔ X 119 132 L (.int 3 :: st) h Q := X_n mC_119 dX8_init_131 rfl
theorem x119_132 : X 119 132 L st h Q ↔ X 119 134 L (.int 6 :: st) h Q := X_n mC_119 dX8_init_132 rfl
theorem x119_134 : X 119 134 L st h Q ↔ X 119 136 L (.int 10 :: st) h Q := X_n mC_119 dX8_init_134 rfl
theorem x119_136 : X 119 136 L st h Q ↔ X 119 137 L (.int 5 :: st) h Q := X_n mC_119 dX8_init_136 rfl
theorem x119_137 : X 119 137 L st h Q ↔ X 119 138 L (.int 4 :: st) h Q := X_n mC_119 dX8_init_137 rfl
theorem x119_138 {b : Nat} {a0 : Int32} {a1 : Int32} {a2 : Int32} {a3 : Int32} {a4 : Int32} : X 119 138 L [.int a4, .int a3, .int a2, .int a1, .int a0, .ref b] h Q ↔ hS h b = (1, 8) ∧ X 131 0 [.ref b, .int a0, .int a1, .int a2, .int a3, .int a4, .null] [] h (fun r h' => X 119 141 L (pv r []) h' Q) := X_virt (as := [.int a0, .int a1, .int a2, .int a3, .int a4]) (n := 5) (ml := 7) (ck := 8) mC_119 dX8_init_138 (by unfold cOk; decide +kernel) ⟨rfl, rfl, by decide, Nat.le_of_ble_eq_true rfl⟩
theorem x119_141 {x : Nat} : X 119 141 [.ref x] st h Q ↔ X 119 142 [.ref x] (.ref x :: st) h Q := X_n mC_119 dX8_init_141 rfl
theorem x119_142 {a : Nat} : X 119 142 L (.ref a :: st) h Q ↔ (hS h a = (1, 8) ∧ hR h a 3 ≠ 0) ∧ X 119 145 L (.ref (hR h a 3) :: st) h Q := X_getR mC_119 dX8_init_142 (by decide +kernel)
theorem x119_145 : X 119 145 L st h Q ↔ X 119 146 L (.int 4 :: st) h Q := X_n mC_119 dX8_init_145 rfl
theorem x119_146 : X 119 146 L st h Q ↔ X 119 148 L (.int 8 :: st) h Q := X_n mC_119 dX8_init_146 rfl
theorem x119_148 {j x : Int32} {a : Nat} : X 119 148 L (.int x :: .int j :: .ref a :: st) h Q ↔ ibw j (hS h a) ∧ X 119 149 L st (sI h a j.toNatClampNeg x) Q := X_iast mC_119 dX8_init_148
theorem x119_149 {x : Nat} : X 119 149 [.ref x] st h Q ↔ X 119 150 [.ref x] (.ref x :: st) h Q := X_n mC_119 dX8_init_149 rfl
theorem x119_150 {b : Nat} : X 119 150 L [.ref b] h Q ↔ hS h b = (1, 8) ∧ X 136 0 [.ref b, .null] [] h (fun r h' => X 119 153 L (pv r []) h' Q) := X_virt (as := []) (n := 0) (ml := 2) (ck := 8) mC_119 dX8_init_150 (by unfold cOk; decide +kernel) ⟨rfl, rfl, by decide, Nat.le_of_ble_eq_true rfl⟩
theorem x119_153 : X 119 153 L [] h Q ↔ Q none h := X_retV mC_119 dX8_init_153 (by decide +kernel)
theorem mC_120 : mC 120 = cX8_in := rfl
theorem x120_0 {l1 l2 : Value} {x : Int32} : X 120 0 [.int x, l1, l2] st h Q ↔ X 120 1 [.int x, l1, l2] (.int x :: st) h Q := X_n mC_120 dX8_in_0 rfl
theorem x120_1 {l0 l2 : Value} {x : Int32} : X 120 1 [l0, .int x, l2] st h Q ↔ X 120 2 [l0, .int x, l2] (.int x :: st) h Q := X_n mC_120 dX8_in_1 rfl
theorem x120_2 {x y : Int32} : X 120 2 L (.int y :: .int x :: st) h Q ↔ if x < y then X 120 14 L st h Q else X 120 5 L st h Q := X_ilt mC_120 dX8_in_2 (by decide)
theorem x120_5 {l1 l2 : Value} {x : Int32} : X 120 5 [.int x, l1, l2] st h Q ↔ X 120 6 [.int x, l1, l2] (.int x :: st) h Q := X_n mC_120 dX8_in_5 rfl
theorem x120_6 {l0 l1 : Value} {x : Int32} : X 120 6 [l0, l1, .int x] st h Q ↔ X 120 7 [l0, l1, .int x] (.int x :: st) h Q := X_n mC_120 dX8_in_6 rfl
theorem x120_7 {x y : Int32} : X 120 7 L (.int y :: .int x :: st) h Q ↔ if y < x then X 120 14 L st h Q else X 120 10 L st h Q := X_igt mC_120 dX8_in_7 (by decide)
theorem x120_10 : X 120 10 L st h Q ↔ X 120 11 L (.int 1 :: st) h Q := X_n mC_120 dX8_in_10 rfl
theorem x120_11 : X 120 11 L st h Q ↔ X 120 15 L st h Q := X_goto mC_120 dX8_in_11 (by decide)
theorem x120_14 : X 120 14 L st h Q ↔ X 120 15 L (.int 0 :: st) h Q := X_n mC_120 dX8_in_14 rfl
theorem x120_15 {v : Int32} : X 120 15 L [.int v] h Q ↔ (v = 0 ∨ v = 1) ∧ Q (some (.int v)) h := X_retZ mC_120 dX8_in_15 (by decide +kernel)
theorem mC_121 : mC 121 = cX8_isGuest := rfl
theorem x121_0 {l0 : Value} {x : Int32} : X 121 0 [l0, .int x] st h Q ↔ X 121 1 [l0, .int x] (.int x :: st) h Q := X_n mC_121 dX8_isGuest_0 rfl
theorem x121_1 : X 121 1 L st h Q ↔ X 121 2 L (.int 0 :: st) h Q := X_n mC_121 dX8_isGuest_1 rfl
theorem x121_2 {l1 : Value} {x : Nat} : X 121 2 [.ref x, l1] st h Q ↔ X 121 3 [.ref x, l1] (.ref x :: st) h Q := X_n mC_121 dX8_isGuest_2 rfl
theorem x121_3 {a : Nat} : X 121 3 L (.ref a :: st) h Q ↔ (hS h a = (1, 8) ∧ hR h a 2 ≠ 0) ∧ X 121 6 L (.ref (hR h a 2) :: st) h Q := X_getR mC_121 dX8_isGuest_3 (by decide +kernel)
theorem x121_6 : X 121 6 L st h Q ↔ X 121 7 L (.int 0 :: st) h Q := X_n mC_121 dX8_isGuest_6 rfl
theorem x121_7 {j : Int32} {a : Nat} : X 121 7 L (.int j :: .ref a :: st) h Q ↔ ib j (hS h a) ∧ X 121 8 L (.int (hI h a j.toNatClampNeg) :: st) h Q := X_iald mC_121 dX8_isGuest_7
theorem x121_8 : X 121 8 L st h Q ↔ X 121 9 L (.int 1 :: st) h Q := X_n mC_121 dX8_isGuest_8 rfl
theorem x121_9 {x y : Int32} : X 121 9 L (.int y :: .int x :: st) h Q ↔ X 121 10 L (.int (x - y) :: st) h Q := X_n mC_121 dX8_isGuest_9 rfl
theorem x121_10 {a0 : Int32} {a1 : Int32} {a2 : Int32} : X 121 10 L [.int a2, .int a1, .int a0] h Q ↔ X 120 0 [.int a0, .int a1, .int a2] [] h (fun r h' => X 121 13 L (pv r []) h' Q) := X_stat (as := [.int a0, .int a1, .int a2]) (n := 3) (ml := 3) (ck := 8) mC_121 dX8_isGuest_10 (by unfold cOk; decide +kernel) ⟨rfl, rfl, by decide, Nat.le_of_ble_eq_true rfl⟩
theorem x121_13 {v : Int32} : X 121 13 L [.int v] h Q ↔ (v = 0 ∨ v = 1) ∧ Q (some (.int v)) h := X_retZ mC_121 dX8_isGuest_13 (by decide +kernel)
theorem mC_122 : mC 122 = cX8_isBed := rfl
theorem x122_0 {l0 : Value} {x : Int32} : X 122 0 [l0, .int x] st h Q ↔ X 122 1 [l0, .int x] (.int x :: st) h Q := X_n mC_122 dX8_isBed_0 rfl
theorem x122_1 : X 122 1 L st h Q ↔ X 122 2 L (.int 0 :: st) h Q := X_n mC_122 dX8_isBed_1 rfl
theorem x122_2 {l1 : Value} {x : Nat} : X 122 2 [.ref x, l1] st h Q ↔ X 122 3 [.ref x, l1] (.ref x :: st) h Q := X_n mC_122 dX8_isBed_2 rfl
theorem x122_3 {a : Nat} : X 122 3 L (.ref a :: st) h Q ↔ (hS h a = (1, 8) ∧ hR h a 2 ≠ 0) ∧ X 122 6 L (.ref (hR h a 2) :: st) h Q := X_getR mC_122 dX8_isBed_3 (by decide +kernel)
theorem x122_6 : X 122 6 L st h Q ↔ X 122 7 L (.int 1 :: st) h Q := X_n mC_122 dX8_isBed_6 rfl
theorem x122_7 {j : Int32} {a : Nat} : X 122 7 L (.int j :: .ref a :: st) h Q ↔ ib j (hS h a) ∧ X 122 8 L (.int (hI h a j.toNatClampNeg) :: st) h Q := X_iald mC_122 dX8_isBed_7
theorem x122_8 : X 122 8 L st h Q ↔ X 122 9 L (.int 1 :: st) h Q := X_n mC_122 dX8_isBed_8 rfl
theorem x122_9 {x y : Int32} : X 122 9 L (.int y :: .int x :: st) h Q ↔ X 122 10 L (.int (x - y) :: st) h Q := X_n mC_122 dX8_isBed_9 rfl
theorem x122_10 {a0 : Int32} {a1 : Int32} {a2 : Int32} : X 122 10 L [.int a2, .int a1, .int a0] h Q ↔ X 120 0 [.int a0, .int a1, .int a2] [] h (fun r h' => X 122 13 L (pv r []) h' Q) := X_stat (as := [.int a0, .int a1, .int a2]) (n := 3) (ml := 3) (ck := 8) mC_122 dX8_isBed_10 (by unfold cOk; decide +kernel) ⟨rfl, rfl, by decide, Nat.le_of_ble_eq_true rfl⟩
theorem x122_13 {v : Int32} : X 122 13 L [.int v] h Q ↔ (v = 0 ∨ v = 1) ∧ Q (some (.int v)) h := X_retZ mC_122 dX8_isBed_13 (by decide +kernel)
theorem mC_123 : mC 123 = cX8_isWall := rfl
theorem x123_0 {l0 : Value} {x : Int32} : X 123 0 [l0, .int x] st h Q ↔ X 123 1 [l0, .int x] (.int x :: st) h Q := X_n mC_123 dX8_isWall_0 rfl
theorem x123_1 : X 123 1 L st h Q ↔ X 123 2 L (.int 0 :: st) h Q := X_n mC_123 dX8_isWall_1 rfl
theorem x123_2 {l1 : Value} {x : Nat} : X 123 2 [.ref x, l1] st h Q ↔ X 123 3 [.ref x, l1] (.ref x :: st) h Q := X_n mC_123 dX8_isWall_2 rfl
theorem x123_3 {a : Nat} : X 123 3 L (.ref a :: st) h Q ↔ (hS h a = (1, 8) ∧ hR h a 2 ≠ 0) ∧ X 123 6 L (.ref (hR h a 2) :: st) h Q := X_getR mC_123 dX8_isWall_3 (by decide +kernel)
theorem x123_6 : X 123 6 L st h Q ↔ X 123 7 L (.int 1 :: st) h Q := X_n mC_123 dX8_isWall_6 rfl
theorem x123_7 {j : Int32} {a : Nat} : X 123 7 L (.int j :: .ref a :: st) h Q ↔ ib j (hS h a) ∧ X 123 8 L (.int (hI h a j.toNatClampNeg) :: st) h Q := X_iald mC_123 dX8_isWall_7
theorem x123_8 : X 123 8 L st h Q ↔ X 123 9 L (.int 2 :: st) h Q := X_n mC_123 dX8_isWall_8 rfl
theorem x123_9 {x y : Int32} : X 123 9 L (.int y :: .int x :: st) h Q ↔ X 123 10 L (.int (x - y) :: st) h Q := X_n mC_123 dX8_isWall_9 rfl
theorem x123_10 {a0 : Int32} {a1 : Int32} {a2 : Int32} : X 123 10 L [.int a2, .int a1, .int a0] h Q ↔ X 120 0 [.int a0, .int a1, .int a2] [] h (fun r h' => X 123 13 L (pv r []) h' Q) := X_stat (as := [.int a0, .int a1, .int a2]) (n := 3) (ml := 3) (ck := 8) mC_123 dX8_isWall_10 (by unfold cOk; decide +kernel) ⟨rfl, rfl, by decide, Nat.le_of_ble_eq_true rfl⟩
theorem x123_13 {v : Int32} : X 123 13 L [.int v] h Q ↔ (v = 0 ∨ v = 1) ∧ Q (some (.int v)) h := X_retZ mC_123 dX8_isWall_13 (by decide +kernel)
theorem mC_124 : mC 124 = cX8_ones := rfl
theorem x124_0 : X 124 0 L st h Q ↔ X 124 1 L (.int 0 :: st) h Q := X_n mC_124 dX8_ones_0 rfl
theorem x124_1 {l0 l1 l2 : Value} {x : Int32} : X 124 1 [l0, l1, l2] (.int x :: st) h Q ↔ c1 l0 = true ∧ X 124 2 [l0, .int x, l2] st h Q := X_sto (kk := 1) (pc' := 2) (w := .int x) mC_124 dX8_ones_1 rfl (Nat.le_of_ble_eq_true rfl) rfl
theorem x124_2 : X 124 2 L st h Q ↔ X 124 3 L (.int 0 :: st) h Q := X_n mC_124 dX8_ones_2 rfl
theorem x124_3 {l0 l1 l2 : Value} {x : Int32} : X 124 3 [l0, l1, l2] (.int x :: st) h Q ↔ c1 l1 = true ∧ X 124 4 [l0, l1, .int x] st h Q := X_sto (kk := 2) (pc' := 4) (w := .int x) mC_124 dX8_ones_3 rfl (Nat.le_of_ble_eq_true rfl) rfl
theorem x124_4 {l0 l1 : Value} {x : Int32} : X 124 4 [l0, l1, .int x] st h Q ↔ X 124 5 [l0, l1, .int x] (.int x :: st) h Q := X_n mC_124 dX8_ones_4 rfl
theorem x124_5 : X 124 5 L st h Q ↔ X 124 7 L (.int 8 :: st) h Q := X_n mC_124 dX8_ones_5 rfl
theorem x124_7 {x y : Int32} : X 124 7 L (.int y :: .int x :: st) h Q ↔ if x < y then X 124 10 L st h Q else X 124 24 L st h Q := X_ige mC_124 dX8_ones_7 (by decide)
theorem x124_10 {l0 l2 : Value} {x : Int32} : X 124 10 [l0, .int x, l2] st h Q ↔ X 124 11 [l0, .int x, l2] (.int x :: st) h Q := X_n mC_124 dX8_ones_10 rfl
theorem x124_11 {l1 l2 : Value} {x : Int32} : X 124 11 [.int x, l1, l2] st h Q ↔ X 124 12 [.int x, l1, l2] (.int x :: st) h Q := X_n mC_124 dX8_ones_11 rfl
theorem x124_12 {l0 l1 : Value} {x : Int32} : X 124 12 [l0, l1, .int x] st h Q ↔ X 124 13 [l0, l1, .int x] (.int x :: st) h Q := X_n mC_124 dX8_ones_12 rfl
theorem x124_13 {x y : Int32} : X 124 13 L (.int y :: .int x :: st) h Q ↔ X 124 14 L (.int (x >>> (y &&& 31)) :: st) h Q := X_n mC_124 dX8_ones_13 rfl
theorem x124_14 : X 124 14 L st h Q ↔ X 124 15 L (.int 1 :: st) h Q := X_n mC_124 dX8_ones_14 rfl
theorem x124_15 {x y : Int32} : X 124 15 L (.int y :: .int x :: st) h Q ↔ X 124 16 L (.int (x &&& y) :: st) h Q := X_n mC_124 dX8_ones_15 rfl
theorem x124_16 {x y : Int32} : X 124 16 L (.int y :: .int x :: st) h Q ↔ X 124 17 L (.int (x + y) :: st) h Q := X_n mC_124 dX8_ones_16 rfl
theorem x124_17 {l0 l1 l2 : Value} {x : Int32} : X 124 17 [l0, l1, l2] (.int x :: st) h Q ↔ c1 l0 = true ∧ X 124 18 [l0, .int x, l2] st h Q := X_sto (kk := 1) (pc' := 18) (w := .int x) mC_124 dX8_ones_17 rfl (Nat.le_of_ble_eq_true rfl) rfl
theorem x124_18 {l0 l1 : Value} {x : Int32} : X 124 18 [l0, l1, .int x] st h Q ↔ c1 l1 = true ∧ X 124 21 [l0, l1, .int (x + 1)] st h Q := X_inc (pc' := 21) (x := x) mC_124 dX8_ones_18 rfl rfl rfl
theorem x124_21 : X 124 21 L st h Q ↔ X 124 4 L st h Q := X_goto mC_124 dX8_ones_21 (by decide)
theorem x124_24 {l0 l2 : Value} {x : Int32} : X 124 24 [l0, .int x, l2] st h Q ↔ X 124 25 [l0, .int x, l2] (.int x :: st) h Q := X_n mC_124 dX8_ones_24 rfl
theorem x124_25 {v : Int32} : X 124 25 L [.int v] h Q ↔ Q (some (.int v)) h := X_ret mC_124 dX8_ones_25 (by decide +kernel)
theorem mC_125 : mC 125 = cX8_write := rfl
theorem x125_0 {l0 : Value} {x : Int32} : X 125 0 [l0, .int x] st h Q ↔ X 125 1 [l0, .int x] (.int x :: st) h Q := X_n mC_125 dX8_write_0 rfl
theorem x125_1 : X 125 1 L st h Q ↔ X 125 3 L (.int 32 :: st) h Q := X_n mC_125 dX8_write_1 rfl
theorem x125_3 : X 125 3 L st h Q ↔ X 125 5 L (.int 126 :: st) h Q := X_n mC_125 dX8_write_3 rfl
theorem x125_5 {a0 : Int32} {a1 : Int32} {a2 : Int32} : X 125 5 L [.int a2, .int a1, .int a0] h Q ↔ X 120 0 [.int a0, .int a1, .int a2] [] h (fun r h' => X 125 8 L (pv r []) h' Q) := X_stat (as := [.int a0, .int a1, .int a2]) (n := 3) (ml := 3) (ck := 8) mC_125 dX8_write_5 (by unfold cOk; decide +kernel) ⟨rfl, rfl, by decide, Nat.le_of_ble_eq_true rfl⟩
theorem x125_8 {x : Int32} : X 125 8 L (.int x :: st) h Q ↔ if x = 0 then X 125 11 L st h Q else X 125 13 L st h Q := X_zne mC_125 dX8_write_8 (by decide)
theorem x125_11 : X 125 11 L st h Q ↔ X 125 12 L (.int (-1) :: st) h Q := X_n mC_125 dX8_write_11 rfl
theorem x125_12 {v : Int32} : X 125 12 L [.int v] h Q ↔ Q (some (.int v)) h := X_ret mC_125 dX8_write_12 (by decide +kernel)
theorem x125_13 {l1 : Value} {x : Nat} : X 125 13 [.ref x, l1] st h Q ↔ X 125 14 [.ref x, l1] (.ref x :: st) h Q := X_n mC_125 dX8_write_13 rfl
theorem x125_14 {a : Nat} : X 125 14 L (.ref a :: st) h Q ↔ hS h a = (1, 8) ∧ X 125 17 L (.int (hI h a 1) :: st) h Q := X_getI mC_125 dX8_write_14 (by decide +kernel)
theorem x125_17 : X 125 17 L st h Q ↔ X 125 20 L (.int 200 :: st) h Q := X_n mC_125 dX8_write_17 rfl
theorem x125_20 {x y : Int32} : X 125 20 L (.int y :: .int x :: st) h Q ↔ if x = y then X 125 23 L st h Q else X 125 26 L st h Q := X_ine mC_125 dX8_write_20 (by decide)
theorem x125_23 : X 125 23 L st h Q ↔ X 125 25 L (.int (-3) :: st) h Q := X_n mC_125 dX8_write_23 rfl
theorem x125_25 {v : Int32} : X 125 25 L [.int v] h Q ↔ Q (some (.int v)) h := X_ret mC_125 dX8_write_25 (by decide +kernel)
theorem x125_26 {l1 : Value} {x : Nat} : X 125 26 [.ref x, l1] st h Q ↔ X 125 27 [.ref x, l1] (.ref x :: st) h Q := X_n mC_125 dX8_write_26 rfl
theorem x125_27 {a : Nat} : X 125 27 L (.ref a :: st) h Q ↔ (hS h a = (1, 8) ∧ hR h a 0 ≠ 0) ∧ X 125 30 L (.ref (hR h a 0) :: st) h Q := X_getR mC_125 dX8_write_27 (by decide +kernel)
theorem x125_30 {l1 : Value} {x : Nat} : X 125 30 [.ref x, l1] st h Q ↔ X 125 31 [.ref x, l1] (.ref x :: st) h Q := X_n mC_125 dX8_write_30 rfl
theorem x125_31 {a : Nat} : X 125 31 L (.ref a :: st) h Q ↔ hS h a = (1, 8) ∧ X 125 34 L (.int (hI h a 1) :: st) h Q := X_getI mC_125 dX8_write_31 (by decide +kernel)
theorem x125_34 {l0 : Value} {x : Int32} : X 125 34 [l0, .int x] st h Q ↔ X 125 35 [l0, .int x] (.int x :: st) h Q := X_n mC_125 dX8_write_34 rfl
theorem x125_35 {j x : Int32} {a : Nat} : X 125 35 L (.int x :: .int j :: .ref a :: st) h Q ↔ ibw j (hS h a) ∧ X 125 36 L st (sI h a j.toNatClampNeg x) Q := X_iast mC_125 dX8_write_35
theorem x125_36 {l1 : Value} {x : Nat} : X 125 36 [.ref x, l1] st h Q ↔ X 125 37 [.ref x, l1] (.ref x :: st) h Q := X_n mC_125 dX8_write_36 rfl
theorem x125_37 {x : Nat} : X 125 37 L (.ref x :: st) h Q ↔ X 125 38 L (.ref x :: .ref x :: st) h Q := X_n mC_125 dX8_write_37 rfl
theorem x125_38 {a : Nat} : X 125 38 L (.ref a :: st) h Q ↔ hS h a = (1, 8) ∧ X 125 41 L (.int (hI h a 1) :: st) h Q := X_getI mC_125 dX8_write_38 (by decide +kernel)
theorem x125_41 : X 125 41 L st h Q ↔ X 125 42 L (.int 1 :: st) h Q := X_n mC_125 dX8_write_41 rfl
theorem x125_42 {x y : Int32} : X 125 42 L (.int y :: .int x :: st) h Q ↔ X 125 43 L (.int (x + y) :: st) h Q := X_n mC_125 dX8_write_42 rfl
theorem x125_43 {a : Nat} {v : Int32} : X 125 43 L (.int v :: .ref a :: st) h Q ↔ hS h a = (1, 8) ∧ X 125 46 L st (sI h a 1 v) Q := X_putI mC_125 dX8_write_43 (by decide +kernel)
theorem x125_46 {l1 : Value} {x : Nat} : X 125 46 [.ref x, l1] st h Q ↔ X 125 47 [.ref x, l1] (.ref x :: st) h Q := X_n mC_125 dX8_write_46 rfl
theorem x125_47 {a : Nat} : X 125 47 L (.ref a :: st) h Q ↔ hS h a = (1, 8) ∧ X 125 50 L (.int (hI h a 1) :: st) h Q := X_getI mC_125 dX8_write_47 (by decide +kernel)
theorem x125_50 {v : Int32} : X 125 50 L [.int v] h Q ↔ Q (some (.int v)) h := X_ret mC_125 dX8_write_50 (by decide +kernel)
theorem mC_126 : mC 126 = cX8_wipe := rfl
theorem x126_0 {l1 : Value} {x : Nat} : X 126 0 [.ref x, l1] st h Q ↔ X 126 1 [.ref x, l1] (.ref x :: st) h Q := X_n mC_126 dX8_wipe_0 rfl
theorem x126_1 {a : Nat} : X 126 1 L (.ref a :: st) h Q ↔ hS h a = (1, 8) ∧ X 126 4 L (.int (hI h a 1) :: st) h Q := X_getI mC_126 dX8_wipe_1 (by decide +kernel)
theorem x126_4 {l0 l1 : Value} {x : Int32} : X 126 4 [l0, l1] (.int x :: st) h Q ↔ c1 l0 = true ∧ X 126 5 [l0, .int x] st h Q := X_sto (kk := 1) (pc' := 5) (w := .int x) mC_126 dX8_wipe_4 rfl (Nat.le_of_ble_eq_true rfl) rfl
theorem x126_5 {l1 : Value} {x : Nat} : X 126 5 [.ref x, l1] st h Q ↔ X 126 6 [.ref x, l1] (.ref x :: st) h Q := X_n mC_126 dX8_wipe_5 rfl
theorem x126_6 : X 126 6 L st h Q ↔ X 126 7 L (.int 0 :: st) h Q := X_n mC_126 dX8_wipe_6 rfl
theorem x126_7 {a : Nat} {v : Int32} : X 126 7 L (.int v :: .ref a :: st) h Q ↔ hS h a = (1, 8) ∧ X 126 10 L st (sI h a 1 v) Q := X_putI mC_126 dX8_wipe_7 (by decide +kernel)
theorem x126_10 {l0 : Value} {x : Int32} : X 126 10 [l0, .int x] st h Q ↔ X 126 11 [l0, .int x] (.int x :: st) h Q := X_n mC_126 dX8_wipe_10 rfl
theorem x126_11 {v : Int32} : X 126 11 L [.int v] h Q ↔ Q (some (.int v)) h := X_ret mC_126 dX8_wipe_11 (by decide +kernel)
theorem mC_127 : mC 127 = cX8_letterAt := rfl
theorem x127_0 {l0 : Value} {x : Int32} : X 127 0 [l0, .int x] st h Q ↔ X 127 1 [l0, .int x] (.int x :: st) h Q := X_n mC_127 dX8_letterAt_0 rfl
theorem x127_1 {l1 : Value} {x : Nat} : X 127 1 [.ref x, l1] st h Q ↔ X 127 2 [.ref x, l1] (.ref x :: st) h Q := X_n mC_127 dX8_letterAt_1 rfl
theorem x127_2 {a : Nat} : X 127 2 L (.ref a :: st) h Q ↔ hS h a = (1, 8) ∧ X 127 5 L (.int (hI h a 1) :: st) h Q := X_getI mC_127 dX8_letterAt_2 (by decide +kernel)
theorem x127_5 {x y : Int32} : X 127 5 L (.int y :: .int x :: st) h Q ↔ if x < y then X 127 8 L st h Q else X 127 17 L st h Q := X_ige mC_127 dX8_letterAt_5 (by decide)
theorem x127_8 {l1 : Value} {x : Nat} : X 127 8 [.ref x, l1] st h Q ↔ X 127 9 [.ref x, l1] (.ref x :: st) h Q := X_n mC_127 dX8_letterAt_8 rfl
theorem x127_9 {a : Nat} : X 127 9 L (.ref a :: st) h Q ↔ (hS h a = (1, 8) ∧ hR h a 0 ≠ 0) ∧ X 127 12 L (.ref (hR h a 0) :: st) h Q := X_getR mC_127 dX8_letterAt_9 (by decide +kernel)
theorem x127_12 {l0 : Value} {x : Int32} : X 127 12 [l0, .int x] st h Q ↔ X 127 13 [l0, .int x] (.int x :: st) h Q := X_n mC_127 dX8_letterAt_12 rfl
theorem x127_13 {j : Int32} {a : Nat} : X 127 13 L (.int j :: .ref a :: st) h Q ↔ ib j (hS h a) ∧ X 127 14 L (.int (hI h a j.toNatClampNeg) :: st) h Q := X_iald mC_127 dX8_letterAt_13
theorem x127_14 : X 127 14 L st h Q ↔ X 127 18 L st h Q := X_goto mC_127 dX8_letterAt_14 (by decide)
theorem x127_17 : X 127 17 L st h Q ↔ X 127 18 L (.int (-1) :: st) h Q := X_n mC_127 dX8_letterAt_17 rfl
theorem x127_18 {v : Int32} : X 127 18 L [.int v] h Q ↔ Q (some (.int v)) h := X_ret mC_127 dX8_letterAt_18 (by decide +kernel)
theorem mC_128 : mC 128 = cX8_isFigure := rfl
theorem x128_0 {x : Int32} : X 128 0 [.int x] st h Q ↔ X 128 1 [.int x] (.int x :: st) h Q := X_n mC_128 dX8_isFigure_0 rfl
theorem x128_1 : X 128 1 L st h Q ↔ X 128 3 L (.int 48 :: st) h Q := X_n mC_128 dX8_isFigure_1 rfl
theorem x128_3 : X 128 3 L st h Q ↔ X 128 5 L (.int 57 :: st) h Q := X_n mC_128 dX8_isFigure_3 rfl
theorem x128_5 {a0 : Int32} {a1 : Int32} {a2 : Int32} : X 128 5 L [.int a2, .int a1, .int a0] h Q ↔ X 120 0 [.int a0, .int a1, .int a2] [] h (fun r h' => X 128 8 L (pv r []) h' Q) := X_stat (as := [.int a0, .int a1, .int a2]) (n := 3) (ml := 3) (ck := 8) mC_128 dX8_isFigure_5 (by unfold cOk; decide +kernel) ⟨rfl, rfl, by decide, Nat.le_of_ble_eq_true rfl⟩
theorem x128_8 {v : Int32} : X 128 8 L [.int v] h Q ↔ (v = 0 ∨ v = 1) ∧ Q (some (.int v)) h := X_retZ mC_128 dX8_isFigure_8 (by decide +kernel)
theorem mC_129 : mC 129 = cX8_number := rfl
theorem x129_0 {l1 l2 l3 l4 l5 : Value} {x : Nat} : X 129 0 [.ref x, l1, l2, l3, l4, l5] st h Q ↔ X 129 1 [.ref x, l1, l2, l3, l4, l5] (.ref x :: st) h Q := X_n mC_129 dX8_number_0 rfl
theorem x129_1 {l1 l2 l3 l4 l5 : Value} {x : Nat} : X 129 1 [.ref x, l1, l2, l3, l4, l5] st h Q ↔ X 129 2 [.ref x, l1, l2, l3, l4, l5] (.ref x :: st) h Q := X_n mC_129 dX8_number_1 rfl
theorem x129_2 {a : Nat} : X 129 2 L (.ref a :: st) h Q ↔ hS h a = (1, 8) ∧ X 129 5 L (.int (hI h a 11) :: st) h Q := X_getI mC_129 dX8_number_2 (by decide +kernel)
theorem x129_5 {b : Nat} {a0 : Int32} : X 129 5 L [.int a0, .ref b] h Q ↔ hS h b = (1, 8) ∧ X 127 0 [.ref b, .int a0] [] h (fun r h' => X 129 8 L (pv r []) h' Q) := X_virt (as := [.int a0]) (n := 1) (ml := 2) (ck := 8) mC_129 dX8_number_5 (by unfold cOk; decide +kernel) ⟨rfl, rfl, by decide, Nat.le_of_ble_eq_true rfl⟩
theorem x129_8 {a0 : Int32} : X 129 8 L [.int a0] h Q ↔ X 128 0 [.int a0] [] h (fun r h' => X 129 11 L (pv r []) h' Q) := X_stat (as := [.int a0]) (n := 1) (ml := 1) (ck := 8) mC_129 dX8_number_8 (by unfold cOk; decide +kernel) ⟨rfl, rfl, by decide, Nat.le_of_ble_eq_true rfl⟩
theorem x129_11 {x : Int32} : X 129 11 L (.int x :: st) h Q ↔ if x = 0 then X 129 14 L st h Q else X 129 16 L st h Q := X_zne mC_129 dX8_number_11 (by decide)
theorem x129_14 : X 129 14 L st h Q ↔ X 129 15 L (.int (-1) :: st) h Q := X_n mC_129 dX8_number_14 rfl
theorem x129_15 {v : Int32} : X 129 15 L [.int v] h Q ↔ Q (some (.int v)) h := X_ret mC_129 dX8_number_15 (by decide +kernel)
theorem x129_16 {l1 l2 l3 l4 l5 : Value} {x : Nat} : X 129 16 [.ref x, l1, l2, l3, l4, l5] st h Q ↔ X 129 17 [.ref x, l1, l2, l3, l4, l5] (.ref x :: st) h Q := X_n mC_129 dX8_number_16 rfl
theorem x129_17 {l1 l2 l3 l4 l5 : Value} {x : Nat} : X 129 17 [.ref x, l1, l2, l3, l4, l5] st h Q ↔ X 129 18 [.ref x, l1, l2, l3, l4, l5] (.ref x :: st) h Q := X_n mC_129 dX8_number_17 rfl
theorem x129_18 {a : Nat} : X 129 18 L (.ref a :: st) h Q ↔ hS h a = (1, 8) ∧ X 129 21 L (.int (hI h a 11) :: st) h Q := X_getI mC_129 dX8_number_18 (by decide +kernel)
theorem x129_21 {b : Nat} {a0 : Int32} : X 129 21 L [.int a0, .ref b] h Q ↔ hS h b = (1, 8) ∧ X 127 0 [.ref b, .int a0] [] h (fun r h' => X 129 24 L (pv r []) h' Q) := X_virt (as := [.int a0]) (n := 1) (ml := 2) (ck := 8) mC_129 dX8_number_21 (by unfold cOk; decide +kernel) ⟨rfl, rfl, by decide, Nat.le_of_ble_eq_true rfl⟩
theorem x129_24 : X 129 24 L st h Q ↔ X 129 26 L (.int 48 :: st) h Q := X_n mC_129 dX8_number_24 rfl
theorem x129_26 {x y : Int32} : X 129 26 L (.int y :: .int x :: st) h Q ↔ X 129 27 L (.int (x - y) :: st) h Q := X_n mC_129 dX8_number_26 rfl
theorem x129_27 {l0 l1 l2 l3 l4 l5 : Value} {x : Int32} : X 129 27 [l0, l1, l2, l3, l4, l5] (.int x :: st) h Q ↔ c1 l3 = true ∧ X 129 29 [l0, l1, l2, l3, .int x, l5] st h Q := X_sto (kk := 4) (pc' := 29) (w := .int x) mC_129 dX8_number_27 rfl (Nat.le_of_ble_eq_true rfl) rfl
theorem x129_29 {l1 l2 l3 l4 l5 : Value} {x : Nat} : X 129 29 [.ref x, l1, l2, l3, l4, l5] st h Q ↔ X 129 30 [.ref x, l1, l2, l3, l4, l5] (.ref x :: st) h Q := X_n mC_129 dX8_number_29 rfl
theorem x129_30 {x : Nat} : X 129 30 L (.ref x :: st) h Q ↔ X 129 31 L (.ref x :: .ref x :: st) h Q := X_n mC_129 dX8_number_30 rfl
theorem x129_31 {a : Nat} : X 129 31 L (.ref a :: st) h Q ↔ hS h a = (1, 8) ∧ X 129 34 L (.int (hI h a 11) :: st) h Q := X_getI mC_129 dX8_number_31 (by decide +kernel)
theorem x129_34 : X 129 34 L st h Q ↔ X 129 35 L (.int 1 :: st) h Q := X_n mC_129 dX8_number_34 rfl
theorem x129_35 {x y : Int32} : X 129 35 L (.int y :: .int x :: st) h Q ↔ X 129 36 L (.int (x + y) :: st) h Q := X_n mC_129 dX8_number_35 rfl
theorem x129_36 {a : Nat} {v : Int32} : X 129 36 L (.int v :: .ref a :: st) h Q ↔ hS h a = (1, 8) ∧ X 129 39 L st (sI h a 11 v) Q := X_putI mC_129 dX8_number_36 (by decide +kernel)
theorem x129_39 {l1 l2 l3 l4 l5 : Value} {x : Nat} : X 129 39 [.ref x, l1, l2, l3, l4, l5] st h Q ↔ X 129 40 [.ref x, l1, l2, l3, l4, l5] (.ref x :: st) h Q := X_n mC_129 dX8_number_39 rfl
theorem x129_40 {l1 l2 l3 l4 l5 : Value} {x : Nat} : X 129 40 [.ref x, l1, l2, l3, l4, l5] st h Q ↔ X 129 41 [.ref x, l1, l2, l3, l4, l5] (.ref x :: st) h Q := X_n mC_129 dX8_number_40 rfl
theorem x129_41 {a : Nat} : X 129 41 L (.ref a :: st) h Q ↔ hS h a = (1, 8) ∧ X 129 44 L (.int (hI h a 11) :: st) h Q := X_getI mC_129 dX8_number_41 (by decide +kernel)
theorem x129_44 {b : Nat} {a0 : Int32} : X 129 44 L [.int a0, .ref b] h Q ↔ hS h b = (1, 8) ∧ X 127 0 [.ref b, .int a0] [] h (fun r h' => X 129 47 L (pv r []) h' Q) := X_virt (as := [.int a0]) (n := 1) (ml := 2) (ck := 8) mC_129 dX8_number_44 (by unfold cOk; decide +kernel) ⟨rfl, rfl, by decide, Nat.le_of_ble_eq_true rfl⟩
theorem x129_47 {a0 : Int32} : X 129 47 L [.int a0] h Q ↔ X 128 0 [.int a0] [] h (fun r h' => X 129 50 L (pv r []) h' Q) := X_stat (as := [.int a0]) (n := 1) (ml := 1) (ck := 8) mC_129 dX8_number_47 (by unfold cOk; decide +kernel) ⟨rfl, rfl, by decide, Nat.le_of_ble_eq_true rfl⟩
theorem x129_50 {x : Int32} : X 129 50 L (.int x :: st) h Q ↔ if x = 0 then X 129 82 L st h Q else X 129 53 L st h Q := X_zeq mC_129 dX8_number_50 (by decide)
theorem x129_53 : X 129 53 L st h Q ↔ X 129 55 L (.int 10 :: st) h Q := X_n mC_129 dX8_number_53 rfl
theorem x129_55 {l0 l1 l2 l3 l5 : Value} {x : Int32} : X 129 55 [l0, l1, l2, l3, .int x, l5] st h Q ↔ X 129 57 [l0, l1, l2, l3, .int x, l5] (.int x :: st) h Q := X_n mC_129 dX8_number_55 rfl
theorem x129_57 {x y : Int32} : X 129 57 L (.int y :: .int x :: st) h Q ↔ X 129 58 L (.int (x * y) :: st) h Q := X_n mC_129 dX8_number_57 rfl
theorem x129_58 {l1 l2 l3 l4 l5 : Value} {x : Nat} : X 129 58 [.ref x, l1, l2, l3, l4, l5] st h Q ↔ X 129 59 [.ref x, l1, l2, l3, l4, l5] (.ref x :: st) h Q := X_n mC_129 dX8_number_58 rfl
theorem x129_59 {l1 l2 l3 l4 l5 : Value} {x : Nat} : X 129 59 [.ref x, l1, l2, l3, l4, l5] st h Q ↔ X 129 60 [.ref x, l1, l2, l3, l4, l5] (.ref x :: st) h Q := X_n mC_129 dX8_number_59 rfl
theorem x129_60 {a : Nat} : X 129 60 L (.ref a :: st) h Q ↔ hS h a = (1, 8) ∧ X 129 63 L (.int (hI h a 11) :: st) h Q := X_getI mC_129 dX8_number_60 (by decide +kernel)
theorem x129_63 {b : Nat} {a0 : Int32} {w0 : Value} : X 129 63 L [.int a0, .ref b, w0] h Q ↔ hS h b = (1, 8) ∧ X 127 0 [.ref b, .int a0] [] h (fun r h' => X 129 66 L (pv r [w0]) h' Q) := X_virt (as := [.int a0]) (n := 1) (ml := 2) (ck := 8) mC_129 dX8_number_63 (by unfold cOk; decide +kernel) ⟨rfl, rfl, by decide, Nat.le_of_ble_eq_true rfl⟩
theorem x129_66 {x y : Int32} : X 129 66 L (.int y :: .int x :: st) h Q ↔ X 129 67 L (.int (x + y) :: st) h Q := X_n mC_129 dX8_number_66 rfl
theorem x129_67 : X 129 67 L st h Q ↔ X 129 69 L (.int 48 :: st) h Q := X_n mC_129 dX8_number_67 rfl
theorem x129_69 {x y : Int32} : X 129 69 L (.int y :: .int x :: st) h Q ↔ X 129 70 L (.int (x - y) :: st) h Q := X_n mC_129 dX8_number_69 rfl
theorem x129_70 {l0 l1 l2 l3 l4 l5 : Value} {x : Int32} : X 129 70 [l0, l1, l2, l3, l4, l5] (.int x :: st) h Q ↔ c1 l3 = true ∧ X 129 72 [l0, l1, l2, l3, .int x, l5] st h Q := X_sto (kk := 4) (pc' := 72) (w := .int x) mC_129 dX8_number_70 rfl (Nat.le_of_ble_eq_true rfl) rfl
theorem x129_72 {l1 l2 l3 l4 l5 : Value} {x : Nat} : X 129 72 [.ref x, l1, l2, l3, l4, l5] st h Q ↔ X 129 73 [.ref x, l1, l2, l3, l4, l5] (.ref x :: st) h Q := X_n mC_129 dX8_number_72 rfl
theorem x129_73 {x : Nat} : X 129 73 L (.ref x :: st) h Q ↔ X 129 74 L (.ref x :: .ref x :: st) h Q := X_n mC_129 dX8_number_73 rfl
theorem x129_74 {a : Nat} : X 129 74 L (.ref a :: st) h Q ↔ hS h a = (1, 8) ∧ X 129 77 L (.int (hI h a 11) :: st) h Q := X_getI mC_129 dX8_number_74 (by decide +kernel)
theorem x129_77 : X 129 77 L st h Q ↔ X 129 78 L (.int 1 :: st) h Q := X_n mC_129 dX8_number_77 rfl
theorem x129_78 {x y : Int32} : X 129 78 L (.int y :: .int x :: st) h Q ↔ X 129 79 L (.int (x + y) :: st) h Q := X_n mC_129 dX8_number_78 rfl
theorem x129_79 {a : Nat} {v : Int32} : X 129 79 L (.int v :: .ref a :: st) h Q ↔ hS h a = (1, 8) ∧ X 129 82 L st (sI h a 11 v) Q := X_putI mC_129 dX8_number_79 (by decide +kernel)
theorem x129_82 {l1 l2 l3 l4 l5 : Value} {x : Nat} : X 129 82 [.ref x, l1, l2, l3, l4, l5] st h Q ↔ X 129 83 [.ref x, l1, l2, l3, l4, l5] (.ref x :: st) h Q := X_n mC_129 dX8_number_82 rfl
theorem x129_83 {l1 l2 l3 l4 l5 : Value} {x : Nat} : X 129 83 [.ref x, l1, l2, l3, l4, l5] st h Q ↔ X 129 84 [.ref x, l1, l2, l3, l4, l5] (.ref x :: st) h Q := X_n mC_129 dX8_number_83 rfl
theorem x129_84 {a : Nat} : X 129 84 L (.ref a :: st) h Q ↔ hS h a = (1, 8) ∧ X 129 87 L (.int (hI h a 11) :: st) h Q := X_getI mC_129 dX8_number_84 (by decide +kernel)
theorem x129_87 {b : Nat} {a0 : Int32} : X 129 87 L [.int a0, .ref b] h Q ↔ hS h b = (1, 8) ∧ X 127 0 [.ref b, .int a0] [] h (fun r h' => X 129 90 L (pv r []) h' Q) := X_virt (as := [.int a0]) (n := 1) (ml := 2) (ck := 8) mC_129 dX8_number_87 (by unfold cOk; decide +kernel) ⟨rfl, rfl, by decide, Nat.le_of_ble_eq_true rfl⟩
theorem x129_90 {l0 l1 l2 l4 l5 : Value} {x : Int32} : X 129 90 [l0, l1, l2, .int x, l4, l5] st h Q ↔ X 129 91 [l0, l1, l2, .int x, l4, l5] (.int x :: st) h Q := X_n mC_129 dX8_number_90 rfl
theorem x129_91 {x y : Int32} : X 129 91 L (.int y :: .int x :: st) h Q ↔ if x = y then X 129 94 L st h Q else X 129 108 L st h Q := X_ine mC_129 dX8_number_91 (by decide)
theorem x129_94 {l0 l1 l2 l3 l5 : Value} {x : Int32} : X 129 94 [l0, l1, l2, l3, .int x, l5] st h Q ↔ X 129 96 [l0, l1, l2, l3, .int x, l5] (.int x :: st) h Q := X_n mC_129 dX8_number_94 rfl
theorem x129_96 {l0 l2 l3 l4 l5 : Value} {x : Int32} : X 129 96 [l0, .int x, l2, l3, l4, l5] st h Q ↔ X 129 97 [l0, .int x, l2, l3, l4, l5] (.int x :: st) h Q := X_n mC_129 dX8_number_96 rfl
theorem x129_97 {l0 l1 l3 l4 l5 : Value} {x : Int32} : X 129 97 [l0, l1, .int x, l3, l4, l5] st h Q ↔ X 129 98 [l0, l1, .int x, l3, l4, l5] (.int x :: st) h Q := X_n mC_129 dX8_number_97 rfl
theorem x129_98 {a0 : Int32} {a1 : Int32} {a2 : Int32} : X 129 98 L [.int a2, .int a1, .int a0] h Q ↔ X 120 0 [.int a0, .int a1, .int a2] [] h (fun r h' => X 129 101 L (pv r []) h' Q) := X_stat (as := [.int a0, .int a1, .int a2]) (n := 3) (ml := 3) (ck := 8) mC_129 dX8_number_98 (by unfold cOk; decide +kernel) ⟨rfl, rfl, by decide, Nat.le_of_ble_eq_true rfl⟩
theorem x129_101 {x : Int32} : X 129 101 L (.int x :: st) h Q ↔ if x = 0 then X 129 108 L st h Q else X 129 104 L st h Q := X_zeq mC_129 dX8_number_101 (by decide)
theorem x129_104 : X 129 104 L st h Q ↔ X 129 105 L (.int 1 :: st) h Q := X_n mC_129 dX8_number_104 rfl
theorem x129_105 : X 129 105 L st h Q ↔ X 129 109 L st h Q := X_goto mC_129 dX8_number_105 (by decide)
theorem x129_108 : X 129 108 L st h Q ↔ X 129 109 L (.int 0 :: st) h Q := X_n mC_129 dX8_number_108 rfl
theorem x129_109 {l0 l1 l2 l3 l4 l5 : Value} {x : Int32} : X 129 109 [l0, l1, l2, l3, l4, l5] (.int x :: st) h Q ↔ c1 l4 = true ∧ X 129 111 [l0, l1, l2, l3, l4, .int x] st h Q := X_sto (kk := 5) (pc' := 111) (w := .int x) mC_129 dX8_number_109 rfl (Nat.le_of_ble_eq_true rfl) rfl
theorem x129_111 {l1 l2 l3 l4 l5 : Value} {x : Nat} : X 129 111 [.ref x, l1, l2, l3, l4, l5] st h Q ↔ X 129 112 [.ref x, l1, l2, l3, l4, l5] (.ref x :: st) h Q := X_n mC_129 dX8_number_111 rfl
theorem x129_112 {x : Nat} : X 129 112 L (.ref x :: st) h Q ↔ X 129 113 L (.ref x :: .ref x :: st) h Q := X_n mC_129 dX8_number_112 rfl
theorem x129_113 {a : Nat} : X 129 113 L (.ref a :: st) h Q ↔ hS h a = (1, 8) ∧ X 129 116 L (.int (hI h a 11) :: st) h Q := X_getI mC_129 dX8_number_113 (by decide +kernel)
theorem x129_116 : X 129 116 L st h Q ↔ X 129 117 L (.int 1 :: st) h Q := X_n mC_129 dX8_number_116 rfl
theorem x129_117 {x y : Int32} : X 129 117 L (.int y :: .int x :: st) h Q ↔ X 129 118 L (.int (x + y) :: st) h Q := X_n mC_129 dX8_number_117 rfl
theorem x129_118 {a : Nat} {v : Int32} : X 129 118 L (.int v :: .ref a :: st) h Q ↔ hS h a = (1, 8) ∧ X 129 121 L st (sI h a 11 v) Q := X_putI mC_129 dX8_number_118 (by decide +kernel)
theorem x129_121 {l0 l1 l2 l3 l4 : Value} {x : Int32} : X 129 121 [l0, l1, l2, l3, l4, .int x] st h Q ↔ X 129 123 [l0, l1, l2, l3, l4, .int x] (.int x :: st) h Q := X_n mC_129 dX8_number_121 rfl
theorem x129_123 {x : Int32} : X 129 123 L (.int x :: st) h Q ↔ if x = 0 then X 129 131 L st h Q else X 129 126 L st h Q := X_zeq mC_129 dX8_number_123 (by decide)
theorem x129_126 {l0 l1 l2 l3 l5 : Value} {x : Int32} : X 129 126 [l0, l1, l2, l3, .int x, l5] st h Q ↔ X 129 128 [l0, l1, l2, l3, .int x, l5] (.int x :: st) h Q := X_n mC_129 dX8_number_126 rfl
theorem x129_128 : X 129 128 L st h Q ↔ X 129 132 L st h Q := X_goto mC_129 dX8_number_128 (by decide)
theorem x129_131 : X 129 131 L st h Q ↔ X 129 132 L (.int (-1) :: st) h Q := X_n mC_129 dX8_number_131 rfl
theorem x129_132 {v : Int32} : X 129 132 L [.int v] h Q ↔ Q (some (.int v)) h := X_ret mC_129 dX8_number_132 (by decide +kernel)
theorem mC_130 : mC 130 = cX8_begins := rfl
theorem x130_0 : X 130 0 L st h Q ↔ X 130 1 L (.int 0 :: st) h Q := X_n mC_130 dX8_begins_0 rfl
theorem x130_1 {l0 l1 : Value} {x : Int32} : X 130 1 [l0, l1] (.int x :: st) h Q ↔ c1 l0 = true ∧ X 130 2 [l0, .int x] st h Q := X_sto (kk := 1) (pc' := 2) (w := .int x) mC_130 dX8_begins_1 rfl (Nat.le_of_ble_eq_true rfl) rfl
theorem x130_2 {l0 : Value} {x : Int32} : X 130 2 [l0, .int x] st h Q ↔ X 130 3 [l0, .int x] (.int x :: st) h Q := X_n mC_130 dX8_begins_2 rfl
theorem x130_3 : X 130 3 L st h Q ↔ X 130 5 L (.int 31 :: st) h Q := X_n mC_130 dX8_begins_3 rfl
theorem x130_5 {x y : Int32} : X 130 5 L (.int y :: .int x :: st) h Q ↔ if x < y then X 130 8 L st h Q else X 130 21 L st h Q := X_ige mC_130 dX8_begins_5 (by decide)
theorem x130_8 {l1 : Value} {x : Nat} : X 130 8 [.ref x, l1] st h Q ↔ X 130 9 [.ref x, l1] (.ref x :: st) h Q := X_n mC_130 dX8_begins_8 rfl
theorem x130_9 {a : Nat} : X 130 9 L (.ref a :: st) h Q ↔ (hS h a = (1, 8) ∧ hR h a 3 ≠ 0) ∧ X 130 12 L (.ref (hR h a 3) :: st) h Q := X_getR mC_130 dX8_begins_9 (by decide +kernel)
theorem x130_12 {l0 : Value} {x : Int32} : X 130 12 [l0, .int x] st h Q ↔ X 130 13 [l0, .int x] (.int x :: st) h Q := X_n mC_130 dX8_begins_12 rfl
theorem x130_13 : X 130 13 L st h Q ↔ X 130 14 L (.int 0 :: st) h Q := X_n mC_130 dX8_begins_13 rfl
theorem x130_14 {j x : Int32} {a : Nat} : X 130 14 L (.int x :: .int j :: .ref a :: st) h Q ↔ ibw j (hS h a) ∧ X 130 15 L st (sI h a j.toNatClampNeg x) Q := X_iast mC_130 dX8_begins_14
theorem x130_15 {l0 : Value} {x : Int32} : X 130 15 [l0, .int x] st h Q ↔ c1 l0 = true ∧ X 130 18 [l0, .int (x + 1)] st h Q := X_inc (pc' := 18) (x := x) mC_130 dX8_begins_15 rfl rfl rfl
theorem x130_18 : X 130 18 L st h Q ↔ X 130 2 L st h Q := X_goto mC_130 dX8_begins_18 (by decide)
theorem x130_21 {l1 : Value} {x : Nat} : X 130 21 [.ref x, l1] st h Q ↔ X 130 22 [.ref x, l1] (.ref x :: st) h Q := X_n mC_130 dX8_begins_21 rfl
theorem x130_22 {a : Nat} : X 130 22 L (.ref a :: st) h Q ↔ (hS h a = (1, 8) ∧ hR h a 3 ≠ 0) ∧ X 130 25 L (.ref (hR h a 3) :: st) h Q := X_getR mC_130 dX8_begins_22 (by decide +kernel)
theorem x130_25 : X 130 25 L st h Q ↔ X 130 26 L (.int 1 :: st) h Q := X_n mC_130 dX8_begins_25 rfl
theorem x130_26 : X 130 26 L st h Q ↔ X 130 28 L (.int 6 :: st) h Q := X_n mC_130 dX8_begins_26 rfl
theorem x130_28 {j x : Int32} {a : Nat} : X 130 28 L (.int x :: .int j :: .ref a :: st) h Q ↔ ibw j (hS h a) ∧ X 130 29 L st (sI h a j.toNatClampNeg x) Q := X_iast mC_130 dX8_begins_28
theorem x130_29 {l1 : Value} {x : Nat} : X 130 29 [.ref x, l1] st h Q ↔ X 130 30 [.ref x, l1] (.ref x :: st) h Q := X_n mC_130 dX8_begins_29 rfl
theorem x130_30 {a : Nat} : X 130 30 L (.ref a :: st) h Q ↔ (hS h a = (1, 8) ∧ hR h a 3 ≠ 0) ∧ X 130 33 L (.ref (hR h a 3) :: st) h Q := X_getR mC_130 dX8_begins_30 (by decide +kernel)
theorem x130_33 : X 130 33 L st h Q ↔ X 130 34 L (.int 2 :: st) h Q := X_n mC_130 dX8_begins_33 rfl
theorem x130_34 : X 130 34 L st h Q ↔ X 130 36 L (.int 8 :: st) h Q := X_n mC_130 dX8_begins_34 rfl
theorem x130_36 {j x : Int32} {a : Nat} : X 130 36 L (.int x :: .int j :: .ref a :: st) h Q ↔ ibw j (hS h a) ∧ X 130 37 L st (sI h a j.toNatClampNeg x) Q := X_iast mC_130 dX8_begins_36
theorem x130_37 {l1 : Value} {x : Nat} : X 130 37 [.ref x, l1] st h Q ↔ X 130 38 [.ref x, l1] (.ref x :: st) h Q := X_n mC_130 dX8_begins_37 rfl
theorem x130_38 {a : Nat} : X 130 38 L (.ref a :: st) h Q ↔ (hS h a = (1, 8) ∧ hR h a 3 ≠ 0) ∧ X 130 41 L (.ref (hR h a 3) :: st) h Q := X_getR mC_130 dX8_begins_38 (by decide +kernel)
theorem x130_41 : X 130 41 L st h Q ↔ X 130 42 L (.int 3 :: st) h Q := X_n mC_130 dX8_begins_41 rfl
theorem x130_42 : X 130 42 L st h Q ↔ X 130 44 L (.int 7 :: st) h Q := X_n mC_130 dX8_begins_42 rfl
theorem x130_44 {j x : Int32} {a : Nat} : X 130 44 L (.int x :: .int j :: .ref a :: st) h Q ↔ ibw j (hS h a) ∧ X 130 45 L st (sI h a j.toNatClampNeg x) Q := X_iast mC_130 dX8_begins_44
theorem x130_45 : X 130 45 L [] h Q ↔ Q none h := X_retV mC_130 dX8_begins_45 (by decide +kernel)
theorem mC_131 : mC 131 = cX8_adds := rfl
theorem x131_0 {l1 l2 l3 l4 l5 l6 : Value} {x : Nat} : X 131 0 [.ref x, l1, l2, l3, l4, l5, l6] st h Q ↔ X 131 1 [.ref x, l1, l2, l3, l4, l5, l6] (.ref x :: st) h Q := X_n mC_131 dX8_adds_0 rfl
theorem x131_1 {a : Nat} : X 131 1 L (.ref a :: st) h Q ↔ (hS h a = (1, 8) ∧ hR h a 3 ≠ 0) ∧ X 131 4 L (.ref (hR h a 3) :: st) h Q := X_getR mC_131 dX8_adds_1 (by decide +kernel)
theorem x131_4 : X 131 4 L st h Q ↔ X 131 5 L (.int 0 :: st) h Q := X_n mC_131 dX8_adds_4 rfl
theorem x131_5 {j : Int32} {a : Nat} : X 131 5 L (.int j :: .ref a :: st) h Q ↔ ib j (hS h a) ∧ X 131 6 L (.int (hI h a j.toNatClampNeg) :: st) h Q := X_iald mC_131 dX8_adds_5
theorem x131_6 {l0 l1 l2 l3 l4 l5 l6 : Value} {x : Int32} : X 131 6 [l0, l1, l2, l3, l4, l5, l6] (.int x :: st) h Q ↔ c1 l5 = true ∧ X 131 8 [l0, l1, l2, l3, l4, l5, .int x] st h Q := X_sto (kk := 6) (pc' := 8) (w := .int x) mC_131 dX8_adds_6 rfl (Nat.le_of_ble_eq_true rfl) rfl
theorem x131_8 {l1 l2 l3 l4 l5 l6 : Value} {x : Nat} : X 131 8 [.ref x, l1, l2, l3, l4, l5, l6] st h Q ↔ X 131 9 [.ref x, l1, l2, l3, l4, l5, l6] (.ref x :: st) h Q := X_n mC_131 dX8_adds_8 rfl
theorem x131_9 {a : Nat} : X 131 9 L (.ref a :: st) h Q ↔ (hS h a = (1, 8) ∧ hR h a 3 ≠ 0) ∧ X 131 12 L (.ref (hR h a 3) :: st) h Q := X_getR mC_131 dX8_adds_9 (by decide +kernel)
theorem x131_12 : X 131 12 L st h Q ↔ X 131 14 L (.int 6 :: st) h Q := X_n mC_131 dX8_adds_12 rfl
theorem x131_14 {l0 l1 l2 l3 l4 l5 : Value} {x : Int32} : X 131 14 [l0, l1, l2, l3, l4, l5, .int x] st h Q ↔ X 131 16 [l0, l1, l2, l3, l4, l5, .int x] (.int x :: st) h Q := X_n mC_131 dX8_adds_14 rfl
theorem x131_16 {x y : Int32} : X 131 16 L (.int y :: .int x :: st) h Q ↔ X 131 17 L (.int (x + y) :: st) h Q := X_n mC_131 dX8_adds_16 rfl
theorem x131_17 {l0 l2 l3 l4 l5 l6 : Value} {x : Int32} : X 131 17 [l0, .int x, l2, l3, l4, l5, l6] st h Q ↔ X 131 18 [l0, .int x, l2, l3, l4, l5, l6] (.int x :: st) h Q := X_n mC_131 dX8_adds_17 rfl
theorem x131_18 {j x : Int32} {a : Nat} : X 131 18 L (.int x :: .int j :: .ref a :: st) h Q ↔ ibw j (hS h a) ∧ X 131 19 L st (sI h a j.toNatClampNeg x) Q := X_iast mC_131 dX8_adds_18
theorem x131_19 {l1 l2 l3 l4 l5 l6 : Value} {x : Nat} : X 131 19 [.ref x, l1, l2, l3, l4, l5, l6] st h Q ↔ X 131 20 [.ref x, l1, l2, l3, l4, l5, l6] (.ref x :: st) h Q := X_n mC_131 dX8_adds_19 rfl
theorem x131_20 {a : Nat} : X 131 20 L (.ref a :: st) h Q ↔ (hS h a = (1, 8) ∧ hR h a 3 ≠ 0) ∧ X 131 23 L (.ref (hR h a 3) :: st) h Q := X_getR mC_131 dX8_adds_20 (by decide +kernel)
theorem x131_23 : X 131 23 L st h Q ↔ X 131 25 L (.int 11 :: st) h Q := X_n mC_131 dX8_adds_23 rfl
theorem x131_25 {l0 l1 l2 l3 l4 l5 : Value} {x : Int32} : X 131 25 [l0, l1, l2, l3, l4, l5, .int x] st h Q ↔ X 131 27 [l0, l1, l2, l3, l4, l5, .int x] (.int x :: st) h Q := X_n mC_131 dX8_adds_25 rfl
theorem x131_27 {x y : Int32} : X 131 27 L (.int y :: .int x :: st) h Q ↔ X 131 28 L (.int (x + y) :: st) h Q := X_n mC_131 dX8_adds_27 rfl
theorem x131_28 {l0 l1 l3 l4 l5 l6 : Value} {x : Int32} : X 131 28 [l0, l1, .int x, l3, l4, l5, l6] st h Q ↔ X 131 29 [l0, l1, .int x, l3, l4, l5, l6] (.int x :: st) h Q := X_n mC_131 dX8_adds_28 rfl
theorem x131_29 {j x : Int32} {a : Nat} : X 131 29 L (.int x :: .int j :: .ref a :: st) h Q ↔ ibw j (hS h a) ∧ X 131 30 L st (sI h a j.toNatClampNeg x) Q := X_iast mC_131 dX8_adds_29
theorem x131_30 {l1 l2 l3 l4 l5 l6 : Value} {x : Nat} : X 131 30 [.ref x, l1, l2, l3, l4, l5, l6] st h Q ↔ X 131 31 [.ref x, l1, l2, l3, l4, l5, l6] (.ref x :: st) h Q := X_n mC_131 dX8_adds_30 rfl
theorem x131_31 {a : Nat} : X 131 31 L (.ref a :: st) h Q ↔ (hS h a = (1, 8) ∧ hR h a 3 ≠ 0) ∧ X 131 34 L (.ref (hR h a 3) :: st) h Q := X_getR mC_131 dX8_adds_31 (by decide +kernel)
theorem x131_34 : X 131 34 L st h Q ↔ X 131 36 L (.int 16 :: st) h Q := X_n mC_131 dX8_adds_34 rfl
theorem x131_36 {l0 l1 l2 l3 l4 l5 : Value} {x : Int32} : X 131 36 [l0, l1, l2, l3, l4, l5, .int x] st h Q ↔ X 131 38 [l0, l1, l2, l3, l4, l5, .int x] (.int x :: st) h Q := X_n mC_131 dX8_adds_36 rfl
theorem x131_38 {x y : Int32} : X 131 38 L (.int y :: .int x :: st) h Q ↔ X 131 39 L (.int (x + y) :: st) h Q := X_n mC_131 dX8_adds_38 rfl
theorem x131_39 {l0 l1 l2 l4 l5 l6 : Value} {x : Int32} : X 131 39 [l0, l1, l2, .int x, l4, l5, l6] st h Q ↔ X 131 40 [l0, l1, l2, .int x, l4, l5, l6] (.int x :: st) h Q := X_n mC_131 dX8_adds_39 rfl
theorem x131_40 {j x : Int32} {a : Nat} : X 131 40 L (.int x :: .int j :: .ref a :: st) h Q ↔ ibw j (hS h a) ∧ X 131 41 L st (sI h a j.toNatClampNeg x) Q := X_iast mC_131 dX8_adds_40
theorem x131_41 {l1 l2 l3 l4 l5 l6 : Value} {x : Nat} : X 131 41 [.ref x, l1, l2, l3, l4, l5, l6] st h Q ↔ X 131 42 [.ref x, l1, l2, l3, l4, l5, l6] (.ref x :: st) h Q := X_n mC_131 dX8_adds_41 rfl
theorem x131_42 {a : Nat} : X 131 42 L (.ref a :: st) h Q ↔ (hS h a = (1, 8) ∧ hR h a 3 ≠ 0) ∧ X 131 45 L (.ref (hR h a 3) :: st) h Q := X_getR mC_131 dX8_adds_42 (by decide +kernel)
theorem x131_45 : X 131 45 L st h Q ↔ X 131 47 L (.int 21 :: st) h Q := X_n mC_131 dX8_adds_45 rfl
theorem x131_47 {l0 l1 l2 l3 l4 l5 : Value} {x : Int32} : X 131 47 [l0, l1, l2, l3, l4, l5, .int x] st h Q ↔ X 131 49 [l0, l1, l2, l3, l4, l5, .int x] (.int x :: st) h Q := X_n mC_131 dX8_adds_47 rfl
theorem x131_49 {x y : Int32} : X 131 49 L (.int y :: .int x :: st) h Q ↔ X 131 50 L (.int (x + y) :: st) h Q := X_n mC_131 dX8_adds_49 rfl
theorem x131_50 {l0 l1 l2 l3 l5 l6 : Value} {x : Int32} : X 131 50 [l0, l1, l2, l3, .int x, l5, l6] st h Q ↔ X 131 52 [l0, l1, l2, l3, .int x, l5, l6] (.int x :: st) h Q := X_n mC_131 dX8_adds_50 rfl
theorem x131_52 {j x : Int32} {a : Nat} : X 131 52 L (.int x :: .int j :: .ref a :: st) h Q ↔ ibw j (hS h a) ∧ X 131 53 L st (sI h a j.toNatClampNeg x) Q := X_iast mC_131 dX8_adds_52
theorem x131_53 {l1 l2 l3 l4 l5 l6 : Value} {x : Nat} : X 131 53 [.ref x, l1, l2, l3, l4, l5, l6] st h Q ↔ X 131 54 [.ref x, l1, l2, l3, l4, l5, l6] (.ref x :: st) h Q := X_n mC_131 dX8_adds_53 rfl
theorem x131_54 {a : Nat} : X 131 54 L (.ref a :: st) h Q ↔ (hS h a = (1, 8) ∧ hR h a 3 ≠ 0) ∧ X 131 57 L (.ref (hR h a 3) :: st) h Q := X_getR mC_131 dX8_adds_54 (by decide +kernel)
theorem x131_57 : X 131 57 L st h Q ↔ X 131 59 L (.int 26 :: st) h Q := X_n mC_131 dX8_adds_57 rfl
theorem x131_59 {l0 l1 l2 l3 l4 l5 : Value} {x : Int32} : X 131 59 [l0, l1, l2, l3, l4, l5, .int x] st h Q ↔ X 131 61 [l0, l1, l2, l3, l4, l5, .int x] (.int x :: st) h Q := X_n mC_131 dX8_adds_59 rfl
theorem x131_61 {x y : Int32} : X 131 61 L (.int y :: .int x :: st) h Q ↔ X 131 62 L (.int (x + y) :: st) h Q := X_n mC_131 dX8_adds_61 rfl
theorem x131_62 {l0 l1 l2 l3 l4 l6 : Value} {x : Int32} : X 131 62 [l0, l1, l2, l3, l4, .int x, l6] st h Q ↔ X 131 64 [l0, l1, l2, l3, l4, .int x, l6] (.int x :: st) h Q := X_n mC_131 dX8_adds_62 rfl
theorem x131_64 {j x : Int32} {a : Nat} : X 131 64 L (.int x :: .int j :: .ref a :: st) h Q ↔ ibw j (hS h a) ∧ X 131 65 L st (sI h a j.toNatClampNeg x) Q := X_iast mC_131 dX8_adds_64
theorem x131_65 {l1 l2 l3 l4 l5 l6 : Value} {x : Nat} : X 131 65 [.ref x, l1, l2, l3, l4, l5, l6] st h Q ↔ X 131 66 [.ref x, l1, l2, l3, l4, l5, l6] (.ref x :: st) h Q := X_n mC_131 dX8_adds_65 rfl
theorem x131_66 {a : Nat} : X 131 66 L (.ref a :: st) h Q ↔ (hS h a = (1, 8) ∧ hR h a 3 ≠ 0) ∧ X 131 69 L (.ref (hR h a 3) :: st) h Q := X_getR mC_131 dX8_adds_66 (by decide +kernel)
theorem x131_69 : X 131 69 L st h Q ↔ X 131 70 L (.int 0 :: st) h Q := X_n mC_131 dX8_adds_69 rfl
theorem x131_70 {x : Nat} {y : Int32} : X 131 70 L (.int y :: .ref x :: st) h Q ↔ X 131 71 L (.int y :: .ref x :: .int y :: .ref x :: st) h Q := X_n mC_131 dX8_adds_70 rfl
theorem x131_71 {j : Int32} {a : Nat} : X 131 71 L (.int j :: .ref a :: st) h Q ↔ ib j (hS h a) ∧ X 131 72 L (.int (hI h a j.toNatClampNeg) :: st) h Q := X_iald mC_131 dX8_adds_71
theorem x131_72 : X 131 72 L st h Q ↔ X 131 73 L (.int 1 :: st) h Q := X_n mC_131 dX8_adds_72 rfl
theorem x131_73 {x y : Int32} : X 131 73 L (.int y :: .int x :: st) h Q ↔ X 131 74 L (.int (x + y) :: st) h Q := X_n mC_131 dX8_adds_73 rfl
theorem x131_74 {j x : Int32} {a : Nat} : X 131 74 L (.int x :: .int j :: .ref a :: st) h Q ↔ ibw j (hS h a) ∧ X 131 75 L st (sI h a j.toNatClampNeg x) Q := X_iast mC_131 dX8_adds_74
theorem x131_75 : X 131 75 L [] h Q ↔ Q none h := X_retV mC_131 dX8_adds_75 (by decide +kernel)
theorem mC_132 : mC 132 = cX8_readsGuest := rfl
theorem x132_0 {l1 l2 l3 l4 l5 l6 l7 : Value} {x : Nat} : X 132 0 [.ref x, l1, l2, l3, l4, l5, l6, l7] st h Q ↔ X 132 1 [.ref x, l1, l2, l3, l4, l5, l6, l7] (.ref x :: st) h Q := X_n mC_132 dX8_readsGuest_0 rfl
theorem x132_1 : X 132 1 L st h Q ↔ X 132 2 L (.int 0 :: st) h Q := X_n mC_132 dX8_readsGuest_1 rfl
theorem x132_2 : X 132 2 L st h Q ↔ X 132 3 L (.int 3 :: st) h Q := X_n mC_132 dX8_readsGuest_2 rfl
theorem x132_3 : X 132 3 L st h Q ↔ X 132 5 L (.int 44 :: st) h Q := X_n mC_132 dX8_readsGuest_3 rfl
theorem x132_5 {b : Nat} {a0 : Int32} {a1 : Int32} {a2 : Int32} : X 132 5 L [.int a2, .int a1, .int a0, .ref b] h Q ↔ hS h b = (1, 8) ∧ X 129 0 [.ref b, .int a0, .int a1, .int a2, .null, .null] [] h (fun r h' => X 132 8 L (pv r []) h' Q) := X_virt (as := [.int a0, .int a1, .int a2]) (n := 3) (ml := 6) (ck := 8) mC_132 dX8_readsGuest_5 (by unfold cOk; decide +kernel) ⟨rfl, rfl, by decide, Nat.le_of_ble_eq_true rfl⟩
theorem x132_8 {l0 l1 l2 l3 l4 l5 l6 l7 : Value} {x : Int32} : X 132 8 [l0, l1, l2, l3, l4, l5, l6, l7] (.int x :: st) h Q ↔ c1 l0 = true ∧ X 132 9 [l0, .int x, l2, l3, l4, l5, l6, l7] st h Q := X_sto (kk := 1) (pc' := 9) (w := .int x) mC_132 dX8_readsGuest_8 rfl (Nat.le_of_ble_eq_true rfl) rfl
theorem x132_9 {l0 l2 l3 l4 l5 l6 l7 : Value} {x : Int32} : X 132 9 [l0, .int x, l2, l3, l4, l5, l6, l7] st h Q ↔ X 132 10 [l0, .int x, l2, l3, l4, l5, l6, l7] (.int x :: st) h Q := X_n mC_132 dX8_readsGuest_9 rfl
theorem x132_10 {x : Int32} : X 132 10 L (.int x :: st) h Q ↔ if x < 0 then X 132 13 L st h Q else X 132 17 L st h Q := X_zge mC_132 dX8_readsGuest_10 (by decide)
theorem x132_13 : X 132 13 L st h Q ↔ X 132 14 L (.int (-1) :: st) h Q := X_n mC_132 dX8_readsGuest_13 rfl
theorem x132_14 : X 132 14 L st h Q ↔ X 132 26 L st h Q := X_goto mC_132 dX8_readsGuest_14 (by decide)
theorem x132_17 {l1 l2 l3 l4 l5 l6 l7 : Value} {x : Nat} : X 132 17 [.ref x, l1, l2, l3, l4, l5, l6, l7] st h Q ↔ X 132 18 [.ref x, l1, l2, l3, l4, l5, l6, l7] (.ref x :: st) h Q := X_n mC_132 dX8_readsGuest_17 rfl
theorem x132_18 : X 132 18 L st h Q ↔ X 132 19 L (.int 0 :: st) h Q := X_n mC_132 dX8_readsGuest_18 rfl
theorem x132_19 : X 132 19 L st h Q ↔ X 132 21 L (.int 30 :: st) h Q := X_n mC_132 dX8_readsGuest_19 rfl
theorem x132_21 : X 132 21 L st h Q ↔ X 132 23 L (.int 44 :: st) h Q := X_n mC_132 dX8_readsGuest_21 rfl
theorem x132_23 {b : Nat} {a0 : Int32} {a1 : Int32} {a2 : Int32} : X 132 23 L [.int a2, .int a1, .int a0, .ref b] h Q ↔ hS h b = (1, 8) ∧ X 129 0 [.ref b, .int a0, .int a1, .int a2, .null, .null] [] h (fun r h' => X 132 26 L (pv r []) h' Q) := X_virt (as := [.int a0, .int a1, .int a2]) (n := 3) (ml := 6) (ck := 8) mC_132 dX8_readsGuest_23 (by unfold cOk; decide +kernel) ⟨rfl, rfl, by decide, Nat.le_of_ble_eq_true rfl⟩
theorem x132_26 {l0 l1 l2 l3 l4 l5 l6 l7 : Value} {x : Int32} : X 132 26 [l0, l1, l2, l3, l4, l5, l6, l7] (.int x :: st) h Q ↔ c1 l1 = true ∧ X 132 27 [l0, l1, .int x, l3, l4, l5, l6, l7] st h Q := X_sto (kk := 2) (pc' := 27) (w := .int x) mC_132 dX8_readsGuest_26 rfl (Nat.le_of_ble_eq_true rfl) rfl
theorem x132_27 {l0 l1 l3 l4 l5 l6 l7 : Value} {x : Int32} : X 132 27 [l0, l1, .int x, l3, l4, l5, l6, l7] st h Q ↔ X 132 28 [l0, l1, .int x, l3, l4, l5, l6, l7] (.int x :: st) h Q := X_n mC_132 dX8_readsGuest_27 rfl
theorem x132_28 {x : Int32} : X 132 28 L (.int x :: st) h Q ↔ if x < 0 then X 132 31 L st h Q else X 132 35 L st h Q := X_zge mC_132 dX8_readsGuest_28 (by decide)
theorem x132_31 : X 132 31 L st h Q ↔ X 132 32 L (.int (-1) :: st) h Q := X_n mC_132 dX8_readsGuest_31 rfl
theorem x132_32 : X 132 32 L st h Q ↔ X 132 44 L st h Q := X_goto mC_132 dX8_readsGuest_32 (by decide)
theorem x132_35 {l1 l2 l3 l4 l5 l6 l7 : Value} {x : Nat} : X 132 35 [.ref x, l1, l2, l3, l4, l5, l6, l7] st h Q ↔ X 132 36 [.ref x, l1, l2, l3, l4, l5, l6, l7] (.ref x :: st) h Q := X_n mC_132 dX8_readsGuest_35 rfl
theorem x132_36 : X 132 36 L st h Q ↔ X 132 37 L (.int 0 :: st) h Q := X_n mC_132 dX8_readsGuest_36 rfl
theorem x132_37 : X 132 37 L st h Q ↔ X 132 39 L (.int 12 :: st) h Q := X_n mC_132 dX8_readsGuest_37 rfl
theorem x132_39 : X 132 39 L st h Q ↔ X 132 41 L (.int 44 :: st) h Q := X_n mC_132 dX8_readsGuest_39 rfl
theorem x132_41 {b : Nat} {a0 : Int32} {a1 : Int32} {a2 : Int32} : X 132 41 L [.int a2, .int a1, .int a0, .ref b] h Q ↔ hS h b = (1, 8) ∧ X 129 0 [.ref b, .int a0, .int a1, .int a2, .null, .null] [] h (fun r h' => X 132 44 L (pv r []) h' Q) := X_virt (as := [.int a0, .int a1, .int a2]) (n := 3) (ml := 6) (ck := 8) mC_132 dX8_readsGuest_41 (by unfold cOk; decide +kernel) ⟨rfl, rfl, by decide, Nat.le_of_ble_eq_true rfl⟩
theorem x132_44 {l0 l1 l2 l3 l4 l5 l6 l7 : Value} {x : Int32} : X 132 44 [l0, l1, l2, l3, l4, l5, l6, l7] (.int x :: st) h Q ↔ c1 l2 = true ∧ X 132 45 [l0, l1, l2, .int x, l4, l5, l6, l7] st h Q := X_sto (kk := 3) (pc' := 45) (w := .int x) mC_132 dX8_readsGuest_44 rfl (Nat.le_of_ble_eq_true rfl) rfl
theorem x132_45 {l0 l1 l2 l4 l5 l6 l7 : Value} {x : Int32} : X 132 45 [l0, l1, l2, .int x, l4, l5, l6, l7] st h Q ↔ X 132 46 [l0, l1, l2, .int x, l4, l5, l6, l7] (.int x :: st) h Q := X_n mC_132 dX8_readsGuest_45 rfl
theorem x132_46 {x : Int32} : X 132 46 L (.int x :: st) h Q ↔ if x < 0 then X 132 49 L st h Q else X 132 53 L st h Q := X_zge mC_132 dX8_readsGuest_46 (by decide)
theorem x132_49 : X 132 49 L st h Q ↔ X 132 50 L (.int (-1) :: st) h Q := X_n mC_132 dX8_readsGuest_49 rfl
theorem x132_50 : X 132 50 L st h Q ↔ X 132 62 L st h Q := X_goto mC_132 dX8_readsGuest_50 (by decide)
theorem x132_53 {l1 l2 l3 l4 l5 l6 l7 : Value} {x : Nat} : X 132 53 [.ref x, l1, l2, l3, l4, l5, l6, l7] st h Q ↔ X 132 54 [.ref x, l1, l2, l3, l4, l5, l6, l7] (.ref x :: st) h Q := X_n mC_132 dX8_readsGuest_53 rfl
theorem x132_54 : X 132 54 L st h Q ↔ X 132 55 L (.int 1 :: st) h Q := X_n mC_132 dX8_readsGuest_54 rfl
theorem x132_55 : X 132 55 L st h Q ↔ X 132 57 L (.int 40 :: st) h Q := X_n mC_132 dX8_readsGuest_55 rfl
theorem x132_57 : X 132 57 L st h Q ↔ X 132 59 L (.int 44 :: st) h Q := X_n mC_132 dX8_readsGuest_57 rfl
theorem x132_59 {b : Nat} {a0 : Int32} {a1 : Int32} {a2 : Int32} : X 132 59 L [.int a2, .int a1, .int a0, .ref b] h Q ↔ hS h b = (1, 8) ∧ X 129 0 [.ref b, .int a0, .int a1, .int a2, .null, .null] [] h (fun r h' => X 132 62 L (pv r []) h' Q) := X_virt (as := [.int a0, .int a1, .int a2]) (n := 3) (ml := 6) (ck := 8) mC_132 dX8_readsGuest_59 (by unfold cOk; decide +kernel) ⟨rfl, rfl, by decide, Nat.le_of_ble_eq_true rfl⟩
theorem x132_62 {l0 l1 l2 l3 l4 l5 l6 l7 : Value} {x : Int32} : X 132 62 [l0, l1, l2, l3, l4, l5, l6, l7] (.int x :: st) h Q ↔ c1 l3 = true ∧ X 132 64 [l0, l1, l2, l3, .int x, l5, l6, l7] st h Q := X_sto (kk := 4) (pc' := 64) (w := .int x) mC_132 dX8_readsGuest_62 rfl (Nat.le_of_ble_eq_true rfl) rfl
theorem x132_64 {l0 l1 l2 l3 l5 l6 l7 : Value} {x : Int32} : X 132 64 [l0, l1, l2, l3, .int x, l5, l6, l7] st h Q ↔ X 132 66 [l0, l1, l2, l3, .int x, l5, l6, l7] (.int x :: st) h Q := X_n mC_132 dX8_readsGuest_64 rfl
theorem x132_66 {x : Int32} : X 132 66 L (.int x :: st) h Q ↔ if x < 0 then X 132 69 L st h Q else X 132 73 L st h Q := X_zge mC_132 dX8_readsGuest_66 (by decide)
theorem x132_69 : X 132 69 L st h Q ↔ X 132 70 L (.int (-1) :: st) h Q := X_n mC_132 dX8_readsGuest_69 rfl
theorem x132_70 : X 132 70 L st h Q ↔ X 132 88 L st h Q := X_goto mC_132 dX8_readsGuest_70 (by decide)
theorem x132_73 {l1 l2 l3 l4 l5 l6 l7 : Value} {x : Nat} : X 132 73 [.ref x, l1, l2, l3, l4, l5, l6, l7] st h Q ↔ X 132 74 [.ref x, l1, l2, l3, l4, l5, l6, l7] (.ref x :: st) h Q := X_n mC_132 dX8_readsGuest_73 rfl
theorem x132_74 : X 132 74 L st h Q ↔ X 132 75 L (.int 0 :: st) h Q := X_n mC_132 dX8_readsGuest_74 rfl
theorem x132_75 {l1 l2 l3 l4 l5 l6 l7 : Value} {x : Nat} : X 132 75 [.ref x, l1, l2, l3, l4, l5, l6, l7] st h Q ↔ X 132 76 [.ref x, l1, l2, l3, l4, l5, l6, l7] (.ref x :: st) h Q := X_n mC_132 dX8_readsGuest_75 rfl
theorem x132_76 {a : Nat} : X 132 76 L (.ref a :: st) h Q ↔ (hS h a = (1, 8) ∧ hR h a 3 ≠ 0) ∧ X 132 79 L (.ref (hR h a 3) :: st) h Q := X_getR mC_132 dX8_readsGuest_76 (by decide +kernel)
theorem x132_79 : X 132 79 L st h Q ↔ X 132 80 L (.int 1 :: st) h Q := X_n mC_132 dX8_readsGuest_79 rfl
theorem x132_80 {j : Int32} {a : Nat} : X 132 80 L (.int j :: .ref a :: st) h Q ↔ ib j (hS h a) ∧ X 132 81 L (.int (hI h a j.toNatClampNeg) :: st) h Q := X_iald mC_132 dX8_readsGuest_80
theorem x132_81 : X 132 81 L st h Q ↔ X 132 82 L (.int 1 :: st) h Q := X_n mC_132 dX8_readsGuest_81 rfl
theorem x132_82 {x y : Int32} : X 132 82 L (.int y :: .int x :: st) h Q ↔ X 132 83 L (.int (x - y) :: st) h Q := X_n mC_132 dX8_readsGuest_82 rfl
theorem x132_83 : X 132 83 L st h Q ↔ X 132 85 L (.int 59 :: st) h Q := X_n mC_132 dX8_readsGuest_83 rfl
theorem x132_85 {b : Nat} {a0 : Int32} {a1 : Int32} {a2 : Int32} : X 132 85 L [.int a2, .int a1, .int a0, .ref b] h Q ↔ hS h b = (1, 8) ∧ X 129 0 [.ref b, .int a0, .int a1, .int a2, .null, .null] [] h (fun r h' => X 132 88 L (pv r []) h' Q) := X_virt (as := [.int a0, .int a1, .int a2]) (n := 3) (ml := 6) (ck := 8) mC_132 dX8_readsGuest_85 (by unfold cOk; decide +kernel) ⟨rfl, rfl, by decide, Nat.le_of_ble_eq_true rfl⟩
theorem x132_88 {l0 l1 l2 l3 l4 l5 l6 l7 : Value} {x : Int32} : X 132 88 [l0, l1, l2, l3, l4, l5, l6, l7] (.int x :: st) h Q ↔ c1 l4 = true ∧ X 132 90 [l0, l1, l2, l3, l4, .int x, l6, l7] st h Q := X_sto (kk := 5) (pc' := 90) (w := .int x) mC_132 dX8_readsGuest_88 rfl (Nat.le_of_ble_eq_true rfl) rfl
theorem x132_90 {l0 l1 l2 l3 l4 l6 l7 : Value} {x : Int32} : X 132 90 [l0, l1, l2, l3, l4, .int x, l6, l7] st h Q ↔ X 132 92 [l0, l1, l2, l3, l4, .int x, l6, l7] (.int x :: st) h Q := X_n mC_132 dX8_readsGuest_90 rfl
theorem x132_92 {x : Int32} : X 132 92 L (.int x :: st) h Q ↔ if x < 0 then X 132 126 L st h Q else X 132 95 L st h Q := X_zlt mC_132 dX8_readsGuest_92 (by decide)
theorem x132_95 {l1 l2 l3 l4 l5 l6 l7 : Value} {x : Nat} : X 132 95 [.ref x, l1, l2, l3, l4, l5, l6, l7] st h Q ↔ X 132 96 [.ref x, l1, l2, l3, l4, l5, l6, l7] (.ref x :: st) h Q := X_n mC_132 dX8_readsGuest_95 rfl
theorem x132_96 {a : Nat} : X 132 96 L (.ref a :: st) h Q ↔ (hS h a = (1, 8) ∧ hR h a 3 ≠ 0) ∧ X 132 99 L (.ref (hR h a 3) :: st) h Q := X_getR mC_132 dX8_readsGuest_96 (by decide +kernel)
theorem x132_99 : X 132 99 L st h Q ↔ X 132 100 L (.int 0 :: st) h Q := X_n mC_132 dX8_readsGuest_99 rfl
theorem x132_100 {j : Int32} {a : Nat} : X 132 100 L (.int j :: .ref a :: st) h Q ↔ ib j (hS h a) ∧ X 132 101 L (.int (hI h a j.toNatClampNeg) :: st) h Q := X_iald mC_132 dX8_readsGuest_100
theorem x132_101 : X 132 101 L st h Q ↔ X 132 102 L (.int 5 :: st) h Q := X_n mC_132 dX8_readsGuest_101 rfl
theorem x132_102 {x y : Int32} : X 132 102 L (.int y :: .int x :: st) h Q ↔ if x < y then X 132 105 L st h Q else X 132 126 L st h Q := X_ige mC_132 dX8_readsGuest_102 (by decide)
theorem x132_105 {l1 l2 l3 l4 l5 l6 l7 : Value} {x : Nat} : X 132 105 [.ref x, l1, l2, l3, l4, l5, l6, l7] st h Q ↔ X 132 106 [.ref x, l1, l2, l3, l4, l5, l6, l7] (.ref x :: st) h Q := X_n mC_132 dX8_readsGuest_105 rfl
theorem x132_106 {a : Nat} : X 132 106 L (.ref a :: st) h Q ↔ (hS h a = (1, 8) ∧ hR h a 3 ≠ 0) ∧ X 132 109 L (.ref (hR h a 3) :: st) h Q := X_getR mC_132 dX8_readsGuest_106 (by decide +kernel)
theorem x132_109 : X 132 109 L st h Q ↔ X 132 110 L (.int 0 :: st) h Q := X_n mC_132 dX8_readsGuest_109 rfl
theorem x132_110 {j : Int32} {a : Nat} : X 132 110 L (.int j :: .ref a :: st) h Q ↔ ib j (hS h a) ∧ X 132 111 L (.int (hI h a j.toNatClampNeg) :: st) h Q := X_iald mC_132 dX8_readsGuest_110
theorem x132_111 : X 132 111 L st h Q ↔ X 132 112 L (.int 1 :: st) h Q := X_n mC_132 dX8_readsGuest_111 rfl
theorem x132_112 {x y : Int32} : X 132 112 L (.int y :: .int x :: st) h Q ↔ X 132 113 L (.int (x + y) :: st) h Q := X_n mC_132 dX8_readsGuest_112 rfl
theorem x132_113 {l1 l2 l3 l4 l5 l6 l7 : Value} {x : Nat} : X 132 113 [.ref x, l1, l2, l3, l4, l5, l6, l7] st h Q ↔ X 132 114 [.ref x, l1, l2, l3, l4, l5, l6, l7] (.ref x :: st) h Q := X_n mC_132 dX8_readsGuest_113 rfl
theorem x132_114 {a : Nat} : X 132 114 L (.ref a :: st) h Q ↔ (hS h a = (1, 8) ∧ hR h a 3 ≠ 0) ∧ X 132 117 L (.ref (hR h a 3) :: st) h Q := X_getR mC_132 dX8_readsGuest_114 (by decide +kernel)
theorem x132_117 : X 132 117 L st h Q ↔ X 132 118 L (.int 1 :: st) h Q := X_n mC_132 dX8_readsGuest_117 rfl
theorem x132_118 {j : Int32} {a : Nat} : X 132 118 L (.int j :: .ref a :: st) h Q ↔ ib j (hS h a) ∧ X 132 119 L (.int (hI h a j.toNatClampNeg) :: st) h Q := X_iald mC_132 dX8_readsGuest_118
theorem x132_119 {x y : Int32} : X 132 119 L (.int y :: .int x :: st) h Q ↔ if x < y then X 132 122 L st h Q else X 132 126 L st h Q := X_ige mC_132 dX8_readsGuest_119 (by decide)
theorem x132_122 : X 132 122 L st h Q ↔ X 132 123 L (.int 1 :: st) h Q := X_n mC_132 dX8_readsGuest_122 rfl
theorem x132_123 : X 132 123 L st h Q ↔ X 132 127 L st h Q := X_goto mC_132 dX8_readsGuest_123 (by decide)
theorem x132_126 : X 132 126 L st h Q ↔ X 132 127 L (.int 0 :: st) h Q := X_n mC_132 dX8_readsGuest_126 rfl
theorem x132_127 {l0 l1 l2 l3 l4 l5 l6 l7 : Value} {x : Int32} : X 132 127 [l0, l1, l2, l3, l4, l5, l6, l7] (.int x :: st) h Q ↔ c1 l5 = true ∧ X 132 129 [l0, l1, l2, l3, l4, l5, .int x, l7] st h Q := X_sto (kk := 6) (pc' := 129) (w := .int x) mC_132 dX8_readsGuest_127 rfl (Nat.le_of_ble_eq_true rfl) rfl
theorem x132_129 : X 132 129 L st h Q ↔ X 132 130 L (.int 0 :: st) h Q := X_n mC_132 dX8_readsGuest_129 rfl
theorem x132_130 {l0 l1 l2 l3 l4 l5 l6 l7 : Value} {x : Int32} : X 132 130 [l0, l1, l2, l3, l4, l5, l6, l7] (.int x :: st) h Q ↔ c1 l6 = true ∧ X 132 132 [l0, l1, l2, l3, l4, l5, l6, .int x] st h Q := X_sto (kk := 7) (pc' := 132) (w := .int x) mC_132 dX8_readsGuest_130 rfl (Nat.le_of_ble_eq_true rfl) rfl
theorem x132_132 {l0 l1 l2 l3 l4 l5 l6 : Value} {x : Int32} : X 132 132 [l0, l1, l2, l3, l4, l5, l6, .int x] st h Q ↔ X 132 134 [l0, l1, l2, l3, l4, l5, l6, .int x] (.int x :: st) h Q := X_n mC_132 dX8_readsGuest_132 rfl
theorem x132_134 {l1 l2 l3 l4 l5 l6 l7 : Value} {x : Nat} : X 132 134 [.ref x, l1, l2, l3, l4, l5, l6, l7] st h Q ↔ X 132 135 [.ref x, l1, l2, l3, l4, l5, l6, l7] (.ref x :: st) h Q := X_n mC_132 dX8_readsGuest_134 rfl
theorem x132_135 {a : Nat} : X 132 135 L (.ref a :: st) h Q ↔ (hS h a = (1, 8) ∧ hR h a 3 ≠ 0) ∧ X 132 138 L (.ref (hR h a 3) :: st) h Q := X_getR mC_132 dX8_readsGuest_135 (by decide +kernel)
theorem x132_138 : X 132 138 L st h Q ↔ X 132 139 L (.int 0 :: st) h Q := X_n mC_132 dX8_readsGuest_138 rfl
theorem x132_139 {j : Int32} {a : Nat} : X 132 139 L (.int j :: .ref a :: st) h Q ↔ ib j (hS h a) ∧ X 132 140 L (.int (hI h a j.toNatClampNeg) :: st) h Q := X_iald mC_132 dX8_readsGuest_139
theorem x132_140 {x y : Int32} : X 132 140 L (.int y :: .int x :: st) h Q ↔ if x < y then X 132 143 L st h Q else X 132 176 L st h Q := X_ige mC_132 dX8_readsGuest_140 (by decide)
theorem x132_143 {l0 l1 l2 l3 l4 l5 l7 : Value} {x : Int32} : X 132 143 [l0, l1, l2, l3, l4, l5, .int x, l7] st h Q ↔ X 132 145 [l0, l1, l2, l3, l4, l5, .int x, l7] (.int x :: st) h Q := X_n mC_132 dX8_readsGuest_143 rfl
theorem x132_145 {x : Int32} : X 132 145 L (.int x :: st) h Q ↔ if x = 0 then X 132 176 L st h Q else X 132 148 L st h Q := X_zeq mC_132 dX8_readsGuest_145 (by decide)
theorem x132_148 {l1 l2 l3 l4 l5 l6 l7 : Value} {x : Nat} : X 132 148 [.ref x, l1, l2, l3, l4, l5, l6, l7] st h Q ↔ X 132 149 [.ref x, l1, l2, l3, l4, l5, l6, l7] (.ref x :: st) h Q := X_n mC_132 dX8_readsGuest_148 rfl
theorem x132_149 {a : Nat} : X 132 149 L (.ref a :: st) h Q ↔ (hS h a = (1, 8) ∧ hR h a 3 ≠ 0) ∧ X 132 152 L (.ref (hR h a 3) :: st) h Q := X_getR mC_132 dX8_readsGuest_149 (by decide +kernel)
theorem x132_152 : X 132 152 L st h Q ↔ X 132 154 L (.int 26 :: st) h Q := X_n mC_132 dX8_readsGuest_152 rfl
theorem x132_154 {l0 l1 l2 l3 l4 l5 l6 : Value} {x : Int32} : X 132 154 [l0, l1, l2, l3, l4, l5, l6, .int x] st h Q ↔ X 132 156 [l0, l1, l2, l3, l4, l5, l6, .int x] (.int x :: st) h Q := X_n mC_132 dX8_readsGuest_154 rfl
theorem x132_156 {x y : Int32} : X 132 156 L (.int y :: .int x :: st) h Q ↔ X 132 157 L (.int (x + y) :: st) h Q := X_n mC_132 dX8_readsGuest_156 rfl
theorem x132_157 {j : Int32} {a : Nat} : X 132 157 L (.int j :: .ref a :: st) h Q ↔ ib j (hS h a) ∧ X 132 158 L (.int (hI h a j.toNatClampNeg) :: st) h Q := X_iald mC_132 dX8_readsGuest_157
theorem x132_158 {l0 l1 l2 l3 l4 l6 l7 : Value} {x : Int32} : X 132 158 [l0, l1, l2, l3, l4, .int x, l6, l7] st h Q ↔ X 132 160 [l0, l1, l2, l3, l4, .int x, l6, l7] (.int x :: st) h Q := X_n mC_132 dX8_readsGuest_158 rfl
theorem x132_160 {x y : Int32} : X 132 160 L (.int y :: .int x :: st) h Q ↔ if x = y then X 132 167 L st h Q else X 132 163 L st h Q := X_ieq mC_132 dX8_readsGuest_160 (by decide)
theorem x132_163 : X 132 163 L st h Q ↔ X 132 164 L (.int 1 :: st) h Q := X_n mC_132 dX8_readsGuest_163 rfl
theorem x132_164 : X 132 164 L st h Q ↔ X 132 168 L st h Q := X_goto mC_132 dX8_readsGuest_164 (by decide)
theorem x132_167 : X 132 167 L st h Q ↔ X 132 168 L (.int 0 :: st) h Q := X_n mC_132 dX8_readsGuest_167 rfl
theorem x132_168 {l0 l1 l2 l3 l4 l5 l6 l7 : Value} {x : Int32} : X 132 168 [l0, l1, l2, l3, l4, l5, l6, l7] (.int x :: st) h Q ↔ c1 l5 = true ∧ X 132 170 [l0, l1, l2, l3, l4, l5, .int x, l7] st h Q := X_sto (kk := 6) (pc' := 170) (w := .int x) mC_132 dX8_readsGuest_168 rfl (Nat.le_of_ble_eq_true rfl) rfl
theorem x132_170 {l0 l1 l2 l3 l4 l5 l6 : Value} {x : Int32} : X 132 170 [l0, l1, l2, l3, l4, l5, l6, .int x] st h Q ↔ c1 l6 = true ∧ X 132 173 [l0, l1, l2, l3, l4, l5, l6, .int (x + 1)] st h Q := X_inc (pc' := 173) (x := x) mC_132 dX8_readsGuest_170 rfl rfl rfl
theorem x132_173 : X 132 173 L st h Q ↔ X 132 132 L st h Q := X_goto mC_132 dX8_readsGuest_173 (by decide)
theorem x132_176 {l0 l1 l2 l3 l4 l5 l7 : Value} {x : Int32} : X 132 176 [l0, l1, l2, l3, l4, l5, .int x, l7] st h Q ↔ X 132 178 [l0, l1, l2, l3, l4, l5, .int x, l7] (.int x :: st) h Q := X_n mC_132 dX8_readsGuest_176 rfl
theorem x132_178 {x : Int32} : X 132 178 L (.int x :: st) h Q ↔ if x = 0 then X 132 192 L st h Q else X 132 181 L st h Q := X_zeq mC_132 dX8_readsGuest_178 (by decide)
theorem x132_181 {l1 l2 l3 l4 l5 l6 l7 : Value} {x : Nat} : X 132 181 [.ref x, l1, l2, l3, l4, l5, l6, l7] st h Q ↔ X 132 182 [.ref x, l1, l2, l3, l4, l5, l6, l7] (.ref x :: st) h Q := X_n mC_132 dX8_readsGuest_181 rfl
theorem x132_182 {l0 l2 l3 l4 l5 l6 l7 : Value} {x : Int32} : X 132 182 [l0, .int x, l2, l3, l4, l5, l6, l7] st h Q ↔ X 132 183 [l0, .int x, l2, l3, l4, l5, l6, l7] (.int x :: st) h Q := X_n mC_132 dX8_readsGuest_182 rfl
theorem x132_183 {l0 l1 l3 l4 l5 l6 l7 : Value} {x : Int32} : X 132 183 [l0, l1, .int x, l3, l4, l5, l6, l7] st h Q ↔ X 132 184 [l0, l1, .int x, l3, l4, l5, l6, l7] (.int x :: st) h Q := X_n mC_132 dX8_readsGuest_183 rfl
theorem x132_184 {l0 l1 l2 l4 l5 l6 l7 : Value} {x : Int32} : X 132 184 [l0, l1, l2, .int x, l4, l5, l6, l7] st h Q ↔ X 132 185 [l0, l1, l2, .int x, l4, l5, l6, l7] (.int x :: st) h Q := X_n mC_132 dX8_readsGuest_184 rfl
theorem x132_185 {l0 l1 l2 l3 l5 l6 l7 : Value} {x : Int32} : X 132 185 [l0, l1, l2, l3, .int x, l5, l6, l7] st h Q ↔ X 132 187 [l0, l1, l2, l3, .int x, l5, l6, l7] (.int x :: st) h Q := X_n mC_132 dX8_readsGuest_185 rfl
theorem x132_187 {l0 l1 l2 l3 l4 l6 l7 : Value} {x : Int32} : X 132 187 [l0, l1, l2, l3, l4, .int x, l6, l7] st h Q ↔ X 132 189 [l0, l1, l2, l3, l4, .int x, l6, l7] (.int x :: st) h Q := X_n mC_132 dX8_readsGuest_187 rfl
theorem x132_189 {b : Nat} {a0 : Int32} {a1 : Int32} {a2 : Int32} {a3 : Int32} {a4 : Int32} : X 132 189 L [.int a4, .int a3, .int a2, .int a1, .int a0, .ref b] h Q ↔ hS h b = (1, 8) ∧ X 131 0 [.ref b, .int a0, .int a1, .int a2, .int a3, .int a4, .null] [] h (fun r h' => X 132 192 L (pv r []) h' Q) := X_virt (as := [.int a0, .int a1, .int a2, .int a3, .int a4]) (n := 5) (ml := 7) (ck := 8) mC_132 dX8_readsGuest_189 (by unfold cOk; decide +kernel) ⟨rfl, rfl, by decide, Nat.le_of_ble_eq_true rfl⟩
theorem x132_192 {l0 l1 l2 l3 l4 l5 l7 : Value} {x : Int32} : X 132 192 [l0, l1, l2, l3, l4, l5, .int x, l7] st h Q ↔ X 132 194 [l0, l1, l2, l3, l4, l5, .int x, l7] (.int x :: st) h Q := X_n mC_132 dX8_readsGuest_192 rfl
theorem x132_194 {v : Int32} : X 132 194 L [.int v] h Q ↔ (v = 0 ∨ v = 1) ∧ Q (some (.int v)) h := X_retZ mC_132 dX8_readsGuest_194 (by decide +kernel)
theorem mC_133 : mC 133 = cX8_readsItem := rfl
theorem x133_0 {l0 l2 : Value} {x : Int32} : X 133 0 [l0, .int x, l2] st h Q ↔ X 133 1 [l0, .int x, l2] (.int x :: st) h Q := X_n mC_133 dX8_readsItem_0 rfl
theorem x133_1 : X 133 1 L st h Q ↔ X 133 3 L (.int 110 :: st) h Q := X_n mC_133 dX8_readsItem_1 rfl
theorem x133_3 {x y : Int32} : X 133 3 L (.int y :: .int x :: st) h Q ↔ if x = y then X 133 6 L st h Q else X 133 42 L st h Q := X_ine mC_133 dX8_readsItem_3 (by decide)
theorem x133_6 {l1 l2 : Value} {x : Nat} : X 133 6 [.ref x, l1, l2] st h Q ↔ X 133 7 [.ref x, l1, l2] (.ref x :: st) h Q := X_n mC_133 dX8_readsItem_6 rfl
theorem x133_7 : X 133 7 L st h Q ↔ X 133 8 L (.int 2 :: st) h Q := X_n mC_133 dX8_readsItem_7 rfl
theorem x133_8 : X 133 8 L st h Q ↔ X 133 10 L (.int 6 :: st) h Q := X_n mC_133 dX8_readsItem_8 rfl
theorem x133_10 : X 133 10 L st h Q ↔ X 133 12 L (.int 59 :: st) h Q := X_n mC_133 dX8_readsItem_10 rfl
theorem x133_12 {b : Nat} {a0 : Int32} {a1 : Int32} {a2 : Int32} : X 133 12 L [.int a2, .int a1, .int a0, .ref b] h Q ↔ hS h b = (1, 8) ∧ X 129 0 [.ref b, .int a0, .int a1, .int a2, .null, .null] [] h (fun r h' => X 133 15 L (pv r []) h' Q) := X_virt (as := [.int a0, .int a1, .int a2]) (n := 3) (ml := 6) (ck := 8) mC_133 dX8_readsItem_12 (by unfold cOk; decide +kernel) ⟨rfl, rfl, by decide, Nat.le_of_ble_eq_true rfl⟩
theorem x133_15 {l0 l1 l2 : Value} {x : Int32} : X 133 15 [l0, l1, l2] (.int x :: st) h Q ↔ c1 l1 = true ∧ X 133 16 [l0, l1, .int x] st h Q := X_sto (kk := 2) (pc' := 16) (w := .int x) mC_133 dX8_readsItem_15 rfl (Nat.le_of_ble_eq_true rfl) rfl
theorem x133_16 {l1 l2 : Value} {x : Nat} : X 133 16 [.ref x, l1, l2] st h Q ↔ X 133 17 [.ref x, l1, l2] (.ref x :: st) h Q := X_n mC_133 dX8_readsItem_16 rfl
theorem x133_17 {a : Nat} : X 133 17 L (.ref a :: st) h Q ↔ (hS h a = (1, 8) ∧ hR h a 3 ≠ 0) ∧ X 133 20 L (.ref (hR h a 3) :: st) h Q := X_getR mC_133 dX8_readsItem_17 (by decide +kernel)
theorem x133_20 : X 133 20 L st h Q ↔ X 133 21 L (.int 1 :: st) h Q := X_n mC_133 dX8_readsItem_20 rfl
theorem x133_21 {l0 l1 : Value} {x : Int32} : X 133 21 [l0, l1, .int x] st h Q ↔ X 133 22 [l0, l1, .int x] (.int x :: st) h Q := X_n mC_133 dX8_readsItem_21 rfl
theorem x133_22 {j x : Int32} {a : Nat} : X 133 22 L (.int x :: .int j :: .ref a :: st) h Q ↔ ibw j (hS h a) ∧ X 133 23 L st (sI h a j.toNatClampNeg x) Q := X_iast mC_133 dX8_readsItem_22
theorem x133_23 {l0 l1 : Value} {x : Int32} : X 133 23 [l0, l1, .int x] st h Q ↔ X 133 24 [l0, l1, .int x] (.int x :: st) h Q := X_n mC_133 dX8_readsItem_23 rfl
theorem x133_24 {x : Int32} : X 133 24 L (.int x :: st) h Q ↔ if 0 < x then X 133 27 L st h Q else X 133 40 L st h Q := X_zle mC_133 dX8_readsItem_24 (by decide)
theorem x133_27 {l1 l2 : Value} {x : Nat} : X 133 27 [.ref x, l1, l2] st h Q ↔ X 133 28 [.ref x, l1, l2] (.ref x :: st) h Q := X_n mC_133 dX8_readsItem_27 rfl
theorem x133_28 {a : Nat} : X 133 28 L (.ref a :: st) h Q ↔ (hS h a = (1, 8) ∧ hR h a 3 ≠ 0) ∧ X 133 31 L (.ref (hR h a 3) :: st) h Q := X_getR mC_133 dX8_readsItem_28 (by decide +kernel)
theorem x133_31 : X 133 31 L st h Q ↔ X 133 32 L (.int 5 :: st) h Q := X_n mC_133 dX8_readsItem_31 rfl
theorem x133_32 {j : Int32} {a : Nat} : X 133 32 L (.int j :: .ref a :: st) h Q ↔ ib j (hS h a) ∧ X 133 33 L (.int (hI h a j.toNatClampNeg) :: st) h Q := X_iald mC_133 dX8_readsItem_32
theorem x133_33 {x : Int32} : X 133 33 L (.int x :: st) h Q ↔ if x = 0 then X 133 36 L st h Q else X 133 40 L st h Q := X_zne mC_133 dX8_readsItem_33 (by decide)
theorem x133_36 : X 133 36 L st h Q ↔ X 133 37 L (.int 1 :: st) h Q := X_n mC_133 dX8_readsItem_36 rfl
theorem x133_37 : X 133 37 L st h Q ↔ X 133 41 L st h Q := X_goto mC_133 dX8_readsItem_37 (by decide)
theorem x133_40 : X 133 40 L st h Q ↔ X 133 41 L (.int 0 :: st) h Q := X_n mC_133 dX8_readsItem_40 rfl
theorem x133_41 {v : Int32} : X 133 41 L [.int v] h Q ↔ (v = 0 ∨ v = 1) ∧ Q (some (.int v)) h := X_retZ mC_133 dX8_readsItem_41 (by decide +kernel)
theorem x133_42 {l1 l2 : Value} {x : Nat} : X 133 42 [.ref x, l1, l2] st h Q ↔ X 133 43 [.ref x, l1, l2] (.ref x :: st) h Q := X_n mC_133 dX8_readsItem_42 rfl
theorem x133_43 {a : Nat} : X 133 43 L (.ref a :: st) h Q ↔ (hS h a = (1, 8) ∧ hR h a 3 ≠ 0) ∧ X 133 46 L (.ref (hR h a 3) :: st) h Q := X_getR mC_133 dX8_readsItem_43 (by decide +kernel)
theorem x133_46 : X 133 46 L st h Q ↔ X 133 47 L (.int 5 :: st) h Q := X_n mC_133 dX8_readsItem_46 rfl
theorem x133_47 : X 133 47 L st h Q ↔ X 133 48 L (.int 1 :: st) h Q := X_n mC_133 dX8_readsItem_47 rfl
theorem x133_48 {j x : Int32} {a : Nat} : X 133 48 L (.int x :: .int j :: .ref a :: st) h Q ↔ ibw j (hS h a) ∧ X 133 49 L st (sI h a j.toNatClampNeg x) Q := X_iast mC_133 dX8_readsItem_48
theorem x133_49 {l0 l2 : Value} {x : Int32} : X 133 49 [l0, .int x, l2] st h Q ↔ X 133 50 [l0, .int x, l2] (.int x :: st) h Q := X_n mC_133 dX8_readsItem_49 rfl
theorem x133_50 {x : Int32} : X 133 50 L (.int x :: st) h Q ↔ if x = 99 then X 133 143 L st h Q else if x = 103 then X 133 92 L st h Q else if x = 114 then X 133 173 L st h Q else if x = 119 then X 133 97 L st h Q else X 133 203 L st h Q := by
  by_cases h99 : x = 99
  · subst h99; simp only [if_true]; exact X_look (off := 93) mC_133 dX8_readsItem_50 (by decide) (by decide) (by decide)
  rw [if_neg h99]
  by_cases h103 : x = 103
  · subst h103; simp only [if_true]; exact X_look (off := 42) mC_133 dX8_readsItem_50 (by decide) (by decide) (by decide)
  rw [if_neg h103]
  by_cases h114 : x = 114
  · subst h114; simp only [if_true]; exact X_look (off := 123) mC_133 dX8_readsItem_50 (by decide) (by decide) (by decide)
  rw [if_neg h114]
  by_cases h119 : x = 119
  · subst h119; simp only [if_true]; exact X_look (off := 47) mC_133 dX8_readsItem_50 (by decide) (by decide) (by decide)
  rw [if_neg h119]
  have q99 := toInt_ne h99
  rw [show (99 : Int32).toInt = 99 by decide] at q99
  have q103 := toInt_ne h103
  rw [show (103 : Int32).toInt = 103 by decide] at q103
  have q114 := toInt_ne h114
  rw [show (114 : Int32).toInt = 114 by decide] at q114
  have q119 := toInt_ne h119
  rw [show (119 : Int32).toInt = 119 by decide] at q119
  exact X_look (off := 153) mC_133 dX8_readsItem_50 (by decide) (by simp [Op.lookupswitch.offset, Ne.symm q99, q99, Ne.symm q103, q103, Ne.symm q114, q114, Ne.symm q119, q119]) (by decide)
theorem x133_92 {l1 l2 : Value} {x : Nat} : X 133 92 [.ref x, l1, l2] st h Q ↔ X 133 93 [.ref x, l1, l2] (.ref x :: st) h Q := X_n mC_133 dX8_readsItem_92 rfl
theorem x133_93 {b : Nat} : X 133 93 L [.ref b] h Q ↔ hS h b = (1, 8) ∧ X 132 0 [.ref b, .null, .null, .null, .null, .null, .null, .null] [] h (fun r h' => X 133 96 L (pv r []) h' Q) := X_virt (as := []) (n := 0) (ml := 8) (ck := 8) mC_133 dX8_readsItem_93 (by unfold cOk; decide +kernel) ⟨rfl, rfl, by decide, Nat.le_of_ble_eq_true rfl⟩
theorem x133_96 {v : Int32} : X 133 96 L [.int v] h Q ↔ (v = 0 ∨ v = 1) ∧ Q (some (.int v)) h := X_retZ mC_133 dX8_readsItem_96 (by decide +kernel)
theorem x133_97 {l1 l2 : Value} {x : Nat} : X 133 97 [.ref x, l1, l2] st h Q ↔ X 133 98 [.ref x, l1, l2] (.ref x :: st) h Q := X_n mC_133 dX8_readsItem_97 rfl
theorem x133_98 : X 133 98 L st h Q ↔ X 133 99 L (.int 0 :: st) h Q := X_n mC_133 dX8_readsItem_98 rfl
theorem x133_99 {l1 l2 : Value} {x : Nat} : X 133 99 [.ref x, l1, l2] st h Q ↔ X 133 100 [.ref x, l1, l2] (.ref x :: st) h Q := X_n mC_133 dX8_readsItem_99 rfl
theorem x133_100 {a : Nat} : X 133 100 L (.ref a :: st) h Q ↔ (hS h a = (1, 8) ∧ hR h a 3 ≠ 0) ∧ X 133 103 L (.ref (hR h a 3) :: st) h Q := X_getR mC_133 dX8_readsItem_100 (by decide +kernel)
theorem x133_103 : X 133 103 L st h Q ↔ X 133 104 L (.int 1 :: st) h Q := X_n mC_133 dX8_readsItem_103 rfl
theorem x133_104 {j : Int32} {a : Nat} : X 133 104 L (.int j :: .ref a :: st) h Q ↔ ib j (hS h a) ∧ X 133 105 L (.int (hI h a j.toNatClampNeg) :: st) h Q := X_iald mC_133 dX8_readsItem_104
theorem x133_105 : X 133 105 L st h Q ↔ X 133 106 L (.int 2 :: st) h Q := X_n mC_133 dX8_readsItem_105 rfl
theorem x133_106 {x y : Int32} : X 133 106 L (.int y :: .int x :: st) h Q ↔ X 133 107 L (.int (x - y) :: st) h Q := X_n mC_133 dX8_readsItem_106 rfl
theorem x133_107 : X 133 107 L st h Q ↔ X 133 109 L (.int 59 :: st) h Q := X_n mC_133 dX8_readsItem_107 rfl
theorem x133_109 {b : Nat} {a0 : Int32} {a1 : Int32} {a2 : Int32} : X 133 109 L [.int a2, .int a1, .int a0, .ref b] h Q ↔ hS h b = (1, 8) ∧ X 129 0 [.ref b, .int a0, .int a1, .int a2, .null, .null] [] h (fun r h' => X 133 112 L (pv r []) h' Q) := X_virt (as := [.int a0, .int a1, .int a2]) (n := 3) (ml := 6) (ck := 8) mC_133 dX8_readsItem_109 (by unfold cOk; decide +kernel) ⟨rfl, rfl, by decide, Nat.le_of_ble_eq_true rfl⟩
theorem x133_112 {l0 l1 l2 : Value} {x : Int32} : X 133 112 [l0, l1, l2] (.int x :: st) h Q ↔ c1 l1 = true ∧ X 133 113 [l0, l1, .int x] st h Q := X_sto (kk := 2) (pc' := 113) (w := .int x) mC_133 dX8_readsItem_112 rfl (Nat.le_of_ble_eq_true rfl) rfl
theorem x133_113 {l1 l2 : Value} {x : Nat} : X 133 113 [.ref x, l1, l2] st h Q ↔ X 133 114 [.ref x, l1, l2] (.ref x :: st) h Q := X_n mC_133 dX8_readsItem_113 rfl
theorem x133_114 {a : Nat} : X 133 114 L (.ref a :: st) h Q ↔ (hS h a = (1, 8) ∧ hR h a 3 ≠ 0) ∧ X 133 117 L (.ref (hR h a 3) :: st) h Q := X_getR mC_133 dX8_readsItem_114 (by decide +kernel)
theorem x133_117 : X 133 117 L st h Q ↔ X 133 118 L (.int 4 :: st) h Q := X_n mC_133 dX8_readsItem_117 rfl
theorem x133_118 {x : Nat} {y : Int32} : X 133 118 L (.int y :: .ref x :: st) h Q ↔ X 133 119 L (.int y :: .ref x :: .int y :: .ref x :: st) h Q := X_n mC_133 dX8_readsItem_118 rfl
theorem x133_119 {j : Int32} {a : Nat} : X 133 119 L (.int j :: .ref a :: st) h Q ↔ ib j (hS h a) ∧ X 133 120 L (.int (hI h a j.toNatClampNeg) :: st) h Q := X_iald mC_133 dX8_readsItem_119
theorem x133_120 {l0 l1 : Value} {x : Int32} : X 133 120 [l0, l1, .int x] st h Q ↔ X 133 121 [l0, l1, .int x] (.int x :: st) h Q := X_n mC_133 dX8_readsItem_120 rfl
theorem x133_121 {x : Int32} : X 133 121 L (.int x :: st) h Q ↔ if x < 0 then X 133 124 L st h Q else X 133 128 L st h Q := X_zge mC_133 dX8_readsItem_121 (by decide)
theorem x133_124 : X 133 124 L st h Q ↔ X 133 125 L (.int 0 :: st) h Q := X_n mC_133 dX8_readsItem_124 rfl
theorem x133_125 : X 133 125 L st h Q ↔ X 133 131 L st h Q := X_goto mC_133 dX8_readsItem_125 (by decide)
theorem x133_128 : X 133 128 L st h Q ↔ X 133 129 L (.int 1 :: st) h Q := X_n mC_133 dX8_readsItem_128 rfl
theorem x133_129 {l0 l1 : Value} {x : Int32} : X 133 129 [l0, l1, .int x] st h Q ↔ X 133 130 [l0, l1, .int x] (.int x :: st) h Q := X_n mC_133 dX8_readsItem_129 rfl
theorem x133_130 {x y : Int32} : X 133 130 L (.int y :: .int x :: st) h Q ↔ X 133 131 L (.int (x <<< (y &&& 31)) :: st) h Q := X_n mC_133 dX8_readsItem_130 rfl
theorem x133_131 {x y : Int32} : X 133 131 L (.int y :: .int x :: st) h Q ↔ X 133 132 L (.int (x ||| y) :: st) h Q := X_n mC_133 dX8_readsItem_131 rfl
theorem x133_132 {j x : Int32} {a : Nat} : X 133 132 L (.int x :: .int j :: .ref a :: st) h Q ↔ ibw j (hS h a) ∧ X 133 133 L st (sI h a j.toNatClampNeg x) Q := X_iast mC_133 dX8_readsItem_132
theorem x133_133 {l0 l1 : Value} {x : Int32} : X 133 133 [l0, l1, .int x] st h Q ↔ X 133 134 [l0, l1, .int x] (.int x :: st) h Q := X_n mC_133 dX8_readsItem_133 rfl
theorem x133_134 {x : Int32} : X 133 134 L (.int x :: st) h Q ↔ if x < 0 then X 133 141 L st h Q else X 133 137 L st h Q := X_zlt mC_133 dX8_readsItem_134 (by decide)
theorem x133_137 : X 133 137 L st h Q ↔ X 133 138 L (.int 1 :: st) h Q := X_n mC_133 dX8_readsItem_137 rfl
theorem x133_138 : X 133 138 L st h Q ↔ X 133 142 L st h Q := X_goto mC_133 dX8_readsItem_138 (by decide)
theorem x133_141 : X 133 141 L st h Q ↔ X 133 142 L (.int 0 :: st) h Q := X_n mC_133 dX8_readsItem_141 rfl
theorem x133_142 {v : Int32} : X 133 142 L [.int v] h Q ↔ (v = 0 ∨ v = 1) ∧ Q (some (.int v)) h := X_retZ mC_133 dX8_readsItem_142 (by decide +kernel)
theorem x133_143 {l1 l2 : Value} {x : Nat} : X 133 143 [.ref x, l1, l2] st h Q ↔ X 133 144 [.ref x, l1, l2] (.ref x :: st) h Q := X_n mC_133 dX8_readsItem_143 rfl
theorem x133_144 {a : Nat} : X 133 144 L (.ref a :: st) h Q ↔ (hS h a = (1, 8) ∧ hR h a 3 ≠ 0) ∧ X 133 147 L (.ref (hR h a 3) :: st) h Q := X_getR mC_133 dX8_readsItem_144 (by decide +kernel)
theorem x133_147 : X 133 147 L st h Q ↔ X 133 148 L (.int 2 :: st) h Q := X_n mC_133 dX8_readsItem_147 rfl
theorem x133_148 {l1 l2 : Value} {x : Nat} : X 133 148 [.ref x, l1, l2] st h Q ↔ X 133 149 [.ref x, l1, l2] (.ref x :: st) h Q := X_n mC_133 dX8_readsItem_148 rfl
theorem x133_149 : X 133 149 L st h Q ↔ X 133 150 L (.int 0 :: st) h Q := X_n mC_133 dX8_readsItem_149 rfl
theorem x133_150 : X 133 150 L st h Q ↔ X 133 152 L (.int 40 :: st) h Q := X_n mC_133 dX8_readsItem_150 rfl
theorem x133_152 : X 133 152 L st h Q ↔ X 133 154 L (.int 59 :: st) h Q := X_n mC_133 dX8_readsItem_152 rfl
theorem x133_154 {b : Nat} {a0 : Int32} {a1 : Int32} {a2 : Int32} {w0 w1 : Value} : X 133 154 L [.int a2, .int a1, .int a0, .ref b, w0, w1] h Q ↔ hS h b = (1, 8) ∧ X 129 0 [.ref b, .int a0, .int a1, .int a2, .null, .null] [] h (fun r h' => X 133 157 L (pv r [w0, w1]) h' Q) := X_virt (as := [.int a0, .int a1, .int a2]) (n := 3) (ml := 6) (ck := 8) mC_133 dX8_readsItem_154 (by unfold cOk; decide +kernel) ⟨rfl, rfl, by decide, Nat.le_of_ble_eq_true rfl⟩
theorem x133_157 {j x : Int32} {a : Nat} : X 133 157 L (.int x :: .int j :: .ref a :: st) h Q ↔ ibw j (hS h a) ∧ X 133 158 L st (sI h a j.toNatClampNeg x) Q := X_iast mC_133 dX8_readsItem_157
theorem x133_158 {l1 l2 : Value} {x : Nat} : X 133 158 [.ref x, l1, l2] st h Q ↔ X 133 159 [.ref x, l1, l2] (.ref x :: st) h Q := X_n mC_133 dX8_readsItem_158 rfl
theorem x133_159 {a : Nat} : X 133 159 L (.ref a :: st) h Q ↔ (hS h a = (1, 8) ∧ hR h a 3 ≠ 0) ∧ X 133 162 L (.ref (hR h a 3) :: st) h Q := X_getR mC_133 dX8_readsItem_159 (by decide +kernel)
theorem x133_162 : X 133 162 L st h Q ↔ X 133 163 L (.int 2 :: st) h Q := X_n mC_133 dX8_readsItem_162 rfl
theorem x133_163 {j : Int32} {a : Nat} : X 133 163 L (.int j :: .ref a :: st) h Q ↔ ib j (hS h a) ∧ X 133 164 L (.int (hI h a j.toNatClampNeg) :: st) h Q := X_iald mC_133 dX8_readsItem_163
theorem x133_164 {x : Int32} : X 133 164 L (.int x :: st) h Q ↔ if x < 0 then X 133 171 L st h Q else X 133 167 L st h Q := X_zlt mC_133 dX8_readsItem_164 (by decide)
theorem x133_167 : X 133 167 L st h Q ↔ X 133 168 L (.int 1 :: st) h Q := X_n mC_133 dX8_readsItem_167 rfl
theorem x133_168 : X 133 168 L st h Q ↔ X 133 172 L st h Q := X_goto mC_133 dX8_readsItem_168 (by decide)
theorem x133_171 : X 133 171 L st h Q ↔ X 133 172 L (.int 0 :: st) h Q := X_n mC_133 dX8_readsItem_171 rfl
theorem x133_172 {v : Int32} : X 133 172 L [.int v] h Q ↔ (v = 0 ∨ v = 1) ∧ Q (some (.int v)) h := X_retZ mC_133 dX8_readsItem_172 (by decide +kernel)
theorem x133_173 {l1 l2 : Value} {x : Nat} : X 133 173 [.ref x, l1, l2] st h Q ↔ X 133 174 [.ref x, l1, l2] (.ref x :: st) h Q := X_n mC_133 dX8_readsItem_173 rfl
theorem x133_174 {a : Nat} : X 133 174 L (.ref a :: st) h Q ↔ (hS h a = (1, 8) ∧ hR h a 3 ≠ 0) ∧ X 133 177 L (.ref (hR h a 3) :: st) h Q := X_getR mC_133 dX8_readsItem_174 (by decide +kernel)
theorem x133_177 : X 133 177 L st h Q ↔ X 133 178 L (.int 3 :: st) h Q := X_n mC_133 dX8_readsItem_177 rfl
theorem x133_178 {l1 l2 : Value} {x : Nat} : X 133 178 [.ref x, l1, l2] st h Q ↔ X 133 179 [.ref x, l1, l2] (.ref x :: st) h Q := X_n mC_133 dX8_readsItem_178 rfl
theorem x133_179 : X 133 179 L st h Q ↔ X 133 180 L (.int 0 :: st) h Q := X_n mC_133 dX8_readsItem_179 rfl
theorem x133_180 : X 133 180 L st h Q ↔ X 133 182 L (.int 12 :: st) h Q := X_n mC_133 dX8_readsItem_180 rfl
theorem x133_182 : X 133 182 L st h Q ↔ X 133 184 L (.int 59 :: st) h Q := X_n mC_133 dX8_readsItem_182 rfl
theorem x133_184 {b : Nat} {a0 : Int32} {a1 : Int32} {a2 : Int32} {w0 w1 : Value} : X 133 184 L [.int a2, .int a1, .int a0, .ref b, w0, w1] h Q ↔ hS h b = (1, 8) ∧ X 129 0 [.ref b, .int a0, .int a1, .int a2, .null, .null] [] h (fun r h' => X 133 187 L (pv r [w0, w1]) h' Q) := X_virt (as := [.int a0, .int a1, .int a2]) (n := 3) (ml := 6) (ck := 8) mC_133 dX8_readsItem_184 (by unfold cOk; decide +kernel) ⟨rfl, rfl, by decide, Nat.le_of_ble_eq_true rfl⟩
theorem x133_187 {j x : Int32} {a : Nat} : X 133 187 L (.int x :: .int j :: .ref a :: st) h Q ↔ ibw j (hS h a) ∧ X 133 188 L st (sI h a j.toNatClampNeg x) Q := X_iast mC_133 dX8_readsItem_187
theorem x133_188 {l1 l2 : Value} {x : Nat} : X 133 188 [.ref x, l1, l2] st h Q ↔ X 133 189 [.ref x, l1, l2] (.ref x :: st) h Q := X_n mC_133 dX8_readsItem_188 rfl
theorem x133_189 {a : Nat} : X 133 189 L (.ref a :: st) h Q ↔ (hS h a = (1, 8) ∧ hR h a 3 ≠ 0) ∧ X 133 192 L (.ref (hR h a 3) :: st) h Q := X_getR mC_133 dX8_readsItem_189 (by decide +kernel)
theorem x133_192 : X 133 192 L st h Q ↔ X 133 193 L (.int 3 :: st) h Q := X_n mC_133 dX8_readsItem_192 rfl
theorem x133_193 {j : Int32} {a : Nat} : X 133 193 L (.int j :: .ref a :: st) h Q ↔ ib j (hS h a) ∧ X 133 194 L (.int (hI h a j.toNatClampNeg) :: st) h Q := X_iald mC_133 dX8_readsItem_193
theorem x133_194 {x : Int32} : X 133 194 L (.int x :: st) h Q ↔ if x < 0 then X 133 201 L st h Q else X 133 197 L st h Q := X_zlt mC_133 dX8_readsItem_194 (by decide)
theorem x133_197 : X 133 197 L st h Q ↔ X 133 198 L (.int 1 :: st) h Q := X_n mC_133 dX8_readsItem_197 rfl
theorem x133_198 : X 133 198 L st h Q ↔ X 133 202 L st h Q := X_goto mC_133 dX8_readsItem_198 (by decide)
theorem x133_201 : X 133 201 L st h Q ↔ X 133 202 L (.int 0 :: st) h Q := X_n mC_133 dX8_readsItem_201 rfl
theorem x133_202 {v : Int32} : X 133 202 L [.int v] h Q ↔ (v = 0 ∨ v = 1) ∧ Q (some (.int v)) h := X_retZ mC_133 dX8_readsItem_202 (by decide +kernel)
theorem x133_203 : X 133 203 L st h Q ↔ X 133 204 L (.int 0 :: st) h Q := X_n mC_133 dX8_readsItem_203 rfl
theorem x133_204 {v : Int32} : X 133 204 L [.int v] h Q ↔ (v = 0 ∨ v = 1) ∧ Q (some (.int v)) h := X_retZ mC_133 dX8_readsItem_204 (by decide +kernel)
theorem mC_134 : mC 134 = cX8_reads := rfl
theorem x134_0 {l1 : Value} {x : Nat} : X 134 0 [.ref x, l1] st h Q ↔ X 134 1 [.ref x, l1] (.ref x :: st) h Q := X_n mC_134 dX8_reads_0 rfl
theorem x134_1 {b : Nat} : X 134 1 L [.ref b] h Q ↔ hS h b = (1, 8) ∧ X 130 0 [.ref b, .null] [] h (fun r h' => X 134 4 L (pv r []) h' Q) := X_virt (as := []) (n := 0) (ml := 2) (ck := 8) mC_134 dX8_reads_1 (by unfold cOk; decide +kernel) ⟨rfl, rfl, by decide, Nat.le_of_ble_eq_true rfl⟩
theorem x134_4 {l1 : Value} {x : Nat} : X 134 4 [.ref x, l1] st h Q ↔ X 134 5 [.ref x, l1] (.ref x :: st) h Q := X_n mC_134 dX8_reads_4 rfl
theorem x134_5 : X 134 5 L st h Q ↔ X 134 6 L (.int 0 :: st) h Q := X_n mC_134 dX8_reads_5 rfl
theorem x134_6 {a : Nat} {v : Int32} : X 134 6 L (.int v :: .ref a :: st) h Q ↔ hS h a = (1, 8) ∧ X 134 9 L st (sI h a 11 v) Q := X_putI mC_134 dX8_reads_6 (by decide +kernel)
theorem x134_9 {l1 : Value} {x : Nat} : X 134 9 [.ref x, l1] st h Q ↔ X 134 10 [.ref x, l1] (.ref x :: st) h Q := X_n mC_134 dX8_reads_9 rfl
theorem x134_10 {a : Nat} : X 134 10 L (.ref a :: st) h Q ↔ hS h a = (1, 8) ∧ X 134 13 L (.int (hI h a 11) :: st) h Q := X_getI mC_134 dX8_reads_10 (by decide +kernel)
theorem x134_13 {l1 : Value} {x : Nat} : X 134 13 [.ref x, l1] st h Q ↔ X 134 14 [.ref x, l1] (.ref x :: st) h Q := X_n mC_134 dX8_reads_13 rfl
theorem x134_14 {a : Nat} : X 134 14 L (.ref a :: st) h Q ↔ hS h a = (1, 8) ∧ X 134 17 L (.int (hI h a 1) :: st) h Q := X_getI mC_134 dX8_reads_14 (by decide +kernel)
theorem x134_17 {x y : Int32} : X 134 17 L (.int y :: .int x :: st) h Q ↔ if x < y then X 134 20 L st h Q else X 134 53 L st h Q := X_ige mC_134 dX8_reads_17 (by decide)
theorem x134_20 {l1 : Value} {x : Nat} : X 134 20 [.ref x, l1] st h Q ↔ X 134 21 [.ref x, l1] (.ref x :: st) h Q := X_n mC_134 dX8_reads_20 rfl
theorem x134_21 {a : Nat} : X 134 21 L (.ref a :: st) h Q ↔ hS h a = (1, 8) ∧ X 134 24 L (.int (hI h a 11) :: st) h Q := X_getI mC_134 dX8_reads_21 (by decide +kernel)
theorem x134_24 {l0 l1 : Value} {x : Int32} : X 134 24 [l0, l1] (.int x :: st) h Q ↔ c1 l0 = true ∧ X 134 25 [l0, .int x] st h Q := X_sto (kk := 1) (pc' := 25) (w := .int x) mC_134 dX8_reads_24 rfl (Nat.le_of_ble_eq_true rfl) rfl
theorem x134_25 {l1 : Value} {x : Nat} : X 134 25 [.ref x, l1] st h Q ↔ X 134 26 [.ref x, l1] (.ref x :: st) h Q := X_n mC_134 dX8_reads_25 rfl
theorem x134_26 {x : Nat} : X 134 26 L (.ref x :: st) h Q ↔ X 134 27 L (.ref x :: .ref x :: st) h Q := X_n mC_134 dX8_reads_26 rfl
theorem x134_27 {a : Nat} : X 134 27 L (.ref a :: st) h Q ↔ hS h a = (1, 8) ∧ X 134 30 L (.int (hI h a 11) :: st) h Q := X_getI mC_134 dX8_reads_27 (by decide +kernel)
theorem x134_30 : X 134 30 L st h Q ↔ X 134 31 L (.int 1 :: st) h Q := X_n mC_134 dX8_reads_30 rfl
theorem x134_31 {x y : Int32} : X 134 31 L (.int y :: .int x :: st) h Q ↔ X 134 32 L (.int (x + y) :: st) h Q := X_n mC_134 dX8_reads_31 rfl
theorem x134_32 {a : Nat} {v : Int32} : X 134 32 L (.int v :: .ref a :: st) h Q ↔ hS h a = (1, 8) ∧ X 134 35 L st (sI h a 11 v) Q := X_putI mC_134 dX8_reads_32 (by decide +kernel)
theorem x134_35 {l1 : Value} {x : Nat} : X 134 35 [.ref x, l1] st h Q ↔ X 134 36 [.ref x, l1] (.ref x :: st) h Q := X_n mC_134 dX8_reads_35 rfl
theorem x134_36 {l1 : Value} {x : Nat} : X 134 36 [.ref x, l1] st h Q ↔ X 134 37 [.ref x, l1] (.ref x :: st) h Q := X_n mC_134 dX8_reads_36 rfl
theorem x134_37 {a : Nat} : X 134 37 L (.ref a :: st) h Q ↔ (hS h a = (1, 8) ∧ hR h a 0 ≠ 0) ∧ X 134 40 L (.ref (hR h a 0) :: st) h Q := X_getR mC_134 dX8_reads_37 (by decide +kernel)
theorem x134_40 {l0 : Value} {x : Int32} : X 134 40 [l0, .int x] st h Q ↔ X 134 41 [l0, .int x] (.int x :: st) h Q := X_n mC_134 dX8_reads_40 rfl
theorem x134_41 {j : Int32} {a : Nat} : X 134 41 L (.int j :: .ref a :: st) h Q ↔ ib j (hS h a) ∧ X 134 42 L (.int (hI h a j.toNatClampNeg) :: st) h Q := X_iald mC_134 dX8_reads_41
theorem x134_42 {b : Nat} {a0 : Int32} : X 134 42 L [.int a0, .ref b] h Q ↔ hS h b = (1, 8) ∧ X 133 0 [.ref b, .int a0, .null] [] h (fun r h' => X 134 45 L (pv r []) h' Q) := X_virt (as := [.int a0]) (n := 1) (ml := 3) (ck := 8) mC_134 dX8_reads_42 (by unfold cOk; decide +kernel) ⟨rfl, rfl, by decide, Nat.le_of_ble_eq_true rfl⟩
theorem x134_45 {x : Int32} : X 134 45 L (.int x :: st) h Q ↔ if x = 0 then X 134 48 L st h Q else X 134 50 L st h Q := X_zne mC_134 dX8_reads_45 (by decide)
theorem x134_48 {l0 : Value} {x : Int32} : X 134 48 [l0, .int x] st h Q ↔ X 134 49 [l0, .int x] (.int x :: st) h Q := X_n mC_134 dX8_reads_48 rfl
theorem x134_49 {v : Int32} : X 134 49 L [.int v] h Q ↔ Q (some (.int v)) h := X_ret mC_134 dX8_reads_49 (by decide +kernel)
theorem x134_50 : X 134 50 L st h Q ↔ X 134 9 L st h Q := X_goto mC_134 dX8_reads_50 (by decide)
theorem x134_53 : X 134 53 L st h Q ↔ X 134 55 L (.int (-4) :: st) h Q := X_n mC_134 dX8_reads_53 rfl
theorem x134_55 {v : Int32} : X 134 55 L [.int v] h Q ↔ Q (some (.int v)) h := X_ret mC_134 dX8_reads_55 (by decide +kernel)
theorem mC_135 : mC 135 = cX8_fault := rfl
theorem x135_0 {x : Nat} : X 135 0 [.ref x] st h Q ↔ X 135 1 [.ref x] (.ref x :: st) h Q := X_n mC_135 dX8_fault_0 rfl
theorem x135_1 {b : Nat} : X 135 1 L [.ref b] h Q ↔ hS h b = (1, 8) ∧ X 134 0 [.ref b, .null] [] h (fun r h' => X 135 4 L (pv r []) h' Q) := X_virt (as := []) (n := 0) (ml := 2) (ck := 8) mC_135 dX8_fault_1 (by unfold cOk; decide +kernel) ⟨rfl, rfl, by decide, Nat.le_of_ble_eq_true rfl⟩
theorem x135_4 {v : Int32} : X 135 4 L [.int v] h Q ↔ Q (some (.int v)) h := X_ret mC_135 dX8_fault_4 (by decide +kernel)
theorem mC_136 : mC 136 = cX8_lays := rfl
theorem x136_0 : X 136 0 L st h Q ↔ X 136 1 L (.int 0 :: st) h Q := X_n mC_136 dX8_lays_0 rfl
theorem x136_1 {l0 l1 : Value} {x : Int32} : X 136 1 [l0, l1] (.int x :: st) h Q ↔ c1 l0 = true ∧ X 136 2 [l0, .int x] st h Q := X_sto (kk := 1) (pc' := 2) (w := .int x) mC_136 dX8_lays_1 rfl (Nat.le_of_ble_eq_true rfl) rfl
theorem x136_2 {l0 : Value} {x : Int32} : X 136 2 [l0, .int x] st h Q ↔ X 136 3 [l0, .int x] (.int x :: st) h Q := X_n mC_136 dX8_lays_2 rfl
theorem x136_3 : X 136 3 L st h Q ↔ X 136 5 L (.int 31 :: st) h Q := X_n mC_136 dX8_lays_3 rfl
theorem x136_5 {x y : Int32} : X 136 5 L (.int y :: .int x :: st) h Q ↔ if x < y then X 136 8 L st h Q else X 136 26 L st h Q := X_ige mC_136 dX8_lays_5 (by decide)
theorem x136_8 {l1 : Value} {x : Nat} : X 136 8 [.ref x, l1] st h Q ↔ X 136 9 [.ref x, l1] (.ref x :: st) h Q := X_n mC_136 dX8_lays_8 rfl
theorem x136_9 {a : Nat} : X 136 9 L (.ref a :: st) h Q ↔ (hS h a = (1, 8) ∧ hR h a 2 ≠ 0) ∧ X 136 12 L (.ref (hR h a 2) :: st) h Q := X_getR mC_136 dX8_lays_9 (by decide +kernel)
theorem x136_12 {l0 : Value} {x : Int32} : X 136 12 [l0, .int x] st h Q ↔ X 136 13 [l0, .int x] (.int x :: st) h Q := X_n mC_136 dX8_lays_12 rfl
theorem x136_13 {l1 : Value} {x : Nat} : X 136 13 [.ref x, l1] st h Q ↔ X 136 14 [.ref x, l1] (.ref x :: st) h Q := X_n mC_136 dX8_lays_13 rfl
theorem x136_14 {a : Nat} : X 136 14 L (.ref a :: st) h Q ↔ (hS h a = (1, 8) ∧ hR h a 3 ≠ 0) ∧ X 136 17 L (.ref (hR h a 3) :: st) h Q := X_getR mC_136 dX8_lays_14 (by decide +kernel)
theorem x136_17 {l0 : Value} {x : Int32} : X 136 17 [l0, .int x] st h Q ↔ X 136 18 [l0, .int x] (.int x :: st) h Q := X_n mC_136 dX8_lays_17 rfl
theorem x136_18 {j : Int32} {a : Nat} : X 136 18 L (.int j :: .ref a :: st) h Q ↔ ib j (hS h a) ∧ X 136 19 L (.int (hI h a j.toNatClampNeg) :: st) h Q := X_iald mC_136 dX8_lays_18
theorem x136_19 {j x : Int32} {a : Nat} : X 136 19 L (.int x :: .int j :: .ref a :: st) h Q ↔ ibw j (hS h a) ∧ X 136 20 L st (sI h a j.toNatClampNeg x) Q := X_iast mC_136 dX8_lays_19
theorem x136_20 {l0 : Value} {x : Int32} : X 136 20 [l0, .int x] st h Q ↔ c1 l0 = true ∧ X 136 23 [l0, .int (x + 1)] st h Q := X_inc (pc' := 23) (x := x) mC_136 dX8_lays_20 rfl rfl rfl
theorem x136_23 : X 136 23 L st h Q ↔ X 136 2 L st h Q := X_goto mC_136 dX8_lays_23 (by decide)
theorem x136_26 : X 136 26 L st h Q ↔ X 136 27 L (.int 0 :: st) h Q := X_n mC_136 dX8_lays_26 rfl
theorem x136_27 {l0 l1 : Value} {x : Int32} : X 136 27 [l0, l1] (.int x :: st) h Q ↔ c1 l0 = true ∧ X 136 28 [l0, .int x] st h Q := X_sto (kk := 1) (pc' := 28) (w := .int x) mC_136 dX8_lays_27 rfl (Nat.le_of_ble_eq_true rfl) rfl
theorem x136_28 {l0 : Value} {x : Int32} : X 136 28 [l0, .int x] st h Q ↔ X 136 29 [l0, .int x] (.int x :: st) h Q := X_n mC_136 dX8_lays_28 rfl
theorem x136_29 : X 136 29 L st h Q ↔ X 136 31 L (.int 10 :: st) h Q := X_n mC_136 dX8_lays_29 rfl
theorem x136_31 {x y : Int32} : X 136 31 L (.int y :: .int x :: st) h Q ↔ if x < y then X 136 34 L st h Q else X 136 64 L st h Q := X_ige mC_136 dX8_lays_31 (by decide)
theorem x136_34 {l1 : Value} {x : Nat} : X 136 34 [.ref x, l1] st h Q ↔ X 136 35 [.ref x, l1] (.ref x :: st) h Q := X_n mC_136 dX8_lays_34 rfl
theorem x136_35 {a : Nat} : X 136 35 L (.ref a :: st) h Q ↔ (hS h a = (1, 8) ∧ hR h a 4 ≠ 0) ∧ X 136 38 L (.ref (hR h a 4) :: st) h Q := X_getR mC_136 dX8_lays_35 (by decide +kernel)
theorem x136_38 {l0 : Value} {x : Int32} : X 136 38 [l0, .int x] st h Q ↔ X 136 39 [l0, .int x] (.int x :: st) h Q := X_n mC_136 dX8_lays_38 rfl
theorem x136_39 {l0 : Value} {x : Int32} : X 136 39 [l0, .int x] st h Q ↔ X 136 40 [l0, .int x] (.int x :: st) h Q := X_n mC_136 dX8_lays_39 rfl
theorem x136_40 : X 136 40 L st h Q ↔ X 136 41 L (.int 5 :: st) h Q := X_n mC_136 dX8_lays_40 rfl
theorem x136_41 {x y : Int32} : X 136 41 L (.int y :: .int x :: st) h Q ↔ if x < y then X 136 44 L st h Q else X 136 56 L st h Q := X_ige mC_136 dX8_lays_41 (by decide)
theorem x136_44 {l1 : Value} {x : Nat} : X 136 44 [.ref x, l1] st h Q ↔ X 136 45 [.ref x, l1] (.ref x :: st) h Q := X_n mC_136 dX8_lays_44 rfl
theorem x136_45 {a : Nat} : X 136 45 L (.ref a :: st) h Q ↔ (hS h a = (1, 8) ∧ hR h a 2 ≠ 0) ∧ X 136 48 L (.ref (hR h a 2) :: st) h Q := X_getR mC_136 dX8_lays_45 (by decide +kernel)
theorem x136_48 : X 136 48 L st h Q ↔ X 136 50 L (.int 26 :: st) h Q := X_n mC_136 dX8_lays_48 rfl
theorem x136_50 {l0 : Value} {x : Int32} : X 136 50 [l0, .int x] st h Q ↔ X 136 51 [l0, .int x] (.int x :: st) h Q := X_n mC_136 dX8_lays_50 rfl
theorem x136_51 {x y : Int32} : X 136 51 L (.int y :: .int x :: st) h Q ↔ X 136 52 L (.int (x + y) :: st) h Q := X_n mC_136 dX8_lays_51 rfl
theorem x136_52 {j : Int32} {a : Nat} : X 136 52 L (.int j :: .ref a :: st) h Q ↔ ib j (hS h a) ∧ X 136 53 L (.int (hI h a j.toNatClampNeg) :: st) h Q := X_iald mC_136 dX8_lays_52
theorem x136_53 : X 136 53 L st h Q ↔ X 136 57 L st h Q := X_goto mC_136 dX8_lays_53 (by decide)
theorem x136_56 : X 136 56 L st h Q ↔ X 136 57 L (.int 0 :: st) h Q := X_n mC_136 dX8_lays_56 rfl
theorem x136_57 {j x : Int32} {a : Nat} : X 136 57 L (.int x :: .int j :: .ref a :: st) h Q ↔ ibw j (hS h a) ∧ X 136 58 L st (sI h a j.toNatClampNeg x) Q := X_iast mC_136 dX8_lays_57
theorem x136_58 {l0 : Value} {x : Int32} : X 136 58 [l0, .int x] st h Q ↔ c1 l0 = true ∧ X 136 61 [l0, .int (x + 1)] st h Q := X_inc (pc' := 61) (x := x) mC_136 dX8_lays_58 rfl rfl rfl
theorem x136_61 : X 136 61 L st h Q ↔ X 136 28 L st h Q := X_goto mC_136 dX8_lays_61 (by decide)
theorem x136_64 {l1 : Value} {x : Nat} : X 136 64 [.ref x, l1] st h Q ↔ X 136 65 [.ref x, l1] (.ref x :: st) h Q := X_n mC_136 dX8_lays_64 rfl
theorem x136_65 {a : Nat} : X 136 65 L (.ref a :: st) h Q ↔ (hS h a = (1, 8) ∧ hR h a 4 ≠ 0) ∧ X 136 68 L (.ref (hR h a 4) :: st) h Q := X_getR mC_136 dX8_lays_65 (by decide +kernel)
theorem x136_68 : X 136 68 L st h Q ↔ X 136 69 L (.int 5 :: st) h Q := X_n mC_136 dX8_lays_68 rfl
theorem x136_69 {l1 : Value} {x : Nat} : X 136 69 [.ref x, l1] st h Q ↔ X 136 70 [.ref x, l1] (.ref x :: st) h Q := X_n mC_136 dX8_lays_69 rfl
theorem x136_70 {a : Nat} : X 136 70 L (.ref a :: st) h Q ↔ (hS h a = (1, 8) ∧ hR h a 2 ≠ 0) ∧ X 136 73 L (.ref (hR h a 2) :: st) h Q := X_getR mC_136 dX8_lays_70 (by decide +kernel)
theorem x136_73 : X 136 73 L st h Q ↔ X 136 74 L (.int 4 :: st) h Q := X_n mC_136 dX8_lays_73 rfl
theorem x136_74 {j : Int32} {a : Nat} : X 136 74 L (.int j :: .ref a :: st) h Q ↔ ib j (hS h a) ∧ X 136 75 L (.int (hI h a j.toNatClampNeg) :: st) h Q := X_iald mC_136 dX8_lays_74
theorem x136_75 {j x : Int32} {a : Nat} : X 136 75 L (.int x :: .int j :: .ref a :: st) h Q ↔ ibw j (hS h a) ∧ X 136 76 L st (sI h a j.toNatClampNeg x) Q := X_iast mC_136 dX8_lays_75
theorem x136_76 {l1 : Value} {x : Nat} : X 136 76 [.ref x, l1] st h Q ↔ X 136 77 [.ref x, l1] (.ref x :: st) h Q := X_n mC_136 dX8_lays_76 rfl
theorem x136_77 : X 136 77 L st h Q ↔ X 136 78 L (.int 0 :: st) h Q := X_n mC_136 dX8_lays_77 rfl
theorem x136_78 {a : Nat} {v : Int32} : X 136 78 L (.int v :: .ref a :: st) h Q ↔ hS h a = (1, 8) ∧ X 136 81 L st (sI h a 6 v) Q := X_putI mC_136 dX8_lays_78 (by decide +kernel)
theorem x136_81 {l1 : Value} {x : Nat} : X 136 81 [.ref x, l1] st h Q ↔ X 136 82 [.ref x, l1] (.ref x :: st) h Q := X_n mC_136 dX8_lays_81 rfl
theorem x136_82 : X 136 82 L st h Q ↔ X 136 83 L (.int 0 :: st) h Q := X_n mC_136 dX8_lays_82 rfl
theorem x136_83 {a : Nat} {v : Int32} : X 136 83 L (.int v :: .ref a :: st) h Q ↔ hS h a = (1, 8) ∧ X 136 86 L st (sI h a 8 v) Q := X_putI mC_136 dX8_lays_83 (by decide +kernel)
theorem x136_86 {l1 : Value} {x : Nat} : X 136 86 [.ref x, l1] st h Q ↔ X 136 87 [.ref x, l1] (.ref x :: st) h Q := X_n mC_136 dX8_lays_86 rfl
theorem x136_87 : X 136 87 L st h Q ↔ X 136 88 L (.int 0 :: st) h Q := X_n mC_136 dX8_lays_87 rfl
theorem x136_88 {a : Nat} {v : Int32} : X 136 88 L (.int v :: .ref a :: st) h Q ↔ hS h a = (1, 8) ∧ X 136 91 L st (sI h a 10 v) Q := X_putI mC_136 dX8_lays_88 (by decide +kernel)
theorem x136_91 : X 136 91 L [] h Q ↔ Q none h := X_retV mC_136 dX8_lays_91 (by decide +kernel)
theorem mC_137 : mC 137 = cX8_lay := rfl
theorem x137_0 {x : Nat} : X 137 0 [.ref x] st h Q ↔ X 137 1 [.ref x] (.ref x :: st) h Q := X_n mC_137 dX8_lay_0 rfl
theorem x137_1 {b : Nat} : X 137 1 L [.ref b] h Q ↔ hS h b = (1, 8) ∧ X 134 0 [.ref b, .null] [] h (fun r h' => X 137 4 L (pv r []) h' Q) := X_virt (as := []) (n := 0) (ml := 2) (ck := 8) mC_137 dX8_lay_1 (by unfold cOk; decide +kernel) ⟨rfl, rfl, by decide, Nat.le_of_ble_eq_true rfl⟩
theorem x137_4 : X 137 4 L st h Q ↔ X 137 6 L (.int (-4) :: st) h Q := X_n mC_137 dX8_lay_4 rfl
theorem x137_6 {x y : Int32} : X 137 6 L (.int y :: .int x :: st) h Q ↔ if x = y then X 137 9 L st h Q else X 137 18 L st h Q := X_ine mC_137 dX8_lay_6 (by decide)
theorem x137_9 {x : Nat} : X 137 9 [.ref x] st h Q ↔ X 137 10 [.ref x] (.ref x :: st) h Q := X_n mC_137 dX8_lay_9 rfl
theorem x137_10 {a : Nat} : X 137 10 L (.ref a :: st) h Q ↔ (hS h a = (1, 8) ∧ hR h a 3 ≠ 0) ∧ X 137 13 L (.ref (hR h a 3) :: st) h Q := X_getR mC_137 dX8_lay_10 (by decide +kernel)
theorem x137_13 : X 137 13 L st h Q ↔ X 137 14 L (.int 0 :: st) h Q := X_n mC_137 dX8_lay_13 rfl
theorem x137_14 {j : Int32} {a : Nat} : X 137 14 L (.int j :: .ref a :: st) h Q ↔ ib j (hS h a) ∧ X 137 15 L (.int (hI h a j.toNatClampNeg) :: st) h Q := X_iald mC_137 dX8_lay_14
theorem x137_15 {x : Int32} : X 137 15 L (.int x :: st) h Q ↔ if x = 0 then X 137 18 L st h Q else X 137 21 L st h Q := X_zne mC_137 dX8_lay_15 (by decide)
theorem x137_18 : X 137 18 L st h Q ↔ X 137 20 L (.int (-2) :: st) h Q := X_n mC_137 dX8_lay_18 rfl
theorem x137_20 {v : Int32} : X 137 20 L [.int v] h Q ↔ Q (some (.int v)) h := X_ret mC_137 dX8_lay_20 (by decide +kernel)
theorem x137_21 {x : Nat} : X 137 21 [.ref x] st h Q ↔ X 137 22 [.ref x] (.ref x :: st) h Q := X_n mC_137 dX8_lay_21 rfl
theorem x137_22 {b : Nat} : X 137 22 L [.ref b] h Q ↔ hS h b = (1, 8) ∧ X 136 0 [.ref b, .null] [] h (fun r h' => X 137 25 L (pv r []) h' Q) := X_virt (as := []) (n := 0) (ml := 2) (ck := 8) mC_137 dX8_lay_22 (by unfold cOk; decide +kernel) ⟨rfl, rfl, by decide, Nat.le_of_ble_eq_true rfl⟩
theorem x137_25 {x : Nat} : X 137 25 [.ref x] st h Q ↔ X 137 26 [.ref x] (.ref x :: st) h Q := X_n mC_137 dX8_lay_25 rfl
theorem x137_26 {a : Nat} : X 137 26 L (.ref a :: st) h Q ↔ (hS h a = (1, 8) ∧ hR h a 2 ≠ 0) ∧ X 137 29 L (.ref (hR h a 2) :: st) h Q := X_getR mC_137 dX8_lay_26 (by decide +kernel)
theorem x137_29 : X 137 29 L st h Q ↔ X 137 30 L (.int 0 :: st) h Q := X_n mC_137 dX8_lay_29 rfl
theorem x137_30 {j : Int32} {a : Nat} : X 137 30 L (.int j :: .ref a :: st) h Q ↔ ib j (hS h a) ∧ X 137 31 L (.int (hI h a j.toNatClampNeg) :: st) h Q := X_iald mC_137 dX8_lay_30
theorem x137_31 {v : Int32} : X 137 31 L [.int v] h Q ↔ Q (some (.int v)) h := X_ret mC_137 dX8_lay_31 (by decide +kernel)
theorem mC_138 : mC 138 = cX8_asItIs := rfl
theorem x138_0 : X 138 0 L st h Q ↔ X 138 1 L (.int 0 :: st) h Q := X_n mC_138 dX8_asItIs_0 rfl
theorem x138_1 {l0 l1 : Value} {x : Int32} : X 138 1 [l0, l1] (.int x :: st) h Q ↔ c1 l0 = true ∧ X 138 2 [l0, .int x] st h Q := X_sto (kk := 1) (pc' := 2) (w := .int x) mC_138 dX8_asItIs_1 rfl (Nat.le_of_ble_eq_true rfl) rfl
theorem x138_2 {l0 : Value} {x : Int32} : X 138 2 [l0, .int x] st h Q ↔ X 138 3 [l0, .int x] (.int x :: st) h Q := X_n mC_138 dX8_asItIs_2 rfl
theorem x138_3 : X 138 3 L st h Q ↔ X 138 4 L (.int 5 :: st) h Q := X_n mC_138 dX8_asItIs_3 rfl
theorem x138_4 {x y : Int32} : X 138 4 L (.int y :: .int x :: st) h Q ↔ if x < y then X 138 7 L st h Q else X 138 40 L st h Q := X_ige mC_138 dX8_asItIs_4 (by decide)
theorem x138_7 {l1 : Value} {x : Nat} : X 138 7 [.ref x, l1] st h Q ↔ X 138 8 [.ref x, l1] (.ref x :: st) h Q := X_n mC_138 dX8_asItIs_7 rfl
theorem x138_8 {a : Nat} : X 138 8 L (.ref a :: st) h Q ↔ (hS h a = (1, 8) ∧ hR h a 12 ≠ 0) ∧ X 138 11 L (.ref (hR h a 12) :: st) h Q := X_getR mC_138 dX8_asItIs_8 (by decide +kernel)
theorem x138_11 {l0 : Value} {x : Int32} : X 138 11 [l0, .int x] st h Q ↔ X 138 12 [l0, .int x] (.int x :: st) h Q := X_n mC_138 dX8_asItIs_11 rfl
theorem x138_12 {l1 : Value} {x : Nat} : X 138 12 [.ref x, l1] st h Q ↔ X 138 13 [.ref x, l1] (.ref x :: st) h Q := X_n mC_138 dX8_asItIs_12 rfl
theorem x138_13 {a : Nat} : X 138 13 L (.ref a :: st) h Q ↔ (hS h a = (1, 8) ∧ hR h a 4 ≠ 0) ∧ X 138 16 L (.ref (hR h a 4) :: st) h Q := X_getR mC_138 dX8_asItIs_13 (by decide +kernel)
theorem x138_16 {l0 : Value} {x : Int32} : X 138 16 [l0, .int x] st h Q ↔ X 138 17 [l0, .int x] (.int x :: st) h Q := X_n mC_138 dX8_asItIs_16 rfl
theorem x138_17 {j : Int32} {a : Nat} : X 138 17 L (.int j :: .ref a :: st) h Q ↔ ib j (hS h a) ∧ X 138 18 L (.int (hI h a j.toNatClampNeg) :: st) h Q := X_iald mC_138 dX8_asItIs_17
theorem x138_18 {j x : Int32} {a : Nat} : X 138 18 L (.int x :: .int j :: .ref a :: st) h Q ↔ ibw j (hS h a) ∧ X 138 19 L st (sI h a j.toNatClampNeg x) Q := X_iast mC_138 dX8_asItIs_18
theorem x138_19 {l1 : Value} {x : Nat} : X 138 19 [.ref x, l1] st h Q ↔ X 138 20 [.ref x, l1] (.ref x :: st) h Q := X_n mC_138 dX8_asItIs_19 rfl
theorem x138_20 {a : Nat} : X 138 20 L (.ref a :: st) h Q ↔ (hS h a = (1, 8) ∧ hR h a 13 ≠ 0) ∧ X 138 23 L (.ref (hR h a 13) :: st) h Q := X_getR mC_138 dX8_asItIs_20 (by decide +kernel)
theorem x138_23 {l0 : Value} {x : Int32} : X 138 23 [l0, .int x] st h Q ↔ X 138 24 [l0, .int x] (.int x :: st) h Q := X_n mC_138 dX8_asItIs_23 rfl
theorem x138_24 {l1 : Value} {x : Nat} : X 138 24 [.ref x, l1] st h Q ↔ X 138 25 [.ref x, l1] (.ref x :: st) h Q := X_n mC_138 dX8_asItIs_24 rfl
theorem x138_25 {a : Nat} : X 138 25 L (.ref a :: st) h Q ↔ (hS h a = (1, 8) ∧ hR h a 2 ≠ 0) ∧ X 138 28 L (.ref (hR h a 2) :: st) h Q := X_getR mC_138 dX8_asItIs_25 (by decide +kernel)
theorem x138_28 : X 138 28 L st h Q ↔ X 138 30 L (.int 6 :: st) h Q := X_n mC_138 dX8_asItIs_28 rfl
theorem x138_30 {l0 : Value} {x : Int32} : X 138 30 [l0, .int x] st h Q ↔ X 138 31 [l0, .int x] (.int x :: st) h Q := X_n mC_138 dX8_asItIs_30 rfl
theorem x138_31 {x y : Int32} : X 138 31 L (.int y :: .int x :: st) h Q ↔ X 138 32 L (.int (x + y) :: st) h Q := X_n mC_138 dX8_asItIs_31 rfl
theorem x138_32 {j : Int32} {a : Nat} : X 138 32 L (.int j :: .ref a :: st) h Q ↔ ib j (hS h a) ∧ X 138 33 L (.int (hI h a j.toNatClampNeg) :: st) h Q := X_iald mC_138 dX8_asItIs_32
theorem x138_33 {j x : Int32} {a : Nat} : X 138 33 L (.int x :: .int j :: .ref a :: st) h Q ↔ ibw j (hS h a) ∧ X 138 34 L st (sI h a j.toNatClampNeg x) Q := X_iast mC_138 dX8_asItIs_33
theorem x138_34 {l0 : Value} {x : Int32} : X 138 34 [l0, .int x] st h Q ↔ c1 l0 = true ∧ X 138 37 [l0, .int (x + 1)] st h Q := X_inc (pc' := 37) (x := x) mC_138 dX8_asItIs_34 rfl rfl rfl
theorem x138_37 : X 138 37 L st h Q ↔ X 138 2 L st h Q := X_goto mC_138 dX8_asItIs_37 (by decide)
theorem x138_40 {l1 : Value} {x : Nat} : X 138 40 [.ref x, l1] st h Q ↔ X 138 41 [.ref x, l1] (.ref x :: st) h Q := X_n mC_138 dX8_asItIs_40 rfl
theorem x138_41 {l1 : Value} {x : Nat} : X 138 41 [.ref x, l1] st h Q ↔ X 138 42 [.ref x, l1] (.ref x :: st) h Q := X_n mC_138 dX8_asItIs_41 rfl
theorem x138_42 {a : Nat} : X 138 42 L (.ref a :: st) h Q ↔ (hS h a = (1, 8) ∧ hR h a 4 ≠ 0) ∧ X 138 45 L (.ref (hR h a 4) :: st) h Q := X_getR mC_138 dX8_asItIs_42 (by decide +kernel)
theorem x138_45 : X 138 45 L st h Q ↔ X 138 46 L (.int 5 :: st) h Q := X_n mC_138 dX8_asItIs_45 rfl
theorem x138_46 {j : Int32} {a : Nat} : X 138 46 L (.int j :: .ref a :: st) h Q ↔ ib j (hS h a) ∧ X 138 47 L (.int (hI h a j.toNatClampNeg) :: st) h Q := X_iald mC_138 dX8_asItIs_46
theorem x138_47 {a : Nat} {v : Int32} : X 138 47 L (.int v :: .ref a :: st) h Q ↔ hS h a = (1, 8) ∧ X 138 50 L st (sI h a 14 v) Q := X_putI mC_138 dX8_asItIs_47 (by decide +kernel)
theorem x138_50 {l1 : Value} {x : Nat} : X 138 50 [.ref x, l1] st h Q ↔ X 138 51 [.ref x, l1] (.ref x :: st) h Q := X_n mC_138 dX8_asItIs_50 rfl
theorem x138_51 {l1 : Value} {x : Nat} : X 138 51 [.ref x, l1] st h Q ↔ X 138 52 [.ref x, l1] (.ref x :: st) h Q := X_n mC_138 dX8_asItIs_51 rfl
theorem x138_52 {a : Nat} : X 138 52 L (.ref a :: st) h Q ↔ (hS h a = (1, 8) ∧ hR h a 4 ≠ 0) ∧ X 138 55 L (.ref (hR h a 4) :: st) h Q := X_getR mC_138 dX8_asItIs_52 (by decide +kernel)
theorem x138_55 : X 138 55 L st h Q ↔ X 138 57 L (.int 6 :: st) h Q := X_n mC_138 dX8_asItIs_55 rfl
theorem x138_57 {j : Int32} {a : Nat} : X 138 57 L (.int j :: .ref a :: st) h Q ↔ ib j (hS h a) ∧ X 138 58 L (.int (hI h a j.toNatClampNeg) :: st) h Q := X_iald mC_138 dX8_asItIs_57
theorem x138_58 {a : Nat} {v : Int32} : X 138 58 L (.int v :: .ref a :: st) h Q ↔ hS h a = (1, 8) ∧ X 138 61 L st (sI h a 15 v) Q := X_putI mC_138 dX8_asItIs_58 (by decide +kernel)
theorem x138_61 {l1 : Value} {x : Nat} : X 138 61 [.ref x, l1] st h Q ↔ X 138 62 [.ref x, l1] (.ref x :: st) h Q := X_n mC_138 dX8_asItIs_61 rfl
theorem x138_62 : X 138 62 L st h Q ↔ X 138 64 L (.int 31 :: st) h Q := X_n mC_138 dX8_asItIs_62 rfl
theorem x138_64 {a : Nat} {v : Int32} : X 138 64 L (.int v :: .ref a :: st) h Q ↔ hS h a = (1, 8) ∧ X 138 67 L st (sI h a 16 v) Q := X_putI mC_138 dX8_asItIs_64 (by decide +kernel)
theorem x138_67 : X 138 67 L [] h Q ↔ Q none h := X_retV mC_138 dX8_asItIs_67 (by decide +kernel)
theorem mC_139 : mC 139 = cX8_loud := rfl
theorem x139_0 {l1 l2 : Value} {x : Nat} : X 139 0 [.ref x, l1, l2] st h Q ↔ X 139 1 [.ref x, l1, l2] (.ref x :: st) h Q := X_n mC_139 dX8_loud_0 rfl
theorem x139_1 {a : Nat} : X 139 1 L (.ref a :: st) h Q ↔ (hS h a = (1, 8) ∧ hR h a 2 ≠ 0) ∧ X 139 4 L (.ref (hR h a 2) :: st) h Q := X_getR mC_139 dX8_loud_1 (by decide +kernel)
theorem x139_4 : X 139 4 L st h Q ↔ X 139 6 L (.int 11 :: st) h Q := X_n mC_139 dX8_loud_4 rfl
theorem x139_6 {l0 l2 : Value} {x : Int32} : X 139 6 [l0, .int x, l2] st h Q ↔ X 139 7 [l0, .int x, l2] (.int x :: st) h Q := X_n mC_139 dX8_loud_6 rfl
theorem x139_7 {x y : Int32} : X 139 7 L (.int y :: .int x :: st) h Q ↔ X 139 8 L (.int (x + y) :: st) h Q := X_n mC_139 dX8_loud_7 rfl
theorem x139_8 {j : Int32} {a : Nat} : X 139 8 L (.int j :: .ref a :: st) h Q ↔ ib j (hS h a) ∧ X 139 9 L (.int (hI h a j.toNatClampNeg) :: st) h Q := X_iald mC_139 dX8_loud_8
theorem x139_9 {l0 l1 l2 : Value} {x : Int32} : X 139 9 [l0, l1, l2] (.int x :: st) h Q ↔ c1 l1 = true ∧ X 139 10 [l0, l1, .int x] st h Q := X_sto (kk := 2) (pc' := 10) (w := .int x) mC_139 dX8_loud_9 rfl (Nat.le_of_ble_eq_true rfl) rfl
theorem x139_10 {l1 l2 : Value} {x : Nat} : X 139 10 [.ref x, l1, l2] st h Q ↔ X 139 11 [.ref x, l1, l2] (.ref x :: st) h Q := X_n mC_139 dX8_loud_10 rfl
theorem x139_11 {a : Nat} : X 139 11 L (.ref a :: st) h Q ↔ (hS h a = (1, 8) ∧ hR h a 13 ≠ 0) ∧ X 139 14 L (.ref (hR h a 13) :: st) h Q := X_getR mC_139 dX8_loud_11 (by decide +kernel)
theorem x139_14 {l0 l2 : Value} {x : Int32} : X 139 14 [l0, .int x, l2] st h Q ↔ X 139 15 [l0, .int x, l2] (.int x :: st) h Q := X_n mC_139 dX8_loud_14 rfl
theorem x139_15 {j : Int32} {a : Nat} : X 139 15 L (.int j :: .ref a :: st) h Q ↔ ib j (hS h a) ∧ X 139 16 L (.int (hI h a j.toNatClampNeg) :: st) h Q := X_iald mC_139 dX8_loud_15
theorem x139_16 {x : Int32} : X 139 16 L (.int x :: st) h Q ↔ if x = 1 then X 139 44 L st h Q else if x = 2 then X 139 69 L st h Q else if x = 3 then X 139 84 L st h Q else X 139 101 L st h Q := by
  by_cases h1 : x = 1
  · subst h1; simp only [if_true]; exact X_tabIn (off := 28) mC_139 dX8_loud_16 ⟨by decide, by decide⟩ (by decide)
  rw [if_neg h1]
  by_cases h2 : x = 2
  · subst h2; simp only [if_true]; exact X_tabIn (off := 53) mC_139 dX8_loud_16 ⟨by decide, by decide⟩ (by decide)
  rw [if_neg h2]
  by_cases h3 : x = 3
  · subst h3; simp only [if_true]; exact X_tabIn (off := 68) mC_139 dX8_loud_16 ⟨by decide, by decide⟩ (by decide)
  rw [if_neg h3]
  have q1 := toInt_ne h1
  rw [show (1 : Int32).toInt = 1 by decide] at q1
  have q2 := toInt_ne h2
  rw [show (2 : Int32).toInt = 2 by decide] at q2
  have q3 := toInt_ne h3
  rw [show (3 : Int32).toInt = 3 by decide] at q3
  exact X_tabOut mC_139 dX8_loud_16 (by omega) (by decide)
theorem x139_44 {l0 l1 : Value} {x : Int32} : X 139 44 [l0, l1, .int x] st h Q ↔ X 139 45 [l0, l1, .int x] (.int x :: st) h Q := X_n mC_139 dX8_loud_44 rfl
theorem x139_45 : X 139 45 L st h Q ↔ X 139 46 L (.int 2 :: st) h Q := X_n mC_139 dX8_loud_45 rfl
theorem x139_46 : X 139 46 L st h Q ↔ X 139 48 L (.int 7 :: st) h Q := X_n mC_139 dX8_loud_46 rfl
theorem x139_48 {l1 l2 : Value} {x : Nat} : X 139 48 [.ref x, l1, l2] st h Q ↔ X 139 49 [.ref x, l1, l2] (.ref x :: st) h Q := X_n mC_139 dX8_loud_48 rfl
theorem x139_49 {a : Nat} : X 139 49 L (.ref a :: st) h Q ↔ hS h a = (1, 8) ∧ X 139 52 L (.int (hI h a 15) :: st) h Q := X_getI mC_139 dX8_loud_49 (by decide +kernel)
theorem x139_52 {x y : Int32} : X 139 52 L (.int y :: .int x :: st) h Q ↔ X 139 53 L (.int (x - y) :: st) h Q := X_n mC_139 dX8_loud_52 rfl
theorem x139_53 {x y : Int32} : X 139 53 L (.int y :: .int x :: st) h Q ↔ X 139 54 L (.int (x * y) :: st) h Q := X_n mC_139 dX8_loud_53 rfl
theorem x139_54 {x y : Int32} : X 139 54 L (.int y :: .int x :: st) h Q ↔ X 139 55 L (.int (x + y) :: st) h Q := X_n mC_139 dX8_loud_54 rfl
theorem x139_55 {l0 l1 l2 : Value} {x : Int32} : X 139 55 [l0, l1, l2] (.int x :: st) h Q ↔ c1 l1 = true ∧ X 139 56 [l0, l1, .int x] st h Q := X_sto (kk := 2) (pc' := 56) (w := .int x) mC_139 dX8_loud_55 rfl (Nat.le_of_ble_eq_true rfl) rfl
theorem x139_56 {l0 l1 : Value} {x : Int32} : X 139 56 [l0, l1, .int x] st h Q ↔ X 139 57 [l0, l1, .int x] (.int x :: st) h Q := X_n mC_139 dX8_loud_56 rfl
theorem x139_57 : X 139 57 L st h Q ↔ X 139 59 L (.int 40 :: st) h Q := X_n mC_139 dX8_loud_57 rfl
theorem x139_59 {x y : Int32} : X 139 59 L (.int y :: .int x :: st) h Q ↔ if y < x then X 139 62 L st h Q else X 139 67 L st h Q := X_ile mC_139 dX8_loud_59 (by decide)
theorem x139_62 : X 139 62 L st h Q ↔ X 139 64 L (.int 40 :: st) h Q := X_n mC_139 dX8_loud_62 rfl
theorem x139_64 : X 139 64 L st h Q ↔ X 139 68 L st h Q := X_goto mC_139 dX8_loud_64 (by decide)
theorem x139_67 {l0 l1 : Value} {x : Int32} : X 139 67 [l0, l1, .int x] st h Q ↔ X 139 68 [l0, l1, .int x] (.int x :: st) h Q := X_n mC_139 dX8_loud_67 rfl
theorem x139_68 {v : Int32} : X 139 68 L [.int v] h Q ↔ Q (some (.int v)) h := X_ret mC_139 dX8_loud_68 (by decide +kernel)
theorem x139_69 {l1 l2 : Value} {x : Nat} : X 139 69 [.ref x, l1, l2] st h Q ↔ X 139 70 [.ref x, l1, l2] (.ref x :: st) h Q := X_n mC_139 dX8_loud_69 rfl
theorem x139_70 {a : Nat} : X 139 70 L (.ref a :: st) h Q ↔ hS h a = (1, 8) ∧ X 139 73 L (.int (hI h a 15) :: st) h Q := X_getI mC_139 dX8_loud_70 (by decide +kernel)
theorem x139_73 : X 139 73 L st h Q ↔ X 139 74 L (.int 2 :: st) h Q := X_n mC_139 dX8_loud_73 rfl
theorem x139_74 {x y : Int32} : X 139 74 L (.int y :: .int x :: st) h Q ↔ (¬ y = 0) ∧ X 139 75 L (.int (x - x / y * y) :: st) h Q := X_gd mC_139 dX8_loud_74 rfl
theorem x139_75 {x : Int32} : X 139 75 L (.int x :: st) h Q ↔ if x = 0 then X 139 78 L st h Q else X 139 82 L st h Q := X_zne mC_139 dX8_loud_75 (by decide)
theorem x139_78 {l0 l1 : Value} {x : Int32} : X 139 78 [l0, l1, .int x] st h Q ↔ X 139 79 [l0, l1, .int x] (.int x :: st) h Q := X_n mC_139 dX8_loud_78 rfl
theorem x139_79 : X 139 79 L st h Q ↔ X 139 83 L st h Q := X_goto mC_139 dX8_loud_79 (by decide)
theorem x139_82 : X 139 82 L st h Q ↔ X 139 83 L (.int 0 :: st) h Q := X_n mC_139 dX8_loud_82 rfl
theorem x139_83 {v : Int32} : X 139 83 L [.int v] h Q ↔ Q (some (.int v)) h := X_ret mC_139 dX8_loud_83 (by decide +kernel)
theorem x139_84 {l1 l2 : Value} {x : Nat} : X 139 84 [.ref x, l1, l2] st h Q ↔ X 139 85 [.ref x, l1, l2] (.ref x :: st) h Q := X_n mC_139 dX8_loud_84 rfl
theorem x139_85 {a : Nat} : X 139 85 L (.ref a :: st) h Q ↔ hS h a = (1, 8) ∧ X 139 88 L (.int (hI h a 15) :: st) h Q := X_getI mC_139 dX8_loud_85 (by decide +kernel)
theorem x139_88 : X 139 88 L st h Q ↔ X 139 89 L (.int 3 :: st) h Q := X_n mC_139 dX8_loud_88 rfl
theorem x139_89 {x y : Int32} : X 139 89 L (.int y :: .int x :: st) h Q ↔ if x < y then X 139 92 L st h Q else X 139 99 L st h Q := X_ige mC_139 dX8_loud_89 (by decide)
theorem x139_92 {l0 l1 : Value} {x : Int32} : X 139 92 [l0, l1, .int x] st h Q ↔ X 139 93 [l0, l1, .int x] (.int x :: st) h Q := X_n mC_139 dX8_loud_92 rfl
theorem x139_93 : X 139 93 L st h Q ↔ X 139 95 L (.int 10 :: st) h Q := X_n mC_139 dX8_loud_93 rfl
theorem x139_95 {x y : Int32} : X 139 95 L (.int y :: .int x :: st) h Q ↔ X 139 96 L (.int (x + y) :: st) h Q := X_n mC_139 dX8_loud_95 rfl
theorem x139_96 : X 139 96 L st h Q ↔ X 139 100 L st h Q := X_goto mC_139 dX8_loud_96 (by decide)
theorem x139_99 {l0 l1 : Value} {x : Int32} : X 139 99 [l0, l1, .int x] st h Q ↔ X 139 100 [l0, l1, .int x] (.int x :: st) h Q := X_n mC_139 dX8_loud_99 rfl
theorem x139_100 {v : Int32} : X 139 100 L [.int v] h Q ↔ Q (some (.int v)) h := X_ret mC_139 dX8_loud_100 (by decide +kernel)
theorem x139_101 {l0 l1 : Value} {x : Int32} : X 139 101 [l0, l1, .int x] st h Q ↔ X 139 102 [l0, l1, .int x] (.int x :: st) h Q := X_n mC_139 dX8_loud_101 rfl
theorem x139_102 {v : Int32} : X 139 102 L [.int v] h Q ↔ Q (some (.int v)) h := X_ret mC_139 dX8_loud_102 (by decide +kernel)
theorem mC_140 : mC 140 = cX8_isTuned := rfl
theorem x140_0 {l1 l2 l3 l4 : Value} {x : Nat} : X 140 0 [.ref x, l1, l2, l3, l4] st h Q ↔ X 140 1 [.ref x, l1, l2, l3, l4] (.ref x :: st) h Q := X_n mC_140 dX8_isTuned_0 rfl
theorem x140_1 {a : Nat} : X 140 1 L (.ref a :: st) h Q ↔ (hS h a = (1, 8) ∧ hR h a 2 ≠ 0) ∧ X 140 4 L (.ref (hR h a 2) :: st) h Q := X_getR mC_140 dX8_isTuned_1 (by decide +kernel)
theorem x140_4 : X 140 4 L st h Q ↔ X 140 6 L (.int 16 :: st) h Q := X_n mC_140 dX8_isTuned_4 rfl
theorem x140_6 {l0 l2 l3 l4 : Value} {x : Int32} : X 140 6 [l0, .int x, l2, l3, l4] st h Q ↔ X 140 7 [l0, .int x, l2, l3, l4] (.int x :: st) h Q := X_n mC_140 dX8_isTuned_6 rfl
theorem x140_7 {x y : Int32} : X 140 7 L (.int y :: .int x :: st) h Q ↔ X 140 8 L (.int (x + y) :: st) h Q := X_n mC_140 dX8_isTuned_7 rfl
theorem x140_8 {j : Int32} {a : Nat} : X 140 8 L (.int j :: .ref a :: st) h Q ↔ ib j (hS h a) ∧ X 140 9 L (.int (hI h a j.toNatClampNeg) :: st) h Q := X_iald mC_140 dX8_isTuned_8
theorem x140_9 {l0 l1 l2 l3 l4 : Value} {x : Int32} : X 140 9 [l0, l1, l2, l3, l4] (.int x :: st) h Q ↔ c1 l2 = true ∧ X 140 10 [l0, l1, l2, .int x, l4] st h Q := X_sto (kk := 3) (pc' := 10) (w := .int x) mC_140 dX8_isTuned_9 rfl (Nat.le_of_ble_eq_true rfl) rfl
theorem x140_10 {l1 l2 l3 l4 : Value} {x : Nat} : X 140 10 [.ref x, l1, l2, l3, l4] st h Q ↔ X 140 11 [.ref x, l1, l2, l3, l4] (.ref x :: st) h Q := X_n mC_140 dX8_isTuned_10 rfl
theorem x140_11 {a : Nat} : X 140 11 L (.ref a :: st) h Q ↔ (hS h a = (1, 8) ∧ hR h a 2 ≠ 0) ∧ X 140 14 L (.ref (hR h a 2) :: st) h Q := X_getR mC_140 dX8_isTuned_11 (by decide +kernel)
theorem x140_14 : X 140 14 L st h Q ↔ X 140 16 L (.int 16 :: st) h Q := X_n mC_140 dX8_isTuned_14 rfl
theorem x140_16 {l0 l1 l3 l4 : Value} {x : Int32} : X 140 16 [l0, l1, .int x, l3, l4] st h Q ↔ X 140 17 [l0, l1, .int x, l3, l4] (.int x :: st) h Q := X_n mC_140 dX8_isTuned_16 rfl
theorem x140_17 {x y : Int32} : X 140 17 L (.int y :: .int x :: st) h Q ↔ X 140 18 L (.int (x + y) :: st) h Q := X_n mC_140 dX8_isTuned_17 rfl
theorem x140_18 {j : Int32} {a : Nat} : X 140 18 L (.int j :: .ref a :: st) h Q ↔ ib j (hS h a) ∧ X 140 19 L (.int (hI h a j.toNatClampNeg) :: st) h Q := X_iald mC_140 dX8_isTuned_18
theorem x140_19 {l0 l1 l2 l3 l4 : Value} {x : Int32} : X 140 19 [l0, l1, l2, l3, l4] (.int x :: st) h Q ↔ c1 l3 = true ∧ X 140 21 [l0, l1, l2, l3, .int x] st h Q := X_sto (kk := 4) (pc' := 21) (w := .int x) mC_140 dX8_isTuned_19 rfl (Nat.le_of_ble_eq_true rfl) rfl
theorem x140_21 {l0 l1 l2 l4 : Value} {x : Int32} : X 140 21 [l0, l1, l2, .int x, l4] st h Q ↔ X 140 22 [l0, l1, l2, .int x, l4] (.int x :: st) h Q := X_n mC_140 dX8_isTuned_21 rfl
theorem x140_22 {l0 l1 l2 l3 : Value} {x : Int32} : X 140 22 [l0, l1, l2, l3, .int x] st h Q ↔ X 140 24 [l0, l1, l2, l3, .int x] (.int x :: st) h Q := X_n mC_140 dX8_isTuned_22 rfl
theorem x140_24 {x y : Int32} : X 140 24 L (.int y :: .int x :: st) h Q ↔ X 140 25 L (.int (x - y) :: st) h Q := X_n mC_140 dX8_isTuned_24 rfl
theorem x140_25 {l1 l2 l3 l4 : Value} {x : Nat} : X 140 25 [.ref x, l1, l2, l3, l4] st h Q ↔ X 140 26 [.ref x, l1, l2, l3, l4] (.ref x :: st) h Q := X_n mC_140 dX8_isTuned_25 rfl
theorem x140_26 {a : Nat} : X 140 26 L (.ref a :: st) h Q ↔ (hS h a = (1, 8) ∧ hR h a 2 ≠ 0) ∧ X 140 29 L (.ref (hR h a 2) :: st) h Q := X_getR mC_140 dX8_isTuned_26 (by decide +kernel)
theorem x140_29 : X 140 29 L st h Q ↔ X 140 30 L (.int 3 :: st) h Q := X_n mC_140 dX8_isTuned_29 rfl
theorem x140_30 {j : Int32} {a : Nat} : X 140 30 L (.int j :: .ref a :: st) h Q ↔ ib j (hS h a) ∧ X 140 31 L (.int (hI h a j.toNatClampNeg) :: st) h Q := X_iald mC_140 dX8_isTuned_30
theorem x140_31 {x y : Int32} : X 140 31 L (.int y :: .int x :: st) h Q ↔ if x = y then X 140 60 L st h Q else X 140 34 L st h Q := X_ieq mC_140 dX8_isTuned_31 (by decide)
theorem x140_34 {l0 l1 l2 l3 : Value} {x : Int32} : X 140 34 [l0, l1, l2, l3, .int x] st h Q ↔ X 140 36 [l0, l1, l2, l3, .int x] (.int x :: st) h Q := X_n mC_140 dX8_isTuned_34 rfl
theorem x140_36 {l0 l1 l2 l4 : Value} {x : Int32} : X 140 36 [l0, l1, l2, .int x, l4] st h Q ↔ X 140 37 [l0, l1, l2, .int x, l4] (.int x :: st) h Q := X_n mC_140 dX8_isTuned_36 rfl
theorem x140_37 {x y : Int32} : X 140 37 L (.int y :: .int x :: st) h Q ↔ X 140 38 L (.int (x - y) :: st) h Q := X_n mC_140 dX8_isTuned_37 rfl
theorem x140_38 {l1 l2 l3 l4 : Value} {x : Nat} : X 140 38 [.ref x, l1, l2, l3, l4] st h Q ↔ X 140 39 [.ref x, l1, l2, l3, l4] (.ref x :: st) h Q := X_n mC_140 dX8_isTuned_38 rfl
theorem x140_39 {a : Nat} : X 140 39 L (.ref a :: st) h Q ↔ (hS h a = (1, 8) ∧ hR h a 2 ≠ 0) ∧ X 140 42 L (.ref (hR h a 2) :: st) h Q := X_getR mC_140 dX8_isTuned_39 (by decide +kernel)
theorem x140_42 : X 140 42 L st h Q ↔ X 140 43 L (.int 3 :: st) h Q := X_n mC_140 dX8_isTuned_42 rfl
theorem x140_43 {j : Int32} {a : Nat} : X 140 43 L (.int j :: .ref a :: st) h Q ↔ ib j (hS h a) ∧ X 140 44 L (.int (hI h a j.toNatClampNeg) :: st) h Q := X_iald mC_140 dX8_isTuned_43
theorem x140_44 {x y : Int32} : X 140 44 L (.int y :: .int x :: st) h Q ↔ if x = y then X 140 60 L st h Q else X 140 47 L st h Q := X_ieq mC_140 dX8_isTuned_44 (by decide)
theorem x140_47 {l0 l1 l2 l4 : Value} {x : Int32} : X 140 47 [l0, l1, l2, .int x, l4] st h Q ↔ X 140 48 [l0, l1, l2, .int x, l4] (.int x :: st) h Q := X_n mC_140 dX8_isTuned_47 rfl
theorem x140_48 {l0 l1 l2 l3 : Value} {x : Int32} : X 140 48 [l0, l1, l2, l3, .int x] st h Q ↔ X 140 50 [l0, l1, l2, l3, .int x] (.int x :: st) h Q := X_n mC_140 dX8_isTuned_48 rfl
theorem x140_50 {x y : Int32} : X 140 50 L (.int y :: .int x :: st) h Q ↔ X 140 51 L (.int (x + y) :: st) h Q := X_n mC_140 dX8_isTuned_50 rfl
theorem x140_51 {l1 l2 l3 l4 : Value} {x : Nat} : X 140 51 [.ref x, l1, l2, l3, l4] st h Q ↔ X 140 52 [.ref x, l1, l2, l3, l4] (.ref x :: st) h Q := X_n mC_140 dX8_isTuned_51 rfl
theorem x140_52 {a : Nat} : X 140 52 L (.ref a :: st) h Q ↔ (hS h a = (1, 8) ∧ hR h a 2 ≠ 0) ∧ X 140 55 L (.ref (hR h a 2) :: st) h Q := X_getR mC_140 dX8_isTuned_52 (by decide +kernel)
theorem x140_55 : X 140 55 L st h Q ↔ X 140 56 L (.int 3 :: st) h Q := X_n mC_140 dX8_isTuned_55 rfl
theorem x140_56 {j : Int32} {a : Nat} : X 140 56 L (.int j :: .ref a :: st) h Q ↔ ib j (hS h a) ∧ X 140 57 L (.int (hI h a j.toNatClampNeg) :: st) h Q := X_iald mC_140 dX8_isTuned_56
theorem x140_57 {x y : Int32} : X 140 57 L (.int y :: .int x :: st) h Q ↔ if x = y then X 140 60 L st h Q else X 140 64 L st h Q := X_ine mC_140 dX8_isTuned_57 (by decide)
theorem x140_60 : X 140 60 L st h Q ↔ X 140 61 L (.int 1 :: st) h Q := X_n mC_140 dX8_isTuned_60 rfl
theorem x140_61 : X 140 61 L st h Q ↔ X 140 65 L st h Q := X_goto mC_140 dX8_isTuned_61 (by decide)
theorem x140_64 : X 140 64 L st h Q ↔ X 140 65 L (.int 0 :: st) h Q := X_n mC_140 dX8_isTuned_64 rfl
theorem x140_65 {v : Int32} : X 140 65 L [.int v] h Q ↔ (v = 0 ∨ v = 1) ∧ Q (some (.int v)) h := X_retZ mC_140 dX8_isTuned_65 (by decide +kernel)
theorem mC_141 : mC 141 = cX8_isBeside := rfl
theorem x141_0 {l1 l2 : Value} {x : Nat} : X 141 0 [.ref x, l1, l2] st h Q ↔ X 141 1 [.ref x, l1, l2] (.ref x :: st) h Q := X_n mC_141 dX8_isBeside_0 rfl
theorem x141_1 {a : Nat} : X 141 1 L (.ref a :: st) h Q ↔ (hS h a = (1, 8) ∧ hR h a 12 ≠ 0) ∧ X 141 4 L (.ref (hR h a 12) :: st) h Q := X_getR mC_141 dX8_isBeside_1 (by decide +kernel)
theorem x141_4 {l0 l2 : Value} {x : Int32} : X 141 4 [l0, .int x, l2] st h Q ↔ X 141 5 [l0, .int x, l2] (.int x :: st) h Q := X_n mC_141 dX8_isBeside_4 rfl
theorem x141_5 {j : Int32} {a : Nat} : X 141 5 L (.int j :: .ref a :: st) h Q ↔ ib j (hS h a) ∧ X 141 6 L (.int (hI h a j.toNatClampNeg) :: st) h Q := X_iald mC_141 dX8_isBeside_5
theorem x141_6 {l1 l2 : Value} {x : Nat} : X 141 6 [.ref x, l1, l2] st h Q ↔ X 141 7 [.ref x, l1, l2] (.ref x :: st) h Q := X_n mC_141 dX8_isBeside_6 rfl
theorem x141_7 {a : Nat} : X 141 7 L (.ref a :: st) h Q ↔ (hS h a = (1, 8) ∧ hR h a 12 ≠ 0) ∧ X 141 10 L (.ref (hR h a 12) :: st) h Q := X_getR mC_141 dX8_isBeside_7 (by decide +kernel)
theorem x141_10 {l0 l1 : Value} {x : Int32} : X 141 10 [l0, l1, .int x] st h Q ↔ X 141 11 [l0, l1, .int x] (.int x :: st) h Q := X_n mC_141 dX8_isBeside_10 rfl
theorem x141_11 {j : Int32} {a : Nat} : X 141 11 L (.int j :: .ref a :: st) h Q ↔ ib j (hS h a) ∧ X 141 12 L (.int (hI h a j.toNatClampNeg) :: st) h Q := X_iald mC_141 dX8_isBeside_11
theorem x141_12 {x y : Int32} : X 141 12 L (.int y :: .int x :: st) h Q ↔ X 141 13 L (.int (x - y) :: st) h Q := X_n mC_141 dX8_isBeside_12 rfl
theorem x141_13 : X 141 13 L st h Q ↔ X 141 14 L (.int 1 :: st) h Q := X_n mC_141 dX8_isBeside_13 rfl
theorem x141_14 {x y : Int32} : X 141 14 L (.int y :: .int x :: st) h Q ↔ if x = y then X 141 34 L st h Q else X 141 17 L st h Q := X_ieq mC_141 dX8_isBeside_14 (by decide)
theorem x141_17 {l1 l2 : Value} {x : Nat} : X 141 17 [.ref x, l1, l2] st h Q ↔ X 141 18 [.ref x, l1, l2] (.ref x :: st) h Q := X_n mC_141 dX8_isBeside_17 rfl
theorem x141_18 {a : Nat} : X 141 18 L (.ref a :: st) h Q ↔ (hS h a = (1, 8) ∧ hR h a 12 ≠ 0) ∧ X 141 21 L (.ref (hR h a 12) :: st) h Q := X_getR mC_141 dX8_isBeside_18 (by decide +kernel)
theorem x141_21 {l0 l1 : Value} {x : Int32} : X 141 21 [l0, l1, .int x] st h Q ↔ X 141 22 [l0, l1, .int x] (.int x :: st) h Q := X_n mC_141 dX8_isBeside_21 rfl
theorem x141_22 {j : Int32} {a : Nat} : X 141 22 L (.int j :: .ref a :: st) h Q ↔ ib j (hS h a) ∧ X 141 23 L (.int (hI h a j.toNatClampNeg) :: st) h Q := X_iald mC_141 dX8_isBeside_22
theorem x141_23 {l1 l2 : Value} {x : Nat} : X 141 23 [.ref x, l1, l2] st h Q ↔ X 141 24 [.ref x, l1, l2] (.ref x :: st) h Q := X_n mC_141 dX8_isBeside_23 rfl
theorem x141_24 {a : Nat} : X 141 24 L (.ref a :: st) h Q ↔ (hS h a = (1, 8) ∧ hR h a 12 ≠ 0) ∧ X 141 27 L (.ref (hR h a 12) :: st) h Q := X_getR mC_141 dX8_isBeside_24 (by decide +kernel)
theorem x141_27 {l0 l2 : Value} {x : Int32} : X 141 27 [l0, .int x, l2] st h Q ↔ X 141 28 [l0, .int x, l2] (.int x :: st) h Q := X_n mC_141 dX8_isBeside_27 rfl
theorem x141_28 {j : Int32} {a : Nat} : X 141 28 L (.int j :: .ref a :: st) h Q ↔ ib j (hS h a) ∧ X 141 29 L (.int (hI h a j.toNatClampNeg) :: st) h Q := X_iald mC_141 dX8_isBeside_28
theorem x141_29 {x y : Int32} : X 141 29 L (.int y :: .int x :: st) h Q ↔ X 141 30 L (.int (x - y) :: st) h Q := X_n mC_141 dX8_isBeside_29 rfl
theorem x141_30 : X 141 30 L st h Q ↔ X 141 31 L (.int 1 :: st) h Q := X_n mC_141 dX8_isBeside_30 rfl
theorem x141_31 {x y : Int32} : X 141 31 L (.int y :: .int x :: st) h Q ↔ if x = y then X 141 34 L st h Q else X 141 38 L st h Q := X_ine mC_141 dX8_isBeside_31 (by decide)
theorem x141_34 : X 141 34 L st h Q ↔ X 141 35 L (.int 1 :: st) h Q := X_n mC_141 dX8_isBeside_34 rfl
theorem x141_35 : X 141 35 L st h Q ↔ X 141 39 L st h Q := X_goto mC_141 dX8_isBeside_35 (by decide)
theorem x141_38 : X 141 38 L st h Q ↔ X 141 39 L (.int 0 :: st) h Q := X_n mC_141 dX8_isBeside_38 rfl
theorem x141_39 {v : Int32} : X 141 39 L [.int v] h Q ↔ (v = 0 ∨ v = 1) ∧ Q (some (.int v)) h := X_retZ mC_141 dX8_isBeside_39 (by decide +kernel)
theorem mC_142 : mC 142 = cX8_hearsOf := rfl
theorem x142_0 : X 142 0 L st h Q ↔ X 142 1 L (.int 0 :: st) h Q := X_n mC_142 dX8_hearsOf_0 rfl
theorem x142_1 {l0 l1 l2 l3 l4 : Value} {x : Int32} : X 142 1 [l0, l1, l2, l3, l4] (.int x :: st) h Q ↔ c1 l1 = true ∧ X 142 2 [l0, l1, .int x, l3, l4] st h Q := X_sto (kk := 2) (pc' := 2) (w := .int x) mC_142 dX8_hearsOf_1 rfl (Nat.le_of_ble_eq_true rfl) rfl
theorem x142_2 : X 142 2 L st h Q ↔ X 142 3 L (.int 0 :: st) h Q := X_n mC_142 dX8_hearsOf_2 rfl
theorem x142_3 {l0 l1 l2 l3 l4 : Value} {x : Int32} : X 142 3 [l0, l1, l2, l3, l4] (.int x :: st) h Q ↔ c1 l2 = true ∧ X 142 4 [l0, l1, l2, .int x, l4] st h Q := X_sto (kk := 3) (pc' := 4) (w := .int x) mC_142 dX8_hearsOf_3 rfl (Nat.le_of_ble_eq_true rfl) rfl
theorem x142_4 {l0 l1 l2 l4 : Value} {x : Int32} : X 142 4 [l0, l1, l2, .int x, l4] st h Q ↔ X 142 5 [l0, l1, l2, .int x, l4] (.int x :: st) h Q := X_n mC_142 dX8_hearsOf_4 rfl
theorem x142_5 {l1 l2 l3 l4 : Value} {x : Nat} : X 142 5 [.ref x, l1, l2, l3, l4] st h Q ↔ X 142 6 [.ref x, l1, l2, l3, l4] (.ref x :: st) h Q := X_n mC_142 dX8_hearsOf_5 rfl
theorem x142_6 {a : Nat} : X 142 6 L (.ref a :: st) h Q ↔ (hS h a = (1, 8) ∧ hR h a 2 ≠ 0) ∧ X 142 9 L (.ref (hR h a 2) :: st) h Q := X_getR mC_142 dX8_hearsOf_6 (by decide +kernel)
theorem x142_9 : X 142 9 L st h Q ↔ X 142 10 L (.int 0 :: st) h Q := X_n mC_142 dX8_hearsOf_9 rfl
theorem x142_10 {j : Int32} {a : Nat} : X 142 10 L (.int j :: .ref a :: st) h Q ↔ ib j (hS h a) ∧ X 142 11 L (.int (hI h a j.toNatClampNeg) :: st) h Q := X_iald mC_142 dX8_hearsOf_10
theorem x142_11 {x y : Int32} : X 142 11 L (.int y :: .int x :: st) h Q ↔ if x < y then X 142 14 L st h Q else X 142 119 L st h Q := X_ige mC_142 dX8_hearsOf_11 (by decide)
theorem x142_14 {l1 l2 l3 l4 : Value} {x : Nat} : X 142 14 [.ref x, l1, l2, l3, l4] st h Q ↔ X 142 15 [.ref x, l1, l2, l3, l4] (.ref x :: st) h Q := X_n mC_142 dX8_hearsOf_14 rfl
theorem x142_15 {l0 l2 l3 l4 : Value} {x : Int32} : X 142 15 [l0, .int x, l2, l3, l4] st h Q ↔ X 142 16 [l0, .int x, l2, l3, l4] (.int x :: st) h Q := X_n mC_142 dX8_hearsOf_15 rfl
theorem x142_16 {l0 l1 l2 l4 : Value} {x : Int32} : X 142 16 [l0, l1, l2, .int x, l4] st h Q ↔ X 142 17 [l0, l1, l2, .int x, l4] (.int x :: st) h Q := X_n mC_142 dX8_hearsOf_16 rfl
theorem x142_17 {b : Nat} {a0 : Int32} {a1 : Int32} : X 142 17 L [.int a1, .int a0, .ref b] h Q ↔ hS h b = (1, 8) ∧ X 141 0 [.ref b, .int a0, .int a1] [] h (fun r h' => X 142 20 L (pv r []) h' Q) := X_virt (as := [.int a0, .int a1]) (n := 2) (ml := 3) (ck := 8) mC_142 dX8_hearsOf_17 (by unfold cOk; decide +kernel) ⟨rfl, rfl, by decide, Nat.le_of_ble_eq_true rfl⟩
theorem x142_20 {x : Int32} : X 142 20 L (.int x :: st) h Q ↔ if x = 0 then X 142 113 L st h Q else X 142 23 L st h Q := X_zeq mC_142 dX8_hearsOf_20 (by decide)
theorem x142_23 {l1 l2 l3 l4 : Value} {x : Nat} : X 142 23 [.ref x, l1, l2, l3, l4] st h Q ↔ X 142 24 [.ref x, l1, l2, l3, l4] (.ref x :: st) h Q := X_n mC_142 dX8_hearsOf_23 rfl
theorem x142_24 {a : Nat} : X 142 24 L (.ref a :: st) h Q ↔ hS h a = (1, 8) ∧ X 142 27 L (.int (hI h a 16) :: st) h Q := X_getI mC_142 dX8_hearsOf_24 (by decide +kernel)
theorem x142_27 {l0 l1 l2 l4 : Value} {x : Int32} : X 142 27 [l0, l1, l2, .int x, l4] st h Q ↔ X 142 28 [l0, l1, l2, .int x, l4] (.int x :: st) h Q := X_n mC_142 dX8_hearsOf_27 rfl
theorem x142_28 {x y : Int32} : X 142 28 L (.int y :: .int x :: st) h Q ↔ X 142 29 L (.int (x >>> (y &&& 31)) :: st) h Q := X_n mC_142 dX8_hearsOf_28 rfl
theorem x142_29 : X 142 29 L st h Q ↔ X 142 30 L (.int 1 :: st) h Q := X_n mC_142 dX8_hearsOf_29 rfl
theorem x142_30 {x y : Int32} : X 142 30 L (.int y :: .int x :: st) h Q ↔ X 142 31 L (.int (x &&& y) :: st) h Q := X_n mC_142 dX8_hearsOf_30 rfl
theorem x142_31 : X 142 31 L st h Q ↔ X 142 32 L (.int 1 :: st) h Q := X_n mC_142 dX8_hearsOf_31 rfl
theorem x142_32 {x y : Int32} : X 142 32 L (.int y :: .int x :: st) h Q ↔ if x = y then X 142 35 L st h Q else X 142 113 L st h Q := X_ine mC_142 dX8_hearsOf_32 (by decide)
theorem x142_35 {l1 l2 l3 l4 : Value} {x : Nat} : X 142 35 [.ref x, l1, l2, l3, l4] st h Q ↔ X 142 36 [.ref x, l1, l2, l3, l4] (.ref x :: st) h Q := X_n mC_142 dX8_hearsOf_35 rfl
theorem x142_36 {a : Nat} : X 142 36 L (.ref a :: st) h Q ↔ (hS h a = (1, 8) ∧ hR h a 12 ≠ 0) ∧ X 142 39 L (.ref (hR h a 12) :: st) h Q := X_getR mC_142 dX8_hearsOf_36 (by decide +kernel)
theorem x142_39 {l0 l2 l3 l4 : Value} {x : Int32} : X 142 39 [l0, .int x, l2, l3, l4] st h Q ↔ X 142 40 [l0, .int x, l2, l3, l4] (.int x :: st) h Q := X_n mC_142 dX8_hearsOf_39 rfl
theorem x142_40 {j : Int32} {a : Nat} : X 142 40 L (.int j :: .ref a :: st) h Q ↔ ib j (hS h a) ∧ X 142 41 L (.int (hI h a j.toNatClampNeg) :: st) h Q := X_iald mC_142 dX8_hearsOf_40
theorem x142_41 {l1 l2 l3 l4 : Value} {x : Nat} : X 142 41 [.ref x, l1, l2, l3, l4] st h Q ↔ X 142 42 [.ref x, l1, l2, l3, l4] (.ref x :: st) h Q := X_n mC_142 dX8_hearsOf_41 rfl
theorem x142_42 {a : Nat} : X 142 42 L (.ref a :: st) h Q ↔ (hS h a = (1, 8) ∧ hR h a 12 ≠ 0) ∧ X 142 45 L (.ref (hR h a 12) :: st) h Q := X_getR mC_142 dX8_hearsOf_42 (by decide +kernel)
theorem x142_45 {l0 l1 l2 l4 : Value} {x : Int32} : X 142 45 [l0, l1, l2, .int x, l4] st h Q ↔ X 142 46 [l0, l1, l2, .int x, l4] (.int x :: st) h Q := X_n mC_142 dX8_hearsOf_45 rfl
theorem x142_46 {j : Int32} {a : Nat} : X 142 46 L (.int j :: .ref a :: st) h Q ↔ ib j (hS h a) ∧ X 142 47 L (.int (hI h a j.toNatClampNeg) :: st) h Q := X_iald mC_142 dX8_hearsOf_46
theorem x142_47 {x y : Int32} : X 142 47 L (.int y :: .int x :: st) h Q ↔ if x < y then X 142 50 L st h Q else X 142 59 L st h Q := X_ige mC_142 dX8_hearsOf_47 (by decide)
theorem x142_50 {l1 l2 l3 l4 : Value} {x : Nat} : X 142 50 [.ref x, l1, l2, l3, l4] st h Q ↔ X 142 51 [.ref x, l1, l2, l3, l4] (.ref x :: st) h Q := X_n mC_142 dX8_hearsOf_50 rfl
theorem x142_51 {a : Nat} : X 142 51 L (.ref a :: st) h Q ↔ (hS h a = (1, 8) ∧ hR h a 12 ≠ 0) ∧ X 142 54 L (.ref (hR h a 12) :: st) h Q := X_getR mC_142 dX8_hearsOf_51 (by decide +kernel)
theorem x142_54 {l0 l2 l3 l4 : Value} {x : Int32} : X 142 54 [l0, .int x, l2, l3, l4] st h Q ↔ X 142 55 [l0, .int x, l2, l3, l4] (.int x :: st) h Q := X_n mC_142 dX8_hearsOf_54 rfl
theorem x142_55 {j : Int32} {a : Nat} : X 142 55 L (.int j :: .ref a :: st) h Q ↔ ib j (hS h a) ∧ X 142 56 L (.int (hI h a j.toNatClampNeg) :: st) h Q := X_iald mC_142 dX8_hearsOf_55
theorem x142_56 : X 142 56 L st h Q ↔ X 142 65 L st h Q := X_goto mC_142 dX8_hearsOf_56 (by decide)
theorem x142_59 {l1 l2 l3 l4 : Value} {x : Nat} : X 142 59 [.ref x, l1, l2, l3, l4] st h Q ↔ X 142 60 [.ref x, l1, l2, l3, l4] (.ref x :: st) h Q := X_n mC_142 dX8_hearsOf_59 rfl
theorem x142_60 {a : Nat} : X 142 60 L (.ref a :: st) h Q ↔ (hS h a = (1, 8) ∧ hR h a 12 ≠ 0) ∧ X 142 63 L (.ref (hR h a 12) :: st) h Q := X_getR mC_142 dX8_hearsOf_60 (by decide +kernel)
theorem x142_63 {l0 l1 l2 l4 : Value} {x : Int32} : X 142 63 [l0, l1, l2, .int x, l4] st h Q ↔ X 142 64 [l0, l1, l2, .int x, l4] (.int x :: st) h Q := X_n mC_142 dX8_hearsOf_63 rfl
theorem x142_64 {j : Int32} {a : Nat} : X 142 64 L (.int j :: .ref a :: st) h Q ↔ ib j (hS h a) ∧ X 142 65 L (.int (hI h a j.toNatClampNeg) :: st) h Q := X_iald mC_142 dX8_hearsOf_64
theorem x142_65 {l0 l1 l2 l3 l4 : Value} {x : Int32} : X 142 65 [l0, l1, l2, l3, l4] (.int x :: st) h Q ↔ c1 l3 = true ∧ X 142 67 [l0, l1, l2, l3, .int x] st h Q := X_sto (kk := 4) (pc' := 67) (w := .int x) mC_142 dX8_hearsOf_65 rfl (Nat.le_of_ble_eq_true rfl) rfl
theorem x142_67 {l0 l1 l3 l4 : Value} {x : Int32} : X 142 67 [l0, l1, .int x, l3, l4] st h Q ↔ X 142 68 [l0, l1, .int x, l3, l4] (.int x :: st) h Q := X_n mC_142 dX8_hearsOf_67 rfl
theorem x142_68 {l1 l2 l3 l4 : Value} {x : Nat} : X 142 68 [.ref x, l1, l2, l3, l4] st h Q ↔ X 142 69 [.ref x, l1, l2, l3, l4] (.ref x :: st) h Q := X_n mC_142 dX8_hearsOf_68 rfl
theorem x142_69 {a : Nat} : X 142 69 L (.ref a :: st) h Q ↔ hS h a = (1, 8) ∧ X 142 72 L (.int (hI h a 14) :: st) h Q := X_getI mC_142 dX8_hearsOf_69 (by decide +kernel)
theorem x142_72 {l0 l1 l2 l3 : Value} {x : Int32} : X 142 72 [l0, l1, l2, l3, .int x] st h Q ↔ X 142 74 [l0, l1, l2, l3, .int x] (.int x :: st) h Q := X_n mC_142 dX8_hearsOf_72 rfl
theorem x142_74 {x y : Int32} : X 142 74 L (.int y :: .int x :: st) h Q ↔ X 142 75 L (.int (x >>> (y &&& 31)) :: st) h Q := X_n mC_142 dX8_hearsOf_74 rfl
theorem x142_75 : X 142 75 L st h Q ↔ X 142 76 L (.int 1 :: st) h Q := X_n mC_142 dX8_hearsOf_75 rfl
theorem x142_76 {x y : Int32} : X 142 76 L (.int y :: .int x :: st) h Q ↔ X 142 77 L (.int (x &&& y) :: st) h Q := X_n mC_142 dX8_hearsOf_76 rfl
theorem x142_77 : X 142 77 L st h Q ↔ X 142 78 L (.int 1 :: st) h Q := X_n mC_142 dX8_hearsOf_77 rfl
theorem x142_78 {x y : Int32} : X 142 78 L (.int y :: .int x :: st) h Q ↔ if x = y then X 142 81 L st h Q else X 142 91 L st h Q := X_ine mC_142 dX8_hearsOf_78 (by decide)
theorem x142_81 {l1 l2 l3 l4 : Value} {x : Nat} : X 142 81 [.ref x, l1, l2, l3, l4] st h Q ↔ X 142 82 [.ref x, l1, l2, l3, l4] (.ref x :: st) h Q := X_n mC_142 dX8_hearsOf_81 rfl
theorem x142_82 {l0 l1 l2 l4 : Value} {x : Int32} : X 142 82 [l0, l1, l2, .int x, l4] st h Q ↔ X 142 83 [l0, l1, l2, .int x, l4] (.int x :: st) h Q := X_n mC_142 dX8_hearsOf_82 rfl
theorem x142_83 {b : Nat} {a0 : Int32} {w0 : Value} : X 142 83 L [.int a0, .ref b, w0] h Q ↔ hS h b = (1, 8) ∧ X 139 0 [.ref b, .int a0, .null] [] h (fun r h' => X 142 86 L (pv r [w0]) h' Q) := X_virt (as := [.int a0]) (n := 1) (ml := 3) (ck := 8) mC_142 dX8_hearsOf_83 (by unfold cOk; decide +kernel) ⟨rfl, rfl, by decide, Nat.le_of_ble_eq_true rfl⟩
theorem x142_86 : X 142 86 L st h Q ↔ X 142 87 L (.int 2 :: st) h Q := X_n mC_142 dX8_hearsOf_86 rfl
theorem x142_87 {x y : Int32} : X 142 87 L (.int y :: .int x :: st) h Q ↔ (¬ y = 0) ∧ X 142 88 L (.int (x / y) :: st) h Q := X_gd mC_142 dX8_hearsOf_87 rfl
theorem x142_88 : X 142 88 L st h Q ↔ X 142 96 L st h Q := X_goto mC_142 dX8_hearsOf_88 (by decide)
theorem x142_91 {l1 l2 l3 l4 : Value} {x : Nat} : X 142 91 [.ref x, l1, l2, l3, l4] st h Q ↔ X 142 92 [.ref x, l1, l2, l3, l4] (.ref x :: st) h Q := X_n mC_142 dX8_hearsOf_91 rfl
theorem x142_92 {l0 l1 l2 l4 : Value} {x : Int32} : X 142 92 [l0, l1, l2, .int x, l4] st h Q ↔ X 142 93 [l0, l1, l2, .int x, l4] (.int x :: st) h Q := X_n mC_142 dX8_hearsOf_92 rfl
theorem x142_93 {b : Nat} {a0 : Int32} {w0 : Value} : X 142 93 L [.int a0, .ref b, w0] h Q ↔ hS h b = (1, 8) ∧ X 139 0 [.ref b, .int a0, .null] [] h (fun r h' => X 142 96 L (pv r [w0]) h' Q) := X_virt (as := [.int a0]) (n := 1) (ml := 3) (ck := 8) mC_142 dX8_hearsOf_93 (by unfold cOk; decide +kernel) ⟨rfl, rfl, by decide, Nat.le_of_ble_eq_true rfl⟩
theorem x142_96 {l1 l2 l3 l4 : Value} {x : Nat} : X 142 96 [.ref x, l1, l2, l3, l4] st h Q ↔ X 142 97 [.ref x, l1, l2, l3, l4] (.ref x :: st) h Q := X_n mC_142 dX8_hearsOf_96 rfl
theorem x142_97 {l0 l2 l3 l4 : Value} {x : Int32} : X 142 97 [l0, .int x, l2, l3, l4] st h Q ↔ X 142 98 [l0, .int x, l2, l3, l4] (.int x :: st) h Q := X_n mC_142 dX8_hearsOf_97 rfl
theorem x142_98 {l0 l1 l2 l4 : Value} {x : Int32} : X 142 98 [l0, l1, l2, .int x, l4] st h Q ↔ X 142 99 [l0, l1, l2, .int x, l4] (.int x :: st) h Q := X_n mC_142 dX8_hearsOf_98 rfl
theorem x142_99 {b : Nat} {a0 : Int32} {a1 : Int32} {w0 w1 : Value} : X 142 99 L [.int a1, .int a0, .ref b, w0, w1] h Q ↔ hS h b = (1, 8) ∧ X 140 0 [.ref b, .int a0, .int a1, .null, .null] [] h (fun r h' => X 142 102 L (pv r [w0, w1]) h' Q) := X_virt (as := [.int a0, .int a1]) (n := 2) (ml := 5) (ck := 8) mC_142 dX8_hearsOf_99 (by unfold cOk; decide +kernel) ⟨rfl, rfl, by decide, Nat.le_of_ble_eq_true rfl⟩
theorem x142_102 {x : Int32} : X 142 102 L (.int x :: st) h Q ↔ if x = 0 then X 142 109 L st h Q else X 142 105 L st h Q := X_zeq mC_142 dX8_hearsOf_102 (by decide)
theorem x142_105 : X 142 105 L st h Q ↔ X 142 106 L (.int 4 :: st) h Q := X_n mC_142 dX8_hearsOf_105 rfl
theorem x142_106 : X 142 106 L st h Q ↔ X 142 110 L st h Q := X_goto mC_142 dX8_hearsOf_106 (by decide)
theorem x142_109 : X 142 109 L st h Q ↔ X 142 110 L (.int 0 :: st) h Q := X_n mC_142 dX8_hearsOf_109 rfl
theorem x142_110 {x y : Int32} : X 142 110 L (.int y :: .int x :: st) h Q ↔ X 142 111 L (.int (x + y) :: st) h Q := X_n mC_142 dX8_hearsOf_110 rfl
theorem x142_111 {x y : Int32} : X 142 111 L (.int y :: .int x :: st) h Q ↔ X 142 112 L (.int (x + y) :: st) h Q := X_n mC_142 dX8_hearsOf_111 rfl
theorem x142_112 {l0 l1 l2 l3 l4 : Value} {x : Int32} : X 142 112 [l0, l1, l2, l3, l4] (.int x :: st) h Q ↔ c1 l1 = true ∧ X 142 113 [l0, l1, .int x, l3, l4] st h Q := X_sto (kk := 2) (pc' := 113) (w := .int x) mC_142 dX8_hearsOf_112 rfl (Nat.le_of_ble_eq_true rfl) rfl
theorem x142_113 {l0 l1 l2 l4 : Value} {x : Int32} : X 142 113 [l0, l1, l2, .int x, l4] st h Q ↔ c1 l2 = true ∧ X 142 116 [l0, l1, l2, .int (x + 1), l4] st h Q := X_inc (pc' := 116) (x := x) mC_142 dX8_hearsOf_113 rfl rfl rfl
theorem x142_116 : X 142 116 L st h Q ↔ X 142 4 L st h Q := X_goto mC_142 dX8_hearsOf_116 (by decide)
theorem x142_119 {l0 l1 l3 l4 : Value} {x : Int32} : X 142 119 [l0, l1, .int x, l3, l4] st h Q ↔ X 142 120 [l0, l1, .int x, l3, l4] (.int x :: st) h Q := X_n mC_142 dX8_hearsOf_119 rfl
theorem x142_120 {v : Int32} : X 142 120 L [.int v] h Q ↔ Q (some (.int v)) h := X_ret mC_142 dX8_hearsOf_120 (by decide +kernel)
theorem mC_143 : mC 143 = cX8_wakes := rfl
theorem x143_0 : X 143 0 L st h Q ↔ X 143 1 L (.int 0 :: st) h Q := X_n mC_143 dX8_wakes_0 rfl
theorem x143_1 {l0 l1 l2 : Value} {x : Int32} : X 143 1 [l0, l1, l2] (.int x :: st) h Q ↔ c1 l0 = true ∧ X 143 2 [l0, .int x, l2] st h Q := X_sto (kk := 1) (pc' := 2) (w := .int x) mC_143 dX8_wakes_1 rfl (Nat.le_of_ble_eq_true rfl) rfl
theorem x143_2 : X 143 2 L st h Q ↔ X 143 3 L (.int 0 :: st) h Q := X_n mC_143 dX8_wakes_2 rfl
theorem x143_3 {l0 l1 l2 : Value} {x : Int32} : X 143 3 [l0, l1, l2] (.int x :: st) h Q ↔ c1 l1 = true ∧ X 143 4 [l0, l1, .int x] st h Q := X_sto (kk := 2) (pc' := 4) (w := .int x) mC_143 dX8_wakes_3 rfl (Nat.le_of_ble_eq_true rfl) rfl
theorem x143_4 {l0 l1 : Value} {x : Int32} : X 143 4 [l0, l1, .int x] st h Q ↔ X 143 5 [l0, l1, .int x] (.int x :: st) h Q := X_n mC_143 dX8_wakes_4 rfl
theorem x143_5 {l1 l2 : Value} {x : Nat} : X 143 5 [.ref x, l1, l2] st h Q ↔ X 143 6 [.ref x, l1, l2] (.ref x :: st) h Q := X_n mC_143 dX8_wakes_5 rfl
theorem x143_6 {a : Nat} : X 143 6 L (.ref a :: st) h Q ↔ (hS h a = (1, 8) ∧ hR h a 2 ≠ 0) ∧ X 143 9 L (.ref (hR h a 2) :: st) h Q := X_getR mC_143 dX8_wakes_6 (by decide +kernel)
theorem x143_9 : X 143 9 L st h Q ↔ X 143 10 L (.int 0 :: st) h Q := X_n mC_143 dX8_wakes_9 rfl
theorem x143_10 {j : Int32} {a : Nat} : X 143 10 L (.int j :: .ref a :: st) h Q ↔ ib j (hS h a) ∧ X 143 11 L (.int (hI h a j.toNatClampNeg) :: st) h Q := X_iald mC_143 dX8_wakes_10
theorem x143_11 {x y : Int32} : X 143 11 L (.int y :: .int x :: st) h Q ↔ if x < y then X 143 14 L st h Q else X 143 47 L st h Q := X_ige mC_143 dX8_wakes_11 (by decide)
theorem x143_14 {l0 l2 : Value} {x : Int32} : X 143 14 [l0, .int x, l2] st h Q ↔ X 143 15 [l0, .int x, l2] (.int x :: st) h Q := X_n mC_143 dX8_wakes_14 rfl
theorem x143_15 {l1 l2 : Value} {x : Nat} : X 143 15 [.ref x, l1, l2] st h Q ↔ X 143 16 [.ref x, l1, l2] (.ref x :: st) h Q := X_n mC_143 dX8_wakes_15 rfl
theorem x143_16 {l0 l1 : Value} {x : Int32} : X 143 16 [l0, l1, .int x] st h Q ↔ X 143 17 [l0, l1, .int x] (.int x :: st) h Q := X_n mC_143 dX8_wakes_16 rfl
theorem x143_17 {b : Nat} {a0 : Int32} {w0 : Value} : X 143 17 L [.int a0, .ref b, w0] h Q ↔ hS h b = (1, 8) ∧ X 142 0 [.ref b, .int a0, .null, .null, .null] [] h (fun r h' => X 143 20 L (pv r [w0]) h' Q) := X_virt (as := [.int a0]) (n := 1) (ml := 5) (ck := 8) mC_143 dX8_wakes_17 (by unfold cOk; decide +kernel) ⟨rfl, rfl, by decide, Nat.le_of_ble_eq_true rfl⟩
theorem x143_20 {l1 l2 : Value} {x : Nat} : X 143 20 [.ref x, l1, l2] st h Q ↔ X 143 21 [.ref x, l1, l2] (.ref x :: st) h Q := X_n mC_143 dX8_wakes_20 rfl
theorem x143_21 {a : Nat} : X 143 21 L (.ref a :: st) h Q ↔ (hS h a = (1, 8) ∧ hR h a 2 ≠ 0) ∧ X 143 24 L (.ref (hR h a 2) :: st) h Q := X_getR mC_143 dX8_wakes_21 (by decide +kernel)
theorem x143_24 : X 143 24 L st h Q ↔ X 143 26 L (.int 21 :: st) h Q := X_n mC_143 dX8_wakes_24 rfl
theorem x143_26 {l0 l1 : Value} {x : Int32} : X 143 26 [l0, l1, .int x] st h Q ↔ X 143 27 [l0, l1, .int x] (.int x :: st) h Q := X_n mC_143 dX8_wakes_26 rfl
theorem x143_27 {x y : Int32} : X 143 27 L (.int y :: .int x :: st) h Q ↔ X 143 28 L (.int (x + y) :: st) h Q := X_n mC_143 dX8_wakes_27 rfl
theorem x143_28 {j : Int32} {a : Nat} : X 143 28 L (.int j :: .ref a :: st) h Q ↔ ib j (hS h a) ∧ X 143 29 L (.int (hI h a j.toNatClampNeg) :: st) h Q := X_iald mC_143 dX8_wakes_28
theorem x143_29 {x y : Int32} : X 143 29 L (.int y :: .int x :: st) h Q ↔ if x < y then X 143 38 L st h Q else X 143 32 L st h Q := X_ilt mC_143 dX8_wakes_29 (by decide)
theorem x143_32 : X 143 32 L st h Q ↔ X 143 33 L (.int 1 :: st) h Q := X_n mC_143 dX8_wakes_32 rfl
theorem x143_33 {l0 l1 : Value} {x : Int32} : X 143 33 [l0, l1, .int x] st h Q ↔ X 143 34 [l0, l1, .int x] (.int x :: st) h Q := X_n mC_143 dX8_wakes_33 rfl
theorem x143_34 {x y : Int32} : X 143 34 L (.int y :: .int x :: st) h Q ↔ X 143 35 L (.int (x <<< (y &&& 31)) :: st) h Q := X_n mC_143 dX8_wakes_34 rfl
theorem x143_35 : X 143 35 L st h Q ↔ X 143 39 L st h Q := X_goto mC_143 dX8_wakes_35 (by decide)
theorem x143_38 : X 143 38 L st h Q ↔ X 143 39 L (.int 0 :: st) h Q := X_n mC_143 dX8_wakes_38 rfl
theorem x143_39 {x y : Int32} : X 143 39 L (.int y :: .int x :: st) h Q ↔ X 143 40 L (.int (x ||| y) :: st) h Q := X_n mC_143 dX8_wakes_39 rfl
theorem x143_40 {l0 l1 l2 : Value} {x : Int32} : X 143 40 [l0, l1, l2] (.int x :: st) h Q ↔ c1 l0 = true ∧ X 143 41 [l0, .int x, l2] st h Q := X_sto (kk := 1) (pc' := 41) (w := .int x) mC_143 dX8_wakes_40 rfl (Nat.le_of_ble_eq_true rfl) rfl
theorem x143_41 {l0 l1 : Value} {x : Int32} : X 143 41 [l0, l1, .int x] st h Q ↔ c1 l1 = true ∧ X 143 44 [l0, l1, .int (x + 1)] st h Q := X_inc (pc' := 44) (x := x) mC_143 dX8_wakes_41 rfl rfl rfl
theorem x143_44 : X 143 44 L st h Q ↔ X 143 4 L st h Q := X_goto mC_143 dX8_wakes_44 (by decide)
theorem x143_47 {l0 l2 : Value} {x : Int32} : X 143 47 [l0, .int x, l2] st h Q ↔ X 143 48 [l0, .int x, l2] (.int x :: st) h Q := X_n mC_143 dX8_wakes_47 rfl
theorem x143_48 {v : Int32} : X 143 48 L [.int v] h Q ↔ Q (some (.int v)) h := X_ret mC_143 dX8_wakes_48 (by decide +kernel)
theorem mC_144 : mC 144 = cX8_guest := rfl
theorem x144_0 {l1 l2 : Value} {x : Nat} : X 144 0 [.ref x, l1, l2] st h Q ↔ X 144 1 [.ref x, l1, l2] (.ref x :: st) h Q := X_n mC_144 dX8_guest_0 rfl
theorem x144_1 {l0 l2 : Value} {x : Int32} : X 144 1 [l0, .int x, l2] st h Q ↔ X 144 2 [l0, .int x, l2] (.int x :: st) h Q := X_n mC_144 dX8_guest_1 rfl
theorem x144_2 {b : Nat} {a0 : Int32} : X 144 2 L [.int a0, .ref b] h Q ↔ hS h b = (1, 8) ∧ X 121 0 [.ref b, .int a0] [] h (fun r h' => X 144 5 L (pv r []) h' Q) := X_virt (as := [.int a0]) (n := 1) (ml := 2) (ck := 8) mC_144 dX8_guest_2 (by unfold cOk; decide +kernel) ⟨rfl, rfl, by decide, Nat.le_of_ble_eq_true rfl⟩
theorem x144_5 {x : Int32} : X 144 5 L (.int x :: st) h Q ↔ if x = 0 then X 144 8 L st h Q else X 144 10 L st h Q := X_zne mC_144 dX8_guest_5 (by decide)
theorem x144_8 : X 144 8 L st h Q ↔ X 144 9 L (.int (-1) :: st) h Q := X_n mC_144 dX8_guest_8 rfl
theorem x144_9 {v : Int32} : X 144 9 L [.int v] h Q ↔ Q (some (.int v)) h := X_ret mC_144 dX8_guest_9 (by decide +kernel)
theorem x144_10 {l1 l2 : Value} {x : Nat} : X 144 10 [.ref x, l1, l2] st h Q ↔ X 144 11 [.ref x, l1, l2] (.ref x :: st) h Q := X_n mC_144 dX8_guest_10 rfl
theorem x144_11 {b : Nat} : X 144 11 L [.ref b] h Q ↔ hS h b = (1, 8) ∧ X 138 0 [.ref b, .null] [] h (fun r h' => X 144 14 L (pv r []) h' Q) := X_virt (as := []) (n := 0) (ml := 2) (ck := 8) mC_144 dX8_guest_11 (by unfold cOk; decide +kernel) ⟨rfl, rfl, by decide, Nat.le_of_ble_eq_true rfl⟩
theorem x144_14 {l0 l1 : Value} {x : Int32} : X 144 14 [l0, l1, .int x] st h Q ↔ X 144 15 [l0, l1, .int x] (.int x :: st) h Q := X_n mC_144 dX8_guest_14 rfl
theorem x144_15 {x : Int32} : X 144 15 L (.int x :: st) h Q ↔ if x = 0 then X 144 60 L st h Q else if x = 1 then X 144 70 L st h Q else if x = 2 then X 144 80 L st h Q else if x = 3 then X 144 90 L st h Q else if x = 4 then X 144 100 L st h Q else if x = 5 then X 144 107 L st h Q else if x = 6 then X 144 113 L st h Q else if x = 7 then X 144 119 L st h Q else X 144 128 L st h Q := by
  by_cases h0 : x = 0
  · subst h0; simp only [if_true]; exact X_tabIn (off := 45) mC_144 dX8_guest_15 ⟨by decide, by decide⟩ (by decide)
  rw [if_neg h0]
  by_cases h1 : x = 1
  · subst h1; simp only [if_true]; exact X_tabIn (off := 55) mC_144 dX8_guest_15 ⟨by decide, by decide⟩ (by decide)
  rw [if_neg h1]
  by_cases h2 : x = 2
  · subst h2; simp only [if_true]; exact X_tabIn (off := 65) mC_144 dX8_guest_15 ⟨by decide, by decide⟩ (by decide)
  rw [if_neg h2]
  by_cases h3 : x = 3
  · subst h3; simp only [if_true]; exact X_tabIn (off := 75) mC_144 dX8_guest_15 ⟨by decide, by decide⟩ (by decide)
  rw [if_neg h3]
  by_cases h4 : x = 4
  · subst h4; simp only [if_true]; exact X_tabIn (off := 85) mC_144 dX8_guest_15 ⟨by decide, by decide⟩ (by decide)
  rw [if_neg h4]
  by_cases h5 : x = 5
  · subst h5; simp only [if_true]; exact X_tabIn (off := 92) mC_144 dX8_guest_15 ⟨by decide, by decide⟩ (by decide)
  rw [if_neg h5]
  by_cases h6 : x = 6
  · subst h6; simp only [if_true]; exact X_tabIn (off := 98) mC_144 dX8_guest_15 ⟨by decide, by decide⟩ (by decide)
  rw [if_neg h6]
  by_cases h7 : x = 7
  · subst h7; simp only [if_true]; exact X_tabIn (off := 104) mC_144 dX8_guest_15 ⟨by decide, by decide⟩ (by decide)
  rw [if_neg h7]
  have q0 := toInt_ne h0
  rw [show (0 : Int32).toInt = 0 by decide] at q0
  have q1 := toInt_ne h1
  rw [show (1 : Int32).toInt = 1 by decide] at q1
  have q2 := toInt_ne h2
  rw [show (2 : Int32).toInt = 2 by decide] at q2
  have q3 := toInt_ne h3
  rw [show (3 : Int32).toInt = 3 by decide] at q3
  have q4 := toInt_ne h4
  rw [show (4 : Int32).toInt = 4 by decide] at q4
  have q5 := toInt_ne h5
  rw [show (5 : Int32).toInt = 5 by decide] at q5
  have q6 := toInt_ne h6
  rw [show (6 : Int32).toInt = 6 by decide] at q6
  have q7 := toInt_ne h7
  rw [show (7 : Int32).toInt = 7 by decide] at q7
  exact X_tabOut mC_144 dX8_guest_15 (by omega) (by decide)
theorem x144_60 {l1 l2 : Value} {x : Nat} : X 144 60 [.ref x, l1, l2] st h Q ↔ X 144 61 [.ref x, l1, l2] (.ref x :: st) h Q := X_n mC_144 dX8_guest_60 rfl
theorem x144_61 {a : Nat} : X 144 61 L (.ref a :: st) h Q ↔ (hS h a = (1, 8) ∧ hR h a 2 ≠ 0) ∧ X 144 64 L (.ref (hR h a 2) :: st) h Q := X_getR mC_144 dX8_guest_61 (by decide +kernel)
theorem x144_64 : X 144 64 L st h Q ↔ X 144 66 L (.int 6 :: st) h Q := X_n mC_144 dX8_guest_64 rfl
theorem x144_66 {l0 l2 : Value} {x : Int32} : X 144 66 [l0, .int x, l2] st h Q ↔ X 144 67 [l0, .int x, l2] (.int x :: st) h Q := X_n mC_144 dX8_guest_66 rfl
theorem x144_67 {x y : Int32} : X 144 67 L (.int y :: .int x :: st) h Q ↔ X 144 68 L (.int (x + y) :: st) h Q := X_n mC_144 dX8_guest_67 rfl
theorem x144_68 {j : Int32} {a : Nat} : X 144 68 L (.int j :: .ref a :: st) h Q ↔ ib j (hS h a) ∧ X 144 69 L (.int (hI h a j.toNatClampNeg) :: st) h Q := X_iald mC_144 dX8_guest_68
theorem x144_69 {v : Int32} : X 144 69 L [.int v] h Q ↔ Q (some (.int v)) h := X_ret mC_144 dX8_guest_69 (by decide +kernel)
theorem x144_70 {l1 l2 : Value} {x : Nat} : X 144 70 [.ref x, l1, l2] st h Q ↔ X 144 71 [.ref x, l1, l2] (.ref x :: st) h Q := X_n mC_144 dX8_guest_70 rfl
theorem x144_71 {a : Nat} : X 144 71 L (.ref a :: st) h Q ↔ (hS h a = (1, 8) ∧ hR h a 2 ≠ 0) ∧ X 144 74 L (.ref (hR h a 2) :: st) h Q := X_getR mC_144 dX8_guest_71 (by decide +kernel)
theorem x144_74 : X 144 74 L st h Q ↔ X 144 76 L (.int 11 :: st) h Q := X_n mC_144 dX8_guest_74 rfl
theorem x144_76 {l0 l2 : Value} {x : Int32} : X 144 76 [l0, .int x, l2] st h Q ↔ X 144 77 [l0, .int x, l2] (.int x :: st) h Q := X_n mC_144 dX8_guest_76 rfl
theorem x144_77 {x y : Int32} : X 144 77 L (.int y :: .int x :: st) h Q ↔ X 144 78 L (.int (x + y) :: st) h Q := X_n mC_144 dX8_guest_77 rfl
theorem x144_78 {j : Int32} {a : Nat} : X 144 78 L (.int j :: .ref a :: st) h Q ↔ ib j (hS h a) ∧ X 144 79 L (.int (hI h a j.toNatClampNeg) :: st) h Q := X_iald mC_144 dX8_guest_78
theorem x144_79 {v : Int32} : X 144 79 L [.int v] h Q ↔ Q (some (.int v)) h := X_ret mC_144 dX8_guest_79 (by decide +kernel)
theorem x144_80 {l1 l2 : Value} {x : Nat} : X 144 80 [.ref x, l1, l2] st h Q ↔ X 144 81 [.ref x, l1, l2] (.ref x :: st) h Q := X_n mC_144 dX8_guest_80 rfl
theorem x144_81 {a : Nat} : X 144 81 L (.ref a :: st) h Q ↔ (hS h a = (1, 8) ∧ hR h a 2 ≠ 0) ∧ X 144 84 L (.ref (hR h a 2) :: st) h Q := X_getR mC_144 dX8_guest_81 (by decide +kernel)
theorem x144_84 : X 144 84 L st h Q ↔ X 144 86 L (.int 16 :: st) h Q := X_n mC_144 dX8_guest_84 rfl
theorem x144_86 {l0 l2 : Value} {x : Int32} : X 144 86 [l0, .int x, l2] st h Q ↔ X 144 87 [l0, .int x, l2] (.int x :: st) h Q := X_n mC_144 dX8_guest_86 rfl
theorem x144_87 {x y : Int32} : X 144 87 L (.int y :: .int x :: st) h Q ↔ X 144 88 L (.int (x + y) :: st) h Q := X_n mC_144 dX8_guest_87 rfl
theorem x144_88 {j : Int32} {a : Nat} : X 144 88 L (.int j :: .ref a :: st) h Q ↔ ib j (hS h a) ∧ X 144 89 L (.int (hI h a j.toNatClampNeg) :: st) h Q := X_iald mC_144 dX8_guest_88
theorem x144_89 {v : Int32} : X 144 89 L [.int v] h Q ↔ Q (some (.int v)) h := X_ret mC_144 dX8_guest_89 (by decide +kernel)
theorem x144_90 {l1 l2 : Value} {x : Nat} : X 144 90 [.ref x, l1, l2] st h Q ↔ X 144 91 [.ref x, l1, l2] (.ref x :: st) h Q := X_n mC_144 dX8_guest_90 rfl
theorem x144_91 {a : Nat} : X 144 91 L (.ref a :: st) h Q ↔ (hS h a = (1, 8) ∧ hR h a 2 ≠ 0) ∧ X 144 94 L (.ref (hR h a 2) :: st) h Q := X_getR mC_144 dX8_guest_91 (by decide +kernel)
theorem x144_94 : X 144 94 L st h Q ↔ X 144 96 L (.int 21 :: st) h Q := X_n mC_144 dX8_guest_94 rfl
theorem x144_96 {l0 l2 : Value} {x : Int32} : X 144 96 [l0, .int x, l2] st h Q ↔ X 144 97 [l0, .int x, l2] (.int x :: st) h Q := X_n mC_144 dX8_guest_96 rfl
theorem x144_97 {x y : Int32} : X 144 97 L (.int y :: .int x :: st) h Q ↔ X 144 98 L (.int (x + y) :: st) h Q := X_n mC_144 dX8_guest_97 rfl
theorem x144_98 {j : Int32} {a : Nat} : X 144 98 L (.int j :: .ref a :: st) h Q ↔ ib j (hS h a) ∧ X 144 99 L (.int (hI h a j.toNatClampNeg) :: st) h Q := X_iald mC_144 dX8_guest_98
theorem x144_99 {v : Int32} : X 144 99 L [.int v] h Q ↔ Q (some (.int v)) h := X_ret mC_144 dX8_guest_99 (by decide +kernel)
theorem x144_100 {l1 l2 : Value} {x : Nat} : X 144 100 [.ref x, l1, l2] st h Q ↔ X 144 101 [.ref x, l1, l2] (.ref x :: st) h Q := X_n mC_144 dX8_guest_100 rfl
theorem x144_101 {a : Nat} : X 144 101 L (.ref a :: st) h Q ↔ (hS h a = (1, 8) ∧ hR h a 4 ≠ 0) ∧ X 144 104 L (.ref (hR h a 4) :: st) h Q := X_getR mC_144 dX8_guest_101 (by decide +kernel)
theorem x144_104 {l0 l2 : Value} {x : Int32} : X 144 104 [l0, .int x, l2] st h Q ↔ X 144 105 [l0, .int x, l2] (.int x :: st) h Q := X_n mC_144 dX8_guest_104 rfl
theorem x144_105 {j : Int32} {a : Nat} : X 144 105 L (.int j :: .ref a :: st) h Q ↔ ib j (hS h a) ∧ X 144 106 L (.int (hI h a j.toNatClampNeg) :: st) h Q := X_iald mC_144 dX8_guest_105
theorem x144_106 {v : Int32} : X 144 106 L [.int v] h Q ↔ Q (some (.int v)) h := X_ret mC_144 dX8_guest_106 (by decide +kernel)
theorem x144_107 {l1 l2 : Value} {x : Nat} : X 144 107 [.ref x, l1, l2] st h Q ↔ X 144 108 [.ref x, l1, l2] (.ref x :: st) h Q := X_n mC_144 dX8_guest_107 rfl
theorem x144_108 {l0 l2 : Value} {x : Int32} : X 144 108 [l0, .int x, l2] st h Q ↔ X 144 109 [l0, .int x, l2] (.int x :: st) h Q := X_n mC_144 dX8_guest_108 rfl
theorem x144_109 {b : Nat} {a0 : Int32} : X 144 109 L [.int a0, .ref b] h Q ↔ hS h b = (1, 8) ∧ X 139 0 [.ref b, .int a0, .null] [] h (fun r h' => X 144 112 L (pv r []) h' Q) := X_virt (as := [.int a0]) (n := 1) (ml := 3) (ck := 8) mC_144 dX8_guest_109 (by unfold cOk; decide +kernel) ⟨rfl, rfl, by decide, Nat.le_of_ble_eq_true rfl⟩
theorem x144_112 {v : Int32} : X 144 112 L [.int v] h Q ↔ Q (some (.int v)) h := X_ret mC_144 dX8_guest_112 (by decide +kernel)
theorem x144_113 {l1 l2 : Value} {x : Nat} : X 144 113 [.ref x, l1, l2] st h Q ↔ X 144 114 [.ref x, l1, l2] (.ref x :: st) h Q := X_n mC_144 dX8_guest_113 rfl
theorem x144_114 {l0 l2 : Value} {x : Int32} : X 144 114 [l0, .int x, l2] st h Q ↔ X 144 115 [l0, .int x, l2] (.int x :: st) h Q := X_n mC_144 dX8_guest_114 rfl
theorem x144_115 {b : Nat} {a0 : Int32} : X 144 115 L [.int a0, .ref b] h Q ↔ hS h b = (1, 8) ∧ X 142 0 [.ref b, .int a0, .null, .null, .null] [] h (fun r h' => X 144 118 L (pv r []) h' Q) := X_virt (as := [.int a0]) (n := 1) (ml := 5) (ck := 8) mC_144 dX8_guest_115 (by unfold cOk; decide +kernel) ⟨rfl, rfl, by decide, Nat.le_of_ble_eq_true rfl⟩
theorem x144_118 {v : Int32} : X 144 118 L [.int v] h Q ↔ Q (some (.int v)) h := X_ret mC_144 dX8_guest_118 (by decide +kernel)
theorem x144_119 {l1 l2 : Value} {x : Nat} : X 144 119 [.ref x, l1, l2] st h Q ↔ X 144 120 [.ref x, l1, l2] (.ref x :: st) h Q := X_n mC_144 dX8_guest_119 rfl
theorem x144_120 {b : Nat} : X 144 120 L [.ref b] h Q ↔ hS h b = (1, 8) ∧ X 143 0 [.ref b, .null, .null] [] h (fun r h' => X 144 123 L (pv r []) h' Q) := X_virt (as := []) (n := 0) (ml := 3) (ck := 8) mC_144 dX8_guest_120 (by unfold cOk; decide +kernel) ⟨rfl, rfl, by decide, Nat.le_of_ble_eq_true rfl⟩
theorem x144_123 {l0 l2 : Value} {x : Int32} : X 144 123 [l0, .int x, l2] st h Q ↔ X 144 124 [l0, .int x, l2] (.int x :: st) h Q := X_n mC_144 dX8_guest_123 rfl
theorem x144_124 {x y : Int32} : X 144 124 L (.int y :: .int x :: st) h Q ↔ X 144 125 L (.int (x >>> (y &&& 31)) :: st) h Q := X_n mC_144 dX8_guest_124 rfl
theorem x144_125 : X 144 125 L st h Q ↔ X 144 126 L (.int 1 :: st) h Q := X_n mC_144 dX8_guest_125 rfl
theorem x144_126 {x y : Int32} : X 144 126 L (.int y :: .int x :: st) h Q ↔ X 144 127 L (.int (x &&& y) :: st) h Q := X_n mC_144 dX8_guest_126 rfl
theorem x144_127 {v : Int32} : X 144 127 L [.int v] h Q ↔ Q (some (.int v)) h := X_ret mC_144 dX8_guest_127 (by decide +kernel)
theorem x144_128 : X 144 128 L st h Q ↔ X 144 129 L (.int (-1) :: st) h Q := X_n mC_144 dX8_guest_128 rfl
theorem x144_129 {v : Int32} : X 144 129 L [.int v] h Q ↔ Q (some (.int v)) h := X_ret mC_144 dX8_guest_129 (by decide +kernel)
theorem mC_145 : mC 145 = cX8_inBed := rfl
theorem x145_0 : X 145 0 L st h Q ↔ X 145 2 L (.int (-4) :: st) h Q := X_n mC_145 dX8_inBed_0 rfl
theorem x145_2 {l0 l1 l2 l3 : Value} {x : Int32} : X 145 2 [l0, l1, l2, l3] (.int x :: st) h Q ↔ c1 l1 = true ∧ X 145 3 [l0, l1, .int x, l3] st h Q := X_sto (kk := 2) (pc' := 3) (w := .int x) mC_145 dX8_inBed_2 rfl (Nat.le_of_ble_eq_true rfl) rfl
theorem x145_3 : X 145 3 L st h Q ↔ X 145 4 L (.int 0 :: st) h Q := X_n mC_145 dX8_inBed_3 rfl
theorem x145_4 {l0 l1 l2 l3 : Value} {x : Int32} : X 145 4 [l0, l1, l2, l3] (.int x :: st) h Q ↔ c1 l2 = true ∧ X 145 5 [l0, l1, l2, .int x] st h Q := X_sto (kk := 3) (pc' := 5) (w := .int x) mC_145 dX8_inBed_4 rfl (Nat.le_of_ble_eq_true rfl) rfl
theorem x145_5 {l0 l1 l2 : Value} {x : Int32} : X 145 5 [l0, l1, l2, .int x] st h Q ↔ X 145 6 [l0, l1, l2, .int x] (.int x :: st) h Q := X_n mC_145 dX8_inBed_5 rfl
theorem x145_6 {l1 l2 l3 : Value} {x : Nat} : X 145 6 [.ref x, l1, l2, l3] st h Q ↔ X 145 7 [.ref x, l1, l2, l3] (.ref x :: st) h Q := X_n mC_145 dX8_inBed_6 rfl
theorem x145_7 {a : Nat} : X 145 7 L (.ref a :: st) h Q ↔ (hS h a = (1, 8) ∧ hR h a 2 ≠ 0) ∧ X 145 10 L (.ref (hR h a 2) :: st) h Q := X_getR mC_145 dX8_inBed_7 (by decide +kernel)
theorem x145_10 : X 145 10 L st h Q ↔ X 145 11 L (.int 0 :: st) h Q := X_n mC_145 dX8_inBed_10 rfl
theorem x145_11 {j : Int32} {a : Nat} : X 145 11 L (.int j :: .ref a :: st) h Q ↔ ib j (hS h a) ∧ X 145 12 L (.int (hI h a j.toNatClampNeg) :: st) h Q := X_iald mC_145 dX8_inBed_11
theorem x145_12 {x y : Int32} : X 145 12 L (.int y :: .int x :: st) h Q ↔ if x < y then X 145 15 L st h Q else X 145 37 L st h Q := X_ige mC_145 dX8_inBed_12 (by decide)
theorem x145_15 {l1 l2 l3 : Value} {x : Nat} : X 145 15 [.ref x, l1, l2, l3] st h Q ↔ X 145 16 [.ref x, l1, l2, l3] (.ref x :: st) h Q := X_n mC_145 dX8_inBed_15 rfl
theorem x145_16 {a : Nat} : X 145 16 L (.ref a :: st) h Q ↔ (hS h a = (1, 8) ∧ hR h a 4 ≠ 0) ∧ X 145 19 L (.ref (hR h a 4) :: st) h Q := X_getR mC_145 dX8_inBed_16 (by decide +kernel)
theorem x145_19 {l0 l1 l2 : Value} {x : Int32} : X 145 19 [l0, l1, l2, .int x] st h Q ↔ X 145 20 [l0, l1, l2, .int x] (.int x :: st) h Q := X_n mC_145 dX8_inBed_19 rfl
theorem x145_20 {j : Int32} {a : Nat} : X 145 20 L (.int j :: .ref a :: st) h Q ↔ ib j (hS h a) ∧ X 145 21 L (.int (hI h a j.toNatClampNeg) :: st) h Q := X_iald mC_145 dX8_inBed_20
theorem x145_21 {l0 l2 l3 : Value} {x : Int32} : X 145 21 [l0, .int x, l2, l3] st h Q ↔ X 145 22 [l0, .int x, l2, l3] (.int x :: st) h Q := X_n mC_145 dX8_inBed_21 rfl
theorem x145_22 {x y : Int32} : X 145 22 L (.int y :: .int x :: st) h Q ↔ if x = y then X 145 25 L st h Q else X 145 29 L st h Q := X_ine mC_145 dX8_inBed_22 (by decide)
theorem x145_25 {l0 l1 l2 : Value} {x : Int32} : X 145 25 [l0, l1, l2, .int x] st h Q ↔ X 145 26 [l0, l1, l2, .int x] (.int x :: st) h Q := X_n mC_145 dX8_inBed_25 rfl
theorem x145_26 : X 145 26 L st h Q ↔ X 145 30 L st h Q := X_goto mC_145 dX8_inBed_26 (by decide)
theorem x145_29 {l0 l1 l3 : Value} {x : Int32} : X 145 29 [l0, l1, .int x, l3] st h Q ↔ X 145 30 [l0, l1, .int x, l3] (.int x :: st) h Q := X_n mC_145 dX8_inBed_29 rfl
theorem x145_30 {l0 l1 l2 l3 : Value} {x : Int32} : X 145 30 [l0, l1, l2, l3] (.int x :: st) h Q ↔ c1 l1 = true ∧ X 145 31 [l0, l1, .int x, l3] st h Q := X_sto (kk := 2) (pc' := 31) (w := .int x) mC_145 dX8_inBed_30 rfl (Nat.le_of_ble_eq_true rfl) rfl
theorem x145_31 {l0 l1 l2 : Value} {x : Int32} : X 145 31 [l0, l1, l2, .int x] st h Q ↔ c1 l2 = true ∧ X 145 34 [l0, l1, l2, .int (x + 1)] st h Q := X_inc (pc' := 34) (x := x) mC_145 dX8_inBed_31 rfl rfl rfl
theorem x145_34 : X 145 34 L st h Q ↔ X 145 5 L st h Q := X_goto mC_145 dX8_inBed_34 (by decide)
theorem x145_37 {l0 l1 l3 : Value} {x : Int32} : X 145 37 [l0, l1, .int x, l3] st h Q ↔ X 145 38 [l0, l1, .int x, l3] (.int x :: st) h Q := X_n mC_145 dX8_inBed_37 rfl
theorem x145_38 {v : Int32} : X 145 38 L [.int v] h Q ↔ Q (some (.int v)) h := X_ret mC_145 dX8_inBed_38 (by decide +kernel)
theorem mC_146 : mC 146 = cX8_bed := rfl
theorem x146_0 {l1 : Value} {x : Nat} : X 146 0 [.ref x, l1] st h Q ↔ X 146 1 [.ref x, l1] (.ref x :: st) h Q := X_n mC_146 dX8_bed_0 rfl
theorem x146_1 {l0 : Value} {x : Int32} : X 146 1 [l0, .int x] st h Q ↔ X 146 2 [l0, .int x] (.int x :: st) h Q := X_n mC_146 dX8_bed_1 rfl
theorem x146_2 {b : Nat} {a0 : Int32} : X 146 2 L [.int a0, .ref b] h Q ↔ hS h b = (1, 8) ∧ X 122 0 [.ref b, .int a0] [] h (fun r h' => X 146 5 L (pv r []) h' Q) := X_virt (as := [.int a0]) (n := 1) (ml := 2) (ck := 8) mC_146 dX8_bed_2 (by unfold cOk; decide +kernel) ⟨rfl, rfl, by decide, Nat.le_of_ble_eq_true rfl⟩
theorem x146_5 {x : Int32} : X 146 5 L (.int x :: st) h Q ↔ if x = 0 then X 146 16 L st h Q else X 146 8 L st h Q := X_zeq mC_146 dX8_bed_5 (by decide)
theorem x146_8 {l1 : Value} {x : Nat} : X 146 8 [.ref x, l1] st h Q ↔ X 146 9 [.ref x, l1] (.ref x :: st) h Q := X_n mC_146 dX8_bed_8 rfl
theorem x146_9 {l0 : Value} {x : Int32} : X 146 9 [l0, .int x] st h Q ↔ X 146 10 [l0, .int x] (.int x :: st) h Q := X_n mC_146 dX8_bed_9 rfl
theorem x146_10 {b : Nat} {a0 : Int32} : X 146 10 L [.int a0, .ref b] h Q ↔ hS h b = (1, 8) ∧ X 145 0 [.ref b, .int a0, .null, .null] [] h (fun r h' => X 146 13 L (pv r []) h' Q) := X_virt (as := [.int a0]) (n := 1) (ml := 4) (ck := 8) mC_146 dX8_bed_10 (by unfold cOk; decide +kernel) ⟨rfl, rfl, by decide, Nat.le_of_ble_eq_true rfl⟩
theorem x146_13 : X 146 13 L st h Q ↔ X 146 17 L st h Q := X_goto mC_146 dX8_bed_13 (by decide)
theorem x146_16 : X 146 16 L st h Q ↔ X 146 17 L (.int (-1) :: st) h Q := X_n mC_146 dX8_bed_16 rfl
theorem x146_17 {v : Int32} : X 146 17 L [.int v] h Q ↔ Q (some (.int v)) h := X_ret mC_146 dX8_bed_17 (by decide +kernel)
theorem mC_147 : mC 147 = cX8_wall := rfl
theorem x147_0 {l1 : Value} {x : Nat} : X 147 0 [.ref x, l1] st h Q ↔ X 147 1 [.ref x, l1] (.ref x :: st) h Q := X_n mC_147 dX8_wall_0 rfl
theorem x147_1 {l0 : Value} {x : Int32} : X 147 1 [l0, .int x] st h Q ↔ X 147 2 [l0, .int x] (.int x :: st) h Q := X_n mC_147 dX8_wall_1 rfl
theorem x147_2 {b : Nat} {a0 : Int32} : X 147 2 L [.int a0, .ref b] h Q ↔ hS h b = (1, 8) ∧ X 123 0 [.ref b, .int a0] [] h (fun r h' => X 147 5 L (pv r []) h' Q) := X_virt (as := [.int a0]) (n := 1) (ml := 2) (ck := 8) mC_147 dX8_wall_2 (by unfold cOk; decide +kernel) ⟨rfl, rfl, by decide, Nat.le_of_ble_eq_true rfl⟩
theorem x147_5 {x : Int32} : X 147 5 L (.int x :: st) h Q ↔ if x = 0 then X 147 21 L st h Q else X 147 8 L st h Q := X_zeq mC_147 dX8_wall_5 (by decide)
theorem x147_8 {l1 : Value} {x : Nat} : X 147 8 [.ref x, l1] st h Q ↔ X 147 9 [.ref x, l1] (.ref x :: st) h Q := X_n mC_147 dX8_wall_8 rfl
theorem x147_9 {a : Nat} : X 147 9 L (.ref a :: st) h Q ↔ (hS h a = (1, 8) ∧ hR h a 4 ≠ 0) ∧ X 147 12 L (.ref (hR h a 4) :: st) h Q := X_getR mC_147 dX8_wall_9 (by decide +kernel)
theorem x147_12 : X 147 12 L st h Q ↔ X 147 13 L (.int 5 :: st) h Q := X_n mC_147 dX8_wall_12 rfl
theorem x147_13 {j : Int32} {a : Nat} : X 147 13 L (.int j :: .ref a :: st) h Q ↔ ib j (hS h a) ∧ X 147 14 L (.int (hI h a j.toNatClampNeg) :: st) h Q := X_iald mC_147 dX8_wall_13
theorem x147_14 {l0 : Value} {x : Int32} : X 147 14 [l0, .int x] st h Q ↔ X 147 15 [l0, .int x] (.int x :: st) h Q := X_n mC_147 dX8_wall_14 rfl
theorem x147_15 {x y : Int32} : X 147 15 L (.int y :: .int x :: st) h Q ↔ X 147 16 L (.int (x >>> (y &&& 31)) :: st) h Q := X_n mC_147 dX8_wall_15 rfl
theorem x147_16 : X 147 16 L st h Q ↔ X 147 17 L (.int 1 :: st) h Q := X_n mC_147 dX8_wall_16 rfl
theorem x147_17 {x y : Int32} : X 147 17 L (.int y :: .int x :: st) h Q ↔ X 147 18 L (.int (x &&& y) :: st) h Q := X_n mC_147 dX8_wall_17 rfl
theorem x147_18 : X 147 18 L st h Q ↔ X 147 22 L st h Q := X_goto mC_147 dX8_wall_18 (by decide)
theorem x147_21 : X 147 21 L st h Q ↔ X 147 22 L (.int (-1) :: st) h Q := X_n mC_147 dX8_wall_21 rfl
theorem x147_22 {v : Int32} : X 147 22 L [.int v] h Q ↔ Q (some (.int v)) h := X_ret mC_147 dX8_wall_22 (by decide +kernel)
theorem mC_148 : mC 148 = cX8_keeps := rfl
theorem x148_0 {l1 : Value} {x : Nat} : X 148 0 [.ref x, l1] st h Q ↔ X 148 1 [.ref x, l1] (.ref x :: st) h Q := X_n mC_148 dX8_keeps_0 rfl
theorem x148_1 {a : Nat} : X 148 1 L (.ref a :: st) h Q ↔ hS h a = (1, 8) ∧ X 148 4 L (.int (hI h a 6) :: st) h Q := X_getI mC_148 dX8_keeps_1 (by decide +kernel)
theorem x148_4 : X 148 4 L st h Q ↔ X 148 6 L (.int 8 :: st) h Q := X_n mC_148 dX8_keeps_4 rfl
theorem x148_6 {x y : Int32} : X 148 6 L (.int y :: .int x :: st) h Q ↔ if x = y then X 148 9 L st h Q else X 148 48 L st h Q := X_ine mC_148 dX8_keeps_6 (by decide)
theorem x148_9 : X 148 9 L st h Q ↔ X 148 10 L (.int 0 :: st) h Q := X_n mC_148 dX8_keeps_9 rfl
theorem x148_10 {l0 l1 : Value} {x : Int32} : X 148 10 [l0, l1] (.int x :: st) h Q ↔ c1 l0 = true ∧ X 148 11 [l0, .int x] st h Q := X_sto (kk := 1) (pc' := 11) (w := .int x) mC_148 dX8_keeps_10 rfl (Nat.le_of_ble_eq_true rfl) rfl
theorem x148_11 {l0 : Value} {x : Int32} : X 148 11 [l0, .int x] st h Q ↔ X 148 12 [l0, .int x] (.int x :: st) h Q := X_n mC_148 dX8_keeps_11 rfl
theorem x148_12 : X 148 12 L st h Q ↔ X 148 14 L (.int 70 :: st) h Q := X_n mC_148 dX8_keeps_12 rfl
theorem x148_14 {x y : Int32} : X 148 14 L (.int y :: .int x :: st) h Q ↔ if x < y then X 148 17 L st h Q else X 148 38 L st h Q := X_ige mC_148 dX8_keeps_14 (by decide)
theorem x148_17 {l1 : Value} {x : Nat} : X 148 17 [.ref x, l1] st h Q ↔ X 148 18 [.ref x, l1] (.ref x :: st) h Q := X_n mC_148 dX8_keeps_17 rfl
theorem x148_18 {a : Nat} : X 148 18 L (.ref a :: st) h Q ↔ (hS h a = (1, 8) ∧ hR h a 5 ≠ 0) ∧ X 148 21 L (.ref (hR h a 5) :: st) h Q := X_getR mC_148 dX8_keeps_18 (by decide +kernel)
theorem x148_21 {l0 : Value} {x : Int32} : X 148 21 [l0, .int x] st h Q ↔ X 148 22 [l0, .int x] (.int x :: st) h Q := X_n mC_148 dX8_keeps_21 rfl
theorem x148_22 {l1 : Value} {x : Nat} : X 148 22 [.ref x, l1] st h Q ↔ X 148 23 [.ref x, l1] (.ref x :: st) h Q := X_n mC_148 dX8_keeps_22 rfl
theorem x148_23 {a : Nat} : X 148 23 L (.ref a :: st) h Q ↔ (hS h a = (1, 8) ∧ hR h a 5 ≠ 0) ∧ X 148 26 L (.ref (hR h a 5) :: st) h Q := X_getR mC_148 dX8_keeps_23 (by decide +kernel)
theorem x148_26 {l0 : Value} {x : Int32} : X 148 26 [l0, .int x] st h Q ↔ X 148 27 [l0, .int x] (.int x :: st) h Q := X_n mC_148 dX8_keeps_26 rfl
theorem x148_27 : X 148 27 L st h Q ↔ X 148 29 L (.int 10 :: st) h Q := X_n mC_148 dX8_keeps_27 rfl
theorem x148_29 {x y : Int32} : X 148 29 L (.int y :: .int x :: st) h Q ↔ X 148 30 L (.int (x + y) :: st) h Q := X_n mC_148 dX8_keeps_29 rfl
theorem x148_30 {j : Int32} {a : Nat} : X 148 30 L (.int j :: .ref a :: st) h Q ↔ ib j (hS h a) ∧ X 148 31 L (.int (hI h a j.toNatClampNeg) :: st) h Q := X_iald mC_148 dX8_keeps_30
theorem x148_31 {j x : Int32} {a : Nat} : X 148 31 L (.int x :: .int j :: .ref a :: st) h Q ↔ ibw j (hS h a) ∧ X 148 32 L st (sI h a j.toNatClampNeg x) Q := X_iast mC_148 dX8_keeps_31
theorem x148_32 {l0 : Value} {x : Int32} : X 148 32 [l0, .int x] st h Q ↔ c1 l0 = true ∧ X 148 35 [l0, .int (x + 1)] st h Q := X_inc (pc' := 35) (x := x) mC_148 dX8_keeps_32 rfl rfl rfl
theorem x148_35 : X 148 35 L st h Q ↔ X 148 11 L st h Q := X_goto mC_148 dX8_keeps_35 (by decide)
theorem x148_38 {l1 : Value} {x : Nat} : X 148 38 [.ref x, l1] st h Q ↔ X 148 39 [.ref x, l1] (.ref x :: st) h Q := X_n mC_148 dX8_keeps_38 rfl
theorem x148_39 {x : Nat} : X 148 39 L (.ref x :: st) h Q ↔ X 148 40 L (.ref x :: .ref x :: st) h Q := X_n mC_148 dX8_keeps_39 rfl
theorem x148_40 {a : Nat} : X 148 40 L (.ref a :: st) h Q ↔ hS h a = (1, 8) ∧ X 148 43 L (.int (hI h a 6) :: st) h Q := X_getI mC_148 dX8_keeps_40 (by decide +kernel)
theorem x148_43 : X 148 43 L st h Q ↔ X 148 44 L (.int 1 :: st) h Q := X_n mC_148 dX8_keeps_43 rfl
theorem x148_44 {x y : Int32} : X 148 44 L (.int y :: .int x :: st) h Q ↔ X 148 45 L (.int (x - y) :: st) h Q := X_n mC_148 dX8_keeps_44 rfl
theorem x148_45 {a : Nat} {v : Int32} : X 148 45 L (.int v :: .ref a :: st) h Q ↔ hS h a = (1, 8) ∧ X 148 48 L st (sI h a 6 v) Q := X_putI mC_148 dX8_keeps_45 (by decide +kernel)
theorem x148_48 : X 148 48 L st h Q ↔ X 148 49 L (.int 0 :: st) h Q := X_n mC_148 dX8_keeps_48 rfl
theorem x148_49 {l0 l1 : Value} {x : Int32} : X 148 49 [l0, l1] (.int x :: st) h Q ↔ c1 l0 = true ∧ X 148 50 [l0, .int x] st h Q := X_sto (kk := 1) (pc' := 50) (w := .int x) mC_148 dX8_keeps_49 rfl (Nat.le_of_ble_eq_true rfl) rfl
theorem x148_50 {l0 : Value} {x : Int32} : X 148 50 [l0, .int x] st h Q ↔ X 148 51 [l0, .int x] (.int x :: st) h Q := X_n mC_148 dX8_keeps_50 rfl
theorem x148_51 : X 148 51 L st h Q ↔ X 148 53 L (.int 10 :: st) h Q := X_n mC_148 dX8_keeps_51 rfl
theorem x148_53 {x y : Int32} : X 148 53 L (.int y :: .int x :: st) h Q ↔ if x < y then X 148 56 L st h Q else X 148 82 L st h Q := X_ige mC_148 dX8_keeps_53 (by decide)
theorem x148_56 {l1 : Value} {x : Nat} : X 148 56 [.ref x, l1] st h Q ↔ X 148 57 [.ref x, l1] (.ref x :: st) h Q := X_n mC_148 dX8_keeps_56 rfl
theorem x148_57 {a : Nat} : X 148 57 L (.ref a :: st) h Q ↔ (hS h a = (1, 8) ∧ hR h a 5 ≠ 0) ∧ X 148 60 L (.ref (hR h a 5) :: st) h Q := X_getR mC_148 dX8_keeps_57 (by decide +kernel)
theorem x148_60 : X 148 60 L st h Q ↔ X 148 62 L (.int 10 :: st) h Q := X_n mC_148 dX8_keeps_60 rfl
theorem x148_62 {l1 : Value} {x : Nat} : X 148 62 [.ref x, l1] st h Q ↔ X 148 63 [.ref x, l1] (.ref x :: st) h Q := X_n mC_148 dX8_keeps_62 rfl
theorem x148_63 {a : Nat} : X 148 63 L (.ref a :: st) h Q ↔ hS h a = (1, 8) ∧ X 148 66 L (.int (hI h a 6) :: st) h Q := X_getI mC_148 dX8_keeps_63 (by decide +kernel)
theorem x148_66 {x y : Int32} : X 148 66 L (.int y :: .int x :: st) h Q ↔ X 148 67 L (.int (x * y) :: st) h Q := X_n mC_148 dX8_keeps_66 rfl
theorem x148_67 {l0 : Value} {x : Int32} : X 148 67 [l0, .int x] st h Q ↔ X 148 68 [l0, .int x] (.int x :: st) h Q := X_n mC_148 dX8_keeps_67 rfl
theorem x148_68 {x y : Int32} : X 148 68 L (.int y :: .int x :: st) h Q ↔ X 148 69 L (.int (x + y) :: st) h Q := X_n mC_148 dX8_keeps_68 rfl
theorem x148_69 {l1 : Value} {x : Nat} : X 148 69 [.ref x, l1] st h Q ↔ X 148 70 [.ref x, l1] (.ref x :: st) h Q := X_n mC_148 dX8_keeps_69 rfl
theorem x148_70 {a : Nat} : X 148 70 L (.ref a :: st) h Q ↔ (hS h a = (1, 8) ∧ hR h a 4 ≠ 0) ∧ X 148 73 L (.ref (hR h a 4) :: st) h Q := X_getR mC_148 dX8_keeps_70 (by decide +kernel)
theorem x148_73 {l0 : Value} {x : Int32} : X 148 73 [l0, .int x] st h Q ↔ X 148 74 [l0, .int x] (.int x :: st) h Q := X_n mC_148 dX8_keeps_73 rfl
theorem x148_74 {j : Int32} {a : Nat} : X 148 74 L (.int j :: .ref a :: st) h Q ↔ ib j (hS h a) ∧ X 148 75 L (.int (hI h a j.toNatClampNeg) :: st) h Q := X_iald mC_148 dX8_keeps_74
theorem x148_75 {j x : Int32} {a : Nat} : X 148 75 L (.int x :: .int j :: .ref a :: st) h Q ↔ ibw j (hS h a) ∧ X 148 76 L st (sI h a j.toNatClampNeg x) Q := X_iast mC_148 dX8_keeps_75
theorem x148_76 {l0 : Value} {x : Int32} : X 148 76 [l0, .int x] st h Q ↔ c1 l0 = true ∧ X 148 79 [l0, .int (x + 1)] st h Q := X_inc (pc' := 79) (x := x) mC_148 dX8_keeps_76 rfl rfl rfl
theorem x148_79 : X 148 79 L st h Q ↔ X 148 50 L st h Q := X_goto mC_148 dX8_keeps_79 (by decide)
theorem x148_82 {l1 : Value} {x : Nat} : X 148 82 [.ref x, l1] st h Q ↔ X 148 83 [.ref x, l1] (.ref x :: st) h Q := X_n mC_148 dX8_keeps_82 rfl
theorem x148_83 {x : Nat} : X 148 83 L (.ref x :: st) h Q ↔ X 148 84 L (.ref x :: .ref x :: st) h Q := X_n mC_148 dX8_keeps_83 rfl
theorem x148_84 {a : Nat} : X 148 84 L (.ref a :: st) h Q ↔ hS h a = (1, 8) ∧ X 148 87 L (.int (hI h a 6) :: st) h Q := X_getI mC_148 dX8_keeps_84 (by decide +kernel)
theorem x148_87 : X 148 87 L st h Q ↔ X 148 88 L (.int 1 :: st) h Q := X_n mC_148 dX8_keeps_87 rfl
theorem x148_88 {x y : Int32} : X 148 88 L (.int y :: .int x :: st) h Q ↔ X 148 89 L (.int (x + y) :: st) h Q := X_n mC_148 dX8_keeps_88 rfl
theorem x148_89 {a : Nat} {v : Int32} : X 148 89 L (.int v :: .ref a :: st) h Q ↔ hS h a = (1, 8) ∧ X 148 92 L st (sI h a 6 v) Q := X_putI mC_148 dX8_keeps_89 (by decide +kernel)
theorem x148_92 : X 148 92 L [] h Q ↔ Q none h := X_retV mC_148 dX8_keeps_92 (by decide +kernel)
theorem mC_149 : mC 149 = cX8_far := rfl
theorem x149_0 {l1 : Value} {x : Int32} : X 149 0 [.int x, l1] st h Q ↔ X 149 1 [.int x, l1] (.int x :: st) h Q := X_n mC_149 dX8_far_0 rfl
theorem x149_1 {l0 : Value} {x : Int32} : X 149 1 [l0, .int x] st h Q ↔ X 149 2 [l0, .int x] (.int x :: st) h Q := X_n mC_149 dX8_far_1 rfl
theorem x149_2 {x y : Int32} : X 149 2 L (.int y :: .int x :: st) h Q ↔ if x < y then X 149 5 L st h Q else X 149 11 L st h Q := X_ige mC_149 dX8_far_2 (by decide)
theorem x149_5 {l0 : Value} {x : Int32} : X 149 5 [l0, .int x] st h Q ↔ X 149 6 [l0, .int x] (.int x :: st) h Q := X_n mC_149 dX8_far_5 rfl
theorem x149_6 {l1 : Value} {x : Int32} : X 149 6 [.int x, l1] st h Q ↔ X 149 7 [.int x, l1] (.int x :: st) h Q := X_n mC_149 dX8_far_6 rfl
theorem x149_7 {x y : Int32} : X 149 7 L (.int y :: .int x :: st) h Q ↔ X 149 8 L (.int (x - y) :: st) h Q := X_n mC_149 dX8_far_7 rfl
theorem x149_8 : X 149 8 L st h Q ↔ X 149 14 L st h Q := X_goto mC_149 dX8_far_8 (by decide)
theorem x149_11 {l1 : Value} {x : Int32} : X 149 11 [.int x, l1] st h Q ↔ X 149 12 [.int x, l1] (.int x :: st) h Q := X_n mC_149 dX8_far_11 rfl
theorem x149_12 {l0 : Value} {x : Int32} : X 149 12 [l0, .int x] st h Q ↔ X 149 13 [l0, .int x] (.int x :: st) h Q := X_n mC_149 dX8_far_12 rfl
theorem x149_13 {x y : Int32} : X 149 13 L (.int y :: .int x :: st) h Q ↔ X 149 14 L (.int (x - y) :: st) h Q := X_n mC_149 dX8_far_13 rfl
theorem x149_14 {v : Int32} : X 149 14 L [.int v] h Q ↔ Q (some (.int v)) h := X_ret mC_149 dX8_far_14 (by decide +kernel)
theorem mC_150 : mC 150 = cX8_goes := rfl
theorem x150_0 : X 150 0 L st h Q ↔ X 150 1 L (.int 0 :: st) h Q := X_n mC_150 dX8_goes_0 rfl
theorem x150_1 {l0 l1 l2 l3 l4 l5 : Value} {x : Int32} : X 150 1 [l0, l1, l2, l3, l4, l5] (.int x :: st) h Q ↔ c1 l2 = true ∧ X 150 2 [l0, l1, l2, .int x, l4, l5] st h Q := X_sto (kk := 3) (pc' := 2) (w := .int x) mC_150 dX8_goes_1 rfl (Nat.le_of_ble_eq_true rfl) rfl
theorem x150_2 : X 150 2 L st h Q ↔ X 150 3 L (.int 0 :: st) h Q := X_n mC_150 dX8_goes_2 rfl
theorem x150_3 {l0 l1 l2 l3 l4 l5 : Value} {x : Int32} : X 150 3 [l0, l1, l2, l3, l4, l5] (.int x :: st) h Q ↔ c1 l3 = true ∧ X 150 5 [l0, l1, l2, l3, .int x, l5] st h Q := X_sto (kk := 4) (pc' := 5) (w := .int x) mC_150 dX8_goes_3 rfl (Nat.le_of_ble_eq_true rfl) rfl
theorem x150_5 {l0 l1 l2 l3 l5 : Value} {x : Int32} : X 150 5 [l0, l1, l2, l3, .int x, l5] st h Q ↔ X 150 7 [l0, l1, l2, l3, .int x, l5] (.int x :: st) h Q := X_n mC_150 dX8_goes_5 rfl
theorem x150_7 {l1 l2 l3 l4 l5 : Value} {x : Nat} : X 150 7 [.ref x, l1, l2, l3, l4, l5] st h Q ↔ X 150 8 [.ref x, l1, l2, l3, l4, l5] (.ref x :: st) h Q := X_n mC_150 dX8_goes_7 rfl
theorem x150_8 {a : Nat} : X 150 8 L (.ref a :: st) h Q ↔ (hS h a = (1, 8) ∧ hR h a 2 ≠ 0) ∧ X 150 11 L (.ref (hR h a 2) :: st) h Q := X_getR mC_150 dX8_goes_8 (by decide +kernel)
theorem x150_11 : X 150 11 L st h Q ↔ X 150 12 L (.int 0 :: st) h Q := X_n mC_150 dX8_goes_11 rfl
theorem x150_12 {j : Int32} {a : Nat} : X 150 12 L (.int j :: .ref a :: st) h Q ↔ ib j (hS h a) ∧ X 150 13 L (.int (hI h a j.toNatClampNeg) :: st) h Q := X_iald mC_150 dX8_goes_12
theorem x150_13 {x y : Int32} : X 150 13 L (.int y :: .int x :: st) h Q ↔ if x < y then X 150 16 L st h Q else X 150 118 L st h Q := X_ige mC_150 dX8_goes_13 (by decide)
theorem x150_16 {l1 l2 l3 l4 l5 : Value} {x : Nat} : X 150 16 [.ref x, l1, l2, l3, l4, l5] st h Q ↔ X 150 17 [.ref x, l1, l2, l3, l4, l5] (.ref x :: st) h Q := X_n mC_150 dX8_goes_16 rfl
theorem x150_17 {a : Nat} : X 150 17 L (.ref a :: st) h Q ↔ (hS h a = (1, 8) ∧ hR h a 4 ≠ 0) ∧ X 150 20 L (.ref (hR h a 4) :: st) h Q := X_getR mC_150 dX8_goes_17 (by decide +kernel)
theorem x150_20 {l0 l1 l2 l3 l5 : Value} {x : Int32} : X 150 20 [l0, l1, l2, l3, .int x, l5] st h Q ↔ X 150 22 [l0, l1, l2, l3, .int x, l5] (.int x :: st) h Q := X_n mC_150 dX8_goes_20 rfl
theorem x150_22 {j : Int32} {a : Nat} : X 150 22 L (.int j :: .ref a :: st) h Q ↔ ib j (hS h a) ∧ X 150 23 L (.int (hI h a j.toNatClampNeg) :: st) h Q := X_iald mC_150 dX8_goes_22
theorem x150_23 {l1 l2 l3 l4 l5 : Value} {x : Nat} : X 150 23 [.ref x, l1, l2, l3, l4, l5] st h Q ↔ X 150 24 [.ref x, l1, l2, l3, l4, l5] (.ref x :: st) h Q := X_n mC_150 dX8_goes_23 rfl
theorem x150_24 {a : Nat} : X 150 24 L (.ref a :: st) h Q ↔ (hS h a = (1, 8) ∧ hR h a 4 ≠ 0) ∧ X 150 27 L (.ref (hR h a 4) :: st) h Q := X_getR mC_150 dX8_goes_24 (by decide +kernel)
theorem x150_27 {l0 l2 l3 l4 l5 : Value} {x : Int32} : X 150 27 [l0, .int x, l2, l3, l4, l5] st h Q ↔ X 150 28 [l0, .int x, l2, l3, l4, l5] (.int x :: st) h Q := X_n mC_150 dX8_goes_27 rfl
theorem x150_28 {j : Int32} {a : Nat} : X 150 28 L (.int j :: .ref a :: st) h Q ↔ ib j (hS h a) ∧ X 150 29 L (.int (hI h a j.toNatClampNeg) :: st) h Q := X_iald mC_150 dX8_goes_28
theorem x150_29 {x y : Int32} : X 150 29 L (.int y :: .int x :: st) h Q ↔ if y < x then X 150 32 L st h Q else X 150 43 L st h Q := X_ile mC_150 dX8_goes_29 (by decide)
theorem x150_32 {l1 l2 l3 l4 l5 : Value} {x : Nat} : X 150 32 [.ref x, l1, l2, l3, l4, l5] st h Q ↔ X 150 33 [.ref x, l1, l2, l3, l4, l5] (.ref x :: st) h Q := X_n mC_150 dX8_goes_32 rfl
theorem x150_33 {a : Nat} : X 150 33 L (.ref a :: st) h Q ↔ (hS h a = (1, 8) ∧ hR h a 4 ≠ 0) ∧ X 150 36 L (.ref (hR h a 4) :: st) h Q := X_getR mC_150 dX8_goes_33 (by decide +kernel)
theorem x150_36 {l0 l1 l2 l3 l5 : Value} {x : Int32} : X 150 36 [l0, l1, l2, l3, .int x, l5] st h Q ↔ X 150 38 [l0, l1, l2, l3, .int x, l5] (.int x :: st) h Q := X_n mC_150 dX8_goes_36 rfl
theorem x150_38 {j : Int32} {a : Nat} : X 150 38 L (.int j :: .ref a :: st) h Q ↔ ib j (hS h a) ∧ X 150 39 L (.int (hI h a j.toNatClampNeg) :: st) h Q := X_iald mC_150 dX8_goes_38
theorem x150_39 {l0 l1 l3 l4 l5 : Value} {x : Int32} : X 150 39 [l0, l1, .int x, l3, l4, l5] st h Q ↔ X 150 40 [l0, l1, .int x, l3, l4, l5] (.int x :: st) h Q := X_n mC_150 dX8_goes_39 rfl
theorem x150_40 {x y : Int32} : X 150 40 L (.int y :: .int x :: st) h Q ↔ if x < y then X 150 70 L st h Q else X 150 43 L st h Q := X_ilt mC_150 dX8_goes_40 (by decide)
theorem x150_43 {l1 l2 l3 l4 l5 : Value} {x : Nat} : X 150 43 [.ref x, l1, l2, l3, l4, l5] st h Q ↔ X 150 44 [.ref x, l1, l2, l3, l4, l5] (.ref x :: st) h Q := X_n mC_150 dX8_goes_43 rfl
theorem x150_44 {a : Nat} : X 150 44 L (.ref a :: st) h Q ↔ (hS h a = (1, 8) ∧ hR h a 4 ≠ 0) ∧ X 150 47 L (.ref (hR h a 4) :: st) h Q := X_getR mC_150 dX8_goes_44 (by decide +kernel)
theorem x150_47 {l0 l1 l2 l3 l5 : Value} {x : Int32} : X 150 47 [l0, l1, l2, l3, .int x, l5] st h Q ↔ X 150 49 [l0, l1, l2, l3, .int x, l5] (.int x :: st) h Q := X_n mC_150 dX8_goes_47 rfl
theorem x150_49 {j : Int32} {a : Nat} : X 150 49 L (.int j :: .ref a :: st) h Q ↔ ib j (hS h a) ∧ X 150 50 L (.int (hI h a j.toNatClampNeg) :: st) h Q := X_iald mC_150 dX8_goes_49
theorem x150_50 {l1 l2 l3 l4 l5 : Value} {x : Nat} : X 150 50 [.ref x, l1, l2, l3, l4, l5] st h Q ↔ X 150 51 [.ref x, l1, l2, l3, l4, l5] (.ref x :: st) h Q := X_n mC_150 dX8_goes_50 rfl
theorem x150_51 {a : Nat} : X 150 51 L (.ref a :: st) h Q ↔ (hS h a = (1, 8) ∧ hR h a 4 ≠ 0) ∧ X 150 54 L (.ref (hR h a 4) :: st) h Q := X_getR mC_150 dX8_goes_51 (by decide +kernel)
theorem x150_54 {l0 l2 l3 l4 l5 : Value} {x : Int32} : X 150 54 [l0, .int x, l2, l3, l4, l5] st h Q ↔ X 150 55 [l0, .int x, l2, l3, l4, l5] (.int x :: st) h Q := X_n mC_150 dX8_goes_54 rfl
theorem x150_55 {j : Int32} {a : Nat} : X 150 55 L (.int j :: .ref a :: st) h Q ↔ ib j (hS h a) ∧ X 150 56 L (.int (hI h a j.toNatClampNeg) :: st) h Q := X_iald mC_150 dX8_goes_55
theorem x150_56 {x y : Int32} : X 150 56 L (.int y :: .int x :: st) h Q ↔ if x < y then X 150 59 L st h Q else X 150 74 L st h Q := X_ige mC_150 dX8_goes_56 (by decide)
theorem x150_59 {l1 l2 l3 l4 l5 : Value} {x : Nat} : X 150 59 [.ref x, l1, l2, l3, l4, l5] st h Q ↔ X 150 60 [.ref x, l1, l2, l3, l4, l5] (.ref x :: st) h Q := X_n mC_150 dX8_goes_59 rfl
theorem x150_60 {a : Nat} : X 150 60 L (.ref a :: st) h Q ↔ (hS h a = (1, 8) ∧ hR h a 4 ≠ 0) ∧ X 150 63 L (.ref (hR h a 4) :: st) h Q := X_getR mC_150 dX8_goes_60 (by decide +kernel)
theorem x150_63 {l0 l1 l2 l3 l5 : Value} {x : Int32} : X 150 63 [l0, l1, l2, l3, .int x, l5] st h Q ↔ X 150 65 [l0, l1, l2, l3, .int x, l5] (.int x :: st) h Q := X_n mC_150 dX8_goes_63 rfl
theorem x150_65 {j : Int32} {a : Nat} : X 150 65 L (.int j :: .ref a :: st) h Q ↔ ib j (hS h a) ∧ X 150 66 L (.int (hI h a j.toNatClampNeg) :: st) h Q := X_iald mC_150 dX8_goes_65
theorem x150_66 {l0 l1 l3 l4 l5 : Value} {x : Int32} : X 150 66 [l0, l1, .int x, l3, l4, l5] st h Q ↔ X 150 67 [l0, l1, .int x, l3, l4, l5] (.int x :: st) h Q := X_n mC_150 dX8_goes_66 rfl
theorem x150_67 {x y : Int32} : X 150 67 L (.int y :: .int x :: st) h Q ↔ if y < x then X 150 70 L st h Q else X 150 74 L st h Q := X_ile mC_150 dX8_goes_67 (by decide)
theorem x150_70 : X 150 70 L st h Q ↔ X 150 71 L (.int 1 :: st) h Q := X_n mC_150 dX8_goes_70 rfl
theorem x150_71 : X 150 71 L st h Q ↔ X 150 75 L st h Q := X_goto mC_150 dX8_goes_71 (by decide)
theorem x150_74 : X 150 74 L st h Q ↔ X 150 75 L (.int 0 :: st) h Q := X_n mC_150 dX8_goes_74 rfl
theorem x150_75 {l0 l1 l2 l3 l4 l5 : Value} {x : Int32} : X 150 75 [l0, l1, l2, l3, l4, l5] (.int x :: st) h Q ↔ c1 l4 = true ∧ X 150 77 [l0, l1, l2, l3, l4, .int x] st h Q := X_sto (kk := 5) (pc' := 77) (w := .int x) mC_150 dX8_goes_75 rfl (Nat.le_of_ble_eq_true rfl) rfl
theorem x150_77 {l0 l1 l2 l4 l5 : Value} {x : Int32} : X 150 77 [l0, l1, l2, .int x, l4, l5] st h Q ↔ X 150 78 [l0, l1, l2, .int x, l4, l5] (.int x :: st) h Q := X_n mC_150 dX8_goes_77 rfl
theorem x150_78 {l0 l1 l2 l3 l4 : Value} {x : Int32} : X 150 78 [l0, l1, l2, l3, l4, .int x] st h Q ↔ X 150 80 [l0, l1, l2, l3, l4, .int x] (.int x :: st) h Q := X_n mC_150 dX8_goes_78 rfl
theorem x150_80 {x : Int32} : X 150 80 L (.int x :: st) h Q ↔ if x = 0 then X 150 109 L st h Q else X 150 83 L st h Q := X_zeq mC_150 dX8_goes_80 (by decide)
theorem x150_83 {l1 l2 l3 l4 l5 : Value} {x : Nat} : X 150 83 [.ref x, l1, l2, l3, l4, l5] st h Q ↔ X 150 84 [.ref x, l1, l2, l3, l4, l5] (.ref x :: st) h Q := X_n mC_150 dX8_goes_83 rfl
theorem x150_84 {a : Nat} : X 150 84 L (.ref a :: st) h Q ↔ (hS h a = (1, 8) ∧ hR h a 2 ≠ 0) ∧ X 150 87 L (.ref (hR h a 2) :: st) h Q := X_getR mC_150 dX8_goes_84 (by decide +kernel)
theorem x150_87 : X 150 87 L st h Q ↔ X 150 89 L (.int 21 :: st) h Q := X_n mC_150 dX8_goes_87 rfl
theorem x150_89 {l0 l1 l2 l3 l5 : Value} {x : Int32} : X 150 89 [l0, l1, l2, l3, .int x, l5] st h Q ↔ X 150 91 [l0, l1, l2, l3, .int x, l5] (.int x :: st) h Q := X_n mC_150 dX8_goes_89 rfl
theorem x150_91 {x y : Int32} : X 150 91 L (.int y :: .int x :: st) h Q ↔ X 150 92 L (.int (x + y) :: st) h Q := X_n mC_150 dX8_goes_91 rfl
theorem x150_92 {j : Int32} {a : Nat} : X 150 92 L (.int j :: .ref a :: st) h Q ↔ ib j (hS h a) ∧ X 150 93 L (.int (hI h a j.toNatClampNeg) :: st) h Q := X_iald mC_150 dX8_goes_92
theorem x150_93 {l1 l2 l3 l4 l5 : Value} {x : Nat} : X 150 93 [.ref x, l1, l2, l3, l4, l5] st h Q ↔ X 150 94 [.ref x, l1, l2, l3, l4, l5] (.ref x :: st) h Q := X_n mC_150 dX8_goes_93 rfl
theorem x150_94 {a : Nat} : X 150 94 L (.ref a :: st) h Q ↔ (hS h a = (1, 8) ∧ hR h a 2 ≠ 0) ∧ X 150 97 L (.ref (hR h a 2) :: st) h Q := X_getR mC_150 dX8_goes_94 (by decide +kernel)
theorem x150_97 : X 150 97 L st h Q ↔ X 150 98 L (.int 2 :: st) h Q := X_n mC_150 dX8_goes_97 rfl
theorem x150_98 {j : Int32} {a : Nat} : X 150 98 L (.int j :: .ref a :: st) h Q ↔ ib j (hS h a) ∧ X 150 99 L (.int (hI h a j.toNatClampNeg) :: st) h Q := X_iald mC_150 dX8_goes_98
theorem x150_99 {x y : Int32} : X 150 99 L (.int y :: .int x :: st) h Q ↔ if y < x then X 150 109 L st h Q else X 150 102 L st h Q := X_igt mC_150 dX8_goes_99 (by decide)
theorem x150_102 : X 150 102 L st h Q ↔ X 150 103 L (.int 1 :: st) h Q := X_n mC_150 dX8_goes_102 rfl
theorem x150_103 {l0 l1 l2 l3 l5 : Value} {x : Int32} : X 150 103 [l0, l1, l2, l3, .int x, l5] st h Q ↔ X 150 105 [l0, l1, l2, l3, .int x, l5] (.int x :: st) h Q := X_n mC_150 dX8_goes_103 rfl
theorem x150_105 {x y : Int32} : X 150 105 L (.int y :: .int x :: st) h Q ↔ X 150 106 L (.int (x <<< (y &&& 31)) :: st) h Q := X_n mC_150 dX8_goes_105 rfl
theorem x150_106 : X 150 106 L st h Q ↔ X 150 110 L st h Q := X_goto mC_150 dX8_goes_106 (by decide)
theorem x150_109 : X 150 109 L st h Q ↔ X 150 110 L (.int 0 :: st) h Q := X_n mC_150 dX8_goes_109 rfl
theorem x150_110 {x y : Int32} : X 150 110 L (.int y :: .int x :: st) h Q ↔ X 150 111 L (.int (x ||| y) :: st) h Q := X_n mC_150 dX8_goes_110 rfl
theorem x150_111 {l0 l1 l2 l3 l4 l5 : Value} {x : Int32} : X 150 111 [l0, l1, l2, l3, l4, l5] (.int x :: st) h Q ↔ c1 l2 = true ∧ X 150 112 [l0, l1, l2, .int x, l4, l5] st h Q := X_sto (kk := 3) (pc' := 112) (w := .int x) mC_150 dX8_goes_111 rfl (Nat.le_of_ble_eq_true rfl) rfl
theorem x150_112 {l0 l1 l2 l3 l5 : Value} {x : Int32} : X 150 112 [l0, l1, l2, l3, .int x, l5] st h Q ↔ c1 l3 = true ∧ X 150 115 [l0, l1, l2, l3, .int (x + 1), l5] st h Q := X_inc (pc' := 115) (x := x) mC_150 dX8_goes_112 rfl rfl rfl
theorem x150_115 : X 150 115 L st h Q ↔ X 150 5 L st h Q := X_goto mC_150 dX8_goes_115 (by decide)
theorem x150_118 {l1 l2 l3 l4 l5 : Value} {x : Nat} : X 150 118 [.ref x, l1, l2, l3, l4, l5] st h Q ↔ X 150 119 [.ref x, l1, l2, l3, l4, l5] (.ref x :: st) h Q := X_n mC_150 dX8_goes_118 rfl
theorem x150_119 {a : Nat} : X 150 119 L (.ref a :: st) h Q ↔ (hS h a = (1, 8) ∧ hR h a 4 ≠ 0) ∧ X 150 122 L (.ref (hR h a 4) :: st) h Q := X_getR mC_150 dX8_goes_119 (by decide +kernel)
theorem x150_122 : X 150 122 L st h Q ↔ X 150 124 L (.int 7 :: st) h Q := X_n mC_150 dX8_goes_122 rfl
theorem x150_124 {x : Nat} {y : Int32} : X 150 124 L (.int y :: .ref x :: st) h Q ↔ X 150 125 L (.int y :: .ref x :: .int y :: .ref x :: st) h Q := X_n mC_150 dX8_goes_124 rfl
theorem x150_125 {j : Int32} {a : Nat} : X 150 125 L (.int j :: .ref a :: st) h Q ↔ ib j (hS h a) ∧ X 150 126 L (.int (hI h a j.toNatClampNeg) :: st) h Q := X_iald mC_150 dX8_goes_125
theorem x150_126 {l1 l2 l3 l4 l5 : Value} {x : Nat} : X 150 126 [.ref x, l1, l2, l3, l4, l5] st h Q ↔ X 150 127 [.ref x, l1, l2, l3, l4, l5] (.ref x :: st) h Q := X_n mC_150 dX8_goes_126 rfl
theorem x150_127 {a : Nat} : X 150 127 L (.ref a :: st) h Q ↔ (hS h a = (1, 8) ∧ hR h a 4 ≠ 0) ∧ X 150 130 L (.ref (hR h a 4) :: st) h Q := X_getR mC_150 dX8_goes_127 (by decide +kernel)
theorem x150_130 {l0 l2 l3 l4 l5 : Value} {x : Int32} : X 150 130 [l0, .int x, l2, l3, l4, l5] st h Q ↔ X 150 131 [l0, .int x, l2, l3, l4, l5] (.int x :: st) h Q := X_n mC_150 dX8_goes_130 rfl
theorem x150_131 {j : Int32} {a : Nat} : X 150 131 L (.int j :: .ref a :: st) h Q ↔ ib j (hS h a) ∧ X 150 132 L (.int (hI h a j.toNatClampNeg) :: st) h Q := X_iald mC_150 dX8_goes_131
theorem x150_132 {l0 l1 l3 l4 l5 : Value} {x : Int32} : X 150 132 [l0, l1, .int x, l3, l4, l5] st h Q ↔ X 150 133 [l0, l1, .int x, l3, l4, l5] (.int x :: st) h Q := X_n mC_150 dX8_goes_132 rfl
theorem x150_133 {a0 : Int32} {a1 : Int32} {w0 w1 w2 : Value} : X 150 133 L [.int a1, .int a0, w0, w1, w2] h Q ↔ X 149 0 [.int a0, .int a1] [] h (fun r h' => X 150 136 L (pv r [w0, w1, w2]) h' Q) := X_stat (as := [.int a0, .int a1]) (n := 2) (ml := 2) (ck := 8) mC_150 dX8_goes_133 (by unfold cOk; decide +kernel) ⟨rfl, rfl, by decide, Nat.le_of_ble_eq_true rfl⟩
theorem x150_136 {x y : Int32} : X 150 136 L (.int y :: .int x :: st) h Q ↔ X 150 137 L (.int (x + y) :: st) h Q := X_n mC_150 dX8_goes_136 rfl
theorem x150_137 {j x : Int32} {a : Nat} : X 150 137 L (.int x :: .int j :: .ref a :: st) h Q ↔ ibw j (hS h a) ∧ X 150 138 L st (sI h a j.toNatClampNeg x) Q := X_iast mC_150 dX8_goes_137
theorem x150_138 {l1 l2 l3 l4 l5 : Value} {x : Nat} : X 150 138 [.ref x, l1, l2, l3, l4, l5] st h Q ↔ X 150 139 [.ref x, l1, l2, l3, l4, l5] (.ref x :: st) h Q := X_n mC_150 dX8_goes_138 rfl
theorem x150_139 {a : Nat} : X 150 139 L (.ref a :: st) h Q ↔ (hS h a = (1, 8) ∧ hR h a 4 ≠ 0) ∧ X 150 142 L (.ref (hR h a 4) :: st) h Q := X_getR mC_150 dX8_goes_139 (by decide +kernel)
theorem x150_142 : X 150 142 L st h Q ↔ X 150 144 L (.int 8 :: st) h Q := X_n mC_150 dX8_goes_142 rfl
theorem x150_144 {x : Nat} {y : Int32} : X 150 144 L (.int y :: .ref x :: st) h Q ↔ X 150 145 L (.int y :: .ref x :: .int y :: .ref x :: st) h Q := X_n mC_150 dX8_goes_144 rfl
theorem x150_145 {j : Int32} {a : Nat} : X 150 145 L (.int j :: .ref a :: st) h Q ↔ ib j (hS h a) ∧ X 150 146 L (.int (hI h a j.toNatClampNeg) :: st) h Q := X_iald mC_150 dX8_goes_145
theorem x150_146 : X 150 146 L st h Q ↔ X 150 147 L (.int 1 :: st) h Q := X_n mC_150 dX8_goes_146 rfl
theorem x150_147 {x y : Int32} : X 150 147 L (.int y :: .int x :: st) h Q ↔ X 150 148 L (.int (x + y) :: st) h Q := X_n mC_150 dX8_goes_147 rfl
theorem x150_148 {j x : Int32} {a : Nat} : X 150 148 L (.int x :: .int j :: .ref a :: st) h Q ↔ ibw j (hS h a) ∧ X 150 149 L st (sI h a j.toNatClampNeg x) Q := X_iast mC_150 dX8_goes_148
theorem x150_149 {l1 l2 l3 l4 l5 : Value} {x : Nat} : X 150 149 [.ref x, l1, l2, l3, l4, l5] st h Q ↔ X 150 150 [.ref x, l1, l2, l3, l4, l5] (.ref x :: st) h Q := X_n mC_150 dX8_goes_149 rfl
theorem x150_150 {a : Nat} : X 150 150 L (.ref a :: st) h Q ↔ (hS h a = (1, 8) ∧ hR h a 4 ≠ 0) ∧ X 150 153 L (.ref (hR h a 4) :: st) h Q := X_getR mC_150 dX8_goes_150 (by decide +kernel)
theorem x150_153 : X 150 153 L st h Q ↔ X 150 155 L (.int 9 :: st) h Q := X_n mC_150 dX8_goes_153 rfl
theorem x150_155 {x : Nat} {y : Int32} : X 150 155 L (.int y :: .ref x :: st) h Q ↔ X 150 156 L (.int y :: .ref x :: .int y :: .ref x :: st) h Q := X_n mC_150 dX8_goes_155 rfl
theorem x150_156 {j : Int32} {a : Nat} : X 150 156 L (.int j :: .ref a :: st) h Q ↔ ib j (hS h a) ∧ X 150 157 L (.int (hI h a j.toNatClampNeg) :: st) h Q := X_iald mC_150 dX8_goes_156
theorem x150_157 {l0 l1 l2 l4 l5 : Value} {x : Int32} : X 150 157 [l0, l1, l2, .int x, l4, l5] st h Q ↔ X 150 158 [l0, l1, l2, .int x, l4, l5] (.int x :: st) h Q := X_n mC_150 dX8_goes_157 rfl
theorem x150_158 {a0 : Int32} {w0 w1 w2 : Value} : X 150 158 L [.int a0, w0, w1, w2] h Q ↔ X 124 0 [.int a0, .null, .null] [] h (fun r h' => X 150 161 L (pv r [w0, w1, w2]) h' Q) := X_stat (as := [.int a0]) (n := 1) (ml := 3) (ck := 8) mC_150 dX8_goes_158 (by unfold cOk; decide +kernel) ⟨rfl, rfl, by decide, Nat.le_of_ble_eq_true rfl⟩
theorem x150_161 {x y : Int32} : X 150 161 L (.int y :: .int x :: st) h Q ↔ X 150 162 L (.int (x + y) :: st) h Q := X_n mC_150 dX8_goes_161 rfl
theorem x150_162 {j x : Int32} {a : Nat} : X 150 162 L (.int x :: .int j :: .ref a :: st) h Q ↔ ibw j (hS h a) ∧ X 150 163 L st (sI h a j.toNatClampNeg x) Q := X_iast mC_150 dX8_goes_162
theorem x150_163 {l1 l2 l3 l4 l5 : Value} {x : Nat} : X 150 163 [.ref x, l1, l2, l3, l4, l5] st h Q ↔ X 150 164 [.ref x, l1, l2, l3, l4, l5] (.ref x :: st) h Q := X_n mC_150 dX8_goes_163 rfl
theorem x150_164 {a : Nat} : X 150 164 L (.ref a :: st) h Q ↔ (hS h a = (1, 8) ∧ hR h a 4 ≠ 0) ∧ X 150 167 L (.ref (hR h a 4) :: st) h Q := X_getR mC_150 dX8_goes_164 (by decide +kernel)
theorem x150_167 {l0 l2 l3 l4 l5 : Value} {x : Int32} : X 150 167 [l0, .int x, l2, l3, l4, l5] st h Q ↔ X 150 168 [l0, .int x, l2, l3, l4, l5] (.int x :: st) h Q := X_n mC_150 dX8_goes_167 rfl
theorem x150_168 {l0 l1 l3 l4 l5 : Value} {x : Int32} : X 150 168 [l0, l1, .int x, l3, l4, l5] st h Q ↔ X 150 169 [l0, l1, .int x, l3, l4, l5] (.int x :: st) h Q := X_n mC_150 dX8_goes_168 rfl
theorem x150_169 {j x : Int32} {a : Nat} : X 150 169 L (.int x :: .int j :: .ref a :: st) h Q ↔ ibw j (hS h a) ∧ X 150 170 L st (sI h a j.toNatClampNeg x) Q := X_iast mC_150 dX8_goes_169
theorem x150_170 {l0 l1 l2 l4 l5 : Value} {x : Int32} : X 150 170 [l0, l1, l2, .int x, l4, l5] st h Q ↔ X 150 171 [l0, l1, l2, .int x, l4, l5] (.int x :: st) h Q := X_n mC_150 dX8_goes_170 rfl
theorem x150_171 {v : Int32} : X 150 171 L [.int v] h Q ↔ Q (some (.int v)) h := X_ret mC_150 dX8_goes_171 (by decide +kernel)
theorem mC_151 : mC 151 = cX8_carry := rfl
theorem x151_0 {l1 l2 : Value} {x : Nat} : X 151 0 [.ref x, l1, l2] st h Q ↔ X 151 1 [.ref x, l1, l2] (.ref x :: st) h Q := X_n mC_151 dX8_carry_0 rfl
theorem x151_1 {l0 l2 : Value} {x : Int32} : X 151 1 [l0, .int x, l2] st h Q ↔ X 151 2 [l0, .int x, l2] (.int x :: st) h Q := X_n mC_151 dX8_carry_1 rfl
theorem x151_2 {b : Nat} {a0 : Int32} : X 151 2 L [.int a0, .ref b] h Q ↔ hS h b = (1, 8) ∧ X 121 0 [.ref b, .int a0] [] h (fun r h' => X 151 5 L (pv r []) h' Q) := X_virt (as := [.int a0]) (n := 1) (ml := 2) (ck := 8) mC_151 dX8_carry_2 (by unfold cOk; decide +kernel) ⟨rfl, rfl, by decide, Nat.le_of_ble_eq_true rfl⟩
theorem x151_5 {x : Int32} : X 151 5 L (.int x :: st) h Q ↔ if x = 0 then X 151 16 L st h Q else X 151 8 L st h Q := X_zeq mC_151 dX8_carry_5 (by decide)
theorem x151_8 {l1 l2 : Value} {x : Nat} : X 151 8 [.ref x, l1, l2] st h Q ↔ X 151 9 [.ref x, l1, l2] (.ref x :: st) h Q := X_n mC_151 dX8_carry_8 rfl
theorem x151_9 {l0 l1 : Value} {x : Int32} : X 151 9 [l0, l1, .int x] st h Q ↔ X 151 10 [l0, l1, .int x] (.int x :: st) h Q := X_n mC_151 dX8_carry_9 rfl
theorem x151_10 {b : Nat} {a0 : Int32} : X 151 10 L [.int a0, .ref b] h Q ↔ hS h b = (1, 8) ∧ X 122 0 [.ref b, .int a0] [] h (fun r h' => X 151 13 L (pv r []) h' Q) := X_virt (as := [.int a0]) (n := 1) (ml := 2) (ck := 8) mC_151 dX8_carry_10 (by unfold cOk; decide +kernel) ⟨rfl, rfl, by decide, Nat.le_of_ble_eq_true rfl⟩
theorem x151_13 {x : Int32} : X 151 13 L (.int x :: st) h Q ↔ if x = 0 then X 151 16 L st h Q else X 151 18 L st h Q := X_zne mC_151 dX8_carry_13 (by decide)
theorem x151_16 : X 151 16 L st h Q ↔ X 151 17 L (.int (-1) :: st) h Q := X_n mC_151 dX8_carry_16 rfl
theorem x151_17 {v : Int32} : X 151 17 L [.int v] h Q ↔ Q (some (.int v)) h := X_ret mC_151 dX8_carry_17 (by decide +kernel)
theorem x151_18 {l1 l2 : Value} {x : Nat} : X 151 18 [.ref x, l1, l2] st h Q ↔ X 151 19 [.ref x, l1, l2] (.ref x :: st) h Q := X_n mC_151 dX8_carry_18 rfl
theorem x151_19 {l0 l1 : Value} {x : Int32} : X 151 19 [l0, l1, .int x] st h Q ↔ X 151 20 [l0, l1, .int x] (.int x :: st) h Q := X_n mC_151 dX8_carry_19 rfl
theorem x151_20 {b : Nat} {a0 : Int32} : X 151 20 L [.int a0, .ref b] h Q ↔ hS h b = (1, 8) ∧ X 145 0 [.ref b, .int a0, .null, .null] [] h (fun r h' => X 151 23 L (pv r []) h' Q) := X_virt (as := [.int a0]) (n := 1) (ml := 4) (ck := 8) mC_151 dX8_carry_20 (by unfold cOk; decide +kernel) ⟨rfl, rfl, by decide, Nat.le_of_ble_eq_true rfl⟩
theorem x151_23 : X 151 23 L st h Q ↔ X 151 25 L (.int (-4) :: st) h Q := X_n mC_151 dX8_carry_23 rfl
theorem x151_25 {x y : Int32} : X 151 25 L (.int y :: .int x :: st) h Q ↔ if x = y then X 151 31 L st h Q else X 151 28 L st h Q := X_ieq mC_151 dX8_carry_25 (by decide)
theorem x151_28 : X 151 28 L st h Q ↔ X 151 30 L (.int (-2) :: st) h Q := X_n mC_151 dX8_carry_28 rfl
theorem x151_30 {v : Int32} : X 151 30 L [.int v] h Q ↔ Q (some (.int v)) h := X_ret mC_151 dX8_carry_30 (by decide +kernel)
theorem x151_31 {l1 l2 : Value} {x : Nat} : X 151 31 [.ref x, l1, l2] st h Q ↔ X 151 32 [.ref x, l1, l2] (.ref x :: st) h Q := X_n mC_151 dX8_carry_31 rfl
theorem x151_32 {b : Nat} : X 151 32 L [.ref b] h Q ↔ hS h b = (1, 8) ∧ X 148 0 [.ref b, .null] [] h (fun r h' => X 151 35 L (pv r []) h' Q) := X_virt (as := []) (n := 0) (ml := 2) (ck := 8) mC_151 dX8_carry_32 (by unfold cOk; decide +kernel) ⟨rfl, rfl, by decide, Nat.le_of_ble_eq_true rfl⟩
theorem x151_35 {l1 l2 : Value} {x : Nat} : X 151 35 [.ref x, l1, l2] st h Q ↔ X 151 36 [.ref x, l1, l2] (.ref x :: st) h Q := X_n mC_151 dX8_carry_35 rfl
theorem x151_36 {l0 l2 : Value} {x : Int32} : X 151 36 [l0, .int x, l2] st h Q ↔ X 151 37 [l0, .int x, l2] (.int x :: st) h Q := X_n mC_151 dX8_carry_36 rfl
theorem x151_37 {l0 l1 : Value} {x : Int32} : X 151 37 [l0, l1, .int x] st h Q ↔ X 151 38 [l0, l1, .int x] (.int x :: st) h Q := X_n mC_151 dX8_carry_37 rfl
theorem x151_38 {b : Nat} {a0 : Int32} {a1 : Int32} : X 151 38 L [.int a1, .int a0, .ref b] h Q ↔ hS h b = (1, 8) ∧ X 150 0 [.ref b, .int a0, .int a1, .null, .null, .null] [] h (fun r h' => X 151 41 L (pv r []) h' Q) := X_virt (as := [.int a0, .int a1]) (n := 2) (ml := 6) (ck := 8) mC_151 dX8_carry_38 (by unfold cOk; decide +kernel) ⟨rfl, rfl, by decide, Nat.le_of_ble_eq_true rfl⟩
theorem x151_41 {v : Int32} : X 151 41 L [.int v] h Q ↔ Q (some (.int v)) h := X_ret mC_151 dX8_carry_41 (by decide +kernel)
theorem mC_152 : mC 152 = cX8_stuff := rfl
theorem x152_0 {l1 : Value} {x : Nat} : X 152 0 [.ref x, l1] st h Q ↔ X 152 1 [.ref x, l1] (.ref x :: st) h Q := X_n mC_152 dX8_stuff_0 rfl
theorem x152_1 {l0 : Value} {x : Int32} : X 152 1 [l0, .int x] st h Q ↔ X 152 2 [l0, .int x] (.int x :: st) h Q := X_n mC_152 dX8_stuff_1 rfl
theorem x152_2 {b : Nat} {a0 : Int32} : X 152 2 L [.int a0, .ref b] h Q ↔ hS h b = (1, 8) ∧ X 123 0 [.ref b, .int a0] [] h (fun r h' => X 152 5 L (pv r []) h' Q) := X_virt (as := [.int a0]) (n := 1) (ml := 2) (ck := 8) mC_152 dX8_stuff_2 (by unfold cOk; decide +kernel) ⟨rfl, rfl, by decide, Nat.le_of_ble_eq_true rfl⟩
theorem x152_5 {x : Int32} : X 152 5 L (.int x :: st) h Q ↔ if x = 0 then X 152 8 L st h Q else X 152 10 L st h Q := X_zne mC_152 dX8_stuff_5 (by decide)
theorem x152_8 : X 152 8 L st h Q ↔ X 152 9 L (.int (-1) :: st) h Q := X_n mC_152 dX8_stuff_8 rfl
theorem x152_9 {v : Int32} : X 152 9 L [.int v] h Q ↔ Q (some (.int v)) h := X_ret mC_152 dX8_stuff_9 (by decide +kernel)
theorem x152_10 {l1 : Value} {x : Nat} : X 152 10 [.ref x, l1] st h Q ↔ X 152 11 [.ref x, l1] (.ref x :: st) h Q := X_n mC_152 dX8_stuff_10 rfl
theorem x152_11 {b : Nat} : X 152 11 L [.ref b] h Q ↔ hS h b = (1, 8) ∧ X 148 0 [.ref b, .null] [] h (fun r h' => X 152 14 L (pv r []) h' Q) := X_virt (as := []) (n := 0) (ml := 2) (ck := 8) mC_152 dX8_stuff_11 (by unfold cOk; decide +kernel) ⟨rfl, rfl, by decide, Nat.le_of_ble_eq_true rfl⟩
theorem x152_14 {l1 : Value} {x : Nat} : X 152 14 [.ref x, l1] st h Q ↔ X 152 15 [.ref x, l1] (.ref x :: st) h Q := X_n mC_152 dX8_stuff_14 rfl
theorem x152_15 {a : Nat} : X 152 15 L (.ref a :: st) h Q ↔ (hS h a = (1, 8) ∧ hR h a 4 ≠ 0) ∧ X 152 18 L (.ref (hR h a 4) :: st) h Q := X_getR mC_152 dX8_stuff_15 (by decide +kernel)
theorem x152_18 : X 152 18 L st h Q ↔ X 152 19 L (.int 5 :: st) h Q := X_n mC_152 dX8_stuff_18 rfl
theorem x152_19 {x : Nat} {y : Int32} : X 152 19 L (.int y :: .ref x :: st) h Q ↔ X 152 20 L (.int y :: .ref x :: .int y :: .ref x :: st) h Q := X_n mC_152 dX8_stuff_19 rfl
theorem x152_20 {j : Int32} {a : Nat} : X 152 20 L (.int j :: .ref a :: st) h Q ↔ ib j (hS h a) ∧ X 152 21 L (.int (hI h a j.toNatClampNeg) :: st) h Q := X_iald mC_152 dX8_stuff_20
theorem x152_21 : X 152 21 L st h Q ↔ X 152 22 L (.int 1 :: st) h Q := X_n mC_152 dX8_stuff_21 rfl
theorem x152_22 {l0 : Value} {x : Int32} : X 152 22 [l0, .int x] st h Q ↔ X 152 23 [l0, .int x] (.int x :: st) h Q := X_n mC_152 dX8_stuff_22 rfl
theorem x152_23 {x y : Int32} : X 152 23 L (.int y :: .int x :: st) h Q ↔ X 152 24 L (.int (x <<< (y &&& 31)) :: st) h Q := X_n mC_152 dX8_stuff_23 rfl
theorem x152_24 {x y : Int32} : X 152 24 L (.int y :: .int x :: st) h Q ↔ X 152 25 L (.int (x ^^^ y) :: st) h Q := X_n mC_152 dX8_stuff_24 rfl
theorem x152_25 {j x : Int32} {a : Nat} : X 152 25 L (.int x :: .int j :: .ref a :: st) h Q ↔ ibw j (hS h a) ∧ X 152 26 L st (sI h a j.toNatClampNeg x) Q := X_iast mC_152 dX8_stuff_25
theorem x152_26 {l1 : Value} {x : Nat} : X 152 26 [.ref x, l1] st h Q ↔ X 152 27 [.ref x, l1] (.ref x :: st) h Q := X_n mC_152 dX8_stuff_26 rfl
theorem x152_27 {a : Nat} : X 152 27 L (.ref a :: st) h Q ↔ (hS h a = (1, 8) ∧ hR h a 4 ≠ 0) ∧ X 152 30 L (.ref (hR h a 4) :: st) h Q := X_getR mC_152 dX8_stuff_27 (by decide +kernel)
theorem x152_30 : X 152 30 L st h Q ↔ X 152 31 L (.int 5 :: st) h Q := X_n mC_152 dX8_stuff_30 rfl
theorem x152_31 {j : Int32} {a : Nat} : X 152 31 L (.int j :: .ref a :: st) h Q ↔ ib j (hS h a) ∧ X 152 32 L (.int (hI h a j.toNatClampNeg) :: st) h Q := X_iald mC_152 dX8_stuff_31
theorem x152_32 {l0 : Value} {x : Int32} : X 152 32 [l0, .int x] st h Q ↔ X 152 33 [l0, .int x] (.int x :: st) h Q := X_n mC_152 dX8_stuff_32 rfl
theorem x152_33 {x y : Int32} : X 152 33 L (.int y :: .int x :: st) h Q ↔ X 152 34 L (.int (x >>> (y &&& 31)) :: st) h Q := X_n mC_152 dX8_stuff_33 rfl
theorem x152_34 : X 152 34 L st h Q ↔ X 152 35 L (.int 1 :: st) h Q := X_n mC_152 dX8_stuff_34 rfl
theorem x152_35 {x y : Int32} : X 152 35 L (.int y :: .int x :: st) h Q ↔ X 152 36 L (.int (x &&& y) :: st) h Q := X_n mC_152 dX8_stuff_35 rfl
theorem x152_36 {v : Int32} : X 152 36 L [.int v] h Q ↔ Q (some (.int v)) h := X_ret mC_152 dX8_stuff_36 (by decide +kernel)
theorem mC_153 : mC 153 = cX8_passes := rfl
theorem x153_0 {x : Nat} : X 153 0 [.ref x] st h Q ↔ X 153 1 [.ref x] (.ref x :: st) h Q := X_n mC_153 dX8_passes_0 rfl
theorem x153_1 {a : Nat} : X 153 1 L (.ref a :: st) h Q ↔ (hS h a = (1, 8) ∧ hR h a 4 ≠ 0) ∧ X 153 4 L (.ref (hR h a 4) :: st) h Q := X_getR mC_153 dX8_passes_1 (by decide +kernel)
theorem x153_4 : X 153 4 L st h Q ↔ X 153 6 L (.int 6 :: st) h Q := X_n mC_153 dX8_passes_4 rfl
theorem x153_6 {x : Nat} {y : Int32} : X 153 6 L (.int y :: .ref x :: st) h Q ↔ X 153 7 L (.int y :: .ref x :: .int y :: .ref x :: st) h Q := X_n mC_153 dX8_passes_6 rfl
theorem x153_7 {j : Int32} {a : Nat} : X 153 7 L (.int j :: .ref a :: st) h Q ↔ ib j (hS h a) ∧ X 153 8 L (.int (hI h a j.toNatClampNeg) :: st) h Q := X_iald mC_153 dX8_passes_7
theorem x153_8 {x : Nat} : X 153 8 [.ref x] st h Q ↔ X 153 9 [.ref x] (.ref x :: st) h Q := X_n mC_153 dX8_passes_8 rfl
theorem x153_9 {a : Nat} : X 153 9 L (.ref a :: st) h Q ↔ (hS h a = (1, 8) ∧ hR h a 4 ≠ 0) ∧ X 153 12 L (.ref (hR h a 4) :: st) h Q := X_getR mC_153 dX8_passes_9 (by decide +kernel)
theorem x153_12 : X 153 12 L st h Q ↔ X 153 14 L (.int 6 :: st) h Q := X_n mC_153 dX8_passes_12 rfl
theorem x153_14 {j : Int32} {a : Nat} : X 153 14 L (.int j :: .ref a :: st) h Q ↔ ib j (hS h a) ∧ X 153 15 L (.int (hI h a j.toNatClampNeg) :: st) h Q := X_iald mC_153 dX8_passes_14
theorem x153_15 : X 153 15 L st h Q ↔ X 153 17 L (.int 7 :: st) h Q := X_n mC_153 dX8_passes_15 rfl
theorem x153_17 {x y : Int32} : X 153 17 L (.int y :: .int x :: st) h Q ↔ if x < y then X 153 20 L st h Q else X 153 24 L st h Q := X_ige mC_153 dX8_passes_17 (by decide)
theorem x153_20 : X 153 20 L st h Q ↔ X 153 21 L (.int 1 :: st) h Q := X_n mC_153 dX8_passes_20 rfl
theorem x153_21 : X 153 21 L st h Q ↔ X 153 25 L st h Q := X_goto mC_153 dX8_passes_21 (by decide)
theorem x153_24 : X 153 24 L st h Q ↔ X 153 25 L (.int 0 :: st) h Q := X_n mC_153 dX8_passes_24 rfl
theorem x153_25 {x y : Int32} : X 153 25 L (.int y :: .int x :: st) h Q ↔ X 153 26 L (.int (x + y) :: st) h Q := X_n mC_153 dX8_passes_25 rfl
theorem x153_26 {j x : Int32} {a : Nat} : X 153 26 L (.int x :: .int j :: .ref a :: st) h Q ↔ ibw j (hS h a) ∧ X 153 27 L st (sI h a j.toNatClampNeg x) Q := X_iast mC_153 dX8_passes_26
theorem x153_27 : X 153 27 L [] h Q ↔ Q none h := X_retV mC_153 dX8_passes_27 (by decide +kernel)
theorem mC_154 : mC 154 = cX8_hour := rfl
theorem x154_0 {x : Nat} : X 154 0 [.ref x] st h Q ↔ X 154 1 [.ref x] (.ref x :: st) h Q := X_n mC_154 dX8_hour_0 rfl
theorem x154_1 {b : Nat} : X 154 1 L [.ref b] h Q ↔ hS h b = (1, 8) ∧ X 148 0 [.ref b, .null] [] h (fun r h' => X 154 4 L (pv r []) h' Q) := X_virt (as := []) (n := 0) (ml := 2) (ck := 8) mC_154 dX8_hour_1 (by unfold cOk; decide +kernel) ⟨rfl, rfl, by decide, Nat.le_of_ble_eq_true rfl⟩
theorem x154_4 {x : Nat} : X 154 4 [.ref x] st h Q ↔ X 154 5 [.ref x] (.ref x :: st) h Q := X_n mC_154 dX8_hour_4 rfl
theorem x154_5 {b : Nat} : X 154 5 L [.ref b] h Q ↔ hS h b = (1, 8) ∧ X 153 0 [.ref b] [] h (fun r h' => X 154 8 L (pv r []) h' Q) := X_virt (as := []) (n := 0) (ml := 1) (ck := 8) mC_154 dX8_hour_5 (by unfold cOk; decide +kernel) ⟨rfl, rfl, by decide, Nat.le_of_ble_eq_true rfl⟩
theorem x154_8 {x : Nat} : X 154 8 [.ref x] st h Q ↔ X 154 9 [.ref x] (.ref x :: st) h Q := X_n mC_154 dX8_hour_8 rfl
theorem x154_9 {a : Nat} : X 154 9 L (.ref a :: st) h Q ↔ (hS h a = (1, 8) ∧ hR h a 4 ≠ 0) ∧ X 154 12 L (.ref (hR h a 4) :: st) h Q := X_getR mC_154 dX8_hour_9 (by decide +kernel)
theorem x154_12 : X 154 12 L st h Q ↔ X 154 14 L (.int 6 :: st) h Q := X_n mC_154 dX8_hour_12 rfl
theorem x154_14 {j : Int32} {a : Nat} : X 154 14 L (.int j :: .ref a :: st) h Q ↔ ib j (hS h a) ∧ X 154 15 L (.int (hI h a j.toNatClampNeg) :: st) h Q := X_iald mC_154 dX8_hour_14
theorem x154_15 {v : Int32} : X 154 15 L [.int v] h Q ↔ Q (some (.int v)) h := X_ret mC_154 dX8_hour_15 (by decide +kernel)
theorem mC_155 : mC 155 = cX8_undo := rfl
theorem x155_0 {l1 : Value} {x : Nat} : X 155 0 [.ref x, l1] st h Q ↔ X 155 1 [.ref x, l1] (.ref x :: st) h Q := X_n mC_155 dX8_undo_0 rfl
theorem x155_1 {a : Nat} : X 155 1 L (.ref a :: st) h Q ↔ hS h a = (1, 8) ∧ X 155 4 L (.int (hI h a 6) :: st) h Q := X_getI mC_155 dX8_undo_1 (by decide +kernel)
theorem x155_4 {x : Int32} : X 155 4 L (.int x :: st) h Q ↔ if x = 0 then X 155 7 L st h Q else X 155 10 L st h Q := X_zne mC_155 dX8_undo_4 (by decide)
theorem x155_7 : X 155 7 L st h Q ↔ X 155 9 L (.int (-2) :: st) h Q := X_n mC_155 dX8_undo_7 rfl
theorem x155_9 {v : Int32} : X 155 9 L [.int v] h Q ↔ Q (some (.int v)) h := X_ret mC_155 dX8_undo_9 (by decide +kernel)
theorem x155_10 {l1 : Value} {x : Nat} : X 155 10 [.ref x, l1] st h Q ↔ X 155 11 [.ref x, l1] (.ref x :: st) h Q := X_n mC_155 dX8_undo_10 rfl
theorem x155_11 {x : Nat} : X 155 11 L (.ref x :: st) h Q ↔ X 155 12 L (.ref x :: .ref x :: st) h Q := X_n mC_155 dX8_undo_11 rfl
theorem x155_12 {a : Nat} : X 155 12 L (.ref a :: st) h Q ↔ hS h a = (1, 8) ∧ X 155 15 L (.int (hI h a 6) :: st) h Q := X_getI mC_155 dX8_undo_12 (by decide +kernel)
theorem x155_15 : X 155 15 L st h Q ↔ X 155 16 L (.int 1 :: st) h Q := X_n mC_155 dX8_undo_15 rfl
theorem x155_16 {x y : Int32} : X 155 16 L (.int y :: .int x :: st) h Q ↔ X 155 17 L (.int (x - y) :: st) h Q := X_n mC_155 dX8_undo_16 rfl
theorem x155_17 {a : Nat} {v : Int32} : X 155 17 L (.int v :: .ref a :: st) h Q ↔ hS h a = (1, 8) ∧ X 155 20 L st (sI h a 6 v) Q := X_putI mC_155 dX8_undo_17 (by decide +kernel)
theorem x155_20 : X 155 20 L st h Q ↔ X 155 21 L (.int 0 :: st) h Q := X_n mC_155 dX8_undo_20 rfl
theorem x155_21 {l0 l1 : Value} {x : Int32} : X 155 21 [l0, l1] (.int x :: st) h Q ↔ c1 l0 = true ∧ X 155 22 [l0, .int x] st h Q := X_sto (kk := 1) (pc' := 22) (w := .int x) mC_155 dX8_undo_21 rfl (Nat.le_of_ble_eq_true rfl) rfl
theorem x155_22 {l0 : Value} {x : Int32} : X 155 22 [l0, .int x] st h Q ↔ X 155 23 [l0, .int x] (.int x :: st) h Q := X_n mC_155 dX8_undo_22 rfl
theorem x155_23 : X 155 23 L st h Q ↔ X 155 25 L (.int 10 :: st) h Q := X_n mC_155 dX8_undo_23 rfl
theorem x155_25 {x y : Int32} : X 155 25 L (.int y :: .int x :: st) h Q ↔ if x < y then X 155 28 L st h Q else X 155 54 L st h Q := X_ige mC_155 dX8_undo_25 (by decide)
theorem x155_28 {l1 : Value} {x : Nat} : X 155 28 [.ref x, l1] st h Q ↔ X 155 29 [.ref x, l1] (.ref x :: st) h Q := X_n mC_155 dX8_undo_28 rfl
theorem x155_29 {a : Nat} : X 155 29 L (.ref a :: st) h Q ↔ (hS h a = (1, 8) ∧ hR h a 4 ≠ 0) ∧ X 155 32 L (.ref (hR h a 4) :: st) h Q := X_getR mC_155 dX8_undo_29 (by decide +kernel)
theorem x155_32 {l0 : Value} {x : Int32} : X 155 32 [l0, .int x] st h Q ↔ X 155 33 [l0, .int x] (.int x :: st) h Q := X_n mC_155 dX8_undo_32 rfl
theorem x155_33 {l1 : Value} {x : Nat} : X 155 33 [.ref x, l1] st h Q ↔ X 155 34 [.ref x, l1] (.ref x :: st) h Q := X_n mC_155 dX8_undo_33 rfl
theorem x155_34 {a : Nat} : X 155 34 L (.ref a :: st) h Q ↔ (hS h a = (1, 8) ∧ hR h a 5 ≠ 0) ∧ X 155 37 L (.ref (hR h a 5) :: st) h Q := X_getR mC_155 dX8_undo_34 (by decide +kernel)
theorem x155_37 : X 155 37 L st h Q ↔ X 155 39 L (.int 10 :: st) h Q := X_n mC_155 dX8_undo_37 rfl
theorem x155_39 {l1 : Value} {x : Nat} : X 155 39 [.ref x, l1] st h Q ↔ X 155 40 [.ref x, l1] (.ref x :: st) h Q := X_n mC_155 dX8_undo_39 rfl
theorem x155_40 {a : Nat} : X 155 40 L (.ref a :: st) h Q ↔ hS h a = (1, 8) ∧ X 155 43 L (.int (hI h a 6) :: st) h Q := X_getI mC_155 dX8_undo_40 (by decide +kernel)
theorem x155_43 {x y : Int32} : X 155 43 L (.int y :: .int x :: st) h Q ↔ X 155 44 L (.int (x * y) :: st) h Q := X_n mC_155 dX8_undo_43 rfl
theorem x155_44 {l0 : Value} {x : Int32} : X 155 44 [l0, .int x] st h Q ↔ X 155 45 [l0, .int x] (.int x :: st) h Q := X_n mC_155 dX8_undo_44 rfl
theorem x155_45 {x y : Int32} : X 155 45 L (.int y :: .int x :: st) h Q ↔ X 155 46 L (.int (x + y) :: st) h Q := X_n mC_155 dX8_undo_45 rfl
theorem x155_46 {j : Int32} {a : Nat} : X 155 46 L (.int j :: .ref a :: st) h Q ↔ ib j (hS h a) ∧ X 155 47 L (.int (hI h a j.toNatClampNeg) :: st) h Q := X_iald mC_155 dX8_undo_46
theorem x155_47 {j x : Int32} {a : Nat} : X 155 47 L (.int x :: .int j :: .ref a :: st) h Q ↔ ibw j (hS h a) ∧ X 155 48 L st (sI h a j.toNatClampNeg x) Q := X_iast mC_155 dX8_undo_47
theorem x155_48 {l0 : Value} {x : Int32} : X 155 48 [l0, .int x] st h Q ↔ c1 l0 = true ∧ X 155 51 [l0, .int (x + 1)] st h Q := X_inc (pc' := 51) (x := x) mC_155 dX8_undo_48 rfl rfl rfl
theorem x155_51 : X 155 51 L st h Q ↔ X 155 22 L st h Q := X_goto mC_155 dX8_undo_51 (by decide)
theorem x155_54 {l1 : Value} {x : Nat} : X 155 54 [.ref x, l1] st h Q ↔ X 155 55 [.ref x, l1] (.ref x :: st) h Q := X_n mC_155 dX8_undo_54 rfl
theorem x155_55 {a : Nat} : X 155 55 L (.ref a :: st) h Q ↔ hS h a = (1, 8) ∧ X 155 58 L (.int (hI h a 6) :: st) h Q := X_getI mC_155 dX8_undo_55 (by decide +kernel)
theorem x155_58 {v : Int32} : X 155 58 L [.int v] h Q ↔ Q (some (.int v)) h := X_ret mC_155 dX8_undo_58 (by decide +kernel)
theorem mC_156 : mC 156 = cX8_lawOf := rfl
theorem x156_0 : X 156 0 L st h Q ↔ X 156 1 L (.int 0 :: st) h Q := X_n mC_156 dX8_lawOf_0 rfl
theorem x156_1 {l0 l1 l2 l3 : Value} {x : Int32} : X 156 1 [l0, l1, l2, l3] (.int x :: st) h Q ↔ c1 l1 = true ∧ X 156 2 [l0, l1, .int x, l3] st h Q := X_sto (kk := 2) (pc' := 2) (w := .int x) mC_156 dX8_lawOf_1 rfl (Nat.le_of_ble_eq_true rfl) rfl
theorem x156_2 : X 156 2 L st h Q ↔ X 156 3 L (.int 0 :: st) h Q := X_n mC_156 dX8_lawOf_2 rfl
theorem x156_3 {l0 l1 l2 l3 : Value} {x : Int32} : X 156 3 [l0, l1, l2, l3] (.int x :: st) h Q ↔ c1 l2 = true ∧ X 156 4 [l0, l1, l2, .int x] st h Q := X_sto (kk := 3) (pc' := 4) (w := .int x) mC_156 dX8_lawOf_3 rfl (Nat.le_of_ble_eq_true rfl) rfl
theorem x156_4 {l0 l1 l2 : Value} {x : Int32} : X 156 4 [l0, l1, l2, .int x] st h Q ↔ X 156 5 [l0, l1, l2, .int x] (.int x :: st) h Q := X_n mC_156 dX8_lawOf_4 rfl
theorem x156_5 {l1 l2 l3 : Value} {x : Nat} : X 156 5 [.ref x, l1, l2, l3] st h Q ↔ X 156 6 [.ref x, l1, l2, l3] (.ref x :: st) h Q := X_n mC_156 dX8_lawOf_5 rfl
theorem x156_6 {a : Nat} : X 156 6 L (.ref a :: st) h Q ↔ (hS h a = (1, 8) ∧ hR h a 2 ≠ 0) ∧ X 156 9 L (.ref (hR h a 2) :: st) h Q := X_getR mC_156 dX8_lawOf_6 (by decide +kernel)
theorem x156_9 : X 156 9 L st h Q ↔ X 156 10 L (.int 0 :: st) h Q := X_n mC_156 dX8_lawOf_9 rfl
theorem x156_10 {j : Int32} {a : Nat} : X 156 10 L (.int j :: .ref a :: st) h Q ↔ ib j (hS h a) ∧ X 156 11 L (.int (hI h a j.toNatClampNeg) :: st) h Q := X_iald mC_156 dX8_lawOf_10
theorem x156_11 {x y : Int32} : X 156 11 L (.int y :: .int x :: st) h Q ↔ if x < y then X 156 14 L st h Q else X 156 59 L st h Q := X_ige mC_156 dX8_lawOf_11 (by decide)
theorem x156_14 {l0 l1 l3 : Value} {x : Int32} : X 156 14 [l0, l1, .int x, l3] st h Q ↔ X 156 15 [l0, l1, .int x, l3] (.int x :: st) h Q := X_n mC_156 dX8_lawOf_14 rfl
theorem x156_15 {l1 l2 l3 : Value} {x : Nat} : X 156 15 [.ref x, l1, l2, l3] st h Q ↔ X 156 16 [.ref x, l1, l2, l3] (.ref x :: st) h Q := X_n mC_156 dX8_lawOf_15 rfl
theorem x156_16 {l0 l1 l2 : Value} {x : Int32} : X 156 16 [l0, l1, l2, .int x] st h Q ↔ X 156 17 [l0, l1, l2, .int x] (.int x :: st) h Q := X_n mC_156 dX8_lawOf_16 rfl
theorem x156_17 {b : Nat} {a0 : Int32} {w0 : Value} : X 156 17 L [.int a0, .ref b, w0] h Q ↔ hS h b = (1, 8) ∧ X 139 0 [.ref b, .int a0, .null] [] h (fun r h' => X 156 20 L (pv r [w0]) h' Q) := X_virt (as := [.int a0]) (n := 1) (ml := 3) (ck := 8) mC_156 dX8_lawOf_17 (by unfold cOk; decide +kernel) ⟨rfl, rfl, by decide, Nat.le_of_ble_eq_true rfl⟩
theorem x156_20 {l1 l2 l3 : Value} {x : Nat} : X 156 20 [.ref x, l1, l2, l3] st h Q ↔ X 156 21 [.ref x, l1, l2, l3] (.ref x :: st) h Q := X_n mC_156 dX8_lawOf_20 rfl
theorem x156_21 {l0 l2 l3 : Value} {x : Int32} : X 156 21 [l0, .int x, l2, l3] st h Q ↔ X 156 22 [l0, .int x, l2, l3] (.int x :: st) h Q := X_n mC_156 dX8_lawOf_21 rfl
theorem x156_22 {b : Nat} {a0 : Int32} {w0 w1 : Value} : X 156 22 L [.int a0, .ref b, w0, w1] h Q ↔ hS h b = (1, 8) ∧ X 139 0 [.ref b, .int a0, .null] [] h (fun r h' => X 156 25 L (pv r [w0, w1]) h' Q) := X_virt (as := [.int a0]) (n := 1) (ml := 3) (ck := 8) mC_156 dX8_lawOf_22 (by unfold cOk; decide +kernel) ⟨rfl, rfl, by decide, Nat.le_of_ble_eq_true rfl⟩
end XS
