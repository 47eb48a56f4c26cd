section XS
variable {L st : List Value} {h : aH} {Q : Option Value → aH → Prop}
theorem mC_80 : mC 80 = cX7_init := rfl
theorem x80_0 {l1 : Value} {x : Nat} : X 80 0 [.ref x, l1] st h Q ↔ X 80 1 [.ref x, l1] (.ref x :: st) h Q := X_n mC_80 dX7_init_0 rfl
theorem x80_1 {a : Nat} : X 80 1 L [.ref a] h Q ↔ X 80 4 L [] h Q := X_obj (n := 0) mC_80 dX7_init_1 (by decide +kernel) (Nat.le_of_ble_eq_true rfl)
theorem x80_4 {l1 : Value} {x : Nat} : X 80 4 [.ref x, l1] st h Q ↔ X 80 5 [.ref x, l1] (.ref x :: st) h Q := X_n mC_80 dX7_init_4 rfl
theorem x80_5 : X 80 5 L st h Q ↔ X 80 8 L (.ref (hN h) :: st) (nw h 4 (1, 5)) Q := X_new mC_80 dX7_init_5 (by decide +kernel)
theorem x80_8 {x : Nat} : X 80 8 L (.ref x :: st) h Q ↔ X 80 9 L (.ref x :: .ref x :: st) h Q := X_n mC_80 dX7_init_8 rfl
theorem x80_9 {b : Nat} {w0 w1 : Value} : X 80 9 L [.ref b, w0, w1] h Q ↔ X 65 0 [.ref b] [] h (fun r h' => X 80 12 L (pv r [w0, w1]) h' Q) := X_spec (as := []) (n := 0) (ml := 1) (ck := 5) mC_80 dX7_init_9 (by unfold cOk; decide +kernel) ⟨rfl, rfl, by decide, Nat.le_of_ble_eq_true rfl⟩
theorem x80_12 {a v : Nat} : X 80 12 L (.ref v :: .ref a :: st) h Q ↔ (hS h a = (1, 7) ∧ v ≠ 0) ∧ X 80 15 L st (sR h a 0 v) Q := X_putR mC_80 dX7_init_12 (by decide +kernel)
theorem x80_15 {l1 : Value} {x : Nat} : X 80 15 [.ref x, l1] st h Q ↔ X 80 16 [.ref x, l1] (.ref x :: st) h Q := X_n mC_80 dX7_init_15 rfl
theorem x80_16 : X 80 16 L st h Q ↔ X 80 19 L (.ref (hN h) :: st) (nw h 4 (1, 2)) Q := X_new mC_80 dX7_init_16 (by decide +kernel)
theorem x80_19 {x : Nat} : X 80 19 L (.ref x :: st) h Q ↔ X 80 20 L (.ref x :: .ref x :: st) h Q := X_n mC_80 dX7_init_19 rfl
theorem x80_20 {b : Nat} {w0 w1 : Value} : X 80 20 L [.ref b, w0, w1] h Q ↔ X 46 0 [.ref b] [] h (fun r h' => X 80 23 L (pv r [w0, w1]) h' Q) := X_spec (as := []) (n := 0) (ml := 1) (ck := 2) mC_80 dX7_init_20 (by unfold cOk; decide +kernel) ⟨rfl, rfl, by decide, Nat.le_of_ble_eq_true rfl⟩
theorem x80_23 {a v : Nat} : X 80 23 L (.ref v :: .ref a :: st) h Q ↔ (hS h a = (1, 7) ∧ v ≠ 0) ∧ X 80 26 L st (sR h a 1 v) Q := X_putR mC_80 dX7_init_23 (by decide +kernel)
theorem x80_26 {l1 : Value} {x : Nat} : X 80 26 [.ref x, l1] st h Q ↔ X 80 27 [.ref x, l1] (.ref x :: st) h Q := X_n mC_80 dX7_init_26 rfl
theorem x80_27 : X 80 27 L st h Q ↔ X 80 30 L (.ref (hN h) :: st) (nw h 3 (1, 6)) Q := X_new mC_80 dX7_init_27 (by decide +kernel)
theorem x80_30 {x : Nat} : X 80 30 L (.ref x :: st) h Q ↔ X 80 31 L (.ref x :: .ref x :: st) h Q := X_n mC_80 dX7_init_30 rfl
theorem x80_31 {b : Nat} {w0 w1 : Value} : X 80 31 L [.ref b, w0, w1] h Q ↔ X 74 0 [.ref b] [] h (fun r h' => X 80 34 L (pv r [w0, w1]) h' Q) := X_spec (as := []) (n := 0) (ml := 1) (ck := 6) mC_80 dX7_init_31 (by unfold cOk; decide +kernel) ⟨rfl, rfl, by decide, Nat.le_of_ble_eq_true rfl⟩
theorem x80_34 {a v : Nat} : X 80 34 L (.ref v :: .ref a :: st) h Q ↔ (hS h a = (1, 7) ∧ v ≠ 0) ∧ X 80 37 L st (sR h a 2 v) Q := X_putR mC_80 dX7_init_34 (by decide +kernel)
theorem x80_37 {l1 : Value} {x : Nat} : X 80 37 [.ref x, l1] st h Q ↔ X 80 38 [.ref x, l1] (.ref x :: st) h Q := X_n mC_80 dX7_init_37 rfl
theorem x80_38 : X 80 38 L st h Q ↔ X 80 41 L (.ref (hN h) :: st) (nw h 5 (1, 3)) Q := X_new mC_80 dX7_init_38 (by decide +kernel)
theorem x80_41 {x : Nat} : X 80 41 L (.ref x :: st) h Q ↔ X 80 42 L (.ref x :: .ref x :: st) h Q := X_n mC_80 dX7_init_41 rfl
theorem x80_42 {b : Nat} {w0 w1 : Value} : X 80 42 L [.ref b, w0, w1] h Q ↔ X 51 0 [.ref b] [] h (fun r h' => X 80 45 L (pv r [w0, w1]) h' Q) := X_spec (as := []) (n := 0) (ml := 1) (ck := 3) mC_80 dX7_init_42 (by unfold cOk; decide +kernel) ⟨rfl, rfl, by decide, Nat.le_of_ble_eq_true rfl⟩
theorem x80_45 {a v : Nat} : X 80 45 L (.ref v :: .ref a :: st) h Q ↔ (hS h a = (1, 7) ∧ v ≠ 0) ∧ X 80 48 L st (sR h a 3 v) Q := X_putR mC_80 dX7_init_45 (by decide +kernel)
theorem x80_48 {l1 : Value} {x : Nat} : X 80 48 [.ref x, l1] st h Q ↔ X 80 49 [.ref x, l1] (.ref x :: st) h Q := X_n mC_80 dX7_init_48 rfl
theorem x80_49 : X 80 49 L st h Q ↔ X 80 52 L (.ref (hN h) :: st) (nw h 3 (1, 4)) Q := X_new mC_80 dX7_init_49 (by decide +kernel)
theorem x80_52 {x : Nat} : X 80 52 L (.ref x :: st) h Q ↔ X 80 53 L (.ref x :: .ref x :: st) h Q := X_n mC_80 dX7_init_52 rfl
theorem x80_53 : X 80 53 L st h Q ↔ X 80 55 L (.int 8 :: st) h Q := X_n mC_80 dX7_init_53 rfl
theorem x80_55 {b : Nat} {a0 : Int32} {w0 w1 : Value} : X 80 55 L [.int a0, .ref b, w0, w1] h Q ↔ X 59 0 [.ref b, .int a0] [] h (fun r h' => X 80 58 L (pv r [w0, w1]) h' Q) := X_spec (as := [.int a0]) (n := 1) (ml := 2) (ck := 4) mC_80 dX7_init_55 (by unfold cOk; decide +kernel) ⟨rfl, rfl, by decide, Nat.le_of_ble_eq_true rfl⟩
theorem x80_58 {a v : Nat} : X 80 58 L (.ref v :: .ref a :: st) h Q ↔ (hS h a = (1, 7) ∧ v ≠ 0) ∧ X 80 61 L st (sR h a 4 v) Q := X_putR mC_80 dX7_init_58 (by decide +kernel)
theorem x80_61 {l1 : Value} {x : Nat} : X 80 61 [.ref x, l1] st h Q ↔ X 80 62 [.ref x, l1] (.ref x :: st) h Q := X_n mC_80 dX7_init_61 rfl
theorem x80_62 : X 80 62 L st h Q ↔ X 80 65 L (.ref (hN h) :: st) (nw h 3 (1, 4)) Q := X_new mC_80 dX7_init_62 (by decide +kernel)
theorem x80_65 {x : Nat} : X 80 65 L (.ref x :: st) h Q ↔ X 80 66 L (.ref x :: .ref x :: st) h Q := X_n mC_80 dX7_init_65 rfl
theorem x80_66 : X 80 66 L st h Q ↔ X 80 67 L (.int 2 :: st) h Q := X_n mC_80 dX7_init_66 rfl
theorem x80_67 {b : Nat} {a0 : Int32} {w0 w1 : Value} : X 80 67 L [.int a0, .ref b, w0, w1] h Q ↔ X 59 0 [.ref b, .int a0] [] h (fun r h' => X 80 70 L (pv r [w0, w1]) h' Q) := X_spec (as := [.int a0]) (n := 1) (ml := 2) (ck := 4) mC_80 dX7_init_67 (by unfold cOk; decide +kernel) ⟨rfl, rfl, by decide, Nat.le_of_ble_eq_true rfl⟩
theorem x80_70 {a v : Nat} : X 80 70 L (.ref v :: .ref a :: st) h Q ↔ (hS h a = (1, 7) ∧ v ≠ 0) ∧ X 80 73 L st (sR h a 5 v) Q := X_putR mC_80 dX7_init_70 (by decide +kernel)
theorem x80_73 {l1 : Value} {x : Nat} : X 80 73 [.ref x, l1] st h Q ↔ X 80 74 [.ref x, l1] (.ref x :: st) h Q := X_n mC_80 dX7_init_73 rfl
theorem x80_74 : X 80 74 L st h Q ↔ X 80 77 L (.ref (hN h) :: st) (nw h 6 (1, 1)) Q := X_new mC_80 dX7_init_74 (by decide +kernel)
theorem x80_77 {x : Nat} : X 80 77 L (.ref x :: st) h Q ↔ X 80 78 L (.ref x :: .ref x :: st) h Q := X_n mC_80 dX7_init_77 rfl
theorem x80_78 {b : Nat} {w0 w1 : Value} : X 80 78 L [.ref b, w0, w1] h Q ↔ X 33 0 [.ref b] [] h (fun r h' => X 80 81 L (pv r [w0, w1]) h' Q) := X_spec (as := []) (n := 0) (ml := 1) (ck := 1) mC_80 dX7_init_78 (by unfold cOk; decide +kernel) ⟨rfl, rfl, by decide, Nat.le_of_ble_eq_true rfl⟩
theorem x80_81 {a v : Nat} : X 80 81 L (.ref v :: .ref a :: st) h Q ↔ (hS h a = (1, 7) ∧ v ≠ 0) ∧ X 80 84 L st (sR h a 6 v) Q := X_putR mC_80 dX7_init_81 (by decide +kernel)
theorem x80_84 {l1 : Value} {x : Nat} : X 80 84 [.ref x, l1] st h Q ↔ X 80 85 [.ref x, l1] (.ref x :: st) h Q := X_n mC_80 dX7_init_84 rfl
theorem x80_85 : X 80 85 L st h Q ↔ X 80 88 L (.ref (hN h) :: st) (nw h 6 (1, 1)) Q := X_new mC_80 dX7_init_85 (by decide +kernel)
theorem x80_88 {x : Nat} : X 80 88 L (.ref x :: st) h Q ↔ X 80 89 L (.ref x :: .ref x :: st) h Q := X_n mC_80 dX7_init_88 rfl
theorem x80_89 {b : Nat} {w0 w1 : Value} : X 80 89 L [.ref b, w0, w1] h Q ↔ X 33 0 [.ref b] [] h (fun r h' => X 80 92 L (pv r [w0, w1]) h' Q) := X_spec (as := []) (n := 0) (ml := 1) (ck := 1) mC_80 dX7_init_89 (by unfold cOk; decide +kernel) ⟨rfl, rfl, by decide, Nat.le_of_ble_eq_true rfl⟩
theorem x80_92 {a v : Nat} : X 80 92 L (.ref v :: .ref a :: st) h Q ↔ (hS h a = (1, 7) ∧ v ≠ 0) ∧ X 80 95 L st (sR h a 7 v) Q := X_putR mC_80 dX7_init_92 (by decide +kernel)
theorem x80_95 {l1 : Value} {x : Nat} : X 80 95 [.ref x, l1] st h Q ↔ X 80 96 [.ref x, l1] (.ref x :: st) h Q := X_n mC_80 dX7_init_95 rfl
theorem x80_96 : X 80 96 L st h Q ↔ X 80 99 L (.ref (hN h) :: st) (nw h 11 (1, 0)) Q := X_new mC_80 dX7_init_96 (by decide +kernel)
theorem x80_99 {x : Nat} : X 80 99 L (.ref x :: st) h Q ↔ X 80 100 L (.ref x :: .ref x :: st) h Q := X_n mC_80 dX7_init_99 rfl
theorem x80_100 {b : Nat} {w0 w1 : Value} : X 80 100 L [.ref b, w0, w1] h Q ↔ X 0 0 [.ref b] [] h (fun r h' => X 80 103 L (pv r [w0, w1]) h' Q) := X_spec (as := []) (n := 0) (ml := 1) (ck := 0) mC_80 dX7_init_100 (by unfold cOk; decide +kernel) ⟨rfl, rfl, by decide, Nat.le_of_ble_eq_true rfl⟩
theorem x80_103 {a v : Nat} : X 80 103 L (.ref v :: .ref a :: st) h Q ↔ (hS h a = (1, 7) ∧ v ≠ 0) ∧ X 80 106 L st (sR h a 8 v) Q := X_putR mC_80 dX7_init_103 (by decide +kernel)
theorem x80_106 {l1 : Value} {x : Nat} : X 80 106 [.ref x, l1] st h Q ↔ X 80 107 [.ref x, l1] (.ref x :: st) h Q := X_n mC_80 dX7_init_106 rfl
theorem x80_107 : X 80 107 L st h Q ↔ X 80 110 L (.ref (hN h) :: st) (nw h 11 (1, 0)) Q := X_new mC_80 dX7_init_107 (by decide +kernel)
theorem x80_110 {x : Nat} : X 80 110 L (.ref x :: st) h Q ↔ X 80 111 L (.ref x :: .ref x :: st) h Q := X_n mC_80 dX7_init_110 rfl
theorem x80_111 {b : Nat} {w0 w1 : Value} : X 80 111 L [.ref b, w0, w1] h Q ↔ X 0 0 [.ref b] [] h (fun r h' => X 80 114 L (pv r [w0, w1]) h' Q) := X_spec (as := []) (n := 0) (ml := 1) (ck := 0) mC_80 dX7_init_111 (by unfold cOk; decide +kernel) ⟨rfl, rfl, by decide, Nat.le_of_ble_eq_true rfl⟩
theorem x80_114 {a v : Nat} : X 80 114 L (.ref v :: .ref a :: st) h Q ↔ (hS h a = (1, 7) ∧ v ≠ 0) ∧ X 80 117 L st (sR h a 9 v) Q := X_putR mC_80 dX7_init_114 (by decide +kernel)
theorem x80_117 {l1 : Value} {x : Nat} : X 80 117 [.ref x, l1] st h Q ↔ X 80 118 [.ref x, l1] (.ref x :: st) h Q := X_n mC_80 dX7_init_117 rfl
theorem x80_118 : X 80 118 L st h Q ↔ X 80 121 L (.ref (hN h) :: st) (nw h 11 (1, 0)) Q := X_new mC_80 dX7_init_118 (by decide +kernel)
theorem x80_121 {x : Nat} : X 80 121 L (.ref x :: st) h Q ↔ X 80 122 L (.ref x :: .ref x :: st) h Q := X_n mC_80 dX7_init_121 rfl
theorem x80_122 {b : Nat} {w0 w1 : Value} : X 80 122 L [.ref b, w0, w1] h Q ↔ X 0 0 [.ref b] [] h (fun r h' => X 80 125 L (pv r [w0, w1]) h' Q) := X_spec (as := []) (n := 0) (ml := 1) (ck := 0) mC_80 dX7_init_122 (by unfold cOk; decide +kernel) ⟨rfl, rfl, by decide, Nat.le_of_ble_eq_true rfl⟩
theorem x80_125 {a v : Nat} : X 80 125 L (.ref v :: .ref a :: st) h Q ↔ (hS h a = (1, 7) ∧ v ≠ 0) ∧ X 80 128 L st (sR h a 10 v) Q := X_putR mC_80 dX7_init_125 (by decide +kernel)
theorem x80_128 : X 80 128 L st h Q ↔ X 80 129 L (.int 0 :: st) h Q := X_n mC_80 dX7_init_128 rfl
theorem x80_129 {l0 l1 : Value} {x : Int32} : X 80 129 [l0, l1] (.int x :: st) h Q ↔ c1 l0 = true ∧ X 80 130 [l0, .int x] st h Q := X_sto (kk := 1) (pc' := 130) (w := .int x) mC_80 dX7_init_129 rfl (Nat.le_of_ble_eq_true rfl) rfl
theorem x80_130 {l0 : Value} {x : Int32} : X 80 130 [l0, .int x] st h Q ↔ X 80 131 [l0, .int x] (.int x :: st) h Q := X_n mC_80 dX7_init_130 rfl
theorem x80_131 : X 80 131 L st h Q ↔ X 80 133 L (.ref 2 :: st) h Q := X_ldcS mC_80 dX7_init_131 (by decide +kernel)
theorem x80_133 {a : Nat} {w0 : Value} : X 80 133 L [.ref a, w0] h Q ↔ a = 2 ∧ X 80 136 L [.int 60, w0] h Q := X_slen (n := 0) mC_80 dX7_init_133 (by decide +kernel) (Nat.le_of_ble_eq_true rfl)
theorem x80_136 {x y : Int32} : X 80 136 L (.int y :: .int x :: st) h Q ↔ if x < y then X 80 139 L st h Q else X 80 159 L st h Q := X_ige mC_80 dX7_init_136 (by decide)
theorem x80_139 {l1 : Value} {x : Nat} : X 80 139 [.ref x, l1] st h Q ↔ X 80 140 [.ref x, l1] (.ref x :: st) h Q := X_n mC_80 dX7_init_139 rfl
theorem x80_140 {a : Nat} : X 80 140 L (.ref a :: st) h Q ↔ (hS h a = (1, 7) ∧ hR h a 0 ≠ 0) ∧ X 80 143 L (.ref (hR h a 0) :: st) h Q := X_getR mC_80 dX7_init_140 (by decide +kernel)
theorem x80_143 : X 80 143 L st h Q ↔ X 80 145 L (.ref 2 :: st) h Q := X_ldcS mC_80 dX7_init_143 (by decide +kernel)
theorem x80_145 {l0 : Value} {x : Int32} : X 80 145 [l0, .int x] st h Q ↔ X 80 146 [l0, .int x] (.int x :: st) h Q := X_n mC_80 dX7_init_145 rfl
theorem x80_146 {a : Nat} {i : Int32} {w0 : Value} : X 80 146 L [.int i, .ref a, w0] h Q ↔ (a = 2 ∧ 0 ≤ i ∧ i < 60) ∧ X 80 149 L [.int (txtB.getD i.toNatClampNeg 0), w0] h Q := X_schr (n := 1) mC_80 dX7_init_146 (by decide +kernel) (Nat.le_of_ble_eq_true rfl)
theorem x80_149 {b : Nat} {a0 : Int32} : X 80 149 L [.int a0, .ref b] h Q ↔ hS h b = (1, 5) ∧ X 68 0 [.ref b, .int a0] [] h (fun r h' => X 80 152 L (pv r []) h' Q) := X_virt (as := [.int a0]) (n := 1) (ml := 2) (ck := 5) mC_80 dX7_init_149 (by unfold cOk; decide +kernel) ⟨rfl, rfl, by decide, Nat.le_of_ble_eq_true rfl⟩
theorem x80_152 {x : Int32} : X 80 152 L (.int x :: st) h Q ↔ X 80 153 L st h Q := X_n mC_80 dX7_init_152 rfl
theorem x80_153 {l0 : Value} {x : Int32} : X 80 153 [l0, .int x] st h Q ↔ c1 l0 = true ∧ X 80 156 [l0, .int (x + 1)] st h Q := X_inc (pc' := 156) (x := x) mC_80 dX7_init_153 rfl rfl rfl
theorem x80_156 : X 80 156 L st h Q ↔ X 80 130 L st h Q := X_goto mC_80 dX7_init_156 (by decide)
theorem x80_159 {l1 : Value} {x : Nat} : X 80 159 [.ref x, l1] st h Q ↔ X 80 160 [.ref x, l1] (.ref x :: st) h Q := X_n mC_80 dX7_init_159 rfl
theorem x80_160 {a : Nat} : X 80 160 L (.ref a :: st) h Q ↔ (hS h a = (1, 7) ∧ hR h a 0 ≠ 0) ∧ X 80 163 L (.ref (hR h a 0) :: st) h Q := X_getR mC_80 dX7_init_160 (by decide +kernel)
theorem x80_163 {l1 : Value} {x : Nat} : X 80 163 [.ref x, l1] st h Q ↔ X 80 164 [.ref x, l1] (.ref x :: st) h Q := X_n mC_80 dX7_init_163 rfl
theorem x80_164 {a : Nat} : X 80 164 L (.ref a :: st) h Q ↔ (hS h a = (1, 7) ∧ hR h a 9 ≠ 0) ∧ X 80 167 L (.ref (hR h a 9) :: st) h Q := X_getR mC_80 dX7_init_164 (by decide +kernel)
theorem x80_167 {b : Nat} {a0 : Nat} : X 80 167 L [.ref a0, .ref b] h Q ↔ hS h b = (1, 5) ∧ X 69 0 [.ref b, .ref a0, .null, .null] [] h (fun r h' => X 80 170 L (pv r []) h' Q) := X_virt (as := [.ref a0]) (n := 1) (ml := 4) (ck := 5) mC_80 dX7_init_167 (by unfold cOk; decide +kernel) ⟨rfl, rfl, by decide, Nat.le_of_ble_eq_true rfl⟩
theorem x80_170 : X 80 170 L st h Q ↔ X 80 172 L (.int (-4) :: st) h Q := X_n mC_80 dX7_init_170 rfl
theorem x80_172 {x y : Int32} : X 80 172 L (.int y :: .int x :: st) h Q ↔ if x = y then X 80 175 L st h Q else X 80 179 L st h Q := X_ine mC_80 dX7_init_172 (by decide)
theorem x80_175 {l1 : Value} {x : Nat} : X 80 175 [.ref x, l1] st h Q ↔ X 80 176 [.ref x, l1] (.ref x :: st) h Q := X_n mC_80 dX7_init_175 rfl
theorem x80_176 {b : Nat} : X 80 176 L [.ref b] h Q ↔ hS h b = (1, 7) ∧ X 108 0 [.ref b, .null] [] h (fun r h' => X 80 179 L (pv r []) h' Q) := X_virt (as := []) (n := 0) (ml := 2) (ck := 7) mC_80 dX7_init_176 (by unfold cOk; decide +kernel) ⟨rfl, rfl, by decide, Nat.le_of_ble_eq_true rfl⟩
theorem x80_179 {l1 : Value} {x : Nat} : X 80 179 [.ref x, l1] st h Q ↔ X 80 180 [.ref x, l1] (.ref x :: st) h Q := X_n mC_80 dX7_init_179 rfl
theorem x80_180 {a : Nat} : X 80 180 L (.ref a :: st) h Q ↔ (hS h a = (1, 7) ∧ hR h a 0 ≠ 0) ∧ X 80 183 L (.ref (hR h a 0) :: st) h Q := X_getR mC_80 dX7_init_180 (by decide +kernel)
theorem x80_183 {b : Nat} : X 80 183 L [.ref b] h Q ↔ hS h b = (1, 5) ∧ X 67 0 [.ref b] [] h (fun r h' => X 80 186 L (pv r []) h' Q) := X_virt (as := []) (n := 0) (ml := 1) (ck := 5) mC_80 dX7_init_183 (by unfold cOk; decide +kernel) ⟨rfl, rfl, by decide, Nat.le_of_ble_eq_true rfl⟩
theorem x80_186 : X 80 186 L [] h Q ↔ Q none h := X_retV mC_80 dX7_init_186 (by decide +kernel)
theorem mC_81 : mC 81 = cX7_write := rfl
theorem x81_0 {l0 : Value} {x : Int32} : X 81 0 [l0, .int x] st h Q ↔ X 81 1 [l0, .int x] (.int x :: st) h Q := X_n mC_81 dX7_write_0 rfl
theorem x81_1 : X 81 1 L st h Q ↔ X 81 3 L (.int 32 :: st) h Q := X_n mC_81 dX7_write_1 rfl
theorem x81_3 {x y : Int32} : X 81 3 L (.int y :: .int x :: st) h Q ↔ if x < y then X 81 12 L st h Q else X 81 6 L st h Q := X_ilt mC_81 dX7_write_3 (by decide)
theorem x81_6 {l0 : Value} {x : Int32} : X 81 6 [l0, .int x] st h Q ↔ X 81 7 [l0, .int x] (.int x :: st) h Q := X_n mC_81 dX7_write_6 rfl
theorem x81_7 : X 81 7 L st h Q ↔ X 81 9 L (.int 126 :: st) h Q := X_n mC_81 dX7_write_7 rfl
theorem x81_9 {x y : Int32} : X 81 9 L (.int y :: .int x :: st) h Q ↔ if y < x then X 81 12 L st h Q else X 81 14 L st h Q := X_ile mC_81 dX7_write_9 (by decide)
theorem x81_12 : X 81 12 L st h Q ↔ X 81 13 L (.int (-1) :: st) h Q := X_n mC_81 dX7_write_12 rfl
theorem x81_13 {v : Int32} : X 81 13 L [.int v] h Q ↔ Q (some (.int v)) h := X_ret mC_81 dX7_write_13 (by decide +kernel)
theorem x81_14 {l1 : Value} {x : Nat} : X 81 14 [.ref x, l1] st h Q ↔ X 81 15 [.ref x, l1] (.ref x :: st) h Q := X_n mC_81 dX7_write_14 rfl
theorem x81_15 {a : Nat} : X 81 15 L (.ref a :: st) h Q ↔ (hS h a = (1, 7) ∧ hR h a 0 ≠ 0) ∧ X 81 18 L (.ref (hR h a 0) :: st) h Q := X_getR mC_81 dX7_write_15 (by decide +kernel)
theorem x81_18 {l0 : Value} {x : Int32} : X 81 18 [l0, .int x] st h Q ↔ X 81 19 [l0, .int x] (.int x :: st) h Q := X_n mC_81 dX7_write_18 rfl
theorem x81_19 {b : Nat} {a0 : Int32} : X 81 19 L [.int a0, .ref b] h Q ↔ hS h b = (1, 5) ∧ X 68 0 [.ref b, .int a0] [] h (fun r h' => X 81 22 L (pv r []) h' Q) := X_virt (as := [.int a0]) (n := 1) (ml := 2) (ck := 5) mC_81 dX7_write_19 (by unfold cOk; decide +kernel) ⟨rfl, rfl, by decide, Nat.le_of_ble_eq_true rfl⟩
theorem x81_22 {x : Int32} : X 81 22 L (.int x :: st) h Q ↔ if x = 0 then X 81 35 L st h Q else X 81 25 L st h Q := X_zeq mC_81 dX7_write_22 (by decide)
theorem x81_25 {l1 : Value} {x : Nat} : X 81 25 [.ref x, l1] st h Q ↔ X 81 26 [.ref x, l1] (.ref x :: st) h Q := X_n mC_81 dX7_write_25 rfl
theorem x81_26 {a : Nat} : X 81 26 L (.ref a :: st) h Q ↔ (hS h a = (1, 7) ∧ hR h a 0 ≠ 0) ∧ X 81 29 L (.ref (hR h a 0) :: st) h Q := X_getR mC_81 dX7_write_26 (by decide +kernel)
theorem x81_29 {b : Nat} : X 81 29 L [.ref b] h Q ↔ hS h b = (1, 5) ∧ X 66 0 [.ref b] [] h (fun r h' => X 81 32 L (pv r []) h' Q) := X_virt (as := []) (n := 0) (ml := 1) (ck := 5) mC_81 dX7_write_29 (by unfold cOk; decide +kernel) ⟨rfl, rfl, by decide, Nat.le_of_ble_eq_true rfl⟩
theorem x81_32 : X 81 32 L st h Q ↔ X 81 37 L st h Q := X_goto mC_81 dX7_write_32 (by decide)
theorem x81_35 : X 81 35 L st h Q ↔ X 81 37 L (.int (-3) :: st) h Q := X_n mC_81 dX7_write_35 rfl
theorem x81_37 {v : Int32} : X 81 37 L [.int v] h Q ↔ Q (some (.int v)) h := X_ret mC_81 dX7_write_37 (by decide +kernel)
theorem mC_82 : mC 82 = cX7_wipe := rfl
theorem x82_0 {l1 : Value} {x : Nat} : X 82 0 [.ref x, l1] st h Q ↔ X 82 1 [.ref x, l1] (.ref x :: st) h Q := X_n mC_82 dX7_wipe_0 rfl
theorem x82_1 {a : Nat} : X 82 1 L (.ref a :: st) h Q ↔ (hS h a = (1, 7) ∧ hR h a 0 ≠ 0) ∧ X 82 4 L (.ref (hR h a 0) :: st) h Q := X_getR mC_82 dX7_wipe_1 (by decide +kernel)
theorem x82_4 {b : Nat} : X 82 4 L [.ref b] h Q ↔ hS h b = (1, 5) ∧ X 66 0 [.ref b] [] h (fun r h' => X 82 7 L (pv r []) h' Q) := X_virt (as := []) (n := 0) (ml := 1) (ck := 5) mC_82 dX7_wipe_4 (by unfold cOk; decide +kernel) ⟨rfl, rfl, by decide, Nat.le_of_ble_eq_true rfl⟩
theorem x82_7 {l0 l1 : Value} {x : Int32} : X 82 7 [l0, l1] (.int x :: st) h Q ↔ c1 l0 = true ∧ X 82 8 [l0, .int x] st h Q := X_sto (kk := 1) (pc' := 8) (w := .int x) mC_82 dX7_wipe_7 rfl (Nat.le_of_ble_eq_true rfl) rfl
theorem x82_8 {l1 : Value} {x : Nat} : X 82 8 [.ref x, l1] st h Q ↔ X 82 9 [.ref x, l1] (.ref x :: st) h Q := X_n mC_82 dX7_wipe_8 rfl
theorem x82_9 {a : Nat} : X 82 9 L (.ref a :: st) h Q ↔ (hS h a = (1, 7) ∧ hR h a 0 ≠ 0) ∧ X 82 12 L (.ref (hR h a 0) :: st) h Q := X_getR mC_82 dX7_wipe_9 (by decide +kernel)
theorem x82_12 {b : Nat} : X 82 12 L [.ref b] h Q ↔ hS h b = (1, 5) ∧ X 67 0 [.ref b] [] h (fun r h' => X 82 15 L (pv r []) h' Q) := X_virt (as := []) (n := 0) (ml := 1) (ck := 5) mC_82 dX7_wipe_12 (by unfold cOk; decide +kernel) ⟨rfl, rfl, by decide, Nat.le_of_ble_eq_true rfl⟩
theorem x82_15 {l0 : Value} {x : Int32} : X 82 15 [l0, .int x] st h Q ↔ X 82 16 [l0, .int x] (.int x :: st) h Q := X_n mC_82 dX7_wipe_15 rfl
theorem x82_16 {v : Int32} : X 82 16 L [.int v] h Q ↔ Q (some (.int v)) h := X_ret mC_82 dX7_wipe_16 (by decide +kernel)
theorem mC_83 : mC 83 = cX7_fault := rfl
theorem x83_0 {x : Nat} : X 83 0 [.ref x] st h Q ↔ X 83 1 [.ref x] (.ref x :: st) h Q := X_n mC_83 dX7_fault_0 rfl
theorem x83_1 {a : Nat} : X 83 1 L (.ref a :: st) h Q ↔ (hS h a = (1, 7) ∧ hR h a 0 ≠ 0) ∧ X 83 4 L (.ref (hR h a 0) :: st) h Q := X_getR mC_83 dX7_fault_1 (by decide +kernel)
theorem x83_4 {x : Nat} : X 83 4 [.ref x] st h Q ↔ X 83 5 [.ref x] (.ref x :: st) h Q := X_n mC_83 dX7_fault_4 rfl
theorem x83_5 {a : Nat} : X 83 5 L (.ref a :: st) h Q ↔ (hS h a = (1, 7) ∧ hR h a 9 ≠ 0) ∧ X 83 8 L (.ref (hR h a 9) :: st) h Q := X_getR mC_83 dX7_fault_5 (by decide +kernel)
theorem x83_8 {b : Nat} {a0 : Nat} : X 83 8 L [.ref a0, .ref b] h Q ↔ hS h b = (1, 5) ∧ X 69 0 [.ref b, .ref a0, .null, .null] [] h (fun r h' => X 83 11 L (pv r []) h' Q) := X_virt (as := [.ref a0]) (n := 1) (ml := 4) (ck := 5) mC_83 dX7_fault_8 (by unfold cOk; decide +kernel) ⟨rfl, rfl, by decide, Nat.le_of_ble_eq_true rfl⟩
theorem x83_11 {v : Int32} : X 83 11 L [.int v] h Q ↔ Q (some (.int v)) h := X_ret mC_83 dX7_fault_11 (by decide +kernel)
theorem mC_84 : mC 84 = cX7_lay := rfl
theorem x84_0 {x : Nat} : X 84 0 [.ref x] st h Q ↔ X 84 1 [.ref x] (.ref x :: st) h Q := X_n mC_84 dX7_lay_0 rfl
theorem x84_1 {a : Nat} : X 84 1 L (.ref a :: st) h Q ↔ (hS h a = (1, 7) ∧ hR h a 0 ≠ 0) ∧ X 84 4 L (.ref (hR h a 0) :: st) h Q := X_getR mC_84 dX7_lay_1 (by decide +kernel)
theorem x84_4 {x : Nat} : X 84 4 [.ref x] st h Q ↔ X 84 5 [.ref x] (.ref x :: st) h Q := X_n mC_84 dX7_lay_4 rfl
theorem x84_5 {a : Nat} : X 84 5 L (.ref a :: st) h Q ↔ (hS h a = (1, 7) ∧ hR h a 9 ≠ 0) ∧ X 84 8 L (.ref (hR h a 9) :: st) h Q := X_getR mC_84 dX7_lay_5 (by decide +kernel)
theorem x84_8 {b : Nat} {a0 : Nat} : X 84 8 L [.ref a0, .ref b] h Q ↔ hS h b = (1, 5) ∧ X 69 0 [.ref b, .ref a0, .null, .null] [] h (fun r h' => X 84 11 L (pv r []) h' Q) := X_virt (as := [.ref a0]) (n := 1) (ml := 4) (ck := 5) mC_84 dX7_lay_8 (by unfold cOk; decide +kernel) ⟨rfl, rfl, by decide, Nat.le_of_ble_eq_true rfl⟩
theorem x84_11 : X 84 11 L st h Q ↔ X 84 13 L (.int (-4) :: st) h Q := X_n mC_84 dX7_lay_11 rfl
theorem x84_13 {x y : Int32} : X 84 13 L (.int y :: .int x :: st) h Q ↔ if x = y then X 84 16 L st h Q else X 84 26 L st h Q := X_ine mC_84 dX7_lay_13 (by decide)
theorem x84_16 {x : Nat} : X 84 16 [.ref x] st h Q ↔ X 84 17 [.ref x] (.ref x :: st) h Q := X_n mC_84 dX7_lay_16 rfl
theorem x84_17 {a : Nat} : X 84 17 L (.ref a :: st) h Q ↔ (hS h a = (1, 7) ∧ hR h a 9 ≠ 0) ∧ X 84 20 L (.ref (hR h a 9) :: st) h Q := X_getR mC_84 dX7_lay_17 (by decide +kernel)
theorem x84_20 {b : Nat} : X 84 20 L [.ref b] h Q ↔ hS h b = (1, 0) ∧ X 10 0 [.ref b] [] h (fun r h' => X 84 23 L (pv r []) h' Q) := X_virt (as := []) (n := 0) (ml := 1) (ck := 0) mC_84 dX7_lay_20 (by unfold cOk; decide +kernel) ⟨rfl, rfl, by decide, Nat.le_of_ble_eq_true rfl⟩
theorem x84_23 {x : Int32} : X 84 23 L (.int x :: st) h Q ↔ if x = 0 then X 84 26 L st h Q else X 84 29 L st h Q := X_zne mC_84 dX7_lay_23 (by decide)
theorem x84_26 : X 84 26 L st h Q ↔ X 84 28 L (.int (-2) :: st) h Q := X_n mC_84 dX7_lay_26 rfl
theorem x84_28 {v : Int32} : X 84 28 L [.int v] h Q ↔ Q (some (.int v)) h := X_ret mC_84 dX7_lay_28 (by decide +kernel)
theorem x84_29 {x : Nat} : X 84 29 [.ref x] st h Q ↔ X 84 30 [.ref x] (.ref x :: st) h Q := X_n mC_84 dX7_lay_29 rfl
theorem x84_30 {b : Nat} : X 84 30 L [.ref b] h Q ↔ hS h b = (1, 7) ∧ X 108 0 [.ref b, .null] [] h (fun r h' => X 84 33 L (pv r []) h' Q) := X_virt (as := []) (n := 0) (ml := 2) (ck := 7) mC_84 dX7_lay_30 (by unfold cOk; decide +kernel) ⟨rfl, rfl, by decide, Nat.le_of_ble_eq_true rfl⟩
theorem x84_33 {x : Nat} : X 84 33 [.ref x] st h Q ↔ X 84 34 [.ref x] (.ref x :: st) h Q := X_n mC_84 dX7_lay_33 rfl
theorem x84_34 {a : Nat} : X 84 34 L (.ref a :: st) h Q ↔ (hS h a = (1, 7) ∧ hR h a 8 ≠ 0) ∧ X 84 37 L (.ref (hR h a 8) :: st) h Q := X_getR mC_84 dX7_lay_34 (by decide +kernel)
theorem x84_37 {b : Nat} : X 84 37 L [.ref b] h Q ↔ hS h b = (1, 0) ∧ X 10 0 [.ref b] [] h (fun r h' => X 84 40 L (pv r []) h' Q) := X_virt (as := []) (n := 0) (ml := 1) (ck := 0) mC_84 dX7_lay_37 (by unfold cOk; decide +kernel) ⟨rfl, rfl, by decide, Nat.le_of_ble_eq_true rfl⟩
theorem x84_40 {v : Int32} : X 84 40 L [.int v] h Q ↔ Q (some (.int v)) h := X_ret mC_84 dX7_lay_40 (by decide +kernel)
theorem mC_85 : mC 85 = cX7_guest := rfl
theorem x85_0 {l1 l2 : Value} {x : Nat} : X 85 0 [.ref x, l1, l2] st h Q ↔ X 85 1 [.ref x, l1, l2] (.ref x :: st) h Q := X_n mC_85 dX7_guest_0 rfl
theorem x85_1 {a : Nat} : X 85 1 L (.ref a :: st) h Q ↔ (hS h a = (1, 7) ∧ hR h a 8 ≠ 0) ∧ X 85 4 L (.ref (hR h a 8) :: st) h Q := X_getR mC_85 dX7_guest_1 (by decide +kernel)
theorem x85_4 {l0 l2 : Value} {x : Int32} : X 85 4 [l0, .int x, l2] st h Q ↔ X 85 5 [l0, .int x, l2] (.int x :: st) h Q := X_n mC_85 dX7_guest_4 rfl
theorem x85_5 {b : Nat} {a0 : Int32} : X 85 5 L [.int a0, .ref b] h Q ↔ hS h b = (1, 0) ∧ X 13 0 [.ref b, .int a0] [] h (fun r h' => X 85 8 L (pv r []) h' Q) := X_virt (as := [.int a0]) (n := 1) (ml := 2) (ck := 0) mC_85 dX7_guest_5 (by unfold cOk; decide +kernel) ⟨rfl, rfl, by decide, Nat.le_of_ble_eq_true rfl⟩
theorem x85_8 {x : Int32} : X 85 8 L (.int x :: st) h Q ↔ if x = 0 then X 85 11 L st h Q else X 85 13 L st h Q := X_zne mC_85 dX7_guest_8 (by decide)
theorem x85_11 : X 85 11 L st h Q ↔ X 85 12 L (.int (-1) :: st) h Q := X_n mC_85 dX7_guest_11 rfl
theorem x85_12 {v : Int32} : X 85 12 L [.int v] h Q ↔ Q (some (.int v)) h := X_ret mC_85 dX7_guest_12 (by decide +kernel)
theorem x85_13 {l0 l1 : Value} {x : Int32} : X 85 13 [l0, l1, .int x] st h Q ↔ X 85 14 [l0, l1, .int x] (.int x :: st) h Q := X_n mC_85 dX7_guest_13 rfl
theorem x85_14 {x : Int32} : X 85 14 L (.int x :: st) h Q ↔ if x = 0 then X 85 60 L st h Q else if x = 1 then X 85 69 L st h Q else if x = 2 then X 85 78 L st h Q else if x = 3 then X 85 87 L st h Q else if x = 4 then X 85 96 L st h Q else if x = 5 then X 85 105 L st h Q else if x = 6 then X 85 121 L st h Q else if x = 7 then X 85 141 L st h Q else X 85 169 L st h Q := by
  by_cases h0 : x = 0
  · subst h0; simp only [if_true]; exact X_tabIn (off := 46) mC_85 dX7_guest_14 ⟨by decide, by decide⟩ (by decide)
  rw [if_neg h0]
  by_cases h1 : x = 1
  · subst h1; simp only [if_true]; exact X_tabIn (off := 55) mC_85 dX7_guest_14 ⟨by decide, by decide⟩ (by decide)
  rw [if_neg h1]
  by_cases h2 : x = 2
  · subst h2; simp only [if_true]; exact X_tabIn (off := 64) mC_85 dX7_guest_14 ⟨by decide, by decide⟩ (by decide)
  rw [if_neg h2]
  by_cases h3 : x = 3
  · subst h3; simp only [if_true]; exact X_tabIn (off := 73) mC_85 dX7_guest_14 ⟨by decide, by decide⟩ (by decide)
  rw [if_neg h3]
  by_cases h4 : x = 4
  · subst h4; simp only [if_true]; exact X_tabIn (off := 82) mC_85 dX7_guest_14 ⟨by decide, by decide⟩ (by decide)
  rw [if_neg h4]
  by_cases h5 : x = 5
  · subst h5; simp only [if_true]; exact X_tabIn (off := 91) mC_85 dX7_guest_14 ⟨by decide, by decide⟩ (by decide)
  rw [if_neg h5]
  by_cases h6 : x = 6
  · subst h6; simp only [if_true]; exact X_tabIn (off := 107) mC_85 dX7_guest_14 ⟨by decide, by decide⟩ (by decide)
  rw [if_neg h6]
  by_cases h7 : x = 7
  · subst h7; simp only [if_true]; exact X_tabIn (off := 127) mC_85 dX7_guest_14 ⟨by decide, by decide⟩ (by decide)
  rw [if_neg h7]
  have q0 := toInt_ne h0
  rw [show (0 : Int32).toInt = 0 by decide] at q0
  have q1 := toInt_ne h1
  rw [show (1 : Int32).toInt = 1 by decide] at q1
  have q2 := toInt_ne h2
  rw [show (2 : Int32).toInt = 2 by decide] at q2
  have q3 := toInt_ne h3
  rw [show (3 : Int32).toInt = 3 by decide] at q3
  have q4 := toInt_ne h4
  rw [show (4 : Int32).toInt = 4 by decide] at q4
  have q5 := toInt_ne h5
  rw [show (5 : Int32).toInt = 5 by decide] at q5
  have q6 := toInt_ne h6
  rw [show (6 : Int32).toInt = 6 by decide] at q6
  have q7 := toInt_ne h7
  rw [show (7 : Int32).toInt = 7 by decide] at q7
  exact X_tabOut mC_85 dX7_guest_14 (by omega) (by decide)
theorem x85_60 {l1 l2 : Value} {x : Nat} : X 85 60 [.ref x, l1, l2] st h Q ↔ X 85 61 [.ref x, l1, l2] (.ref x :: st) h Q := X_n mC_85 dX7_guest_60 rfl
theorem x85_61 {a : Nat} : X 85 61 L (.ref a :: st) h Q ↔ (hS h a = (1, 7) ∧ hR h a 8 ≠ 0) ∧ X 85 64 L (.ref (hR h a 8) :: st) h Q := X_getR mC_85 dX7_guest_61 (by decide +kernel)
theorem x85_64 {l0 l2 : Value} {x : Int32} : X 85 64 [l0, .int x, l2] st h Q ↔ X 85 65 [l0, .int x, l2] (.int x :: st) h Q := X_n mC_85 dX7_guest_64 rfl
theorem x85_65 {b : Nat} {a0 : Int32} : X 85 65 L [.int a0, .ref b] h Q ↔ hS h b = (1, 0) ∧ X 16 0 [.ref b, .int a0] [] h (fun r h' => X 85 68 L (pv r []) h' Q) := X_virt (as := [.int a0]) (n := 1) (ml := 2) (ck := 0) mC_85 dX7_guest_65 (by unfold cOk; decide +kernel) ⟨rfl, rfl, by decide, Nat.le_of_ble_eq_true rfl⟩
theorem x85_68 {v : Int32} : X 85 68 L [.int v] h Q ↔ Q (some (.int v)) h := X_ret mC_85 dX7_guest_68 (by decide +kernel)
theorem x85_69 {l1 l2 : Value} {x : Nat} : X 85 69 [.ref x, l1, l2] st h Q ↔ X 85 70 [.ref x, l1, l2] (.ref x :: st) h Q := X_n mC_85 dX7_guest_69 rfl
theorem x85_70 {a : Nat} : X 85 70 L (.ref a :: st) h Q ↔ (hS h a = (1, 7) ∧ hR h a 8 ≠ 0) ∧ X 85 73 L (.ref (hR h a 8) :: st) h Q := X_getR mC_85 dX7_guest_70 (by decide +kernel)
theorem x85_73 {l0 l2 : Value} {x : Int32} : X 85 73 [l0, .int x, l2] st h Q ↔ X 85 74 [l0, .int x, l2] (.int x :: st) h Q := X_n mC_85 dX7_guest_73 rfl
theorem x85_74 {b : Nat} {a0 : Int32} : X 85 74 L [.int a0, .ref b] h Q ↔ hS h b = (1, 0) ∧ X 17 0 [.ref b, .int a0] [] h (fun r h' => X 85 77 L (pv r []) h' Q) := X_virt (as := [.int a0]) (n := 1) (ml := 2) (ck := 0) mC_85 dX7_guest_74 (by unfold cOk; decide +kernel) ⟨rfl, rfl, by decide, Nat.le_of_ble_eq_true rfl⟩
theorem x85_77 {v : Int32} : X 85 77 L [.int v] h Q ↔ Q (some (.int v)) h := X_ret mC_85 dX7_guest_77 (by decide +kernel)
theorem x85_78 {l1 l2 : Value} {x : Nat} : X 85 78 [.ref x, l1, l2] st h Q ↔ X 85 79 [.ref x, l1, l2] (.ref x :: st) h Q := X_n mC_85 dX7_guest_78 rfl
theorem x85_79 {a : Nat} : X 85 79 L (.ref a :: st) h Q ↔ (hS h a = (1, 7) ∧ hR h a 8 ≠ 0) ∧ X 85 82 L (.ref (hR h a 8) :: st) h Q := X_getR mC_85 dX7_guest_79 (by decide +kernel)
theorem x85_82 {l0 l2 : Value} {x : Int32} : X 85 82 [l0, .int x, l2] st h Q ↔ X 85 83 [l0, .int x, l2] (.int x :: st) h Q := X_n mC_85 dX7_guest_82 rfl
theorem x85_83 {b : Nat} {a0 : Int32} : X 85 83 L [.int a0, .ref b] h Q ↔ hS h b = (1, 0) ∧ X 18 0 [.ref b, .int a0] [] h (fun r h' => X 85 86 L (pv r []) h' Q) := X_virt (as := [.int a0]) (n := 1) (ml := 2) (ck := 0) mC_85 dX7_guest_83 (by unfold cOk; decide +kernel) ⟨rfl, rfl, by decide, Nat.le_of_ble_eq_true rfl⟩
theorem x85_86 {v : Int32} : X 85 86 L [.int v] h Q ↔ Q (some (.int v)) h := X_ret mC_85 dX7_guest_86 (by decide +kernel)
theorem x85_87 {l1 l2 : Value} {x : Nat} : X 85 87 [.ref x, l1, l2] st h Q ↔ X 85 88 [.ref x, l1, l2] (.ref x :: st) h Q := X_n mC_85 dX7_guest_87 rfl
theorem x85_88 {a : Nat} : X 85 88 L (.ref a :: st) h Q ↔ (hS h a = (1, 7) ∧ hR h a 8 ≠ 0) ∧ X 85 91 L (.ref (hR h a 8) :: st) h Q := X_getR mC_85 dX7_guest_88 (by decide +kernel)
theorem x85_91 {l0 l2 : Value} {x : Int32} : X 85 91 [l0, .int x, l2] st h Q ↔ X 85 92 [l0, .int x, l2] (.int x :: st) h Q := X_n mC_85 dX7_guest_91 rfl
theorem x85_92 {b : Nat} {a0 : Int32} : X 85 92 L [.int a0, .ref b] h Q ↔ hS h b = (1, 0) ∧ X 19 0 [.ref b, .int a0] [] h (fun r h' => X 85 95 L (pv r []) h' Q) := X_virt (as := [.int a0]) (n := 1) (ml := 2) (ck := 0) mC_85 dX7_guest_92 (by unfold cOk; decide +kernel) ⟨rfl, rfl, by decide, Nat.le_of_ble_eq_true rfl⟩
theorem x85_95 {v : Int32} : X 85 95 L [.int v] h Q ↔ Q (some (.int v)) h := X_ret mC_85 dX7_guest_95 (by decide +kernel)
theorem x85_96 {l1 l2 : Value} {x : Nat} : X 85 96 [.ref x, l1, l2] st h Q ↔ X 85 97 [.ref x, l1, l2] (.ref x :: st) h Q := X_n mC_85 dX7_guest_96 rfl
theorem x85_97 {a : Nat} : X 85 97 L (.ref a :: st) h Q ↔ (hS h a = (1, 7) ∧ hR h a 6 ≠ 0) ∧ X 85 100 L (.ref (hR h a 6) :: st) h Q := X_getR mC_85 dX7_guest_97 (by decide +kernel)
theorem x85_100 {l0 l2 : Value} {x : Int32} : X 85 100 [l0, .int x, l2] st h Q ↔ X 85 101 [l0, .int x, l2] (.int x :: st) h Q := X_n mC_85 dX7_guest_100 rfl
theorem x85_101 {b : Nat} {a0 : Int32} : X 85 101 L [.int a0, .ref b] h Q ↔ hS h b = (1, 1) ∧ X 38 0 [.ref b, .int a0] [] h (fun r h' => X 85 104 L (pv r []) h' Q) := X_virt (as := [.int a0]) (n := 1) (ml := 2) (ck := 1) mC_85 dX7_guest_101 (by unfold cOk; decide +kernel) ⟨rfl, rfl, by decide, Nat.le_of_ble_eq_true rfl⟩
theorem x85_104 {v : Int32} : X 85 104 L [.int v] h Q ↔ Q (some (.int v)) h := X_ret mC_85 dX7_guest_104 (by decide +kernel)
theorem x85_105 {l1 l2 : Value} {x : Nat} : X 85 105 [.ref x, l1, l2] st h Q ↔ X 85 106 [.ref x, l1, l2] (.ref x :: st) h Q := X_n mC_85 dX7_guest_105 rfl
theorem x85_106 {a : Nat} : X 85 106 L (.ref a :: st) h Q ↔ (hS h a = (1, 7) ∧ hR h a 8 ≠ 0) ∧ X 85 109 L (.ref (hR h a 8) :: st) h Q := X_getR mC_85 dX7_guest_106 (by decide +kernel)
theorem x85_109 {l0 l2 : Value} {x : Int32} : X 85 109 [l0, .int x, l2] st h Q ↔ X 85 110 [l0, .int x, l2] (.int x :: st) h Q := X_n mC_85 dX7_guest_109 rfl
theorem x85_110 {l1 l2 : Value} {x : Nat} : X 85 110 [.ref x, l1, l2] st h Q ↔ X 85 111 [.ref x, l1, l2] (.ref x :: st) h Q := X_n mC_85 dX7_guest_110 rfl
theorem x85_111 {a : Nat} : X 85 111 L (.ref a :: st) h Q ↔ (hS h a = (1, 7) ∧ hR h a 6 ≠ 0) ∧ X 85 114 L (.ref (hR h a 6) :: st) h Q := X_getR mC_85 dX7_guest_111 (by decide +kernel)
theorem x85_114 {a : Nat} : X 85 114 L (.ref a :: st) h Q ↔ hS h a = (1, 1) ∧ X 85 117 L (.int (hI h a 2) :: st) h Q := X_getI mC_85 dX7_guest_114 (by decide +kernel)
theorem x85_117 {b : Nat} {a0 : Int32} {a1 : Int32} : X 85 117 L [.int a1, .int a0, .ref b] h Q ↔ hS h b = (1, 0) ∧ X 21 0 [.ref b, .int a0, .int a1, .null] [] h (fun r h' => X 85 120 L (pv r []) h' Q) := X_virt (as := [.int a0, .int a1]) (n := 2) (ml := 4) (ck := 0) mC_85 dX7_guest_117 (by unfold cOk; decide +kernel) ⟨rfl, rfl, by decide, Nat.le_of_ble_eq_true rfl⟩
theorem x85_120 {v : Int32} : X 85 120 L [.int v] h Q ↔ Q (some (.int v)) h := X_ret mC_85 dX7_guest_120 (by decide +kernel)
theorem x85_121 {l1 l2 : Value} {x : Nat} : X 85 121 [.ref x, l1, l2] st h Q ↔ X 85 122 [.ref x, l1, l2] (.ref x :: st) h Q := X_n mC_85 dX7_guest_121 rfl
theorem x85_122 {a : Nat} : X 85 122 L (.ref a :: st) h Q ↔ (hS h a = (1, 7) ∧ hR h a 8 ≠ 0) ∧ X 85 125 L (.ref (hR h a 8) :: st) h Q := X_getR mC_85 dX7_guest_122 (by decide +kernel)
theorem x85_125 {l0 l2 : Value} {x : Int32} : X 85 125 [l0, .int x, l2] st h Q ↔ X 85 126 [l0, .int x, l2] (.int x :: st) h Q := X_n mC_85 dX7_guest_125 rfl
theorem x85_126 {l1 l2 : Value} {x : Nat} : X 85 126 [.ref x, l1, l2] st h Q ↔ X 85 127 [.ref x, l1, l2] (.ref x :: st) h Q := X_n mC_85 dX7_guest_126 rfl
theorem x85_127 {a : Nat} : X 85 127 L (.ref a :: st) h Q ↔ (hS h a = (1, 7) ∧ hR h a 6 ≠ 0) ∧ X 85 130 L (.ref (hR h a 6) :: st) h Q := X_getR mC_85 dX7_guest_127 (by decide +kernel)
theorem x85_130 {l1 l2 : Value} {x : Nat} : X 85 130 [.ref x, l1, l2] st h Q ↔ X 85 131 [.ref x, l1, l2] (.ref x :: st) h Q := X_n mC_85 dX7_guest_130 rfl
theorem x85_131 {a : Nat} : X 85 131 L (.ref a :: st) h Q ↔ (hS h a = (1, 7) ∧ hR h a 6 ≠ 0) ∧ X 85 134 L (.ref (hR h a 6) :: st) h Q := X_getR mC_85 dX7_guest_131 (by decide +kernel)
theorem x85_134 {a : Nat} : X 85 134 L (.ref a :: st) h Q ↔ hS h a = (1, 1) ∧ X 85 137 L (.int (hI h a 2) :: st) h Q := X_getI mC_85 dX7_guest_134 (by decide +kernel)
theorem x85_137 {b : Nat} {a0 : Int32} {a1 : Nat} {a2 : Int32} : X 85 137 L [.int a2, .ref a1, .int a0, .ref b] h Q ↔ hS h b = (1, 0) ∧ X 24 0 [.ref b, .int a0, .ref a1, .int a2, .null, .null] [] h (fun r h' => X 85 140 L (pv r []) h' Q) := X_virt (as := [.int a0, .ref a1, .int a2]) (n := 3) (ml := 6) (ck := 0) mC_85 dX7_guest_137 (by unfold cOk; decide +kernel) ⟨rfl, rfl, by decide, Nat.le_of_ble_eq_true rfl⟩
theorem x85_140 {v : Int32} : X 85 140 L [.int v] h Q ↔ Q (some (.int v)) h := X_ret mC_85 dX7_guest_140 (by decide +kernel)
theorem x85_141 {l1 l2 : Value} {x : Nat} : X 85 141 [.ref x, l1, l2] st h Q ↔ X 85 142 [.ref x, l1, l2] (.ref x :: st) h Q := X_n mC_85 dX7_guest_141 rfl
theorem x85_142 {a : Nat} : X 85 142 L (.ref a :: st) h Q ↔ (hS h a = (1, 7) ∧ hR h a 8 ≠ 0) ∧ X 85 145 L (.ref (hR h a 8) :: st) h Q := X_getR mC_85 dX7_guest_142 (by decide +kernel)
theorem x85_145 {l0 l2 : Value} {x : Int32} : X 85 145 [l0, .int x, l2] st h Q ↔ X 85 146 [l0, .int x, l2] (.int x :: st) h Q := X_n mC_85 dX7_guest_145 rfl
theorem x85_146 {l1 l2 : Value} {x : Nat} : X 85 146 [.ref x, l1, l2] st h Q ↔ X 85 147 [.ref x, l1, l2] (.ref x :: st) h Q := X_n mC_85 dX7_guest_146 rfl
theorem x85_147 {a : Nat} : X 85 147 L (.ref a :: st) h Q ↔ (hS h a = (1, 7) ∧ hR h a 6 ≠ 0) ∧ X 85 150 L (.ref (hR h a 6) :: st) h Q := X_getR mC_85 dX7_guest_147 (by decide +kernel)
theorem x85_150 {l1 l2 : Value} {x : Nat} : X 85 150 [.ref x, l1, l2] st h Q ↔ X 85 151 [.ref x, l1, l2] (.ref x :: st) h Q := X_n mC_85 dX7_guest_150 rfl
theorem x85_151 {a : Nat} : X 85 151 L (.ref a :: st) h Q ↔ (hS h a = (1, 7) ∧ hR h a 6 ≠ 0) ∧ X 85 154 L (.ref (hR h a 6) :: st) h Q := X_getR mC_85 dX7_guest_151 (by decide +kernel)
theorem x85_154 {a : Nat} : X 85 154 L (.ref a :: st) h Q ↔ hS h a = (1, 1) ∧ X 85 157 L (.int (hI h a 2) :: st) h Q := X_getI mC_85 dX7_guest_154 (by decide +kernel)
theorem x85_157 {b : Nat} {a0 : Int32} {a1 : Nat} {a2 : Int32} : X 85 157 L [.int a2, .ref a1, .int a0, .ref b] h Q ↔ hS h b = (1, 0) ∧ X 25 0 [.ref b, .int a0, .ref a1, .int a2] [] h (fun r h' => X 85 160 L (pv r []) h' Q) := X_virt (as := [.int a0, .ref a1, .int a2]) (n := 3) (ml := 4) (ck := 0) mC_85 dX7_guest_157 (by unfold cOk; decide +kernel) ⟨rfl, rfl, by decide, Nat.le_of_ble_eq_true rfl⟩
theorem x85_160 {x : Int32} : X 85 160 L (.int x :: st) h Q ↔ if x = 0 then X 85 167 L st h Q else X 85 163 L st h Q := X_zeq mC_85 dX7_guest_160 (by decide)
theorem x85_163 : X 85 163 L st h Q ↔ X 85 164 L (.int 1 :: st) h Q := X_n mC_85 dX7_guest_163 rfl
theorem x85_164 : X 85 164 L st h Q ↔ X 85 168 L st h Q := X_goto mC_85 dX7_guest_164 (by decide)
theorem x85_167 : X 85 167 L st h Q ↔ X 85 168 L (.int 0 :: st) h Q := X_n mC_85 dX7_guest_167 rfl
theorem x85_168 {v : Int32} : X 85 168 L [.int v] h Q ↔ Q (some (.int v)) h := X_ret mC_85 dX7_guest_168 (by decide +kernel)
theorem x85_169 : X 85 169 L st h Q ↔ X 85 170 L (.int (-1) :: st) h Q := X_n mC_85 dX7_guest_169 rfl
theorem x85_170 {v : Int32} : X 85 170 L [.int v] h Q ↔ Q (some (.int v)) h := X_ret mC_85 dX7_guest_170 (by decide +kernel)
theorem mC_86 : mC 86 = cX7_bed := rfl
theorem x86_0 {l1 : Value} {x : Nat} : X 86 0 [.ref x, l1] st h Q ↔ X 86 1 [.ref x, l1] (.ref x :: st) h Q := X_n mC_86 dX7_bed_0 rfl
theorem x86_1 {a : Nat} : X 86 1 L (.ref a :: st) h Q ↔ (hS h a = (1, 7) ∧ hR h a 8 ≠ 0) ∧ X 86 4 L (.ref (hR h a 8) :: st) h Q := X_getR mC_86 dX7_bed_1 (by decide +kernel)
theorem x86_4 {l0 : Value} {x : Int32} : X 86 4 [l0, .int x] st h Q ↔ X 86 5 [l0, .int x] (.int x :: st) h Q := X_n mC_86 dX7_bed_4 rfl
theorem x86_5 {b : Nat} {a0 : Int32} : X 86 5 L [.int a0, .ref b] h Q ↔ hS h b = (1, 0) ∧ X 14 0 [.ref b, .int a0] [] h (fun r h' => X 86 8 L (pv r []) h' Q) := X_virt (as := [.int a0]) (n := 1) (ml := 2) (ck := 0) mC_86 dX7_bed_5 (by unfold cOk; decide +kernel) ⟨rfl, rfl, by decide, Nat.le_of_ble_eq_true rfl⟩
theorem x86_8 {x : Int32} : X 86 8 L (.int x :: st) h Q ↔ if x = 0 then X 86 29 L st h Q else X 86 11 L st h Q := X_zeq mC_86 dX7_bed_8 (by decide)
theorem x86_11 {l1 : Value} {x : Nat} : X 86 11 [.ref x, l1] st h Q ↔ X 86 12 [.ref x, l1] (.ref x :: st) h Q := X_n mC_86 dX7_bed_11 rfl
theorem x86_12 {a : Nat} : X 86 12 L (.ref a :: st) h Q ↔ (hS h a = (1, 7) ∧ hR h a 6 ≠ 0) ∧ X 86 15 L (.ref (hR h a 6) :: st) h Q := X_getR mC_86 dX7_bed_12 (by decide +kernel)
theorem x86_15 {l0 : Value} {x : Int32} : X 86 15 [l0, .int x] st h Q ↔ X 86 16 [l0, .int x] (.int x :: st) h Q := X_n mC_86 dX7_bed_15 rfl
theorem x86_16 {l1 : Value} {x : Nat} : X 86 16 [.ref x, l1] st h Q ↔ X 86 17 [.ref x, l1] (.ref x :: st) h Q := X_n mC_86 dX7_bed_16 rfl
theorem x86_17 {a : Nat} : X 86 17 L (.ref a :: st) h Q ↔ (hS h a = (1, 7) ∧ hR h a 8 ≠ 0) ∧ X 86 20 L (.ref (hR h a 8) :: st) h Q := X_getR mC_86 dX7_bed_17 (by decide +kernel)
theorem x86_20 {b : Nat} {w0 w1 : Value} : X 86 20 L [.ref b, w0, w1] h Q ↔ hS h b = (1, 0) ∧ X 10 0 [.ref b] [] h (fun r h' => X 86 23 L (pv r [w0, w1]) h' Q) := X_virt (as := []) (n := 0) (ml := 1) (ck := 0) mC_86 dX7_bed_20 (by unfold cOk; decide +kernel) ⟨rfl, rfl, by decide, Nat.le_of_ble_eq_true rfl⟩
theorem x86_23 {b : Nat} {a0 : Int32} {a1 : Int32} : X 86 23 L [.int a1, .int a0, .ref b] h Q ↔ hS h b = (1, 1) ∧ X 40 0 [.ref b, .int a0, .int a1, .null] [] h (fun r h' => X 86 26 L (pv r []) h' Q) := X_virt (as := [.int a0, .int a1]) (n := 2) (ml := 4) (ck := 1) mC_86 dX7_bed_23 (by unfold cOk; decide +kernel) ⟨rfl, rfl, by decide, Nat.le_of_ble_eq_true rfl⟩
theorem x86_26 : X 86 26 L st h Q ↔ X 86 30 L st h Q := X_goto mC_86 dX7_bed_26 (by decide)
theorem x86_29 : X 86 29 L st h Q ↔ X 86 30 L (.int (-1) :: st) h Q := X_n mC_86 dX7_bed_29 rfl
theorem x86_30 {v : Int32} : X 86 30 L [.int v] h Q ↔ Q (some (.int v)) h := X_ret mC_86 dX7_bed_30 (by decide +kernel)
theorem mC_87 : mC 87 = cX7_wall := rfl
theorem x87_0 {l1 : Value} {x : Nat} : X 87 0 [.ref x, l1] st h Q ↔ X 87 1 [.ref x, l1] (.ref x :: st) h Q := X_n mC_87 dX7_wall_0 rfl
theorem x87_1 {a : Nat} : X 87 1 L (.ref a :: st) h Q ↔ (hS h a = (1, 7) ∧ hR h a 8 ≠ 0) ∧ X 87 4 L (.ref (hR h a 8) :: st) h Q := X_getR mC_87 dX7_wall_1 (by decide +kernel)
theorem x87_4 {l0 : Value} {x : Int32} : X 87 4 [l0, .int x] st h Q ↔ X 87 5 [l0, .int x] (.int x :: st) h Q := X_n mC_87 dX7_wall_4 rfl
theorem x87_5 {b : Nat} {a0 : Int32} : X 87 5 L [.int a0, .ref b] h Q ↔ hS h b = (1, 0) ∧ X 15 0 [.ref b, .int a0] [] h (fun r h' => X 87 8 L (pv r []) h' Q) := X_virt (as := [.int a0]) (n := 1) (ml := 2) (ck := 0) mC_87 dX7_wall_5 (by unfold cOk; decide +kernel) ⟨rfl, rfl, by decide, Nat.le_of_ble_eq_true rfl⟩
theorem x87_8 {x : Int32} : X 87 8 L (.int x :: st) h Q ↔ if x = 0 then X 87 11 L st h Q else X 87 13 L st h Q := X_zne mC_87 dX7_wall_8 (by decide)
theorem x87_11 : X 87 11 L st h Q ↔ X 87 12 L (.int (-1) :: st) h Q := X_n mC_87 dX7_wall_11 rfl
theorem x87_12 {v : Int32} : X 87 12 L [.int v] h Q ↔ Q (some (.int v)) h := X_ret mC_87 dX7_wall_12 (by decide +kernel)
theorem x87_13 {l1 : Value} {x : Nat} : X 87 13 [.ref x, l1] st h Q ↔ X 87 14 [.ref x, l1] (.ref x :: st) h Q := X_n mC_87 dX7_wall_13 rfl
theorem x87_14 {a : Nat} : X 87 14 L (.ref a :: st) h Q ↔ (hS h a = (1, 7) ∧ hR h a 6 ≠ 0) ∧ X 87 17 L (.ref (hR h a 6) :: st) h Q := X_getR mC_87 dX7_wall_14 (by decide +kernel)
theorem x87_17 {l0 : Value} {x : Int32} : X 87 17 [l0, .int x] st h Q ↔ X 87 18 [l0, .int x] (.int x :: st) h Q := X_n mC_87 dX7_wall_17 rfl
theorem x87_18 {b : Nat} {a0 : Int32} : X 87 18 L [.int a0, .ref b] h Q ↔ hS h b = (1, 1) ∧ X 42 0 [.ref b, .int a0] [] h (fun r h' => X 87 21 L (pv r []) h' Q) := X_virt (as := [.int a0]) (n := 1) (ml := 2) (ck := 1) mC_87 dX7_wall_18 (by unfold cOk; decide +kernel) ⟨rfl, rfl, by decide, Nat.le_of_ble_eq_true rfl⟩
theorem x87_21 {x : Int32} : X 87 21 L (.int x :: st) h Q ↔ if x = 0 then X 87 28 L st h Q else X 87 24 L st h Q := X_zeq mC_87 dX7_wall_21 (by decide)
theorem x87_24 : X 87 24 L st h Q ↔ X 87 25 L (.int 1 :: st) h Q := X_n mC_87 dX7_wall_24 rfl
theorem x87_25 : X 87 25 L st h Q ↔ X 87 29 L st h Q := X_goto mC_87 dX7_wall_25 (by decide)
theorem x87_28 : X 87 28 L st h Q ↔ X 87 29 L (.int 0 :: st) h Q := X_n mC_87 dX7_wall_28 rfl
theorem x87_29 {v : Int32} : X 87 29 L [.int v] h Q ↔ Q (some (.int v)) h := X_ret mC_87 dX7_wall_29 (by decide +kernel)
theorem mC_88 : mC 88 = cX7_carry := rfl
theorem x88_0 {l1 l2 : Value} {x : Nat} : X 88 0 [.ref x, l1, l2] st h Q ↔ X 88 1 [.ref x, l1, l2] (.ref x :: st) h Q := X_n mC_88 dX7_carry_0 rfl
theorem x88_1 {a : Nat} : X 88 1 L (.ref a :: st) h Q ↔ (hS h a = (1, 7) ∧ hR h a 8 ≠ 0) ∧ X 88 4 L (.ref (hR h a 8) :: st) h Q := X_getR mC_88 dX7_carry_1 (by decide +kernel)
theorem x88_4 {l0 l2 : Value} {x : Int32} : X 88 4 [l0, .int x, l2] st h Q ↔ X 88 5 [l0, .int x, l2] (.int x :: st) h Q := X_n mC_88 dX7_carry_4 rfl
theorem x88_5 {b : Nat} {a0 : Int32} : X 88 5 L [.int a0, .ref b] h Q ↔ hS h b = (1, 0) ∧ X 13 0 [.ref b, .int a0] [] h (fun r h' => X 88 8 L (pv r []) h' Q) := X_virt (as := [.int a0]) (n := 1) (ml := 2) (ck := 0) mC_88 dX7_carry_5 (by unfold cOk; decide +kernel) ⟨rfl, rfl, by decide, Nat.le_of_ble_eq_true rfl⟩
theorem x88_8 {x : Int32} : X 88 8 L (.int x :: st) h Q ↔ if x = 0 then X 88 22 L st h Q else X 88 11 L st h Q := X_zeq mC_88 dX7_carry_8 (by decide)
theorem x88_11 {l1 l2 : Value} {x : Nat} : X 88 11 [.ref x, l1, l2] st h Q ↔ X 88 12 [.ref x, l1, l2] (.ref x :: st) h Q := X_n mC_88 dX7_carry_11 rfl
theorem x88_12 {a : Nat} : X 88 12 L (.ref a :: st) h Q ↔ (hS h a = (1, 7) ∧ hR h a 8 ≠ 0) ∧ X 88 15 L (.ref (hR h a 8) :: st) h Q := X_getR mC_88 dX7_carry_12 (by decide +kernel)
theorem x88_15 {l0 l1 : Value} {x : Int32} : X 88 15 [l0, l1, .int x] st h Q ↔ X 88 16 [l0, l1, .int x] (.int x :: st) h Q := X_n mC_88 dX7_carry_15 rfl
theorem x88_16 {b : Nat} {a0 : Int32} : X 88 16 L [.int a0, .ref b] h Q ↔ hS h b = (1, 0) ∧ X 14 0 [.ref b, .int a0] [] h (fun r h' => X 88 19 L (pv r []) h' Q) := X_virt (as := [.int a0]) (n := 1) (ml := 2) (ck := 0) mC_88 dX7_carry_16 (by unfold cOk; decide +kernel) ⟨rfl, rfl, by decide, Nat.le_of_ble_eq_true rfl⟩
theorem x88_19 {x : Int32} : X 88 19 L (.int x :: st) h Q ↔ if x = 0 then X 88 22 L st h Q else X 88 24 L st h Q := X_zne mC_88 dX7_carry_19 (by decide)
theorem x88_22 : X 88 22 L st h Q ↔ X 88 23 L (.int (-1) :: st) h Q := X_n mC_88 dX7_carry_22 rfl
theorem x88_23 {v : Int32} : X 88 23 L [.int v] h Q ↔ Q (some (.int v)) h := X_ret mC_88 dX7_carry_23 (by decide +kernel)
theorem x88_24 {l1 l2 : Value} {x : Nat} : X 88 24 [.ref x, l1, l2] st h Q ↔ X 88 25 [.ref x, l1, l2] (.ref x :: st) h Q := X_n mC_88 dX7_carry_24 rfl
theorem x88_25 {a : Nat} : X 88 25 L (.ref a :: st) h Q ↔ (hS h a = (1, 7) ∧ hR h a 6 ≠ 0) ∧ X 88 28 L (.ref (hR h a 6) :: st) h Q := X_getR mC_88 dX7_carry_25 (by decide +kernel)
theorem x88_28 {l0 l1 : Value} {x : Int32} : X 88 28 [l0, l1, .int x] st h Q ↔ X 88 29 [l0, l1, .int x] (.int x :: st) h Q := X_n mC_88 dX7_carry_28 rfl
theorem x88_29 {l1 l2 : Value} {x : Nat} : X 88 29 [.ref x, l1, l2] st h Q ↔ X 88 30 [.ref x, l1, l2] (.ref x :: st) h Q := X_n mC_88 dX7_carry_29 rfl
theorem x88_30 {a : Nat} : X 88 30 L (.ref a :: st) h Q ↔ (hS h a = (1, 7) ∧ hR h a 8 ≠ 0) ∧ X 88 33 L (.ref (hR h a 8) :: st) h Q := X_getR mC_88 dX7_carry_30 (by decide +kernel)
theorem x88_33 {b : Nat} {w0 w1 : Value} : X 88 33 L [.ref b, w0, w1] h Q ↔ hS h b = (1, 0) ∧ X 10 0 [.ref b] [] h (fun r h' => X 88 36 L (pv r [w0, w1]) h' Q) := X_virt (as := []) (n := 0) (ml := 1) (ck := 0) mC_88 dX7_carry_33 (by unfold cOk; decide +kernel) ⟨rfl, rfl, by decide, Nat.le_of_ble_eq_true rfl⟩
theorem x88_36 {b : Nat} {a0 : Int32} {a1 : Int32} : X 88 36 L [.int a1, .int a0, .ref b] h Q ↔ hS h b = (1, 1) ∧ X 41 0 [.ref b, .int a0, .int a1] [] h (fun r h' => X 88 39 L (pv r []) h' Q) := X_virt (as := [.int a0, .int a1]) (n := 2) (ml := 3) (ck := 1) mC_88 dX7_carry_36 (by unfold cOk; decide +kernel) ⟨rfl, rfl, by decide, Nat.le_of_ble_eq_true rfl⟩
theorem x88_39 {x : Int32} : X 88 39 L (.int x :: st) h Q ↔ if x = 0 then X 88 42 L st h Q else X 88 45 L st h Q := X_zne mC_88 dX7_carry_39 (by decide)
theorem x88_42 : X 88 42 L st h Q ↔ X 88 44 L (.int (-2) :: st) h Q := X_n mC_88 dX7_carry_42 rfl
theorem x88_44 {v : Int32} : X 88 44 L [.int v] h Q ↔ Q (some (.int v)) h := X_ret mC_88 dX7_carry_44 (by decide +kernel)
theorem x88_45 {l1 l2 : Value} {x : Nat} : X 88 45 [.ref x, l1, l2] st h Q ↔ X 88 46 [.ref x, l1, l2] (.ref x :: st) h Q := X_n mC_88 dX7_carry_45 rfl
theorem x88_46 {a : Nat} : X 88 46 L (.ref a :: st) h Q ↔ (hS h a = (1, 7) ∧ hR h a 4 ≠ 0) ∧ X 88 49 L (.ref (hR h a 4) :: st) h Q := X_getR mC_88 dX7_carry_46 (by decide +kernel)
theorem x88_49 {l1 l2 : Value} {x : Nat} : X 88 49 [.ref x, l1, l2] st h Q ↔ X 88 50 [.ref x, l1, l2] (.ref x :: st) h Q := X_n mC_88 dX7_carry_49 rfl
theorem x88_50 {a : Nat} : X 88 50 L (.ref a :: st) h Q ↔ (hS h a = (1, 7) ∧ hR h a 6 ≠ 0) ∧ X 88 53 L (.ref (hR h a 6) :: st) h Q := X_getR mC_88 dX7_carry_50 (by decide +kernel)
theorem x88_53 {b : Nat} {a0 : Nat} : X 88 53 L [.ref a0, .ref b] h Q ↔ hS h b = (1, 4) ∧ X 63 0 [.ref b, .ref a0] [] h (fun r h' => X 88 56 L (pv r []) h' Q) := X_virt (as := [.ref a0]) (n := 1) (ml := 2) (ck := 4) mC_88 dX7_carry_53 (by unfold cOk; decide +kernel) ⟨rfl, rfl, by decide, Nat.le_of_ble_eq_true rfl⟩
theorem x88_56 {l1 l2 : Value} {x : Nat} : X 88 56 [.ref x, l1, l2] st h Q ↔ X 88 57 [.ref x, l1, l2] (.ref x :: st) h Q := X_n mC_88 dX7_carry_56 rfl
theorem x88_57 {l1 l2 : Value} {x : Nat} : X 88 57 [.ref x, l1, l2] st h Q ↔ X 88 58 [.ref x, l1, l2] (.ref x :: st) h Q := X_n mC_88 dX7_carry_57 rfl
theorem x88_58 {a : Nat} : X 88 58 L (.ref a :: st) h Q ↔ (hS h a = (1, 7) ∧ hR h a 6 ≠ 0) ∧ X 88 61 L (.ref (hR h a 6) :: st) h Q := X_getR mC_88 dX7_carry_58 (by decide +kernel)
theorem x88_61 {l0 l2 : Value} {x : Int32} : X 88 61 [l0, .int x, l2] st h Q ↔ X 88 62 [l0, .int x, l2] (.int x :: st) h Q := X_n mC_88 dX7_carry_61 rfl
theorem x88_62 {l0 l1 : Value} {x : Int32} : X 88 62 [l0, l1, .int x] st h Q ↔ X 88 63 [l0, l1, .int x] (.int x :: st) h Q := X_n mC_88 dX7_carry_62 rfl
theorem x88_63 {b : Nat} {a0 : Nat} {a1 : Int32} {a2 : Int32} : X 88 63 L [.int a2, .int a1, .ref a0, .ref b] h Q ↔ hS h b = (1, 7) ∧ X 113 0 [.ref b, .ref a0, .int a1, .int a2, .null] [] h (fun r h' => X 88 66 L (pv r []) h' Q) := X_virt (as := [.ref a0, .int a1, .int a2]) (n := 3) (ml := 5) (ck := 7) mC_88 dX7_carry_63 (by unfold cOk; decide +kernel) ⟨rfl, rfl, by decide, Nat.le_of_ble_eq_true rfl⟩
theorem x88_66 {v : Int32} : X 88 66 L [.int v] h Q ↔ Q (some (.int v)) h := X_ret mC_88 dX7_carry_66 (by decide +kernel)
theorem mC_89 : mC 89 = cX7_stuff := rfl
theorem x89_0 {l1 : Value} {x : Nat} : X 89 0 [.ref x, l1] st h Q ↔ X 89 1 [.ref x, l1] (.ref x :: st) h Q := X_n mC_89 dX7_stuff_0 rfl
theorem x89_1 {a : Nat} : X 89 1 L (.ref a :: st) h Q ↔ (hS h a = (1, 7) ∧ hR h a 8 ≠ 0) ∧ X 89 4 L (.ref (hR h a 8) :: st) h Q := X_getR mC_89 dX7_stuff_1 (by decide +kernel)
theorem x89_4 {l0 : Value} {x : Int32} : X 89 4 [l0, .int x] st h Q ↔ X 89 5 [l0, .int x] (.int x :: st) h Q := X_n mC_89 dX7_stuff_4 rfl
theorem x89_5 {b : Nat} {a0 : Int32} : X 89 5 L [.int a0, .ref b] h Q ↔ hS h b = (1, 0) ∧ X 15 0 [.ref b, .int a0] [] h (fun r h' => X 89 8 L (pv r []) h' Q) := X_virt (as := [.int a0]) (n := 1) (ml := 2) (ck := 0) mC_89 dX7_stuff_5 (by unfold cOk; decide +kernel) ⟨rfl, rfl, by decide, Nat.le_of_ble_eq_true rfl⟩
theorem x89_8 {x : Int32} : X 89 8 L (.int x :: st) h Q ↔ if x = 0 then X 89 11 L st h Q else X 89 13 L st h Q := X_zne mC_89 dX7_stuff_8 (by decide)
theorem x89_11 : X 89 11 L st h Q ↔ X 89 12 L (.int (-1) :: st) h Q := X_n mC_89 dX7_stuff_11 rfl
theorem x89_12 {v : Int32} : X 89 12 L [.int v] h Q ↔ Q (some (.int v)) h := X_ret mC_89 dX7_stuff_12 (by decide +kernel)
theorem x89_13 {l1 : Value} {x : Nat} : X 89 13 [.ref x, l1] st h Q ↔ X 89 14 [.ref x, l1] (.ref x :: st) h Q := X_n mC_89 dX7_stuff_13 rfl
theorem x89_14 {a : Nat} : X 89 14 L (.ref a :: st) h Q ↔ (hS h a = (1, 7) ∧ hR h a 4 ≠ 0) ∧ X 89 17 L (.ref (hR h a 4) :: st) h Q := X_getR mC_89 dX7_stuff_14 (by decide +kernel)
theorem x89_17 {l1 : Value} {x : Nat} : X 89 17 [.ref x, l1] st h Q ↔ X 89 18 [.ref x, l1] (.ref x :: st) h Q := X_n mC_89 dX7_stuff_17 rfl
theorem x89_18 {a : Nat} : X 89 18 L (.ref a :: st) h Q ↔ (hS h a = (1, 7) ∧ hR h a 6 ≠ 0) ∧ X 89 21 L (.ref (hR h a 6) :: st) h Q := X_getR mC_89 dX7_stuff_18 (by decide +kernel)
theorem x89_21 {b : Nat} {a0 : Nat} : X 89 21 L [.ref a0, .ref b] h Q ↔ hS h b = (1, 4) ∧ X 63 0 [.ref b, .ref a0] [] h (fun r h' => X 89 24 L (pv r []) h' Q) := X_virt (as := [.ref a0]) (n := 1) (ml := 2) (ck := 4) mC_89 dX7_stuff_21 (by unfold cOk; decide +kernel) ⟨rfl, rfl, by decide, Nat.le_of_ble_eq_true rfl⟩
theorem x89_24 {l1 : Value} {x : Nat} : X 89 24 [.ref x, l1] st h Q ↔ X 89 25 [.ref x, l1] (.ref x :: st) h Q := X_n mC_89 dX7_stuff_24 rfl
theorem x89_25 {a : Nat} : X 89 25 L (.ref a :: st) h Q ↔ (hS h a = (1, 7) ∧ hR h a 6 ≠ 0) ∧ X 89 28 L (.ref (hR h a 6) :: st) h Q := X_getR mC_89 dX7_stuff_25 (by decide +kernel)
theorem x89_28 {l0 : Value} {x : Int32} : X 89 28 [l0, .int x] st h Q ↔ X 89 29 [l0, .int x] (.int x :: st) h Q := X_n mC_89 dX7_stuff_28 rfl
theorem x89_29 {b : Nat} {a0 : Int32} : X 89 29 L [.int a0, .ref b] h Q ↔ hS h b = (1, 1) ∧ X 43 0 [.ref b, .int a0] [] h (fun r h' => X 89 32 L (pv r []) h' Q) := X_virt (as := [.int a0]) (n := 1) (ml := 2) (ck := 1) mC_89 dX7_stuff_29 (by unfold cOk; decide +kernel) ⟨rfl, rfl, by decide, Nat.le_of_ble_eq_true rfl⟩
theorem x89_32 {l1 : Value} {x : Nat} : X 89 32 [.ref x, l1] st h Q ↔ X 89 33 [.ref x, l1] (.ref x :: st) h Q := X_n mC_89 dX7_stuff_32 rfl
theorem x89_33 {a : Nat} : X 89 33 L (.ref a :: st) h Q ↔ (hS h a = (1, 7) ∧ hR h a 6 ≠ 0) ∧ X 89 36 L (.ref (hR h a 6) :: st) h Q := X_getR mC_89 dX7_stuff_33 (by decide +kernel)
theorem x89_36 {l0 : Value} {x : Int32} : X 89 36 [l0, .int x] st h Q ↔ X 89 37 [l0, .int x] (.int x :: st) h Q := X_n mC_89 dX7_stuff_36 rfl
theorem x89_37 {b : Nat} {a0 : Int32} : X 89 37 L [.int a0, .ref b] h Q ↔ hS h b = (1, 1) ∧ X 42 0 [.ref b, .int a0] [] h (fun r h' => X 89 40 L (pv r []) h' Q) := X_virt (as := [.int a0]) (n := 1) (ml := 2) (ck := 1) mC_89 dX7_stuff_37 (by unfold cOk; decide +kernel) ⟨rfl, rfl, by decide, Nat.le_of_ble_eq_true rfl⟩
theorem x89_40 {x : Int32} : X 89 40 L (.int x :: st) h Q ↔ if x = 0 then X 89 47 L st h Q else X 89 43 L st h Q := X_zeq mC_89 dX7_stuff_40 (by decide)
theorem x89_43 : X 89 43 L st h Q ↔ X 89 44 L (.int 1 :: st) h Q := X_n mC_89 dX7_stuff_43 rfl
theorem x89_44 : X 89 44 L st h Q ↔ X 89 48 L st h Q := X_goto mC_89 dX7_stuff_44 (by decide)
theorem x89_47 : X 89 47 L st h Q ↔ X 89 48 L (.int 0 :: st) h Q := X_n mC_89 dX7_stuff_47 rfl
theorem x89_48 {v : Int32} : X 89 48 L [.int v] h Q ↔ Q (some (.int v)) h := X_ret mC_89 dX7_stuff_48 (by decide +kernel)
theorem mC_90 : mC 90 = cX7_hour := rfl
theorem x90_0 {x : Nat} : X 90 0 [.ref x] st h Q ↔ X 90 1 [.ref x] (.ref x :: st) h Q := X_n mC_90 dX7_hour_0 rfl
theorem x90_1 {a : Nat} : X 90 1 L (.ref a :: st) h Q ↔ (hS h a = (1, 7) ∧ hR h a 4 ≠ 0) ∧ X 90 4 L (.ref (hR h a 4) :: st) h Q := X_getR mC_90 dX7_hour_1 (by decide +kernel)
theorem x90_4 {x : Nat} : X 90 4 [.ref x] st h Q ↔ X 90 5 [.ref x] (.ref x :: st) h Q := X_n mC_90 dX7_hour_4 rfl
theorem x90_5 {a : Nat} : X 90 5 L (.ref a :: st) h Q ↔ (hS h a = (1, 7) ∧ hR h a 6 ≠ 0) ∧ X 90 8 L (.ref (hR h a 6) :: st) h Q := X_getR mC_90 dX7_hour_5 (by decide +kernel)
theorem x90_8 {b : Nat} {a0 : Nat} : X 90 8 L [.ref a0, .ref b] h Q ↔ hS h b = (1, 4) ∧ X 63 0 [.ref b, .ref a0] [] h (fun r h' => X 90 11 L (pv r []) h' Q) := X_virt (as := [.ref a0]) (n := 1) (ml := 2) (ck := 4) mC_90 dX7_hour_8 (by unfold cOk; decide +kernel) ⟨rfl, rfl, by decide, Nat.le_of_ble_eq_true rfl⟩
theorem x90_11 {x : Nat} : X 90 11 [.ref x] st h Q ↔ X 90 12 [.ref x] (.ref x :: st) h Q := X_n mC_90 dX7_hour_11 rfl
theorem x90_12 {a : Nat} : X 90 12 L (.ref a :: st) h Q ↔ (hS h a = (1, 7) ∧ hR h a 6 ≠ 0) ∧ X 90 15 L (.ref (hR h a 6) :: st) h Q := X_getR mC_90 dX7_hour_12 (by decide +kernel)
theorem x90_15 {b : Nat} : X 90 15 L [.ref b] h Q ↔ hS h b = (1, 1) ∧ X 44 0 [.ref b] [] h (fun r h' => X 90 18 L (pv r []) h' Q) := X_virt (as := []) (n := 0) (ml := 1) (ck := 1) mC_90 dX7_hour_15 (by unfold cOk; decide +kernel) ⟨rfl, rfl, by decide, Nat.le_of_ble_eq_true rfl⟩
theorem x90_18 {x : Nat} : X 90 18 [.ref x] st h Q ↔ X 90 19 [.ref x] (.ref x :: st) h Q := X_n mC_90 dX7_hour_18 rfl
theorem x90_19 {a : Nat} : X 90 19 L (.ref a :: st) h Q ↔ (hS h a = (1, 7) ∧ hR h a 6 ≠ 0) ∧ X 90 22 L (.ref (hR h a 6) :: st) h Q := X_getR mC_90 dX7_hour_19 (by decide +kernel)
theorem x90_22 {a : Nat} : X 90 22 L (.ref a :: st) h Q ↔ hS h a = (1, 1) ∧ X 90 25 L (.int (hI h a 2) :: st) h Q := X_getI mC_90 dX7_hour_22 (by decide +kernel)
theorem x90_25 {v : Int32} : X 90 25 L [.int v] h Q ↔ Q (some (.int v)) h := X_ret mC_90 dX7_hour_25 (by decide +kernel)
theorem mC_91 : mC 91 = cX7_undo := rfl
theorem x91_0 {x : Nat} : X 91 0 [.ref x] st h Q ↔ X 91 1 [.ref x] (.ref x :: st) h Q := X_n mC_91 dX7_undo_0 rfl
theorem x91_1 {a : Nat} : X 91 1 L (.ref a :: st) h Q ↔ (hS h a = (1, 7) ∧ hR h a 4 ≠ 0) ∧ X 91 4 L (.ref (hR h a 4) :: st) h Q := X_getR mC_91 dX7_undo_1 (by decide +kernel)
theorem x91_4 {x : Nat} : X 91 4 [.ref x] st h Q ↔ X 91 5 [.ref x] (.ref x :: st) h Q := X_n mC_91 dX7_undo_4 rfl
theorem x91_5 {a : Nat} : X 91 5 L (.ref a :: st) h Q ↔ (hS h a = (1, 7) ∧ hR h a 6 ≠ 0) ∧ X 91 8 L (.ref (hR h a 6) :: st) h Q := X_getR mC_91 dX7_undo_5 (by decide +kernel)
theorem x91_8 {b : Nat} {a0 : Nat} : X 91 8 L [.ref a0, .ref b] h Q ↔ hS h b = (1, 4) ∧ X 64 0 [.ref b, .ref a0] [] h (fun r h' => X 91 11 L (pv r []) h' Q) := X_virt (as := [.ref a0]) (n := 1) (ml := 2) (ck := 4) mC_91 dX7_undo_8 (by unfold cOk; decide +kernel) ⟨rfl, rfl, by decide, Nat.le_of_ble_eq_true rfl⟩
theorem x91_11 {x : Int32} : X 91 11 L (.int x :: st) h Q ↔ if x = 0 then X 91 24 L st h Q else X 91 14 L st h Q := X_zeq mC_91 dX7_undo_11 (by decide)
theorem x91_14 {x : Nat} : X 91 14 [.ref x] st h Q ↔ X 91 15 [.ref x] (.ref x :: st) h Q := X_n mC_91 dX7_undo_14 rfl
theorem x91_15 {a : Nat} : X 91 15 L (.ref a :: st) h Q ↔ (hS h a = (1, 7) ∧ hR h a 4 ≠ 0) ∧ X 91 18 L (.ref (hR h a 4) :: st) h Q := X_getR mC_91 dX7_undo_15 (by decide +kernel)
theorem x91_18 {b : Nat} : X 91 18 L [.ref b] h Q ↔ hS h b = (1, 4) ∧ X 60 0 [.ref b] [] h (fun r h' => X 91 21 L (pv r []) h' Q) := X_virt (as := []) (n := 0) (ml := 1) (ck := 4) mC_91 dX7_undo_18 (by unfold cOk; decide +kernel) ⟨rfl, rfl, by decide, Nat.le_of_ble_eq_true rfl⟩
theorem x91_21 : X 91 21 L st h Q ↔ X 91 26 L st h Q := X_goto mC_91 dX7_undo_21 (by decide)
theorem x91_24 : X 91 24 L st h Q ↔ X 91 26 L (.int (-2) :: st) h Q := X_n mC_91 dX7_undo_24 rfl
theorem x91_26 {v : Int32} : X 91 26 L [.int v] h Q ↔ Q (some (.int v)) h := X_ret mC_91 dX7_undo_26 (by decide +kernel)
theorem mC_92 : mC 92 = cX7_law := rfl
theorem x92_0 {l0 : Value} {x : Int32} : X 92 0 [l0, .int x] st h Q ↔ X 92 1 [l0, .int x] (.int x :: st) h Q := X_n mC_92 dX7_law_0 rfl
theorem x92_1 : X 92 1 L st h Q ↔ X 92 2 L (.int (-1) :: st) h Q := X_n mC_92 dX7_law_1 rfl
theorem x92_2 {x y : Int32} : X 92 2 L (.int y :: .int x :: st) h Q ↔ if x = y then X 92 5 L st h Q else X 92 18 L st h Q := X_ine mC_92 dX7_law_2 (by decide)
theorem x92_5 {l1 : Value} {x : Nat} : X 92 5 [.ref x, l1] st h Q ↔ X 92 6 [.ref x, l1] (.ref x :: st) h Q := X_n mC_92 dX7_law_5 rfl
theorem x92_6 {b : Nat} : X 92 6 L [.ref b] h Q ↔ hS h b = (1, 7) ∧ X 111 0 [.ref b, .null] [] h (fun r h' => X 92 9 L (pv r []) h' Q) := X_virt (as := []) (n := 0) (ml := 2) (ck := 7) mC_92 dX7_law_6 (by unfold cOk; decide +kernel) ⟨rfl, rfl, by decide, Nat.le_of_ble_eq_true rfl⟩
theorem x92_9 {x : Int32} : X 92 9 L (.int x :: st) h Q ↔ if x = 0 then X 92 16 L st h Q else X 92 12 L st h Q := X_zeq mC_92 dX7_law_9 (by decide)
theorem x92_12 : X 92 12 L st h Q ↔ X 92 13 L (.int 1 :: st) h Q := X_n mC_92 dX7_law_12 rfl
theorem x92_13 : X 92 13 L st h Q ↔ X 92 17 L st h Q := X_goto mC_92 dX7_law_13 (by decide)
theorem x92_16 : X 92 16 L st h Q ↔ X 92 17 L (.int 0 :: st) h Q := X_n mC_92 dX7_law_16 rfl
theorem x92_17 {v : Int32} : X 92 17 L [.int v] h Q ↔ Q (some (.int v)) h := X_ret mC_92 dX7_law_17 (by decide +kernel)
theorem x92_18 {l1 : Value} {x : Nat} : X 92 18 [.ref x, l1] st h Q ↔ X 92 19 [.ref x, l1] (.ref x :: st) h Q := X_n mC_92 dX7_law_18 rfl
theorem x92_19 {a : Nat} : X 92 19 L (.ref a :: st) h Q ↔ (hS h a = (1, 7) ∧ hR h a 8 ≠ 0) ∧ X 92 22 L (.ref (hR h a 8) :: st) h Q := X_getR mC_92 dX7_law_19 (by decide +kernel)
theorem x92_22 {l0 : Value} {x : Int32} : X 92 22 [l0, .int x] st h Q ↔ X 92 23 [l0, .int x] (.int x :: st) h Q := X_n mC_92 dX7_law_22 rfl
theorem x92_23 {b : Nat} {a0 : Int32} : X 92 23 L [.int a0, .ref b] h Q ↔ hS h b = (1, 0) ∧ X 13 0 [.ref b, .int a0] [] h (fun r h' => X 92 26 L (pv r []) h' Q) := X_virt (as := [.int a0]) (n := 1) (ml := 2) (ck := 0) mC_92 dX7_law_23 (by unfold cOk; decide +kernel) ⟨rfl, rfl, by decide, Nat.le_of_ble_eq_true rfl⟩
theorem x92_26 {x : Int32} : X 92 26 L (.int x :: st) h Q ↔ if x = 0 then X 92 47 L st h Q else X 92 29 L st h Q := X_zeq mC_92 dX7_law_26 (by decide)
theorem x92_29 {l1 : Value} {x : Nat} : X 92 29 [.ref x, l1] st h Q ↔ X 92 30 [.ref x, l1] (.ref x :: st) h Q := X_n mC_92 dX7_law_29 rfl
theorem x92_30 {a : Nat} : X 92 30 L (.ref a :: st) h Q ↔ (hS h a = (1, 7) ∧ hR h a 8 ≠ 0) ∧ X 92 33 L (.ref (hR h a 8) :: st) h Q := X_getR mC_92 dX7_law_30 (by decide +kernel)
theorem x92_33 {l0 : Value} {x : Int32} : X 92 33 [l0, .int x] st h Q ↔ X 92 34 [l0, .int x] (.int x :: st) h Q := X_n mC_92 dX7_law_33 rfl
theorem x92_34 {l1 : Value} {x : Nat} : X 92 34 [.ref x, l1] st h Q ↔ X 92 35 [.ref x, l1] (.ref x :: st) h Q := X_n mC_92 dX7_law_34 rfl
theorem x92_35 {a : Nat} : X 92 35 L (.ref a :: st) h Q ↔ (hS h a = (1, 7) ∧ hR h a 6 ≠ 0) ∧ X 92 38 L (.ref (hR h a 6) :: st) h Q := X_getR mC_92 dX7_law_35 (by decide +kernel)
theorem x92_38 {a : Nat} : X 92 38 L (.ref a :: st) h Q ↔ hS h a = (1, 1) ∧ X 92 41 L (.int (hI h a 2) :: st) h Q := X_getI mC_92 dX7_law_38 (by decide +kernel)
theorem x92_41 {b : Nat} {a0 : Int32} {a1 : Int32} : X 92 41 L [.int a1, .int a0, .ref b] h Q ↔ hS h b = (1, 0) ∧ X 32 0 [.ref b, .int a0, .int a1, .null, .null, .null, .null] [] h (fun r h' => X 92 44 L (pv r []) h' Q) := X_virt (as := [.int a0, .int a1]) (n := 2) (ml := 7) (ck := 0) mC_92 dX7_law_41 (by unfold cOk; decide +kernel) ⟨rfl, rfl, by decide, Nat.le_of_ble_eq_true rfl⟩
theorem x92_44 : X 92 44 L st h Q ↔ X 92 48 L st h Q := X_goto mC_92 dX7_law_44 (by decide)
theorem x92_47 : X 92 47 L st h Q ↔ X 92 48 L (.int (-1) :: st) h Q := X_n mC_92 dX7_law_47 rfl
theorem x92_48 {v : Int32} : X 92 48 L [.int v] h Q ↔ Q (some (.int v)) h := X_ret mC_92 dX7_law_48 (by decide +kernel)
theorem mC_93 : mC 93 = cX7_moves := rfl
theorem x93_0 {l0 l2 : Value} {x : Int32} : X 93 0 [l0, .int x, l2] st h Q ↔ X 93 1 [l0, .int x, l2] (.int x :: st) h Q := X_n mC_93 dX7_moves_0 rfl
theorem x93_1 {x : Int32} : X 93 1 L (.int x :: st) h Q ↔ if x = 0 then X 93 11 L st h Q else X 93 4 L st h Q := X_zeq mC_93 dX7_moves_1 (by decide)
theorem x93_4 {l0 l2 : Value} {x : Int32} : X 93 4 [l0, .int x, l2] st h Q ↔ X 93 5 [l0, .int x, l2] (.int x :: st) h Q := X_n mC_93 dX7_moves_4 rfl
theorem x93_5 : X 93 5 L st h Q ↔ X 93 6 L (.int 1 :: st) h Q := X_n mC_93 dX7_moves_5 rfl
theorem x93_6 {x y : Int32} : X 93 6 L (.int y :: .int x :: st) h Q ↔ if x = y then X 93 11 L st h Q else X 93 9 L st h Q := X_ieq mC_93 dX7_moves_6 (by decide)
theorem x93_9 : X 93 9 L st h Q ↔ X 93 10 L (.int (-1) :: st) h Q := X_n mC_93 dX7_moves_9 rfl
theorem x93_10 {v : Int32} : X 93 10 L [.int v] h Q ↔ Q (some (.int v)) h := X_ret mC_93 dX7_moves_10 (by decide +kernel)
theorem x93_11 {l1 l2 : Value} {x : Nat} : X 93 11 [.ref x, l1, l2] st h Q ↔ X 93 12 [.ref x, l1, l2] (.ref x :: st) h Q := X_n mC_93 dX7_moves_11 rfl
theorem x93_12 {a : Nat} : X 93 12 L (.ref a :: st) h Q ↔ (hS h a = (1, 7) ∧ hR h a 3 ≠ 0) ∧ X 93 15 L (.ref (hR h a 3) :: st) h Q := X_getR mC_93 dX7_moves_12 (by decide +kernel)
theorem x93_15 {l1 l2 : Value} {x : Nat} : X 93 15 [.ref x, l1, l2] st h Q ↔ X 93 16 [.ref x, l1, l2] (.ref x :: st) h Q := X_n mC_93 dX7_moves_15 rfl
theorem x93_16 {a : Nat} : X 93 16 L (.ref a :: st) h Q ↔ (hS h a = (1, 7) ∧ hR h a 8 ≠ 0) ∧ X 93 19 L (.ref (hR h a 8) :: st) h Q := X_getR mC_93 dX7_moves_16 (by decide +kernel)
theorem x93_19 {l1 l2 : Value} {x : Nat} : X 93 19 [.ref x, l1, l2] st h Q ↔ X 93 20 [.ref x, l1, l2] (.ref x :: st) h Q := X_n mC_93 dX7_moves_19 rfl
theorem x93_20 {a : Nat} : X 93 20 L (.ref a :: st) h Q ↔ (hS h a = (1, 7) ∧ hR h a 6 ≠ 0) ∧ X 93 23 L (.ref (hR h a 6) :: st) h Q := X_getR mC_93 dX7_moves_20 (by decide +kernel)
theorem x93_23 {l1 l2 : Value} {x : Nat} : X 93 23 [.ref x, l1, l2] st h Q ↔ X 93 24 [.ref x, l1, l2] (.ref x :: st) h Q := X_n mC_93 dX7_moves_23 rfl
theorem x93_24 {a : Nat} : X 93 24 L (.ref a :: st) h Q ↔ (hS h a = (1, 7) ∧ hR h a 2 ≠ 0) ∧ X 93 27 L (.ref (hR h a 2) :: st) h Q := X_getR mC_93 dX7_moves_24 (by decide +kernel)
theorem x93_27 {b : Nat} {a0 : Nat} {a1 : Nat} {a2 : Nat} : X 93 27 L [.ref a2, .ref a1, .ref a0, .ref b] h Q ↔ hS h b = (1, 3) ∧ X 52 0 [.ref b, .ref a0, .ref a1, .ref a2, .null, .null] [] h (fun r h' => X 93 30 L (pv r []) h' Q) := X_virt (as := [.ref a0, .ref a1, .ref a2]) (n := 3) (ml := 6) (ck := 3) mC_93 dX7_moves_27 (by unfold cOk; decide +kernel) ⟨rfl, rfl, by decide, Nat.le_of_ble_eq_true rfl⟩
theorem x93_30 {l1 l2 : Value} {x : Nat} : X 93 30 [.ref x, l1, l2] st h Q ↔ X 93 31 [.ref x, l1, l2] (.ref x :: st) h Q := X_n mC_93 dX7_moves_30 rfl
theorem x93_31 {a : Nat} : X 93 31 L (.ref a :: st) h Q ↔ (hS h a = (1, 7) ∧ hR h a 3 ≠ 0) ∧ X 93 34 L (.ref (hR h a 3) :: st) h Q := X_getR mC_93 dX7_moves_31 (by decide +kernel)
theorem x93_34 {l1 l2 : Value} {x : Nat} : X 93 34 [.ref x, l1, l2] st h Q ↔ X 93 35 [.ref x, l1, l2] (.ref x :: st) h Q := X_n mC_93 dX7_moves_34 rfl
theorem x93_35 {a : Nat} : X 93 35 L (.ref a :: st) h Q ↔ (hS h a = (1, 7) ∧ hR h a 6 ≠ 0) ∧ X 93 38 L (.ref (hR h a 6) :: st) h Q := X_getR mC_93 dX7_moves_35 (by decide +kernel)
theorem x93_38 {a : Nat} : X 93 38 L (.ref a :: st) h Q ↔ (hS h a = (1, 1) ∧ hR h a 0 ≠ 0) ∧ X 93 41 L (.ref (hR h a 0) :: st) h Q := X_getR mC_93 dX7_moves_38 (by decide +kernel)
theorem x93_41 {l1 l2 : Value} {x : Nat} : X 93 41 [.ref x, l1, l2] st h Q ↔ X 93 42 [.ref x, l1, l2] (.ref x :: st) h Q := X_n mC_93 dX7_moves_41 rfl
theorem x93_42 {a : Nat} : X 93 42 L (.ref a :: st) h Q ↔ (hS h a = (1, 7) ∧ hR h a 2 ≠ 0) ∧ X 93 45 L (.ref (hR h a 2) :: st) h Q := X_getR mC_93 dX7_moves_42 (by decide +kernel)
theorem x93_45 {b : Nat} {a0 : Nat} {a1 : Nat} : X 93 45 L [.ref a1, .ref a0, .ref b] h Q ↔ hS h b = (1, 3) ∧ X 53 0 [.ref b, .ref a0, .ref a1, .null] [] h (fun r h' => X 93 48 L (pv r []) h' Q) := X_virt (as := [.ref a0, .ref a1]) (n := 2) (ml := 4) (ck := 3) mC_93 dX7_moves_45 (by unfold cOk; decide +kernel) ⟨rfl, rfl, by decide, Nat.le_of_ble_eq_true rfl⟩
theorem x93_48 {l0 l1 l2 : Value} {x : Int32} : X 93 48 [l0, l1, l2] (.int x :: st) h Q ↔ c1 l1 = true ∧ X 93 49 [l0, l1, .int x] st h Q := X_sto (kk := 2) (pc' := 49) (w := .int x) mC_93 dX7_moves_48 rfl (Nat.le_of_ble_eq_true rfl) rfl
theorem x93_49 {l0 l2 : Value} {x : Int32} : X 93 49 [l0, .int x, l2] st h Q ↔ X 93 50 [l0, .int x, l2] (.int x :: st) h Q := X_n mC_93 dX7_moves_49 rfl
theorem x93_50 {x : Int32} : X 93 50 L (.int x :: st) h Q ↔ if x = 0 then X 93 59 L st h Q else X 93 53 L st h Q := X_zeq mC_93 dX7_moves_50 (by decide)
theorem x93_53 {l0 l1 : Value} {x : Int32} : X 93 53 [l0, l1, .int x] st h Q ↔ X 93 54 [l0, l1, .int x] (.int x :: st) h Q := X_n mC_93 dX7_moves_53 rfl
theorem x93_54 : X 93 54 L st h Q ↔ X 93 56 L (.int (-4) :: st) h Q := X_n mC_93 dX7_moves_54 rfl
theorem x93_56 {x y : Int32} : X 93 56 L (.int y :: .int x :: st) h Q ↔ if x = y then X 93 59 L st h Q else X 93 61 L st h Q := X_ine mC_93 dX7_moves_56 (by decide)
theorem x93_59 {l0 l1 : Value} {x : Int32} : X 93 59 [l0, l1, .int x] st h Q ↔ X 93 60 [l0, l1, .int x] (.int x :: st) h Q := X_n mC_93 dX7_moves_59 rfl
theorem x93_60 {v : Int32} : X 93 60 L [.int v] h Q ↔ Q (some (.int v)) h := X_ret mC_93 dX7_moves_60 (by decide +kernel)
theorem x93_61 {l0 l1 : Value} {x : Int32} : X 93 61 [l0, l1, .int x] st h Q ↔ X 93 62 [l0, l1, .int x] (.int x :: st) h Q := X_n mC_93 dX7_moves_61 rfl
theorem x93_62 {x : Int32} : X 93 62 L (.int x :: st) h Q ↔ if x = 0 then X 93 65 L st h Q else X 93 70 L st h Q := X_zne mC_93 dX7_moves_62 (by decide)
theorem x93_65 : X 93 65 L st h Q ↔ X 93 67 L (.int (-4) :: st) h Q := X_n mC_93 dX7_moves_65 rfl
theorem x93_67 : X 93 67 L st h Q ↔ X 93 89 L st h Q := X_goto mC_93 dX7_moves_67 (by decide)
theorem x93_70 {l1 l2 : Value} {x : Nat} : X 93 70 [.ref x, l1, l2] st h Q ↔ X 93 71 [.ref x, l1, l2] (.ref x :: st) h Q := X_n mC_93 dX7_moves_70 rfl
theorem x93_71 {a : Nat} : X 93 71 L (.ref a :: st) h Q ↔ (hS h a = (1, 7) ∧ hR h a 3 ≠ 0) ∧ X 93 74 L (.ref (hR h a 3) :: st) h Q := X_getR mC_93 dX7_moves_71 (by decide +kernel)
theorem x93_74 {l1 l2 : Value} {x : Nat} : X 93 74 [.ref x, l1, l2] st h Q ↔ X 93 75 [.ref x, l1, l2] (.ref x :: st) h Q := X_n mC_93 dX7_moves_74 rfl
theorem x93_75 {a : Nat} : X 93 75 L (.ref a :: st) h Q ↔ (hS h a = (1, 7) ∧ hR h a 8 ≠ 0) ∧ X 93 78 L (.ref (hR h a 8) :: st) h Q := X_getR mC_93 dX7_moves_75 (by decide +kernel)
theorem x93_78 {l1 l2 : Value} {x : Nat} : X 93 78 [.ref x, l1, l2] st h Q ↔ X 93 79 [.ref x, l1, l2] (.ref x :: st) h Q := X_n mC_93 dX7_moves_78 rfl
theorem x93_79 {a : Nat} : X 93 79 L (.ref a :: st) h Q ↔ (hS h a = (1, 7) ∧ hR h a 6 ≠ 0) ∧ X 93 82 L (.ref (hR h a 6) :: st) h Q := X_getR mC_93 dX7_moves_79 (by decide +kernel)
theorem x93_82 {l1 l2 : Value} {x : Nat} : X 93 82 [.ref x, l1, l2] st h Q ↔ X 93 83 [.ref x, l1, l2] (.ref x :: st) h Q := X_n mC_93 dX7_moves_82 rfl
theorem x93_83 {a : Nat} : X 93 83 L (.ref a :: st) h Q ↔ (hS h a = (1, 7) ∧ hR h a 2 ≠ 0) ∧ X 93 86 L (.ref (hR h a 2) :: st) h Q := X_getR mC_93 dX7_moves_83 (by decide +kernel)
theorem x93_86 {b : Nat} {a0 : Nat} {a1 : Nat} {a2 : Nat} : X 93 86 L [.ref a2, .ref a1, .ref a0, .ref b] h Q ↔ hS h b = (1, 3) ∧ X 54 0 [.ref b, .ref a0, .ref a1, .ref a2, .null, .null, .null, .null] [] h (fun r h' => X 93 89 L (pv r []) h' Q) := X_virt (as := [.ref a0, .ref a1, .ref a2]) (n := 3) (ml := 8) (ck := 3) mC_93 dX7_moves_86 (by unfold cOk; decide +kernel) ⟨rfl, rfl, by decide, Nat.le_of_ble_eq_true rfl⟩
theorem x93_89 {v : Int32} : X 93 89 L [.int v] h Q ↔ Q (some (.int v)) h := X_ret mC_93 dX7_moves_89 (by decide +kernel)
theorem mC_94 : mC 94 = cX7_best := rfl
theorem x94_0 {l0 l2 l3 l4 l5 l6 : Value} {x : Int32} : X 94 0 [l0, .int x, l2, l3, l4, l5, l6] st h Q ↔ X 94 1 [l0, .int x, l2, l3, l4, l5, l6] (.int x :: st) h Q := X_n mC_94 dX7_best_0 rfl
theorem x94_1 {a0 : Int32} : X 94 1 L [.int a0] h Q ↔ X 109 0 [.int a0] [] h (fun r h' => X 94 4 L (pv r []) h' Q) := X_stat (as := [.int a0]) (n := 1) (ml := 1) (ck := 7) mC_94 dX7_best_1 (by unfold cOk; decide +kernel) ⟨rfl, rfl, by decide, Nat.le_of_ble_eq_true rfl⟩
theorem x94_4 {x : Int32} : X 94 4 L (.int x :: st) h Q ↔ if x = 0 then X 94 15 L st h Q else X 94 7 L st h Q := X_zeq mC_94 dX7_best_4 (by decide)
theorem x94_7 {l1 l2 l3 l4 l5 l6 : Value} {x : Nat} : X 94 7 [.ref x, l1, l2, l3, l4, l5, l6] st h Q ↔ X 94 8 [.ref x, l1, l2, l3, l4, l5, l6] (.ref x :: st) h Q := X_n mC_94 dX7_best_7 rfl
theorem x94_8 {l0 l1 l3 l4 l5 l6 : Value} {x : Int32} : X 94 8 [l0, l1, .int x, l3, l4, l5, l6] st h Q ↔ X 94 9 [l0, l1, .int x, l3, l4, l5, l6] (.int x :: st) h Q := X_n mC_94 dX7_best_8 rfl
theorem x94_9 {b : Nat} {a0 : Int32} : X 94 9 L [.int a0, .ref b] h Q ↔ hS h b = (1, 7) ∧ X 110 0 [.ref b, .int a0] [] h (fun r h' => X 94 12 L (pv r []) h' Q) := X_virt (as := [.int a0]) (n := 1) (ml := 2) (ck := 7) mC_94 dX7_best_9 (by unfold cOk; decide +kernel) ⟨rfl, rfl, by decide, Nat.le_of_ble_eq_true rfl⟩
theorem x94_12 {x : Int32} : X 94 12 L (.int x :: st) h Q ↔ if x = 0 then X 94 15 L st h Q else X 94 17 L st h Q := X_zne mC_94 dX7_best_12 (by decide)
theorem x94_15 : X 94 15 L st h Q ↔ X 94 16 L (.int (-1) :: st) h Q := X_n mC_94 dX7_best_15 rfl
theorem x94_16 {v : Int32} : X 94 16 L [.int v] h Q ↔ Q (some (.int v)) h := X_ret mC_94 dX7_best_16 (by decide +kernel)
theorem x94_17 : X 94 17 L st h Q ↔ X 94 19 L (.int 6 :: st) h Q := X_n mC_94 dX7_best_17 rfl
theorem x94_19 {l0 l1 l2 l3 l4 l5 l6 : Value} {x : Int32} : X 94 19 [l0, l1, l2, l3, l4, l5, l6] (.int x :: st) h Q ↔ c1 l2 = true ∧ X 94 20 [l0, l1, l2, .int x, l4, l5, l6] st h Q := X_sto (kk := 3) (pc' := 20) (w := .int x) mC_94 dX7_best_19 rfl (Nat.le_of_ble_eq_true rfl) rfl
theorem x94_20 : X 94 20 L st h Q ↔ X 94 21 L (.int 0 :: st) h Q := X_n mC_94 dX7_best_20 rfl
theorem x94_21 {l0 l1 l2 l3 l4 l5 l6 : Value} {x : Int32} : X 94 21 [l0, l1, l2, l3, l4, l5, l6] (.int x :: st) h Q ↔ c1 l3 = true ∧ X 94 23 [l0, l1, l2, l3, .int x, l5, l6] st h Q := X_sto (kk := 4) (pc' := 23) (w := .int x) mC_94 dX7_best_21 rfl (Nat.le_of_ble_eq_true rfl) rfl
theorem x94_23 {l1 l2 l3 l4 l5 l6 : Value} {x : Nat} : X 94 23 [.ref x, l1, l2, l3, l4, l5, l6] st h Q ↔ X 94 24 [.ref x, l1, l2, l3, l4, l5, l6] (.ref x :: st) h Q := X_n mC_94 dX7_best_23 rfl
theorem x94_24 {a : Nat} : X 94 24 L (.ref a :: st) h Q ↔ (hS h a = (1, 7) ∧ hR h a 7 ≠ 0) ∧ X 94 27 L (.ref (hR h a 7) :: st) h Q := X_getR mC_94 dX7_best_24 (by decide +kernel)
theorem x94_27 {l1 l2 l3 l4 l5 l6 : Value} {x : Nat} : X 94 27 [.ref x, l1, l2, l3, l4, l5, l6] st h Q ↔ X 94 28 [.ref x, l1, l2, l3, l4, l5, l6] (.ref x :: st) h Q := X_n mC_94 dX7_best_27 rfl
theorem x94_28 {a : Nat} : X 94 28 L (.ref a :: st) h Q ↔ (hS h a = (1, 7) ∧ hR h a 6 ≠ 0) ∧ X 94 31 L (.ref (hR h a 6) :: st) h Q := X_getR mC_94 dX7_best_28 (by decide +kernel)
theorem x94_31 {b : Nat} {a0 : Nat} : X 94 31 L [.ref a0, .ref b] h Q ↔ hS h b = (1, 1) ∧ X 35 0 [.ref b, .ref a0] [] h (fun r h' => X 94 34 L (pv r []) h' Q) := X_virt (as := [.ref a0]) (n := 1) (ml := 2) (ck := 1) mC_94 dX7_best_31 (by unfold cOk; decide +kernel) ⟨rfl, rfl, by decide, Nat.le_of_ble_eq_true rfl⟩
theorem x94_34 : X 94 34 L st h Q ↔ X 94 35 L (.int 0 :: st) h Q := X_n mC_94 dX7_best_34 rfl
theorem x94_35 {l0 l1 l2 l3 l4 l5 l6 : Value} {x : Int32} : X 94 35 [l0, l1, l2, l3, l4, l5, l6] (.int x :: st) h Q ↔ c1 l4 = true ∧ X 94 37 [l0, l1, l2, l3, l4, .int x, l6] st h Q := X_sto (kk := 5) (pc' := 37) (w := .int x) mC_94 dX7_best_35 rfl (Nat.le_of_ble_eq_true rfl) rfl
theorem x94_37 {l0 l1 l2 l3 l4 l6 : Value} {x : Int32} : X 94 37 [l0, l1, l2, l3, l4, .int x, l6] st h Q ↔ X 94 39 [l0, l1, l2, l3, l4, .int x, l6] (.int x :: st) h Q := X_n mC_94 dX7_best_37 rfl
theorem x94_39 {l1 l2 l3 l4 l5 l6 : Value} {x : Nat} : X 94 39 [.ref x, l1, l2, l3, l4, l5, l6] st h Q ↔ X 94 40 [.ref x, l1, l2, l3, l4, l5, l6] (.ref x :: st) h Q := X_n mC_94 dX7_best_39 rfl
theorem x94_40 {a : Nat} : X 94 40 L (.ref a :: st) h Q ↔ (hS h a = (1, 7) ∧ hR h a 2 ≠ 0) ∧ X 94 43 L (.ref (hR h a 2) :: st) h Q := X_getR mC_94 dX7_best_40 (by decide +kernel)
theorem x94_43 {b : Nat} {w0 : Value} : X 94 43 L [.ref b, w0] h Q ↔ hS h b = (1, 6) ∧ X 76 0 [.ref b] [] h (fun r h' => X 94 46 L (pv r [w0]) h' Q) := X_virt (as := []) (n := 0) (ml := 1) (ck := 6) mC_94 dX7_best_43 (by unfold cOk; decide +kernel) ⟨rfl, rfl, by decide, Nat.le_of_ble_eq_true rfl⟩
theorem x94_46 {x y : Int32} : X 94 46 L (.int y :: .int x :: st) h Q ↔ if x < y then X 94 49 L st h Q else X 94 105 L st h Q := X_ige mC_94 dX7_best_46 (by decide)
theorem x94_49 {l0 l1 l2 l4 l5 l6 : Value} {x : Int32} : X 94 49 [l0, l1, l2, .int x, l4, l5, l6] st h Q ↔ X 94 50 [l0, l1, l2, .int x, l4, l5, l6] (.int x :: st) h Q := X_n mC_94 dX7_best_49 rfl
theorem x94_50 {x : Int32} : X 94 50 L (.int x :: st) h Q ↔ if 0 < x then X 94 53 L st h Q else X 94 105 L st h Q := X_zle mC_94 dX7_best_50 (by decide)
theorem x94_53 {l1 l2 l3 l4 l5 l6 : Value} {x : Nat} : X 94 53 [.ref x, l1, l2, l3, l4, l5, l6] st h Q ↔ X 94 54 [.ref x, l1, l2, l3, l4, l5, l6] (.ref x :: st) h Q := X_n mC_94 dX7_best_53 rfl
theorem x94_54 {a : Nat} : X 94 54 L (.ref a :: st) h Q ↔ (hS h a = (1, 7) ∧ hR h a 2 ≠ 0) ∧ X 94 57 L (.ref (hR h a 2) :: st) h Q := X_getR mC_94 dX7_best_54 (by decide +kernel)
theorem x94_57 {l0 l1 l2 l3 l4 l6 : Value} {x : Int32} : X 94 57 [l0, l1, l2, l3, l4, .int x, l6] st h Q ↔ X 94 59 [l0, l1, l2, l3, l4, .int x, l6] (.int x :: st) h Q := X_n mC_94 dX7_best_57 rfl
theorem x94_59 {l1 l2 l3 l4 l5 l6 : Value} {x : Nat} : X 94 59 [.ref x, l1, l2, l3, l4, l5, l6] st h Q ↔ X 94 60 [.ref x, l1, l2, l3, l4, l5, l6] (.ref x :: st) h Q := X_n mC_94 dX7_best_59 rfl
theorem x94_60 {a : Nat} : X 94 60 L (.ref a :: st) h Q ↔ (hS h a = (1, 7) ∧ hR h a 7 ≠ 0) ∧ X 94 63 L (.ref (hR h a 7) :: st) h Q := X_getR mC_94 dX7_best_60 (by decide +kernel)
theorem x94_63 {a : Nat} : X 94 63 L (.ref a :: st) h Q ↔ (hS h a = (1, 1) ∧ hR h a 0 ≠ 0) ∧ X 94 66 L (.ref (hR h a 0) :: st) h Q := X_getR mC_94 dX7_best_63 (by decide +kernel)
theorem x94_66 {b : Nat} {a0 : Int32} {a1 : Nat} : X 94 66 L [.ref a1, .int a0, .ref b] h Q ↔ hS h b = (1, 6) ∧ X 78 0 [.ref b, .int a0, .ref a1, .null, .null, .null, .null, .null] [] h (fun r h' => X 94 69 L (pv r []) h' Q) := X_virt (as := [.int a0, .ref a1]) (n := 2) (ml := 8) (ck := 6) mC_94 dX7_best_66 (by unfold cOk; decide +kernel) ⟨rfl, rfl, by decide, Nat.le_of_ble_eq_true rfl⟩
theorem x94_69 {l1 l2 l3 l4 l5 l6 : Value} {x : Nat} : X 94 69 [.ref x, l1, l2, l3, l4, l5, l6] st h Q ↔ X 94 70 [.ref x, l1, l2, l3, l4, l5, l6] (.ref x :: st) h Q := X_n mC_94 dX7_best_69 rfl
theorem x94_70 {a : Nat} : X 94 70 L (.ref a :: st) h Q ↔ (hS h a = (1, 7) ∧ hR h a 8 ≠ 0) ∧ X 94 73 L (.ref (hR h a 8) :: st) h Q := X_getR mC_94 dX7_best_70 (by decide +kernel)
theorem x94_73 {l1 l2 l3 l4 l5 l6 : Value} {x : Nat} : X 94 73 [.ref x, l1, l2, l3, l4, l5, l6] st h Q ↔ X 94 74 [.ref x, l1, l2, l3, l4, l5, l6] (.ref x :: st) h Q := X_n mC_94 dX7_best_73 rfl
theorem x94_74 {a : Nat} : X 94 74 L (.ref a :: st) h Q ↔ (hS h a = (1, 7) ∧ hR h a 7 ≠ 0) ∧ X 94 77 L (.ref (hR h a 7) :: st) h Q := X_getR mC_94 dX7_best_74 (by decide +kernel)
theorem x94_77 {l0 l2 l3 l4 l5 l6 : Value} {x : Int32} : X 94 77 [l0, .int x, l2, l3, l4, l5, l6] st h Q ↔ X 94 78 [l0, .int x, l2, l3, l4, l5, l6] (.int x :: st) h Q := X_n mC_94 dX7_best_77 rfl
theorem x94_78 {b : Nat} {a0 : Nat} {a1 : Int32} : X 94 78 L [.int a1, .ref a0, .ref b] h Q ↔ hS h b = (1, 0) ∧ X 26 0 [.ref b, .ref a0, .int a1, .null, .null] [] h (fun r h' => X 94 81 L (pv r []) h' Q) := X_virt (as := [.ref a0, .int a1]) (n := 2) (ml := 5) (ck := 0) mC_94 dX7_best_78 (by unfold cOk; decide +kernel) ⟨rfl, rfl, by decide, Nat.le_of_ble_eq_true rfl⟩
theorem x94_81 {a0 : Int32} : X 94 81 L [.int a0] h Q ↔ X 179 0 [.int a0] [] h (fun r h' => X 94 84 L (pv r []) h' Q) := X_stat (as := [.int a0]) (n := 1) (ml := 1) (ck := 9) mC_94 dX7_best_81 (by unfold cOk; decide +kernel) ⟨rfl, rfl, by decide, Nat.le_of_ble_eq_true rfl⟩
theorem x94_84 {l0 l1 l2 l3 l4 l5 l6 : Value} {x : Int32} : X 94 84 [l0, l1, l2, l3, l4, l5, l6] (.int x :: st) h Q ↔ c1 l5 = true ∧ X 94 86 [l0, l1, l2, l3, l4, l5, .int x] st h Q := X_sto (kk := 6) (pc' := 86) (w := .int x) mC_94 dX7_best_84 rfl (Nat.le_of_ble_eq_true rfl) rfl
theorem x94_86 {l0 l1 l2 l3 l4 l5 : Value} {x : Int32} : X 94 86 [l0, l1, l2, l3, l4, l5, .int x] st h Q ↔ X 94 88 [l0, l1, l2, l3, l4, l5, .int x] (.int x :: st) h Q := X_n mC_94 dX7_best_86 rfl
theorem x94_88 {l0 l1 l2 l4 l5 l6 : Value} {x : Int32} : X 94 88 [l0, l1, l2, .int x, l4, l5, l6] st h Q ↔ X 94 89 [l0, l1, l2, .int x, l4, l5, l6] (.int x :: st) h Q := X_n mC_94 dX7_best_88 rfl
theorem x94_89 {x y : Int32} : X 94 89 L (.int y :: .int x :: st) h Q ↔ if x < y then X 94 92 L st h Q else X 94 99 L st h Q := X_ige mC_94 dX7_best_89 (by decide)
theorem x94_92 {l0 l1 l2 l3 l4 l5 : Value} {x : Int32} : X 94 92 [l0, l1, l2, l3, l4, l5, .int x] st h Q ↔ X 94 94 [l0, l1, l2, l3, l4, l5, .int x] (.int x :: st) h Q := X_n mC_94 dX7_best_92 rfl
theorem x94_94 {l0 l1 l2 l3 l4 l5 l6 : Value} {x : Int32} : X 94 94 [l0, l1, l2, l3, l4, l5, l6] (.int x :: st) h Q ↔ c1 l2 = true ∧ X 94 95 [l0, l1, l2, .int x, l4, l5, l6] st h Q := X_sto (kk := 3) (pc' := 95) (w := .int x) mC_94 dX7_best_94 rfl (Nat.le_of_ble_eq_true rfl) rfl
theorem x94_95 {l0 l1 l2 l3 l4 l6 : Value} {x : Int32} : X 94 95 [l0, l1, l2, l3, l4, .int x, l6] st h Q ↔ X 94 97 [l0, l1, l2, l3, l4, .int x, l6] (.int x :: st) h Q := X_n mC_94 dX7_best_95 rfl
theorem x94_97 {l0 l1 l2 l3 l4 l5 l6 : Value} {x : Int32} : X 94 97 [l0, l1, l2, l3, l4, l5, l6] (.int x :: st) h Q ↔ c1 l3 = true ∧ X 94 99 [l0, l1, l2, l3, .int x, l5, l6] st h Q := X_sto (kk := 4) (pc' := 99) (w := .int x) mC_94 dX7_best_97 rfl (Nat.le_of_ble_eq_true rfl) rfl
theorem x94_99 {l0 l1 l2 l3 l4 l6 : Value} {x : Int32} : X 94 99 [l0, l1, l2, l3, l4, .int x, l6] st h Q ↔ c1 l4 = true ∧ X 94 102 [l0, l1, l2, l3, l4, .int (x + 1), l6] st h Q := X_inc (pc' := 102) (x := x) mC_94 dX7_best_99 rfl rfl rfl
theorem x94_102 : X 94 102 L st h Q ↔ X 94 37 L st h Q := X_goto mC_94 dX7_best_102 (by decide)
theorem x94_105 {l0 l1 l3 l4 l5 l6 : Value} {x : Int32} : X 94 105 [l0, l1, .int x, l3, l4, l5, l6] st h Q ↔ X 94 106 [l0, l1, .int x, l3, l4, l5, l6] (.int x :: st) h Q := X_n mC_94 dX7_best_105 rfl
theorem x94_106 : X 94 106 L st h Q ↔ X 94 107 L (.int (-1) :: st) h Q := X_n mC_94 dX7_best_106 rfl
theorem x94_107 {x y : Int32} : X 94 107 L (.int y :: .int x :: st) h Q ↔ if x = y then X 94 110 L st h Q else X 94 114 L st h Q := X_ine mC_94 dX7_best_107 (by decide)
theorem x94_110 {l0 l1 l2 l4 l5 l6 : Value} {x : Int32} : X 94 110 [l0, l1, l2, .int x, l4, l5, l6] st h Q ↔ X 94 111 [l0, l1, l2, .int x, l4, l5, l6] (.int x :: st) h Q := X_n mC_94 dX7_best_110 rfl
theorem x94_111 : X 94 111 L st h Q ↔ X 94 121 L st h Q := X_goto mC_94 dX7_best_111 (by decide)
theorem x94_114 {l1 l2 l3 l4 l5 l6 : Value} {x : Nat} : X 94 114 [.ref x, l1, l2, l3, l4, l5, l6] st h Q ↔ X 94 115 [.ref x, l1, l2, l3, l4, l5, l6] (.ref x :: st) h Q := X_n mC_94 dX7_best_114 rfl
theorem x94_115 {l0 l1 l2 l3 l5 l6 : Value} {x : Int32} : X 94 115 [l0, l1, l2, l3, .int x, l5, l6] st h Q ↔ X 94 117 [l0, l1, l2, l3, .int x, l5, l6] (.int x :: st) h Q := X_n mC_94 dX7_best_115 rfl
theorem x94_117 {l0 l1 l3 l4 l5 l6 : Value} {x : Int32} : X 94 117 [l0, l1, .int x, l3, l4, l5, l6] st h Q ↔ X 94 118 [l0, l1, .int x, l3, l4, l5, l6] (.int x :: st) h Q := X_n mC_94 dX7_best_117 rfl
theorem x94_118 {b : Nat} {a0 : Int32} {a1 : Int32} : X 94 118 L [.int a1, .int a0, .ref b] h Q ↔ hS h b = (1, 7) ∧ X 112 0 [.ref b, .int a0, .int a1] [] h (fun r h' => X 94 121 L (pv r []) h' Q) := X_virt (as := [.int a0, .int a1]) (n := 2) (ml := 3) (ck := 7) mC_94 dX7_best_118 (by unfold cOk; decide +kernel) ⟨rfl, rfl, by decide, Nat.le_of_ble_eq_true rfl⟩
theorem x94_121 {v : Int32} : X 94 121 L [.int v] h Q ↔ Q (some (.int v)) h := X_ret mC_94 dX7_best_121 (by decide +kernel)
theorem mC_95 : mC 95 = cX7_wallTo := rfl
theorem x95_0 {l0 l2 l3 l4 l5 : Value} {x : Int32} : X 95 0 [l0, .int x, l2, l3, l4, l5] st h Q ↔ X 95 1 [l0, .int x, l2, l3, l4, l5] (.int x :: st) h Q := X_n mC_95 dX7_wallTo_0 rfl
theorem x95_1 {x : Int32} : X 95 1 L (.int x :: st) h Q ↔ if x = 0 then X 95 11 L st h Q else X 95 4 L st h Q := X_zeq mC_95 dX7_wallTo_1 (by decide)
theorem x95_4 {l0 l2 l3 l4 l5 : Value} {x : Int32} : X 95 4 [l0, .int x, l2, l3, l4, l5] st h Q ↔ X 95 5 [l0, .int x, l2, l3, l4, l5] (.int x :: st) h Q := X_n mC_95 dX7_wallTo_4 rfl
theorem x95_5 : X 95 5 L st h Q ↔ X 95 6 L (.int 1 :: st) h Q := X_n mC_95 dX7_wallTo_5 rfl
theorem x95_6 {x y : Int32} : X 95 6 L (.int y :: .int x :: st) h Q ↔ if x = y then X 95 11 L st h Q else X 95 9 L st h Q := X_ieq mC_95 dX7_wallTo_6 (by decide)
theorem x95_9 : X 95 9 L st h Q ↔ X 95 10 L (.int (-1) :: st) h Q := X_n mC_95 dX7_wallTo_9 rfl
theorem x95_10 {v : Int32} : X 95 10 L [.int v] h Q ↔ Q (some (.int v)) h := X_ret mC_95 dX7_wallTo_10 (by decide +kernel)
theorem x95_11 : X 95 11 L st h Q ↔ X 95 13 L (.int (-4) :: st) h Q := X_n mC_95 dX7_wallTo_11 rfl
theorem x95_13 {l0 l1 l2 l3 l4 l5 : Value} {x : Int32} : X 95 13 [l0, l1, l2, l3, l4, l5] (.int x :: st) h Q ↔ c1 l1 = true ∧ X 95 14 [l0, l1, .int x, l3, l4, l5] st h Q := X_sto (kk := 2) (pc' := 14) (w := .int x) mC_95 dX7_wallTo_13 rfl (Nat.le_of_ble_eq_true rfl) rfl
theorem x95_14 : X 95 14 L st h Q ↔ X 95 16 L (.int (-4) :: st) h Q := X_n mC_95 dX7_wallTo_14 rfl
theorem x95_16 {l0 l1 l2 l3 l4 l5 : Value} {x : Int32} : X 95 16 [l0, l1, l2, l3, l4, l5] (.int x :: st) h Q ↔ c1 l2 = true ∧ X 95 17 [l0, l1, l2, .int x, l4, l5] st h Q := X_sto (kk := 3) (pc' := 17) (w := .int x) mC_95 dX7_wallTo_16 rfl (Nat.le_of_ble_eq_true rfl) rfl
theorem x95_17 : X 95 17 L st h Q ↔ X 95 18 L (.int 0 :: st) h Q := X_n mC_95 dX7_wallTo_17 rfl
theorem x95_18 {l0 l1 l2 l3 l4 l5 : Value} {x : Int32} : X 95 18 [l0, l1, l2, l3, l4, l5] (.int x :: st) h Q ↔ c1 l3 = true ∧ X 95 20 [l0, l1, l2, l3, .int x, l5] st h Q := X_sto (kk := 4) (pc' := 20) (w := .int x) mC_95 dX7_wallTo_18 rfl (Nat.le_of_ble_eq_true rfl) rfl
theorem x95_20 {l0 l1 l2 l3 l5 : Value} {x : Int32} : X 95 20 [l0, l1, l2, l3, .int x, l5] st h Q ↔ X 95 22 [l0, l1, l2, l3, .int x, l5] (.int x :: st) h Q := X_n mC_95 dX7_wallTo_20 rfl
theorem x95_22 {l1 l2 l3 l4 l5 : Value} {x : Nat} : X 95 22 [.ref x, l1, l2, l3, l4, l5] st h Q ↔ X 95 23 [.ref x, l1, l2, l3, l4, l5] (.ref x :: st) h Q := X_n mC_95 dX7_wallTo_22 rfl
theorem x95_23 {a : Nat} : X 95 23 L (.ref a :: st) h Q ↔ (hS h a = (1, 7) ∧ hR h a 8 ≠ 0) ∧ X 95 26 L (.ref (hR h a 8) :: st) h Q := X_getR mC_95 dX7_wallTo_23 (by decide +kernel)
theorem x95_26 {b : Nat} {w0 : Value} : X 95 26 L [.ref b, w0] h Q ↔ hS h b = (1, 0) ∧ X 11 0 [.ref b] [] h (fun r h' => X 95 29 L (pv r [w0]) h' Q) := X_virt (as := []) (n := 0) (ml := 1) (ck := 0) mC_95 dX7_wallTo_26 (by unfold cOk; decide +kernel) ⟨rfl, rfl, by decide, Nat.le_of_ble_eq_true rfl⟩
theorem x95_29 : X 95 29 L st h Q ↔ X 95 30 L (.int 1 :: st) h Q := X_n mC_95 dX7_wallTo_29 rfl
theorem x95_30 {x y : Int32} : X 95 30 L (.int y :: .int x :: st) h Q ↔ X 95 31 L (.int (x - y) :: st) h Q := X_n mC_95 dX7_wallTo_30 rfl
theorem x95_31 {x y : Int32} : X 95 31 L (.int y :: .int x :: st) h Q ↔ if x < y then X 95 34 L st h Q else X 95 103 L st h Q := X_ige mC_95 dX7_wallTo_31 (by decide)
theorem x95_34 {l1 l2 l3 l4 l5 : Value} {x : Nat} : X 95 34 [.ref x, l1, l2, l3, l4, l5] st h Q ↔ X 95 35 [.ref x, l1, l2, l3, l4, l5] (.ref x :: st) h Q := X_n mC_95 dX7_wallTo_34 rfl
theorem x95_35 {a : Nat} : X 95 35 L (.ref a :: st) h Q ↔ (hS h a = (1, 7) ∧ hR h a 6 ≠ 0) ∧ X 95 38 L (.ref (hR h a 6) :: st) h Q := X_getR mC_95 dX7_wallTo_35 (by decide +kernel)
theorem x95_38 {l0 l1 l2 l3 l5 : Value} {x : Int32} : X 95 38 [l0, l1, l2, l3, .int x, l5] st h Q ↔ X 95 40 [l0, l1, l2, l3, .int x, l5] (.int x :: st) h Q := X_n mC_95 dX7_wallTo_38 rfl
theorem x95_40 {b : Nat} {a0 : Int32} : X 95 40 L [.int a0, .ref b] h Q ↔ hS h b = (1, 1) ∧ X 42 0 [.ref b, .int a0] [] h (fun r h' => X 95 43 L (pv r []) h' Q) := X_virt (as := [.int a0]) (n := 1) (ml := 2) (ck := 1) mC_95 dX7_wallTo_40 (by unfold cOk; decide +kernel) ⟨rfl, rfl, by decide, Nat.le_of_ble_eq_true rfl⟩
theorem x95_43 {x : Int32} : X 95 43 L (.int x :: st) h Q ↔ if x = 0 then X 95 46 L st h Q else X 95 97 L st h Q := X_zne mC_95 dX7_wallTo_43 (by decide)
theorem x95_46 {l1 l2 l3 l4 l5 : Value} {x : Nat} : X 95 46 [.ref x, l1, l2, l3, l4, l5] st h Q ↔ X 95 47 [.ref x, l1, l2, l3, l4, l5] (.ref x :: st) h Q := X_n mC_95 dX7_wallTo_46 rfl
theorem x95_47 {a : Nat} : X 95 47 L (.ref a :: st) h Q ↔ (hS h a = (1, 7) ∧ hR h a 7 ≠ 0) ∧ X 95 50 L (.ref (hR h a 7) :: st) h Q := X_getR mC_95 dX7_wallTo_47 (by decide +kernel)
theorem x95_50 {l1 l2 l3 l4 l5 : Value} {x : Nat} : X 95 50 [.ref x, l1, l2, l3, l4, l5] st h Q ↔ X 95 51 [.ref x, l1, l2, l3, l4, l5] (.ref x :: st) h Q := X_n mC_95 dX7_wallTo_50 rfl
theorem x95_51 {a : Nat} : X 95 51 L (.ref a :: st) h Q ↔ (hS h a = (1, 7) ∧ hR h a 6 ≠ 0) ∧ X 95 54 L (.ref (hR h a 6) :: st) h Q := X_getR mC_95 dX7_wallTo_51 (by decide +kernel)
theorem x95_54 {b : Nat} {a0 : Nat} : X 95 54 L [.ref a0, .ref b] h Q ↔ hS h b = (1, 1) ∧ X 35 0 [.ref b, .ref a0] [] h (fun r h' => X 95 57 L (pv r []) h' Q) := X_virt (as := [.ref a0]) (n := 1) (ml := 2) (ck := 1) mC_95 dX7_wallTo_54 (by unfold cOk; decide +kernel) ⟨rfl, rfl, by decide, Nat.le_of_ble_eq_true rfl⟩
theorem x95_57 {l1 l2 l3 l4 l5 : Value} {x : Nat} : X 95 57 [.ref x, l1, l2, l3, l4, l5] st h Q ↔ X 95 58 [.ref x, l1, l2, l3, l4, l5] (.ref x :: st) h Q := X_n mC_95 dX7_wallTo_57 rfl
theorem x95_58 {a : Nat} : X 95 58 L (.ref a :: st) h Q ↔ (hS h a = (1, 7) ∧ hR h a 7 ≠ 0) ∧ X 95 61 L (.ref (hR h a 7) :: st) h Q := X_getR mC_95 dX7_wallTo_58 (by decide +kernel)
theorem x95_61 {l0 l1 l2 l3 l5 : Value} {x : Int32} : X 95 61 [l0, l1, l2, l3, .int x, l5] st h Q ↔ X 95 63 [l0, l1, l2, l3, .int x, l5] (.int x :: st) h Q := X_n mC_95 dX7_wallTo_61 rfl
theorem x95_63 {b : Nat} {a0 : Int32} : X 95 63 L [.int a0, .ref b] h Q ↔ hS h b = (1, 1) ∧ X 43 0 [.ref b, .int a0] [] h (fun r h' => X 95 66 L (pv r []) h' Q) := X_virt (as := [.int a0]) (n := 1) (ml := 2) (ck := 1) mC_95 dX7_wallTo_63 (by unfold cOk; decide +kernel) ⟨rfl, rfl, by decide, Nat.le_of_ble_eq_true rfl⟩
theorem x95_66 {l1 l2 l3 l4 l5 : Value} {x : Nat} : X 95 66 [.ref x, l1, l2, l3, l4, l5] st h Q ↔ X 95 67 [.ref x, l1, l2, l3, l4, l5] (.ref x :: st) h Q := X_n mC_95 dX7_wallTo_66 rfl
theorem x95_67 {a : Nat} : X 95 67 L (.ref a :: st) h Q ↔ (hS h a = (1, 7) ∧ hR h a 8 ≠ 0) ∧ X 95 70 L (.ref (hR h a 8) :: st) h Q := X_getR mC_95 dX7_wallTo_67 (by decide +kernel)
theorem x95_70 {l1 l2 l3 l4 l5 : Value} {x : Nat} : X 95 70 [.ref x, l1, l2, l3, l4, l5] st h Q ↔ X 95 71 [.ref x, l1, l2, l3, l4, l5] (.ref x :: st) h Q := X_n mC_95 dX7_wallTo_70 rfl
theorem x95_71 {a : Nat} : X 95 71 L (.ref a :: st) h Q ↔ (hS h a = (1, 7) ∧ hR h a 7 ≠ 0) ∧ X 95 74 L (.ref (hR h a 7) :: st) h Q := X_getR mC_95 dX7_wallTo_71 (by decide +kernel)
theorem x95_74 {b : Nat} {a0 : Nat} : X 95 74 L [.ref a0, .ref b] h Q ↔ hS h b = (1, 0) ∧ X 27 0 [.ref b, .ref a0, .null, .null] [] h (fun r h' => X 95 77 L (pv r []) h' Q) := X_virt (as := [.ref a0]) (n := 1) (ml := 4) (ck := 0) mC_95 dX7_wallTo_74 (by unfold cOk; decide +kernel) ⟨rfl, rfl, by decide, Nat.le_of_ble_eq_true rfl⟩
theorem x95_77 {l0 l1 l2 l3 l4 l5 : Value} {x : Int32} : X 95 77 [l0, l1, l2, l3, l4, l5] (.int x :: st) h Q ↔ c1 l4 = true ∧ X 95 79 [l0, l1, l2, l3, l4, .int x] st h Q := X_sto (kk := 5) (pc' := 79) (w := .int x) mC_95 dX7_wallTo_77 rfl (Nat.le_of_ble_eq_true rfl) rfl
theorem x95_79 {l0 l1 l3 l4 l5 : Value} {x : Int32} : X 95 79 [l0, l1, .int x, l3, l4, l5] st h Q ↔ X 95 80 [l0, l1, .int x, l3, l4, l5] (.int x :: st) h Q := X_n mC_95 dX7_wallTo_79 rfl
theorem x95_80 : X 95 80 L st h Q ↔ X 95 82 L (.int (-4) :: st) h Q := X_n mC_95 dX7_wallTo_80 rfl
theorem x95_82 {x y : Int32} : X 95 82 L (.int y :: .int x :: st) h Q ↔ if x = y then X 95 91 L st h Q else X 95 85 L st h Q := X_ieq mC_95 dX7_wallTo_82 (by decide)
theorem x95_85 {l0 l1 l2 l3 l4 : Value} {x : Int32} : X 95 85 [l0, l1, l2, l3, l4, .int x] st h Q ↔ X 95 87 [l0, l1, l2, l3, l4, .int x] (.int x :: st) h Q := X_n mC_95 dX7_wallTo_85 rfl
theorem x95_87 {l0 l1 l2 l4 l5 : Value} {x : Int32} : X 95 87 [l0, l1, l2, .int x, l4, l5] st h Q ↔ X 95 88 [l0, l1, l2, .int x, l4, l5] (.int x :: st) h Q := X_n mC_95 dX7_wallTo_87 rfl
theorem x95_88 {x y : Int32} : X 95 88 L (.int y :: .int x :: st) h Q ↔ if x < y then X 95 91 L st h Q else X 95 97 L st h Q := X_ige mC_95 dX7_wallTo_88 (by decide)
theorem x95_91 {l0 l1 l2 l3 l4 : Value} {x : Int32} : X 95 91 [l0, l1, l2, l3, l4, .int x] st h Q ↔ X 95 93 [l0, l1, l2, l3, l4, .int x] (.int x :: st) h Q := X_n mC_95 dX7_wallTo_91 rfl
theorem x95_93 {l0 l1 l2 l3 l4 l5 : Value} {x : Int32} : X 95 93 [l0, l1, l2, l3, l4, l5] (.int x :: st) h Q ↔ c1 l2 = true ∧ X 95 94 [l0, l1, l2, .int x, l4, l5] st h Q := X_sto (kk := 3) (pc' := 94) (w := .int x) mC_95 dX7_wallTo_93 rfl (Nat.le_of_ble_eq_true rfl) rfl
theorem x95_94 {l0 l1 l2 l3 l5 : Value} {x : Int32} : X 95 94 [l0, l1, l2, l3, .int x, l5] st h Q ↔ X 95 96 [l0, l1, l2, l3, .int x, l5] (.int x :: st) h Q := X_n mC_95 dX7_wallTo_94 rfl
theorem x95_96 {l0 l1 l2 l3 l4 l5 : Value} {x : Int32} : X 95 96 [l0, l1, l2, l3, l4, l5] (.int x :: st) h Q ↔ c1 l1 = true ∧ X 95 97 [l0, l1, .int x, l3, l4, l5] st h Q := X_sto (kk := 2) (pc' := 97) (w := .int x) mC_95 dX7_wallTo_96 rfl (Nat.le_of_ble_eq_true rfl) rfl
theorem x95_97 {l0 l1 l2 l3 l5 : Value} {x : Int32} : X 95 97 [l0, l1, l2, l3, .int x, l5] st h Q ↔ c1 l3 = true ∧ X 95 100 [l0, l1, l2, l3, .int (x + 1), l5] st h Q := X_inc (pc' := 100) (x := x) mC_95 dX7_wallTo_97 rfl rfl rfl
theorem x95_100 : X 95 100 L st h Q ↔ X 95 20 L st h Q := X_goto mC_95 dX7_wallTo_100 (by decide)
theorem x95_103 {l0 l2 l3 l4 l5 : Value} {x : Int32} : X 95 103 [l0, .int x, l2, l3, l4, l5] st h Q ↔ X 95 104 [l0, .int x, l2, l3, l4, l5] (.int x :: st) h Q := X_n mC_95 dX7_wallTo_103 rfl
theorem x95_104 {x : Int32} : X 95 104 L (.int x :: st) h Q ↔ if x = 0 then X 95 107 L st h Q else X 95 111 L st h Q := X_zne mC_95 dX7_wallTo_104 (by decide)
theorem x95_107 {l0 l1 l3 l4 l5 : Value} {x : Int32} : X 95 107 [l0, l1, .int x, l3, l4, l5] st h Q ↔ X 95 108 [l0, l1, .int x, l3, l4, l5] (.int x :: st) h Q := X_n mC_95 dX7_wallTo_107 rfl
theorem x95_108 : X 95 108 L st h Q ↔ X 95 112 L st h Q := X_goto mC_95 dX7_wallTo_108 (by decide)
theorem x95_111 {l0 l1 l2 l4 l5 : Value} {x : Int32} : X 95 111 [l0, l1, l2, .int x, l4, l5] st h Q ↔ X 95 112 [l0, l1, l2, .int x, l4, l5] (.int x :: st) h Q := X_n mC_95 dX7_wallTo_111 rfl
theorem x95_112 {v : Int32} : X 95 112 L [.int v] h Q ↔ Q (some (.int v)) h := X_ret mC_95 dX7_wallTo_112 (by decide +kernel)
theorem mC_96 : mC 96 = cX7_within := rfl
theorem x96_0 {l0 l2 l3 l4 l5 : Value} {x : Int32} : X 96 0 [l0, .int x, l2, l3, l4, l5] st h Q ↔ X 96 1 [l0, .int x, l2, l3, l4, l5] (.int x :: st) h Q := X_n mC_96 dX7_within_0 rfl
theorem x96_1 {x : Int32} : X 96 1 L (.int x :: st) h Q ↔ if x < 0 then X 96 18 L st h Q else X 96 4 L st h Q := X_zlt mC_96 dX7_within_1 (by decide)
theorem x96_4 {l0 l2 l3 l4 l5 : Value} {x : Int32} : X 96 4 [l0, .int x, l2, l3, l4, l5] st h Q ↔ X 96 5 [l0, .int x, l2, l3, l4, l5] (.int x :: st) h Q := X_n mC_96 dX7_within_4 rfl
theorem x96_5 : X 96 5 L st h Q ↔ X 96 7 L (.int 40 :: st) h Q := X_n mC_96 dX7_within_5 rfl
theorem x96_7 {x y : Int32} : X 96 7 L (.int y :: .int x :: st) h Q ↔ if y < x then X 96 18 L st h Q else X 96 10 L st h Q := X_igt mC_96 dX7_within_7 (by decide)
theorem x96_10 {l1 l2 l3 l4 l5 : Value} {x : Nat} : X 96 10 [.ref x, l1, l2, l3, l4, l5] st h Q ↔ X 96 11 [.ref x, l1, l2, l3, l4, l5] (.ref x :: st) h Q := X_n mC_96 dX7_within_10 rfl
theorem x96_11 {l0 l1 l3 l4 l5 : Value} {x : Int32} : X 96 11 [l0, l1, .int x, l3, l4, l5] st h Q ↔ X 96 12 [l0, l1, .int x, l3, l4, l5] (.int x :: st) h Q := X_n mC_96 dX7_within_11 rfl
theorem x96_12 {b : Nat} {a0 : Int32} : X 96 12 L [.int a0, .ref b] h Q ↔ hS h b = (1, 7) ∧ X 110 0 [.ref b, .int a0] [] h (fun r h' => X 96 15 L (pv r []) h' Q) := X_virt (as := [.int a0]) (n := 1) (ml := 2) (ck := 7) mC_96 dX7_within_12 (by unfold cOk; decide +kernel) ⟨rfl, rfl, by decide, Nat.le_of_ble_eq_true rfl⟩
theorem x96_15 {x : Int32} : X 96 15 L (.int x :: st) h Q ↔ if x = 0 then X 96 18 L st h Q else X 96 20 L st h Q := X_zne mC_96 dX7_within_15 (by decide)
theorem x96_18 : X 96 18 L st h Q ↔ X 96 19 L (.int (-1) :: st) h Q := X_n mC_96 dX7_within_18 rfl
theorem x96_19 {v : Int32} : X 96 19 L [.int v] h Q ↔ Q (some (.int v)) h := X_ret mC_96 dX7_within_19 (by decide +kernel)
theorem x96_20 : X 96 20 L st h Q ↔ X 96 21 L (.int 0 :: st) h Q := X_n mC_96 dX7_within_20 rfl
theorem x96_21 {l0 l1 l2 l3 l4 l5 : Value} {x : Int32} : X 96 21 [l0, l1, l2, l3, l4, l5] (.int x :: st) h Q ↔ c1 l2 = true ∧ X 96 22 [l0, l1, l2, .int x, l4, l5] st h Q := X_sto (kk := 3) (pc' := 22) (w := .int x) mC_96 dX7_within_21 rfl (Nat.le_of_ble_eq_true rfl) rfl
theorem x96_22 : X 96 22 L st h Q ↔ X 96 23 L (.int 0 :: st) h Q := X_n mC_96 dX7_within_22 rfl
theorem x96_23 {l0 l1 l2 l3 l4 l5 : Value} {x : Int32} : X 96 23 [l0, l1, l2, l3, l4, l5] (.int x :: st) h Q ↔ c1 l3 = true ∧ X 96 25 [l0, l1, l2, l3, .int x, l5] st h Q := X_sto (kk := 4) (pc' := 25) (w := .int x) mC_96 dX7_within_23 rfl (Nat.le_of_ble_eq_true rfl) rfl
theorem x96_25 {l1 l2 l3 l4 l5 : Value} {x : Nat} : X 96 25 [.ref x, l1, l2, l3, l4, l5] st h Q ↔ X 96 26 [.ref x, l1, l2, l3, l4, l5] (.ref x :: st) h Q := X_n mC_96 dX7_within_25 rfl
theorem x96_26 {a : Nat} : X 96 26 L (.ref a :: st) h Q ↔ (hS h a = (1, 7) ∧ hR h a 7 ≠ 0) ∧ X 96 29 L (.ref (hR h a 7) :: st) h Q := X_getR mC_96 dX7_within_26 (by decide +kernel)
theorem x96_29 {l1 l2 l3 l4 l5 : Value} {x : Nat} : X 96 29 [.ref x, l1, l2, l3, l4, l5] st h Q ↔ X 96 30 [.ref x, l1, l2, l3, l4, l5] (.ref x :: st) h Q := X_n mC_96 dX7_within_29 rfl
theorem x96_30 {a : Nat} : X 96 30 L (.ref a :: st) h Q ↔ (hS h a = (1, 7) ∧ hR h a 6 ≠ 0) ∧ X 96 33 L (.ref (hR h a 6) :: st) h Q := X_getR mC_96 dX7_within_30 (by decide +kernel)
theorem x96_33 {b : Nat} {a0 : Nat} : X 96 33 L [.ref a0, .ref b] h Q ↔ hS h b = (1, 1) ∧ X 35 0 [.ref b, .ref a0] [] h (fun r h' => X 96 36 L (pv r []) h' Q) := X_virt (as := [.ref a0]) (n := 1) (ml := 2) (ck := 1) mC_96 dX7_within_33 (by unfold cOk; decide +kernel) ⟨rfl, rfl, by decide, Nat.le_of_ble_eq_true rfl⟩
theorem x96_36 : X 96 36 L st h Q ↔ X 96 37 L (.int 0 :: st) h Q := X_n mC_96 dX7_within_36 rfl
theorem x96_37 {l0 l1 l2 l3 l4 l5 : Value} {x : Int32} : X 96 37 [l0, l1, l2, l3, l4, l5] (.int x :: st) h Q ↔ c1 l4 = true ∧ X 96 39 [l0, l1, l2, l3, l4, .int x] st h Q := X_sto (kk := 5) (pc' := 39) (w := .int x) mC_96 dX7_within_37 rfl (Nat.le_of_ble_eq_true rfl) rfl
theorem x96_39 {l0 l1 l2 l3 l4 : Value} {x : Int32} : X 96 39 [l0, l1, l2, l3, l4, .int x] st h Q ↔ X 96 41 [l0, l1, l2, l3, l4, .int x] (.int x :: st) h Q := X_n mC_96 dX7_within_39 rfl
theorem x96_41 {l1 l2 l3 l4 l5 : Value} {x : Nat} : X 96 41 [.ref x, l1, l2, l3, l4, l5] st h Q ↔ X 96 42 [.ref x, l1, l2, l3, l4, l5] (.ref x :: st) h Q := X_n mC_96 dX7_within_41 rfl
theorem x96_42 {a : Nat} : X 96 42 L (.ref a :: st) h Q ↔ (hS h a = (1, 7) ∧ hR h a 2 ≠ 0) ∧ X 96 45 L (.ref (hR h a 2) :: st) h Q := X_getR mC_96 dX7_within_42 (by decide +kernel)
theorem x96_45 {b : Nat} {w0 : Value} : X 96 45 L [.ref b, w0] h Q ↔ hS h b = (1, 6) ∧ X 76 0 [.ref b] [] h (fun r h' => X 96 48 L (pv r [w0]) h' Q) := X_virt (as := []) (n := 0) (ml := 1) (ck := 6) mC_96 dX7_within_45 (by unfold cOk; decide +kernel) ⟨rfl, rfl, by decide, Nat.le_of_ble_eq_true rfl⟩
theorem x96_48 {x y : Int32} : X 96 48 L (.int y :: .int x :: st) h Q ↔ if x < y then X 96 51 L st h Q else X 96 106 L st h Q := X_ige mC_96 dX7_within_48 (by decide)
theorem x96_51 {l1 l2 l3 l4 l5 : Value} {x : Nat} : X 96 51 [.ref x, l1, l2, l3, l4, l5] st h Q ↔ X 96 52 [.ref x, l1, l2, l3, l4, l5] (.ref x :: st) h Q := X_n mC_96 dX7_within_51 rfl
theorem x96_52 {a : Nat} : X 96 52 L (.ref a :: st) h Q ↔ (hS h a = (1, 7) ∧ hR h a 2 ≠ 0) ∧ X 96 55 L (.ref (hR h a 2) :: st) h Q := X_getR mC_96 dX7_within_52 (by decide +kernel)
theorem x96_55 {l0 l1 l2 l3 l4 : Value} {x : Int32} : X 96 55 [l0, l1, l2, l3, l4, .int x] st h Q ↔ X 96 57 [l0, l1, l2, l3, l4, .int x] (.int x :: st) h Q := X_n mC_96 dX7_within_55 rfl
theorem x96_57 {l1 l2 l3 l4 l5 : Value} {x : Nat} : X 96 57 [.ref x, l1, l2, l3, l4, l5] st h Q ↔ X 96 58 [.ref x, l1, l2, l3, l4, l5] (.ref x :: st) h Q := X_n mC_96 dX7_within_57 rfl
theorem x96_58 {a : Nat} : X 96 58 L (.ref a :: st) h Q ↔ (hS h a = (1, 7) ∧ hR h a 7 ≠ 0) ∧ X 96 61 L (.ref (hR h a 7) :: st) h Q := X_getR mC_96 dX7_within_58 (by decide +kernel)
theorem x96_61 {a : Nat} : X 96 61 L (.ref a :: st) h Q ↔ (hS h a = (1, 1) ∧ hR h a 0 ≠ 0) ∧ X 96 64 L (.ref (hR h a 0) :: st) h Q := X_getR mC_96 dX7_within_61 (by decide +kernel)
theorem x96_64 {b : Nat} {a0 : Int32} {a1 : Nat} : X 96 64 L [.ref a1, .int a0, .ref b] h Q ↔ hS h b = (1, 6) ∧ X 78 0 [.ref b, .int a0, .ref a1, .null, .null, .null, .null, .null] [] h (fun r h' => X 96 67 L (pv r []) h' Q) := X_virt (as := [.int a0, .ref a1]) (n := 2) (ml := 8) (ck := 6) mC_96 dX7_within_64 (by unfold cOk; decide +kernel) ⟨rfl, rfl, by decide, Nat.le_of_ble_eq_true rfl⟩
theorem x96_67 {l1 l2 l3 l4 l5 : Value} {x : Nat} : X 96 67 [.ref x, l1, l2, l3, l4, l5] st h Q ↔ X 96 68 [.ref x, l1, l2, l3, l4, l5] (.ref x :: st) h Q := X_n mC_96 dX7_within_67 rfl
theorem x96_68 {a : Nat} : X 96 68 L (.ref a :: st) h Q ↔ (hS h a = (1, 7) ∧ hR h a 8 ≠ 0) ∧ X 96 71 L (.ref (hR h a 8) :: st) h Q := X_getR mC_96 dX7_within_68 (by decide +kernel)
theorem x96_71 {l1 l2 l3 l4 l5 : Value} {x : Nat} : X 96 71 [.ref x, l1, l2, l3, l4, l5] st h Q ↔ X 96 72 [.ref x, l1, l2, l3, l4, l5] (.ref x :: st) h Q := X_n mC_96 dX7_within_71 rfl
theorem x96_72 {a : Nat} : X 96 72 L (.ref a :: st) h Q ↔ (hS h a = (1, 7) ∧ hR h a 7 ≠ 0) ∧ X 96 75 L (.ref (hR h a 7) :: st) h Q := X_getR mC_96 dX7_within_72 (by decide +kernel)
theorem x96_75 {l1 l2 l3 l4 l5 : Value} {x : Nat} : X 96 75 [.ref x, l1, l2, l3, l4, l5] st h Q ↔ X 96 76 [.ref x, l1, l2, l3, l4, l5] (.ref x :: st) h Q := X_n mC_96 dX7_within_75 rfl
theorem x96_76 {a : Nat} : X 96 76 L (.ref a :: st) h Q ↔ (hS h a = (1, 7) ∧ hR h a 6 ≠ 0) ∧ X 96 79 L (.ref (hR h a 6) :: st) h Q := X_getR mC_96 dX7_within_76 (by decide +kernel)
theorem x96_79 {a : Nat} : X 96 79 L (.ref a :: st) h Q ↔ hS h a = (1, 1) ∧ X 96 82 L (.int (hI h a 2) :: st) h Q := X_getI mC_96 dX7_within_79 (by decide +kernel)
theorem x96_82 {l0 l2 l3 l4 l5 : Value} {x : Int32} : X 96 82 [l0, .int x, l2, l3, l4, l5] st h Q ↔ X 96 83 [l0, .int x, l2, l3, l4, l5] (.int x :: st) h Q := X_n mC_96 dX7_within_82 rfl
theorem x96_83 {b : Nat} {a0 : Nat} {a1 : Int32} {a2 : Int32} : X 96 83 L [.int a2, .int a1, .ref a0, .ref b] h Q ↔ hS h b = (1, 0) ∧ X 31 0 [.ref b, .ref a0, .int a1, .int a2, .null, .null] [] h (fun r h' => X 96 86 L (pv r []) h' Q) := X_virt (as := [.ref a0, .int a1, .int a2]) (n := 3) (ml := 6) (ck := 0) mC_96 dX7_within_83 (by unfold cOk; decide +kernel) ⟨rfl, rfl, by decide, Nat.le_of_ble_eq_true rfl⟩
theorem x96_86 {x : Int32} : X 96 86 L (.int x :: st) h Q ↔ if x = 0 then X 96 100 L st h Q else X 96 89 L st h Q := X_zeq mC_96 dX7_within_86 (by decide)
theorem x96_89 {l0 l1 l2 l4 l5 : Value} {x : Int32} : X 96 89 [l0, l1, l2, .int x, l4, l5] st h Q ↔ X 96 90 [l0, l1, l2, .int x, l4, l5] (.int x :: st) h Q := X_n mC_96 dX7_within_89 rfl
theorem x96_90 {x : Int32} : X 96 90 L (.int x :: st) h Q ↔ if x = 0 then X 96 93 L st h Q else X 96 97 L st h Q := X_zne mC_96 dX7_within_90 (by decide)
theorem x96_93 {l0 l1 l2 l3 l4 : Value} {x : Int32} : X 96 93 [l0, l1, l2, l3, l4, .int x] st h Q ↔ X 96 95 [l0, l1, l2, l3, l4, .int x] (.int x :: st) h Q := X_n mC_96 dX7_within_93 rfl
theorem x96_95 {l0 l1 l2 l3 l4 l5 : Value} {x : Int32} : X 96 95 [l0, l1, l2, l3, l4, l5] (.int x :: st) h Q ↔ c1 l3 = true ∧ X 96 97 [l0, l1, l2, l3, .int x, l5] st h Q := X_sto (kk := 4) (pc' := 97) (w := .int x) mC_96 dX7_within_95 rfl (Nat.le_of_ble_eq_true rfl) rfl
theorem x96_97 {l0 l1 l2 l4 l5 : Value} {x : Int32} : X 96 97 [l0, l1, l2, .int x, l4, l5] st h Q ↔ c1 l2 = true ∧ X 96 100 [l0, l1, l2, .int (x + 1), l4, l5] st h Q := X_inc (pc' := 100) (x := x) mC_96 dX7_within_97 rfl rfl rfl
theorem x96_100 {l0 l1 l2 l3 l4 : Value} {x : Int32} : X 96 100 [l0, l1, l2, l3, l4, .int x] st h Q ↔ c1 l4 = true ∧ X 96 103 [l0, l1, l2, l3, l4, .int (x + 1)] st h Q := X_inc (pc' := 103) (x := x) mC_96 dX7_within_100 rfl rfl rfl
theorem x96_103 : X 96 103 L st h Q ↔ X 96 39 L st h Q := X_goto mC_96 dX7_within_103 (by decide)
theorem x96_106 {l0 l1 l2 l4 l5 : Value} {x : Int32} : X 96 106 [l0, l1, l2, .int x, l4, l5] st h Q ↔ X 96 107 [l0, l1, l2, .int x, l4, l5] (.int x :: st) h Q := X_n mC_96 dX7_within_106 rfl
theorem x96_107 {x : Int32} : X 96 107 L (.int x :: st) h Q ↔ if x = 0 then X 96 110 L st h Q else X 96 113 L st h Q := X_zne mC_96 dX7_within_107 (by decide)
theorem x96_110 : X 96 110 L st h Q ↔ X 96 112 L (.int (-4) :: st) h Q := X_n mC_96 dX7_within_110 rfl
theorem x96_112 {v : Int32} : X 96 112 L [.int v] h Q ↔ Q (some (.int v)) h := X_ret mC_96 dX7_within_112 (by decide +kernel)
theorem x96_113 {l0 l1 l3 l4 l5 : Value} {x : Int32} : X 96 113 [l0, l1, .int x, l3, l4, l5] st h Q ↔ X 96 114 [l0, l1, .int x, l3, l4, l5] (.int x :: st) h Q := X_n mC_96 dX7_within_113 rfl
theorem x96_114 : X 96 114 L st h Q ↔ X 96 115 L (.int (-1) :: st) h Q := X_n mC_96 dX7_within_114 rfl
theorem x96_115 {x y : Int32} : X 96 115 L (.int y :: .int x :: st) h Q ↔ if x = y then X 96 118 L st h Q else X 96 122 L st h Q := X_ine mC_96 dX7_within_115 (by decide)
theorem x96_118 {l0 l1 l2 l4 l5 : Value} {x : Int32} : X 96 118 [l0, l1, l2, .int x, l4, l5] st h Q ↔ X 96 119 [l0, l1, l2, .int x, l4, l5] (.int x :: st) h Q := X_n mC_96 dX7_within_118 rfl
theorem x96_119 : X 96 119 L st h Q ↔ X 96 129 L st h Q := X_goto mC_96 dX7_within_119 (by decide)
theorem x96_122 {l1 l2 l3 l4 l5 : Value} {x : Nat} : X 96 122 [.ref x, l1, l2, l3, l4, l5] st h Q ↔ X 96 123 [.ref x, l1, l2, l3, l4, l5] (.ref x :: st) h Q := X_n mC_96 dX7_within_122 rfl
theorem x96_123 {l0 l1 l2 l3 l5 : Value} {x : Int32} : X 96 123 [l0, l1, l2, l3, .int x, l5] st h Q ↔ X 96 125 [l0, l1, l2, l3, .int x, l5] (.int x :: st) h Q := X_n mC_96 dX7_within_123 rfl
theorem x96_125 {l0 l1 l3 l4 l5 : Value} {x : Int32} : X 96 125 [l0, l1, .int x, l3, l4, l5] st h Q ↔ X 96 126 [l0, l1, .int x, l3, l4, l5] (.int x :: st) h Q := X_n mC_96 dX7_within_125 rfl
theorem x96_126 {b : Nat} {a0 : Int32} {a1 : Int32} : X 96 126 L [.int a1, .int a0, .ref b] h Q ↔ hS h b = (1, 7) ∧ X 112 0 [.ref b, .int a0, .int a1] [] h (fun r h' => X 96 129 L (pv r []) h' Q) := X_virt (as := [.int a0, .int a1]) (n := 2) (ml := 3) (ck := 7) mC_96 dX7_within_126 (by unfold cOk; decide +kernel) ⟨rfl, rfl, by decide, Nat.le_of_ble_eq_true rfl⟩
theorem x96_129 {v : Int32} : X 96 129 L [.int v] h Q ↔ Q (some (.int v)) h := X_ret mC_96 dX7_within_129 (by decide +kernel)
theorem mC_97 : mC 97 = cX7_night := rfl
theorem x97_0 {l0 : Value} {x : Int32} : X 97 0 [l0, .int x] st h Q ↔ X 97 1 [l0, .int x] (.int x :: st) h Q := X_n mC_97 dX7_night_0 rfl
theorem x97_1 : X 97 1 L st h Q ↔ X 97 2 L (.int (-1) :: st) h Q := X_n mC_97 dX7_night_1 rfl
theorem x97_2 {x y : Int32} : X 97 2 L (.int y :: .int x :: st) h Q ↔ if x = y then X 97 5 L st h Q else X 97 17 L st h Q := X_ine mC_97 dX7_night_2 (by decide)
theorem x97_5 {l1 : Value} {x : Nat} : X 97 5 [.ref x, l1] st h Q ↔ X 97 6 [.ref x, l1] (.ref x :: st) h Q := X_n mC_97 dX7_night_5 rfl
theorem x97_6 {a : Nat} : X 97 6 L (.ref a :: st) h Q ↔ (hS h a = (1, 7) ∧ hR h a 8 ≠ 0) ∧ X 97 9 L (.ref (hR h a 8) :: st) h Q := X_getR mC_97 dX7_night_6 (by decide +kernel)
theorem x97_9 {l1 : Value} {x : Nat} : X 97 9 [.ref x, l1] st h Q ↔ X 97 10 [.ref x, l1] (.ref x :: st) h Q := X_n mC_97 dX7_night_9 rfl
theorem x97_10 {a : Nat} : X 97 10 L (.ref a :: st) h Q ↔ (hS h a = (1, 7) ∧ hR h a 6 ≠ 0) ∧ X 97 13 L (.ref (hR h a 6) :: st) h Q := X_getR mC_97 dX7_night_10 (by decide +kernel)
theorem x97_13 {b : Nat} {a0 : Nat} : X 97 13 L [.ref a0, .ref b] h Q ↔ hS h b = (1, 0) ∧ X 27 0 [.ref b, .ref a0, .null, .null] [] h (fun r h' => X 97 16 L (pv r []) h' Q) := X_virt (as := [.ref a0]) (n := 1) (ml := 4) (ck := 0) mC_97 dX7_night_13 (by unfold cOk; decide +kernel) ⟨rfl, rfl, by decide, Nat.le_of_ble_eq_true rfl⟩
theorem x97_16 {v : Int32} : X 97 16 L [.int v] h Q ↔ Q (some (.int v)) h := X_ret mC_97 dX7_night_16 (by decide +kernel)
theorem x97_17 {l0 : Value} {x : Int32} : X 97 17 [l0, .int x] st h Q ↔ X 97 18 [l0, .int x] (.int x :: st) h Q := X_n mC_97 dX7_night_17 rfl
theorem x97_18 {a0 : Int32} : X 97 18 L [.int a0] h Q ↔ X 109 0 [.int a0] [] h (fun r h' => X 97 21 L (pv r []) h' Q) := X_stat (as := [.int a0]) (n := 1) (ml := 1) (ck := 7) mC_97 dX7_night_18 (by unfold cOk; decide +kernel) ⟨rfl, rfl, by decide, Nat.le_of_ble_eq_true rfl⟩
theorem x97_21 {x : Int32} : X 97 21 L (.int x :: st) h Q ↔ if x = 0 then X 97 39 L st h Q else X 97 24 L st h Q := X_zeq mC_97 dX7_night_21 (by decide)
theorem x97_24 {l1 : Value} {x : Nat} : X 97 24 [.ref x, l1] st h Q ↔ X 97 25 [.ref x, l1] (.ref x :: st) h Q := X_n mC_97 dX7_night_24 rfl
theorem x97_25 {a : Nat} : X 97 25 L (.ref a :: st) h Q ↔ (hS h a = (1, 7) ∧ hR h a 8 ≠ 0) ∧ X 97 28 L (.ref (hR h a 8) :: st) h Q := X_getR mC_97 dX7_night_25 (by decide +kernel)
theorem x97_28 {l1 : Value} {x : Nat} : X 97 28 [.ref x, l1] st h Q ↔ X 97 29 [.ref x, l1] (.ref x :: st) h Q := X_n mC_97 dX7_night_28 rfl
theorem x97_29 {a : Nat} : X 97 29 L (.ref a :: st) h Q ↔ (hS h a = (1, 7) ∧ hR h a 6 ≠ 0) ∧ X 97 32 L (.ref (hR h a 6) :: st) h Q := X_getR mC_97 dX7_night_29 (by decide +kernel)
theorem x97_32 {l0 : Value} {x : Int32} : X 97 32 [l0, .int x] st h Q ↔ X 97 33 [l0, .int x] (.int x :: st) h Q := X_n mC_97 dX7_night_32 rfl
theorem x97_33 {b : Nat} {a0 : Nat} {a1 : Int32} : X 97 33 L [.int a1, .ref a0, .ref b] h Q ↔ hS h b = (1, 0) ∧ X 26 0 [.ref b, .ref a0, .int a1, .null, .null] [] h (fun r h' => X 97 36 L (pv r []) h' Q) := X_virt (as := [.ref a0, .int a1]) (n := 2) (ml := 5) (ck := 0) mC_97 dX7_night_33 (by unfold cOk; decide +kernel) ⟨rfl, rfl, by decide, Nat.le_of_ble_eq_true rfl⟩
theorem x97_36 : X 97 36 L st h Q ↔ X 97 40 L st h Q := X_goto mC_97 dX7_night_36 (by decide)
theorem x97_39 : X 97 39 L st h Q ↔ X 97 40 L (.int (-1) :: st) h Q := X_n mC_97 dX7_night_39 rfl
theorem x97_40 {v : Int32} : X 97 40 L [.int v] h Q ↔ Q (some (.int v)) h := X_ret mC_97 dX7_night_40 (by decide +kernel)
theorem mC_98 : mC 98 = cX7_heard := rfl
theorem x98_0 {l1 l2 l3 : Value} {x : Nat} : X 98 0 [.ref x, l1, l2, l3] st h Q ↔ X 98 1 [.ref x, l1, l2, l3] (.ref x :: st) h Q := X_n mC_98 dX7_heard_0 rfl
theorem x98_1 {a : Nat} : X 98 1 L (.ref a :: st) h Q ↔ (hS h a = (1, 7) ∧ hR h a 8 ≠ 0) ∧ X 98 4 L (.ref (hR h a 8) :: st) h Q := X_getR mC_98 dX7_heard_1 (by decide +kernel)
theorem x98_4 {l0 l2 l3 : Value} {x : Int32} : X 98 4 [l0, .int x, l2, l3] st h Q ↔ X 98 5 [l0, .int x, l2, l3] (.int x :: st) h Q := X_n mC_98 dX7_heard_4 rfl
theorem x98_5 {b : Nat} {a0 : Int32} : X 98 5 L [.int a0, .ref b] h Q ↔ hS h b = (1, 0) ∧ X 13 0 [.ref b, .int a0] [] h (fun r h' => X 98 8 L (pv r []) h' Q) := X_virt (as := [.int a0]) (n := 1) (ml := 2) (ck := 0) mC_98 dX7_heard_5 (by unfold cOk; decide +kernel) ⟨rfl, rfl, by decide, Nat.le_of_ble_eq_true rfl⟩
theorem x98_8 {x : Int32} : X 98 8 L (.int x :: st) h Q ↔ if x = 0 then X 98 27 L st h Q else X 98 11 L st h Q := X_zeq mC_98 dX7_heard_8 (by decide)
theorem x98_11 {l0 l1 l3 : Value} {x : Int32} : X 98 11 [l0, l1, .int x, l3] st h Q ↔ X 98 12 [l0, l1, .int x, l3] (.int x :: st) h Q := X_n mC_98 dX7_heard_11 rfl
theorem x98_12 {a0 : Int32} : X 98 12 L [.int a0] h Q ↔ X 109 0 [.int a0] [] h (fun r h' => X 98 15 L (pv r []) h' Q) := X_stat (as := [.int a0]) (n := 1) (ml := 1) (ck := 7) mC_98 dX7_heard_12 (by unfold cOk; decide +kernel) ⟨rfl, rfl, by decide, Nat.le_of_ble_eq_true rfl⟩
theorem x98_15 {x : Int32} : X 98 15 L (.int x :: st) h Q ↔ if x = 0 then X 98 27 L st h Q else X 98 18 L st h Q := X_zeq mC_98 dX7_heard_15 (by decide)
theorem x98_18 {l0 l1 l2 : Value} {x : Int32} : X 98 18 [l0, l1, l2, .int x] st h Q ↔ X 98 19 [l0, l1, l2, .int x] (.int x :: st) h Q := X_n mC_98 dX7_heard_18 rfl
theorem x98_19 {x : Int32} : X 98 19 L (.int x :: st) h Q ↔ if x = 0 then X 98 29 L st h Q else X 98 22 L st h Q := X_zeq mC_98 dX7_heard_19 (by decide)
theorem x98_22 {l0 l1 l2 : Value} {x : Int32} : X 98 22 [l0, l1, l2, .int x] st h Q ↔ X 98 23 [l0, l1, l2, .int x] (.int x :: st) h Q := X_n mC_98 dX7_heard_22 rfl
theorem x98_23 : X 98 23 L st h Q ↔ X 98 24 L (.int 1 :: st) h Q := X_n mC_98 dX7_heard_23 rfl
theorem x98_24 {x y : Int32} : X 98 24 L (.int y :: .int x :: st) h Q ↔ if x = y then X 98 29 L st h Q else X 98 27 L st h Q := X_ieq mC_98 dX7_heard_24 (by decide)
theorem x98_27 : X 98 27 L st h Q ↔ X 98 28 L (.int (-1) :: st) h Q := X_n mC_98 dX7_heard_27 rfl
theorem x98_28 {v : Int32} : X 98 28 L [.int v] h Q ↔ Q (some (.int v)) h := X_ret mC_98 dX7_heard_28 (by decide +kernel)
theorem x98_29 {l1 l2 l3 : Value} {x : Nat} : X 98 29 [.ref x, l1, l2, l3] st h Q ↔ X 98 30 [.ref x, l1, l2, l3] (.ref x :: st) h Q := X_n mC_98 dX7_heard_29 rfl
theorem x98_30 {a : Nat} : X 98 30 L (.ref a :: st) h Q ↔ (hS h a = (1, 7) ∧ hR h a 1 ≠ 0) ∧ X 98 33 L (.ref (hR h a 1) :: st) h Q := X_getR mC_98 dX7_heard_30 (by decide +kernel)
theorem x98_33 {l0 l2 l3 : Value} {x : Int32} : X 98 33 [l0, .int x, l2, l3] st h Q ↔ X 98 34 [l0, .int x, l2, l3] (.int x :: st) h Q := X_n mC_98 dX7_heard_33 rfl
theorem x98_34 {l0 l1 l3 : Value} {x : Int32} : X 98 34 [l0, l1, .int x, l3] st h Q ↔ X 98 35 [l0, l1, .int x, l3] (.int x :: st) h Q := X_n mC_98 dX7_heard_34 rfl
theorem x98_35 {l0 l1 l2 : Value} {x : Int32} : X 98 35 [l0, l1, l2, .int x] st h Q ↔ X 98 36 [l0, l1, l2, .int x] (.int x :: st) h Q := X_n mC_98 dX7_heard_35 rfl
theorem x98_36 : X 98 36 L st h Q ↔ X 98 37 L (.int 1 :: st) h Q := X_n mC_98 dX7_heard_36 rfl
theorem x98_37 {x y : Int32} : X 98 37 L (.int y :: .int x :: st) h Q ↔ if x = y then X 98 40 L st h Q else X 98 44 L st h Q := X_ine mC_98 dX7_heard_37 (by decide)
theorem x98_40 : X 98 40 L st h Q ↔ X 98 41 L (.int 1 :: st) h Q := X_n mC_98 dX7_heard_40 rfl
theorem x98_41 : X 98 41 L st h Q ↔ X 98 45 L st h Q := X_goto mC_98 dX7_heard_41 (by decide)
theorem x98_44 : X 98 44 L st h Q ↔ X 98 45 L (.int 0 :: st) h Q := X_n mC_98 dX7_heard_44 rfl
theorem x98_45 {b : Nat} {a0 : Int32} {a1 : Int32} {a2 : Int32} : X 98 45 L [.int a2, .int a1, .int a0, .ref b] h Q ↔ hS h b = (1, 2) ∧ X 49 0 [.ref b, .int a0, .int a1, .int a2] [] h (fun r h' => X 98 48 L (pv r []) h' Q) := X_virt (as := [.int a0, .int a1, .int a2]) (n := 3) (ml := 4) (ck := 2) mC_98 dX7_heard_45 (by unfold cOk; decide +kernel) ⟨rfl, rfl, by decide, Nat.le_of_ble_eq_true rfl⟩
theorem x98_48 {x : Int32} : X 98 48 L (.int x :: st) h Q ↔ if x = 0 then X 98 61 L st h Q else X 98 51 L st h Q := X_zeq mC_98 dX7_heard_48 (by decide)
theorem x98_51 {l1 l2 l3 : Value} {x : Nat} : X 98 51 [.ref x, l1, l2, l3] st h Q ↔ X 98 52 [.ref x, l1, l2, l3] (.ref x :: st) h Q := X_n mC_98 dX7_heard_51 rfl
theorem x98_52 {a : Nat} : X 98 52 L (.ref a :: st) h Q ↔ (hS h a = (1, 7) ∧ hR h a 1 ≠ 0) ∧ X 98 55 L (.ref (hR h a 1) :: st) h Q := X_getR mC_98 dX7_heard_52 (by decide +kernel)
theorem x98_55 {b : Nat} : X 98 55 L [.ref b] h Q ↔ hS h b = (1, 2) ∧ X 47 0 [.ref b] [] h (fun r h' => X 98 58 L (pv r []) h' Q) := X_virt (as := []) (n := 0) (ml := 1) (ck := 2) mC_98 dX7_heard_55 (by unfold cOk; decide +kernel) ⟨rfl, rfl, by decide, Nat.le_of_ble_eq_true rfl⟩
theorem x98_58 : X 98 58 L st h Q ↔ X 98 63 L st h Q := X_goto mC_98 dX7_heard_58 (by decide)
theorem x98_61 : X 98 61 L st h Q ↔ X 98 63 L (.int (-3) :: st) h Q := X_n mC_98 dX7_heard_61 rfl
theorem x98_63 {v : Int32} : X 98 63 L [.int v] h Q ↔ Q (some (.int v)) h := X_ret mC_98 dX7_heard_63 (by decide +kernel)
theorem mC_99 : mC 99 = cX7_forget := rfl
theorem x99_0 {l1 : Value} {x : Nat} : X 99 0 [.ref x, l1] st h Q ↔ X 99 1 [.ref x, l1] (.ref x :: st) h Q := X_n mC_99 dX7_forget_0 rfl
theorem x99_1 {a : Nat} : X 99 1 L (.ref a :: st) h Q ↔ (hS h a = (1, 7) ∧ hR h a 1 ≠ 0) ∧ X 99 4 L (.ref (hR h a 1) :: st) h Q := X_getR mC_99 dX7_forget_1 (by decide +kernel)
theorem x99_4 {b : Nat} : X 99 4 L [.ref b] h Q ↔ hS h b = (1, 2) ∧ X 47 0 [.ref b] [] h (fun r h' => X 99 7 L (pv r []) h' Q) := X_virt (as := []) (n := 0) (ml := 1) (ck := 2) mC_99 dX7_forget_4 (by unfold cOk; decide +kernel) ⟨rfl, rfl, by decide, Nat.le_of_ble_eq_true rfl⟩
theorem x99_7 {l0 l1 : Value} {x : Int32} : X 99 7 [l0, l1] (.int x :: st) h Q ↔ c1 l0 = true ∧ X 99 8 [l0, .int x] st h Q := X_sto (kk := 1) (pc' := 8) (w := .int x) mC_99 dX7_forget_7 rfl (Nat.le_of_ble_eq_true rfl) rfl
theorem x99_8 {l1 : Value} {x : Nat} : X 99 8 [.ref x, l1] st h Q ↔ X 99 9 [.ref x, l1] (.ref x :: st) h Q := X_n mC_99 dX7_forget_8 rfl
theorem x99_9 {a : Nat} : X 99 9 L (.ref a :: st) h Q ↔ (hS h a = (1, 7) ∧ hR h a 1 ≠ 0) ∧ X 99 12 L (.ref (hR h a 1) :: st) h Q := X_getR mC_99 dX7_forget_9 (by decide +kernel)
theorem x99_12 {b : Nat} : X 99 12 L [.ref b] h Q ↔ hS h b = (1, 2) ∧ X 48 0 [.ref b] [] h (fun r h' => X 99 15 L (pv r []) h' Q) := X_virt (as := []) (n := 0) (ml := 1) (ck := 2) mC_99 dX7_forget_12 (by unfold cOk; decide +kernel) ⟨rfl, rfl, by decide, Nat.le_of_ble_eq_true rfl⟩
theorem x99_15 {l0 : Value} {x : Int32} : X 99 15 [l0, .int x] st h Q ↔ X 99 16 [l0, .int x] (.int x :: st) h Q := X_n mC_99 dX7_forget_15 rfl
theorem x99_16 {v : Int32} : X 99 16 L [.int v] h Q ↔ Q (some (.int v)) h := X_ret mC_99 dX7_forget_16 (by decide +kernel)
theorem mC_100 : mC 100 = cX7_feigned := rfl
theorem x100_0 : X 100 0 L st h Q ↔ X 100 1 L (.int 0 :: st) h Q := X_n mC_100 dX7_feigned_0 rfl
theorem x100_1 {l0 l1 l2 : Value} {x : Int32} : X 100 1 [l0, l1, l2] (.int x :: st) h Q ↔ c1 l0 = true ∧ X 100 2 [l0, .int x, l2] st h Q := X_sto (kk := 1) (pc' := 2) (w := .int x) mC_100 dX7_feigned_1 rfl (Nat.le_of_ble_eq_true rfl) rfl
theorem x100_2 : X 100 2 L st h Q ↔ X 100 3 L (.int 0 :: st) h Q := X_n mC_100 dX7_feigned_2 rfl
theorem x100_3 {l0 l1 l2 : Value} {x : Int32} : X 100 3 [l0, l1, l2] (.int x :: st) h Q ↔ c1 l1 = true ∧ X 100 4 [l0, l1, .int x] st h Q := X_sto (kk := 2) (pc' := 4) (w := .int x) mC_100 dX7_feigned_3 rfl (Nat.le_of_ble_eq_true rfl) rfl
theorem x100_4 {l0 l1 : Value} {x : Int32} : X 100 4 [l0, l1, .int x] st h Q ↔ X 100 5 [l0, l1, .int x] (.int x :: st) h Q := X_n mC_100 dX7_feigned_4 rfl
theorem x100_5 {l1 l2 : Value} {x : Nat} : X 100 5 [.ref x, l1, l2] st h Q ↔ X 100 6 [.ref x, l1, l2] (.ref x :: st) h Q := X_n mC_100 dX7_feigned_5 rfl
theorem x100_6 {a : Nat} : X 100 6 L (.ref a :: st) h Q ↔ (hS h a = (1, 7) ∧ hR h a 8 ≠ 0) ∧ X 100 9 L (.ref (hR h a 8) :: st) h Q := X_getR mC_100 dX7_feigned_6 (by decide +kernel)
theorem x100_9 {b : Nat} {w0 : Value} : X 100 9 L [.ref b, w0] h Q ↔ hS h b = (1, 0) ∧ X 10 0 [.ref b] [] h (fun r h' => X 100 12 L (pv r [w0]) h' Q) := X_virt (as := []) (n := 0) (ml := 1) (ck := 0) mC_100 dX7_feigned_9 (by unfold cOk; decide +kernel) ⟨rfl, rfl, by decide, Nat.le_of_ble_eq_true rfl⟩
theorem x100_12 {x y : Int32} : X 100 12 L (.int y :: .int x :: st) h Q ↔ if x < y then X 100 15 L st h Q else X 100 64 L st h Q := X_ige mC_100 dX7_feigned_12 (by decide)
theorem x100_15 {l1 l2 : Value} {x : Nat} : X 100 15 [.ref x, l1, l2] st h Q ↔ X 100 16 [.ref x, l1, l2] (.ref x :: st) h Q := X_n mC_100 dX7_feigned_15 rfl
theorem x100_16 {a : Nat} : X 100 16 L (.ref a :: st) h Q ↔ (hS h a = (1, 7) ∧ hR h a 10 ≠ 0) ∧ X 100 19 L (.ref (hR h a 10) :: st) h Q := X_getR mC_100 dX7_feigned_16 (by decide +kernel)
theorem x100_19 {l1 l2 : Value} {x : Nat} : X 100 19 [.ref x, l1, l2] st h Q ↔ X 100 20 [.ref x, l1, l2] (.ref x :: st) h Q := X_n mC_100 dX7_feigned_19 rfl
theorem x100_20 {a : Nat} : X 100 20 L (.ref a :: st) h Q ↔ (hS h a = (1, 7) ∧ hR h a 8 ≠ 0) ∧ X 100 23 L (.ref (hR h a 8) :: st) h Q := X_getR mC_100 dX7_feigned_20 (by decide +kernel)
theorem x100_23 {b : Nat} {a0 : Nat} : X 100 23 L [.ref a0, .ref b] h Q ↔ hS h b = (1, 0) ∧ X 2 0 [.ref b, .ref a0] [] h (fun r h' => X 100 26 L (pv r []) h' Q) := X_virt (as := [.ref a0]) (n := 1) (ml := 2) (ck := 0) mC_100 dX7_feigned_23 (by unfold cOk; decide +kernel) ⟨rfl, rfl, by decide, Nat.le_of_ble_eq_true rfl⟩
theorem x100_26 {l1 l2 : Value} {x : Nat} : X 100 26 [.ref x, l1, l2] st h Q ↔ X 100 27 [.ref x, l1, l2] (.ref x :: st) h Q := X_n mC_100 dX7_feigned_26 rfl
theorem x100_27 {a : Nat} : X 100 27 L (.ref a :: st) h Q ↔ (hS h a = (1, 7) ∧ hR h a 10 ≠ 0) ∧ X 100 30 L (.ref (hR h a 10) :: st) h Q := X_getR mC_100 dX7_feigned_27 (by decide +kernel)
theorem x100_30 {l0 l1 : Value} {x : Int32} : X 100 30 [l0, l1, .int x] st h Q ↔ X 100 31 [l0, l1, .int x] (.int x :: st) h Q := X_n mC_100 dX7_feigned_30 rfl
theorem x100_31 {b : Nat} {a0 : Int32} : X 100 31 L [.int a0, .ref b] h Q ↔ hS h b = (1, 0) ∧ X 9 0 [.ref b, .int a0, .null] [] h (fun r h' => X 100 34 L (pv r []) h' Q) := X_virt (as := [.int a0]) (n := 1) (ml := 3) (ck := 0) mC_100 dX7_feigned_31 (by unfold cOk; decide +kernel) ⟨rfl, rfl, by decide, Nat.le_of_ble_eq_true rfl⟩
theorem x100_34 {l1 l2 : Value} {x : Nat} : X 100 34 [.ref x, l1, l2] st h Q ↔ X 100 35 [.ref x, l1, l2] (.ref x :: st) h Q := X_n mC_100 dX7_feigned_34 rfl
theorem x100_35 {a : Nat} : X 100 35 L (.ref a :: st) h Q ↔ (hS h a = (1, 7) ∧ hR h a 1 ≠ 0) ∧ X 100 38 L (.ref (hR h a 1) :: st) h Q := X_getR mC_100 dX7_feigned_35 (by decide +kernel)
theorem x100_38 {l1 l2 : Value} {x : Nat} : X 100 38 [.ref x, l1, l2] st h Q ↔ X 100 39 [.ref x, l1, l2] (.ref x :: st) h Q := X_n mC_100 dX7_feigned_38 rfl
theorem x100_39 {a : Nat} : X 100 39 L (.ref a :: st) h Q ↔ (hS h a = (1, 7) ∧ hR h a 10 ≠ 0) ∧ X 100 42 L (.ref (hR h a 10) :: st) h Q := X_getR mC_100 dX7_feigned_39 (by decide +kernel)
theorem x100_42 {l1 l2 : Value} {x : Nat} : X 100 42 [.ref x, l1, l2] st h Q ↔ X 100 43 [.ref x, l1, l2] (.ref x :: st) h Q := X_n mC_100 dX7_feigned_42 rfl
theorem x100_43 {a : Nat} : X 100 43 L (.ref a :: st) h Q ↔ (hS h a = (1, 7) ∧ hR h a 6 ≠ 0) ∧ X 100 46 L (.ref (hR h a 6) :: st) h Q := X_getR mC_100 dX7_feigned_43 (by decide +kernel)
theorem x100_46 {b : Nat} {a0 : Nat} {a1 : Nat} : X 100 46 L [.ref a1, .ref a0, .ref b] h Q ↔ hS h b = (1, 2) ∧ X 50 0 [.ref b, .ref a0, .ref a1, .null] [] h (fun r h' => X 100 49 L (pv r []) h' Q) := X_virt (as := [.ref a0, .ref a1]) (n := 2) (ml := 4) (ck := 2) mC_100 dX7_feigned_46 (by unfold cOk; decide +kernel) ⟨rfl, rfl, by decide, Nat.le_of_ble_eq_true rfl⟩
theorem x100_49 {x : Int32} : X 100 49 L (.int x :: st) h Q ↔ if x = 0 then X 100 58 L st h Q else X 100 52 L st h Q := X_zeq mC_100 dX7_feigned_49 (by decide)
theorem x100_52 {l0 l2 : Value} {x : Int32} : X 100 52 [l0, .int x, l2] st h Q ↔ X 100 53 [l0, .int x, l2] (.int x :: st) h Q := X_n mC_100 dX7_feigned_52 rfl
theorem x100_53 : X 100 53 L st h Q ↔ X 100 54 L (.int 1 :: st) h Q := X_n mC_100 dX7_feigned_53 rfl
theorem x100_54 {l0 l1 : Value} {x : Int32} : X 100 54 [l0, l1, .int x] st h Q ↔ X 100 55 [l0, l1, .int x] (.int x :: st) h Q := X_n mC_100 dX7_feigned_54 rfl
theorem x100_55 {x y : Int32} : X 100 55 L (.int y :: .int x :: st) h Q ↔ X 100 56 L (.int (x <<< (y &&& 31)) :: st) h Q := X_n mC_100 dX7_feigned_55 rfl
theorem x100_56 {x y : Int32} : X 100 56 L (.int y :: .int x :: st) h Q ↔ X 100 57 L (.int (x ||| y) :: st) h Q := X_n mC_100 dX7_feigned_56 rfl
theorem x100_57 {l0 l1 l2 : Value} {x : Int32} : X 100 57 [l0, l1, l2] (.int x :: st) h Q ↔ c1 l0 = true ∧ X 100 58 [l0, .int x, l2] st h Q := X_sto (kk := 1) (pc' := 58) (w := .int x) mC_100 dX7_feigned_57 rfl (Nat.le_of_ble_eq_true rfl) rfl
theorem x100_58 {l0 l1 : Value} {x : Int32} : X 100 58 [l0, l1, .int x] st h Q ↔ c1 l1 = true ∧ X 100 61 [l0, l1, .int (x + 1)] st h Q := X_inc (pc' := 61) (x := x) mC_100 dX7_feigned_58 rfl rfl rfl
theorem x100_61 : X 100 61 L st h Q ↔ X 100 4 L st h Q := X_goto mC_100 dX7_feigned_61 (by decide)
theorem x100_64 {l0 l2 : Value} {x : Int32} : X 100 64 [l0, .int x, l2] st h Q ↔ X 100 65 [l0, .int x, l2] (.int x :: st) h Q := X_n mC_100 dX7_feigned_64 rfl
theorem x100_65 {v : Int32} : X 100 65 L [.int v] h Q ↔ Q (some (.int v)) h := X_ret mC_100 dX7_feigned_65 (by decide +kernel)
theorem mC_101 : mC 101 = cX7_hums := rfl
theorem x101_0 {l1 : Value} {x : Nat} : X 101 0 [.ref x, l1] st h Q ↔ X 101 1 [.ref x, l1] (.ref x :: st) h Q := X_n mC_101 dX7_hums_0 rfl
theorem x101_1 {a : Nat} : X 101 1 L (.ref a :: st) h Q ↔ (hS h a = (1, 7) ∧ hR h a 8 ≠ 0) ∧ X 101 4 L (.ref (hR h a 8) :: st) h Q := X_getR mC_101 dX7_hums_1 (by decide +kernel)
theorem x101_4 {l0 : Value} {x : Int32} : X 101 4 [l0, .int x] st h Q ↔ X 101 5 [l0, .int x] (.int x :: st) h Q := X_n mC_101 dX7_hums_4 rfl
theorem x101_5 {b : Nat} {a0 : Int32} : X 101 5 L [.int a0, .ref b] h Q ↔ hS h b = (1, 0) ∧ X 13 0 [.ref b, .int a0] [] h (fun r h' => X 101 8 L (pv r []) h' Q) := X_virt (as := [.int a0]) (n := 1) (ml := 2) (ck := 0) mC_101 dX7_hums_5 (by unfold cOk; decide +kernel) ⟨rfl, rfl, by decide, Nat.le_of_ble_eq_true rfl⟩
theorem x101_8 {x : Int32} : X 101 8 L (.int x :: st) h Q ↔ if x = 0 then X 101 26 L st h Q else X 101 11 L st h Q := X_zeq mC_101 dX7_hums_8 (by decide)
theorem x101_11 {l1 : Value} {x : Nat} : X 101 11 [.ref x, l1] st h Q ↔ X 101 12 [.ref x, l1] (.ref x :: st) h Q := X_n mC_101 dX7_hums_11 rfl
theorem x101_12 {a : Nat} : X 101 12 L (.ref a :: st) h Q ↔ (hS h a = (1, 7) ∧ hR h a 8 ≠ 0) ∧ X 101 15 L (.ref (hR h a 8) :: st) h Q := X_getR mC_101 dX7_hums_12 (by decide +kernel)
theorem x101_15 {l0 : Value} {x : Int32} : X 101 15 [l0, .int x] st h Q ↔ X 101 16 [l0, .int x] (.int x :: st) h Q := X_n mC_101 dX7_hums_15 rfl
theorem x101_16 {l1 : Value} {x : Nat} : X 101 16 [.ref x, l1] st h Q ↔ X 101 17 [.ref x, l1] (.ref x :: st) h Q := X_n mC_101 dX7_hums_16 rfl
theorem x101_17 {a : Nat} : X 101 17 L (.ref a :: st) h Q ↔ (hS h a = (1, 7) ∧ hR h a 6 ≠ 0) ∧ X 101 20 L (.ref (hR h a 6) :: st) h Q := X_getR mC_101 dX7_hums_17 (by decide +kernel)
theorem x101_20 {b : Nat} {a0 : Int32} {a1 : Nat} : X 101 20 L [.ref a1, .int a0, .ref b] h Q ↔ hS h b = (1, 0) ∧ X 28 0 [.ref b, .int a0, .ref a1, .null, .null] [] h (fun r h' => X 101 23 L (pv r []) h' Q) := X_virt (as := [.int a0, .ref a1]) (n := 2) (ml := 5) (ck := 0) mC_101 dX7_hums_20 (by unfold cOk; decide +kernel) ⟨rfl, rfl, by decide, Nat.le_of_ble_eq_true rfl⟩
theorem x101_23 : X 101 23 L st h Q ↔ X 101 27 L st h Q := X_goto mC_101 dX7_hums_23 (by decide)
theorem x101_26 : X 101 26 L st h Q ↔ X 101 27 L (.int (-1) :: st) h Q := X_n mC_101 dX7_hums_26 rfl
theorem x101_27 {v : Int32} : X 101 27 L [.int v] h Q ↔ Q (some (.int v)) h := X_ret mC_101 dX7_hums_27 (by decide +kernel)
theorem mC_102 : mC 102 = cX7_odds := rfl
theorem x102_0 {l1 l2 l3 : Value} {x : Nat} : X 102 0 [.ref x, l1, l2, l3] st h Q ↔ X 102 1 [.ref x, l1, l2, l3] (.ref x :: st) h Q := X_n mC_102 dX7_odds_0 rfl
theorem x102_1 {a : Nat} : X 102 1 L (.ref a :: st) h Q ↔ (hS h a = (1, 7) ∧ hR h a 8 ≠ 0) ∧ X 102 4 L (.ref (hR h a 8) :: st) h Q := X_getR mC_102 dX7_odds_1 (by decide +kernel)
theorem x102_4 {l0 l2 l3 : Value} {x : Int32} : X 102 4 [l0, .int x, l2, l3] st h Q ↔ X 102 5 [l0, .int x, l2, l3] (.int x :: st) h Q := X_n mC_102 dX7_odds_4 rfl
theorem x102_5 {b : Nat} {a0 : Int32} : X 102 5 L [.int a0, .ref b] h Q ↔ hS h b = (1, 0) ∧ X 13 0 [.ref b, .int a0] [] h (fun r h' => X 102 8 L (pv r []) h' Q) := X_virt (as := [.int a0]) (n := 1) (ml := 2) (ck := 0) mC_102 dX7_odds_5 (by unfold cOk; decide +kernel) ⟨rfl, rfl, by decide, Nat.le_of_ble_eq_true rfl⟩
theorem x102_8 {x : Int32} : X 102 8 L (.int x :: st) h Q ↔ if x = 0 then X 102 30 L st h Q else X 102 11 L st h Q := X_zeq mC_102 dX7_odds_8 (by decide)
theorem x102_11 {l0 l1 l3 : Value} {x : Int32} : X 102 11 [l0, l1, .int x, l3] st h Q ↔ X 102 12 [l0, l1, .int x, l3] (.int x :: st) h Q := X_n mC_102 dX7_odds_11 rfl
theorem x102_12 {x : Int32} : X 102 12 L (.int x :: st) h Q ↔ if x < 0 then X 102 30 L st h Q else X 102 15 L st h Q := X_zlt mC_102 dX7_odds_12 (by decide)
theorem x102_15 {l0 l1 l3 : Value} {x : Int32} : X 102 15 [l0, l1, .int x, l3] st h Q ↔ X 102 16 [l0, l1, .int x, l3] (.int x :: st) h Q := X_n mC_102 dX7_odds_15 rfl
theorem x102_16 : X 102 16 L st h Q ↔ X 102 18 L (.int 10 :: st) h Q := X_n mC_102 dX7_odds_16 rfl
theorem x102_18 {x y : Int32} : X 102 18 L (.int y :: .int x :: st) h Q ↔ if y < x then X 102 30 L st h Q else X 102 21 L st h Q := X_igt mC_102 dX7_odds_18 (by decide)
theorem x102_21 {l0 l1 l2 : Value} {x : Int32} : X 102 21 [l0, l1, l2, .int x] st h Q ↔ X 102 22 [l0, l1, l2, .int x] (.int x :: st) h Q := X_n mC_102 dX7_odds_21 rfl
theorem x102_22 {x : Int32} : X 102 22 L (.int x :: st) h Q ↔ if x = 0 then X 102 32 L st h Q else X 102 25 L st h Q := X_zeq mC_102 dX7_odds_22 (by decide)
theorem x102_25 {l0 l1 l2 : Value} {x : Int32} : X 102 25 [l0, l1, l2, .int x] st h Q ↔ X 102 26 [l0, l1, l2, .int x] (.int x :: st) h Q := X_n mC_102 dX7_odds_25 rfl
theorem x102_26 : X 102 26 L st h Q ↔ X 102 27 L (.int 1 :: st) h Q := X_n mC_102 dX7_odds_26 rfl
theorem x102_27 {x y : Int32} : X 102 27 L (.int y :: .int x :: st) h Q ↔ if x = y then X 102 32 L st h Q else X 102 30 L st h Q := X_ieq mC_102 dX7_odds_27 (by decide)
theorem x102_30 : X 102 30 L st h Q ↔ X 102 31 L (.int (-1) :: st) h Q := X_n mC_102 dX7_odds_30 rfl
theorem x102_31 {v : Int32} : X 102 31 L [.int v] h Q ↔ Q (some (.int v)) h := X_ret mC_102 dX7_odds_31 (by decide +kernel)
theorem x102_32 {l1 l2 l3 : Value} {x : Nat} : X 102 32 [.ref x, l1, l2, l3] st h Q ↔ X 102 33 [.ref x, l1, l2, l3] (.ref x :: st) h Q := X_n mC_102 dX7_odds_32 rfl
theorem x102_33 {l0 l2 l3 : Value} {x : Int32} : X 102 33 [l0, .int x, l2, l3] st h Q ↔ X 102 34 [l0, .int x, l2, l3] (.int x :: st) h Q := X_n mC_102 dX7_odds_33 rfl
theorem x102_34 {l0 l1 l3 : Value} {x : Int32} : X 102 34 [l0, l1, .int x, l3] st h Q ↔ X 102 35 [l0, l1, .int x, l3] (.int x :: st) h Q := X_n mC_102 dX7_odds_34 rfl
theorem x102_35 {b : Nat} {a0 : Int32} {a1 : Int32} : X 102 35 L [.int a1, .int a0, .ref b] h Q ↔ hS h b = (1, 7) ∧ X 116 0 [.ref b, .int a0, .int a1, .null, .null, .null, .null] [] h (fun r h' => X 102 38 L (pv r []) h' Q) := X_virt (as := [.int a0, .int a1]) (n := 2) (ml := 7) (ck := 7) mC_102 dX7_odds_35 (by unfold cOk; decide +kernel) ⟨rfl, rfl, by decide, Nat.le_of_ble_eq_true rfl⟩
theorem x102_38 : X 102 38 L st h Q ↔ X 102 40 L (.int 100 :: st) h Q := X_n mC_102 dX7_odds_38 rfl
theorem x102_40 {l0 l1 l2 : Value} {x : Int32} : X 102 40 [l0, l1, l2, .int x] st h Q ↔ X 102 41 [l0, l1, l2, .int x] (.int x :: st) h Q := X_n mC_102 dX7_odds_40 rfl
theorem x102_41 {a0 : Int32} {a1 : Int32} {a2 : Int32} : X 102 41 L [.int a2, .int a1, .int a0] h Q ↔ X 118 0 [.int a0, .int a1, .int a2, .null, .null] [] h (fun r h' => X 102 44 L (pv r []) h' Q) := X_stat (as := [.int a0, .int a1, .int a2]) (n := 3) (ml := 5) (ck := 7) mC_102 dX7_odds_41 (by unfold cOk; decide +kernel) ⟨rfl, rfl, by decide, Nat.le_of_ble_eq_true rfl⟩
theorem x102_44 {v : Int32} : X 102 44 L [.int v] h Q ↔ Q (some (.int v)) h := X_ret mC_102 dX7_odds_44 (by decide +kernel)
theorem mC_103 : mC 103 = cX7_steps := rfl
theorem x103_0 {l0 : Value} {x : Int32} : X 103 0 [l0, .int x] st h Q ↔ X 103 1 [l0, .int x] (.int x :: st) h Q := X_n mC_103 dX7_steps_0 rfl
theorem x103_1 {x : Int32} : X 103 1 L (.int x :: st) h Q ↔ if x = 0 then X 103 28 L st h Q else if x = 1 then X 103 36 L st h Q else if x = 2 then X 103 44 L st h Q else X 103 52 L st h Q := by
  by_cases h0 : x = 0
  · subst h0; simp only [if_true]; exact X_tabIn (off := 27) mC_103 dX7_steps_1 ⟨by decide, by decide⟩ (by decide)
  rw [if_neg h0]
  by_cases h1 : x = 1
  · subst h1; simp only [if_true]; exact X_tabIn (off := 35) mC_103 dX7_steps_1 ⟨by decide, by decide⟩ (by decide)
  rw [if_neg h1]
  by_cases h2 : x = 2
  · subst h2; simp only [if_true]; exact X_tabIn (off := 43) mC_103 dX7_steps_1 ⟨by decide, by decide⟩ (by decide)
  rw [if_neg h2]
  have q0 := toInt_ne h0
  rw [show (0 : Int32).toInt = 0 by decide] at q0
  have q1 := toInt_ne h1
  rw [show (1 : Int32).toInt = 1 by decide] at q1
  have q2 := toInt_ne h2
  rw [show (2 : Int32).toInt = 2 by decide] at q2
  exact X_tabOut mC_103 dX7_steps_1 (by omega) (by decide)
theorem x103_28 {l1 : Value} {x : Nat} : X 103 28 [.ref x, l1] st h Q ↔ X 103 29 [.ref x, l1] (.ref x :: st) h Q := X_n mC_103 dX7_steps_28 rfl
theorem x103_29 {a : Nat} : X 103 29 L (.ref a :: st) h Q ↔ (hS h a = (1, 7) ∧ hR h a 6 ≠ 0) ∧ X 103 32 L (.ref (hR h a 6) :: st) h Q := X_getR mC_103 dX7_steps_29 (by decide +kernel)
theorem x103_32 {a : Nat} : X 103 32 L (.ref a :: st) h Q ↔ hS h a = (1, 1) ∧ X 103 35 L (.int (hI h a 3) :: st) h Q := X_getI mC_103 dX7_steps_32 (by decide +kernel)
theorem x103_35 {v : Int32} : X 103 35 L [.int v] h Q ↔ Q (some (.int v)) h := X_ret mC_103 dX7_steps_35 (by decide +kernel)
theorem x103_36 {l1 : Value} {x : Nat} : X 103 36 [.ref x, l1] st h Q ↔ X 103 37 [.ref x, l1] (.ref x :: st) h Q := X_n mC_103 dX7_steps_36 rfl
theorem x103_37 {a : Nat} : X 103 37 L (.ref a :: st) h Q ↔ (hS h a = (1, 7) ∧ hR h a 6 ≠ 0) ∧ X 103 40 L (.ref (hR h a 6) :: st) h Q := X_getR mC_103 dX7_steps_37 (by decide +kernel)
theorem x103_40 {a : Nat} : X 103 40 L (.ref a :: st) h Q ↔ hS h a = (1, 1) ∧ X 103 43 L (.int (hI h a 4) :: st) h Q := X_getI mC_103 dX7_steps_40 (by decide +kernel)
theorem x103_43 {v : Int32} : X 103 43 L [.int v] h Q ↔ Q (some (.int v)) h := X_ret mC_103 dX7_steps_43 (by decide +kernel)
theorem x103_44 {l1 : Value} {x : Nat} : X 103 44 [.ref x, l1] st h Q ↔ X 103 45 [.ref x, l1] (.ref x :: st) h Q := X_n mC_103 dX7_steps_44 rfl
theorem x103_45 {a : Nat} : X 103 45 L (.ref a :: st) h Q ↔ (hS h a = (1, 7) ∧ hR h a 6 ≠ 0) ∧ X 103 48 L (.ref (hR h a 6) :: st) h Q := X_getR mC_103 dX7_steps_45 (by decide +kernel)
theorem x103_48 {a : Nat} : X 103 48 L (.ref a :: st) h Q ↔ hS h a = (1, 1) ∧ X 103 51 L (.int (hI h a 5) :: st) h Q := X_getI mC_103 dX7_steps_48 (by decide +kernel)
theorem x103_51 {v : Int32} : X 103 51 L [.int v] h Q ↔ Q (some (.int v)) h := X_ret mC_103 dX7_steps_51 (by decide +kernel)
theorem x103_52 : X 103 52 L st h Q ↔ X 103 53 L (.int (-1) :: st) h Q := X_n mC_103 dX7_steps_52 rfl
theorem x103_53 {v : Int32} : X 103 53 L [.int v] h Q ↔ Q (some (.int v)) h := X_ret mC_103 dX7_steps_53 (by decide +kernel)
theorem mC_104 : mC 104 = cX7_day := rfl
theorem x104_0 {l0 l2 l3 l4 : Value} {x : Int32} : X 104 0 [l0, .int x, l2, l3, l4] st h Q ↔ X 104 1 [l0, .int x, l2, l3, l4] (.int x :: st) h Q := X_n mC_104 dX7_day_0 rfl
theorem x104_1 {x : Int32} : X 104 1 L (.int x :: st) h Q ↔ if x < 0 then X 104 31 L st h Q else X 104 4 L st h Q := X_zlt mC_104 dX7_day_1 (by decide)
theorem x104_4 {l0 l2 l3 l4 : Value} {x : Int32} : X 104 4 [l0, .int x, l2, l3, l4] st h Q ↔ X 104 5 [l0, .int x, l2, l3, l4] (.int x :: st) h Q := X_n mC_104 dX7_day_4 rfl
theorem x104_5 : X 104 5 L st h Q ↔ X 104 8 L (.int 9999 :: st) h Q := X_n mC_104 dX7_day_5 rfl
theorem x104_8 {x y : Int32} : X 104 8 L (.int y :: .int x :: st) h Q ↔ if y < x then X 104 31 L st h Q else X 104 11 L st h Q := X_igt mC_104 dX7_day_8 (by decide)
theorem x104_11 {l0 l1 l3 l4 : Value} {x : Int32} : X 104 11 [l0, l1, .int x, l3, l4] st h Q ↔ X 104 12 [l0, l1, .int x, l3, l4] (.int x :: st) h Q := X_n mC_104 dX7_day_11 rfl
theorem x104_12 : X 104 12 L st h Q ↔ X 104 13 L (.int 1 :: st) h Q := X_n mC_104 dX7_day_12 rfl
theorem x104_13 {x y : Int32} : X 104 13 L (.int y :: .int x :: st) h Q ↔ if x < y then X 104 31 L st h Q else X 104 16 L st h Q := X_ilt mC_104 dX7_day_13 (by decide)
theorem x104_16 {l0 l1 l3 l4 : Value} {x : Int32} : X 104 16 [l0, l1, .int x, l3, l4] st h Q ↔ X 104 17 [l0, l1, .int x, l3, l4] (.int x :: st) h Q := X_n mC_104 dX7_day_16 rfl
theorem x104_17 : X 104 17 L st h Q ↔ X 104 19 L (.int 30 :: st) h Q := X_n mC_104 dX7_day_17 rfl
theorem x104_19 {x y : Int32} : X 104 19 L (.int y :: .int x :: st) h Q ↔ if y < x then X 104 31 L st h Q else X 104 22 L st h Q := X_igt mC_104 dX7_day_19 (by decide)
theorem x104_22 {l0 l1 l2 l4 : Value} {x : Int32} : X 104 22 [l0, l1, l2, .int x, l4] st h Q ↔ X 104 23 [l0, l1, l2, .int x, l4] (.int x :: st) h Q := X_n mC_104 dX7_day_22 rfl
theorem x104_23 {x : Int32} : X 104 23 L (.int x :: st) h Q ↔ if x = 0 then X 104 33 L st h Q else X 104 26 L st h Q := X_zeq mC_104 dX7_day_23 (by decide)
theorem x104_26 {l0 l1 l2 l4 : Value} {x : Int32} : X 104 26 [l0, l1, l2, .int x, l4] st h Q ↔ X 104 27 [l0, l1, l2, .int x, l4] (.int x :: st) h Q := X_n mC_104 dX7_day_26 rfl
theorem x104_27 : X 104 27 L st h Q ↔ X 104 28 L (.int 1 :: st) h Q := X_n mC_104 dX7_day_27 rfl
theorem x104_28 {x y : Int32} : X 104 28 L (.int y :: .int x :: st) h Q ↔ if x = y then X 104 33 L st h Q else X 104 31 L st h Q := X_ieq mC_104 dX7_day_28 (by decide)
theorem x104_31 : X 104 31 L st h Q ↔ X 104 32 L (.int (-1) :: st) h Q := X_n mC_104 dX7_day_31 rfl
theorem x104_32 {v : Int32} : X 104 32 L [.int v] h Q ↔ Q (some (.int v)) h := X_ret mC_104 dX7_day_32 (by decide +kernel)
theorem x104_33 {l1 l2 l3 l4 : Value} {x : Nat} : X 104 33 [.ref x, l1, l2, l3, l4] st h Q ↔ X 104 34 [.ref x, l1, l2, l3, l4] (.ref x :: st) h Q := X_n mC_104 dX7_day_33 rfl
theorem x104_34 {a : Nat} : X 104 34 L (.ref a :: st) h Q ↔ (hS h a = (1, 7) ∧ hR h a 7 ≠ 0) ∧ X 104 37 L (.ref (hR h a 7) :: st) h Q := X_getR mC_104 dX7_day_34 (by decide +kernel)
theorem x104_37 {l1 l2 l3 l4 : Value} {x : Nat} : X 104 37 [.ref x, l1, l2, l3, l4] st h Q ↔ X 104 38 [.ref x, l1, l2, l3, l4] (.ref x :: st) h Q := X_n mC_104 dX7_day_37 rfl
theorem x104_38 {a : Nat} : X 104 38 L (.ref a :: st) h Q ↔ (hS h a = (1, 7) ∧ hR h a 6 ≠ 0) ∧ X 104 41 L (.ref (hR h a 6) :: st) h Q := X_getR mC_104 dX7_day_38 (by decide +kernel)
theorem x104_41 {b : Nat} {a0 : Nat} : X 104 41 L [.ref a0, .ref b] h Q ↔ hS h b = (1, 1) ∧ X 35 0 [.ref b, .ref a0] [] h (fun r h' => X 104 44 L (pv r []) h' Q) := X_virt (as := [.ref a0]) (n := 1) (ml := 2) (ck := 1) mC_104 dX7_day_41 (by unfold cOk; decide +kernel) ⟨rfl, rfl, by decide, Nat.le_of_ble_eq_true rfl⟩
theorem x104_44 : X 104 44 L st h Q ↔ X 104 45 L (.int 0 :: st) h Q := X_n mC_104 dX7_day_44 rfl
theorem x104_45 {l0 l1 l2 l3 l4 : Value} {x : Int32} : X 104 45 [l0, l1, l2, l3, l4] (.int x :: st) h Q ↔ c1 l3 = true ∧ X 104 47 [l0, l1, l2, l3, .int x] st h Q := X_sto (kk := 4) (pc' := 47) (w := .int x) mC_104 dX7_day_45 rfl (Nat.le_of_ble_eq_true rfl) rfl
theorem x104_47 {l0 l1 l2 l3 : Value} {x : Int32} : X 104 47 [l0, l1, l2, l3, .int x] st h Q ↔ X 104 49 [l0, l1, l2, l3, .int x] (.int x :: st) h Q := X_n mC_104 dX7_day_47 rfl
theorem x104_49 {l0 l1 l3 l4 : Value} {x : Int32} : X 104 49 [l0, l1, .int x, l3, l4] st h Q ↔ X 104 50 [l0, l1, .int x, l3, l4] (.int x :: st) h Q := X_n mC_104 dX7_day_49 rfl
theorem x104_50 {x y : Int32} : X 104 50 L (.int y :: .int x :: st) h Q ↔ if x < y then X 104 53 L st h Q else X 104 84 L st h Q := X_ige mC_104 dX7_day_50 (by decide)
theorem x104_53 {l1 l2 l3 l4 : Value} {x : Nat} : X 104 53 [.ref x, l1, l2, l3, l4] st h Q ↔ X 104 54 [.ref x, l1, l2, l3, l4] (.ref x :: st) h Q := X_n mC_104 dX7_day_53 rfl
theorem x104_54 {l0 l2 l3 l4 : Value} {x : Int32} : X 104 54 [l0, .int x, l2, l3, l4] st h Q ↔ X 104 55 [l0, .int x, l2, l3, l4] (.int x :: st) h Q := X_n mC_104 dX7_day_54 rfl
theorem x104_55 {l0 l1 l2 l3 : Value} {x : Int32} : X 104 55 [l0, l1, l2, l3, .int x] st h Q ↔ X 104 57 [l0, l1, l2, l3, .int x] (.int x :: st) h Q := X_n mC_104 dX7_day_55 rfl
theorem x104_57 {a0 : Int32} {a1 : Int32} {w0 : Value} : X 104 57 L [.int a1, .int a0, w0] h Q ↔ X 115 0 [.int a0, .int a1, .null, .null] [] h (fun r h' => X 104 60 L (pv r [w0]) h' Q) := X_stat (as := [.int a0, .int a1]) (n := 2) (ml := 4) (ck := 7) mC_104 dX7_day_57 (by unfold cOk; decide +kernel) ⟨rfl, rfl, by decide, Nat.le_of_ble_eq_true rfl⟩
theorem x104_60 {b : Nat} {a0 : Int32} : X 104 60 L [.int a0, .ref b] h Q ↔ hS h b = (1, 7) ∧ X 114 0 [.ref b, .int a0, .null, .null] [] h (fun r h' => X 104 63 L (pv r []) h' Q) := X_virt (as := [.int a0]) (n := 1) (ml := 4) (ck := 7) mC_104 dX7_day_60 (by unfold cOk; decide +kernel) ⟨rfl, rfl, by decide, Nat.le_of_ble_eq_true rfl⟩
theorem x104_63 {l0 l1 l2 l3 : Value} {x : Int32} : X 104 63 [l0, l1, l2, l3, .int x] st h Q ↔ X 104 65 [l0, l1, l2, l3, .int x] (.int x :: st) h Q := X_n mC_104 dX7_day_63 rfl
theorem x104_65 : X 104 65 L st h Q ↔ X 104 66 L (.int 4 :: st) h Q := X_n mC_104 dX7_day_65 rfl
theorem x104_66 {x y : Int32} : X 104 66 L (.int y :: .int x :: st) h Q ↔ (¬ y = 0) ∧ X 104 67 L (.int (x - x / y * y) :: st) h Q := X_gd mC_104 dX7_day_66 rfl
theorem x104_67 : X 104 67 L st h Q ↔ X 104 68 L (.int 3 :: st) h Q := X_n mC_104 dX7_day_67 rfl
theorem x104_68 {x y : Int32} : X 104 68 L (.int y :: .int x :: st) h Q ↔ if x = y then X 104 71 L st h Q else X 104 78 L st h Q := X_ine mC_104 dX7_day_68 (by decide)
theorem x104_71 {l1 l2 l3 l4 : Value} {x : Nat} : X 104 71 [.ref x, l1, l2, l3, l4] st h Q ↔ X 104 72 [.ref x, l1, l2, l3, l4] (.ref x :: st) h Q := X_n mC_104 dX7_day_71 rfl
theorem x104_72 {a : Nat} : X 104 72 L (.ref a :: st) h Q ↔ (hS h a = (1, 7) ∧ hR h a 7 ≠ 0) ∧ X 104 75 L (.ref (hR h a 7) :: st) h Q := X_getR mC_104 dX7_day_72 (by decide +kernel)
theorem x104_75 {b : Nat} : X 104 75 L [.ref b] h Q ↔ hS h b = (1, 1) ∧ X 44 0 [.ref b] [] h (fun r h' => X 104 78 L (pv r []) h' Q) := X_virt (as := []) (n := 0) (ml := 1) (ck := 1) mC_104 dX7_day_75 (by unfold cOk; decide +kernel) ⟨rfl, rfl, by decide, Nat.le_of_ble_eq_true rfl⟩
theorem x104_78 {l0 l1 l2 l3 : Value} {x : Int32} : X 104 78 [l0, l1, l2, l3, .int x] st h Q ↔ c1 l3 = true ∧ X 104 81 [l0, l1, l2, l3, .int (x + 1)] st h Q := X_inc (pc' := 81) (x := x) mC_104 dX7_day_78 rfl rfl rfl
theorem x104_81 : X 104 81 L st h Q ↔ X 104 47 L st h Q := X_goto mC_104 dX7_day_81 (by decide)
theorem x104_84 {l0 l1 l2 l4 : Value} {x : Int32} : X 104 84 [l0, l1, l2, .int x, l4] st h Q ↔ X 104 85 [l0, l1, l2, .int x, l4] (.int x :: st) h Q := X_n mC_104 dX7_day_84 rfl
theorem x104_85 {x : Int32} : X 104 85 L (.int x :: st) h Q ↔ if x = 0 then X 104 88 L st h Q else X 104 104 L st h Q := X_zne mC_104 dX7_day_85 (by decide)
theorem x104_88 {l1 l2 l3 l4 : Value} {x : Nat} : X 104 88 [.ref x, l1, l2, l3, l4] st h Q ↔ X 104 89 [.ref x, l1, l2, l3, l4] (.ref x :: st) h Q := X_n mC_104 dX7_day_88 rfl
theorem x104_89 {a : Nat} : X 104 89 L (.ref a :: st) h Q ↔ (hS h a = (1, 7) ∧ hR h a 7 ≠ 0) ∧ X 104 92 L (.ref (hR h a 7) :: st) h Q := X_getR mC_104 dX7_day_89 (by decide +kernel)
theorem x104_92 {a : Nat} : X 104 92 L (.ref a :: st) h Q ↔ hS h a = (1, 1) ∧ X 104 95 L (.int (hI h a 5) :: st) h Q := X_getI mC_104 dX7_day_92 (by decide +kernel)
theorem x104_95 {l1 l2 l3 l4 : Value} {x : Nat} : X 104 95 [.ref x, l1, l2, l3, l4] st h Q ↔ X 104 96 [.ref x, l1, l2, l3, l4] (.ref x :: st) h Q := X_n mC_104 dX7_day_95 rfl
theorem x104_96 {a : Nat} : X 104 96 L (.ref a :: st) h Q ↔ (hS h a = (1, 7) ∧ hR h a 6 ≠ 0) ∧ X 104 99 L (.ref (hR h a 6) :: st) h Q := X_getR mC_104 dX7_day_96 (by decide +kernel)
theorem x104_99 {a : Nat} : X 104 99 L (.ref a :: st) h Q ↔ hS h a = (1, 1) ∧ X 104 102 L (.int (hI h a 5) :: st) h Q := X_getI mC_104 dX7_day_99 (by decide +kernel)
theorem x104_102 {x y : Int32} : X 104 102 L (.int y :: .int x :: st) h Q ↔ X 104 103 L (.int (x - y) :: st) h Q := X_n mC_104 dX7_day_102 rfl
theorem x104_103 {v : Int32} : X 104 103 L [.int v] h Q ↔ Q (some (.int v)) h := X_ret mC_104 dX7_day_103 (by decide +kernel)
theorem x104_104 {l1 l2 l3 l4 : Value} {x : Nat} : X 104 104 [.ref x, l1, l2, l3, l4] st h Q ↔ X 104 105 [.ref x, l1, l2, l3, l4] (.ref x :: st) h Q := X_n mC_104 dX7_day_104 rfl
theorem x104_105 {a : Nat} : X 104 105 L (.ref a :: st) h Q ↔ (hS h a = (1, 7) ∧ hR h a 8 ≠ 0) ∧ X 104 108 L (.ref (hR h a 8) :: st) h Q := X_getR mC_104 dX7_day_105 (by decide +kernel)
theorem x104_108 {l1 l2 l3 l4 : Value} {x : Nat} : X 104 108 [.ref x, l1, l2, l3, l4] st h Q ↔ X 104 109 [.ref x, l1, l2, l3, l4] (.ref x :: st) h Q := X_n mC_104 dX7_day_108 rfl
theorem x104_109 {a : Nat} : X 104 109 L (.ref a :: st) h Q ↔ (hS h a = (1, 7) ∧ hR h a 7 ≠ 0) ∧ X 104 112 L (.ref (hR h a 7) :: st) h Q := X_getR mC_104 dX7_day_109 (by decide +kernel)
theorem x104_112 {l1 l2 l3 l4 : Value} {x : Nat} : X 104 112 [.ref x, l1, l2, l3, l4] st h Q ↔ X 104 113 [.ref x, l1, l2, l3, l4] (.ref x :: st) h Q := X_n mC_104 dX7_day_112 rfl
theorem x104_113 {a : Nat} : X 104 113 L (.ref a :: st) h Q ↔ (hS h a = (1, 7) ∧ hR h a 7 ≠ 0) ∧ X 104 116 L (.ref (hR h a 7) :: st) h Q := X_getR mC_104 dX7_day_113 (by decide +kernel)
theorem x104_116 {a : Nat} : X 104 116 L (.ref a :: st) h Q ↔ hS h a = (1, 1) ∧ X 104 119 L (.int (hI h a 2) :: st) h Q := X_getI mC_104 dX7_day_116 (by decide +kernel)
theorem x104_119 {b : Nat} {a0 : Nat} {a1 : Int32} : X 104 119 L [.int a1, .ref a0, .ref b] h Q ↔ hS h b = (1, 0) ∧ X 26 0 [.ref b, .ref a0, .int a1, .null, .null] [] h (fun r h' => X 104 122 L (pv r []) h' Q) := X_virt (as := [.ref a0, .int a1]) (n := 2) (ml := 5) (ck := 0) mC_104 dX7_day_119 (by unfold cOk; decide +kernel) ⟨rfl, rfl, by decide, Nat.le_of_ble_eq_true rfl⟩
theorem x104_122 {a0 : Int32} : X 104 122 L [.int a0] h Q ↔ X 179 0 [.int a0] [] h (fun r h' => X 104 125 L (pv r []) h' Q) := X_stat (as := [.int a0]) (n := 1) (ml := 1) (ck := 9) mC_104 dX7_day_122 (by unfold cOk; decide +kernel) ⟨rfl, rfl, by decide, Nat.le_of_ble_eq_true rfl⟩
theorem x104_125 {v : Int32} : X 104 125 L [.int v] h Q ↔ Q (some (.int v)) h := X_ret mC_104 dX7_day_125 (by decide +kernel)
theorem mC_105 : mC 105 = cX7_keep := rfl
theorem x105_0 {x : Nat} : X 105 0 [.ref x] st h Q ↔ X 105 1 [.ref x] (.ref x :: st) h Q := X_n mC_105 dX7_keep_0 rfl
theorem x105_1 {a : Nat} : X 105 1 L (.ref a :: st) h Q ↔ (hS h a = (1, 7) ∧ hR h a 5 ≠ 0) ∧ X 105 4 L (.ref (hR h a 5) :: st) h Q := X_getR mC_105 dX7_keep_1 (by decide +kernel)
theorem x105_4 {b : Nat} : X 105 4 L [.ref b] h Q ↔ hS h b = (1, 4) ∧ X 61 0 [.ref b] [] h (fun r h' => X 105 7 L (pv r []) h' Q) := X_virt (as := []) (n := 0) (ml := 1) (ck := 4) mC_105 dX7_keep_4 (by unfold cOk; decide +kernel) ⟨rfl, rfl, by decide, Nat.le_of_ble_eq_true rfl⟩
theorem x105_7 {x : Int32} : X 105 7 L (.int x :: st) h Q ↔ if x = 0 then X 105 13 L st h Q else X 105 10 L st h Q := X_zeq mC_105 dX7_keep_7 (by decide)
theorem x105_10 : X 105 10 L st h Q ↔ X 105 12 L (.int (-3) :: st) h Q := X_n mC_105 dX7_keep_10 rfl
theorem x105_12 {v : Int32} : X 105 12 L [.int v] h Q ↔ Q (some (.int v)) h := X_ret mC_105 dX7_keep_12 (by decide +kernel)
theorem x105_13 {x : Nat} : X 105 13 [.ref x] st h Q ↔ X 105 14 [.ref x] (.ref x :: st) h Q := X_n mC_105 dX7_keep_13 rfl
theorem x105_14 {a : Nat} : X 105 14 L (.ref a :: st) h Q ↔ (hS h a = (1, 7) ∧ hR h a 5 ≠ 0) ∧ X 105 17 L (.ref (hR h a 5) :: st) h Q := X_getR mC_105 dX7_keep_14 (by decide +kernel)
theorem x105_17 {x : Nat} : X 105 17 [.ref x] st h Q ↔ X 105 18 [.ref x] (.ref x :: st) h Q := X_n mC_105 dX7_keep_17 rfl
theorem x105_18 {a : Nat} : X 105 18 L (.ref a :: st) h Q ↔ (hS h a = (1, 7) ∧ hR h a 6 ≠ 0) ∧ X 105 21 L (.ref (hR h a 6) :: st) h Q := X_getR mC_105 dX7_keep_18 (by decide +kernel)
theorem x105_21 {b : Nat} {a0 : Nat} : X 105 21 L [.ref a0, .ref b] h Q ↔ hS h b = (1, 4) ∧ X 63 0 [.ref b, .ref a0] [] h (fun r h' => X 105 24 L (pv r []) h' Q) := X_virt (as := [.ref a0]) (n := 1) (ml := 2) (ck := 4) mC_105 dX7_keep_21 (by unfold cOk; decide +kernel) ⟨rfl, rfl, by decide, Nat.le_of_ble_eq_true rfl⟩
theorem x105_24 {x : Nat} : X 105 24 [.ref x] st h Q ↔ X 105 25 [.ref x] (.ref x :: st) h Q := X_n mC_105 dX7_keep_24 rfl
theorem x105_25 {a : Nat} : X 105 25 L (.ref a :: st) h Q ↔ (hS h a = (1, 7) ∧ hR h a 5 ≠ 0) ∧ X 105 28 L (.ref (hR h a 5) :: st) h Q := X_getR mC_105 dX7_keep_25 (by decide +kernel)
theorem x105_28 {b : Nat} : X 105 28 L [.ref b] h Q ↔ hS h b = (1, 4) ∧ X 60 0 [.ref b] [] h (fun r h' => X 105 31 L (pv r []) h' Q) := X_virt (as := []) (n := 0) (ml := 1) (ck := 4) mC_105 dX7_keep_28 (by unfold cOk; decide +kernel) ⟨rfl, rfl, by decide, Nat.le_of_ble_eq_true rfl⟩
theorem x105_31 {v : Int32} : X 105 31 L [.int v] h Q ↔ Q (some (.int v)) h := X_ret mC_105 dX7_keep_31 (by decide +kernel)
theorem mC_106 : mC 106 = cX7_back := rfl
theorem x106_0 {x : Nat} : X 106 0 [.ref x] st h Q ↔ X 106 1 [.ref x] (.ref x :: st) h Q := X_n mC_106 dX7_back_0 rfl
theorem x106_1 {a : Nat} : X 106 1 L (.ref a :: st) h Q ↔ (hS h a = (1, 7) ∧ hR h a 5 ≠ 0) ∧ X 106 4 L (.ref (hR h a 5) :: st) h Q := X_getR mC_106 dX7_back_1 (by decide +kernel)
theorem x106_4 {x : Nat} : X 106 4 [.ref x] st h Q ↔ X 106 5 [.ref x] (.ref x :: st) h Q := X_n mC_106 dX7_back_4 rfl
theorem x106_5 {a : Nat} : X 106 5 L (.ref a :: st) h Q ↔ (hS h a = (1, 7) ∧ hR h a 6 ≠ 0) ∧ X 106 8 L (.ref (hR h a 6) :: st) h Q := X_getR mC_106 dX7_back_5 (by decide +kernel)
theorem x106_8 {b : Nat} {a0 : Nat} : X 106 8 L [.ref a0, .ref b] h Q ↔ hS h b = (1, 4) ∧ X 64 0 [.ref b, .ref a0] [] h (fun r h' => X 106 11 L (pv r []) h' Q) := X_virt (as := [.ref a0]) (n := 1) (ml := 2) (ck := 4) mC_106 dX7_back_8 (by unfold cOk; decide +kernel) ⟨rfl, rfl, by decide, Nat.le_of_ble_eq_true rfl⟩
theorem x106_11 {x : Int32} : X 106 11 L (.int x :: st) h Q ↔ if x = 0 then X 106 14 L st h Q else X 106 17 L st h Q := X_zne mC_106 dX7_back_11 (by decide)
theorem x106_14 : X 106 14 L st h Q ↔ X 106 16 L (.int (-2) :: st) h Q := X_n mC_106 dX7_back_14 rfl
theorem x106_16 {v : Int32} : X 106 16 L [.int v] h Q ↔ Q (some (.int v)) h := X_ret mC_106 dX7_back_16 (by decide +kernel)
theorem x106_17 {x : Nat} : X 106 17 [.ref x] st h Q ↔ X 106 18 [.ref x] (.ref x :: st) h Q := X_n mC_106 dX7_back_17 rfl
theorem x106_18 {a : Nat} : X 106 18 L (.ref a :: st) h Q ↔ (hS h a = (1, 7) ∧ hR h a 4 ≠ 0) ∧ X 106 21 L (.ref (hR h a 4) :: st) h Q := X_getR mC_106 dX7_back_18 (by decide +kernel)
theorem x106_21 {b : Nat} : X 106 21 L [.ref b] h Q ↔ hS h b = (1, 4) ∧ X 62 0 [.ref b] [] h (fun r h' => X 106 24 L (pv r []) h' Q) := X_virt (as := []) (n := 0) (ml := 1) (ck := 4) mC_106 dX7_back_21 (by unfold cOk; decide +kernel) ⟨rfl, rfl, by decide, Nat.le_of_ble_eq_true rfl⟩
theorem x106_24 {x : Nat} : X 106 24 [.ref x] st h Q ↔ X 106 25 [.ref x] (.ref x :: st) h Q := X_n mC_106 dX7_back_24 rfl
theorem x106_25 {a : Nat} : X 106 25 L (.ref a :: st) h Q ↔ (hS h a = (1, 7) ∧ hR h a 5 ≠ 0) ∧ X 106 28 L (.ref (hR h a 5) :: st) h Q := X_getR mC_106 dX7_back_25 (by decide +kernel)
theorem x106_28 {b : Nat} : X 106 28 L [.ref b] h Q ↔ hS h b = (1, 4) ∧ X 60 0 [.ref b] [] h (fun r h' => X 106 31 L (pv r []) h' Q) := X_virt (as := []) (n := 0) (ml := 1) (ck := 4) mC_106 dX7_back_28 (by unfold cOk; decide +kernel) ⟨rfl, rfl, by decide, Nat.le_of_ble_eq_true rfl⟩
theorem x106_31 {v : Int32} : X 106 31 L [.int v] h Q ↔ Q (some (.int v)) h := X_ret mC_106 dX7_back_31 (by decide +kernel)
theorem mC_107 : mC 107 = cX7_count := rfl
theorem x107_0 {l0 : Value} {x : Int32} : X 107 0 [l0, .int x] st h Q ↔ X 107 1 [l0, .int x] (.int x :: st) h Q := X_n mC_107 dX7_count_0 rfl
theorem x107_1 {x : Int32} : X 107 1 L (.int x :: st) h Q ↔ if x = 0 then X 107 48 L st h Q else if x = 1 then X 107 56 L st h Q else if x = 2 then X 107 64 L st h Q else if x = 3 then X 107 72 L st h Q else if x = 4 then X 107 83 L st h Q else if x = 5 then X 107 91 L st h Q else if x = 6 then X 107 99 L st h Q else if x = 7 then X 107 107 L st h Q else X 107 115 L st h Q := by
  by_cases h0 : x = 0
  · subst h0; simp only [if_true]; exact X_tabIn (off := 47) mC_107 dX7_count_1 ⟨by decide, by decide⟩ (by decide)
  rw [if_neg h0]
  by_cases h1 : x = 1
  · subst h1; simp only [if_true]; exact X_tabIn (off := 55) mC_107 dX7_count_1 ⟨by decide, by decide⟩ (by decide)
  rw [if_neg h1]
  by_cases h2 : x = 2
  · subst h2; simp only [if_true]; exact X_tabIn (off := 63) mC_107 dX7_count_1 ⟨by decide, by decide⟩ (by decide)
  rw [if_neg h2]
  by_cases h3 : x = 3
  · subst h3; simp only [if_true]; exact X_tabIn (off := 71) mC_107 dX7_count_1 ⟨by decide, by decide⟩ (by decide)
  rw [if_neg h3]
  by_cases h4 : x = 4
  · subst h4; simp only [if_true]; exact X_tabIn (off := 82) mC_107 dX7_count_1 ⟨by decide, by decide⟩ (by decide)
  rw [if_neg h4]
  by_cases h5 : x = 5
  · subst h5; simp only [if_true]; exact X_tabIn (off := 90) mC_107 dX7_count_1 ⟨by decide, by decide⟩ (by decide)
  rw [if_neg h5]
  by_cases h6 : x = 6
  · subst h6; simp only [if_true]; exact X_tabIn (off := 98) mC_107 dX7_count_1 ⟨by decide, by decide⟩ (by decide)
  rw [if_neg h6]
  by_cases h7 : x = 7
  · subst h7; simp only [if_true]; exact X_tabIn (off := 106) mC_107 dX7_count_1 ⟨by decide, by decide⟩ (by decide)
  rw [if_neg h7]
  have q0 := toInt_ne h0
  rw [show (0 : Int32).toInt = 0 by decide] at q0
  have q1 := toInt_ne h1
  rw [show (1 : Int32).toInt = 1 by decide] at q1
  have q2 := toInt_ne h2
  rw [show (2 : Int32).toInt = 2 by decide] at q2
  have q3 := toInt_ne h3
  rw [show (3 : Int32).toInt = 3 by decide] at q3
  have q4 := toInt_ne h4
  rw [show (4 : Int32).toInt = 4 by decide] at q4
  have q5 := toInt_ne h5
  rw [show (5 : Int32).toInt = 5 by decide] at q5
  have q6 := toInt_ne h6
  rw [show (6 : Int32).toInt = 6 by decide] at q6
  have q7 := toInt_ne h7
  rw [show (7 : Int32).toInt = 7 by decide] at q7
  exact X_tabOut mC_107 dX7_count_1 (by omega) (by decide)
theorem x107_48 {l1 : Value} {x : Nat} : X 107 48 [.ref x, l1] st h Q ↔ X 107 49 [.ref x, l1] (.ref x :: st) h Q := X_n mC_107 dX7_count_48 rfl
theorem x107_49 {a : Nat} : X 107 49 L (.ref a :: st) h Q ↔ (hS h a = (1, 7) ∧ hR h a 8 ≠ 0) ∧ X 107 52 L (.ref (hR h a 8) :: st) h Q := X_getR mC_107 dX7_count_49 (by decide +kernel)
theorem x107_52 {b : Nat} : X 107 52 L [.ref b] h Q ↔ hS h b = (1, 0) ∧ X 10 0 [.ref b] [] h (fun r h' => X 107 55 L (pv r []) h' Q) := X_virt (as := []) (n := 0) (ml := 1) (ck := 0) mC_107 dX7_count_52 (by unfold cOk; decide +kernel) ⟨rfl, rfl, by decide, Nat.le_of_ble_eq_true rfl⟩
theorem x107_55 {v : Int32} : X 107 55 L [.int v] h Q ↔ Q (some (.int v)) h := X_ret mC_107 dX7_count_55 (by decide +kernel)
theorem x107_56 {l1 : Value} {x : Nat} : X 107 56 [.ref x, l1] st h Q ↔ X 107 57 [.ref x, l1] (.ref x :: st) h Q := X_n mC_107 dX7_count_56 rfl
theorem x107_57 {a : Nat} : X 107 57 L (.ref a :: st) h Q ↔ (hS h a = (1, 7) ∧ hR h a 8 ≠ 0) ∧ X 107 60 L (.ref (hR h a 8) :: st) h Q := X_getR mC_107 dX7_count_57 (by decide +kernel)
theorem x107_60 {b : Nat} : X 107 60 L [.ref b] h Q ↔ hS h b = (1, 0) ∧ X 11 0 [.ref b] [] h (fun r h' => X 107 63 L (pv r []) h' Q) := X_virt (as := []) (n := 0) (ml := 1) (ck := 0) mC_107 dX7_count_60 (by unfold cOk; decide +kernel) ⟨rfl, rfl, by decide, Nat.le_of_ble_eq_true rfl⟩
theorem x107_63 {v : Int32} : X 107 63 L [.int v] h Q ↔ Q (some (.int v)) h := X_ret mC_107 dX7_count_63 (by decide +kernel)
theorem x107_64 {l1 : Value} {x : Nat} : X 107 64 [.ref x, l1] st h Q ↔ X 107 65 [.ref x, l1] (.ref x :: st) h Q := X_n mC_107 dX7_count_64 rfl
theorem x107_65 {a : Nat} : X 107 65 L (.ref a :: st) h Q ↔ (hS h a = (1, 7) ∧ hR h a 6 ≠ 0) ∧ X 107 68 L (.ref (hR h a 6) :: st) h Q := X_getR mC_107 dX7_count_65 (by decide +kernel)
theorem x107_68 {a : Nat} : X 107 68 L (.ref a :: st) h Q ↔ hS h a = (1, 1) ∧ X 107 71 L (.int (hI h a 2) :: st) h Q := X_getI mC_107 dX7_count_68 (by decide +kernel)
theorem x107_71 {v : Int32} : X 107 71 L [.int v] h Q ↔ Q (some (.int v)) h := X_ret mC_107 dX7_count_71 (by decide +kernel)
theorem x107_72 {l1 : Value} {x : Nat} : X 107 72 [.ref x, l1] st h Q ↔ X 107 73 [.ref x, l1] (.ref x :: st) h Q := X_n mC_107 dX7_count_72 rfl
theorem x107_73 {a : Nat} : X 107 73 L (.ref a :: st) h Q ↔ (hS h a = (1, 7) ∧ hR h a 6 ≠ 0) ∧ X 107 76 L (.ref (hR h a 6) :: st) h Q := X_getR mC_107 dX7_count_73 (by decide +kernel)
theorem x107_76 {a : Nat} : X 107 76 L (.ref a :: st) h Q ↔ hS h a = (1, 1) ∧ X 107 79 L (.int (hI h a 1) :: st) h Q := X_getI mC_107 dX7_count_76 (by decide +kernel)
theorem x107_79 {a0 : Int32} : X 107 79 L [.int a0] h Q ↔ X 179 0 [.int a0] [] h (fun r h' => X 107 82 L (pv r []) h' Q) := X_stat (as := [.int a0]) (n := 1) (ml := 1) (ck := 9) mC_107 dX7_count_79 (by unfold cOk; decide +kernel) ⟨rfl, rfl, by decide, Nat.le_of_ble_eq_true rfl⟩
theorem x107_82 {v : Int32} : X 107 82 L [.int v] h Q ↔ Q (some (.int v)) h := X_ret mC_107 dX7_count_82 (by decide +kernel)
theorem x107_83 {l1 : Value} {x : Nat} : X 107 83 [.ref x, l1] st h Q ↔ X 107 84 [.ref x, l1] (.ref x :: st) h Q := X_n mC_107 dX7_count_83 rfl
theorem x107_84 {a : Nat} : X 107 84 L (.ref a :: st) h Q ↔ (hS h a = (1, 7) ∧ hR h a 1 ≠ 0) ∧ X 107 87 L (.ref (hR h a 1) :: st) h Q := X_getR mC_107 dX7_count_84 (by decide +kernel)
theorem x107_87 {b : Nat} : X 107 87 L [.ref b] h Q ↔ hS h b = (1, 2) ∧ X 47 0 [.ref b] [] h (fun r h' => X 107 90 L (pv r []) h' Q) := X_virt (as := []) (n := 0) (ml := 1) (ck := 2) mC_107 dX7_count_87 (by unfold cOk; decide +kernel) ⟨rfl, rfl, by decide, Nat.le_of_ble_eq_true rfl⟩
theorem x107_90 {v : Int32} : X 107 90 L [.int v] h Q ↔ Q (some (.int v)) h := X_ret mC_107 dX7_count_90 (by decide +kernel)
theorem x107_91 {l1 : Value} {x : Nat} : X 107 91 [.ref x, l1] st h Q ↔ X 107 92 [.ref x, l1] (.ref x :: st) h Q := X_n mC_107 dX7_count_91 rfl
theorem x107_92 {a : Nat} : X 107 92 L (.ref a :: st) h Q ↔ (hS h a = (1, 7) ∧ hR h a 4 ≠ 0) ∧ X 107 95 L (.ref (hR h a 4) :: st) h Q := X_getR mC_107 dX7_count_92 (by decide +kernel)
theorem x107_95 {b : Nat} : X 107 95 L [.ref b] h Q ↔ hS h b = (1, 4) ∧ X 60 0 [.ref b] [] h (fun r h' => X 107 98 L (pv r []) h' Q) := X_virt (as := []) (n := 0) (ml := 1) (ck := 4) mC_107 dX7_count_95 (by unfold cOk; decide +kernel) ⟨rfl, rfl, by decide, Nat.le_of_ble_eq_true rfl⟩
theorem x107_98 {v : Int32} : X 107 98 L [.int v] h Q ↔ Q (some (.int v)) h := X_ret mC_107 dX7_count_98 (by decide +kernel)
theorem x107_99 {l1 : Value} {x : Nat} : X 107 99 [.ref x, l1] st h Q ↔ X 107 100 [.ref x, l1] (.ref x :: st) h Q := X_n mC_107 dX7_count_99 rfl
theorem x107_100 {a : Nat} : X 107 100 L (.ref a :: st) h Q ↔ (hS h a = (1, 7) ∧ hR h a 5 ≠ 0) ∧ X 107 103 L (.ref (hR h a 5) :: st) h Q := X_getR mC_107 dX7_count_100 (by decide +kernel)
theorem x107_103 {b : Nat} : X 107 103 L [.ref b] h Q ↔ hS h b = (1, 4) ∧ X 60 0 [.ref b] [] h (fun r h' => X 107 106 L (pv r []) h' Q) := X_virt (as := []) (n := 0) (ml := 1) (ck := 4) mC_107 dX7_count_103 (by unfold cOk; decide +kernel) ⟨rfl, rfl, by decide, Nat.le_of_ble_eq_true rfl⟩
theorem x107_106 {v : Int32} : X 107 106 L [.int v] h Q ↔ Q (some (.int v)) h := X_ret mC_107 dX7_count_106 (by decide +kernel)
theorem x107_107 {l1 : Value} {x : Nat} : X 107 107 [.ref x, l1] st h Q ↔ X 107 108 [.ref x, l1] (.ref x :: st) h Q := X_n mC_107 dX7_count_107 rfl
theorem x107_108 {a : Nat} : X 107 108 L (.ref a :: st) h Q ↔ (hS h a = (1, 7) ∧ hR h a 0 ≠ 0) ∧ X 107 111 L (.ref (hR h a 0) :: st) h Q := X_getR mC_107 dX7_count_108 (by decide +kernel)
theorem x107_111 {b : Nat} : X 107 111 L [.ref b] h Q ↔ hS h b = (1, 5) ∧ X 66 0 [.ref b] [] h (fun r h' => X 107 114 L (pv r []) h' Q) := X_virt (as := []) (n := 0) (ml := 1) (ck := 5) mC_107 dX7_count_111 (by unfold cOk; decide +kernel) ⟨rfl, rfl, by decide, Nat.le_of_ble_eq_true rfl⟩
theorem x107_114 {v : Int32} : X 107 114 L [.int v] h Q ↔ Q (some (.int v)) h := X_ret mC_107 dX7_count_114 (by decide +kernel)
theorem x107_115 : X 107 115 L st h Q ↔ X 107 116 L (.int (-1) :: st) h Q := X_n mC_107 dX7_count_115 rfl
theorem x107_116 {v : Int32} : X 107 116 L [.int v] h Q ↔ Q (some (.int v)) h := X_ret mC_107 dX7_count_116 (by decide +kernel)
theorem mC_108 : mC 108 = cX7_moveIn := rfl
theorem x108_0 {l1 : Value} {x : Nat} : X 108 0 [.ref x, l1] st h Q ↔ X 108 1 [.ref x, l1] (.ref x :: st) h Q := X_n mC_108 dX7_moveIn_0 rfl
theorem x108_1 {a : Nat} : X 108 1 L (.ref a :: st) h Q ↔ (hS h a = (1, 7) ∧ hR h a 8 ≠ 0) ∧ X 108 4 L (.ref (hR h a 8) :: st) h Q := X_getR mC_108 dX7_moveIn_1 (by decide +kernel)
theorem x108_4 {l0 l1 : Value} {x : Nat} : X 108 4 [l0, l1] (.ref x :: st) h Q ↔ c1 l0 = true ∧ X 108 5 [l0, .ref x] st h Q := X_sto (kk := 1) (pc' := 5) (w := .ref x) mC_108 dX7_moveIn_4 rfl (Nat.le_of_ble_eq_true rfl) rfl
theorem x108_5 {l1 : Value} {x : Nat} : X 108 5 [.ref x, l1] st h Q ↔ X 108 6 [.ref x, l1] (.ref x :: st) h Q := X_n mC_108 dX7_moveIn_5 rfl
theorem x108_6 {l1 : Value} {x : Nat} : X 108 6 [.ref x, l1] st h Q ↔ X 108 7 [.ref x, l1] (.ref x :: st) h Q := X_n mC_108 dX7_moveIn_6 rfl
theorem x108_7 {a : Nat} : X 108 7 L (.ref a :: st) h Q ↔ (hS h a = (1, 7) ∧ hR h a 9 ≠ 0) ∧ X 108 10 L (.ref (hR h a 9) :: st) h Q := X_getR mC_108 dX7_moveIn_7 (by decide +kernel)
theorem x108_10 {a v : Nat} : X 108 10 L (.ref v :: .ref a :: st) h Q ↔ (hS h a = (1, 7) ∧ v ≠ 0) ∧ X 108 13 L st (sR h a 8 v) Q := X_putR mC_108 dX7_moveIn_10 (by decide +kernel)
theorem x108_13 {l1 : Value} {x : Nat} : X 108 13 [.ref x, l1] st h Q ↔ X 108 14 [.ref x, l1] (.ref x :: st) h Q := X_n mC_108 dX7_moveIn_13 rfl
theorem x108_14 {l0 : Value} {x : Nat} : X 108 14 [l0, .ref x] st h Q ↔ X 108 15 [l0, .ref x] (.ref x :: st) h Q := X_n mC_108 dX7_moveIn_14 rfl
theorem x108_15 {a v : Nat} : X 108 15 L (.ref v :: .ref a :: st) h Q ↔ (hS h a = (1, 7) ∧ v ≠ 0) ∧ X 108 18 L st (sR h a 9 v) Q := X_putR mC_108 dX7_moveIn_15 (by decide +kernel)
theorem x108_18 {l1 : Value} {x : Nat} : X 108 18 [.ref x, l1] st h Q ↔ X 108 19 [.ref x, l1] (.ref x :: st) h Q := X_n mC_108 dX7_moveIn_18 rfl
theorem x108_19 {a : Nat} : X 108 19 L (.ref a :: st) h Q ↔ (hS h a = (1, 7) ∧ hR h a 6 ≠ 0) ∧ X 108 22 L (.ref (hR h a 6) :: st) h Q := X_getR mC_108 dX7_moveIn_19 (by decide +kernel)
theorem x108_22 {l1 : Value} {x : Nat} : X 108 22 [.ref x, l1] st h Q ↔ X 108 23 [.ref x, l1] (.ref x :: st) h Q := X_n mC_108 dX7_moveIn_22 rfl
theorem x108_23 {a : Nat} : X 108 23 L (.ref a :: st) h Q ↔ (hS h a = (1, 7) ∧ hR h a 8 ≠ 0) ∧ X 108 26 L (.ref (hR h a 8) :: st) h Q := X_getR mC_108 dX7_moveIn_23 (by decide +kernel)
theorem x108_26 {b : Nat} {a0 : Nat} : X 108 26 L [.ref a0, .ref b] h Q ↔ hS h b = (1, 1) ∧ X 34 0 [.ref b, .ref a0, .null] [] h (fun r h' => X 108 29 L (pv r []) h' Q) := X_virt (as := [.ref a0]) (n := 1) (ml := 3) (ck := 1) mC_108 dX7_moveIn_26 (by unfold cOk; decide +kernel) ⟨rfl, rfl, by decide, Nat.le_of_ble_eq_true rfl⟩
theorem x108_29 {l1 : Value} {x : Nat} : X 108 29 [.ref x, l1] st h Q ↔ X 108 30 [.ref x, l1] (.ref x :: st) h Q := X_n mC_108 dX7_moveIn_29 rfl
theorem x108_30 {a : Nat} : X 108 30 L (.ref a :: st) h Q ↔ (hS h a = (1, 7) ∧ hR h a 2 ≠ 0) ∧ X 108 33 L (.ref (hR h a 2) :: st) h Q := X_getR mC_108 dX7_moveIn_30 (by decide +kernel)
theorem x108_33 {l1 : Value} {x : Nat} : X 108 33 [.ref x, l1] st h Q ↔ X 108 34 [.ref x, l1] (.ref x :: st) h Q := X_n mC_108 dX7_moveIn_33 rfl
theorem x108_34 {a : Nat} : X 108 34 L (.ref a :: st) h Q ↔ (hS h a = (1, 7) ∧ hR h a 8 ≠ 0) ∧ X 108 37 L (.ref (hR h a 8) :: st) h Q := X_getR mC_108 dX7_moveIn_34 (by decide +kernel)
theorem x108_37 {b : Nat} {w0 : Value} : X 108 37 L [.ref b, w0] h Q ↔ hS h b = (1, 0) ∧ X 11 0 [.ref b] [] h (fun r h' => X 108 40 L (pv r [w0]) h' Q) := X_virt (as := []) (n := 0) (ml := 1) (ck := 0) mC_108 dX7_moveIn_37 (by unfold cOk; decide +kernel) ⟨rfl, rfl, by decide, Nat.le_of_ble_eq_true rfl⟩
theorem x108_40 {l1 : Value} {x : Nat} : X 108 40 [.ref x, l1] st h Q ↔ X 108 41 [.ref x, l1] (.ref x :: st) h Q := X_n mC_108 dX7_moveIn_40 rfl
theorem x108_41 {a : Nat} : X 108 41 L (.ref a :: st) h Q ↔ (hS h a = (1, 7) ∧ hR h a 8 ≠ 0) ∧ X 108 44 L (.ref (hR h a 8) :: st) h Q := X_getR mC_108 dX7_moveIn_41 (by decide +kernel)
theorem x108_44 {b : Nat} {w0 w1 : Value} : X 108 44 L [.ref b, w0, w1] h Q ↔ hS h b = (1, 0) ∧ X 10 0 [.ref b] [] h (fun r h' => X 108 47 L (pv r [w0, w1]) h' Q) := X_virt (as := []) (n := 0) (ml := 1) (ck := 0) mC_108 dX7_moveIn_44 (by unfold cOk; decide +kernel) ⟨rfl, rfl, by decide, Nat.le_of_ble_eq_true rfl⟩
theorem x108_47 {b : Nat} {a0 : Int32} {a1 : Int32} : X 108 47 L [.int a1, .int a0, .ref b] h Q ↔ hS h b = (1, 6) ∧ X 75 0 [.ref b, .int a0, .int a1, .null] [] h (fun r h' => X 108 50 L (pv r []) h' Q) := X_virt (as := [.int a0, .int a1]) (n := 2) (ml := 4) (ck := 6) mC_108 dX7_moveIn_47 (by unfold cOk; decide +kernel) ⟨rfl, rfl, by decide, Nat.le_of_ble_eq_true rfl⟩
theorem x108_50 {l1 : Value} {x : Nat} : X 108 50 [.ref x, l1] st h Q ↔ X 108 51 [.ref x, l1] (.ref x :: st) h Q := X_n mC_108 dX7_moveIn_50 rfl
theorem x108_51 {a : Nat} : X 108 51 L (.ref a :: st) h Q ↔ (hS h a = (1, 7) ∧ hR h a 4 ≠ 0) ∧ X 108 54 L (.ref (hR h a 4) :: st) h Q := X_getR mC_108 dX7_moveIn_51 (by decide +kernel)
theorem x108_54 {b : Nat} : X 108 54 L [.ref b] h Q ↔ hS h b = (1, 4) ∧ X 62 0 [.ref b] [] h (fun r h' => X 108 57 L (pv r []) h' Q) := X_virt (as := []) (n := 0) (ml := 1) (ck := 4) mC_108 dX7_moveIn_54 (by unfold cOk; decide +kernel) ⟨rfl, rfl, by decide, Nat.le_of_ble_eq_true rfl⟩
theorem x108_57 {l1 : Value} {x : Nat} : X 108 57 [.ref x, l1] st h Q ↔ X 108 58 [.ref x, l1] (.ref x :: st) h Q := X_n mC_108 dX7_moveIn_57 rfl
theorem x108_58 {a : Nat} : X 108 58 L (.ref a :: st) h Q ↔ (hS h a = (1, 7) ∧ hR h a 5 ≠ 0) ∧ X 108 61 L (.ref (hR h a 5) :: st) h Q := X_getR mC_108 dX7_moveIn_58 (by decide +kernel)
theorem x108_61 {b : Nat} : X 108 61 L [.ref b] h Q ↔ hS h b = (1, 4) ∧ X 62 0 [.ref b] [] h (fun r h' => X 108 64 L (pv r []) h' Q) := X_virt (as := []) (n := 0) (ml := 1) (ck := 4) mC_108 dX7_moveIn_61 (by unfold cOk; decide +kernel) ⟨rfl, rfl, by decide, Nat.le_of_ble_eq_true rfl⟩
theorem x108_64 {l1 : Value} {x : Nat} : X 108 64 [.ref x, l1] st h Q ↔ X 108 65 [.ref x, l1] (.ref x :: st) h Q := X_n mC_108 dX7_moveIn_64 rfl
theorem x108_65 {a : Nat} : X 108 65 L (.ref a :: st) h Q ↔ (hS h a = (1, 7) ∧ hR h a 1 ≠ 0) ∧ X 108 68 L (.ref (hR h a 1) :: st) h Q := X_getR mC_108 dX7_moveIn_65 (by decide +kernel)
theorem x108_68 {b : Nat} : X 108 68 L [.ref b] h Q ↔ hS h b = (1, 2) ∧ X 48 0 [.ref b] [] h (fun r h' => X 108 71 L (pv r []) h' Q) := X_virt (as := []) (n := 0) (ml := 1) (ck := 2) mC_108 dX7_moveIn_68 (by unfold cOk; decide +kernel) ⟨rfl, rfl, by decide, Nat.le_of_ble_eq_true rfl⟩
theorem x108_71 : X 108 71 L [] h Q ↔ Q none h := X_retV mC_108 dX7_moveIn_71 (by decide +kernel)
theorem mC_109 : mC 109 = cX7_isHour := rfl
theorem x109_0 {x : Int32} : X 109 0 [.int x] st h Q ↔ X 109 1 [.int x] (.int x :: st) h Q := X_n mC_109 dX7_isHour_0 rfl
theorem x109_1 {x : Int32} : X 109 1 L (.int x :: st) h Q ↔ if x < 0 then X 109 14 L st h Q else X 109 4 L st h Q := X_zlt mC_109 dX7_isHour_1 (by decide)
theorem x109_4 {x : Int32} : X 109 4 [.int x] st h Q ↔ X 109 5 [.int x] (.int x :: st) h Q := X_n mC_109 dX7_isHour_4 rfl
theorem x109_5 : X 109 5 L st h Q ↔ X 109 7 L (.int 7 :: st) h Q := X_n mC_109 dX7_isHour_5 rfl
theorem x109_7 {x y : Int32} : X 109 7 L (.int y :: .int x :: st) h Q ↔ if y < x then X 109 14 L st h Q else X 109 10 L st h Q := X_igt mC_109 dX7_isHour_7 (by decide)
theorem x109_10 : X 109 10 L st h Q ↔ X 109 11 L (.int 1 :: st) h Q := X_n mC_109 dX7_isHour_10 rfl
theorem x109_11 : X 109 11 L st h Q ↔ X 109 15 L st h Q := X_goto mC_109 dX7_isHour_11 (by decide)
theorem x109_14 : X 109 14 L st h Q ↔ X 109 15 L (.int 0 :: st) h Q := X_n mC_109 dX7_isHour_14 rfl
theorem x109_15 {v : Int32} : X 109 15 L [.int v] h Q ↔ (v = 0 ∨ v = 1) ∧ Q (some (.int v)) h := X_retZ mC_109 dX7_isHour_15 (by decide +kernel)
theorem mC_110 : mC 110 = cX7_isGuestOrWhole := rfl
theorem x110_0 {l0 : Value} {x : Int32} : X 110 0 [l0, .int x] st h Q ↔ X 110 1 [l0, .int x] (.int x :: st) h Q := X_n mC_110 dX7_isGuestOrWhole_0 rfl
theorem x110_1 : X 110 1 L st h Q ↔ X 110 2 L (.int (-1) :: st) h Q := X_n mC_110 dX7_isGuestOrWhole_1 rfl
theorem x110_2 {x y : Int32} : X 110 2 L (.int y :: .int x :: st) h Q ↔ if x = y then X 110 16 L st h Q else X 110 5 L st h Q := X_ieq mC_110 dX7_isGuestOrWhole_2 (by decide)
theorem x110_5 {l1 : Value} {x : Nat} : X 110 5 [.ref x, l1] st h Q ↔ X 110 6 [.ref x, l1] (.ref x :: st) h Q := X_n mC_110 dX7_isGuestOrWhole_5 rfl
theorem x110_6 {a : Nat} : X 110 6 L (.ref a :: st) h Q ↔ (hS h a = (1, 7) ∧ hR h a 8 ≠ 0) ∧ X 110 9 L (.ref (hR h a 8) :: st) h Q := X_getR mC_110 dX7_isGuestOrWhole_6 (by decide +kernel)
theorem x110_9 {l0 : Value} {x : Int32} : X 110 9 [l0, .int x] st h Q ↔ X 110 10 [l0, .int x] (.int x :: st) h Q := X_n mC_110 dX7_isGuestOrWhole_9 rfl
theorem x110_10 {b : Nat} {a0 : Int32} : X 110 10 L [.int a0, .ref b] h Q ↔ hS h b = (1, 0) ∧ X 13 0 [.ref b, .int a0] [] h (fun r h' => X 110 13 L (pv r []) h' Q) := X_virt (as := [.int a0]) (n := 1) (ml := 2) (ck := 0) mC_110 dX7_isGuestOrWhole_10 (by unfold cOk; decide +kernel) ⟨rfl, rfl, by decide, Nat.le_of_ble_eq_true rfl⟩
theorem x110_13 {x : Int32} : X 110 13 L (.int x :: st) h Q ↔ if x = 0 then X 110 20 L st h Q else X 110 16 L st h Q := X_zeq mC_110 dX7_isGuestOrWhole_13 (by decide)
theorem x110_16 : X 110 16 L st h Q ↔ X 110 17 L (.int 1 :: st) h Q := X_n mC_110 dX7_isGuestOrWhole_16 rfl
theorem x110_17 : X 110 17 L st h Q ↔ X 110 21 L st h Q := X_goto mC_110 dX7_isGuestOrWhole_17 (by decide)
theorem x110_20 : X 110 20 L st h Q ↔ X 110 21 L (.int 0 :: st) h Q := X_n mC_110 dX7_isGuestOrWhole_20 rfl
theorem x110_21 {v : Int32} : X 110 21 L [.int v] h Q ↔ (v = 0 ∨ v = 1) ∧ Q (some (.int v)) h := X_retZ mC_110 dX7_isGuestOrWhole_21 (by decide +kernel)
theorem mC_111 : mC 111 = cX7_isLawful := rfl
theorem x111_0 : X 111 0 L st h Q ↔ X 111 1 L (.int 0 :: st) h Q := X_n mC_111 dX7_isLawful_0 rfl
theorem x111_1 {l0 l1 : Value} {x : Int32} : X 111 1 [l0, l1] (.int x :: st) h Q ↔ c1 l0 = true ∧ X 111 2 [l0, .int x] st h Q := X_sto (kk := 1) (pc' := 2) (w := .int x) mC_111 dX7_isLawful_1 rfl (Nat.le_of_ble_eq_true rfl) rfl
theorem x111_2 {l0 : Value} {x : Int32} : X 111 2 [l0, .int x] st h Q ↔ X 111 3 [l0, .int x] (.int x :: st) h Q := X_n mC_111 dX7_isLawful_2 rfl
theorem x111_3 {l1 : Value} {x : Nat} : X 111 3 [.ref x, l1] st h Q ↔ X 111 4 [.ref x, l1] (.ref x :: st) h Q := X_n mC_111 dX7_isLawful_3 rfl
theorem x111_4 {a : Nat} : X 111 4 L (.ref a :: st) h Q ↔ (hS h a = (1, 7) ∧ hR h a 8 ≠ 0) ∧ X 111 7 L (.ref (hR h a 8) :: st) h Q := X_getR mC_111 dX7_isLawful_4 (by decide +kernel)
theorem x111_7 {b : Nat} {w0 : Value} : X 111 7 L [.ref b, w0] h Q ↔ hS h b = (1, 0) ∧ X 10 0 [.ref b] [] h (fun r h' => X 111 10 L (pv r [w0]) h' Q) := X_virt (as := []) (n := 0) (ml := 1) (ck := 0) mC_111 dX7_isLawful_7 (by unfold cOk; decide +kernel) ⟨rfl, rfl, by decide, Nat.le_of_ble_eq_true rfl⟩
theorem x111_10 {x y : Int32} : X 111 10 L (.int y :: .int x :: st) h Q ↔ if x < y then X 111 13 L st h Q else X 111 47 L st h Q := X_ige mC_111 dX7_isLawful_10 (by decide)
theorem x111_13 {l1 : Value} {x : Nat} : X 111 13 [.ref x, l1] st h Q ↔ X 111 14 [.ref x, l1] (.ref x :: st) h Q := X_n mC_111 dX7_isLawful_13 rfl
theorem x111_14 {a : Nat} : X 111 14 L (.ref a :: st) h Q ↔ (hS h a = (1, 7) ∧ hR h a 6 ≠ 0) ∧ X 111 17 L (.ref (hR h a 6) :: st) h Q := X_getR mC_111 dX7_isLawful_14 (by decide +kernel)
theorem x111_17 {l0 : Value} {x : Int32} : X 111 17 [l0, .int x] st h Q ↔ X 111 18 [l0, .int x] (.int x :: st) h Q := X_n mC_111 dX7_isLawful_17 rfl
theorem x111_18 {b : Nat} {a0 : Int32} : X 111 18 L [.int a0, .ref b] h Q ↔ hS h b = (1, 1) ∧ X 38 0 [.ref b, .int a0] [] h (fun r h' => X 111 21 L (pv r []) h' Q) := X_virt (as := [.int a0]) (n := 1) (ml := 2) (ck := 1) mC_111 dX7_isLawful_18 (by unfold cOk; decide +kernel) ⟨rfl, rfl, by decide, Nat.le_of_ble_eq_true rfl⟩
theorem x111_21 {l1 : Value} {x : Nat} : X 111 21 [.ref x, l1] st h Q ↔ X 111 22 [.ref x, l1] (.ref x :: st) h Q := X_n mC_111 dX7_isLawful_21 rfl
theorem x111_22 {a : Nat} : X 111 22 L (.ref a :: st) h Q ↔ (hS h a = (1, 7) ∧ hR h a 8 ≠ 0) ∧ X 111 25 L (.ref (hR h a 8) :: st) h Q := X_getR mC_111 dX7_isLawful_22 (by decide +kernel)
theorem x111_25 {l0 : Value} {x : Int32} : X 111 25 [l0, .int x] st h Q ↔ X 111 26 [l0, .int x] (.int x :: st) h Q := X_n mC_111 dX7_isLawful_25 rfl
theorem x111_26 {l1 : Value} {x : Nat} : X 111 26 [.ref x, l1] st h Q ↔ X 111 27 [.ref x, l1] (.ref x :: st) h Q := X_n mC_111 dX7_isLawful_26 rfl
theorem x111_27 {a : Nat} : X 111 27 L (.ref a :: st) h Q ↔ (hS h a = (1, 7) ∧ hR h a 6 ≠ 0) ∧ X 111 30 L (.ref (hR h a 6) :: st) h Q := X_getR mC_111 dX7_isLawful_27 (by decide +kernel)
theorem x111_30 {a : Nat} : X 111 30 L (.ref a :: st) h Q ↔ hS h a = (1, 1) ∧ X 111 33 L (.int (hI h a 2) :: st) h Q := X_getI mC_111 dX7_isLawful_30 (by decide +kernel)
theorem x111_33 {b : Nat} {a0 : Int32} {a1 : Int32} {w0 : Value} : X 111 33 L [.int a1, .int a0, .ref b, w0] h Q ↔ hS h b = (1, 0) ∧ X 32 0 [.ref b, .int a0, .int a1, .null, .null, .null, .null] [] h (fun r h' => X 111 36 L (pv r [w0]) h' Q) := X_virt (as := [.int a0, .int a1]) (n := 2) (ml := 7) (ck := 0) mC_111 dX7_isLawful_33 (by unfold cOk; decide +kernel) ⟨rfl, rfl, by decide, Nat.le_of_ble_eq_true rfl⟩
theorem x111_36 {x y : Int32} : X 111 36 L (.int y :: .int x :: st) h Q ↔ if x = y then X 111 41 L st h Q else X 111 39 L st h Q := X_ieq mC_111 dX7_isLawful_36 (by decide)
theorem x111_39 : X 111 39 L st h Q ↔ X 111 40 L (.int 0 :: st) h Q := X_n mC_111 dX7_isLawful_39 rfl
theorem x111_40 {v : Int32} : X 111 40 L [.int v] h Q ↔ (v = 0 ∨ v = 1) ∧ Q (some (.int v)) h := X_retZ mC_111 dX7_isLawful_40 (by decide +kernel)
theorem x111_41 {l0 : Value} {x : Int32} : X 111 41 [l0, .int x] st h Q ↔ c1 l0 = true ∧ X 111 44 [l0, .int (x + 1)] st h Q := X_inc (pc' := 44) (x := x) mC_111 dX7_isLawful_41 rfl rfl rfl
theorem x111_44 : X 111 44 L st h Q ↔ X 111 2 L st h Q := X_goto mC_111 dX7_isLawful_44 (by decide)
theorem x111_47 : X 111 47 L st h Q ↔ X 111 48 L (.int 1 :: st) h Q := X_n mC_111 dX7_isLawful_47 rfl
theorem x111_48 {v : Int32} : X 111 48 L [.int v] h Q ↔ (v = 0 ∨ v = 1) ∧ Q (some (.int v)) h := X_retZ mC_111 dX7_isLawful_48 (by decide +kernel)
theorem mC_112 : mC 112 = cX7_placeInWay := rfl
theorem x112_0 {l1 l2 : Value} {x : Nat} : X 112 0 [.ref x, l1, l2] st h Q ↔ X 112 1 [.ref x, l1, l2] (.ref x :: st) h Q := X_n mC_112 dX7_placeInWay_0 rfl
theorem x112_1 {a : Nat} : X 112 1 L (.ref a :: st) h Q ↔ (hS h a = (1, 7) ∧ hR h a 2 ≠ 0) ∧ X 112 4 L (.ref (hR h a 2) :: st) h Q := X_getR mC_112 dX7_placeInWay_1 (by decide +kernel)
theorem x112_4 {l0 l2 : Value} {x : Int32} : X 112 4 [l0, .int x, l2] st h Q ↔ X 112 5 [l0, .int x, l2] (.int x :: st) h Q := X_n mC_112 dX7_placeInWay_4 rfl
theorem x112_5 {l1 l2 : Value} {x : Nat} : X 112 5 [.ref x, l1, l2] st h Q ↔ X 112 6 [.ref x, l1, l2] (.ref x :: st) h Q := X_n mC_112 dX7_placeInWay_5 rfl
theorem x112_6 {a : Nat} : X 112 6 L (.ref a :: st) h Q ↔ (hS h a = (1, 7) ∧ hR h a 7 ≠ 0) ∧ X 112 9 L (.ref (hR h a 7) :: st) h Q := X_getR mC_112 dX7_placeInWay_6 (by decide +kernel)
theorem x112_9 {a : Nat} : X 112 9 L (.ref a :: st) h Q ↔ (hS h a = (1, 1) ∧ hR h a 0 ≠ 0) ∧ X 112 12 L (.ref (hR h a 0) :: st) h Q := X_getR mC_112 dX7_placeInWay_9 (by decide +kernel)
theorem x112_12 {b : Nat} {a0 : Int32} {a1 : Nat} : X 112 12 L [.ref a1, .int a0, .ref b] h Q ↔ hS h b = (1, 6) ∧ X 78 0 [.ref b, .int a0, .ref a1, .null, .null, .null, .null, .null] [] h (fun r h' => X 112 15 L (pv r []) h' Q) := X_virt (as := [.int a0, .ref a1]) (n := 2) (ml := 8) (ck := 6) mC_112 dX7_placeInWay_12 (by unfold cOk; decide +kernel) ⟨rfl, rfl, by decide, Nat.le_of_ble_eq_true rfl⟩
theorem x112_15 {l1 l2 : Value} {x : Nat} : X 112 15 [.ref x, l1, l2] st h Q ↔ X 112 16 [.ref x, l1, l2] (.ref x :: st) h Q := X_n mC_112 dX7_placeInWay_15 rfl
theorem x112_16 {a : Nat} : X 112 16 L (.ref a :: st) h Q ↔ (hS h a = (1, 7) ∧ hR h a 7 ≠ 0) ∧ X 112 19 L (.ref (hR h a 7) :: st) h Q := X_getR mC_112 dX7_placeInWay_16 (by decide +kernel)
theorem x112_19 {l0 l1 : Value} {x : Int32} : X 112 19 [l0, l1, .int x] st h Q ↔ X 112 20 [l0, l1, .int x] (.int x :: st) h Q := X_n mC_112 dX7_placeInWay_19 rfl
theorem x112_20 {b : Nat} {a0 : Int32} : X 112 20 L [.int a0, .ref b] h Q ↔ hS h b = (1, 1) ∧ X 38 0 [.ref b, .int a0] [] h (fun r h' => X 112 23 L (pv r []) h' Q) := X_virt (as := [.int a0]) (n := 1) (ml := 2) (ck := 1) mC_112 dX7_placeInWay_20 (by unfold cOk; decide +kernel) ⟨rfl, rfl, by decide, Nat.le_of_ble_eq_true rfl⟩
theorem x112_23 {v : Int32} : X 112 23 L [.int v] h Q ↔ Q (some (.int v)) h := X_ret mC_112 dX7_placeInWay_23 (by decide +kernel)
theorem mC_113 : mC 113 = cX7_carryIn := rfl
theorem x113_0 {l1 l2 l3 l4 : Value} {x : Nat} : X 113 0 [.ref x, l1, l2, l3, l4] st h Q ↔ X 113 1 [.ref x, l1, l2, l3, l4] (.ref x :: st) h Q := X_n mC_113 dX7_carryIn_0 rfl
theorem x113_1 {a : Nat} : X 113 1 L (.ref a :: st) h Q ↔ (hS h a = (1, 7) ∧ hR h a 8 ≠ 0) ∧ X 113 4 L (.ref (hR h a 8) :: st) h Q := X_getR mC_113 dX7_carryIn_1 (by decide +kernel)
theorem x113_4 {l0 l1 l3 l4 : Value} {x : Int32} : X 113 4 [l0, l1, .int x, l3, l4] st h Q ↔ X 113 5 [l0, l1, .int x, l3, l4] (.int x :: st) h Q := X_n mC_113 dX7_carryIn_4 rfl
theorem x113_5 {l0 l1 l2 l4 : Value} {x : Int32} : X 113 5 [l0, l1, l2, .int x, l4] st h Q ↔ X 113 6 [l0, l1, l2, .int x, l4] (.int x :: st) h Q := X_n mC_113 dX7_carryIn_5 rfl
theorem x113_6 {l0 l2 l3 l4 : Value} {x : Nat} : X 113 6 [l0, .ref x, l2, l3, l4] st h Q ↔ X 113 7 [l0, .ref x, l2, l3, l4] (.ref x :: st) h Q := X_n mC_113 dX7_carryIn_6 rfl
theorem x113_7 {b : Nat} {a0 : Int32} {a1 : Int32} {a2 : Nat} : X 113 7 L [.ref a2, .int a1, .int a0, .ref b] h Q ↔ hS h b = (1, 0) ∧ X 30 0 [.ref b, .int a0, .int a1, .ref a2, .null, .null, .null, .null, .null] [] h (fun r h' => X 113 10 L (pv r []) h' Q) := X_virt (as := [.int a0, .int a1, .ref a2]) (n := 3) (ml := 9) (ck := 0) mC_113 dX7_carryIn_7 (by unfold cOk; decide +kernel) ⟨rfl, rfl, by decide, Nat.le_of_ble_eq_true rfl⟩
theorem x113_10 {l0 l1 l2 l3 l4 : Value} {x : Int32} : X 113 10 [l0, l1, l2, l3, l4] (.int x :: st) h Q ↔ c1 l3 = true ∧ X 113 12 [l0, l1, l2, l3, .int x] st h Q := X_sto (kk := 4) (pc' := 12) (w := .int x) mC_113 dX7_carryIn_10 rfl (Nat.le_of_ble_eq_true rfl) rfl
theorem x113_12 {l0 l2 l3 l4 : Value} {x : Nat} : X 113 12 [l0, .ref x, l2, l3, l4] st h Q ↔ X 113 13 [l0, .ref x, l2, l3, l4] (.ref x :: st) h Q := X_n mC_113 dX7_carryIn_12 rfl
theorem x113_13 {l0 l1 l3 l4 : Value} {x : Int32} : X 113 13 [l0, l1, .int x, l3, l4] st h Q ↔ X 113 14 [l0, l1, .int x, l3, l4] (.int x :: st) h Q := X_n mC_113 dX7_carryIn_13 rfl
theorem x113_14 {l0 l1 l2 l4 : Value} {x : Int32} : X 113 14 [l0, l1, l2, .int x, l4] st h Q ↔ X 113 15 [l0, l1, l2, .int x, l4] (.int x :: st) h Q := X_n mC_113 dX7_carryIn_14 rfl
theorem x113_15 {l0 l1 l2 l3 : Value} {x : Int32} : X 113 15 [l0, l1, l2, l3, .int x] st h Q ↔ X 113 17 [l0, l1, l2, l3, .int x] (.int x :: st) h Q := X_n mC_113 dX7_carryIn_15 rfl
theorem x113_17 {a0 : Int32} {w0 w1 w2 : Value} : X 113 17 L [.int a0, w0, w1, w2] h Q ↔ X 179 0 [.int a0] [] h (fun r h' => X 113 20 L (pv r [w0, w1, w2]) h' Q) := X_stat (as := [.int a0]) (n := 1) (ml := 1) (ck := 9) mC_113 dX7_carryIn_17 (by unfold cOk; decide +kernel) ⟨rfl, rfl, by decide, Nat.le_of_ble_eq_true rfl⟩
theorem x113_20 {b : Nat} {a0 : Int32} {a1 : Int32} {a2 : Int32} : X 113 20 L [.int a2, .int a1, .int a0, .ref b] h Q ↔ hS h b = (1, 1) ∧ X 45 0 [.ref b, .int a0, .int a1, .int a2] [] h (fun r h' => X 113 23 L (pv r []) h' Q) := X_virt (as := [.int a0, .int a1, .int a2]) (n := 3) (ml := 4) (ck := 1) mC_113 dX7_carryIn_20 (by unfold cOk; decide +kernel) ⟨rfl, rfl, by decide, Nat.le_of_ble_eq_true rfl⟩
theorem x113_23 {l0 l1 l2 l3 : Value} {x : Int32} : X 113 23 [l0, l1, l2, l3, .int x] st h Q ↔ X 113 25 [l0, l1, l2, l3, .int x] (.int x :: st) h Q := X_n mC_113 dX7_carryIn_23 rfl
theorem x113_25 {v : Int32} : X 113 25 L [.int v] h Q ↔ Q (some (.int v)) h := X_ret mC_113 dX7_carryIn_25 (by decide +kernel)
theorem mC_114 : mC 114 = cX7_tryDraw := rfl
theorem x114_0 {l1 l2 l3 : Value} {x : Nat} : X 114 0 [.ref x, l1, l2, l3] st h Q ↔ X 114 1 [.ref x, l1, l2, l3] (.ref x :: st) h Q := X_n mC_114 dX7_tryDraw_0 rfl
theorem x114_1 {a : Nat} : X 114 1 L (.ref a :: st) h Q ↔ (hS h a = (1, 7) ∧ hR h a 8 ≠ 0) ∧ X 114 4 L (.ref (hR h a 8) :: st) h Q := X_getR mC_114 dX7_tryDraw_1 (by decide +kernel)
theorem x114_4 {b : Nat} : X 114 4 L [.ref b] h Q ↔ hS h b = (1, 0) ∧ X 10 0 [.ref b] [] h (fun r h' => X 114 7 L (pv r []) h' Q) := X_virt (as := []) (n := 0) (ml := 1) (ck := 0) mC_114 dX7_tryDraw_4 (by unfold cOk; decide +kernel) ⟨rfl, rfl, by decide, Nat.le_of_ble_eq_true rfl⟩
theorem x114_7 : X 114 7 L st h Q ↔ X 114 8 L (.int 1 :: st) h Q := X_n mC_114 dX7_tryDraw_7 rfl
theorem x114_8 {x y : Int32} : X 114 8 L (.int y :: .int x :: st) h Q ↔ if x < y then X 114 22 L st h Q else X 114 11 L st h Q := X_ilt mC_114 dX7_tryDraw_8 (by decide)
theorem x114_11 {l1 l2 l3 : Value} {x : Nat} : X 114 11 [.ref x, l1, l2, l3] st h Q ↔ X 114 12 [.ref x, l1, l2, l3] (.ref x :: st) h Q := X_n mC_114 dX7_tryDraw_11 rfl
theorem x114_12 {a : Nat} : X 114 12 L (.ref a :: st) h Q ↔ (hS h a = (1, 7) ∧ hR h a 8 ≠ 0) ∧ X 114 15 L (.ref (hR h a 8) :: st) h Q := X_getR mC_114 dX7_tryDraw_12 (by decide +kernel)
theorem x114_15 {b : Nat} : X 114 15 L [.ref b] h Q ↔ hS h b = (1, 0) ∧ X 11 0 [.ref b] [] h (fun r h' => X 114 18 L (pv r []) h' Q) := X_virt (as := []) (n := 0) (ml := 1) (ck := 0) mC_114 dX7_tryDraw_15 (by unfold cOk; decide +kernel) ⟨rfl, rfl, by decide, Nat.le_of_ble_eq_true rfl⟩
theorem x114_18 : X 114 18 L st h Q ↔ X 114 19 L (.int 1 :: st) h Q := X_n mC_114 dX7_tryDraw_18 rfl
theorem x114_19 {x y : Int32} : X 114 19 L (.int y :: .int x :: st) h Q ↔ if x < y then X 114 22 L st h Q else X 114 23 L st h Q := X_ige mC_114 dX7_tryDraw_19 (by decide)
theorem x114_22 : X 114 22 L [] h Q ↔ Q none h := X_retV mC_114 dX7_tryDraw_22 (by decide +kernel)
theorem x114_23 {l0 l2 l3 : Value} {x : Int32} : X 114 23 [l0, .int x, l2, l3] st h Q ↔ X 114 24 [l0, .int x, l2, l3] (.int x :: st) h Q := X_n mC_114 dX7_tryDraw_23 rfl
theorem x114_24 {l1 l2 l3 : Value} {x : Nat} : X 114 24 [.ref x, l1, l2, l3] st h Q ↔ X 114 25 [.ref x, l1, l2, l3] (.ref x :: st) h Q := X_n mC_114 dX7_tryDraw_24 rfl
theorem x114_25 {a : Nat} : X 114 25 L (.ref a :: st) h Q ↔ (hS h a = (1, 7) ∧ hR h a 8 ≠ 0) ∧ X 114 28 L (.ref (hR h a 8) :: st) h Q := X_getR mC_114 dX7_tryDraw_25 (by decide +kernel)
theorem x114_28 {b : Nat} {w0 : Value} : X 114 28 L [.ref b, w0] h Q ↔ hS h b = (1, 0) ∧ X 10 0 [.ref b] [] h (fun r h' => X 114 31 L (pv r [w0]) h' Q) := X_virt (as := []) (n := 0) (ml := 1) (ck := 0) mC_114 dX7_tryDraw_28 (by unfold cOk; decide +kernel) ⟨rfl, rfl, by decide, Nat.le_of_ble_eq_true rfl⟩
theorem x114_31 {x y : Int32} : X 114 31 L (.int y :: .int x :: st) h Q ↔ (¬ y = 0) ∧ X 114 32 L (.int (x - x / y * y) :: st) h Q := X_gd mC_114 dX7_tryDraw_31 rfl
theorem x114_32 {l0 l1 l2 l3 : Value} {x : Int32} : X 114 32 [l0, l1, l2, l3] (.int x :: st) h Q ↔ c1 l1 = true ∧ X 114 33 [l0, l1, .int x, l3] st h Q := X_sto (kk := 2) (pc' := 33) (w := .int x) mC_114 dX7_tryDraw_32 rfl (Nat.le_of_ble_eq_true rfl) rfl
theorem x114_33 {l0 l2 l3 : Value} {x : Int32} : X 114 33 [l0, .int x, l2, l3] st h Q ↔ X 114 34 [l0, .int x, l2, l3] (.int x :: st) h Q := X_n mC_114 dX7_tryDraw_33 rfl
theorem x114_34 : X 114 34 L st h Q ↔ X 114 36 L (.int 8 :: st) h Q := X_n mC_114 dX7_tryDraw_34 rfl
theorem x114_36 {x y : Int32} : X 114 36 L (.int y :: .int x :: st) h Q ↔ (¬ y = 0) ∧ X 114 37 L (.int (x / y) :: st) h Q := X_gd mC_114 dX7_tryDraw_36 rfl
theorem x114_37 {l1 l2 l3 : Value} {x : Nat} : X 114 37 [.ref x, l1, l2, l3] st h Q ↔ X 114 38 [.ref x, l1, l2, l3] (.ref x :: st) h Q := X_n mC_114 dX7_tryDraw_37 rfl
theorem x114_38 {a : Nat} : X 114 38 L (.ref a :: st) h Q ↔ (hS h a = (1, 7) ∧ hR h a 8 ≠ 0) ∧ X 114 41 L (.ref (hR h a 8) :: st) h Q := X_getR mC_114 dX7_tryDraw_38 (by decide +kernel)
theorem x114_41 {b : Nat} {w0 : Value} : X 114 41 L [.ref b, w0] h Q ↔ hS h b = (1, 0) ∧ X 11 0 [.ref b] [] h (fun r h' => X 114 44 L (pv r [w0]) h' Q) := X_virt (as := []) (n := 0) (ml := 1) (ck := 0) mC_114 dX7_tryDraw_41 (by unfold cOk; decide +kernel) ⟨rfl, rfl, by decide, Nat.le_of_ble_eq_true rfl⟩
theorem x114_44 {x y : Int32} : X 114 44 L (.int y :: .int x :: st) h Q ↔ (¬ y = 0) ∧ X 114 45 L (.int (x - x / y * y) :: st) h Q := X_gd mC_114 dX7_tryDraw_44 rfl
theorem x114_45 {l0 l1 l2 l3 : Value} {x : Int32} : X 114 45 [l0, l1, l2, l3] (.int x :: st) h Q ↔ c1 l2 = true ∧ X 114 46 [l0, l1, l2, .int x] st h Q := X_sto (kk := 3) (pc' := 46) (w := .int x) mC_114 dX7_tryDraw_45 rfl (Nat.le_of_ble_eq_true rfl) rfl
theorem x114_46 {l1 l2 l3 : Value} {x : Nat} : X 114 46 [.ref x, l1, l2, l3] st h Q ↔ X 114 47 [.ref x, l1, l2, l3] (.ref x :: st) h Q := X_n mC_114 dX7_tryDraw_46 rfl
theorem x114_47 {a : Nat} : X 114 47 L (.ref a :: st) h Q ↔ (hS h a = (1, 7) ∧ hR h a 7 ≠ 0) ∧ X 114 50 L (.ref (hR h a 7) :: st) h Q := X_getR mC_114 dX7_tryDraw_47 (by decide +kernel)
theorem x114_50 {l0 l1 l2 : Value} {x : Int32} : X 114 50 [l0, l1, l2, .int x] st h Q ↔ X 114 51 [l0, l1, l2, .int x] (.int x :: st) h Q := X_n mC_114 dX7_tryDraw_50 rfl
theorem x114_51 {l1 l2 l3 : Value} {x : Nat} : X 114 51 [.ref x, l1, l2, l3] st h Q ↔ X 114 52 [.ref x, l1, l2, l3] (.ref x :: st) h Q := X_n mC_114 dX7_tryDraw_51 rfl
theorem x114_52 {a : Nat} : X 114 52 L (.ref a :: st) h Q ↔ (hS h a = (1, 7) ∧ hR h a 8 ≠ 0) ∧ X 114 55 L (.ref (hR h a 8) :: st) h Q := X_getR mC_114 dX7_tryDraw_52 (by decide +kernel)
theorem x114_55 {b : Nat} {w0 w1 : Value} : X 114 55 L [.ref b, w0, w1] h Q ↔ hS h b = (1, 0) ∧ X 10 0 [.ref b] [] h (fun r h' => X 114 58 L (pv r [w0, w1]) h' Q) := X_virt (as := []) (n := 0) (ml := 1) (ck := 0) mC_114 dX7_tryDraw_55 (by unfold cOk; decide +kernel) ⟨rfl, rfl, by decide, Nat.le_of_ble_eq_true rfl⟩
theorem x114_58 {b : Nat} {a0 : Int32} {a1 : Int32} : X 114 58 L [.int a1, .int a0, .ref b] h Q ↔ hS h b = (1, 1) ∧ X 41 0 [.ref b, .int a0, .int a1] [] h (fun r h' => X 114 61 L (pv r []) h' Q) := X_virt (as := [.int a0, .int a1]) (n := 2) (ml := 3) (ck := 1) mC_114 dX7_tryDraw_58 (by unfold cOk; decide +kernel) ⟨rfl, rfl, by decide, Nat.le_of_ble_eq_true rfl⟩
theorem x114_61 {x : Int32} : X 114 61 L (.int x :: st) h Q ↔ if x = 0 then X 114 75 L st h Q else X 114 64 L st h Q := X_zeq mC_114 dX7_tryDraw_61 (by decide)
theorem x114_64 {l1 l2 l3 : Value} {x : Nat} : X 114 64 [.ref x, l1, l2, l3] st h Q ↔ X 114 65 [.ref x, l1, l2, l3] (.ref x :: st) h Q := X_n mC_114 dX7_tryDraw_64 rfl
theorem x114_65 {l1 l2 l3 : Value} {x : Nat} : X 114 65 [.ref x, l1, l2, l3] st h Q ↔ X 114 66 [.ref x, l1, l2, l3] (.ref x :: st) h Q := X_n mC_114 dX7_tryDraw_65 rfl
theorem x114_66 {a : Nat} : X 114 66 L (.ref a :: st) h Q ↔ (hS h a = (1, 7) ∧ hR h a 7 ≠ 0) ∧ X 114 69 L (.ref (hR h a 7) :: st) h Q := X_getR mC_114 dX7_tryDraw_66 (by decide +kernel)
theorem x114_69 {l0 l1 l3 : Value} {x : Int32} : X 114 69 [l0, l1, .int x, l3] st h Q ↔ X 114 70 [l0, l1, .int x, l3] (.int x :: st) h Q := X_n mC_114 dX7_tryDraw_69 rfl
theorem x114_70 {l0 l1 l2 : Value} {x : Int32} : X 114 70 [l0, l1, l2, .int x] st h Q ↔ X 114 71 [l0, l1, l2, .int x] (.int x :: st) h Q := X_n mC_114 dX7_tryDraw_70 rfl
theorem x114_71 {b : Nat} {a0 : Nat} {a1 : Int32} {a2 : Int32} : X 114 71 L [.int a2, .int a1, .ref a0, .ref b] h Q ↔ hS h b = (1, 7) ∧ X 113 0 [.ref b, .ref a0, .int a1, .int a2, .null] [] h (fun r h' => X 114 74 L (pv r []) h' Q) := X_virt (as := [.ref a0, .int a1, .int a2]) (n := 3) (ml := 5) (ck := 7) mC_114 dX7_tryDraw_71 (by unfold cOk; decide +kernel) ⟨rfl, rfl, by decide, Nat.le_of_ble_eq_true rfl⟩
theorem x114_74 {x : Int32} : X 114 74 L (.int x :: st) h Q ↔ X 114 75 L st h Q := X_n mC_114 dX7_tryDraw_74 rfl
theorem x114_75 : X 114 75 L [] h Q ↔ Q none h := X_retV mC_114 dX7_tryDraw_75 (by decide +kernel)
theorem mC_115 : mC 115 = cX7_drawOf := rfl
theorem x115_0 : X 115 0 L st h Q ↔ X 115 3 L (.long 7919 :: st) h Q := X_ldc2 mC_115 dX7_drawOf_0 (by decide +kernel)
theorem x115_3 {l1 l2 l3 : Value} {x : Int32} : X 115 3 [.int x, l1, l2, l3] st h Q ↔ X 115 4 [.int x, l1, l2, l3] (.int x :: st) h Q := X_n mC_115 dX7_drawOf_3 rfl
theorem x115_4 {x : Int32} : X 115 4 L (.int x :: st) h Q ↔ X 115 5 L (.long x.toInt64 :: st) h Q := X_n mC_115 dX7_drawOf_4 rfl
theorem x115_5 {x y : Int64} : X 115 5 L (.long y :: .long x :: st) h Q ↔ X 115 6 L (.long (x * y) :: st) h Q := X_n mC_115 dX7_drawOf_5 rfl
theorem x115_6 : X 115 6 L st h Q ↔ X 115 9 L (.long 6151 :: st) h Q := X_ldc2 mC_115 dX7_drawOf_6 (by decide +kernel)
theorem x115_9 {l0 l2 l3 : Value} {x : Int32} : X 115 9 [l0, .int x, l2, l3] st h Q ↔ X 115 10 [l0, .int x, l2, l3] (.int x :: st) h Q := X_n mC_115 dX7_drawOf_9 rfl
theorem x115_10 {x : Int32} : X 115 10 L (.int x :: st) h Q ↔ X 115 11 L (.long x.toInt64 :: st) h Q := X_n mC_115 dX7_drawOf_10 rfl
theorem x115_11 {x y : Int64} : X 115 11 L (.long y :: .long x :: st) h Q ↔ X 115 12 L (.long (x * y) :: st) h Q := X_n mC_115 dX7_drawOf_11 rfl
theorem x115_12 {x y : Int64} : X 115 12 L (.long y :: .long x :: st) h Q ↔ X 115 13 L (.long (x + y) :: st) h Q := X_n mC_115 dX7_drawOf_12 rfl
theorem x115_13 : X 115 13 L st h Q ↔ X 115 14 L (.long 1 :: st) h Q := X_n mC_115 dX7_drawOf_13 rfl
theorem x115_14 {x y : Int64} : X 115 14 L (.long y :: .long x :: st) h Q ↔ X 115 15 L (.long (x + y) :: st) h Q := X_n mC_115 dX7_drawOf_14 rfl
theorem x115_15 {l0 l1 l2 l3 : Value} {x : Int64} : X 115 15 [l0, l1, l2, l3] (.long x :: st) h Q ↔ c1 l1 = true ∧ X 115 16 [l0, l1, .long x, .null] st h Q := X_sto2 (kk := 2) (pc' := 16) mC_115 dX7_drawOf_15 rfl (Nat.le_of_ble_eq_true rfl) rfl
theorem x115_16 {l0 l1 l3 : Value} {x : Int64} : X 115 16 [l0, l1, .long x, l3] st h Q ↔ X 115 17 [l0, l1, .long x, l3] (.long x :: st) h Q := X_n mC_115 dX7_drawOf_16 rfl
theorem x115_17 {l0 l1 l3 : Value} {x : Int64} : X 115 17 [l0, l1, .long x, l3] st h Q ↔ X 115 18 [l0, l1, .long x, l3] (.long x :: st) h Q := X_n mC_115 dX7_drawOf_17 rfl
theorem x115_18 {x y : Int64} : X 115 18 L (.long y :: .long x :: st) h Q ↔ X 115 19 L (.long (x * y) :: st) h Q := X_n mC_115 dX7_drawOf_18 rfl
theorem x115_19 : X 115 19 L st h Q ↔ X 115 22 L (.long 65521 :: st) h Q := X_ldc2 mC_115 dX7_drawOf_19 (by decide +kernel)
theorem x115_22 {x y : Int64} : X 115 22 L (.long y :: .long x :: st) h Q ↔ (¬ y = 0) ∧ X 115 23 L (.long (x - x / y * y) :: st) h Q := X_gd mC_115 dX7_drawOf_22 rfl
theorem x115_23 : X 115 23 L st h Q ↔ X 115 26 L (.long 4 :: st) h Q := X_ldc2 mC_115 dX7_drawOf_23 (by decide +kernel)
theorem x115_26 {x y : Int64} : X 115 26 L (.long y :: .long x :: st) h Q ↔ (¬ y = 0) ∧ X 115 27 L (.long (x / y) :: st) h Q := X_gd mC_115 dX7_drawOf_26 rfl
theorem x115_27 {x : Int64} : X 115 27 L (.long x :: st) h Q ↔ X 115 28 L (.int x.toInt32 :: st) h Q := X_n mC_115 dX7_drawOf_27 rfl
theorem x115_28 {v : Int32} : X 115 28 L [.int v] h Q ↔ Q (some (.int v)) h := X_ret mC_115 dX7_drawOf_28 (by decide +kernel)
theorem mC_116 : mC 116 = cX7_quietHundredths := rfl
theorem x116_0 {l1 l2 l3 l4 l5 l6 : Value} {x : Nat} : X 116 0 [.ref x, l1, l2, l3, l4, l5, l6] st h Q ↔ X 116 1 [.ref x, l1, l2, l3, l4, l5, l6] (.ref x :: st) h Q := X_n mC_116 dX7_quietHundredths_0 rfl
theorem x116_1 {l1 l2 l3 l4 l5 l6 : Value} {x : Nat} : X 116 1 [.ref x, l1, l2, l3, l4, l5, l6] st h Q ↔ X 116 2 [.ref x, l1, l2, l3, l4, l5, l6] (.ref x :: st) h Q := X_n mC_116 dX7_quietHundredths_1 rfl
theorem x116_2 {a : Nat} : X 116 2 L (.ref a :: st) h Q ↔ (hS h a = (1, 7) ∧ hR h a 6 ≠ 0) ∧ X 116 5 L (.ref (hR h a 6) :: st) h Q := X_getR mC_116 dX7_quietHundredths_2 (by decide +kernel)
theorem x116_5 {l0 l2 l3 l4 l5 l6 : Value} {x : Int32} : X 116 5 [l0, .int x, l2, l3, l4, l5, l6] st h Q ↔ X 116 6 [l0, .int x, l2, l3, l4, l5, l6] (.int x :: st) h Q := X_n mC_116 dX7_quietHundredths_5 rfl
theorem x116_6 {b : Nat} {a0 : Int32} {w0 : Value} : X 116 6 L [.int a0, .ref b, w0] h Q ↔ hS h b = (1, 1) ∧ X 38 0 [.ref b, .int a0] [] h (fun r h' => X 116 9 L (pv r [w0]) h' Q) := X_virt (as := [.int a0]) (n := 1) (ml := 2) (ck := 1) mC_116 dX7_quietHundredths_6 (by unfold cOk; decide +kernel) ⟨rfl, rfl, by decide, Nat.le_of_ble_eq_true rfl⟩
theorem x116_9 : X 116 9 L st h Q ↔ X 116 10 L (.int 1 :: st) h Q := X_n mC_116 dX7_quietHundredths_9 rfl
theorem x116_10 {x y : Int32} : X 116 10 L (.int y :: .int x :: st) h Q ↔ X 116 11 L (.int (x - y) :: st) h Q := X_n mC_116 dX7_quietHundredths_10 rfl
theorem x116_11 {l0 l2 l3 l4 l5 l6 : Value} {x : Int32} : X 116 11 [l0, .int x, l2, l3, l4, l5, l6] st h Q ↔ X 116 12 [l0, .int x, l2, l3, l4, l5, l6] (.int x :: st) h Q := X_n mC_116 dX7_quietHundredths_11 rfl
theorem x116_12 {b : Nat} {a0 : Int32} {a1 : Int32} : X 116 12 L [.int a1, .int a0, .ref b] h Q ↔ hS h b = (1, 7) ∧ X 117 0 [.ref b, .int a0, .int a1, .null] [] h (fun r h' => X 116 15 L (pv r []) h' Q) := X_virt (as := [.int a0, .int a1]) (n := 2) (ml := 4) (ck := 7) mC_116 dX7_quietHundredths_12 (by unfold cOk; decide +kernel) ⟨rfl, rfl, by decide, Nat.le_of_ble_eq_true rfl⟩
theorem x116_15 {l0 l1 l2 l3 l4 l5 l6 : Value} {x : Int32} : X 116 15 [l0, l1, l2, l3, l4, l5, l6] (.int x :: st) h Q ↔ c1 l2 = true ∧ X 116 16 [l0, l1, l2, .int x, l4, l5, l6] st h Q := X_sto (kk := 3) (pc' := 16) (w := .int x) mC_116 dX7_quietHundredths_15 rfl (Nat.le_of_ble_eq_true rfl) rfl
theorem x116_16 {l1 l2 l3 l4 l5 l6 : Value} {x : Nat} : X 116 16 [.ref x, l1, l2, l3, l4, l5, l6] st h Q ↔ X 116 17 [.ref x, l1, l2, l3, l4, l5, l6] (.ref x :: st) h Q := X_n mC_116 dX7_quietHundredths_16 rfl
theorem x116_17 {l1 l2 l3 l4 l5 l6 : Value} {x : Nat} : X 116 17 [.ref x, l1, l2, l3, l4, l5, l6] st h Q ↔ X 116 18 [.ref x, l1, l2, l3, l4, l5, l6] (.ref x :: st) h Q := X_n mC_116 dX7_quietHundredths_17 rfl
theorem x116_18 {a : Nat} : X 116 18 L (.ref a :: st) h Q ↔ (hS h a = (1, 7) ∧ hR h a 6 ≠ 0) ∧ X 116 21 L (.ref (hR h a 6) :: st) h Q := X_getR mC_116 dX7_quietHundredths_18 (by decide +kernel)
theorem x116_21 {l0 l2 l3 l4 l5 l6 : Value} {x : Int32} : X 116 21 [l0, .int x, l2, l3, l4, l5, l6] st h Q ↔ X 116 22 [l0, .int x, l2, l3, l4, l5, l6] (.int x :: st) h Q := X_n mC_116 dX7_quietHundredths_21 rfl
theorem x116_22 {b : Nat} {a0 : Int32} {w0 : Value} : X 116 22 L [.int a0, .ref b, w0] h Q ↔ hS h b = (1, 1) ∧ X 38 0 [.ref b, .int a0] [] h (fun r h' => X 116 25 L (pv r [w0]) h' Q) := X_virt (as := [.int a0]) (n := 1) (ml := 2) (ck := 1) mC_116 dX7_quietHundredths_22 (by unfold cOk; decide +kernel) ⟨rfl, rfl, by decide, Nat.le_of_ble_eq_true rfl⟩
theorem x116_25 : X 116 25 L st h Q ↔ X 116 26 L (.int 1 :: st) h Q := X_n mC_116 dX7_quietHundredths_25 rfl
theorem x116_26 {x y : Int32} : X 116 26 L (.int y :: .int x :: st) h Q ↔ X 116 27 L (.int (x + y) :: st) h Q := X_n mC_116 dX7_quietHundredths_26 rfl
theorem x116_27 {l0 l2 l3 l4 l5 l6 : Value} {x : Int32} : X 116 27 [l0, .int x, l2, l3, l4, l5, l6] st h Q ↔ X 116 28 [l0, .int x, l2, l3, l4, l5, l6] (.int x :: st) h Q := X_n mC_116 dX7_quietHundredths_27 rfl
theorem x116_28 {b : Nat} {a0 : Int32} {a1 : Int32} : X 116 28 L [.int a1, .int a0, .ref b] h Q ↔ hS h b = (1, 7) ∧ X 117 0 [.ref b, .int a0, .int a1, .null] [] h (fun r h' => X 116 31 L (pv r []) h' Q) := X_virt (as := [.int a0, .int a1]) (n := 2) (ml := 4) (ck := 7) mC_116 dX7_quietHundredths_28 (by unfold cOk; decide +kernel) ⟨rfl, rfl, by decide, Nat.le_of_ble_eq_true rfl⟩
theorem x116_31 {l0 l1 l2 l3 l4 l5 l6 : Value} {x : Int32} : X 116 31 [l0, l1, l2, l3, l4, l5, l6] (.int x :: st) h Q ↔ c1 l3 = true ∧ X 116 33 [l0, l1, l2, l3, .int x, l5, l6] st h Q := X_sto (kk := 4) (pc' := 33) (w := .int x) mC_116 dX7_quietHundredths_31 rfl (Nat.le_of_ble_eq_true rfl) rfl
theorem x116_33 {l1 l2 l3 l4 l5 l6 : Value} {x : Nat} : X 116 33 [.ref x, l1, l2, l3, l4, l5, l6] st h Q ↔ X 116 34 [.ref x, l1, l2, l3, l4, l5, l6] (.ref x :: st) h Q := X_n mC_116 dX7_quietHundredths_33 rfl
theorem x116_34 {a : Nat} : X 116 34 L (.ref a :: st) h Q ↔ (hS h a = (1, 7) ∧ hR h a 8 ≠ 0) ∧ X 116 37 L (.ref (hR h a 8) :: st) h Q := X_getR mC_116 dX7_quietHundredths_34 (by decide +kernel)
theorem x116_37 {l0 l2 l3 l4 l5 l6 : Value} {x : Int32} : X 116 37 [l0, .int x, l2, l3, l4, l5, l6] st h Q ↔ X 116 38 [l0, .int x, l2, l3, l4, l5, l6] (.int x :: st) h Q := X_n mC_116 dX7_quietHundredths_37 rfl
theorem x116_38 {b : Nat} {a0 : Int32} : X 116 38 L [.int a0, .ref b] h Q ↔ hS h b = (1, 0) ∧ X 19 0 [.ref b, .int a0] [] h (fun r h' => X 116 41 L (pv r []) h' Q) := X_virt (as := [.int a0]) (n := 1) (ml := 2) (ck := 0) mC_116 dX7_quietHundredths_38 (by unfold cOk; decide +kernel) ⟨rfl, rfl, by decide, Nat.le_of_ble_eq_true rfl⟩
theorem x116_41 {l0 l1 l2 l3 l4 l5 l6 : Value} {x : Int32} : X 116 41 [l0, l1, l2, l3, l4, l5, l6] (.int x :: st) h Q ↔ c1 l4 = true ∧ X 116 43 [l0, l1, l2, l3, l4, .int x, l6] st h Q := X_sto (kk := 5) (pc' := 43) (w := .int x) mC_116 dX7_quietHundredths_41 rfl (Nat.le_of_ble_eq_true rfl) rfl
theorem x116_43 : X 116 43 L st h Q ↔ X 116 45 L (.int 10 :: st) h Q := X_n mC_116 dX7_quietHundredths_43 rfl
theorem x116_45 {l0 l1 l3 l4 l5 l6 : Value} {x : Int32} : X 116 45 [l0, l1, .int x, l3, l4, l5, l6] st h Q ↔ X 116 46 [l0, l1, .int x, l3, l4, l5, l6] (.int x :: st) h Q := X_n mC_116 dX7_quietHundredths_45 rfl
theorem x116_46 {x y : Int32} : X 116 46 L (.int y :: .int x :: st) h Q ↔ X 116 47 L (.int (x - y) :: st) h Q := X_n mC_116 dX7_quietHundredths_46 rfl
theorem x116_47 : X 116 47 L st h Q ↔ X 116 49 L (.int 10 :: st) h Q := X_n mC_116 dX7_quietHundredths_47 rfl
theorem x116_49 {l0 l1 l3 l4 l5 l6 : Value} {x : Int32} : X 116 49 [l0, l1, .int x, l3, l4, l5, l6] st h Q ↔ X 116 50 [l0, l1, .int x, l3, l4, l5, l6] (.int x :: st) h Q := X_n mC_116 dX7_quietHundredths_49 rfl
theorem x116_50 {x y : Int32} : X 116 50 L (.int y :: .int x :: st) h Q ↔ X 116 51 L (.int (x - y) :: st) h Q := X_n mC_116 dX7_quietHundredths_50 rfl
theorem x116_51 {x y : Int32} : X 116 51 L (.int y :: .int x :: st) h Q ↔ X 116 52 L (.int (x * y) :: st) h Q := X_n mC_116 dX7_quietHundredths_51 rfl
theorem x116_52 {l0 l1 l2 l3 l4 l5 l6 : Value} {x : Int32} : X 116 52 [l0, l1, l2, l3, l4, l5, l6] (.int x :: st) h Q ↔ c1 l5 = true ∧ X 116 54 [l0, l1, l2, l3, l4, l5, .int x] st h Q := X_sto (kk := 6) (pc' := 54) (w := .int x) mC_116 dX7_quietHundredths_52 rfl (Nat.le_of_ble_eq_true rfl) rfl
theorem x116_54 {l0 l1 l2 l4 l5 l6 : Value} {x : Int32} : X 116 54 [l0, l1, l2, .int x, l4, l5, l6] st h Q ↔ X 116 55 [l0, l1, l2, .int x, l4, l5, l6] (.int x :: st) h Q := X_n mC_116 dX7_quietHundredths_54 rfl
theorem x116_55 {l0 l1 l2 l3 l4 l6 : Value} {x : Int32} : X 116 55 [l0, l1, l2, l3, l4, .int x, l6] st h Q ↔ X 116 57 [l0, l1, l2, l3, l4, .int x, l6] (.int x :: st) h Q := X_n mC_116 dX7_quietHundredths_55 rfl
theorem x116_57 {x y : Int32} : X 116 57 L (.int y :: .int x :: st) h Q ↔ if x < y then X 116 60 L st h Q else X 116 71 L st h Q := X_ige mC_116 dX7_quietHundredths_57 (by decide)
theorem x116_60 {l0 l1 l2 l3 l4 l5 : Value} {x : Int32} : X 116 60 [l0, l1, l2, l3, l4, l5, .int x] st h Q ↔ X 116 62 [l0, l1, l2, l3, l4, l5, .int x] (.int x :: st) h Q := X_n mC_116 dX7_quietHundredths_60 rfl
theorem x116_62 {l0 l1 l3 l4 l5 l6 : Value} {x : Int32} : X 116 62 [l0, l1, .int x, l3, l4, l5, l6] st h Q ↔ X 116 63 [l0, l1, .int x, l3, l4, l5, l6] (.int x :: st) h Q := X_n mC_116 dX7_quietHundredths_62 rfl
theorem x116_63 : X 116 63 L st h Q ↔ X 116 65 L (.int 10 :: st) h Q := X_n mC_116 dX7_quietHundredths_63 rfl
theorem x116_65 {l0 l1 l3 l4 l5 l6 : Value} {x : Int32} : X 116 65 [l0, l1, .int x, l3, l4, l5, l6] st h Q ↔ X 116 66 [l0, l1, .int x, l3, l4, l5, l6] (.int x :: st) h Q := X_n mC_116 dX7_quietHundredths_65 rfl
theorem x116_66 {x y : Int32} : X 116 66 L (.int y :: .int x :: st) h Q ↔ X 116 67 L (.int (x - y) :: st) h Q := X_n mC_116 dX7_quietHundredths_66 rfl
theorem x116_67 {x y : Int32} : X 116 67 L (.int y :: .int x :: st) h Q ↔ X 116 68 L (.int (x * y) :: st) h Q := X_n mC_116 dX7_quietHundredths_67 rfl
theorem x116_68 {x y : Int32} : X 116 68 L (.int y :: .int x :: st) h Q ↔ X 116 69 L (.int (x + y) :: st) h Q := X_n mC_116 dX7_quietHundredths_68 rfl
theorem x116_69 {l0 l1 l2 l3 l4 l5 l6 : Value} {x : Int32} : X 116 69 [l0, l1, l2, l3, l4, l5, l6] (.int x :: st) h Q ↔ c1 l5 = true ∧ X 116 71 [l0, l1, l2, l3, l4, l5, .int x] st h Q := X_sto (kk := 6) (pc' := 71) (w := .int x) mC_116 dX7_quietHundredths_69 rfl (Nat.le_of_ble_eq_true rfl) rfl
theorem x116_71 {l0 l1 l2 l3 l5 l6 : Value} {x : Int32} : X 116 71 [l0, l1, l2, l3, .int x, l5, l6] st h Q ↔ X 116 73 [l0, l1, l2, l3, .int x, l5, l6] (.int x :: st) h Q := X_n mC_116 dX7_quietHundredths_71 rfl
theorem x116_73 {l0 l1 l2 l3 l4 l6 : Value} {x : Int32} : X 116 73 [l0, l1, l2, l3, l4, .int x, l6] st h Q ↔ X 116 75 [l0, l1, l2, l3, l4, .int x, l6] (.int x :: st) h Q := X_n mC_116 dX7_quietHundredths_73 rfl
theorem x116_75 {x y : Int32} : X 116 75 L (.int y :: .int x :: st) h Q ↔ if x < y then X 116 78 L st h Q else X 116 89 L st h Q := X_ige mC_116 dX7_quietHundredths_75 (by decide)
theorem x116_78 {l0 l1 l2 l3 l4 l5 : Value} {x : Int32} : X 116 78 [l0, l1, l2, l3, l4, l5, .int x] st h Q ↔ X 116 80 [l0, l1, l2, l3, l4, l5, .int x] (.int x :: st) h Q := X_n mC_116 dX7_quietHundredths_78 rfl
theorem x116_80 : X 116 80 L st h Q ↔ X 116 82 L (.int 10 :: st) h Q := X_n mC_116 dX7_quietHundredths_80 rfl
theorem x116_82 {l0 l1 l3 l4 l5 l6 : Value} {x : Int32} : X 116 82 [l0, l1, .int x, l3, l4, l5, l6] st h Q ↔ X 116 83 [l0, l1, .int x, l3, l4, l5, l6] (.int x :: st) h Q := X_n mC_116 dX7_quietHundredths_82 rfl
theorem x116_83 {x y : Int32} : X 116 83 L (.int y :: .int x :: st) h Q ↔ X 116 84 L (.int (x - y) :: st) h Q := X_n mC_116 dX7_quietHundredths_83 rfl
theorem x116_84 {l0 l1 l3 l4 l5 l6 : Value} {x : Int32} : X 116 84 [l0, l1, .int x, l3, l4, l5, l6] st h Q ↔ X 116 85 [l0, l1, .int x, l3, l4, l5, l6] (.int x :: st) h Q := X_n mC_116 dX7_quietHundredths_84 rfl
theorem x116_85 {x y : Int32} : X 116 85 L (.int y :: .int x :: st) h Q ↔ X 116 86 L (.int (x * y) :: st) h Q := X_n mC_116 dX7_quietHundredths_85 rfl
theorem x116_86 {x y : Int32} : X 116 86 L (.int y :: .int x :: st) h Q ↔ X 116 87 L (.int (x + y) :: st) h Q := X_n mC_116 dX7_quietHundredths_86 rfl
theorem x116_87 {l0 l1 l2 l3 l4 l5 l6 : Value} {x : Int32} : X 116 87 [l0, l1, l2, l3, l4, l5, l6] (.int x :: st) h Q ↔ c1 l5 = true ∧ X 116 89 [l0, l1, l2, l3, l4, l5, .int x] st h Q := X_sto (kk := 6) (pc' := 89) (w := .int x) mC_116 dX7_quietHundredths_87 rfl (Nat.le_of_ble_eq_true rfl) rfl
theorem x116_89 {l0 l1 l2 l4 l5 l6 : Value} {x : Int32} : X 116 89 [l0, l1, l2, .int x, l4, l5, l6] st h Q ↔ X 116 90 [l0, l1, l2, .int x, l4, l5, l6] (.int x :: st) h Q := X_n mC_116 dX7_quietHundredths_89 rfl
theorem x116_90 {l0 l1 l2 l3 l5 l6 : Value} {x : Int32} : X 116 90 [l0, l1, l2, l3, .int x, l5, l6] st h Q ↔ X 116 92 [l0, l1, l2, l3, .int x, l5, l6] (.int x :: st) h Q := X_n mC_116 dX7_quietHundredths_90 rfl
theorem x116_92 {x y : Int32} : X 116 92 L (.int y :: .int x :: st) h Q ↔ X 116 93 L (.int (x + y) :: st) h Q := X_n mC_116 dX7_quietHundredths_92 rfl
theorem x116_93 {l0 l1 l2 l3 l4 l6 : Value} {x : Int32} : X 116 93 [l0, l1, l2, l3, l4, .int x, l6] st h Q ↔ X 116 95 [l0, l1, l2, l3, l4, .int x, l6] (.int x :: st) h Q := X_n mC_116 dX7_quietHundredths_93 rfl
theorem x116_95 {x y : Int32} : X 116 95 L (.int y :: .int x :: st) h Q ↔ if x < y then X 116 98 L st h Q else X 116 106 L st h Q := X_ige mC_116 dX7_quietHundredths_95 (by decide)
theorem x116_98 {l0 l1 l2 l3 l4 l5 : Value} {x : Int32} : X 116 98 [l0, l1, l2, l3, l4, l5, .int x] st h Q ↔ X 116 100 [l0, l1, l2, l3, l4, l5, .int x] (.int x :: st) h Q := X_n mC_116 dX7_quietHundredths_98 rfl
theorem x116_100 {l0 l1 l3 l4 l5 l6 : Value} {x : Int32} : X 116 100 [l0, l1, .int x, l3, l4, l5, l6] st h Q ↔ X 116 101 [l0, l1, .int x, l3, l4, l5, l6] (.int x :: st) h Q := X_n mC_116 dX7_quietHundredths_100 rfl
theorem x116_101 {l0 l1 l3 l4 l5 l6 : Value} {x : Int32} : X 116 101 [l0, l1, .int x, l3, l4, l5, l6] st h Q ↔ X 116 102 [l0, l1, .int x, l3, l4, l5, l6] (.int x :: st) h Q := X_n mC_116 dX7_quietHundredths_101 rfl
theorem x116_102 {x y : Int32} : X 116 102 L (.int y :: .int x :: st) h Q ↔ X 116 103 L (.int (x * y) :: st) h Q := X_n mC_116 dX7_quietHundredths_102 rfl
theorem x116_103 {x y : Int32} : X 116 103 L (.int y :: .int x :: st) h Q ↔ X 116 104 L (.int (x + y) :: st) h Q := X_n mC_116 dX7_quietHundredths_103 rfl
theorem x116_104 {l0 l1 l2 l3 l4 l5 l6 : Value} {x : Int32} : X 116 104 [l0, l1, l2, l3, l4, l5, l6] (.int x :: st) h Q ↔ c1 l5 = true ∧ X 116 106 [l0, l1, l2, l3, l4, l5, .int x] st h Q := X_sto (kk := 6) (pc' := 106) (w := .int x) mC_116 dX7_quietHundredths_104 rfl (Nat.le_of_ble_eq_true rfl) rfl
theorem x116_106 {l0 l1 l2 l3 l4 l5 : Value} {x : Int32} : X 116 106 [l0, l1, l2, l3, l4, l5, .int x] st h Q ↔ X 116 108 [l0, l1, l2, l3, l4, l5, .int x] (.int x :: st) h Q := X_n mC_116 dX7_quietHundredths_106 rfl
theorem x116_108 {v : Int32} : X 116 108 L [.int v] h Q ↔ Q (some (.int v)) h := X_ret mC_116 dX7_quietHundredths_108 (by decide +kernel)
theorem mC_117 : mC 117 = cX7_soundFromBed := rfl
theorem x117_0 {l1 l2 l3 : Value} {x : Nat} : X 117 0 [.ref x, l1, l2, l3] st h Q ↔ X 117 1 [.ref x, l1, l2, l3] (.ref x :: st) h Q := X_n mC_117 dX7_soundFromBed_0 rfl
theorem x117_1 {a : Nat} : X 117 1 L (.ref a :: st) h Q ↔ (hS h a = (1, 7) ∧ hR h a 8 ≠ 0) ∧ X 117 4 L (.ref (hR h a 8) :: st) h Q := X_getR mC_117 dX7_soundFromBed_1 (by decide +kernel)
theorem x117_4 {l0 l2 l3 : Value} {x : Int32} : X 117 4 [l0, .int x, l2, l3] st h Q ↔ X 117 5 [l0, .int x, l2, l3] (.int x :: st) h Q := X_n mC_117 dX7_soundFromBed_4 rfl
theorem x117_5 {b : Nat} {a0 : Int32} : X 117 5 L [.int a0, .ref b] h Q ↔ hS h b = (1, 0) ∧ X 14 0 [.ref b, .int a0] [] h (fun r h' => X 117 8 L (pv r []) h' Q) := X_virt (as := [.int a0]) (n := 1) (ml := 2) (ck := 0) mC_117 dX7_soundFromBed_5 (by unfold cOk; decide +kernel) ⟨rfl, rfl, by decide, Nat.le_of_ble_eq_true rfl⟩
theorem x117_8 {x : Int32} : X 117 8 L (.int x :: st) h Q ↔ if x = 0 then X 117 29 L st h Q else X 117 11 L st h Q := X_zeq mC_117 dX7_soundFromBed_8 (by decide)
theorem x117_11 {l1 l2 l3 : Value} {x : Nat} : X 117 11 [.ref x, l1, l2, l3] st h Q ↔ X 117 12 [.ref x, l1, l2, l3] (.ref x :: st) h Q := X_n mC_117 dX7_soundFromBed_11 rfl
theorem x117_12 {a : Nat} : X 117 12 L (.ref a :: st) h Q ↔ (hS h a = (1, 7) ∧ hR h a 6 ≠ 0) ∧ X 117 15 L (.ref (hR h a 6) :: st) h Q := X_getR mC_117 dX7_soundFromBed_12 (by decide +kernel)
theorem x117_15 {l0 l2 l3 : Value} {x : Int32} : X 117 15 [l0, .int x, l2, l3] st h Q ↔ X 117 16 [l0, .int x, l2, l3] (.int x :: st) h Q := X_n mC_117 dX7_soundFromBed_15 rfl
theorem x117_16 {l1 l2 l3 : Value} {x : Nat} : X 117 16 [.ref x, l1, l2, l3] st h Q ↔ X 117 17 [.ref x, l1, l2, l3] (.ref x :: st) h Q := X_n mC_117 dX7_soundFromBed_16 rfl
theorem x117_17 {a : Nat} : X 117 17 L (.ref a :: st) h Q ↔ (hS h a = (1, 7) ∧ hR h a 8 ≠ 0) ∧ X 117 20 L (.ref (hR h a 8) :: st) h Q := X_getR mC_117 dX7_soundFromBed_17 (by decide +kernel)
theorem x117_20 {b : Nat} {w0 w1 : Value} : X 117 20 L [.ref b, w0, w1] h Q ↔ hS h b = (1, 0) ∧ X 10 0 [.ref b] [] h (fun r h' => X 117 23 L (pv r [w0, w1]) h' Q) := X_virt (as := []) (n := 0) (ml := 1) (ck := 0) mC_117 dX7_soundFromBed_20 (by unfold cOk; decide +kernel) ⟨rfl, rfl, by decide, Nat.le_of_ble_eq_true rfl⟩
theorem x117_23 {b : Nat} {a0 : Int32} {a1 : Int32} : X 117 23 L [.int a1, .int a0, .ref b] h Q ↔ hS h b = (1, 1) ∧ X 40 0 [.ref b, .int a0, .int a1, .null] [] h (fun r h' => X 117 26 L (pv r []) h' Q) := X_virt (as := [.int a0, .int a1]) (n := 2) (ml := 4) (ck := 1) mC_117 dX7_soundFromBed_23 (by unfold cOk; decide +kernel) ⟨rfl, rfl, by decide, Nat.le_of_ble_eq_true rfl⟩
theorem x117_26 : X 117 26 L st h Q ↔ X 117 31 L st h Q := X_goto mC_117 dX7_soundFromBed_26 (by decide)
theorem x117_29 : X 117 29 L st h Q ↔ X 117 31 L (.int (-4) :: st) h Q := X_n mC_117 dX7_soundFromBed_29 rfl
theorem x117_31 {l0 l1 l2 l3 : Value} {x : Int32} : X 117 31 [l0, l1, l2, l3] (.int x :: st) h Q ↔ c1 l2 = true ∧ X 117 32 [l0, l1, l2, .int x] st h Q := X_sto (kk := 3) (pc' := 32) (w := .int x) mC_117 dX7_soundFromBed_31 rfl (Nat.le_of_ble_eq_true rfl) rfl
theorem x117_32 {l1 l2 l3 : Value} {x : Nat} : X 117 32 [.ref x, l1, l2, l3] st h Q ↔ X 117 33 [.ref x, l1, l2, l3] (.ref x :: st) h Q := X_n mC_117 dX7_soundFromBed_32 rfl
theorem x117_33 {a : Nat} : X 117 33 L (.ref a :: st) h Q ↔ (hS h a = (1, 7) ∧ hR h a 8 ≠ 0) ∧ X 117 36 L (.ref (hR h a 8) :: st) h Q := X_getR mC_117 dX7_soundFromBed_33 (by decide +kernel)
theorem x117_36 {l0 l1 l2 : Value} {x : Int32} : X 117 36 [l0, l1, l2, .int x] st h Q ↔ X 117 37 [l0, l1, l2, .int x] (.int x :: st) h Q := X_n mC_117 dX7_soundFromBed_36 rfl
theorem x117_37 {b : Nat} {a0 : Int32} : X 117 37 L [.int a0, .ref b] h Q ↔ hS h b = (1, 0) ∧ X 13 0 [.ref b, .int a0] [] h (fun r h' => X 117 40 L (pv r []) h' Q) := X_virt (as := [.int a0]) (n := 1) (ml := 2) (ck := 0) mC_117 dX7_soundFromBed_37 (by unfold cOk; decide +kernel) ⟨rfl, rfl, by decide, Nat.le_of_ble_eq_true rfl⟩
theorem x117_40 {x : Int32} : X 117 40 L (.int x :: st) h Q ↔ if x = 0 then X 117 66 L st h Q else X 117 43 L st h Q := X_zeq mC_117 dX7_soundFromBed_40 (by decide)
theorem x117_43 {l1 l2 l3 : Value} {x : Nat} : X 117 43 [.ref x, l1, l2, l3] st h Q ↔ X 117 44 [.ref x, l1, l2, l3] (.ref x :: st) h Q := X_n mC_117 dX7_soundFromBed_43 rfl
theorem x117_44 {a : Nat} : X 117 44 L (.ref a :: st) h Q ↔ (hS h a = (1, 7) ∧ hR h a 8 ≠ 0) ∧ X 117 47 L (.ref (hR h a 8) :: st) h Q := X_getR mC_117 dX7_soundFromBed_44 (by decide +kernel)
theorem x117_47 {l0 l1 l2 : Value} {x : Int32} : X 117 47 [l0, l1, l2, .int x] st h Q ↔ X 117 48 [l0, l1, l2, .int x] (.int x :: st) h Q := X_n mC_117 dX7_soundFromBed_47 rfl
theorem x117_48 {l0 l1 l3 : Value} {x : Int32} : X 117 48 [l0, l1, .int x, l3] st h Q ↔ X 117 49 [l0, l1, .int x, l3] (.int x :: st) h Q := X_n mC_117 dX7_soundFromBed_48 rfl
theorem x117_49 {l1 l2 l3 : Value} {x : Nat} : X 117 49 [.ref x, l1, l2, l3] st h Q ↔ X 117 50 [.ref x, l1, l2, l3] (.ref x :: st) h Q := X_n mC_117 dX7_soundFromBed_49 rfl
theorem x117_50 {a : Nat} : X 117 50 L (.ref a :: st) h Q ↔ (hS h a = (1, 7) ∧ hR h a 6 ≠ 0) ∧ X 117 53 L (.ref (hR h a 6) :: st) h Q := X_getR mC_117 dX7_soundFromBed_50 (by decide +kernel)
theorem x117_53 {l1 l2 l3 : Value} {x : Nat} : X 117 53 [.ref x, l1, l2, l3] st h Q ↔ X 117 54 [.ref x, l1, l2, l3] (.ref x :: st) h Q := X_n mC_117 dX7_soundFromBed_53 rfl
theorem x117_54 {a : Nat} : X 117 54 L (.ref a :: st) h Q ↔ (hS h a = (1, 7) ∧ hR h a 6 ≠ 0) ∧ X 117 57 L (.ref (hR h a 6) :: st) h Q := X_getR mC_117 dX7_soundFromBed_54 (by decide +kernel)
theorem x117_57 {a : Nat} : X 117 57 L (.ref a :: st) h Q ↔ hS h a = (1, 1) ∧ X 117 60 L (.int (hI h a 2) :: st) h Q := X_getI mC_117 dX7_soundFromBed_57 (by decide +kernel)
theorem x117_60 {b : Nat} {a0 : Int32} {a1 : Int32} {a2 : Nat} {a3 : Int32} : X 117 60 L [.int a3, .ref a2, .int a1, .int a0, .ref b] h Q ↔ hS h b = (1, 0) ∧ X 23 0 [.ref b, .int a0, .int a1, .ref a2, .int a3, .null] [] h (fun r h' => X 117 63 L (pv r []) h' Q) := X_virt (as := [.int a0, .int a1, .ref a2, .int a3]) (n := 4) (ml := 6) (ck := 0) mC_117 dX7_soundFromBed_60 (by unfold cOk; decide +kernel) ⟨rfl, rfl, by decide, Nat.le_of_ble_eq_true rfl⟩
theorem x117_63 : X 117 63 L st h Q ↔ X 117 67 L st h Q := X_goto mC_117 dX7_soundFromBed_63 (by decide)
theorem x117_66 : X 117 66 L st h Q ↔ X 117 67 L (.int 0 :: st) h Q := X_n mC_117 dX7_soundFromBed_66 rfl
theorem x117_67 {v : Int32} : X 117 67 L [.int v] h Q ↔ Q (some (.int v)) h := X_ret mC_117 dX7_soundFromBed_67 (by decide +kernel)
theorem mC_118 : mC 118 = cX7_partInLowestTerms := rfl
theorem x118_0 {l0 l1 l3 l4 : Value} {x : Int32} : X 118 0 [l0, l1, .int x, l3, l4] st h Q ↔ X 118 1 [l0, l1, .int x, l3, l4] (.int x :: st) h Q := X_n mC_118 dX7_partInLowestTerms_0 rfl
theorem x118_1 {x : Int32} : X 118 1 L (.int x :: st) h Q ↔ if x = 0 then X 118 4 L st h Q else X 118 8 L st h Q := X_zne mC_118 dX7_partInLowestTerms_1 (by decide)
theorem x118_4 {l1 l2 l3 l4 : Value} {x : Int32} : X 118 4 [.int x, l1, l2, l3, l4] st h Q ↔ X 118 5 [.int x, l1, l2, l3, l4] (.int x :: st) h Q := X_n mC_118 dX7_partInLowestTerms_4 rfl
theorem x118_5 : X 118 5 L st h Q ↔ X 118 9 L st h Q := X_goto mC_118 dX7_partInLowestTerms_5 (by decide)
theorem x118_8 {l0 l2 l3 l4 : Value} {x : Int32} : X 118 8 [l0, .int x, l2, l3, l4] st h Q ↔ X 118 9 [l0, .int x, l2, l3, l4] (.int x :: st) h Q := X_n mC_118 dX7_partInLowestTerms_8 rfl
theorem x118_9 {l0 l1 l2 l3 l4 : Value} {x : Int32} : X 118 9 [l0, l1, l2, l3, l4] (.int x :: st) h Q ↔ c1 l2 = true ∧ X 118 10 [l0, l1, l2, .int x, l4] st h Q := X_sto (kk := 3) (pc' := 10) (w := .int x) mC_118 dX7_partInLowestTerms_9 rfl (Nat.le_of_ble_eq_true rfl) rfl
theorem x118_10 {l0 l2 l3 l4 : Value} {x : Int32} : X 118 10 [l0, .int x, l2, l3, l4] st h Q ↔ X 118 11 [l0, .int x, l2, l3, l4] (.int x :: st) h Q := X_n mC_118 dX7_partInLowestTerms_10 rfl
theorem x118_11 {l0 l1 l2 l3 l4 : Value} {x : Int32} : X 118 11 [l0, l1, l2, l3, l4] (.int x :: st) h Q ↔ c1 l3 = true ∧ X 118 13 [l0, l1, l2, l3, .int x] st h Q := X_sto (kk := 4) (pc' := 13) (w := .int x) mC_118 dX7_partInLowestTerms_11 rfl (Nat.le_of_ble_eq_true rfl) rfl
theorem x118_13 {l0 l1 l2 l3 : Value} {x : Int32} : X 118 13 [l0, l1, l2, l3, .int x] st h Q ↔ X 118 15 [l0, l1, l2, l3, .int x] (.int x :: st) h Q := X_n mC_118 dX7_partInLowestTerms_13 rfl
theorem x118_15 : X 118 15 L st h Q ↔ X 118 16 L (.int 1 :: st) h Q := X_n mC_118 dX7_partInLowestTerms_15 rfl
theorem x118_16 {x y : Int32} : X 118 16 L (.int y :: .int x :: st) h Q ↔ if y < x then X 118 19 L st h Q else X 118 44 L st h Q := X_ile mC_118 dX7_partInLowestTerms_16 (by decide)
theorem x118_19 {l0 l2 l3 l4 : Value} {x : Int32} : X 118 19 [l0, .int x, l2, l3, l4] st h Q ↔ X 118 20 [l0, .int x, l2, l3, l4] (.int x :: st) h Q := X_n mC_118 dX7_partInLowestTerms_19 rfl
theorem x118_20 {l0 l1 l2 l3 : Value} {x : Int32} : X 118 20 [l0, l1, l2, l3, .int x] st h Q ↔ X 118 22 [l0, l1, l2, l3, .int x] (.int x :: st) h Q := X_n mC_118 dX7_partInLowestTerms_20 rfl
theorem x118_22 {x y : Int32} : X 118 22 L (.int y :: .int x :: st) h Q ↔ (¬ y = 0) ∧ X 118 23 L (.int (x - x / y * y) :: st) h Q := X_gd mC_118 dX7_partInLowestTerms_22 rfl
theorem x118_23 {x : Int32} : X 118 23 L (.int x :: st) h Q ↔ if x = 0 then X 118 26 L st h Q else X 118 38 L st h Q := X_zne mC_118 dX7_partInLowestTerms_23 (by decide)
theorem x118_26 {l1 l2 l3 l4 : Value} {x : Int32} : X 118 26 [.int x, l1, l2, l3, l4] st h Q ↔ X 118 27 [.int x, l1, l2, l3, l4] (.int x :: st) h Q := X_n mC_118 dX7_partInLowestTerms_26 rfl
theorem x118_27 {l0 l1 l2 l3 : Value} {x : Int32} : X 118 27 [l0, l1, l2, l3, .int x] st h Q ↔ X 118 29 [l0, l1, l2, l3, .int x] (.int x :: st) h Q := X_n mC_118 dX7_partInLowestTerms_27 rfl
theorem x118_29 {x y : Int32} : X 118 29 L (.int y :: .int x :: st) h Q ↔ (¬ y = 0) ∧ X 118 30 L (.int (x - x / y * y) :: st) h Q := X_gd mC_118 dX7_partInLowestTerms_29 rfl
theorem x118_30 {x : Int32} : X 118 30 L (.int x :: st) h Q ↔ if x = 0 then X 118 33 L st h Q else X 118 38 L st h Q := X_zne mC_118 dX7_partInLowestTerms_30 (by decide)
theorem x118_33 {l0 l1 l2 l4 : Value} {x : Int32} : X 118 33 [l0, l1, l2, .int x, l4] st h Q ↔ X 118 34 [l0, l1, l2, .int x, l4] (.int x :: st) h Q := X_n mC_118 dX7_partInLowestTerms_33 rfl
theorem x118_34 {l0 l1 l2 l3 : Value} {x : Int32} : X 118 34 [l0, l1, l2, l3, .int x] st h Q ↔ X 118 36 [l0, l1, l2, l3, .int x] (.int x :: st) h Q := X_n mC_118 dX7_partInLowestTerms_34 rfl
theorem x118_36 {x y : Int32} : X 118 36 L (.int y :: .int x :: st) h Q ↔ (¬ y = 0) ∧ X 118 37 L (.int (x / y) :: st) h Q := X_gd mC_118 dX7_partInLowestTerms_36 rfl
theorem x118_37 {v : Int32} : X 118 37 L [.int v] h Q ↔ Q (some (.int v)) h := X_ret mC_118 dX7_partInLowestTerms_37 (by decide +kernel)
theorem x118_38 {l0 l1 l2 l3 : Value} {x : Int32} : X 118 38 [l0, l1, l2, l3, .int x] st h Q ↔ c1 l3 = true ∧ X 118 41 [l0, l1, l2, l3, .int (x + (-1))] st h Q := X_inc (pc' := 41) (x := x) mC_118 dX7_partInLowestTerms_38 rfl rfl rfl
theorem x118_41 : X 118 41 L st h Q ↔ X 118 13 L st h Q := X_goto mC_118 dX7_partInLowestTerms_41 (by decide)
theorem x118_44 {l0 l1 l2 l4 : Value} {x : Int32} : X 118 44 [l0, l1, l2, .int x, l4] st h Q ↔ X 118 45 [l0, l1, l2, .int x, l4] (.int x :: st) h Q := X_n mC_118 dX7_partInLowestTerms_44 rfl
theorem x118_45 {v : Int32} : X 118 45 L [.int v] h Q ↔ Q (some (.int v)) h := X_ret mC_118 dX7_partInLowestTerms_45 (by decide +kernel)
end XS
